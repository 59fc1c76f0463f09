/-! the class's world stands for the state T -/
def rx_s (I : Nat → Nat → Int32) (T : ih_TT) : Prop := ∀ s, s < 8 → I (2 + 2 * s) 1 = (if (T 1 s).toInt < 0 then nI 1 else nI 0) ∧ (¬ (T 1 s).toInt < 0 → I (2 + 2 * s) 2 = T 1 s) ∧ I (2 + 2 * s) 3 = T 2 s ∧ ∀ j, j < 60 → I (3 + 2 * s) j = T 3 (60 * s + j)
def rx_k (I : Nat → Nat → Int32) (T : ih_TT) : Prop := ∀ k, k < 12 → (∀ a, a < 6 → I (20 + 2 * k) a = T 4 (7 * k + a)) ∧ I (19 + 2 * k) 1 = T 4 (7 * k + 6)
def rx_o (I : Nat → Nat → Int32) (T : ih_TT) : Prop := I 46 3 = T 0 7 ∧ ∀ j, j < 9 → I 47 j = T 5 j
def rx_t (I : Nat → Nat → Int32) (T : ih_TT) : Prop := ∀ t, t < 2 → I 54 t = T 9 t
def rx_a (I : Nat → Nat → Int32) (T : ih_TT) : Prop := I 60 1 = T 0 21 ∧ ∀ i, i < 16 → I 61 i = T 13 i
def rx_b (I : Nat → Nat → Int32) : Prop := ∀ s, s < 24 → ∀ a, a < 9 → I 44 (s * 9 + a) = (if ih_may s a = true then nI (ih_nx s a) else -1000000) ∧ I 45 (s * 9 + a) = (if ih_may s a = true then nI (ih_rn s a) else -1000000)
/-- WIN at the begin of the halves that are known -/
def rx_m (I : Nat → Nat → Int32) (T : ih_TT) : Prop := ∃ kh : Nat, kh ≤ 5 ∧ I 53 4 = nI kh ∧ (∀ L, L < 19 → I 55 L = nI (ih_st (ih_cg T) 0 L)) ∧ (0 < kh → ih_HT T ∧ ∀ h, h ≤ kh → ∀ L, L < 19 → I 55 (h * 19 + L) = nI (ih_st (ih_cg T) h L))
/-- the rows that change places -/
def rx_p (R : Nat → Nat → Option Nat) : Prop := ((R 46 5 = some 49 ∧ R 46 6 = some 50) ∨ (R 46 5 = some 50 ∧ R 46 6 = some 49)) ∧ ((R 46 7 = some 51 ∧ R 46 8 = some 52) ∨ (R 46 7 = some 52 ∧ R 46 8 = some 51)) ∧ ((R 53 5 = some 56 ∧ R 53 6 = some 57) ∨ (R 53 5 = some 57 ∧ R 53 6 = some 56))
def ih_RX (S : ih_Sg) (T : ih_TT) : Prop := ih_PX S ∧ rx_p S.2.2 ∧ S.1 0 8 = T 0 1 ∧ S.1 0 2 = T 0 5 ∧ rx_s S.1 T ∧ rx_k S.1 T ∧ rx_o S.1 T ∧ rx_t S.1 T ∧ rx_a S.1 T ∧ rx_b S.1 ∧ rx_m S.1 T
theorem rx_s_c {I J : Nat → Nat → Int32} {T U : ih_TT} (h : rx_s I T) (h1 : ∀ s, s < 8 → J (2 + 2 * s) = I (2 + 2 * s) ∧ J (3 + 2 * s) = I (3 + 2 * s)) (h2 : U 1 = T 1 ∧ U 2 = T 2 ∧ U 3 = T 3) : rx_s J U := by
  intro s hs
  obtain ⟨q1, q2⟩ := h1 s hs
  rw [q1, q2, h2.1, h2.2.1, h2.2.2]
  exact h s hs
theorem rx_k_c {I J : Nat → Nat → Int32} {T U : ih_TT} (h : rx_k I T) (h1 : ∀ s, s < 12 → J (19 + 2 * s) = I (19 + 2 * s) ∧ J (20 + 2 * s) = I (20 + 2 * s)) (h2 : U 4 = T 4) : rx_k J U := by
  intro s hs
  obtain ⟨q1, q2⟩ := h1 s hs
  rw [q1, q2, h2]
  exact h s hs
/-- the finding is told -/
theorem ih_RX_f {S : ih_Sg} {T : ih_TT} (h : ih_RX S T) (v : Int32) : ih_RX (ih_sI S 0 8 v) (ih_u2 T 0 1 v) := by
  obtain ⟨h1, h2, h3, h4, h5, h6, h7, h8, h9, h10, h11⟩ := h
  exact ⟨h1, h2, rfl, h4, rx_s_c h5 (fun s hs => ⟨ih_u2_row (by omega), ih_u2_row (by omega)⟩) ⟨rfl, rfl, rfl⟩, rx_k_c h6 (fun s hs => ⟨ih_u2_row (by omega), ih_u2_row (by omega)⟩) rfl, h7, h8, h9, h10, h11⟩
theorem ih_RX_fd {S : ih_Sg} {T : ih_TT} (h : ih_RX S T) (n : Nat) : ih_RX (ih_sI S 0 8 (nI n)) (ih_fd T n).2 := by
  have h1 := ih_RX_f h (nI n)
  have e : (ih_fd T n).2 = ih_u2 T 0 1 (nI n) := by
    show ih_u2 (ih_u2 T 0 1 (nI 0)) 0 1 (nI n) = _
    funext a b
    unfold ih_u2
    split <;> rfl
  rw [e]; exact h1
set_option maxHeartbeats 4000000 in
set_option maxRecDepth 100000 in
theorem c_X7_status (l : Launch) (w : ih_Wd) (S : ih_Sg) (T : ih_TT) (hX : ih_RX S T) (hI : ih_Inv T) : ih_Ci l yX7_status wsX7_status 0 w ih_shX [.ref (w.2.2 0)] S (fun r S' => r = T 0 1 ∧ ih_RX S' T) := by
  refine ih_bodyi (ret := some .int) rfl rfl (Nat.le_of_ble_eq_true rfl) ?_
  intro x A hA C
  have C : ih_Ok x w A cX7_status 1 RX7 wsX7_status (ih_rm 0) (some .int) := C
  show ih_Mw x w ih_shX A (ih_Qi x w ih_shX A _) 1 0 0 0 [(0, .ref (w.2.2 0))] [] S
  refine s_aload_n C 0 dX7_status_0 rfl ?_
  refine s_getI C 7 8 (by decide) rfl (by decide) rfl (fun _ h => List.mem_cons_of_mem _ (List.mem_append_right _ h)) (by decide) rfl (by decide +kernel) dX7_status_1 ?_
  exact s_ireturn C hA dX7_status_4 ⟨hX.2.2.1, hX⟩

set_option maxHeartbeats 4000000 in
set_option maxRecDepth 100000 in
theorem c_X7_behind (l : Launch) (w : ih_Wd) (S : ih_Sg) (T : ih_TT) (hX : ih_RX S T) (hI : ih_Inv T) (s a b : Int32) : ih_Ci l yX7_behind wsX7_behind 1 w ih_shX [.ref (w.2.2 0), .int s, .int a, .int b] S (fun r S' => r = sp_behind s a b ∧ ih_RX S' T) := by
  refine ih_bodyi (ret := some .int) rfl rfl (Nat.le_of_ble_eq_true rfl) ?_
  intro x A hA C
  have C : ih_Ok x w A cX7_behind 4 RX7 wsX7_behind (ih_rm 1) (some .int) := C
  show ih_Mw x w ih_shX A (ih_Qi x w ih_shX A _) 4 0 0 0 [(0, .ref (w.2.2 0)), (1, .int s), (2, .int a), (3, .int b)] [] S
  refine s_iload_n C 1 dX7_behind_0 rfl ?_
  refine s_iconst (v := nI 0) C dX7_behind_1 (by decide) ?_
  refine s_bipush (v := nI 23) C dX7_behind_2 (by decide) ?_
  refine s_callSi 3 C (c_X7_within _ w _ _ _ _ _) gX7_behind_X7_within rfl (by decide +kernel) (by decide) (by decide) rfl rfl (Nat.le_of_ble_eq_true rfl) dX7_behind_4 ?_
  rintro rw4 S2 ⟨hrw4, hSS⟩
  obtain rfl := hSS.symm
  rw [ih_t (by decide), ih_t (by decide)] at hrw4
  refine s_if_eq C 29 dX7_behind_7 (by decide) (fun h7 => ?_) (fun h7 => ?_)
  · replace h7 := ih_b0 hrw4 h7
    refine s_ldc (v := (-1000001)) C (by decide +kernel) dX7_behind_29 ?_
    exact s_ireturn C hA dX7_behind_31 (by rw [sp_behind, if_neg (by omega)]; exact ⟨rfl, hX⟩)
  · replace h7 := ih_b1 hrw4 h7
    refine s_iload_n C 2 dX7_behind_10 rfl ?_
    refine s_iconst (v := nI 0) C dX7_behind_11 (by decide) ?_
    refine s_bipush (v := nI 8) C dX7_behind_12 (by decide) ?_
    refine s_callSi 3 C (c_X7_within _ w _ _ _ _ _) gX7_behind_X7_within rfl (by decide +kernel) (by decide) (by decide) rfl rfl (Nat.le_of_ble_eq_true rfl) dX7_behind_14 ?_
    rintro rw14 S2 ⟨hrw14, hSS⟩
    obtain rfl := hSS.symm
    rw [ih_t (by decide), ih_t (by decide)] at hrw14
    refine s_if_eq C 29 dX7_behind_17 (by decide) (fun h17 => ?_) (fun h17 => ?_)
    · replace h17 := ih_b0 hrw14 h17
      refine s_ldc (v := (-1000001)) C (by decide +kernel) dX7_behind_29 ?_
      exact s_ireturn C hA dX7_behind_31 (by rw [sp_behind, if_neg (by omega)]; exact ⟨rfl, hX⟩)
    · replace h17 := ih_b1 hrw14 h17
      refine s_iload_n C 3 dX7_behind_20 rfl ?_
      refine s_iconst (v := nI 0) C dX7_behind_21 (by decide) ?_
      refine s_iconst (v := nI 1) C dX7_behind_22 (by decide) ?_
      refine s_callSi 3 C (c_X7_within _ w _ _ _ _ _) gX7_behind_X7_within rfl (by decide +kernel) (by decide) (by decide) rfl rfl (Nat.le_of_ble_eq_true rfl) dX7_behind_23 ?_
      rintro rw23 S2 ⟨hrw23, hSS⟩
      obtain rfl := hSS.symm
      rw [ih_t (by decide), ih_t (by decide)] at hrw23
      refine s_if_ne C 32 dX7_behind_26 (by decide) (fun h26 => ?_) (fun h26 => ?_)
      · replace h26 := ih_b1 hrw23 h26
        obtain ⟨sn, hsn, rfl, hsnt⟩ := ih_nat (a := s) h7.1
        obtain ⟨an, han, rfl, hant⟩ := ih_nat (a := a) h17.1
        have hp := hX.1
        refine s_iload_n C 3 dX7_behind_32 rfl ?_
        refine s_if_ne C 48 dX7_behind_33 (by decide) (fun h33 => ?_) (fun h33 => ?_)
        · refine s_aload_n C 0 dX7_behind_48 rfl ?_
          refine s_getR C 7 3 (hp _ _ _ rfl) (by decide) rfl (by decide) rfl (fun _ h => List.mem_cons_of_mem _ (List.mem_append_left _ (List.mem_append_right _ h))) (by decide) rfl (by decide +kernel) dX7_behind_49 ?_
          refine s_iload_n C 1 dX7_behind_52 rfl ?_
          refine s_iload_n C 2 dX7_behind_53 rfl ?_
          refine s_callVi 2 C (c_X1_runsOf _ w _ hX.1 sn an (by omega) (by omega)) gX7_behind_X1_runsOf rfl (by decide +kernel) (by decide) (by decide) (by decide) rfl (by decide) rfl rfl rfl (Nat.le_of_ble_eq_true rfl) dX7_behind_54 ?_
          rintro rr S2 ⟨hrr, hSS⟩
          obtain rfl := hSS.symm
          rw [(hX.2.2.2.2.2.2.2.2.2.1 sn (by omega) an (by omega)).2] at hrr
          exact s_ireturn C hA dX7_behind_57 (by rw [sp_behind, if_pos (by omega), ih_n_nI hsn, ih_n_nI han]; refine ⟨?_, hX⟩; rw [hrr]; (first | rw [if_pos h33] | rw [if_neg h33]))
        · refine s_aload_n C 0 dX7_behind_36 rfl ?_
          refine s_getR C 7 3 (hp _ _ _ rfl) (by decide) rfl (by decide) rfl (fun _ h => List.mem_cons_of_mem _ (List.mem_append_left _ (List.mem_append_right _ h))) (by decide) rfl (by decide +kernel) dX7_behind_37 ?_
          refine s_iload_n C 1 dX7_behind_40 rfl ?_
          refine s_iload_n C 2 dX7_behind_41 rfl ?_
          refine s_callVi 2 C (c_X1_standingAfter _ w _ hX.1 sn an (by omega) (by omega)) gX7_behind_X1_standingAfter rfl (by decide +kernel) (by decide) (by decide) (by decide) rfl (by decide) rfl rfl rfl (Nat.le_of_ble_eq_true rfl) dX7_behind_42 ?_
          rintro rr S2 ⟨hrr, hSS⟩
          obtain rfl := hSS.symm
          rw [(hX.2.2.2.2.2.2.2.2.2.1 sn (by omega) an (by omega)).1] at hrr
          refine s_goto C 57 dX7_behind_45 (by decide) ?_
          exact s_ireturn C hA dX7_behind_57 (by rw [sp_behind, if_pos (by omega), ih_n_nI hsn, ih_n_nI han]; refine ⟨?_, hX⟩; rw [hrr]; (first | rw [if_pos h33] | rw [if_neg h33]))
      · replace h26 := ih_b0 hrw23 h26
        refine s_ldc (v := (-1000001)) C (by decide +kernel) dX7_behind_29 ?_
        exact s_ireturn C hA dX7_behind_31 (by rw [sp_behind, if_neg (by omega)]; exact ⟨rfl, hX⟩)

set_option maxHeartbeats 4000000 in
set_option maxRecDepth 100000 in
theorem c_X7_trace (l : Launch) (w : ih_Wd) (S : ih_Sg) (T : ih_TT) (hX : ih_RX S T) (hI : ih_Inv T) (i : Int32) : ih_Ci l yX7_trace wsX7_trace 1 w ih_shX [.ref (w.2.2 0), .int i] S (fun r S' => r = sp_trace T i ∧ ih_RX S' T) := by
  refine ih_bodyi (ret := some .int) rfl rfl (Nat.le_of_ble_eq_true rfl) ?_
  intro x A hA C
  have C : ih_Ok x w A cX7_trace 2 RX7 wsX7_trace (ih_rm 1) (some .int) := C
  show ih_Mw x w ih_shX A (ih_Qi x w ih_shX A _) 2 0 0 0 [(0, .ref (w.2.2 0)), (1, .int i)] [] S
  have htd : ih_td T ≤ 16 := hI.2.2.2.2.2
  have hp := hX.1
  refine s_iload_n C 1 dX7_trace_0 rfl ?_
  refine s_iconst (v := nI 0) C dX7_trace_1 (by decide) ?_
  refine s_aload_n C 0 dX7_trace_2 rfl ?_
  refine s_getR C 7 7 (hp _ _ _ rfl) (by decide) rfl (by decide) rfl (fun _ h => List.mem_cons_of_mem _ (List.mem_append_left _ (List.mem_append_right _ h))) (by decide) rfl (by decide +kernel) dX7_trace_3 ?_
  refine s_getI C 0 1 (by decide) rfl (by decide) rfl (fun _ h => List.mem_cons_of_mem _ (List.mem_append_right _ h)) (by decide) rfl (by decide +kernel) dX7_trace_6 ?_
  refine s_toe (hX.2.2.2.2.2.2.2.2.1.1.trans hI.2.2.2.2.1) ?_
  refine s_iconst (v := nI 1) C dX7_trace_9 (by decide) ?_
  refine s_isub C dX7_trace_10  ?_
  refine s_callSi 3 C (c_X7_within _ w _ _ _ _ _) gX7_trace_X7_within rfl (by decide +kernel) (by decide) (by decide) rfl rfl (Nat.le_of_ble_eq_true rfl) dX7_trace_11 ?_
  rintro rw11 S2 ⟨hrw11, hSS⟩
  obtain rfl := hSS.symm
  rw [ih_t (by decide), ih_m1 (by omega)] at hrw11
  refine s_if_eq C 29 dX7_trace_14 (by decide) (fun h14 => ?_) (fun h14 => ?_)
  · replace h14 := ih_b0 hrw11 h14
    refine s_ldc (v := (-1000000)) C (by decide +kernel) dX7_trace_29 ?_
    exact s_ireturn C hA dX7_trace_31 (by rw [sp_trace, if_neg (by omega)]; exact ⟨rfl, hX⟩)
  · replace h14 := ih_b1 hrw11 h14
    obtain ⟨ik, hik, rfl, hikt⟩ := ih_nat (a := i) h14.1
    have hikb : ik < 16 := by omega
    refine s_aload_n C 0 dX7_trace_17 rfl ?_
    refine s_getR C 7 7 (hp _ _ _ rfl) (by decide) rfl (by decide) rfl (fun _ h => List.mem_cons_of_mem _ (List.mem_append_left _ (List.mem_append_right _ h))) (by decide) rfl (by decide +kernel) dX7_trace_18 ?_
    refine s_getR C 0 0 (hp _ _ _ rfl) (by decide) rfl (by decide) rfl (fun _ h => List.mem_cons_of_mem _ (List.mem_append_right _ h)) (by decide) rfl (by decide +kernel) dX7_trace_21 ?_
    refine s_iload_n C 1 dX7_trace_24 rfl ?_
    refine s_iaload C 16 (ik) rfl rfl (by omega) (by decide) (by decide) rfl dX7_trace_25 ?_
    refine s_toe (hX.2.2.2.2.2.2.2.2.1.2 ik (by omega)) ?_
    refine s_goto C 31 dX7_trace_26 (by decide) ?_
    exact s_ireturn C hA dX7_trace_31 (by rw [sp_trace, if_pos (by omega), ih_n_nI hik]; exact ⟨rfl, hX⟩)

