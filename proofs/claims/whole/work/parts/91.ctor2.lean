section IhLdcw
variable {x : ih_Cx} {w : ih_Wd} {sh : ih_Sh} {A : Nat → Prop} {Q : State → Prop} {cc : ByteArray} {nL : Nat} {own : String} {Ts : List Cond} {rm : Room} {ret : Option FieldType} {cells slots pc : Nat} {lv : List (Nat × Value)} {st : List Value} {S : ih_Sg}
theorem s_ldcw (C : ih_Ok x w A cc nL own Ts rm ret) {index : Nat} {v : Int32} (hc : Jvm.Cond.constant own index v ∈ Ts) (hd : decode cc pc = .ok (.ldc_w index, 3)) (k : ih_Mw x w sh A Q nL cells slots (pc + 3) lv (.int v :: st) S) : ih_Mw x w sh A Q nL cells slots pc lv st S := fun H locs ls hP hD hS hl => lv_ldcw C.1.1 C.1.2.1 C.1.2.2.2.1 (C.1.2.2.2.2 _ hc) hd (k H locs ls hP hD hS hl)
end IhLdcw
theorem ih_shr3 {s : Nat} (hs : s < 24) : nI s >>> (nI 3 &&& 31) = nI (s / 8) := by
  have : ∀ s, s < 24 → nI s >>> (nI 3 &&& 31) = nI (s / 8) := by decide +kernel
  exact this s hs
theorem ih_an4 {s : Nat} (hs : s < 8) : nI s &&& nI 4 = nI (s / 4 * 4) := by
  have : ∀ s, s < 8 → nI s &&& nI 4 = nI (s / 4 * 4) := by decide +kernel
  exact this s hs
theorem ih_an6 {s : Nat} (hs : s < 8) : nI s &&& nI 6 = nI (s / 2 * 2) := by
  have : ∀ s, s < 8 → nI s &&& nI 6 = nI (s / 2 * 2) := by decide +kernel
  exact this s hs
def ih_popq (q : Nat) : Nat := q % 2 + q / 2 % 2 + q / 4 % 2
set_option maxHeartbeats 4000000 in
set_option maxRecDepth 100000 in
theorem c_bitCount (l : Launch) (w : ih_Wd) (sh : ih_Sh) (S : ih_Sg) (q : Nat) (hq : q < 8) : ih_Ci l yJ6_bitCount_0f7a4 wsJ6_bitCount_0f7a4 0 w sh [.int (nI q)] S (fun r S' => r = nI (ih_popq q) ∧ S' = S) := by
  refine ih_bodyi (ret := some .int) rfl rfl (Nat.le_of_ble_eq_true rfl) ?_
  intro x A hA C
  have C : ih_Ok x w A cJ6_bitCount_0f7a4 1 RJ6 wsJ6_bitCount_0f7a4 (ih_rm 0) (some .int) := C
  show ih_Mw x w sh A (ih_Qi x w sh A _) 1 0 0 0 [(0, .int (nI q))] [] S
  refine s_iload_n C 0 dJ6_bitCount_0f7a4_0 rfl ?_
  refine s_iload_n C 0 dJ6_bitCount_0f7a4_1 rfl ?_
  refine s_iconst (v := nI 1) C dJ6_bitCount_0f7a4_2 (by decide) ?_
  refine s_iushr C dJ6_bitCount_0f7a4_3 rfl ?_
  refine s_ldcw (v := nI 1431655765) C (by decide +kernel) dJ6_bitCount_0f7a4_4 ?_
  refine s_iand C dJ6_bitCount_0f7a4_7 ?_
  refine s_isub C dJ6_bitCount_0f7a4_8  ?_
  refine s_topi (fun x0_1 ex0_1 => ?_)
  refine s_istore_n (lv' := [(0, .int x0_1)]) C dJ6_bitCount_0f7a4_9 rfl (by decide) rfl ?_
  refine s_iload_n C 0 dJ6_bitCount_0f7a4_10 rfl ?_
  refine s_ldcw (v := nI 858993459) C (by decide +kernel) dJ6_bitCount_0f7a4_11 ?_
  refine s_iand C dJ6_bitCount_0f7a4_14 ?_
  refine s_iload_n C 0 dJ6_bitCount_0f7a4_15 rfl ?_
  refine s_iconst (v := nI 2) C dJ6_bitCount_0f7a4_16 (by decide) ?_
  refine s_iushr C dJ6_bitCount_0f7a4_17 rfl ?_
  refine s_ldcw (v := nI 858993459) C (by decide +kernel) dJ6_bitCount_0f7a4_18 ?_
  refine s_iand C dJ6_bitCount_0f7a4_21 ?_
  refine s_iadd C dJ6_bitCount_0f7a4_22  ?_
  refine s_topi (fun x0_2 ex0_2 => ?_)
  refine s_istore_n (lv' := [(0, .int x0_2)]) C dJ6_bitCount_0f7a4_23 rfl (by decide) rfl ?_
  refine s_iload_n C 0 dJ6_bitCount_0f7a4_24 rfl ?_
  refine s_iload_n C 0 dJ6_bitCount_0f7a4_25 rfl ?_
  refine s_iconst (v := nI 4) C dJ6_bitCount_0f7a4_26 (by decide) ?_
  refine s_iushr C dJ6_bitCount_0f7a4_27 rfl ?_
  refine s_iadd C dJ6_bitCount_0f7a4_28  ?_
  refine s_ldcw (v := nI 252645135) C (by decide +kernel) dJ6_bitCount_0f7a4_29 ?_
  refine s_iand C dJ6_bitCount_0f7a4_32 ?_
  refine s_topi (fun x0_3 ex0_3 => ?_)
  refine s_istore_n (lv' := [(0, .int x0_3)]) C dJ6_bitCount_0f7a4_33 rfl (by decide) rfl ?_
  refine s_iload_n C 0 dJ6_bitCount_0f7a4_34 rfl ?_
  refine s_iload_n C 0 dJ6_bitCount_0f7a4_35 rfl ?_
  refine s_bipush (v := nI 8) C dJ6_bitCount_0f7a4_36 (by decide) ?_
  refine s_iushr C dJ6_bitCount_0f7a4_38 rfl ?_
  refine s_iadd C dJ6_bitCount_0f7a4_39  ?_
  refine s_topi (fun x0_4 ex0_4 => ?_)
  refine s_istore_n (lv' := [(0, .int x0_4)]) C dJ6_bitCount_0f7a4_40 rfl (by decide) rfl ?_
  refine s_iload_n C 0 dJ6_bitCount_0f7a4_41 rfl ?_
  refine s_iload_n C 0 dJ6_bitCount_0f7a4_42 rfl ?_
  refine s_bipush (v := nI 16) C dJ6_bitCount_0f7a4_43 (by decide) ?_
  refine s_iushr C dJ6_bitCount_0f7a4_45 rfl ?_
  refine s_iadd C dJ6_bitCount_0f7a4_46  ?_
  refine s_topi (fun x0_5 ex0_5 => ?_)
  refine s_istore_n (lv' := [(0, .int x0_5)]) C dJ6_bitCount_0f7a4_47 rfl (by decide) rfl ?_
  refine s_iload_n C 0 dJ6_bitCount_0f7a4_48 rfl ?_
  refine s_bipush (v := nI 63) C dJ6_bitCount_0f7a4_49 (by decide) ?_
  refine s_iand C dJ6_bitCount_0f7a4_51 ?_
  exact s_ireturn C hA dJ6_bitCount_0f7a4_52 ⟨(by subst ex0_1; subst ex0_2; subst ex0_3; subst ex0_4; subst ex0_5; revert hq; revert q; decide +kernel), rfl⟩

set_option maxHeartbeats 4000000 in
set_option maxRecDepth 100000 in
theorem c_X1_canStealS (l : Launch) (w : ih_Wd) (sh : ih_Sh) (S : ih_Sg) (s : Nat) (hs : s < 24) : ih_Ci l yX1_canSteal wsX1_canSteal 0 w sh [.int (nI s)] S (fun r S' => r = (if s % 4 = 1 then nI 1 else nI 0) ∧ S' = S) := by
  refine ih_bodyi (ret := some .boolean) rfl rfl (Nat.le_of_ble_eq_true rfl) ?_
  intro x A hA C
  have C : ih_Ok x w A cX1_canSteal 1 RX1 wsX1_canSteal (ih_rm 0) (some .boolean) := C
  show ih_Mw x w sh A (ih_Qi x w sh A _) 1 0 0 0 [(0, .int (nI s))] [] S
  refine s_iload_n C 0 dX1_canSteal_0 rfl ?_
  refine s_iconst (v := nI 3) C dX1_canSteal_1 (by decide) ?_
  refine s_iand C dX1_canSteal_2 ?_
  refine s_iconst (v := nI 1) C dX1_canSteal_3 (by decide) ?_
  refine s_icmp_ne C 11 dX1_canSteal_4 (by decide) (fun h4 => ?_) (fun h4 => ?_)
  · refine s_iconst (v := nI 0) C dX1_canSteal_11 (by decide) ?_
    exact s_zreturn C hA dX1_canSteal_12 (by decide) ⟨(by revert h4; revert hs; revert s; decide +kernel), rfl⟩
  · refine s_iconst (v := nI 1) C dX1_canSteal_7 (by decide) ?_
    refine s_goto C 12 dX1_canSteal_8 (by decide) ?_
    exact s_zreturn C hA dX1_canSteal_12 (by decide) ⟨(by revert h4; revert hs; revert s; decide +kernel), rfl⟩

set_option maxHeartbeats 4000000 in
set_option maxRecDepth 100000 in
theorem c_X1_menAfterWalk (l : Launch) (w : ih_Wd) (sh : ih_Sh) (S : ih_Sg) (s : Nat) (hs : s < 8) : ih_Ci l yX1_menAfterWalk wsX1_menAfterWalk 0 w sh [.int (nI s)] S (fun r S' => r = nI (ih_nx s 1 % 8) ∧ S' = S) := by
  refine ih_bodyi (ret := some .int) rfl rfl (Nat.le_of_ble_eq_true rfl) ?_
  intro x A hA C
  have C : ih_Ok x w A cX1_menAfterWalk 1 RX1 wsX1_menAfterWalk (ih_rm 0) (some .int) := C
  show ih_Mw x w sh A (ih_Qi x w sh A _) 1 0 0 0 [(0, .int (nI s))] [] S
  refine s_iload_n C 0 dX1_menAfterWalk_0 rfl ?_
  refine s_iconst (v := nI 1) C dX1_menAfterWalk_1 (by decide) ?_
  refine s_iand C dX1_menAfterWalk_2 ?_
  refine s_if_ne C 10 dX1_menAfterWalk_3 (by decide) (fun h3 => ?_) (fun h3 => ?_)
  · refine s_iload_n C 0 dX1_menAfterWalk_10 rfl ?_
    refine s_iconst (v := nI 2) C dX1_menAfterWalk_11 (by decide) ?_
    refine s_iand C dX1_menAfterWalk_12 ?_
    refine s_if_ne C 22 dX1_menAfterWalk_13 (by decide) (fun h13 => ?_) (fun h13 => ?_)
    · refine s_iload_n C 0 dX1_menAfterWalk_22 rfl ?_
      refine s_iconst (v := nI 4) C dX1_menAfterWalk_23 (by decide) ?_
      refine s_ior C dX1_menAfterWalk_24 ?_
      exact s_ireturn C hA dX1_menAfterWalk_25 ⟨(by revert h13; revert h3; revert hs; revert s; decide +kernel), rfl⟩
    · refine s_iload_n C 0 dX1_menAfterWalk_16 rfl ?_
      refine s_iconst (v := nI 2) C dX1_menAfterWalk_17 (by decide) ?_
      refine s_ior C dX1_menAfterWalk_18 ?_
      refine s_goto C 25 dX1_menAfterWalk_19 (by decide) ?_
      exact s_ireturn C hA dX1_menAfterWalk_25 ⟨(by revert h13; revert h3; revert hs; revert s; decide +kernel), rfl⟩
  · refine s_iload_n C 0 dX1_menAfterWalk_6 rfl ?_
    refine s_iconst (v := nI 1) C dX1_menAfterWalk_7 (by decide) ?_
    refine s_ior C dX1_menAfterWalk_8 ?_
    exact s_ireturn C hA dX1_menAfterWalk_9 ⟨(by revert h3; revert hs; revert s; decide +kernel), rfl⟩

set_option maxHeartbeats 4000000 in
set_option maxRecDepth 100000 in
theorem c_X1_menAfter_0 (l : Launch) (w : ih_Wd) (sh : ih_Sh) (S : ih_Sg) (s : Nat) (hs : s < 8) : ih_Ci l yX1_menAfter wsX1_menAfter 1 w sh [.int (nI s), .int (nI 0)] S (fun r S' => r = nI (ih_nx s 0 % 8) ∧ S' = S) := by
  refine ih_bodyi (ret := some .int) rfl rfl (Nat.le_of_ble_eq_true rfl) ?_
  intro x A hA C
  have C : ih_Ok x w A cX1_menAfter 2 RX1 wsX1_menAfter (ih_rm 1) (some .int) := C
  show ih_Mw x w sh A (ih_Qi x w sh A _) 2 0 0 0 [(0, .int (nI s)), (1, .int (nI 0))] [] S
  refine s_iload_n C 1 dX1_menAfter_0 rfl ?_
  refine s_tableOut C 96 dX1_menAfter_1 (by decide) (by decide) ?_
  refine s_iload_n C 0 dX1_menAfter_96 rfl ?_
  exact s_ireturn C hA dX1_menAfter_97 ⟨(by revert hs; revert s; decide +kernel), rfl⟩

set_option maxHeartbeats 4000000 in
set_option maxRecDepth 100000 in
theorem c_X1_menAfter_1 (l : Launch) (w : ih_Wd) (sh : ih_Sh) (S : ih_Sg) (s : Nat) (hs : s < 8) : ih_Ci l yX1_menAfter wsX1_menAfter 1 w sh [.int (nI s), .int (nI 1)] S (fun r S' => r = nI (ih_nx s 1 % 8) ∧ S' = S) := by
  refine ih_bodyi (ret := some .int) rfl rfl (Nat.le_of_ble_eq_true rfl) ?_
  intro x A hA C
  have C : ih_Ok x w A cX1_menAfter 2 RX1 wsX1_menAfter (ih_rm 1) (some .int) := C
  show ih_Mw x w sh A (ih_Qi x w sh A _) 2 0 0 0 [(0, .int (nI s)), (1, .int (nI 1))] [] S
  refine s_iload_n C 1 dX1_menAfter_0 rfl ?_
  refine s_tableIn (off := 47) C 48 dX1_menAfter_1 (by decide) (by decide) (by decide) (by decide) ?_
  refine s_iload_n C 0 dX1_menAfter_48 rfl ?_
  refine s_callSi 1 C (c_X1_menAfterWalk _ w _ _ s hs) gX1_menAfter_X1_menAfterWalk rfl (by decide +kernel) (by decide) (by decide) rfl rfl (Nat.le_of_ble_eq_true rfl) dX1_menAfter_49 ?_
  rintro rw_ S2 ⟨hrw_, hSS⟩
  obtain rfl := hSS.symm
  exact s_ireturn C hA dX1_menAfter_52 ⟨hrw_, rfl⟩

set_option maxHeartbeats 4000000 in
set_option maxRecDepth 100000 in
theorem c_X1_menAfter_2 (l : Launch) (w : ih_Wd) (sh : ih_Sh) (S : ih_Sg) (s : Nat) (hs : s < 8) : ih_Ci l yX1_menAfter wsX1_menAfter 1 w sh [.int (nI s), .int (nI 2)] S (fun r S' => r = nI (ih_nx s 2 % 8) ∧ S' = S) := by
  refine ih_bodyi (ret := some .int) rfl rfl (Nat.le_of_ble_eq_true rfl) ?_
  intro x A hA C
  have C : ih_Ok x w A cX1_menAfter 2 RX1 wsX1_menAfter (ih_rm 1) (some .int) := C
  show ih_Mw x w sh A (ih_Qi x w sh A _) 2 0 0 0 [(0, .int (nI s)), (1, .int (nI 2))] [] S
  refine s_iload_n C 1 dX1_menAfter_0 rfl ?_
  refine s_tableIn (off := 52) C 53 dX1_menAfter_1 (by decide) (by decide) (by decide) (by decide) ?_
  refine s_iload_n C 0 dX1_menAfter_53 rfl ?_
  refine s_iconst (v := nI 1) C dX1_menAfter_54 (by decide) ?_
  refine s_ishl C dX1_menAfter_55 ?_
  refine s_bipush (v := nI 7) C dX1_menAfter_56 (by decide) ?_
  refine s_iand C dX1_menAfter_58 ?_
  refine s_iconst (v := nI 1) C dX1_menAfter_59 (by decide) ?_
  refine s_ior C dX1_menAfter_60 ?_
  exact s_ireturn C hA dX1_menAfter_61 ⟨(by revert hs; revert s; decide +kernel), rfl⟩

set_option maxHeartbeats 4000000 in
set_option maxRecDepth 100000 in
theorem c_X1_menAfter_3 (l : Launch) (w : ih_Wd) (sh : ih_Sh) (S : ih_Sg) (s : Nat) (hs : s < 8) : ih_Ci l yX1_menAfter wsX1_menAfter 1 w sh [.int (nI s), .int (nI 3)] S (fun r S' => r = nI (ih_nx s 3 % 8) ∧ S' = S) := by
  refine ih_bodyi (ret := some .int) rfl rfl (Nat.le_of_ble_eq_true rfl) ?_
  intro x A hA C
  have C : ih_Ok x w A cX1_menAfter 2 RX1 wsX1_menAfter (ih_rm 1) (some .int) := C
  show ih_Mw x w sh A (ih_Qi x w sh A _) 2 0 0 0 [(0, .int (nI s)), (1, .int (nI 3))] [] S
  refine s_iload_n C 1 dX1_menAfter_0 rfl ?_
  refine s_tableIn (off := 61) C 62 dX1_menAfter_1 (by decide) (by decide) (by decide) (by decide) ?_
  refine s_iload_n C 0 dX1_menAfter_62 rfl ?_
  refine s_iconst (v := nI 1) C dX1_menAfter_63 (by decide) ?_
  refine s_iand C dX1_menAfter_64 ?_
  refine s_if_eq C 73 dX1_menAfter_65 (by decide) (fun h65 => ?_) (fun h65 => ?_)
  · refine s_iconst (v := nI 2) C dX1_menAfter_73 (by decide) ?_
    exact s_ireturn C hA dX1_menAfter_74 ⟨(by revert h65; revert hs; revert s; decide +kernel), rfl⟩
  · refine s_bipush (v := nI 6) C dX1_menAfter_68 (by decide) ?_
    refine s_goto C 74 dX1_menAfter_70 (by decide) ?_
    exact s_ireturn C hA dX1_menAfter_74 ⟨(by revert h65; revert hs; revert s; decide +kernel), rfl⟩

set_option maxHeartbeats 4000000 in
set_option maxRecDepth 100000 in
theorem c_X1_menAfter_4 (l : Launch) (w : ih_Wd) (sh : ih_Sh) (S : ih_Sg) (s : Nat) (hs : s < 8) : ih_Ci l yX1_menAfter wsX1_menAfter 1 w sh [.int (nI s), .int (nI 4)] S (fun r S' => r = nI (ih_nx s 4 % 8) ∧ S' = S) := by
  refine ih_bodyi (ret := some .int) rfl rfl (Nat.le_of_ble_eq_true rfl) ?_
  intro x A hA C
  have C : ih_Ok x w A cX1_menAfter 2 RX1 wsX1_menAfter (ih_rm 1) (some .int) := C
  show ih_Mw x w sh A (ih_Qi x w sh A _) 2 0 0 0 [(0, .int (nI s)), (1, .int (nI 4))] [] S
  refine s_iload_n C 1 dX1_menAfter_0 rfl ?_
  refine s_tableIn (off := 74) C 75 dX1_menAfter_1 (by decide) (by decide) (by decide) (by decide) ?_
  refine s_iconst (v := nI 4) C dX1_menAfter_75 (by decide) ?_
  exact s_ireturn C hA dX1_menAfter_76 ⟨(by revert hs; revert s; decide +kernel), rfl⟩

set_option maxHeartbeats 4000000 in
set_option maxRecDepth 100000 in
theorem c_X1_menAfter_5 (l : Launch) (w : ih_Wd) (sh : ih_Sh) (S : ih_Sg) (s : Nat) (hs : s < 8) : ih_Ci l yX1_menAfter wsX1_menAfter 1 w sh [.int (nI s), .int (nI 5)] S (fun r S' => r = nI (ih_nx s 5 % 8) ∧ S' = S) := by
  refine ih_bodyi (ret := some .int) rfl rfl (Nat.le_of_ble_eq_true rfl) ?_
  intro x A hA C
  have C : ih_Ok x w A cX1_menAfter 2 RX1 wsX1_menAfter (ih_rm 1) (some .int) := C
  show ih_Mw x w sh A (ih_Qi x w sh A _) 2 0 0 0 [(0, .int (nI s)), (1, .int (nI 5))] [] S
  refine s_iload_n C 1 dX1_menAfter_0 rfl ?_
  refine s_tableIn (off := 76) C 77 dX1_menAfter_1 (by decide) (by decide) (by decide) (by decide) ?_
  refine s_iconst (v := nI 0) C dX1_menAfter_77 (by decide) ?_
  exact s_ireturn C hA dX1_menAfter_78 ⟨(by revert hs; revert s; decide +kernel), rfl⟩

set_option maxHeartbeats 4000000 in
set_option maxRecDepth 100000 in
theorem c_X1_menAfter_6 (l : Launch) (w : ih_Wd) (sh : ih_Sh) (S : ih_Sg) (s : Nat) (hs : s < 8) : ih_Ci l yX1_menAfter wsX1_menAfter 1 w sh [.int (nI s), .int (nI 6)] S (fun r S' => r = nI (ih_nx s 6 % 8) ∧ S' = S) := by
  refine ih_bodyi (ret := some .int) rfl rfl (Nat.le_of_ble_eq_true rfl) ?_
  intro x A hA C
  have C : ih_Ok x w A cX1_menAfter 2 RX1 wsX1_menAfter (ih_rm 1) (some .int) := C
  show ih_Mw x w sh A (ih_Qi x w sh A _) 2 0 0 0 [(0, .int (nI s)), (1, .int (nI 6))] [] S
  refine s_iload_n C 1 dX1_menAfter_0 rfl ?_
  refine s_tableIn (off := 78) C 79 dX1_menAfter_1 (by decide) (by decide) (by decide) (by decide) ?_
  refine s_iload_n C 0 dX1_menAfter_79 rfl ?_
  refine s_iconst (v := nI 1) C dX1_menAfter_80 (by decide) ?_
  refine s_ishl C dX1_menAfter_81 ?_
  refine s_bipush (v := nI 7) C dX1_menAfter_82 (by decide) ?_
  refine s_iand C dX1_menAfter_84 ?_
  exact s_ireturn C hA dX1_menAfter_85 ⟨(by revert hs; revert s; decide +kernel), rfl⟩

set_option maxHeartbeats 4000000 in
set_option maxRecDepth 100000 in
theorem c_X1_menAfter_7 (l : Launch) (w : ih_Wd) (sh : ih_Sh) (S : ih_Sg) (s : Nat) (hs : s < 8) (hm : s % 4 = 1) : ih_Ci l yX1_menAfter wsX1_menAfter 1 w sh [.int (nI s), .int (nI 7)] S (fun r S' => r = nI (ih_nx s 7 % 8) ∧ S' = S) := by
  refine ih_bodyi (ret := some .int) rfl rfl (Nat.le_of_ble_eq_true rfl) ?_
  intro x A hA C
  have C : ih_Ok x w A cX1_menAfter 2 RX1 wsX1_menAfter (ih_rm 1) (some .int) := C
  show ih_Mw x w sh A (ih_Qi x w sh A _) 2 0 0 0 [(0, .int (nI s)), (1, .int (nI 7))] [] S
  refine s_iload_n C 1 dX1_menAfter_0 rfl ?_
  refine s_tableIn (off := 85) C 86 dX1_menAfter_1 (by decide) (by decide) (by decide) (by decide) ?_
  refine s_iload_n C 0 dX1_menAfter_86 rfl ?_
  refine s_iconst (v := nI 4) C dX1_menAfter_87 (by decide) ?_
  refine s_iand C dX1_menAfter_88 ?_
  refine s_iconst (v := nI 2) C dX1_menAfter_89 (by decide) ?_
  refine s_ior C dX1_menAfter_90 ?_
  exact s_ireturn C hA dX1_menAfter_91 ⟨(by revert hm; revert hs; revert s; decide +kernel), rfl⟩

set_option maxHeartbeats 4000000 in
set_option maxRecDepth 100000 in
theorem c_X1_menAfter_8 (l : Launch) (w : ih_Wd) (sh : ih_Sh) (S : ih_Sg) (s : Nat) (hs : s < 8) (hm : s % 4 = 1) : ih_Ci l yX1_menAfter wsX1_menAfter 1 w sh [.int (nI s), .int (nI 8)] S (fun r S' => r = nI (ih_nx s 8 % 8) ∧ S' = S) := by
  refine ih_bodyi (ret := some .int) rfl rfl (Nat.le_of_ble_eq_true rfl) ?_
  intro x A hA C
  have C : ih_Ok x w A cX1_menAfter 2 RX1 wsX1_menAfter (ih_rm 1) (some .int) := C
  show ih_Mw x w sh A (ih_Qi x w sh A _) 2 0 0 0 [(0, .int (nI s)), (1, .int (nI 8))] [] S
  refine s_iload_n C 1 dX1_menAfter_0 rfl ?_
  refine s_tableIn (off := 91) C 92 dX1_menAfter_1 (by decide) (by decide) (by decide) (by decide) ?_
  refine s_iload_n C 0 dX1_menAfter_92 rfl ?_
  refine s_iconst (v := nI 4) C dX1_menAfter_93 (by decide) ?_
  refine s_iand C dX1_menAfter_94 ?_
  exact s_ireturn C hA dX1_menAfter_95 ⟨(by revert hm; revert hs; revert s; decide +kernel), rfl⟩

set_option maxHeartbeats 4000000 in
set_option maxRecDepth 100000 in
theorem c_X1_menHome_0 (l : Launch) (w : ih_Wd) (sh : ih_Sh) (S : ih_Sg) (s : Nat) (hs : s < 8) : ih_Ci l yX1_menHome wsX1_menHome 1 w sh [.int (nI s), .int (nI 0)] S (fun r S' => r = nI (ih_rn s 0) ∧ S' = S) := by
  refine ih_bodyi (ret := some .int) rfl rfl (Nat.le_of_ble_eq_true rfl) ?_
  intro x A hA C
  have C : ih_Ok x w A cX1_menHome 2 RX1 wsX1_menHome (ih_rm 1) (some .int) := C
  show ih_Mw x w sh A (ih_Qi x w sh A _) 2 0 0 0 [(0, .int (nI s)), (1, .int (nI 0))] [] S
  refine s_iload_n C 1 dX1_menHome_0 rfl ?_
  refine s_tableOut C 79 dX1_menHome_1 (by decide) (by decide) ?_
  refine s_iconst (v := nI 0) C dX1_menHome_79 (by decide) ?_
  exact s_ireturn C hA dX1_menHome_80 ⟨(by revert hs; revert s; decide +kernel), rfl⟩

set_option maxHeartbeats 4000000 in
set_option maxRecDepth 100000 in
theorem c_X1_menHome_1 (l : Launch) (w : ih_Wd) (sh : ih_Sh) (S : ih_Sg) (s : Nat) (hs : s < 8) : ih_Ci l yX1_menHome wsX1_menHome 1 w sh [.int (nI s), .int (nI 1)] S (fun r S' => r = nI (ih_rn s 1) ∧ S' = S) := by
  refine ih_bodyi (ret := some .int) rfl rfl (Nat.le_of_ble_eq_true rfl) ?_
  intro x A hA C
  have C : ih_Ok x w A cX1_menHome 2 RX1 wsX1_menHome (ih_rm 1) (some .int) := C
  show ih_Mw x w sh A (ih_Qi x w sh A _) 2 0 0 0 [(0, .int (nI s)), (1, .int (nI 1))] [] S
  refine s_iload_n C 1 dX1_menHome_0 rfl ?_
  refine s_tableIn (off := 39) C 40 dX1_menHome_1 (by decide) (by decide) (by decide) (by decide) ?_
  refine s_iload_n C 0 dX1_menHome_40 rfl ?_
  refine s_bipush (v := nI 7) C dX1_menHome_41 (by decide) ?_
  refine s_icmp_neN 50 C dX1_menHome_43 (by decide) (by omega) (by omega) (fun h43 => ?_) (fun h43 => ?_)
  · refine s_iconst (v := nI 0) C dX1_menHome_50 (by decide) ?_
    exact s_ireturn C hA dX1_menHome_51 ⟨(by revert h43; revert hs; revert s; decide +kernel), rfl⟩
  · refine s_iconst (v := nI 1) C dX1_menHome_46 (by decide) ?_
    refine s_goto C 51 dX1_menHome_47 (by decide) ?_
    exact s_ireturn C hA dX1_menHome_51 ⟨(by revert h43; revert hs; revert s; decide +kernel), rfl⟩

set_option maxHeartbeats 4000000 in
set_option maxRecDepth 100000 in
theorem c_X1_menHome_2 (l : Launch) (w : ih_Wd) (sh : ih_Sh) (S : ih_Sg) (s : Nat) (hs : s < 8) : ih_Ci l yX1_menHome wsX1_menHome 1 w sh [.int (nI s), .int (nI 2)] S (fun r S' => r = nI (ih_rn s 2) ∧ S' = S) := by
  refine ih_bodyi (ret := some .int) rfl rfl (Nat.le_of_ble_eq_true rfl) ?_
  intro x A hA C
  have C : ih_Ok x w A cX1_menHome 2 RX1 wsX1_menHome (ih_rm 1) (some .int) := C
  show ih_Mw x w sh A (ih_Qi x w sh A _) 2 0 0 0 [(0, .int (nI s)), (1, .int (nI 2))] [] S
  refine s_iload_n C 1 dX1_menHome_0 rfl ?_
  refine s_tableIn (off := 51) C 52 dX1_menHome_1 (by decide) (by decide) (by decide) (by decide) ?_
  refine s_iload_n C 0 dX1_menHome_52 rfl ?_
  refine s_iconst (v := nI 4) C dX1_menHome_53 (by decide) ?_
  refine s_iand C dX1_menHome_54 ?_
  refine s_toe (ih_an4 hs) ?_
  refine s_callSi 1 C (c_bitCount _ w _ _ (s / 4 * 4) (by omega)) gX1_menHome_J6_bitCount_0f7a4 rfl (by decide +kernel) (by decide) (by decide) rfl rfl (Nat.le_of_ble_eq_true rfl) dX1_menHome_55 ?_
  rintro rb S2 ⟨hrb, hSS⟩
  obtain rfl := hSS.symm
  subst hrb
  exact s_ireturn C hA dX1_menHome_58 ⟨(by revert hs; revert s; decide +kernel), rfl⟩

set_option maxHeartbeats 4000000 in
set_option maxRecDepth 100000 in
theorem c_X1_menHome_3 (l : Launch) (w : ih_Wd) (sh : ih_Sh) (S : ih_Sg) (s : Nat) (hs : s < 8) : ih_Ci l yX1_menHome wsX1_menHome 1 w sh [.int (nI s), .int (nI 3)] S (fun r S' => r = nI (ih_rn s 3) ∧ S' = S) := by
  refine ih_bodyi (ret := some .int) rfl rfl (Nat.le_of_ble_eq_true rfl) ?_
  intro x A hA C
  have C : ih_Ok x w A cX1_menHome 2 RX1 wsX1_menHome (ih_rm 1) (some .int) := C
  show ih_Mw x w sh A (ih_Qi x w sh A _) 2 0 0 0 [(0, .int (nI s)), (1, .int (nI 3))] [] S
  refine s_iload_n C 1 dX1_menHome_0 rfl ?_
  refine s_tableIn (off := 58) C 59 dX1_menHome_1 (by decide) (by decide) (by decide) (by decide) ?_
  refine s_iload_n C 0 dX1_menHome_59 rfl ?_
  refine s_bipush (v := nI 6) C dX1_menHome_60 (by decide) ?_
  refine s_iand C dX1_menHome_62 ?_
  refine s_toe (ih_an6 hs) ?_
  refine s_callSi 1 C (c_bitCount _ w _ _ (s / 2 * 2) (by omega)) gX1_menHome_J6_bitCount_0f7a4 rfl (by decide +kernel) (by decide) (by decide) rfl rfl (Nat.le_of_ble_eq_true rfl) dX1_menHome_63 ?_
  rintro rb S2 ⟨hrb, hSS⟩
  obtain rfl := hSS.symm
  subst hrb
  exact s_ireturn C hA dX1_menHome_66 ⟨(by revert hs; revert s; decide +kernel), rfl⟩

set_option maxHeartbeats 4000000 in
set_option maxRecDepth 100000 in
theorem c_X1_menHome_4 (l : Launch) (w : ih_Wd) (sh : ih_Sh) (S : ih_Sg) (s : Nat) (hs : s < 8) : ih_Ci l yX1_menHome wsX1_menHome 1 w sh [.int (nI s), .int (nI 4)] S (fun r S' => r = nI (ih_rn s 4) ∧ S' = S) := by
  refine ih_bodyi (ret := some .int) rfl rfl (Nat.le_of_ble_eq_true rfl) ?_
  intro x A hA C
  have C : ih_Ok x w A cX1_menHome 2 RX1 wsX1_menHome (ih_rm 1) (some .int) := C
  show ih_Mw x w sh A (ih_Qi x w sh A _) 2 0 0 0 [(0, .int (nI s)), (1, .int (nI 4))] [] S
  refine s_iload_n C 1 dX1_menHome_0 rfl ?_
  refine s_tableIn (off := 66) C 67 dX1_menHome_1 (by decide) (by decide) (by decide) (by decide) ?_
  refine s_iload_n C 0 dX1_menHome_67 rfl ?_
  refine s_callSi 1 C (c_bitCount _ w _ _ (s) (by omega)) gX1_menHome_J6_bitCount_0f7a4 rfl (by decide +kernel) (by decide) (by decide) rfl rfl (Nat.le_of_ble_eq_true rfl) dX1_menHome_68 ?_
  rintro rb S2 ⟨hrb, hSS⟩
  obtain rfl := hSS.symm
  subst hrb
  exact s_ireturn C hA dX1_menHome_71 ⟨(by revert hs; revert s; decide +kernel), rfl⟩

set_option maxHeartbeats 4000000 in
set_option maxRecDepth 100000 in
theorem c_X1_menHome_5 (l : Launch) (w : ih_Wd) (sh : ih_Sh) (S : ih_Sg) (s : Nat) (hs : s < 8) : ih_Ci l yX1_menHome wsX1_menHome 1 w sh [.int (nI s), .int (nI 5)] S (fun r S' => r = nI (ih_rn s 5) ∧ S' = S) := by
  refine ih_bodyi (ret := some .int) rfl rfl (Nat.le_of_ble_eq_true rfl) ?_
  intro x A hA C
  have C : ih_Ok x w A cX1_menHome 2 RX1 wsX1_menHome (ih_rm 1) (some .int) := C
  show ih_Mw x w sh A (ih_Qi x w sh A _) 2 0 0 0 [(0, .int (nI s)), (1, .int (nI 5))] [] S
  refine s_iload_n C 1 dX1_menHome_0 rfl ?_
  refine s_tableIn (off := 71) C 72 dX1_menHome_1 (by decide) (by decide) (by decide) (by decide) ?_
  refine s_iload_n C 0 dX1_menHome_72 rfl ?_
  refine s_callSi 1 C (c_bitCount _ w _ _ (s) (by omega)) gX1_menHome_J6_bitCount_0f7a4 rfl (by decide +kernel) (by decide) (by decide) rfl rfl (Nat.le_of_ble_eq_true rfl) dX1_menHome_73 ?_
  rintro rb S2 ⟨hrb, hSS⟩
  obtain rfl := hSS.symm
  subst hrb
  refine s_iconst (v := nI 1) C dX1_menHome_76 (by decide) ?_
  refine s_iaddN C dX1_menHome_77 ?_
  exact s_ireturn C hA dX1_menHome_78 ⟨(by revert hs; revert s; decide +kernel), rfl⟩

set_option maxHeartbeats 4000000 in
set_option maxRecDepth 100000 in
theorem c_X1_menHome_6 (l : Launch) (w : ih_Wd) (sh : ih_Sh) (S : ih_Sg) (s : Nat) (hs : s < 8) : ih_Ci l yX1_menHome wsX1_menHome 1 w sh [.int (nI s), .int (nI 6)] S (fun r S' => r = nI (ih_rn s 6) ∧ S' = S) := by
  refine ih_bodyi (ret := some .int) rfl rfl (Nat.le_of_ble_eq_true rfl) ?_
  intro x A hA C
  have C : ih_Ok x w A cX1_menHome 2 RX1 wsX1_menHome (ih_rm 1) (some .int) := C
  show ih_Mw x w sh A (ih_Qi x w sh A _) 2 0 0 0 [(0, .int (nI s)), (1, .int (nI 6))] [] S
  refine s_iload_n C 1 dX1_menHome_0 rfl ?_
  refine s_tableIn (off := 51) C 52 dX1_menHome_1 (by decide) (by decide) (by decide) (by decide) ?_
  refine s_iload_n C 0 dX1_menHome_52 rfl ?_
  refine s_iconst (v := nI 4) C dX1_menHome_53 (by decide) ?_
  refine s_iand C dX1_menHome_54 ?_
  refine s_toe (ih_an4 hs) ?_
  refine s_callSi 1 C (c_bitCount _ w _ _ (s / 4 * 4) (by omega)) gX1_menHome_J6_bitCount_0f7a4 rfl (by decide +kernel) (by decide) (by decide) rfl rfl (Nat.le_of_ble_eq_true rfl) dX1_menHome_55 ?_
  rintro rb S2 ⟨hrb, hSS⟩
  obtain rfl := hSS.symm
  subst hrb
  exact s_ireturn C hA dX1_menHome_58 ⟨(by revert hs; revert s; decide +kernel), rfl⟩

set_option maxHeartbeats 4000000 in
set_option maxRecDepth 100000 in
theorem c_X1_menHome_7 (l : Launch) (w : ih_Wd) (sh : ih_Sh) (S : ih_Sg) (s : Nat) (hs : s < 8) (hm : s % 4 = 1) : ih_Ci l yX1_menHome wsX1_menHome 1 w sh [.int (nI s), .int (nI 7)] S (fun r S' => r = nI (ih_rn s 7) ∧ S' = S) := by
  refine ih_bodyi (ret := some .int) rfl rfl (Nat.le_of_ble_eq_true rfl) ?_
  intro x A hA C
  have C : ih_Ok x w A cX1_menHome 2 RX1 wsX1_menHome (ih_rm 1) (some .int) := C
  show ih_Mw x w sh A (ih_Qi x w sh A _) 2 0 0 0 [(0, .int (nI s)), (1, .int (nI 7))] [] S
  refine s_iload_n C 1 dX1_menHome_0 rfl ?_
  refine s_tableOut C 79 dX1_menHome_1 (by decide) (by decide) ?_
  refine s_iconst (v := nI 0) C dX1_menHome_79 (by decide) ?_
  exact s_ireturn C hA dX1_menHome_80 ⟨(by revert hm; revert hs; revert s; decide +kernel), rfl⟩

set_option maxHeartbeats 4000000 in
set_option maxRecDepth 100000 in
theorem c_X1_menHome_8 (l : Launch) (w : ih_Wd) (sh : ih_Sh) (S : ih_Sg) (s : Nat) (hs : s < 8) (hm : s % 4 = 1) : ih_Ci l yX1_menHome wsX1_menHome 1 w sh [.int (nI s), .int (nI 8)] S (fun r S' => r = nI (ih_rn s 8) ∧ S' = S) := by
  refine ih_bodyi (ret := some .int) rfl rfl (Nat.le_of_ble_eq_true rfl) ?_
  intro x A hA C
  have C : ih_Ok x w A cX1_menHome 2 RX1 wsX1_menHome (ih_rm 1) (some .int) := C
  show ih_Mw x w sh A (ih_Qi x w sh A _) 2 0 0 0 [(0, .int (nI s)), (1, .int (nI 8))] [] S
  refine s_iload_n C 1 dX1_menHome_0 rfl ?_
  refine s_tableOut C 79 dX1_menHome_1 (by decide) (by decide) ?_
  refine s_iconst (v := nI 0) C dX1_menHome_79 (by decide) ?_
  exact s_ireturn C hA dX1_menHome_80 ⟨(by revert hm; revert hs; revert s; decide +kernel), rfl⟩

theorem c_X1_menAfter (l : Launch) (w : ih_Wd) (sh : ih_Sh) (S : ih_Sg) (s a : Nat) (hs : s < 8) (ha : a < 9) (hm : 7 ≤ a → s % 4 = 1) : ih_Ci l yX1_menAfter wsX1_menAfter 1 w sh [.int (nI s), .int (nI a)] S (fun r S' => r = nI (ih_nx s a % 8) ∧ S' = S) := by
    rcases (show a = 0 ∨ a = 1 ∨ a = 2 ∨ a = 3 ∨ a = 4 ∨ a = 5 ∨ a = 6 ∨ a = 7 ∨ a = 8 by omega) with rfl | rfl | rfl | rfl | rfl | rfl | rfl | rfl | rfl
    · exact c_X1_menAfter_0 l w sh S s hs
    · exact c_X1_menAfter_1 l w sh S s hs
    · exact c_X1_menAfter_2 l w sh S s hs
    · exact c_X1_menAfter_3 l w sh S s hs
    · exact c_X1_menAfter_4 l w sh S s hs
    · exact c_X1_menAfter_5 l w sh S s hs
    · exact c_X1_menAfter_6 l w sh S s hs
    · exact c_X1_menAfter_7 l w sh S s hs (hm (by decide))
    · exact c_X1_menAfter_8 l w sh S s hs (hm (by decide))
theorem c_X1_menHome (l : Launch) (w : ih_Wd) (sh : ih_Sh) (S : ih_Sg) (s a : Nat) (hs : s < 8) (ha : a < 9) (hm : 7 ≤ a → s % 4 = 1) : ih_Ci l yX1_menHome wsX1_menHome 1 w sh [.int (nI s), .int (nI a)] S (fun r S' => r = nI (ih_rn s a) ∧ S' = S) := by
    rcases (show a = 0 ∨ a = 1 ∨ a = 2 ∨ a = 3 ∨ a = 4 ∨ a = 5 ∨ a = 6 ∨ a = 7 ∨ a = 8 by omega) with rfl | rfl | rfl | rfl | rfl | rfl | rfl | rfl | rfl
    · exact c_X1_menHome_0 l w sh S s hs
    · exact c_X1_menHome_1 l w sh S s hs
    · exact c_X1_menHome_2 l w sh S s hs
    · exact c_X1_menHome_3 l w sh S s hs
    · exact c_X1_menHome_4 l w sh S s hs
    · exact c_X1_menHome_5 l w sh S s hs
    · exact c_X1_menHome_6 l w sh S s hs
    · exact c_X1_menHome_7 l w sh S s hs (hm (by decide))
    · exact c_X1_menHome_8 l w sh S s hs (hm (by decide))
theorem ih_tl1 {s a : Nat} (hs : s < 24) (ha : a < 9) (h : a < 7 ∨ s % 4 = 1) : ih_may s a = true := by
  rcases h with h | h
  · exact ih_may_6 h
  · exact ih_may_7 h
theorem ih_tl2 {s a : Nat} (h : ¬ a < 7) (h2 : ¬ s % 4 = 1) : ¬ ih_may s a = true := by
  unfold ih_may
  rw [decide_eq_false h, decide_eq_false h2]; decide
def ih_oc (a : Nat) : Nat := if a = 0 ∨ a = 6 ∨ a = 8 then 1 else 0
theorem ih_tl3 {s a : Nat} (hs : s < 24) (ha : a < 9) (hm : a < 7 ∨ s % 4 = 1) (ho : 3 ≤ s / 8 + ih_oc a) : ih_nx s a = 24 ∧ ih_rn s a = 0 := by
  have : ∀ s, s < 24 → ∀ a, a < 9 → (a < 7 ∨ s % 4 = 1) → 3 ≤ s / 8 + ih_oc a → ih_nx s a = 24 ∧ ih_rn s a = 0 := by
    unfold ih_oc; decide +kernel
  exact this s hs a ha hm ho
theorem ih_tl4 {s a : Nat} (hs : s < 24) (ha : a < 9) (hm : a < 7 ∨ s % 4 = 1) (ho : ¬ 3 ≤ s / 8 + ih_oc a) : ih_nx s a = (s / 8 + ih_oc a) * 8 + ih_nx (s % 8) a % 8 ∧ ih_rn s a = ih_rn (s % 8) a := by
  have : ∀ s, s < 24 → ∀ a, a < 9 → (a < 7 ∨ s % 4 = 1) → ¬ 3 ≤ s / 8 + ih_oc a → ih_nx s a = (s / 8 + ih_oc a) * 8 + ih_nx (s % 8) a % 8 ∧ ih_rn s a = ih_rn (s % 8) a := by
    unfold ih_oc; decide +kernel
  exact this s hs a ha hm ho
def ih_tv (s a : Nat) : Int32 := if ih_may s a = true then nI (ih_nx s a) else -1000000
def ih_tw (s a : Nat) : Int32 := if ih_may s a = true then nI (ih_rn s a) else -1000000
set_option maxHeartbeats 4000000 in
set_option maxRecDepth 100000 in
theorem c_X1_tell (l : Launch) (w : ih_Wd) (S : ih_Sg) (hp1 : S.2.2 43 0 = some 44) (hp2 : S.2.2 43 1 = some 45) (s a : Nat) (hs : s < 24) (ha : a < 9) : ih_Cv l yX1_tell wsX1_tell 2 w (ih_shN ih_shX 46) [.ref (w.2.2 43), .int (nI s), .int (nI a)] S (fun S' => S' = ih_sI (ih_sI S 44 (s * 9 + a) (ih_tv s a)) 45 (s * 9 + a) (ih_tw s a)) := by
  refine ih_bodyv (ret := none) rfl rfl (Nat.le_of_ble_eq_true rfl) ?_
  intro x A hA C
  have C : ih_Ok x w A cX1_tell 6 RX1 wsX1_tell (ih_rm 2) (none) := C
  show ih_Mw x w (ih_shN ih_shX 46) A (ih_Qv x w (ih_shN ih_shX 46) A _) 6 0 0 0 [(0, .ref (w.2.2 43)), (1, .int (nI s)), (2, .int (nI a))] [] S
  refine s_iload_n C 1 dX1_tell_0 rfl ?_
  refine s_bipush (v := nI 9) C dX1_tell_1 (by decide) ?_
  refine s_imulN C dX1_tell_3 ?_
  refine s_iload_n C 2 dX1_tell_4 rfl ?_
  refine s_iaddN C dX1_tell_5 ?_
  refine s_istore_n (lv' := [(3, .int (nI ((s * 9) + a))), (0, .ref (w.2.2 43)), (1, .int (nI s)), (2, .int (nI a))]) C dX1_tell_6 rfl (by decide) rfl ?_
  refine s_iload_n C 2 dX1_tell_7 rfl ?_
  refine s_bipush (v := nI 7) C dX1_tell_8 (by decide) ?_
  refine s_iand C dX1_tell_10 ?_
  refine s_toe (ih_and7 hs) ?_
  refine s_istore (lv' := [(4, .int (nI (s % 8))), (3, .int (nI ((s * 9) + a))), (0, .ref (w.2.2 43)), (1, .int (nI s)), (2, .int (nI a))]) C dX1_tell_11 (by decide) rfl ?_
  refine s_iload_n C 3 dX1_tell_13 rfl ?_
  refine s_iconst (v := nI 3) C dX1_tell_14 (by decide) ?_
  refine s_ishr C dX1_tell_15 ?_
  refine s_toe (ih_shr3 hs) ?_
  have hoc : ih_oc a ≤ 1 := by unfold ih_oc; split <;> decide
  refine s_iload_n C 4 dX1_tell_16 rfl ?_
  refine s_if_eqN 32 C dX1_tell_17 (by decide) (by omega) (fun h17 => ?_) (fun h17 => ?_)
  · refine s_iconst (v := nI 1) C dX1_tell_32 (by decide) ?_
    refine s_goto C 37 dX1_tell_33 (by decide) ?_
    refine s_toe (b := nI (ih_oc a)) (congrArg nI (by unfold ih_oc; rw [if_pos (by omega)])) ?_
    refine s_iaddN C dX1_tell_37 ?_
    refine s_istore (lv' := [(5, .int (nI ((s / 8) + (ih_oc a)))), (4, .int (nI (s % 8))), (3, .int (nI ((s * 9) + a))), (0, .ref (w.2.2 43)), (1, .int (nI s)), (2, .int (nI a))]) C dX1_tell_38 (by decide) rfl ?_
    refine s_iload_n C 5 dX1_tell_40 rfl ?_
    refine s_bipush (v := nI 7) C dX1_tell_41 (by decide) ?_
    refine s_icmp_ltN 72 C dX1_tell_43 (by decide) (by omega) (by omega) (fun h43 => ?_) (fun h43 => ?_)
    · refine s_iload C 0 dX1_tell_72 rfl ?_
      refine s_iconst (v := nI 3) C dX1_tell_74 (by decide) ?_
      refine s_icmp_ltN 96 C dX1_tell_75 (by decide) (by omega) (by omega) (fun h75 => ?_) (fun h75 => ?_)
      · refine s_aload_n C 3 dX1_tell_96 rfl ?_
        refine s_getR C 1 0 hp1 (ih_ltN (by omega)) rfl (by decide) rfl (fun _ h => List.mem_cons_of_mem _ (List.mem_append_right _ h)) (by decide) rfl (by decide +kernel) dX1_tell_97 ?_
        refine s_iload_n C 2 dX1_tell_100 rfl ?_
        refine s_iload C 0 dX1_tell_101 rfl ?_
        refine s_bipush (v := nI 8) C dX1_tell_103 (by decide) ?_
        refine s_imulN C dX1_tell_105 ?_
        refine s_iload C 1 dX1_tell_106 rfl ?_
        refine s_iload_n C 5 dX1_tell_108 rfl ?_
        refine s_callSi 2 C (c_X1_menAfter _ w _ _ (s % 8) a (by omega) ha (fun _ => by omega)) gX1_tell_X1_menAfter rfl (by decide +kernel) (by decide) (by decide) rfl rfl (Nat.le_of_ble_eq_true rfl) dX1_tell_109 ?_
        rintro ra S2 ⟨hra, hSS⟩
        obtain rfl := hSS.symm
        subst hra
        refine s_iaddN C dX1_tell_112 ?_
        refine s_iastore C 216 ((s * 9) + a) rfl rfl (by omega) (by decide) (ih_ltN (by omega)) rfl dX1_tell_113 ?_
        refine s_aload_n C 3 dX1_tell_114 rfl ?_
        refine s_getR C 1 1 hp2 (ih_ltN (by omega)) rfl (by decide) rfl (fun _ h => List.mem_cons_of_mem _ (List.mem_append_right _ h)) (by decide) rfl (by decide +kernel) dX1_tell_115 ?_
        refine s_iload_n C 2 dX1_tell_118 rfl ?_
        refine s_iload C 1 dX1_tell_119 rfl ?_
        refine s_iload_n C 5 dX1_tell_121 rfl ?_
        refine s_callSi 2 C (c_X1_menHome _ w _ _ (s % 8) a (by omega) ha (fun _ => by omega)) gX1_tell_X1_menHome rfl (by decide +kernel) (by decide) (by decide) rfl rfl (Nat.le_of_ble_eq_true rfl) dX1_tell_122 ?_
        rintro rh S2 ⟨hrh, hSS⟩
        obtain rfl := hSS.symm
        subst hrh
        refine s_iastore C 216 ((s * 9) + a) rfl rfl (by omega) (by decide) (ih_ltN (by omega)) rfl dX1_tell_125 ?_
        exact s_vreturn C hA dX1_tell_126 (by unfold ih_tv ih_tw; rw [if_pos (ih_tl1 hs ha (show a < 7 ∨ s % 4 = 1 by omega)), if_pos (ih_tl1 hs ha (show a < 7 ∨ s % 4 = 1 by omega)), (ih_tl4 hs ha (show a < 7 ∨ s % 4 = 1 by omega) (by omega)).1, (ih_tl4 hs ha (show a < 7 ∨ s % 4 = 1 by omega) (by omega)).2])
      · refine s_aload_n C 3 dX1_tell_78 rfl ?_
        refine s_getR C 1 0 hp1 (ih_ltN (by omega)) rfl (by decide) rfl (fun _ h => List.mem_cons_of_mem _ (List.mem_append_right _ h)) (by decide) rfl (by decide +kernel) dX1_tell_79 ?_
        refine s_iload_n C 2 dX1_tell_82 rfl ?_
        refine s_bipush (v := nI 24) C dX1_tell_83 (by decide) ?_
        refine s_iastore C 216 ((s * 9) + a) rfl rfl (by omega) (by decide) (ih_ltN (by omega)) rfl dX1_tell_85 ?_
        refine s_aload_n C 3 dX1_tell_86 rfl ?_
        refine s_getR C 1 1 hp2 (ih_ltN (by omega)) rfl (by decide) rfl (fun _ h => List.mem_cons_of_mem _ (List.mem_append_right _ h)) (by decide) rfl (by decide +kernel) dX1_tell_87 ?_
        refine s_iload_n C 2 dX1_tell_90 rfl ?_
        refine s_iconst (v := nI 0) C dX1_tell_91 (by decide) ?_
        refine s_iastore C 216 ((s * 9) + a) rfl rfl (by omega) (by decide) (ih_ltN (by omega)) rfl dX1_tell_92 ?_
        refine s_goto C 126 dX1_tell_93 (by decide) ?_
        exact s_vreturn C hA dX1_tell_126 (by unfold ih_tv ih_tw; rw [if_pos (ih_tl1 hs ha (show a < 7 ∨ s % 4 = 1 by omega)), if_pos (ih_tl1 hs ha (show a < 7 ∨ s % 4 = 1 by omega)), (ih_tl3 hs ha (show a < 7 ∨ s % 4 = 1 by omega) (by omega)).1, (ih_tl3 hs ha (show a < 7 ∨ s % 4 = 1 by omega) (by omega)).2])
    · refine s_iload_n C 4 dX1_tell_46 rfl ?_
      refine s_callSi 1 C (c_X1_canStealS _ w _ _ s hs) gX1_tell_X1_canSteal rfl (by decide +kernel) (by decide) (by decide) rfl rfl (Nat.le_of_ble_eq_true rfl) dX1_tell_47 ?_
      rintro rk S2 ⟨hrk, hSS⟩
      obtain rfl := hSS.symm
      refine s_if_ne C 72 dX1_tell_50 (by decide) (fun h50 => ?_) (fun h50 => ?_)
      · replace h50 := ih_b1 hrk h50
        refine s_iload C 0 dX1_tell_72 rfl ?_
        refine s_iconst (v := nI 3) C dX1_tell_74 (by decide) ?_
        refine s_icmp_ltN 96 C dX1_tell_75 (by decide) (by omega) (by omega) (fun h75 => ?_) (fun h75 => ?_)
        · refine s_aload_n C 3 dX1_tell_96 rfl ?_
          refine s_getR C 1 0 hp1 (ih_ltN (by omega)) rfl (by decide) rfl (fun _ h => List.mem_cons_of_mem _ (List.mem_append_right _ h)) (by decide) rfl (by decide +kernel) dX1_tell_97 ?_
          refine s_iload_n C 2 dX1_tell_100 rfl ?_
          refine s_iload C 0 dX1_tell_101 rfl ?_
          refine s_bipush (v := nI 8) C dX1_tell_103 (by decide) ?_
          refine s_imulN C dX1_tell_105 ?_
          refine s_iload C 1 dX1_tell_106 rfl ?_
          refine s_iload_n C 5 dX1_tell_108 rfl ?_
          refine s_callSi 2 C (c_X1_menAfter _ w _ _ (s % 8) a (by omega) ha (fun _ => by omega)) gX1_tell_X1_menAfter rfl (by decide +kernel) (by decide) (by decide) rfl rfl (Nat.le_of_ble_eq_true rfl) dX1_tell_109 ?_
          rintro ra S2 ⟨hra, hSS⟩
          obtain rfl := hSS.symm
          subst hra
          refine s_iaddN C dX1_tell_112 ?_
          refine s_iastore C 216 ((s * 9) + a) rfl rfl (by omega) (by decide) (ih_ltN (by omega)) rfl dX1_tell_113 ?_
          refine s_aload_n C 3 dX1_tell_114 rfl ?_
          refine s_getR C 1 1 hp2 (ih_ltN (by omega)) rfl (by decide) rfl (fun _ h => List.mem_cons_of_mem _ (List.mem_append_right _ h)) (by decide) rfl (by decide +kernel) dX1_tell_115 ?_
          refine s_iload_n C 2 dX1_tell_118 rfl ?_
          refine s_iload C 1 dX1_tell_119 rfl ?_
          refine s_iload_n C 5 dX1_tell_121 rfl ?_
          refine s_callSi 2 C (c_X1_menHome _ w _ _ (s % 8) a (by omega) ha (fun _ => by omega)) gX1_tell_X1_menHome rfl (by decide +kernel) (by decide) (by decide) rfl rfl (Nat.le_of_ble_eq_true rfl) dX1_tell_122 ?_
          rintro rh S2 ⟨hrh, hSS⟩
          obtain rfl := hSS.symm
          subst hrh
          refine s_iastore C 216 ((s * 9) + a) rfl rfl (by omega) (by decide) (ih_ltN (by omega)) rfl dX1_tell_125 ?_
          exact s_vreturn C hA dX1_tell_126 (by unfold ih_tv ih_tw; rw [if_pos (ih_tl1 hs ha (show a < 7 ∨ s % 4 = 1 by omega)), if_pos (ih_tl1 hs ha (show a < 7 ∨ s % 4 = 1 by omega)), (ih_tl4 hs ha (show a < 7 ∨ s % 4 = 1 by omega) (by omega)).1, (ih_tl4 hs ha (show a < 7 ∨ s % 4 = 1 by omega) (by omega)).2])
        · refine s_aload_n C 3 dX1_tell_78 rfl ?_
          refine s_getR C 1 0 hp1 (ih_ltN (by omega)) rfl (by decide) rfl (fun _ h => List.mem_cons_of_mem _ (List.mem_append_right _ h)) (by decide) rfl (by decide +kernel) dX1_tell_79 ?_
          refine s_iload_n C 2 dX1_tell_82 rfl ?_
          refine s_bipush (v := nI 24) C dX1_tell_83 (by decide) ?_
          refine s_iastore C 216 ((s * 9) + a) rfl rfl (by omega) (by decide) (ih_ltN (by omega)) rfl dX1_tell_85 ?_
          refine s_aload_n C 3 dX1_tell_86 rfl ?_
          refine s_getR C 1 1 hp2 (ih_ltN (by omega)) rfl (by decide) rfl (fun _ h => List.mem_cons_of_mem _ (List.mem_append_right _ h)) (by decide) rfl (by decide +kernel) dX1_tell_87 ?_
          refine s_iload_n C 2 dX1_tell_90 rfl ?_
          refine s_iconst (v := nI 0) C dX1_tell_91 (by decide) ?_
          refine s_iastore C 216 ((s * 9) + a) rfl rfl (by omega) (by decide) (ih_ltN (by omega)) rfl dX1_tell_92 ?_
          refine s_goto C 126 dX1_tell_93 (by decide) ?_
          exact s_vreturn C hA dX1_tell_126 (by unfold ih_tv ih_tw; rw [if_pos (ih_tl1 hs ha (show a < 7 ∨ s % 4 = 1 by omega)), if_pos (ih_tl1 hs ha (show a < 7 ∨ s % 4 = 1 by omega)), (ih_tl3 hs ha (show a < 7 ∨ s % 4 = 1 by omega) (by omega)).1, (ih_tl3 hs ha (show a < 7 ∨ s % 4 = 1 by omega) (by omega)).2])
      · replace h50 := ih_b0 hrk h50
        refine s_aload_n C 3 dX1_tell_53 rfl ?_
        refine s_getR C 1 0 hp1 (ih_ltN (by omega)) rfl (by decide) rfl (fun _ h => List.mem_cons_of_mem _ (List.mem_append_right _ h)) (by decide) rfl (by decide +kernel) dX1_tell_54 ?_
        refine s_iload_n C 2 dX1_tell_57 rfl ?_
        refine s_ldc (v := (-1000000)) C (by decide +kernel) dX1_tell_58 ?_
        refine s_iastore C 216 ((s * 9) + a) rfl rfl (by omega) (by decide) (ih_ltN (by omega)) rfl dX1_tell_60 ?_
        refine s_aload_n C 3 dX1_tell_61 rfl ?_
        refine s_getR C 1 1 hp2 (ih_ltN (by omega)) rfl (by decide) rfl (fun _ h => List.mem_cons_of_mem _ (List.mem_append_right _ h)) (by decide) rfl (by decide +kernel) dX1_tell_62 ?_
        refine s_iload_n C 2 dX1_tell_65 rfl ?_
        refine s_ldc (v := (-1000000)) C (by decide +kernel) dX1_tell_66 ?_
        refine s_iastore C 216 ((s * 9) + a) rfl rfl (by omega) (by decide) (ih_ltN (by omega)) rfl dX1_tell_68 ?_
        refine s_goto C 126 dX1_tell_69 (by decide) ?_
        exact s_vreturn C hA dX1_tell_126 (by unfold ih_tv ih_tw; rw [if_neg (ih_tl2 (by omega) (by omega)), if_neg (ih_tl2 (by omega) (by omega))])
  · refine s_iload_n C 4 dX1_tell_20 rfl ?_
    refine s_bipush (v := nI 6) C dX1_tell_21 (by decide) ?_
    refine s_icmp_eqN 32 C dX1_tell_23 (by decide) (by omega) (by omega) (fun h23 => ?_) (fun h23 => ?_)
    · refine s_iconst (v := nI 1) C dX1_tell_32 (by decide) ?_
      refine s_goto C 37 dX1_tell_33 (by decide) ?_
      refine s_toe (b := nI (ih_oc a)) (congrArg nI (by unfold ih_oc; rw [if_pos (by omega)])) ?_
      refine s_iaddN C dX1_tell_37 ?_
      refine s_istore (lv' := [(5, .int (nI ((s / 8) + (ih_oc a)))), (4, .int (nI (s % 8))), (3, .int (nI ((s * 9) + a))), (0, .ref (w.2.2 43)), (1, .int (nI s)), (2, .int (nI a))]) C dX1_tell_38 (by decide) rfl ?_
      refine s_iload_n C 5 dX1_tell_40 rfl ?_
      refine s_bipush (v := nI 7) C dX1_tell_41 (by decide) ?_
      refine s_icmp_ltN 72 C dX1_tell_43 (by decide) (by omega) (by omega) (fun h43 => ?_) (fun h43 => ?_)
      · refine s_iload C 0 dX1_tell_72 rfl ?_
        refine s_iconst (v := nI 3) C dX1_tell_74 (by decide) ?_
        refine s_icmp_ltN 96 C dX1_tell_75 (by decide) (by omega) (by omega) (fun h75 => ?_) (fun h75 => ?_)
        · refine s_aload_n C 3 dX1_tell_96 rfl ?_
          refine s_getR C 1 0 hp1 (ih_ltN (by omega)) rfl (by decide) rfl (fun _ h => List.mem_cons_of_mem _ (List.mem_append_right _ h)) (by decide) rfl (by decide +kernel) dX1_tell_97 ?_
          refine s_iload_n C 2 dX1_tell_100 rfl ?_
          refine s_iload C 0 dX1_tell_101 rfl ?_
          refine s_bipush (v := nI 8) C dX1_tell_103 (by decide) ?_
          refine s_imulN C dX1_tell_105 ?_
          refine s_iload C 1 dX1_tell_106 rfl ?_
          refine s_iload_n C 5 dX1_tell_108 rfl ?_
          refine s_callSi 2 C (c_X1_menAfter _ w _ _ (s % 8) a (by omega) ha (fun _ => by omega)) gX1_tell_X1_menAfter rfl (by decide +kernel) (by decide) (by decide) rfl rfl (Nat.le_of_ble_eq_true rfl) dX1_tell_109 ?_
          rintro ra S2 ⟨hra, hSS⟩
          obtain rfl := hSS.symm
          subst hra
          refine s_iaddN C dX1_tell_112 ?_
          refine s_iastore C 216 ((s * 9) + a) rfl rfl (by omega) (by decide) (ih_ltN (by omega)) rfl dX1_tell_113 ?_
          refine s_aload_n C 3 dX1_tell_114 rfl ?_
          refine s_getR C 1 1 hp2 (ih_ltN (by omega)) rfl (by decide) rfl (fun _ h => List.mem_cons_of_mem _ (List.mem_append_right _ h)) (by decide) rfl (by decide +kernel) dX1_tell_115 ?_
          refine s_iload_n C 2 dX1_tell_118 rfl ?_
          refine s_iload C 1 dX1_tell_119 rfl ?_
          refine s_iload_n C 5 dX1_tell_121 rfl ?_
          refine s_callSi 2 C (c_X1_menHome _ w _ _ (s % 8) a (by omega) ha (fun _ => by omega)) gX1_tell_X1_menHome rfl (by decide +kernel) (by decide) (by decide) rfl rfl (Nat.le_of_ble_eq_true rfl) dX1_tell_122 ?_
          rintro rh S2 ⟨hrh, hSS⟩
          obtain rfl := hSS.symm
          subst hrh
          refine s_iastore C 216 ((s * 9) + a) rfl rfl (by omega) (by decide) (ih_ltN (by omega)) rfl dX1_tell_125 ?_
          exact s_vreturn C hA dX1_tell_126 (by unfold ih_tv ih_tw; rw [if_pos (ih_tl1 hs ha (show a < 7 ∨ s % 4 = 1 by omega)), if_pos (ih_tl1 hs ha (show a < 7 ∨ s % 4 = 1 by omega)), (ih_tl4 hs ha (show a < 7 ∨ s % 4 = 1 by omega) (by omega)).1, (ih_tl4 hs ha (show a < 7 ∨ s % 4 = 1 by omega) (by omega)).2])
        · refine s_aload_n C 3 dX1_tell_78 rfl ?_
          refine s_getR C 1 0 hp1 (ih_ltN (by omega)) rfl (by decide) rfl (fun _ h => List.mem_cons_of_mem _ (List.mem_append_right _ h)) (by decide) rfl (by decide +kernel) dX1_tell_79 ?_
          refine s_iload_n C 2 dX1_tell_82 rfl ?_
          refine s_bipush (v := nI 24) C dX1_tell_83 (by decide) ?_
          refine s_iastore C 216 ((s * 9) + a) rfl rfl (by omega) (by decide) (ih_ltN (by omega)) rfl dX1_tell_85 ?_
          refine s_aload_n C 3 dX1_tell_86 rfl ?_
          refine s_getR C 1 1 hp2 (ih_ltN (by omega)) rfl (by decide) rfl (fun _ h => List.mem_cons_of_mem _ (List.mem_append_right _ h)) (by decide) rfl (by decide +kernel) dX1_tell_87 ?_
          refine s_iload_n C 2 dX1_tell_90 rfl ?_
          refine s_iconst (v := nI 0) C dX1_tell_91 (by decide) ?_
          refine s_iastore C 216 ((s * 9) + a) rfl rfl (by omega) (by decide) (ih_ltN (by omega)) rfl dX1_tell_92 ?_
          refine s_goto C 126 dX1_tell_93 (by decide) ?_
          exact s_vreturn C hA dX1_tell_126 (by unfold ih_tv ih_tw; rw [if_pos (ih_tl1 hs ha (show a < 7 ∨ s % 4 = 1 by omega)), if_pos (ih_tl1 hs ha (show a < 7 ∨ s % 4 = 1 by omega)), (ih_tl3 hs ha (show a < 7 ∨ s % 4 = 1 by omega) (by omega)).1, (ih_tl3 hs ha (show a < 7 ∨ s % 4 = 1 by omega) (by omega)).2])
      · refine s_iload_n C 4 dX1_tell_46 rfl ?_
        refine s_callSi 1 C (c_X1_canStealS _ w _ _ s hs) gX1_tell_X1_canSteal rfl (by decide +kernel) (by decide) (by decide) rfl rfl (Nat.le_of_ble_eq_true rfl) dX1_tell_47 ?_
        rintro rk S2 ⟨hrk, hSS⟩
        obtain rfl := hSS.symm
        refine s_if_ne C 72 dX1_tell_50 (by decide) (fun h50 => ?_) (fun h50 => ?_)
        · replace h50 := ih_b1 hrk h50
          refine s_iload C 0 dX1_tell_72 rfl ?_
          refine s_iconst (v := nI 3) C dX1_tell_74 (by decide) ?_
          refine s_icmp_ltN 96 C dX1_tell_75 (by decide) (by omega) (by omega) (fun h75 => ?_) (fun h75 => ?_)
          · refine s_aload_n C 3 dX1_tell_96 rfl ?_
            refine s_getR C 1 0 hp1 (ih_ltN (by omega)) rfl (by decide) rfl (fun _ h => List.mem_cons_of_mem _ (List.mem_append_right _ h)) (by decide) rfl (by decide +kernel) dX1_tell_97 ?_
            refine s_iload_n C 2 dX1_tell_100 rfl ?_
            refine s_iload C 0 dX1_tell_101 rfl ?_
            refine s_bipush (v := nI 8) C dX1_tell_103 (by decide) ?_
            refine s_imulN C dX1_tell_105 ?_
            refine s_iload C 1 dX1_tell_106 rfl ?_
            refine s_iload_n C 5 dX1_tell_108 rfl ?_
            refine s_callSi 2 C (c_X1_menAfter _ w _ _ (s % 8) a (by omega) ha (fun _ => by omega)) gX1_tell_X1_menAfter rfl (by decide +kernel) (by decide) (by decide) rfl rfl (Nat.le_of_ble_eq_true rfl) dX1_tell_109 ?_
            rintro ra S2 ⟨hra, hSS⟩
            obtain rfl := hSS.symm
            subst hra
            refine s_iaddN C dX1_tell_112 ?_
            refine s_iastore C 216 ((s * 9) + a) rfl rfl (by omega) (by decide) (ih_ltN (by omega)) rfl dX1_tell_113 ?_
            refine s_aload_n C 3 dX1_tell_114 rfl ?_
            refine s_getR C 1 1 hp2 (ih_ltN (by omega)) rfl (by decide) rfl (fun _ h => List.mem_cons_of_mem _ (List.mem_append_right _ h)) (by decide) rfl (by decide +kernel) dX1_tell_115 ?_
            refine s_iload_n C 2 dX1_tell_118 rfl ?_
            refine s_iload C 1 dX1_tell_119 rfl ?_
            refine s_iload_n C 5 dX1_tell_121 rfl ?_
            refine s_callSi 2 C (c_X1_menHome _ w _ _ (s % 8) a (by omega) ha (fun _ => by omega)) gX1_tell_X1_menHome rfl (by decide +kernel) (by decide) (by decide) rfl rfl (Nat.le_of_ble_eq_true rfl) dX1_tell_122 ?_
            rintro rh S2 ⟨hrh, hSS⟩
            obtain rfl := hSS.symm
            subst hrh
            refine s_iastore C 216 ((s * 9) + a) rfl rfl (by omega) (by decide) (ih_ltN (by omega)) rfl dX1_tell_125 ?_
            exact s_vreturn C hA dX1_tell_126 (by unfold ih_tv ih_tw; rw [if_pos (ih_tl1 hs ha (show a < 7 ∨ s % 4 = 1 by omega)), if_pos (ih_tl1 hs ha (show a < 7 ∨ s % 4 = 1 by omega)), (ih_tl4 hs ha (show a < 7 ∨ s % 4 = 1 by omega) (by omega)).1, (ih_tl4 hs ha (show a < 7 ∨ s % 4 = 1 by omega) (by omega)).2])
          · refine s_aload_n C 3 dX1_tell_78 rfl ?_
            refine s_getR C 1 0 hp1 (ih_ltN (by omega)) rfl (by decide) rfl (fun _ h => List.mem_cons_of_mem _ (List.mem_append_right _ h)) (by decide) rfl (by decide +kernel) dX1_tell_79 ?_
            refine s_iload_n C 2 dX1_tell_82 rfl ?_
            refine s_bipush (v := nI 24) C dX1_tell_83 (by decide) ?_
            refine s_iastore C 216 ((s * 9) + a) rfl rfl (by omega) (by decide) (ih_ltN (by omega)) rfl dX1_tell_85 ?_
            refine s_aload_n C 3 dX1_tell_86 rfl ?_
            refine s_getR C 1 1 hp2 (ih_ltN (by omega)) rfl (by decide) rfl (fun _ h => List.mem_cons_of_mem _ (List.mem_append_right _ h)) (by decide) rfl (by decide +kernel) dX1_tell_87 ?_
            refine s_iload_n C 2 dX1_tell_90 rfl ?_
            refine s_iconst (v := nI 0) C dX1_tell_91 (by decide) ?_
            refine s_iastore C 216 ((s * 9) + a) rfl rfl (by omega) (by decide) (ih_ltN (by omega)) rfl dX1_tell_92 ?_
            refine s_goto C 126 dX1_tell_93 (by decide) ?_
            exact s_vreturn C hA dX1_tell_126 (by unfold ih_tv ih_tw; rw [if_pos (ih_tl1 hs ha (show a < 7 ∨ s % 4 = 1 by omega)), if_pos (ih_tl1 hs ha (show a < 7 ∨ s % 4 = 1 by omega)), (ih_tl3 hs ha (show a < 7 ∨ s % 4 = 1 by omega) (by omega)).1, (ih_tl3 hs ha (show a < 7 ∨ s % 4 = 1 by omega) (by omega)).2])
        · replace h50 := ih_b0 hrk h50
          refine s_aload_n C 3 dX1_tell_53 rfl ?_
          refine s_getR C 1 0 hp1 (ih_ltN (by omega)) rfl (by decide) rfl (fun _ h => List.mem_cons_of_mem _ (List.mem_append_right _ h)) (by decide) rfl (by decide +kernel) dX1_tell_54 ?_
          refine s_iload_n C 2 dX1_tell_57 rfl ?_
          refine s_ldc (v := (-1000000)) C (by decide +kernel) dX1_tell_58 ?_
          refine s_iastore C 216 ((s * 9) + a) rfl rfl (by omega) (by decide) (ih_ltN (by omega)) rfl dX1_tell_60 ?_
          refine s_aload_n C 3 dX1_tell_61 rfl ?_
          refine s_getR C 1 1 hp2 (ih_ltN (by omega)) rfl (by decide) rfl (fun _ h => List.mem_cons_of_mem _ (List.mem_append_right _ h)) (by decide) rfl (by decide +kernel) dX1_tell_62 ?_
          refine s_iload_n C 2 dX1_tell_65 rfl ?_
          refine s_ldc (v := (-1000000)) C (by decide +kernel) dX1_tell_66 ?_
          refine s_iastore C 216 ((s * 9) + a) rfl rfl (by omega) (by decide) (ih_ltN (by omega)) rfl dX1_tell_68 ?_
          refine s_goto C 126 dX1_tell_69 (by decide) ?_
          exact s_vreturn C hA dX1_tell_126 (by unfold ih_tv ih_tw; rw [if_neg (ih_tl2 (by omega) (by omega)), if_neg (ih_tl2 (by omega) (by omega))])
    · refine s_iload_n C 4 dX1_tell_26 rfl ?_
      refine s_bipush (v := nI 8) C dX1_tell_27 (by decide) ?_
      refine s_icmp_neN 36 C dX1_tell_29 (by decide) (by omega) (by omega) (fun h29 => ?_) (fun h29 => ?_)
      · refine s_iconst (v := nI 0) C dX1_tell_36 (by decide) ?_
        refine s_toe (b := nI (ih_oc a)) (congrArg nI (by unfold ih_oc; rw [if_neg (by omega)])) ?_
        refine s_iaddN C dX1_tell_37 ?_
        refine s_istore (lv' := [(5, .int (nI ((s / 8) + (ih_oc a)))), (4, .int (nI (s % 8))), (3, .int (nI ((s * 9) + a))), (0, .ref (w.2.2 43)), (1, .int (nI s)), (2, .int (nI a))]) C dX1_tell_38 (by decide) rfl ?_
        refine s_iload_n C 5 dX1_tell_40 rfl ?_
        refine s_bipush (v := nI 7) C dX1_tell_41 (by decide) ?_
        refine s_icmp_ltN 72 C dX1_tell_43 (by decide) (by omega) (by omega) (fun h43 => ?_) (fun h43 => ?_)
        · refine s_iload C 0 dX1_tell_72 rfl ?_
          refine s_iconst (v := nI 3) C dX1_tell_74 (by decide) ?_
          refine s_icmp_ltN 96 C dX1_tell_75 (by decide) (by omega) (by omega) (fun h75 => ?_) (fun h75 => ?_)
          · refine s_aload_n C 3 dX1_tell_96 rfl ?_
            refine s_getR C 1 0 hp1 (ih_ltN (by omega)) rfl (by decide) rfl (fun _ h => List.mem_cons_of_mem _ (List.mem_append_right _ h)) (by decide) rfl (by decide +kernel) dX1_tell_97 ?_
            refine s_iload_n C 2 dX1_tell_100 rfl ?_
            refine s_iload C 0 dX1_tell_101 rfl ?_
            refine s_bipush (v := nI 8) C dX1_tell_103 (by decide) ?_
            refine s_imulN C dX1_tell_105 ?_
            refine s_iload C 1 dX1_tell_106 rfl ?_
            refine s_iload_n C 5 dX1_tell_108 rfl ?_
            refine s_callSi 2 C (c_X1_menAfter _ w _ _ (s % 8) a (by omega) ha (fun _ => by omega)) gX1_tell_X1_menAfter rfl (by decide +kernel) (by decide) (by decide) rfl rfl (Nat.le_of_ble_eq_true rfl) dX1_tell_109 ?_
            rintro ra S2 ⟨hra, hSS⟩
            obtain rfl := hSS.symm
            subst hra
            refine s_iaddN C dX1_tell_112 ?_
            refine s_iastore C 216 ((s * 9) + a) rfl rfl (by omega) (by decide) (ih_ltN (by omega)) rfl dX1_tell_113 ?_
            refine s_aload_n C 3 dX1_tell_114 rfl ?_
            refine s_getR C 1 1 hp2 (ih_ltN (by omega)) rfl (by decide) rfl (fun _ h => List.mem_cons_of_mem _ (List.mem_append_right _ h)) (by decide) rfl (by decide +kernel) dX1_tell_115 ?_
            refine s_iload_n C 2 dX1_tell_118 rfl ?_
            refine s_iload C 1 dX1_tell_119 rfl ?_
            refine s_iload_n C 5 dX1_tell_121 rfl ?_
            refine s_callSi 2 C (c_X1_menHome _ w _ _ (s % 8) a (by omega) ha (fun _ => by omega)) gX1_tell_X1_menHome rfl (by decide +kernel) (by decide) (by decide) rfl rfl (Nat.le_of_ble_eq_true rfl) dX1_tell_122 ?_
            rintro rh S2 ⟨hrh, hSS⟩
            obtain rfl := hSS.symm
            subst hrh
            refine s_iastore C 216 ((s * 9) + a) rfl rfl (by omega) (by decide) (ih_ltN (by omega)) rfl dX1_tell_125 ?_
            exact s_vreturn C hA dX1_tell_126 (by unfold ih_tv ih_tw; rw [if_pos (ih_tl1 hs ha (show a < 7 ∨ s % 4 = 1 by omega)), if_pos (ih_tl1 hs ha (show a < 7 ∨ s % 4 = 1 by omega)), (ih_tl4 hs ha (show a < 7 ∨ s % 4 = 1 by omega) (by omega)).1, (ih_tl4 hs ha (show a < 7 ∨ s % 4 = 1 by omega) (by omega)).2])
          · refine s_aload_n C 3 dX1_tell_78 rfl ?_
            refine s_getR C 1 0 hp1 (ih_ltN (by omega)) rfl (by decide) rfl (fun _ h => List.mem_cons_of_mem _ (List.mem_append_right _ h)) (by decide) rfl (by decide +kernel) dX1_tell_79 ?_
            refine s_iload_n C 2 dX1_tell_82 rfl ?_
            refine s_bipush (v := nI 24) C dX1_tell_83 (by decide) ?_
            refine s_iastore C 216 ((s * 9) + a) rfl rfl (by omega) (by decide) (ih_ltN (by omega)) rfl dX1_tell_85 ?_
            refine s_aload_n C 3 dX1_tell_86 rfl ?_
            refine s_getR C 1 1 hp2 (ih_ltN (by omega)) rfl (by decide) rfl (fun _ h => List.mem_cons_of_mem _ (List.mem_append_right _ h)) (by decide) rfl (by decide +kernel) dX1_tell_87 ?_
            refine s_iload_n C 2 dX1_tell_90 rfl ?_
            refine s_iconst (v := nI 0) C dX1_tell_91 (by decide) ?_
            refine s_iastore C 216 ((s * 9) + a) rfl rfl (by omega) (by decide) (ih_ltN (by omega)) rfl dX1_tell_92 ?_
            refine s_goto C 126 dX1_tell_93 (by decide) ?_
            exact s_vreturn C hA dX1_tell_126 (by unfold ih_tv ih_tw; rw [if_pos (ih_tl1 hs ha (show a < 7 ∨ s % 4 = 1 by omega)), if_pos (ih_tl1 hs ha (show a < 7 ∨ s % 4 = 1 by omega)), (ih_tl3 hs ha (show a < 7 ∨ s % 4 = 1 by omega) (by omega)).1, (ih_tl3 hs ha (show a < 7 ∨ s % 4 = 1 by omega) (by omega)).2])
        · refine s_iload_n C 4 dX1_tell_46 rfl ?_
          refine s_callSi 1 C (c_X1_canStealS _ w _ _ s hs) gX1_tell_X1_canSteal rfl (by decide +kernel) (by decide) (by decide) rfl rfl (Nat.le_of_ble_eq_true rfl) dX1_tell_47 ?_
          rintro rk S2 ⟨hrk, hSS⟩
          obtain rfl := hSS.symm
          refine s_if_ne C 72 dX1_tell_50 (by decide) (fun h50 => ?_) (fun h50 => ?_)
          · replace h50 := ih_b1 hrk h50
            refine s_iload C 0 dX1_tell_72 rfl ?_
            refine s_iconst (v := nI 3) C dX1_tell_74 (by decide) ?_
            refine s_icmp_ltN 96 C dX1_tell_75 (by decide) (by omega) (by omega) (fun h75 => ?_) (fun h75 => ?_)
            · refine s_aload_n C 3 dX1_tell_96 rfl ?_
              refine s_getR C 1 0 hp1 (ih_ltN (by omega)) rfl (by decide) rfl (fun _ h => List.mem_cons_of_mem _ (List.mem_append_right _ h)) (by decide) rfl (by decide +kernel) dX1_tell_97 ?_
              refine s_iload_n C 2 dX1_tell_100 rfl ?_
              refine s_iload C 0 dX1_tell_101 rfl ?_
              refine s_bipush (v := nI 8) C dX1_tell_103 (by decide) ?_
              refine s_imulN C dX1_tell_105 ?_
              refine s_iload C 1 dX1_tell_106 rfl ?_
              refine s_iload_n C 5 dX1_tell_108 rfl ?_
              refine s_callSi 2 C (c_X1_menAfter _ w _ _ (s % 8) a (by omega) ha (fun _ => by omega)) gX1_tell_X1_menAfter rfl (by decide +kernel) (by decide) (by decide) rfl rfl (Nat.le_of_ble_eq_true rfl) dX1_tell_109 ?_
              rintro ra S2 ⟨hra, hSS⟩
              obtain rfl := hSS.symm
              subst hra
              refine s_iaddN C dX1_tell_112 ?_
              refine s_iastore C 216 ((s * 9) + a) rfl rfl (by omega) (by decide) (ih_ltN (by omega)) rfl dX1_tell_113 ?_
              refine s_aload_n C 3 dX1_tell_114 rfl ?_
              refine s_getR C 1 1 hp2 (ih_ltN (by omega)) rfl (by decide) rfl (fun _ h => List.mem_cons_of_mem _ (List.mem_append_right _ h)) (by decide) rfl (by decide +kernel) dX1_tell_115 ?_
              refine s_iload_n C 2 dX1_tell_118 rfl ?_
              refine s_iload C 1 dX1_tell_119 rfl ?_
              refine s_iload_n C 5 dX1_tell_121 rfl ?_
              refine s_callSi 2 C (c_X1_menHome _ w _ _ (s % 8) a (by omega) ha (fun _ => by omega)) gX1_tell_X1_menHome rfl (by decide +kernel) (by decide) (by decide) rfl rfl (Nat.le_of_ble_eq_true rfl) dX1_tell_122 ?_
              rintro rh S2 ⟨hrh, hSS⟩
              obtain rfl := hSS.symm
              subst hrh
              refine s_iastore C 216 ((s * 9) + a) rfl rfl (by omega) (by decide) (ih_ltN (by omega)) rfl dX1_tell_125 ?_
              exact s_vreturn C hA dX1_tell_126 (by unfold ih_tv ih_tw; rw [if_pos (ih_tl1 hs ha (show a < 7 ∨ s % 4 = 1 by omega)), if_pos (ih_tl1 hs ha (show a < 7 ∨ s % 4 = 1 by omega)), (ih_tl4 hs ha (show a < 7 ∨ s % 4 = 1 by omega) (by omega)).1, (ih_tl4 hs ha (show a < 7 ∨ s % 4 = 1 by omega) (by omega)).2])
            · refine s_aload_n C 3 dX1_tell_78 rfl ?_
              refine s_getR C 1 0 hp1 (ih_ltN (by omega)) rfl (by decide) rfl (fun _ h => List.mem_cons_of_mem _ (List.mem_append_right _ h)) (by decide) rfl (by decide +kernel) dX1_tell_79 ?_
              refine s_iload_n C 2 dX1_tell_82 rfl ?_
              refine s_bipush (v := nI 24) C dX1_tell_83 (by decide) ?_
              refine s_iastore C 216 ((s * 9) + a) rfl rfl (by omega) (by decide) (ih_ltN (by omega)) rfl dX1_tell_85 ?_
              refine s_aload_n C 3 dX1_tell_86 rfl ?_
              refine s_getR C 1 1 hp2 (ih_ltN (by omega)) rfl (by decide) rfl (fun _ h => List.mem_cons_of_mem _ (List.mem_append_right _ h)) (by decide) rfl (by decide +kernel) dX1_tell_87 ?_
              refine s_iload_n C 2 dX1_tell_90 rfl ?_
              refine s_iconst (v := nI 0) C dX1_tell_91 (by decide) ?_
              refine s_iastore C 216 ((s * 9) + a) rfl rfl (by omega) (by decide) (ih_ltN (by omega)) rfl dX1_tell_92 ?_
              refine s_goto C 126 dX1_tell_93 (by decide) ?_
              exact s_vreturn C hA dX1_tell_126 (by unfold ih_tv ih_tw; rw [if_pos (ih_tl1 hs ha (show a < 7 ∨ s % 4 = 1 by omega)), if_pos (ih_tl1 hs ha (show a < 7 ∨ s % 4 = 1 by omega)), (ih_tl3 hs ha (show a < 7 ∨ s % 4 = 1 by omega) (by omega)).1, (ih_tl3 hs ha (show a < 7 ∨ s % 4 = 1 by omega) (by omega)).2])
          · replace h50 := ih_b0 hrk h50
            refine s_aload_n C 3 dX1_tell_53 rfl ?_
            refine s_getR C 1 0 hp1 (ih_ltN (by omega)) rfl (by decide) rfl (fun _ h => List.mem_cons_of_mem _ (List.mem_append_right _ h)) (by decide) rfl (by decide +kernel) dX1_tell_54 ?_
            refine s_iload_n C 2 dX1_tell_57 rfl ?_
            refine s_ldc (v := (-1000000)) C (by decide +kernel) dX1_tell_58 ?_
            refine s_iastore C 216 ((s * 9) + a) rfl rfl (by omega) (by decide) (ih_ltN (by omega)) rfl dX1_tell_60 ?_
            refine s_aload_n C 3 dX1_tell_61 rfl ?_
            refine s_getR C 1 1 hp2 (ih_ltN (by omega)) rfl (by decide) rfl (fun _ h => List.mem_cons_of_mem _ (List.mem_append_right _ h)) (by decide) rfl (by decide +kernel) dX1_tell_62 ?_
            refine s_iload_n C 2 dX1_tell_65 rfl ?_
            refine s_ldc (v := (-1000000)) C (by decide +kernel) dX1_tell_66 ?_
            refine s_iastore C 216 ((s * 9) + a) rfl rfl (by omega) (by decide) (ih_ltN (by omega)) rfl dX1_tell_68 ?_
            refine s_goto C 126 dX1_tell_69 (by decide) ?_
            exact s_vreturn C hA dX1_tell_126 (by unfold ih_tv ih_tw; rw [if_neg (ih_tl2 (by omega) (by omega)), if_neg (ih_tl2 (by omega) (by omega))])
      · refine s_iconst (v := nI 1) C dX1_tell_32 (by decide) ?_
        refine s_goto C 37 dX1_tell_33 (by decide) ?_
        refine s_toe (b := nI (ih_oc a)) (congrArg nI (by unfold ih_oc; rw [if_pos (by omega)])) ?_
        refine s_iaddN C dX1_tell_37 ?_
        refine s_istore (lv' := [(5, .int (nI ((s / 8) + (ih_oc a)))), (4, .int (nI (s % 8))), (3, .int (nI ((s * 9) + a))), (0, .ref (w.2.2 43)), (1, .int (nI s)), (2, .int (nI a))]) C dX1_tell_38 (by decide) rfl ?_
        refine s_iload_n C 5 dX1_tell_40 rfl ?_
        refine s_bipush (v := nI 7) C dX1_tell_41 (by decide) ?_
        refine s_icmp_ltN 72 C dX1_tell_43 (by decide) (by omega) (by omega) (fun h43 => ?_) (fun h43 => ?_)
        · refine s_iload C 0 dX1_tell_72 rfl ?_
          refine s_iconst (v := nI 3) C dX1_tell_74 (by decide) ?_
          refine s_icmp_ltN 96 C dX1_tell_75 (by decide) (by omega) (by omega) (fun h75 => ?_) (fun h75 => ?_)
          · refine s_aload_n C 3 dX1_tell_96 rfl ?_
            refine s_getR C 1 0 hp1 (ih_ltN (by omega)) rfl (by decide) rfl (fun _ h => List.mem_cons_of_mem _ (List.mem_append_right _ h)) (by decide) rfl (by decide +kernel) dX1_tell_97 ?_
            refine s_iload_n C 2 dX1_tell_100 rfl ?_
            refine s_iload C 0 dX1_tell_101 rfl ?_
            refine s_bipush (v := nI 8) C dX1_tell_103 (by decide) ?_
            refine s_imulN C dX1_tell_105 ?_
            refine s_iload C 1 dX1_tell_106 rfl ?_
            refine s_iload_n C 5 dX1_tell_108 rfl ?_
            refine s_callSi 2 C (c_X1_menAfter _ w _ _ (s % 8) a (by omega) ha (fun _ => by omega)) gX1_tell_X1_menAfter rfl (by decide +kernel) (by decide) (by decide) rfl rfl (Nat.le_of_ble_eq_true rfl) dX1_tell_109 ?_
            rintro ra S2 ⟨hra, hSS⟩
            obtain rfl := hSS.symm
            subst hra
            refine s_iaddN C dX1_tell_112 ?_
            refine s_iastore C 216 ((s * 9) + a) rfl rfl (by omega) (by decide) (ih_ltN (by omega)) rfl dX1_tell_113 ?_
            refine s_aload_n C 3 dX1_tell_114 rfl ?_
            refine s_getR C 1 1 hp2 (ih_ltN (by omega)) rfl (by decide) rfl (fun _ h => List.mem_cons_of_mem _ (List.mem_append_right _ h)) (by decide) rfl (by decide +kernel) dX1_tell_115 ?_
            refine s_iload_n C 2 dX1_tell_118 rfl ?_
            refine s_iload C 1 dX1_tell_119 rfl ?_
            refine s_iload_n C 5 dX1_tell_121 rfl ?_
            refine s_callSi 2 C (c_X1_menHome _ w _ _ (s % 8) a (by omega) ha (fun _ => by omega)) gX1_tell_X1_menHome rfl (by decide +kernel) (by decide) (by decide) rfl rfl (Nat.le_of_ble_eq_true rfl) dX1_tell_122 ?_
            rintro rh S2 ⟨hrh, hSS⟩
            obtain rfl := hSS.symm
            subst hrh
            refine s_iastore C 216 ((s * 9) + a) rfl rfl (by omega) (by decide) (ih_ltN (by omega)) rfl dX1_tell_125 ?_
            exact s_vreturn C hA dX1_tell_126 (by unfold ih_tv ih_tw; rw [if_pos (ih_tl1 hs ha (show a < 7 ∨ s % 4 = 1 by omega)), if_pos (ih_tl1 hs ha (show a < 7 ∨ s % 4 = 1 by omega)), (ih_tl4 hs ha (show a < 7 ∨ s % 4 = 1 by omega) (by omega)).1, (ih_tl4 hs ha (show a < 7 ∨ s % 4 = 1 by omega) (by omega)).2])
          · refine s_aload_n C 3 dX1_tell_78 rfl ?_
            refine s_getR C 1 0 hp1 (ih_ltN (by omega)) rfl (by decide) rfl (fun _ h => List.mem_cons_of_mem _ (List.mem_append_right _ h)) (by decide) rfl (by decide +kernel) dX1_tell_79 ?_
            refine s_iload_n C 2 dX1_tell_82 rfl ?_
            refine s_bipush (v := nI 24) C dX1_tell_83 (by decide) ?_
            refine s_iastore C 216 ((s * 9) + a) rfl rfl (by omega) (by decide) (ih_ltN (by omega)) rfl dX1_tell_85 ?_
            refine s_aload_n C 3 dX1_tell_86 rfl ?_
            refine s_getR C 1 1 hp2 (ih_ltN (by omega)) rfl (by decide) rfl (fun _ h => List.mem_cons_of_mem _ (List.mem_append_right _ h)) (by decide) rfl (by decide +kernel) dX1_tell_87 ?_
            refine s_iload_n C 2 dX1_tell_90 rfl ?_
            refine s_iconst (v := nI 0) C dX1_tell_91 (by decide) ?_
            refine s_iastore C 216 ((s * 9) + a) rfl rfl (by omega) (by decide) (ih_ltN (by omega)) rfl dX1_tell_92 ?_
            refine s_goto C 126 dX1_tell_93 (by decide) ?_
            exact s_vreturn C hA dX1_tell_126 (by unfold ih_tv ih_tw; rw [if_pos (ih_tl1 hs ha (show a < 7 ∨ s % 4 = 1 by omega)), if_pos (ih_tl1 hs ha (show a < 7 ∨ s % 4 = 1 by omega)), (ih_tl3 hs ha (show a < 7 ∨ s % 4 = 1 by omega) (by omega)).1, (ih_tl3 hs ha (show a < 7 ∨ s % 4 = 1 by omega) (by omega)).2])
        · refine s_iload_n C 4 dX1_tell_46 rfl ?_
          refine s_callSi 1 C (c_X1_canStealS _ w _ _ s hs) gX1_tell_X1_canSteal rfl (by decide +kernel) (by decide) (by decide) rfl rfl (Nat.le_of_ble_eq_true rfl) dX1_tell_47 ?_
          rintro rk S2 ⟨hrk, hSS⟩
          obtain rfl := hSS.symm
          refine s_if_ne C 72 dX1_tell_50 (by decide) (fun h50 => ?_) (fun h50 => ?_)
          · replace h50 := ih_b1 hrk h50
            refine s_iload C 0 dX1_tell_72 rfl ?_
            refine s_iconst (v := nI 3) C dX1_tell_74 (by decide) ?_
            refine s_icmp_ltN 96 C dX1_tell_75 (by decide) (by omega) (by omega) (fun h75 => ?_) (fun h75 => ?_)
            · refine s_aload_n C 3 dX1_tell_96 rfl ?_
              refine s_getR C 1 0 hp1 (ih_ltN (by omega)) rfl (by decide) rfl (fun _ h => List.mem_cons_of_mem _ (List.mem_append_right _ h)) (by decide) rfl (by decide +kernel) dX1_tell_97 ?_
              refine s_iload_n C 2 dX1_tell_100 rfl ?_
              refine s_iload C 0 dX1_tell_101 rfl ?_
              refine s_bipush (v := nI 8) C dX1_tell_103 (by decide) ?_
              refine s_imulN C dX1_tell_105 ?_
              refine s_iload C 1 dX1_tell_106 rfl ?_
              refine s_iload_n C 5 dX1_tell_108 rfl ?_
              refine s_callSi 2 C (c_X1_menAfter _ w _ _ (s % 8) a (by omega) ha (fun _ => by omega)) gX1_tell_X1_menAfter rfl (by decide +kernel) (by decide) (by decide) rfl rfl (Nat.le_of_ble_eq_true rfl) dX1_tell_109 ?_
              rintro ra S2 ⟨hra, hSS⟩
              obtain rfl := hSS.symm
              subst hra
              refine s_iaddN C dX1_tell_112 ?_
              refine s_iastore C 216 ((s * 9) + a) rfl rfl (by omega) (by decide) (ih_ltN (by omega)) rfl dX1_tell_113 ?_
              refine s_aload_n C 3 dX1_tell_114 rfl ?_
              refine s_getR C 1 1 hp2 (ih_ltN (by omega)) rfl (by decide) rfl (fun _ h => List.mem_cons_of_mem _ (List.mem_append_right _ h)) (by decide) rfl (by decide +kernel) dX1_tell_115 ?_
              refine s_iload_n C 2 dX1_tell_118 rfl ?_
              refine s_iload C 1 dX1_tell_119 rfl ?_
              refine s_iload_n C 5 dX1_tell_121 rfl ?_
              refine s_callSi 2 C (c_X1_menHome _ w _ _ (s % 8) a (by omega) ha (fun _ => by omega)) gX1_tell_X1_menHome rfl (by decide +kernel) (by decide) (by decide) rfl rfl (Nat.le_of_ble_eq_true rfl) dX1_tell_122 ?_
              rintro rh S2 ⟨hrh, hSS⟩
              obtain rfl := hSS.symm
              subst hrh
              refine s_iastore C 216 ((s * 9) + a) rfl rfl (by omega) (by decide) (ih_ltN (by omega)) rfl dX1_tell_125 ?_
              exact s_vreturn C hA dX1_tell_126 (by unfold ih_tv ih_tw; rw [if_pos (ih_tl1 hs ha (show a < 7 ∨ s % 4 = 1 by omega)), if_pos (ih_tl1 hs ha (show a < 7 ∨ s % 4 = 1 by omega)), (ih_tl4 hs ha (show a < 7 ∨ s % 4 = 1 by omega) (by omega)).1, (ih_tl4 hs ha (show a < 7 ∨ s % 4 = 1 by omega) (by omega)).2])
            · refine s_aload_n C 3 dX1_tell_78 rfl ?_
              refine s_getR C 1 0 hp1 (ih_ltN (by omega)) rfl (by decide) rfl (fun _ h => List.mem_cons_of_mem _ (List.mem_append_right _ h)) (by decide) rfl (by decide +kernel) dX1_tell_79 ?_
              refine s_iload_n C 2 dX1_tell_82 rfl ?_
              refine s_bipush (v := nI 24) C dX1_tell_83 (by decide) ?_
              refine s_iastore C 216 ((s * 9) + a) rfl rfl (by omega) (by decide) (ih_ltN (by omega)) rfl dX1_tell_85 ?_
              refine s_aload_n C 3 dX1_tell_86 rfl ?_
              refine s_getR C 1 1 hp2 (ih_ltN (by omega)) rfl (by decide) rfl (fun _ h => List.mem_cons_of_mem _ (List.mem_append_right _ h)) (by decide) rfl (by decide +kernel) dX1_tell_87 ?_
              refine s_iload_n C 2 dX1_tell_90 rfl ?_
              refine s_iconst (v := nI 0) C dX1_tell_91 (by decide) ?_
              refine s_iastore C 216 ((s * 9) + a) rfl rfl (by omega) (by decide) (ih_ltN (by omega)) rfl dX1_tell_92 ?_
              refine s_goto C 126 dX1_tell_93 (by decide) ?_
              exact s_vreturn C hA dX1_tell_126 (by unfold ih_tv ih_tw; rw [if_pos (ih_tl1 hs ha (show a < 7 ∨ s % 4 = 1 by omega)), if_pos (ih_tl1 hs ha (show a < 7 ∨ s % 4 = 1 by omega)), (ih_tl3 hs ha (show a < 7 ∨ s % 4 = 1 by omega) (by omega)).1, (ih_tl3 hs ha (show a < 7 ∨ s % 4 = 1 by omega) (by omega)).2])
          · replace h50 := ih_b0 hrk h50
            refine s_aload_n C 3 dX1_tell_53 rfl ?_
            refine s_getR C 1 0 hp1 (ih_ltN (by omega)) rfl (by decide) rfl (fun _ h => List.mem_cons_of_mem _ (List.mem_append_right _ h)) (by decide) rfl (by decide +kernel) dX1_tell_54 ?_
            refine s_iload_n C 2 dX1_tell_57 rfl ?_
            refine s_ldc (v := (-1000000)) C (by decide +kernel) dX1_tell_58 ?_
            refine s_iastore C 216 ((s * 9) + a) rfl rfl (by omega) (by decide) (ih_ltN (by omega)) rfl dX1_tell_60 ?_
            refine s_aload_n C 3 dX1_tell_61 rfl ?_
            refine s_getR C 1 1 hp2 (ih_ltN (by omega)) rfl (by decide) rfl (fun _ h => List.mem_cons_of_mem _ (List.mem_append_right _ h)) (by decide) rfl (by decide +kernel) dX1_tell_62 ?_
            refine s_iload_n C 2 dX1_tell_65 rfl ?_
            refine s_ldc (v := (-1000000)) C (by decide +kernel) dX1_tell_66 ?_
            refine s_iastore C 216 ((s * 9) + a) rfl rfl (by omega) (by decide) (ih_ltN (by omega)) rfl dX1_tell_68 ?_
            refine s_goto C 126 dX1_tell_69 (by decide) ?_
            exact s_vreturn C hA dX1_tell_126 (by unfold ih_tv ih_tw; rw [if_neg (ih_tl2 (by omega) (by omega)), if_neg (ih_tl2 (by omega) (by omega))])

/-- the tables of the bases as they are told -/
def ih_BT (Sb S : ih_Sg) (n m : Nat) : Prop := S.2 = Sb.2 ∧ (∀ k, k ≠ 44 → k ≠ 45 → S.1 k = Sb.1 k) ∧ ∀ z y, z < 24 → y < 9 → (z < n ∨ (z = n ∧ y < m)) → S.1 44 (z * 9 + y) = ih_tv z y ∧ S.1 45 (z * 9 + y) = ih_tw z y
theorem ih_BT_w {Sb S : ih_Sg} {n m : Nat} (h : ih_BT Sb S n m) (hn : n < 24) (hm : m < 9) : ih_BT Sb (ih_sI (ih_sI S 44 (n * 9 + m) (ih_tv n m)) 45 (n * 9 + m) (ih_tw n m)) n (m + 1) := by
  refine ⟨h.1, fun k h1 h2 => ((ih_sI_row h2).trans (ih_sI_row h1)).trans (h.2.1 k h1 h2), fun z y hz hy hc => ?_⟩
  by_cases e : z = n ∧ y = m
  · rw [e.1, e.2, ih_sI_s, ih_sI_row (by decide), ih_sI_s]; exact ⟨rfl, rfl⟩
  · have h3 := h.2.2 z y hz hy (by omega)
    rw [ih_sI_row (by decide), ih_sI_j (by omega), ih_sI_j (by omega), ih_sI_row (by decide)]
    exact h3
theorem ih_BT_n {Sb S : ih_Sg} {n : Nat} (h : ih_BT Sb S n 9) : ih_BT Sb S (n + 1) 0 := ⟨h.1, h.2.1, fun z y hz hy hc => h.2.2 z y hz hy (by omega)⟩
theorem ih_BT_b {Sb S : ih_Sg} (h : ih_BT Sb S 24 0) : rx_b S.1 := fun s hs a ha => h.2.2 s a hs ha (by omega)
set_option maxHeartbeats 4000000 in
set_option maxRecDepth 100000 in
theorem c_X1_init (l : Launch) (w0 : ih_Wd) (S : ih_Sg) (hv : ih_vg S (44)) : ih_Cc l yX1_init wsX1_init 4 2 432 w0 ih_shX (44) (46) ih_E0 [.ref (w0.2.2 43)] S (fun u => ih_BT (ih_sR (ih_sR S 43 0 (some 44)) 43 1 (some 45)) u.1 24 0 ∧ ih_vg u.1 46) := by
  refine ih_bodyc rfl rfl (Nat.le_of_ble_eq_true rfl) rfl ?_
  intro x A hA C hin hEE
  obtain ⟨Q, hQ⟩ : ∃ Q, Q = ih_QG x w0 ih_shX (44) (46) 2 432 A (fun u => ih_BT (ih_sR (ih_sR S 43 0 (some 44)) 43 1 (some 45)) u.1 24 0 ∧ ih_vg u.1 46) := ⟨_, rfl⟩
  suffices HH : ∀ w : ih_Wd, w.1 = w0.1 → w.2.1 = w0.2.1 → (∀ kq, kq < 44 → w0.2.2 kq = w.2.2 kq) → ih_Ok x w A cX1_init 3 RX1 wsX1_init (ih_rmC 4 2 432) none → ih_Mw x w (ih_shN ih_shX (44)) A Q 3 0 0 0 [(0, .ref (w.2.2 43))] [] S by
    have h0 := HH w0 rfl rfl (fun _ _ => rfl) C
    rw [hQ] at h0
    exact h0
  intro w hE1 hE2 hag0 C
  refine s_aload_n C 0 dX1_init_0 rfl ?_
  refine s_obj C (by decide +kernel) (by decide +kernel) (by decide +kernel) (by decide) (by decide) dX1_init_1 ?_
  refine s_aload_n C 0 dX1_init_4 rfl ?_
  refine s_sipush (v := nI 216) C dX1_init_5 (by decide) ?_
  refine s_newI (n := 44) (N := 216) C hv rfl rfl rfl (by decide) (by decide +kernel) (by decide) dX1_init_8 ?_
  intro w ew1 ew2 hag
  replace C := ih_Ok_w ew1 ew2 C
  replace hE1 := ew1.trans hE1
  replace hE2 := ew2.trans hE2
  replace hag0 := fun kq (hkq : kq < 44) => (hag0 kq hkq).trans (hag kq (by omega))
  rw [hag (43) (by omega)]
  replace hv := vg_up (m := 45) hv (by omega)
  refine s_putF (ty := .array .int) C 1 0 tyX1 tyX1_ok nmX1 (ih_ltN (by omega)) rfl (by decide) rfl (fun _ h => List.mem_cons_of_mem _ (List.mem_append_right _ h)) (by decide) rfl (by decide +kernel) rfl hin rfl (by decide +kernel) rfl rfl dX1_init_10 ?_
  replace hv := vg_R (k := 43) (j := 0) (i := 44) hv (by omega) (by omega)
  refine s_aload_n C 0 dX1_init_13 rfl ?_
  refine s_sipush (v := nI 216) C dX1_init_14 (by decide) ?_
  refine s_newI (n := 45) (N := 216) C hv rfl rfl rfl (by decide) (by decide +kernel) (by decide) dX1_init_17 ?_
  intro w ew1 ew2 hag
  replace C := ih_Ok_w ew1 ew2 C
  replace hE1 := ew1.trans hE1
  replace hE2 := ew2.trans hE2
  replace hag0 := fun kq (hkq : kq < 44) => (hag0 kq hkq).trans (hag kq (by omega))
  rw [hag (43) (by omega)]
  replace hv := vg_up (m := 46) hv (by omega)
  refine s_putF (ty := .array .int) C 1 1 tyX1 tyX1_ok nmX1 (ih_ltN (by omega)) rfl (by decide) rfl (fun _ h => List.mem_cons_of_mem _ (List.mem_append_right _ h)) (by decide) rfl (by decide +kernel) rfl hin rfl (by decide +kernel) rfl rfl dX1_init_19 ?_
  replace hv := vg_R (k := 43) (j := 1) (i := 45) hv (by omega) (by omega)
  obtain ⟨Sb, hSb⟩ : ∃ Sb, Sb = ih_sR (ih_sR S 43 0 (some 44)) 43 1 (some 45) := ⟨_, rfl⟩
  rw [← hSb] at hv ⊢
  have hq1 : Sb.2.2 43 0 = some 44 := by rw [hSb]; rfl
  have hq2 : Sb.2.2 43 1 = some 45 := by rw [hSb]; rfl
  have hvE := hSb
  refine s_iconst (v := nI 0) C dX1_init_22 (by decide) ?_
  refine s_istore_n (lv' := [(1, .int (nI 0)), (0, .ref (w.2.2 43))]) C dX1_init_23 rfl (by decide) rfl ?_
  have hx_24 : ∀ S, (ih_BT Sb S (24) 0 ∧ ih_vg S 46) → ih_Mw x w (ih_shN ih_shX 46) A Q 3 2 432 56 [(0, .ref (w.2.2 43))] [] S := by
    intro S ⟨hE, hv⟩
    rw [hQ]
    exact s_vretG C hA hE1 hE2 hag0 dX1_init_56 ⟨by rw [← hSb]; exact hE, hv⟩
  have loop_24 : ∀ (fu s : Nat), s + fu = 24 → ∀ S, (ih_BT Sb S (s) 0 ∧ ih_vg S 46) → ih_Mw x w (ih_shN ih_shX 46) A Q 3 2 432 24 [(0, .ref (w.2.2 43)), (1, .int (nI s))] [] S := by
    intro fu
    induction fu with
    | zero =>
      intro s hse S ⟨hE, hv⟩
      have hs0 : s = 24 := by omega
      refine s_iload_n C 1 dX1_init_24 rfl ?_
      refine s_bipush (v := nI 24) C dX1_init_25 (by decide) ?_
      refine s_icmp_geN 56 C dX1_init_27 (by decide) (by omega) (by omega) (fun h27 => ?_) (fun h27 => ?_)
      · refine s_perm [0] rfl ?_
        subst hs0
        exact hx_24 _ ⟨hE, hv⟩
      · exfalso; omega
    | succ fu ih_24 =>
      intro s hse S ⟨hE, hv⟩
      have hsl : s < 24 := by omega
      refine s_iload_n C 1 dX1_init_24 rfl ?_
      refine s_bipush (v := nI 24) C dX1_init_25 (by decide) ?_
      refine s_icmp_geN 56 C dX1_init_27 (by decide) (by omega) (by omega) (fun h27 => ?_) (fun h27 => ?_)
      · exfalso; omega
      · refine s_iconst (v := nI 0) C dX1_init_30 (by decide) ?_
        refine s_istore_n (lv' := [(2, .int (nI 0)), (0, .ref (w.2.2 43)), (1, .int (nI s))]) C dX1_init_31 rfl (by decide) rfl ?_
        have hx_32 : ∀ S, (ih_BT Sb S s (9) ∧ ih_vg S 46) → ih_Mw x w (ih_shN ih_shX 46) A Q 3 2 432 50 [(0, .ref (w.2.2 43)), (1, .int (nI s))] [] S := by
          intro S ⟨hE, hv⟩
          refine s_iinc (u := nI (s + 1)) (lv' := [(1, .int (nI (s + 1))), (0, .ref (w.2.2 43))]) C 1 dX1_init_50 rfl (ih_incN (by decide)) (by decide) rfl ?_
          refine s_goto C 24 dX1_init_53 (by decide) ?_
          refine s_perm [1, 0] rfl ?_
          exact ih_24 (s + 1) (by omega) _ ⟨ih_BT_n hE, hv⟩
        have loop_32 : ∀ (fu a : Nat), a + fu = 9 → ∀ S, (ih_BT Sb S s (a) ∧ ih_vg S 46) → ih_Mw x w (ih_shN ih_shX 46) A Q 3 2 432 32 [(0, .ref (w.2.2 43)), (1, .int (nI s)), (2, .int (nI a))] [] S := by
          intro fu
          induction fu with
          | zero =>
            intro a hae S ⟨hE, hv⟩
            have ha0 : a = 9 := by omega
            refine s_iload_n C 2 dX1_init_32 rfl ?_
            refine s_bipush (v := nI 8) C dX1_init_33 (by decide) ?_
            refine s_icmp_gtN 50 C dX1_init_35 (by decide) (by omega) (by omega) (fun h35 => ?_) (fun h35 => ?_)
            · refine s_perm [0, 1] rfl ?_
              subst ha0
              exact hx_32 _ ⟨hE, hv⟩
            · exfalso; omega
          | succ fu ih_32 =>
            intro a hae S ⟨hE, hv⟩
            have hal : a < 9 := by omega
            refine s_iload_n C 2 dX1_init_32 rfl ?_
            refine s_bipush (v := nI 8) C dX1_init_33 (by decide) ?_
            refine s_icmp_gtN 50 C dX1_init_35 (by decide) (by omega) (by omega) (fun h35 => ?_) (fun h35 => ?_)
            · exfalso; omega
            · refine s_aload_n C 0 dX1_init_38 rfl ?_
              refine s_iload_n C 1 dX1_init_39 rfl ?_
              refine s_iload_n C 2 dX1_init_40 rfl ?_
              refine s_callVv 2 C (c_X1_tell _ w _ (by rw [hE.1]; exact hq1) (by rw [hE.1]; exact hq2) s a (by omega) (by omega)) gX1_init_X1_tell rfl (by decide +kernel) (by decide) (by decide) (ih_ltN (by omega)) rfl (by decide) rfl rfl rfl (Nat.le_of_ble_eq_true rfl) dX1_init_41 ?_
              rintro S2 hS2
              subst hS2
              refine s_iinc (u := nI (a + 1)) (lv' := [(2, .int (nI (a + 1))), (0, .ref (w.2.2 43)), (1, .int (nI s))]) C 2 dX1_init_44 rfl (ih_incN (by decide)) (by decide) rfl ?_
              refine s_goto C 32 dX1_init_47 (by decide) ?_
              refine s_perm [1, 2, 0] rfl ?_
              exact ih_32 (a + 1) (by omega) _ ⟨ih_BT_w hE (by omega) (by omega), vg_I (vg_I hv (by omega)) (by omega)⟩
        refine s_perm [1, 2, 0] rfl ?_
        exact loop_32 9 0 (by omega) _ ⟨hE, hv⟩
  refine s_perm [1, 0] rfl ?_
  exact loop_24 24 0 (by omega) _ ⟨⟨rfl, fun _ _ _ => rfl, fun z y _ _ hc => by omega⟩, hv⟩

