section IhMax
variable {x : ih_Cx} {w : ih_Wd} {sh : ih_Sh} {A : Nat → Prop} {Q : State → Prop} {cc : ByteArray} {nL : Nat} {own : String} {Ts : List Cond} {rm : Room} {ret : Option FieldType} {cells slots pc : Nat} {lv : List (Nat × Value)} {st : List Value} {S : ih_Sg}
theorem s_mmax (C : ih_Ok x w A cc nL own Ts rm ret) {index : Nat} {a b : Int32} (hlink : Cond.methodLink own index Lib.Math.max.name ∈ Ts) (hstat : Cond.static Lib.Math.max.name ∈ Ts) (hini : Cond.initialized "java/lang/Math" ∈ Ts) (hcode : Cond.code Lib.Math.max.name Lib.Math.max.code 2 (some .int) ∈ Ts) (hfr : 1 ≤ rm.frames) (hlo : (st.map fun v => v.category).sum + 13 ≤ rm.locals) (hcs : cells ≤ rm.cells ∧ slots ≤ rm.slots) (hd : decode cc pc = .ok (.invokestatic index, 3))
    (kk : ih_Mw x w sh A Q nL cells slots (pc + 3) lv (.int (if a < b then b else a) :: st) S) : ih_Mw x w sh A Q nL cells slots pc lv (.int b :: .int a :: st) S := fun H locs ls hP hD hS hl => va_mmax C.1.1 C.1.2.1 (C.1.2.2.1.trans hl.1.symm) C.1.2.2.2.1 (C.1.2.2.2.2 _ hlink) (C.1.2.2.2.2 _ hstat) (C.1.2.2.2.2 _ hini) (C.1.2.2.2.2 _ hcode) (by rw [C.2.2.2.2.1]; exact hfr) (by rw [C.2.2.2.2.1]; exact hlo) (by rw [C.2.2.2.2.1]; exact hcs.1) (by rw [C.2.2.2.2.1]; exact hcs.2) hd (kk H locs ls hP hD hS hl)
theorem s_mmin (C : ih_Ok x w A cc nL own Ts rm ret) {index : Nat} {a b : Int32} (hlink : Cond.methodLink own index Lib.Math.min.name ∈ Ts) (hstat : Cond.static Lib.Math.min.name ∈ Ts) (hini : Cond.initialized "java/lang/Math" ∈ Ts) (hcode : Cond.code Lib.Math.min.name Lib.Math.min.code 2 (some .int) ∈ Ts) (hfr : 1 ≤ rm.frames) (hlo : (st.map fun v => v.category).sum + 13 ≤ rm.locals) (hcs : cells ≤ rm.cells ∧ slots ≤ rm.slots) (hd : decode cc pc = .ok (.invokestatic index, 3))
    (kk : ih_Mw x w sh A Q nL cells slots (pc + 3) lv (.int (if b < a then b else a) :: st) S) : ih_Mw x w sh A Q nL cells slots pc lv (.int b :: .int a :: st) S := fun H locs ls hP hD hS hl => va_mmin C.1.1 C.1.2.1 (C.1.2.2.1.trans hl.1.symm) C.1.2.2.2.1 (C.1.2.2.2.2 _ hlink) (C.1.2.2.2.2 _ hstat) (C.1.2.2.2.2 _ hini) (C.1.2.2.2.2 _ hcode) (by rw [C.2.2.2.2.1]; exact hfr) (by rw [C.2.2.2.2.1]; exact hlo) (by rw [C.2.2.2.2.1]; exact hcs.1) (by rw [C.2.2.2.2.1]; exact hcs.2) hd (kk H locs ls hP hD hS hl)
end IhMax
/-- a game's row behind: WIN with n strikes left, of the half whose striking team is par -/
def ih_MW (S : ih_Sg) (T : ih_TT) (par kv : Nat) (st : Nat → Nat) (n : Nat) : Prop := ih_RX S T ∧ par < 2 ∧ (kv = 56 ∨ kv = 57) ∧ S.2.2 53 6 = some kv ∧ S.1 53 7 = nI par ∧ (∀ L, L ≤ 18 → st L ≤ 1000000) ∧ ∀ L s, L ≤ 18 → s < 25 → S.1 kv (L * 25 + s) = nI (ih_half (ih_cg T par) par st n L s)
theorem rx_b_m {I : Nat → Nat → Int32} (h : rx_b I) {s a : Nat} (hs : s < 24) (ha : a < 9) (hm : ih_may s a = true) : I 44 (s * 9 + a) = nI (ih_nx s a) ∧ I 45 (s * 9 + a) = nI (ih_rn s a) := by
  have q := h s hs a ha
  rw [if_pos hm, if_pos hm] at q
  exact q
theorem ih_ifl {a b c d : Nat} (ha : a < 2147483648) (hb : b < 2147483648) : (if nI a < nI b then nI c else nI d) = nI (if a < b then c else d) := by
  by_cases h : a < b
  · rw [if_pos h, if_pos ((ih_lt ha hb).mpr h)]
  · rw [if_neg h, if_neg (fun z => h ((ih_lt ha hb).mp z))]
theorem ih_may_6 {s a : Nat} (h : a < 7) : ih_may s a = true := by unfold ih_may; rw [decide_eq_true h]; rfl
theorem ih_may_7 {s a : Nat} (h : s % 4 = 1) : ih_may s a = true := by unfold ih_may; rw [decide_eq_true h]; exact Bool.or_true _
theorem ih_beh_le {T : ih_TT} (hI : ih_Inv T) (hT : ih_HT T) {par : Nat} (hp : par < 2) {st : Nat → Nat} (hst : ∀ L, L ≤ 18 → st L ≤ 1000000) {n L s a : Nat} (hL : L ≤ 18) : ih_beh (ih_cg T par) par st n L s a ≤ 1000000 := ih_half_le (ih_cg_ok hI hT par hp).1 (ih_cg_ok hI hT par hp).2 hst _ _ _ (ih_ld_le hL)
set_option maxHeartbeats 4000000 in
set_option maxRecDepth 100000 in
theorem c_X4_winAfter (l : Launch) (w : ih_Wd) (S : ih_Sg) (T : ih_TT) (hI : ih_Inv T) (hT : ih_HT T) (par kv n : Nat) (st : Nat → Nat) (hW : ih_MW S T par kv st n) (L s : Nat) (hL : L ≤ 18) (hs : s < 24) (a : Nat) (ha : a < 9) (hm : ih_may s a = true) : ih_Ci l yX4_winAfter wsX4_winAfter 0 w ih_shX [.ref (w.2.2 53), .int (nI L), .int (nI s), .int (nI a)] S (fun r S' => r = nI (ih_beh (ih_cg T par) par st n L s a) ∧ S' = S) := by
  refine ih_bodyi (ret := some .int) rfl rfl (Nat.le_of_ble_eq_true rfl) ?_
  intro x A hA C
  have C : ih_Ok x w A cX4_winAfter 6 RX4 wsX4_winAfter (ih_rm 0) (some .int) := C
  show ih_Mw x w ih_shX A (ih_Qi x w ih_shX A _) 6 0 0 0 [(0, .ref (w.2.2 53)), (1, .int (nI L)), (2, .int (nI s)), (3, .int (nI a))] [] S
  have hkvd : ih_shX.1 kv = 9 := by rcases hW.2.2.1 with rfl | rfl <;> rfl
  have hkvl : ih_shX.2.1 kv = 475 := by rcases hW.2.2.1 with rfl | rfl <;> rfl
  have hp := hW.1.1
  have hb := hW.1.2.2.2.2.2.2.2.2.2.1
  have hkv := hW.2.2.1
  have hpar := hW.2.1
  refine s_iload_n C 2 dX4_winAfter_0 rfl ?_
  refine s_bipush (v := nI 9) C dX4_winAfter_1 (by decide) ?_
  refine s_imulN C dX4_winAfter_3 ?_
  refine s_iload_n C 3 dX4_winAfter_4 rfl ?_
  refine s_iaddN C dX4_winAfter_5 ?_
  refine s_istore (lv' := [(4, .int (nI ((s * 9) + a))), (0, .ref (w.2.2 53)), (1, .int (nI L)), (2, .int (nI s)), (3, .int (nI a))]) C dX4_winAfter_6 (by decide) rfl ?_
  refine s_aload_n C 1 dX4_winAfter_8 rfl ?_
  refine s_getI C 4 7 (by decide) rfl (by decide) rfl (fun _ h => List.mem_cons_of_mem _ (List.mem_append_left _ (List.mem_append_right _ h))) (by decide) rfl (by decide +kernel) dX4_winAfter_9 ?_
  refine s_toe hW.2.2.2.2.1 ?_
  refine s_if_neN 30 C dX4_winAfter_12 (by decide) (by omega) (fun h12 => ?_) (fun h12 => ?_)
  · refine s_iload_n C 2 dX4_winAfter_30 rfl ?_
    refine s_aload_n C 1 dX4_winAfter_31 rfl ?_
    refine s_getR C 4 0 (hp _ _ _ rfl) (by decide) rfl (by decide) rfl (fun _ h => List.mem_cons_of_mem _ (List.mem_append_left _ (List.mem_append_right _ h))) (by decide) rfl (by decide +kernel) dX4_winAfter_32 ?_
    refine s_getR C 1 1 (hp _ _ _ rfl) (by decide) rfl (by decide) rfl (fun _ h => List.mem_cons_of_mem _ (List.mem_append_right _ h)) (by decide) rfl (by decide +kernel) dX4_winAfter_35 ?_
    refine s_iload C 0 dX4_winAfter_38 rfl ?_
    refine s_iaload C 216 ((s * 9) + a) rfl rfl (by omega) (by decide) (by decide) rfl dX4_winAfter_40 ?_
    refine s_toe (b := nI (ih_rn s a)) (rx_b_m hb hs ha hm).2 ?_
    have hrn := ih_rn_le s hs a ha
    refine s_isub C dX4_winAfter_41  ?_
    by_cases hof : ih_rn s a ≤ L
    · refine s_toe (pk_sub hof) ?_
      refine s_istore (lv' := [(5, .int (nI (L - ih_rn s a))), (4, .int (nI ((s * 9) + a))), (0, .ref (w.2.2 53)), (1, .int (nI L)), (2, .int (nI s)), (3, .int (nI a))]) C dX4_winAfter_42 (by decide) rfl ?_
      refine s_iload C 0 dX4_winAfter_44 rfl ?_
      refine s_if_geN 55 C dX4_winAfter_46 (by decide) (by omega) (fun h46 => ?_) (fun h46 => ?_)
      · refine s_iload C 0 dX4_winAfter_55 rfl ?_
        refine s_bipush (v := nI 19) C dX4_winAfter_57 (by decide) ?_
        refine s_icmp_ltN 66 C dX4_winAfter_59 (by decide) (by omega) (by omega) (fun h59 => ?_) (fun h59 => ?_)
        · rw [show nI (L - ih_rn s a) = nI (ih_ld par L (ih_rn s a)) from congrArg nI (by rw [ih_ld, if_neg h12])]
          refine s_aload_n C 2 dX4_winAfter_66 rfl ?_
          refine s_getR C 4 6 hW.2.2.2.1 (by decide) rfl (by decide) rfl (fun _ h => List.mem_cons_of_mem _ (List.mem_append_left _ (List.mem_append_right _ h))) (by decide) rfl (by decide +kernel) dX4_winAfter_67 ?_
          refine s_iload C 0 dX4_winAfter_70 rfl ?_
          refine s_bipush (v := nI 25) C dX4_winAfter_72 (by decide) ?_
          refine s_imulN C dX4_winAfter_74 ?_
          refine s_aload_n C 2 dX4_winAfter_75 rfl ?_
          refine s_getR C 4 0 (hp _ _ _ rfl) (by decide) rfl (by decide) rfl (fun _ h => List.mem_cons_of_mem _ (List.mem_append_left _ (List.mem_append_right _ h))) (by decide) rfl (by decide +kernel) dX4_winAfter_76 ?_
          refine s_getR C 1 0 (hp _ _ _ rfl) (by decide) rfl (by decide) rfl (fun _ h => List.mem_cons_of_mem _ (List.mem_append_right _ h)) (by decide) rfl (by decide +kernel) dX4_winAfter_79 ?_
          refine s_iload C 1 dX4_winAfter_82 rfl ?_
          refine s_iaload C 216 ((s * 9) + a) rfl rfl (by omega) (by decide) (by decide) rfl dX4_winAfter_84 ?_
          refine s_toe (b := nI (ih_nx s a)) (rx_b_m hb hs ha hm).1 ?_
          have hnx := ih_nx_le s hs a ha
          have hld := ih_ld_le (par := par) (r := ih_rn s a) hL
          refine s_iaddN C dX4_winAfter_85 ?_
          refine s_iaload C 475 (((ih_ld par L (ih_rn s a)) * 25) + (ih_nx s a)) rfl hkvl (by omega) (by decide) (show kv < 62 by omega) hkvd dX4_winAfter_86 ?_
          refine s_toe (b := nI (ih_beh (ih_cg T par) par st n L s a)) (hW.2.2.2.2.2.2 _ _ hld hnx) ?_
          exact s_ireturn C hA dX4_winAfter_87 ⟨rfl, rfl⟩
        · exfalso; omega
      · exfalso; omega
    · have hneg : (nI L - nI (ih_rn s a)).toInt < 0 := by rw [pk_sub_toInt (by omega) (by omega)]; omega
      refine s_istore (lv' := [(5, .int (nI L - nI (ih_rn s a))), (4, .int (nI ((s * 9) + a))), (0, .ref (w.2.2 53)), (1, .int (nI L)), (2, .int (nI s)), (3, .int (nI a))]) C dX4_winAfter_42 (by decide) rfl ?_
      refine s_iload C 0 dX4_winAfter_44 rfl ?_
      refine s_if_ge C 55 dX4_winAfter_46 (by decide) (fun h46 => ?_) (fun h46 => ?_)
      · simp only [ih_lei, ih_lti, ih_t0] at h46; exfalso; omega
      · simp only [ih_lei, ih_lti, ih_t0] at h46
        refine s_iconst (v := nI 0) C dX4_winAfter_49 (by decide) ?_
        refine s_istore (lv' := [(5, .int (nI 0)), (4, .int (nI ((s * 9) + a))), (0, .ref (w.2.2 53)), (1, .int (nI L)), (2, .int (nI s)), (3, .int (nI a))]) C dX4_winAfter_50 (by decide) rfl ?_
        refine s_goto C 66 dX4_winAfter_52 (by decide) ?_
        rw [show nI (0) = nI (ih_ld par L (ih_rn s a)) from congrArg nI (by rw [ih_ld, if_neg h12]; omega)]
        refine s_aload_n C 2 dX4_winAfter_66 rfl ?_
        refine s_getR C 4 6 hW.2.2.2.1 (by decide) rfl (by decide) rfl (fun _ h => List.mem_cons_of_mem _ (List.mem_append_left _ (List.mem_append_right _ h))) (by decide) rfl (by decide +kernel) dX4_winAfter_67 ?_
        refine s_iload C 0 dX4_winAfter_70 rfl ?_
        refine s_bipush (v := nI 25) C dX4_winAfter_72 (by decide) ?_
        refine s_imulN C dX4_winAfter_74 ?_
        refine s_aload_n C 2 dX4_winAfter_75 rfl ?_
        refine s_getR C 4 0 (hp _ _ _ rfl) (by decide) rfl (by decide) rfl (fun _ h => List.mem_cons_of_mem _ (List.mem_append_left _ (List.mem_append_right _ h))) (by decide) rfl (by decide +kernel) dX4_winAfter_76 ?_
        refine s_getR C 1 0 (hp _ _ _ rfl) (by decide) rfl (by decide) rfl (fun _ h => List.mem_cons_of_mem _ (List.mem_append_right _ h)) (by decide) rfl (by decide +kernel) dX4_winAfter_79 ?_
        refine s_iload C 1 dX4_winAfter_82 rfl ?_
        refine s_iaload C 216 ((s * 9) + a) rfl rfl (by omega) (by decide) (by decide) rfl dX4_winAfter_84 ?_
        refine s_toe (b := nI (ih_nx s a)) (rx_b_m hb hs ha hm).1 ?_
        have hnx := ih_nx_le s hs a ha
        have hld := ih_ld_le (par := par) (r := ih_rn s a) hL
        refine s_iaddN C dX4_winAfter_85 ?_
        refine s_iaload C 475 (((ih_ld par L (ih_rn s a)) * 25) + (ih_nx s a)) rfl hkvl (by omega) (by decide) (show kv < 62 by omega) hkvd dX4_winAfter_86 ?_
        refine s_toe (b := nI (ih_beh (ih_cg T par) par st n L s a)) (hW.2.2.2.2.2.2 _ _ hld hnx) ?_
        exact s_ireturn C hA dX4_winAfter_87 ⟨rfl, rfl⟩
  · refine s_iload_n C 2 dX4_winAfter_15 rfl ?_
    refine s_aload_n C 1 dX4_winAfter_16 rfl ?_
    refine s_getR C 4 0 (hp _ _ _ rfl) (by decide) rfl (by decide) rfl (fun _ h => List.mem_cons_of_mem _ (List.mem_append_left _ (List.mem_append_right _ h))) (by decide) rfl (by decide +kernel) dX4_winAfter_17 ?_
    refine s_getR C 1 1 (hp _ _ _ rfl) (by decide) rfl (by decide) rfl (fun _ h => List.mem_cons_of_mem _ (List.mem_append_right _ h)) (by decide) rfl (by decide +kernel) dX4_winAfter_20 ?_
    refine s_iload C 0 dX4_winAfter_23 rfl ?_
    refine s_iaload C 216 ((s * 9) + a) rfl rfl (by omega) (by decide) (by decide) rfl dX4_winAfter_25 ?_
    refine s_toe (b := nI (ih_rn s a)) (rx_b_m hb hs ha hm).2 ?_
    have hrn := ih_rn_le s hs a ha
    refine s_iaddN C dX4_winAfter_26 ?_
    refine s_goto C 42 dX4_winAfter_27 (by decide) ?_
    refine s_istore (lv' := [(5, .int (nI (L + (ih_rn s a)))), (4, .int (nI ((s * 9) + a))), (0, .ref (w.2.2 53)), (1, .int (nI L)), (2, .int (nI s)), (3, .int (nI a))]) C dX4_winAfter_42 (by decide) rfl ?_
    refine s_iload C 0 dX4_winAfter_44 rfl ?_
    refine s_if_geN 55 C dX4_winAfter_46 (by decide) (by omega) (fun h46 => ?_) (fun h46 => ?_)
    · refine s_iload C 0 dX4_winAfter_55 rfl ?_
      refine s_bipush (v := nI 19) C dX4_winAfter_57 (by decide) ?_
      refine s_icmp_ltN 66 C dX4_winAfter_59 (by decide) (by omega) (by omega) (fun h59 => ?_) (fun h59 => ?_)
      · rw [show nI (L + (ih_rn s a)) = nI (ih_ld par L (ih_rn s a)) from congrArg nI (by rw [ih_ld, if_pos h12, if_neg (by omega)])]
        refine s_aload_n C 2 dX4_winAfter_66 rfl ?_
        refine s_getR C 4 6 hW.2.2.2.1 (by decide) rfl (by decide) rfl (fun _ h => List.mem_cons_of_mem _ (List.mem_append_left _ (List.mem_append_right _ h))) (by decide) rfl (by decide +kernel) dX4_winAfter_67 ?_
        refine s_iload C 0 dX4_winAfter_70 rfl ?_
        refine s_bipush (v := nI 25) C dX4_winAfter_72 (by decide) ?_
        refine s_imulN C dX4_winAfter_74 ?_
        refine s_aload_n C 2 dX4_winAfter_75 rfl ?_
        refine s_getR C 4 0 (hp _ _ _ rfl) (by decide) rfl (by decide) rfl (fun _ h => List.mem_cons_of_mem _ (List.mem_append_left _ (List.mem_append_right _ h))) (by decide) rfl (by decide +kernel) dX4_winAfter_76 ?_
        refine s_getR C 1 0 (hp _ _ _ rfl) (by decide) rfl (by decide) rfl (fun _ h => List.mem_cons_of_mem _ (List.mem_append_right _ h)) (by decide) rfl (by decide +kernel) dX4_winAfter_79 ?_
        refine s_iload C 1 dX4_winAfter_82 rfl ?_
        refine s_iaload C 216 ((s * 9) + a) rfl rfl (by omega) (by decide) (by decide) rfl dX4_winAfter_84 ?_
        refine s_toe (b := nI (ih_nx s a)) (rx_b_m hb hs ha hm).1 ?_
        have hnx := ih_nx_le s hs a ha
        have hld := ih_ld_le (par := par) (r := ih_rn s a) hL
        refine s_iaddN C dX4_winAfter_85 ?_
        refine s_iaload C 475 (((ih_ld par L (ih_rn s a)) * 25) + (ih_nx s a)) rfl hkvl (by omega) (by decide) (show kv < 62 by omega) hkvd dX4_winAfter_86 ?_
        refine s_toe (b := nI (ih_beh (ih_cg T par) par st n L s a)) (hW.2.2.2.2.2.2 _ _ hld hnx) ?_
        exact s_ireturn C hA dX4_winAfter_87 ⟨rfl, rfl⟩
      · refine s_bipush (v := nI 18) C dX4_winAfter_62 (by decide) ?_
        refine s_istore (lv' := [(5, .int (nI 18)), (4, .int (nI ((s * 9) + a))), (0, .ref (w.2.2 53)), (1, .int (nI L)), (2, .int (nI s)), (3, .int (nI a))]) C dX4_winAfter_64 (by decide) rfl ?_
        rw [show nI (18) = nI (ih_ld par L (ih_rn s a)) from congrArg nI (by rw [ih_ld, if_pos h12, if_pos (by omega)])]
        refine s_aload_n C 2 dX4_winAfter_66 rfl ?_
        refine s_getR C 4 6 hW.2.2.2.1 (by decide) rfl (by decide) rfl (fun _ h => List.mem_cons_of_mem _ (List.mem_append_left _ (List.mem_append_right _ h))) (by decide) rfl (by decide +kernel) dX4_winAfter_67 ?_
        refine s_iload C 0 dX4_winAfter_70 rfl ?_
        refine s_bipush (v := nI 25) C dX4_winAfter_72 (by decide) ?_
        refine s_imulN C dX4_winAfter_74 ?_
        refine s_aload_n C 2 dX4_winAfter_75 rfl ?_
        refine s_getR C 4 0 (hp _ _ _ rfl) (by decide) rfl (by decide) rfl (fun _ h => List.mem_cons_of_mem _ (List.mem_append_left _ (List.mem_append_right _ h))) (by decide) rfl (by decide +kernel) dX4_winAfter_76 ?_
        refine s_getR C 1 0 (hp _ _ _ rfl) (by decide) rfl (by decide) rfl (fun _ h => List.mem_cons_of_mem _ (List.mem_append_right _ h)) (by decide) rfl (by decide +kernel) dX4_winAfter_79 ?_
        refine s_iload C 1 dX4_winAfter_82 rfl ?_
        refine s_iaload C 216 ((s * 9) + a) rfl rfl (by omega) (by decide) (by decide) rfl dX4_winAfter_84 ?_
        refine s_toe (b := nI (ih_nx s a)) (rx_b_m hb hs ha hm).1 ?_
        have hnx := ih_nx_le s hs a ha
        have hld := ih_ld_le (par := par) (r := ih_rn s a) hL
        refine s_iaddN C dX4_winAfter_85 ?_
        refine s_iaload C 475 (((ih_ld par L (ih_rn s a)) * 25) + (ih_nx s a)) rfl hkvl (by omega) (by decide) (show kv < 62 by omega) hkvd dX4_winAfter_86 ?_
        refine s_toe (b := nI (ih_beh (ih_cg T par) par st n L s a)) (hW.2.2.2.2.2.2 _ _ hld hnx) ?_
        exact s_ireturn C hA dX4_winAfter_87 ⟨rfl, rfl⟩
    · exfalso; omega

set_option maxHeartbeats 4000000 in
set_option maxRecDepth 100000 in
theorem c_X4_winByStrike (l : Launch) (w : ih_Wd) (Sb0 : ih_Sg) (T : ih_TT) (hI : ih_Inv T) (hT : ih_HT T) (par kv n : Nat) (st : Nat → Nat) (hW : ih_MW Sb0 T par kv st n) (L s : Nat) (hL : L ≤ 18) (hs : s < 24) : ih_Ci l yX4_winByStrike wsX4_winByStrike 1 w ih_shX [.ref (w.2.2 53), .int (nI L), .int (nI s)] Sb0 (fun r S' => r = nI (ih_v0 (ih_cg T par) par st n L s) ∧ S' = Sb0) := by
  refine ih_bodyi (ret := some .int) rfl rfl (Nat.le_of_ble_eq_true rfl) ?_
  intro x A hA C
  have C : ih_Ok x w A cX4_winByStrike 6 RX4 wsX4_winByStrike (ih_rm 1) (some .int) := C
  show ih_Mw x w ih_shX A (ih_Qi x w ih_shX A _) 6 0 0 0 [(0, .ref (w.2.2 53)), (1, .int (nI L)), (2, .int (nI s))] [] Sb0
  obtain ⟨Q, hQ⟩ : ∃ Q, Q = ih_Qi x w ih_shX A (fun r S' => r = nI (ih_v0 (ih_cg T par) par st n L s) ∧ S' = Sb0) := ⟨_, rfl⟩
  rw [show ih_Qi x w ih_shX A _ = Q from hQ.symm]
  have hkvd : ih_shX.1 kv = 9 := by rcases hW.2.2.1 with rfl | rfl <;> rfl
  have hkvl : ih_shX.2.1 kv = 475 := by rcases hW.2.2.1 with rfl | rfl <;> rfl
  have hp := hW.1.1
  have hb := hW.1.2.2.2.2.2.2.2.2.2.1
  have hkv := hW.2.2.1
  have hpar := hW.2.1
  have hst := hW.2.2.2.2.2.1
  obtain ⟨kn, hkn⟩ : ∃ kn, kn = ih_tm T par := ⟨_, rfl⟩
  have hknc : kn < ih_ct T := by rw [hkn]; exact (hT par hpar).2
  have hct : ih_ct T ≤ 12 := hI.2.1.2.1
  have hkn12 : kn < 12 := by omega
  have hcg : ∀ a, ih_ch T kn a = ih_cg T par a := fun a => by rw [hkn]; rfl
  refine s_aload_n C 0 dX4_winByStrike_0 rfl ?_
  refine s_getR C 4 1 (hp _ _ _ rfl) (by decide) rfl (by decide) rfl (fun _ h => List.mem_cons_of_mem _ (List.mem_append_left _ (List.mem_append_left _ (List.mem_append_right _ h)))) (by decide) rfl (by decide +kernel) dX4_winByStrike_1 ?_
  refine s_aload_n C 0 dX4_winByStrike_4 rfl ?_
  refine s_getR C 4 2 (hp _ _ _ rfl) (by decide) rfl (by decide) rfl (fun _ h => List.mem_cons_of_mem _ (List.mem_append_left _ (List.mem_append_left _ (List.mem_append_right _ h)))) (by decide) rfl (by decide +kernel) dX4_winByStrike_5 ?_
  refine s_aload_n C 0 dX4_winByStrike_8 rfl ?_
  refine s_getI C 4 7 (by decide) rfl (by decide) rfl (fun _ h => List.mem_cons_of_mem _ (List.mem_append_left _ (List.mem_append_left _ (List.mem_append_right _ h)))) (by decide) rfl (by decide +kernel) dX4_winByStrike_9 ?_
  refine s_toe hW.2.2.2.2.1 ?_
  refine s_iaload C 2 (par) rfl rfl (by omega) (by decide) (by decide) rfl dX4_winByStrike_12 ?_
  refine s_toe (b := nI kn) ((hW.1.2.2.2.2.2.2.2.1 par hpar).trans ((hT par hpar).1.trans (by rw [hkn]))) ?_
  refine s_aaload C 12 (kn) (hp _ _ _ (ih_pX_st hkn12)) rfl rfl (by omega) (by decide) (by decide) rfl (by decide) dX4_winByStrike_13 ?_
  refine s_getR C 6 0 (hp _ _ _ (ih_pX_ch hkn12)) (by show 19 + 2 * kn < 62; omega) (ih_kX_st hkn12) (by decide) rfl (fun _ h => List.mem_cons_of_mem _ (List.mem_append_left _ (List.mem_append_right _ h))) (by decide) rfl (by decide +kernel) dX4_winByStrike_14 ?_
  refine s_astore_n (lv' := [(3, .ref (w.2.2 (20 + 2 * kn))), (0, .ref (w.2.2 53)), (1, .int (nI L)), (2, .int (nI s))]) C dX4_winByStrike_17 rfl (by decide) rfl ?_
  refine s_iconst (v := nI 0) C dX4_winByStrike_18 (by decide) ?_
  refine s_istore (lv' := [(4, .int (nI 0)), (3, .ref (w.2.2 (20 + 2 * kn))), (0, .ref (w.2.2 53)), (1, .int (nI L)), (2, .int (nI s))]) C dX4_winByStrike_19 (by decide) rfl ?_
  refine s_iconst (v := nI 0) C dX4_winByStrike_21 (by decide) ?_
  refine s_istore (lv' := [(5, .int (nI 0)), (4, .int (nI 0)), (3, .ref (w.2.2 (20 + 2 * kn))), (0, .ref (w.2.2 53)), (1, .int (nI L)), (2, .int (nI s))]) C dX4_winByStrike_22 (by decide) rfl ?_
  have hx_24 : ∀ S, S = Sb0 → ih_Mw x w ih_shX A Q 6 0 0 61 [(0, .ref (w.2.2 53)), (1, .int (nI L)), (2, .int (nI s)), (3, .ref (w.2.2 (20 + 2 * kn))), (4, .int (nI (ih_sum (ih_wf (ih_cg T par) par st n L s) (6))))] [] S := by
    intro S hSS
    obtain rfl := hSS.symm
    have hsb := ih_wf_le (par := par) (n := n) (s := s) (ih_cg_ok hI hT par hpar).1 (ih_cg_ok hI hT par hpar).2 hst hL (Nat.le_refl 6)
    refine s_iload C 4 dX4_winByStrike_61 rfl ?_
    refine s_sipush (v := nI 1000) C dX4_winByStrike_63 (by decide) ?_
    refine s_idivN C dX4_winByStrike_66 (by omega) (by omega) (by omega) ?_
    rw [hQ]
    exact s_ireturn C hA dX4_winByStrike_67 ⟨by rw [ih_v0], rfl⟩
  have loop_24 : ∀ (fu a : Nat), a + fu = 6 → ∀ S, S = Sb0 → ih_Mw x w ih_shX A Q 6 0 0 24 [(0, .ref (w.2.2 53)), (1, .int (nI L)), (2, .int (nI s)), (3, .ref (w.2.2 (20 + 2 * kn))), (4, .int (nI (ih_sum (ih_wf (ih_cg T par) par st n L s) (a)))), (5, .int (nI a))] [] S := by
    intro fu
    induction fu with
    | zero =>
      intro a hae S hSS
      have ha0 : a = 6 := by omega
      refine s_iload C 5 dX4_winByStrike_24 rfl ?_
      refine s_iconst (v := nI 5) C dX4_winByStrike_26 (by decide) ?_
      refine s_icmp_gtN 61 C dX4_winByStrike_27 (by decide) (by omega) (by omega) (fun h27 => ?_) (fun h27 => ?_)
      · refine s_perm [0, 1, 2, 3, 4] rfl ?_
        subst ha0
        exact hx_24 _ hSS
      · exfalso; omega
    | succ fu ih_24 =>
      intro a hae S hSS
      have hal : a < 6 := by omega
      obtain rfl := hSS.symm
      refine s_iload C 5 dX4_winByStrike_24 rfl ?_
      refine s_iconst (v := nI 5) C dX4_winByStrike_26 (by decide) ?_
      refine s_icmp_gtN 61 C dX4_winByStrike_27 (by decide) (by omega) (by omega) (fun h27 => ?_) (fun h27 => ?_)
      · exfalso; omega
      · refine s_aload_n C 3 dX4_winByStrike_30 rfl ?_
        refine s_iload C 5 dX4_winByStrike_31 rfl ?_
        refine s_iaload C 6 (a) rfl (ih_lX_ch hkn12) (by omega) (by decide) (by show 20 + 2 * kn < 62; omega) (ih_kX_ch hkn12) dX4_winByStrike_33 ?_
        refine s_toe (b := nI (ih_cg T par a)) (((ih_RX_c hW.1 hI hknc) a (by omega)).1.trans (by rw [hcg])) ?_
        have hcb : ih_cg T par a ≤ 1000 := by rw [← hcg]; exact ((ih_RX_c hW.1 hI hknc) a (by omega)).2
        refine s_if_leN 55 C dX4_winByStrike_34 (by decide) (by omega) (fun h34 => ?_) (fun h34 => ?_)
        · rw [show nI (ih_sum (ih_wf (ih_cg T par) par st n L s) (a)) = nI (ih_sum (ih_wf (ih_cg T par) par st n L s) (a + 1)) from congrArg nI (by show _ = ih_sum _ _ + ih_wf _ _ _ _ _ _ _; rw [ih_wf, show ih_cg T par a = 0 by omega, Nat.zero_mul, Nat.add_zero])]
          refine s_iinc (u := nI (a + 1)) (lv' := [(5, .int (nI (a + 1))), (0, .ref (w.2.2 53)), (1, .int (nI L)), (2, .int (nI s)), (3, .ref (w.2.2 (20 + 2 * kn))), (4, .int (nI (ih_sum (ih_wf (ih_cg T par) par st n L s) (a + 1))))]) C 5 dX4_winByStrike_55 rfl (ih_incN (by decide)) (by decide) rfl ?_
          refine s_goto C 24 dX4_winByStrike_58 (by decide) ?_
          refine s_perm [1, 2, 3, 4, 5, 0] rfl ?_
          exact ih_24 (a + 1) (by omega) _ rfl
        · refine s_iload C 4 dX4_winByStrike_37 rfl ?_
          refine s_aload_n C 3 dX4_winByStrike_39 rfl ?_
          refine s_iload C 5 dX4_winByStrike_40 rfl ?_
          refine s_iaload C 6 (a) rfl (ih_lX_ch hkn12) (by omega) (by decide) (by show 20 + 2 * kn < 62; omega) (ih_kX_ch hkn12) dX4_winByStrike_42 ?_
          refine s_toe (b := nI (ih_cg T par a)) (((ih_RX_c hW.1 hI hknc) a (by omega)).1.trans (by rw [hcg])) ?_
          have hcb : ih_cg T par a ≤ 1000 := by rw [← hcg]; exact ((ih_RX_c hW.1 hI hknc) a (by omega)).2
          refine s_aload_n C 0 dX4_winByStrike_43 rfl ?_
          refine s_iload_n C 1 dX4_winByStrike_44 rfl ?_
          refine s_iload_n C 2 dX4_winByStrike_45 rfl ?_
          refine s_iload C 5 dX4_winByStrike_46 rfl ?_
          refine s_callVi 3 C (c_X4_winAfter _ w _ T hI hT par kv n st hW L s hL hs a (by omega) (ih_may_6 (by omega))) gX4_winByStrike_X4_winAfter rfl (by decide +kernel) (by decide) (by decide) (by decide) rfl (by decide) rfl rfl rfl (Nat.le_of_ble_eq_true rfl) dX4_winByStrike_48 ?_
          rintro rb S2 ⟨hrb, hSS⟩
          obtain rfl := hSS.symm
          subst hrb
          have hbrb : ih_beh (ih_cg T par) par st n L s a ≤ 1000000 := ih_beh_le hI hT hpar hst hL
          refine s_imulN C dX4_winByStrike_51 ?_
          refine s_iaddN C dX4_winByStrike_52 ?_
          refine s_toe (b := nI (ih_sum (ih_wf (ih_cg T par) par st n L s) (a + 1))) rfl ?_
          refine s_istore (lv' := [(4, .int (nI (ih_sum (ih_wf (ih_cg T par) par st n L s) (a + 1)))), (0, .ref (w.2.2 53)), (1, .int (nI L)), (2, .int (nI s)), (3, .ref (w.2.2 (20 + 2 * kn))), (5, .int (nI a))]) C dX4_winByStrike_53 (by decide) rfl ?_
          refine s_iinc (u := nI (a + 1)) (lv' := [(5, .int (nI (a + 1))), (4, .int (nI (ih_sum (ih_wf (ih_cg T par) par st n L s) (a + 1)))), (0, .ref (w.2.2 53)), (1, .int (nI L)), (2, .int (nI s)), (3, .ref (w.2.2 (20 + 2 * kn)))]) C 5 dX4_winByStrike_55 rfl (ih_incN (by decide)) (by decide) rfl ?_
          refine s_goto C 24 dX4_winByStrike_58 (by decide) ?_
          refine s_perm [2, 3, 4, 5, 1, 0] rfl ?_
          exact ih_24 (a + 1) (by omega) _ rfl
  refine s_perm [3, 4, 5, 2, 1, 0] rfl ?_
  exact loop_24 6 0 (by omega) _ rfl

set_option maxHeartbeats 4000000 in
set_option maxRecDepth 100000 in
theorem c_X4_betterOf (l : Launch) (w : ih_Wd) (S : ih_Sg) (par u v : Nat) (h7 : S.1 53 7 = nI par) (hpar : par < 2) (hu : u ≤ 1000000) (hv : v ≤ 1000000) : ih_Ci l yX4_betterOf wsX4_betterOf 1 w ih_shX [.ref (w.2.2 53), .int (nI u), .int (nI v)] S (fun r S' => r = nI (ih_bt par u v) ∧ S' = S) := by
  refine ih_bodyi (ret := some .int) rfl rfl (Nat.le_of_ble_eq_true rfl) ?_
  intro x A hA C
  have C : ih_Ok x w A cX4_betterOf 3 RX4 wsX4_betterOf (ih_rm 1) (some .int) := C
  show ih_Mw x w ih_shX A (ih_Qi x w ih_shX A _) 3 0 0 0 [(0, .ref (w.2.2 53)), (1, .int (nI u)), (2, .int (nI v))] [] S
  refine s_aload_n C 0 dX4_betterOf_0 rfl ?_
  refine s_getI C 4 7 (by decide) rfl (by decide) rfl (fun _ h => List.mem_cons_of_mem _ (List.mem_append_right _ h)) (by decide) rfl (by decide +kernel) dX4_betterOf_1 ?_
  refine s_toe h7 ?_
  refine s_if_neN 15 C dX4_betterOf_4 (by decide) (by omega) (fun h4 => ?_) (fun h4 => ?_)
  · refine s_iload_n C 1 dX4_betterOf_15 rfl ?_
    refine s_iload_n C 2 dX4_betterOf_16 rfl ?_
    refine s_mmin C (by decide +kernel) (by decide +kernel) (by decide +kernel) (by decide +kernel) (by decide) (by decide) (by decide) dX4_betterOf_17 ?_
    exact s_ireturn C hA dX4_betterOf_20 ⟨by rw [ih_bt, if_neg h4, ih_ifl (by omega) (by omega)], rfl⟩
  · refine s_iload_n C 1 dX4_betterOf_7 rfl ?_
    refine s_iload_n C 2 dX4_betterOf_8 rfl ?_
    refine s_mmax C (by decide +kernel) (by decide +kernel) (by decide +kernel) (by decide +kernel) (by decide) (by decide) (by decide) dX4_betterOf_9 ?_
    refine s_goto C 20 dX4_betterOf_12 (by decide) ?_
    exact s_ireturn C hA dX4_betterOf_20 ⟨by rw [ih_bt, if_pos h4, ih_ifl (by omega) (by omega)], rfl⟩

set_option maxHeartbeats 4000000 in
set_option maxRecDepth 100000 in
theorem c_X4_winBySteal (l : Launch) (w : ih_Wd) (S : ih_Sg) (T : ih_TT) (hI : ih_Inv T) (hT : ih_HT T) (par kv n : Nat) (st : Nat → Nat) (hW : ih_MW S T par kv st n) (L s : Nat) (hL : L ≤ 18) (hs : s < 24) (h4 : s % 4 = 1) : ih_Ci l yX4_winBySteal wsX4_winBySteal 1 w ih_shX [.ref (w.2.2 53), .int (nI L), .int (nI s)] S (fun r S' => r = nI (ih_v2 (ih_cg T par) par st n L s) ∧ S' = S) := by
  refine ih_bodyi (ret := some .int) rfl rfl (Nat.le_of_ble_eq_true rfl) ?_
  intro x A hA C
  have C : ih_Ok x w A cX4_winBySteal 5 RX4 wsX4_winBySteal (ih_rm 1) (some .int) := C
  show ih_Mw x w ih_shX A (ih_Qi x w ih_shX A _) 5 0 0 0 [(0, .ref (w.2.2 53)), (1, .int (nI L)), (2, .int (nI s))] [] S
  have hkvd : ih_shX.1 kv = 9 := by rcases hW.2.2.1 with rfl | rfl <;> rfl
  have hkvl : ih_shX.2.1 kv = 475 := by rcases hW.2.2.1 with rfl | rfl <;> rfl
  have hp := hW.1.1
  have hb := hW.1.2.2.2.2.2.2.2.2.2.1
  have hkv := hW.2.2.1
  have hpar := hW.2.1
  have hst := hW.2.2.2.2.2.1
  obtain ⟨kn, hkn⟩ : ∃ kn, kn = ih_tm T par := ⟨_, rfl⟩
  have hknc : kn < ih_ct T := by rw [hkn]; exact (hT par hpar).2
  have hct : ih_ct T ≤ 12 := hI.2.1.2.1
  have hkn12 : kn < 12 := by omega
  have hcg : ∀ a, ih_ch T kn a = ih_cg T par a := fun a => by rw [hkn]; rfl
  refine s_aload_n C 0 dX4_winBySteal_0 rfl ?_
  refine s_getR C 4 1 (hp _ _ _ rfl) (by decide) rfl (by decide) rfl (fun _ h => List.mem_cons_of_mem _ (List.mem_append_left _ (List.mem_append_left _ (List.mem_append_right _ h)))) (by decide) rfl (by decide +kernel) dX4_winBySteal_1 ?_
  refine s_aload_n C 0 dX4_winBySteal_4 rfl ?_
  refine s_getR C 4 2 (hp _ _ _ rfl) (by decide) rfl (by decide) rfl (fun _ h => List.mem_cons_of_mem _ (List.mem_append_left _ (List.mem_append_left _ (List.mem_append_right _ h)))) (by decide) rfl (by decide +kernel) dX4_winBySteal_5 ?_
  refine s_aload_n C 0 dX4_winBySteal_8 rfl ?_
  refine s_getI C 4 7 (by decide) rfl (by decide) rfl (fun _ h => List.mem_cons_of_mem _ (List.mem_append_left _ (List.mem_append_left _ (List.mem_append_right _ h)))) (by decide) rfl (by decide +kernel) dX4_winBySteal_9 ?_
  refine s_toe hW.2.2.2.2.1 ?_
  refine s_iaload C 2 (par) rfl rfl (by omega) (by decide) (by decide) rfl dX4_winBySteal_12 ?_
  refine s_toe (b := nI kn) ((hW.1.2.2.2.2.2.2.2.1 par hpar).trans ((hT par hpar).1.trans (by rw [hkn]))) ?_
  refine s_aaload C 12 (kn) (hp _ _ _ (ih_pX_st hkn12)) rfl rfl (by omega) (by decide) (by decide) rfl (by decide) dX4_winBySteal_13 ?_
  refine s_getI C 6 1 (by show 19 + 2 * kn < 62; omega) (ih_kX_st hkn12) (by decide) rfl (fun _ h => List.mem_cons_of_mem _ (List.mem_append_left _ (List.mem_append_right _ h))) (by decide) rfl (by decide +kernel) dX4_winBySteal_14 ?_
  refine s_toe (b := nI (ih_cg T par 6)) ((ih_RX_6 hW.1 hI hknc).1.trans (by rw [hcg])) ?_
  have hc6 : ih_cg T par 6 ≤ 1000 := by rw [← hcg]; exact (ih_RX_6 hW.1 hI hknc).2
  refine s_istore_n (lv' := [(3, .int (nI (ih_cg T par 6))), (0, .ref (w.2.2 53)), (1, .int (nI L)), (2, .int (nI s))]) C dX4_winBySteal_17 rfl (by decide) rfl ?_
  refine s_iload_n C 0 dX4_winBySteal_18 rfl ?_
  refine s_aload_n C 1 dX4_winBySteal_19 rfl ?_
  refine s_iload_n C 2 dX4_winBySteal_20 rfl ?_
  refine s_iload_n C 3 dX4_winBySteal_21 rfl ?_
  refine s_bipush (v := nI 7) C dX4_winBySteal_22 (by decide) ?_
  refine s_callVi 3 C (c_X4_winAfter _ w _ T hI hT par kv n st hW L s hL hs 7 (by omega) (ih_may_7 h4)) gX4_winBySteal_X4_winAfter rfl (by decide +kernel) (by decide) (by decide) (by decide) rfl (by decide) rfl rfl rfl (Nat.le_of_ble_eq_true rfl) dX4_winBySteal_24 ?_
  rintro rb7 S2 ⟨hrb7, hSS⟩
  obtain rfl := hSS.symm
  subst hrb7
  have hbrb7 : ih_beh (ih_cg T par) par st n L s 7 ≤ 1000000 := ih_beh_le hI hT hpar hst hL
  refine s_imulN C dX4_winBySteal_27 ?_
  refine s_sipush (v := nI 1000) C dX4_winBySteal_28 (by decide) ?_
  refine s_iload_n C 0 dX4_winBySteal_31 rfl ?_
  refine s_isubN C dX4_winBySteal_32 (by omega) ?_
  refine s_aload_n C 1 dX4_winBySteal_33 rfl ?_
  refine s_iload_n C 2 dX4_winBySteal_34 rfl ?_
  refine s_iload_n C 3 dX4_winBySteal_35 rfl ?_
  refine s_bipush (v := nI 8) C dX4_winBySteal_36 (by decide) ?_
  refine s_callVi 3 C (c_X4_winAfter _ w _ T hI hT par kv n st hW L s hL hs 8 (by omega) (ih_may_7 h4)) gX4_winBySteal_X4_winAfter rfl (by decide +kernel) (by decide) (by decide) (by decide) rfl (by decide) rfl rfl rfl (Nat.le_of_ble_eq_true rfl) dX4_winBySteal_38 ?_
  rintro rb8 S2 ⟨hrb8, hSS⟩
  obtain rfl := hSS.symm
  subst hrb8
  have hbrb8 : ih_beh (ih_cg T par) par st n L s 8 ≤ 1000000 := ih_beh_le hI hT hpar hst hL
  refine s_imulN C dX4_winBySteal_41 ?_
  refine s_iaddN C dX4_winBySteal_42 ?_
  have q7 := Nat.mul_le_mul_left (ih_cg T par 6) hbrb7
  have q8 := Nat.mul_le_mul_left (1000 - ih_cg T par 6) hbrb8
  refine s_istore (lv' := [(4, .int (nI (((ih_cg T par 6) * (ih_beh (ih_cg T par) par st n L s 7)) + ((1000 - (ih_cg T par 6)) * (ih_beh (ih_cg T par) par st n L s 8))))), (3, .int (nI (ih_cg T par 6))), (0, .ref (w.2.2 53)), (1, .int (nI L)), (2, .int (nI s))]) C dX4_winBySteal_43 (by decide) rfl ?_
  refine s_iload C 0 dX4_winBySteal_45 rfl ?_
  refine s_sipush (v := nI 1000) C dX4_winBySteal_47 (by decide) ?_
  refine s_idivN C dX4_winBySteal_50 (by omega) (by omega) (by omega) ?_
  exact s_ireturn C hA dX4_winBySteal_51 ⟨by rw [ih_v2], rfl⟩

set_option maxHeartbeats 4000000 in
set_option maxRecDepth 100000 in
theorem c_X4_winByBest (l : Launch) (w : ih_Wd) (S : ih_Sg) (T : ih_TT) (hI : ih_Inv T) (hT : ih_HT T) (par kv n : Nat) (st : Nat → Nat) (hW : ih_MW S T par kv st n) (L s : Nat) (hL : L ≤ 18) (hs : s < 24) : ih_Ci l yX4_winByBest wsX4_winByBest 2 w ih_shX [.ref (w.2.2 53), .int (nI L), .int (nI s)] S (fun r S' => r = nI (ih_half (ih_cg T par) par st (n + 1) L s) ∧ S' = S) := by
  refine ih_bodyi (ret := some .int) rfl rfl (Nat.le_of_ble_eq_true rfl) ?_
  intro x A hA C
  have C : ih_Ok x w A cX4_winByBest 4 RX4 wsX4_winByBest (ih_rm 2) (some .int) := C
  show ih_Mw x w ih_shX A (ih_Qi x w ih_shX A _) 4 0 0 0 [(0, .ref (w.2.2 53)), (1, .int (nI L)), (2, .int (nI s))] [] S
  have hkvd : ih_shX.1 kv = 9 := by rcases hW.2.2.1 with rfl | rfl <;> rfl
  have hkvl : ih_shX.2.1 kv = 475 := by rcases hW.2.2.1 with rfl | rfl <;> rfl
  have hp := hW.1.1
  have hb := hW.1.2.2.2.2.2.2.2.2.2.1
  have hkv := hW.2.2.1
  have hpar := hW.2.1
  have hst := hW.2.2.2.2.2.1
  have hv0 : ih_v0 (ih_cg T par) par st n L s ≤ 1000000 := by
    have hsb := ih_wf_le (par := par) (n := n) (s := s) (ih_cg_ok hI hT par hpar).1 (ih_cg_ok hI hT par hpar).2 hst hL (Nat.le_refl 6)
    unfold ih_v0; omega
  have hv1 : ih_v1 (ih_cg T par) par st n L s ≤ 1000000 := by
    unfold ih_v1; split
    · exact hv0
    · exact ih_bt_le hv0 (ih_beh_le hI hT hpar hst hL)
  have hv2 : ih_v2 (ih_cg T par) par st n L s ≤ 1000000 := by
    have hc6 := (ih_cg_ok hI hT par hpar).2
    have q7 := Nat.mul_le_mul_left (ih_cg T par 6) (ih_beh_le hI hT hpar hst (n := n) (s := s) (a := 7) hL)
    have q8 := Nat.mul_le_mul_left (1000 - ih_cg T par 6) (ih_beh_le hI hT hpar hst (n := n) (s := s) (a := 8) hL)
    unfold ih_v2; omega
  refine s_aload_n C 0 dX4_winByBest_0 rfl ?_
  refine s_iload_n C 1 dX4_winByBest_1 rfl ?_
  refine s_iload_n C 2 dX4_winByBest_2 rfl ?_
  refine s_callVi 2 C (c_X4_winByStrike _ w _ T hI hT par kv n st hW L s hL hs) gX4_winByBest_X4_winByStrike rfl (by decide +kernel) (by decide) (by decide) (by decide) rfl (by decide) rfl rfl rfl (Nat.le_of_ble_eq_true rfl) dX4_winByBest_3 ?_
  rintro r0 S2 ⟨hr0, hSS⟩
  obtain rfl := hSS.symm
  subst hr0
  refine s_istore_n (lv' := [(3, .int (nI (ih_v0 (ih_cg T par) par st n L s))), (0, .ref (w.2.2 53)), (1, .int (nI L)), (2, .int (nI s))]) C dX4_winByBest_6 rfl (by decide) rfl ?_
  refine s_iload_n C 3 dX4_winByBest_7 rfl ?_
  refine s_callSi 1 C (c_X1_someoneIsOn _ w _ s hs) gX4_winByBest_X1_someoneIsOn rfl (by decide +kernel) (by decide) (by decide) rfl rfl (Nat.le_of_ble_eq_true rfl) dX4_winByBest_8 ?_
  rintro ro S2 ⟨hro, hSS⟩
  obtain rfl := hSS.symm
  refine s_if_eq C 28 dX4_winByBest_11 (by decide) (fun h11 => ?_) (fun h11 => ?_)
  · replace h11 := ih_b0 hro h11
    rw [show nI (ih_v0 (ih_cg T par) par st n L s) = nI (ih_v1 (ih_cg T par) par st n L s) from congrArg nI (by rw [ih_v1, if_pos (by omega)])]
    refine s_iload_n C 3 dX4_winByBest_28 rfl ?_
    refine s_callSi 1 C (c_X1_canSteal _ w _ s hs) gX4_winByBest_X1_canSteal rfl (by decide +kernel) (by decide) (by decide) rfl rfl (Nat.le_of_ble_eq_true rfl) dX4_winByBest_29 ?_
    rintro rk S2 ⟨hrk, hSS⟩
    obtain rfl := hSS.symm
    refine s_if_eq C 47 dX4_winByBest_32 (by decide) (fun h32 => ?_) (fun h32 => ?_)
    · replace h32 := ih_b0 hrk h32
      refine s_iload_n C 0 dX4_winByBest_47 rfl ?_
      exact s_ireturn C hA dX4_winByBest_48 ⟨by rw [ih_half_s hs, if_neg h32], rfl⟩
    · replace h32 := ih_b1 hrk h32
      refine s_aload_n C 1 dX4_winByBest_35 rfl ?_
      refine s_iload_n C 0 dX4_winByBest_36 rfl ?_
      refine s_aload_n C 1 dX4_winByBest_37 rfl ?_
      refine s_iload_n C 2 dX4_winByBest_38 rfl ?_
      refine s_iload_n C 3 dX4_winByBest_39 rfl ?_
      refine s_callVi 2 C (c_X4_winBySteal _ w _ T hI hT par kv n st hW L s hL hs h32) gX4_winByBest_X4_winBySteal rfl (by decide +kernel) (by decide) (by decide) (by decide) rfl (by decide) rfl rfl rfl (Nat.le_of_ble_eq_true rfl) dX4_winByBest_40 ?_
      rintro r3 S2 ⟨hr3, hSS⟩
      obtain rfl := hSS.symm
      subst hr3
      refine s_callVi 2 C (c_X4_betterOf _ w _ par (ih_v1 (ih_cg T par) par st n L s) (ih_v2 (ih_cg T par) par st n L s) hW.2.2.2.2.1 hpar hv1 hv2) gX4_winByBest_X4_betterOf rfl (by decide +kernel) (by decide) (by decide) (by decide) rfl (by decide) rfl rfl rfl (Nat.le_of_ble_eq_true rfl) dX4_winByBest_43 ?_
      rintro r2 S2 ⟨hr2, hSS⟩
      obtain rfl := hSS.symm
      subst hr2
      refine s_istore_n (lv' := [(3, .int (nI (ih_bt par (ih_v1 (ih_cg T par) par st n L s) (ih_v2 (ih_cg T par) par st n L s)))), (0, .ref (w.2.2 53)), (1, .int (nI L)), (2, .int (nI s))]) C dX4_winByBest_46 rfl (by decide) rfl ?_
      refine s_iload_n C 0 dX4_winByBest_47 rfl ?_
      exact s_ireturn C hA dX4_winByBest_48 ⟨by rw [ih_half_s hs, if_pos h32], rfl⟩
  · replace h11 := ih_b1 hro h11
    refine s_aload_n C 1 dX4_winByBest_14 rfl ?_
    refine s_iload_n C 0 dX4_winByBest_15 rfl ?_
    refine s_aload_n C 1 dX4_winByBest_16 rfl ?_
    refine s_iload_n C 2 dX4_winByBest_17 rfl ?_
    refine s_iload_n C 3 dX4_winByBest_18 rfl ?_
    refine s_bipush (v := nI 6) C dX4_winByBest_19 (by decide) ?_
    refine s_callVi 3 C (c_X4_winAfter _ w _ T hI hT par kv n st hW L s hL hs 6 (by omega) (ih_may_6 (by decide))) gX4_winByBest_X4_winAfter rfl (by decide +kernel) (by decide) (by decide) (by decide) rfl (by decide) rfl rfl rfl (Nat.le_of_ble_eq_true rfl) dX4_winByBest_21 ?_
    rintro rb6 S2 ⟨hrb6, hSS⟩
    obtain rfl := hSS.symm
    subst hrb6
    have hbrb6 : ih_beh (ih_cg T par) par st n L s 6 ≤ 1000000 := ih_beh_le hI hT hpar hst hL
    refine s_callVi 2 C (c_X4_betterOf _ w _ par (ih_v0 (ih_cg T par) par st n L s) (ih_beh (ih_cg T par) par st n L s 6) hW.2.2.2.2.1 hpar hv0 hbrb6) gX4_winByBest_X4_betterOf rfl (by decide +kernel) (by decide) (by decide) (by decide) rfl (by decide) rfl rfl rfl (Nat.le_of_ble_eq_true rfl) dX4_winByBest_24 ?_
    rintro r1 S2 ⟨hr1, hSS⟩
    obtain rfl := hSS.symm
    rw [show ih_bt par (ih_v0 (ih_cg T par) par st n L s) (ih_beh (ih_cg T par) par st n L s 6) = ih_v1 (ih_cg T par) par st n L s by rw [ih_v1, if_neg h11]] at hr1
    subst hr1
    refine s_istore_n (lv' := [(3, .int (nI (ih_v1 (ih_cg T par) par st n L s))), (0, .ref (w.2.2 53)), (1, .int (nI L)), (2, .int (nI s))]) C dX4_winByBest_27 rfl (by decide) rfl ?_
    refine s_iload_n C 3 dX4_winByBest_28 rfl ?_
    refine s_callSi 1 C (c_X1_canSteal _ w _ s hs) gX4_winByBest_X1_canSteal rfl (by decide +kernel) (by decide) (by decide) rfl rfl (Nat.le_of_ble_eq_true rfl) dX4_winByBest_29 ?_
    rintro rk S2 ⟨hrk, hSS⟩
    obtain rfl := hSS.symm
    refine s_if_eq C 47 dX4_winByBest_32 (by decide) (fun h32 => ?_) (fun h32 => ?_)
    · replace h32 := ih_b0 hrk h32
      refine s_iload_n C 0 dX4_winByBest_47 rfl ?_
      exact s_ireturn C hA dX4_winByBest_48 ⟨by rw [ih_half_s hs, if_neg h32], rfl⟩
    · replace h32 := ih_b1 hrk h32
      refine s_aload_n C 1 dX4_winByBest_35 rfl ?_
      refine s_iload_n C 0 dX4_winByBest_36 rfl ?_
      refine s_aload_n C 1 dX4_winByBest_37 rfl ?_
      refine s_iload_n C 2 dX4_winByBest_38 rfl ?_
      refine s_iload_n C 3 dX4_winByBest_39 rfl ?_
      refine s_callVi 2 C (c_X4_winBySteal _ w _ T hI hT par kv n st hW L s hL hs h32) gX4_winByBest_X4_winBySteal rfl (by decide +kernel) (by decide) (by decide) (by decide) rfl (by decide) rfl rfl rfl (Nat.le_of_ble_eq_true rfl) dX4_winByBest_40 ?_
      rintro r3 S2 ⟨hr3, hSS⟩
      obtain rfl := hSS.symm
      subst hr3
      refine s_callVi 2 C (c_X4_betterOf _ w _ par (ih_v1 (ih_cg T par) par st n L s) (ih_v2 (ih_cg T par) par st n L s) hW.2.2.2.2.1 hpar hv1 hv2) gX4_winByBest_X4_betterOf rfl (by decide +kernel) (by decide) (by decide) (by decide) rfl (by decide) rfl rfl rfl (Nat.le_of_ble_eq_true rfl) dX4_winByBest_43 ?_
      rintro r2 S2 ⟨hr2, hSS⟩
      obtain rfl := hSS.symm
      subst hr2
      refine s_istore_n (lv' := [(3, .int (nI (ih_bt par (ih_v1 (ih_cg T par) par st n L s) (ih_v2 (ih_cg T par) par st n L s)))), (0, .ref (w.2.2 53)), (1, .int (nI L)), (2, .int (nI s))]) C dX4_winByBest_46 rfl (by decide) rfl ?_
      refine s_iload_n C 0 dX4_winByBest_47 rfl ?_
      exact s_ireturn C hA dX4_winByBest_48 ⟨by rw [ih_half_s hs, if_pos h32], rfl⟩

theorem ih_pick (par v0 b6 v2 : Nat) (p8 p4 : Prop) [Decidable p8] [Decidable p4] :
    (if p4 then (if ih_sb par (if p8 then v0 else ih_bt par v0 b6) v2 = true then 2 else (if p8 then 0 else if ih_sb par v0 b6 = true then 1 else 0)) else (if p8 then 0 else if ih_sb par v0 b6 = true then 1 else 0)) =
    (if v0 = (if p4 then ih_bt par (if p8 then v0 else ih_bt par v0 b6) v2 else (if p8 then v0 else ih_bt par v0 b6)) then 0 else if ¬ p8 ∧ b6 = (if p4 then ih_bt par (if p8 then v0 else ih_bt par v0 b6) v2 else (if p8 then v0 else ih_bt par v0 b6)) then 1 else 2 : Nat) := by
  unfold ih_sb ih_bt
  by_cases h4 : p4 <;> by_cases h8 : p8 <;> by_cases hp : par = 0 <;> simp only [h4, h8, hp, if_true, if_false, not_true_eq_false, not_false_eq_true, true_and, false_and, decide_eq_true_eq] <;> (repeat' split) <;> first | rfl | omega
theorem ih_c2_pick {c : Nat → Nat} {par : Nat} {st : Nat → Nat} {n L s : Nat} (hs : s < 24) : ih_c2 c par st n L s = if ih_v0 c par st n L s = ih_half c par st (n + 1) L s then 0 else if ¬ s % 8 = 0 ∧ ih_beh c par st n L s 6 = ih_half c par st (n + 1) L s then 1 else 2 := by
  rw [ih_half_s hs]
  exact ih_pick par _ _ _ _ _
set_option maxHeartbeats 4000000 in
set_option maxRecDepth 100000 in
theorem c_X4_choiceAt (l : Launch) (w : ih_Wd) (S : ih_Sg) (T : ih_TT) (hI : ih_Inv T) (hT : ih_HT T) (par kv n : Nat) (st : Nat → Nat) (hW : ih_MW S T par kv st n) (L s : Nat) (hL : L ≤ 18) (hs : s < 24) (kw : Nat) (hkw : kw = 56 ∨ kw = 57) (h5 : S.2.2 53 5 = some kw) (hwin : S.1 kw (L * 25 + s) = nI (ih_half (ih_cg T par) par st (n + 1) L s)) : ih_Ci l yX4_choiceAt wsX4_choiceAt 2 w ih_shX [.ref (w.2.2 53), .int (nI L), .int (nI s)] S (fun r S' => r = nI (ih_c2 (ih_cg T par) par st n L s) ∧ S' = S) := by
  refine ih_bodyi (ret := some .int) rfl rfl (Nat.le_of_ble_eq_true rfl) ?_
  intro x A hA C
  have C : ih_Ok x w A cX4_choiceAt 5 RX4 wsX4_choiceAt (ih_rm 2) (some .int) := C
  show ih_Mw x w ih_shX A (ih_Qi x w ih_shX A _) 5 0 0 0 [(0, .ref (w.2.2 53)), (1, .int (nI L)), (2, .int (nI s))] [] S
  have hkvd : ih_shX.1 kv = 9 := by rcases hW.2.2.1 with rfl | rfl <;> rfl
  have hkvl : ih_shX.2.1 kv = 475 := by rcases hW.2.2.1 with rfl | rfl <;> rfl
  have hp := hW.1.1
  have hb := hW.1.2.2.2.2.2.2.2.2.2.1
  have hkv := hW.2.2.1
  have hpar := hW.2.1
  have hst := hW.2.2.2.2.2.1
  have hv0 : ih_v0 (ih_cg T par) par st n L s ≤ 1000000 := by
    have hsb := ih_wf_le (par := par) (n := n) (s := s) (ih_cg_ok hI hT par hpar).1 (ih_cg_ok hI hT par hpar).2 hst hL (Nat.le_refl 6)
    unfold ih_v0; omega
  have hv1 : ih_v1 (ih_cg T par) par st n L s ≤ 1000000 := by
    unfold ih_v1; split
    · exact hv0
    · exact ih_bt_le hv0 (ih_beh_le hI hT hpar hst hL)
  have hv2 : ih_v2 (ih_cg T par) par st n L s ≤ 1000000 := by
    have hc6 := (ih_cg_ok hI hT par hpar).2
    have q7 := Nat.mul_le_mul_left (ih_cg T par 6) (ih_beh_le hI hT hpar hst (n := n) (s := s) (a := 7) hL)
    have q8 := Nat.mul_le_mul_left (1000 - ih_cg T par 6) (ih_beh_le hI hT hpar hst (n := n) (s := s) (a := 8) hL)
    unfold ih_v2; omega
  have hkwd : ih_shX.1 kw = 9 := by rcases hkw with rfl | rfl <;> rfl
  have hkwl : ih_shX.2.1 kw = 475 := by rcases hkw with rfl | rfl <;> rfl
  have hwb : ih_half (ih_cg T par) par st (n + 1) L s ≤ 1000000 := ih_half_le (ih_cg_ok hI hT par hpar).1 (ih_cg_ok hI hT par hpar).2 hst _ _ _ hL
  refine s_aload_n C 0 dX4_choiceAt_0 rfl ?_
  refine s_getR C 4 5 h5 (by decide) rfl (by decide) rfl (fun _ h => List.mem_cons_of_mem _ (List.mem_append_left _ (List.mem_append_left _ (List.mem_append_right _ h)))) (by decide) rfl (by decide +kernel) dX4_choiceAt_1 ?_
  refine s_iload_n C 1 dX4_choiceAt_4 rfl ?_
  refine s_bipush (v := nI 25) C dX4_choiceAt_5 (by decide) ?_
  refine s_imulN C dX4_choiceAt_7 ?_
  refine s_iload_n C 2 dX4_choiceAt_8 rfl ?_
  refine s_iaddN C dX4_choiceAt_9 ?_
  refine s_iaload C 475 ((L * 25) + s) rfl hkwl (by omega) (by decide) (show kw < 62 by omega) hkwd dX4_choiceAt_10 ?_
  refine s_toe hwin ?_
  refine s_istore_n (lv' := [(3, .int (nI (ih_half (ih_cg T par) par st (n + 1) L s))), (0, .ref (w.2.2 53)), (1, .int (nI L)), (2, .int (nI s))]) C dX4_choiceAt_11 rfl (by decide) rfl ?_
  refine s_aload_n C 1 dX4_choiceAt_12 rfl ?_
  refine s_iload_n C 2 dX4_choiceAt_13 rfl ?_
  refine s_iload_n C 3 dX4_choiceAt_14 rfl ?_
  refine s_callVi 2 C (c_X4_winByStrike _ w _ T hI hT par kv n st hW L s hL hs) gX4_choiceAt_X4_winByStrike rfl (by decide +kernel) (by decide) (by decide) (by decide) rfl (by decide) rfl rfl rfl (Nat.le_of_ble_eq_true rfl) dX4_choiceAt_15 ?_
  rintro r0 S2 ⟨hr0, hSS⟩
  obtain rfl := hSS.symm
  subst hr0
  refine s_iload_n C 0 dX4_choiceAt_18 rfl ?_
  refine s_icmp_neN 24 C dX4_choiceAt_19 (by decide) (by omega) (by omega) (fun h19 => ?_) (fun h19 => ?_)
  · refine s_iload_n C 3 dX4_choiceAt_24 rfl ?_
    refine s_callSi 1 C (c_X1_someoneIsOn _ w _ s hs) gX4_choiceAt_X1_someoneIsOn rfl (by decide +kernel) (by decide) (by decide) rfl rfl (Nat.le_of_ble_eq_true rfl) dX4_choiceAt_25 ?_
    rintro ro S2 ⟨hro, hSS⟩
    obtain rfl := hSS.symm
    refine s_if_eq C 47 dX4_choiceAt_28 (by decide) (fun h28 => ?_) (fun h28 => ?_)
    · replace h28 := ih_b0 hro h28
      refine s_iconst (v := nI 0) C dX4_choiceAt_47 (by decide) ?_
      refine s_istore (lv' := [(4, .int (nI 0)), (3, .int (nI (ih_half (ih_cg T par) par st (n + 1) L s))), (0, .ref (w.2.2 53)), (1, .int (nI L)), (2, .int (nI s))]) C dX4_choiceAt_48 (by decide) rfl ?_
      refine s_iload C 0 dX4_choiceAt_50 rfl ?_
      refine s_if_eqN 59 C dX4_choiceAt_52 (by decide) (by omega) (fun h52 => ?_) (fun h52 => ?_)
      · refine s_iconst (v := nI 2) C dX4_choiceAt_59 (by decide) ?_
        exact s_ireturn C hA dX4_choiceAt_60 ⟨by rw [ih_c2_pick hs, if_neg h19, if_neg (by omega)], rfl⟩
      · exact absurd h52 (by decide)
    · replace h28 := ih_b1 hro h28
      refine s_aload_n C 1 dX4_choiceAt_31 rfl ?_
      refine s_iload_n C 2 dX4_choiceAt_32 rfl ?_
      refine s_iload_n C 3 dX4_choiceAt_33 rfl ?_
      refine s_bipush (v := nI 6) C dX4_choiceAt_34 (by decide) ?_
      refine s_callVi 3 C (c_X4_winAfter _ w _ T hI hT par kv n st hW L s hL hs 6 (by omega) (ih_may_6 (by decide))) gX4_choiceAt_X4_winAfter rfl (by decide +kernel) (by decide) (by decide) (by decide) rfl (by decide) rfl rfl rfl (Nat.le_of_ble_eq_true rfl) dX4_choiceAt_36 ?_
      rintro rb6 S2 ⟨hrb6, hSS⟩
      obtain rfl := hSS.symm
      subst hrb6
      have hbrb6 : ih_beh (ih_cg T par) par st n L s 6 ≤ 1000000 := ih_beh_le hI hT hpar hst hL
      refine s_iload_n C 0 dX4_choiceAt_39 rfl ?_
      refine s_icmp_neN 47 C dX4_choiceAt_40 (by decide) (by omega) (by omega) (fun h40 => ?_) (fun h40 => ?_)
      · refine s_iconst (v := nI 0) C dX4_choiceAt_47 (by decide) ?_
        refine s_istore (lv' := [(4, .int (nI 0)), (3, .int (nI (ih_half (ih_cg T par) par st (n + 1) L s))), (0, .ref (w.2.2 53)), (1, .int (nI L)), (2, .int (nI s))]) C dX4_choiceAt_48 (by decide) rfl ?_
        refine s_iload C 0 dX4_choiceAt_50 rfl ?_
        refine s_if_eqN 59 C dX4_choiceAt_52 (by decide) (by omega) (fun h52 => ?_) (fun h52 => ?_)
        · refine s_iconst (v := nI 2) C dX4_choiceAt_59 (by decide) ?_
          exact s_ireturn C hA dX4_choiceAt_60 ⟨by rw [ih_c2_pick hs, if_neg h19, if_neg (by omega)], rfl⟩
        · exact absurd h52 (by decide)
      · refine s_iconst (v := nI 1) C dX4_choiceAt_43 (by decide) ?_
        refine s_goto C 48 dX4_choiceAt_44 (by decide) ?_
        refine s_istore (lv' := [(4, .int (nI 1)), (3, .int (nI (ih_half (ih_cg T par) par st (n + 1) L s))), (0, .ref (w.2.2 53)), (1, .int (nI L)), (2, .int (nI s))]) C dX4_choiceAt_48 (by decide) rfl ?_
        refine s_iload C 0 dX4_choiceAt_50 rfl ?_
        refine s_if_eqN 59 C dX4_choiceAt_52 (by decide) (by omega) (fun h52 => ?_) (fun h52 => ?_)
        · exact absurd h52 (by decide)
        · refine s_iconst (v := nI 1) C dX4_choiceAt_55 (by decide) ?_
          refine s_goto C 60 dX4_choiceAt_56 (by decide) ?_
          exact s_ireturn C hA dX4_choiceAt_60 ⟨by rw [ih_c2_pick hs, if_neg h19, if_pos (by omega)], rfl⟩
  · refine s_iconst (v := nI 0) C dX4_choiceAt_22 (by decide) ?_
    exact s_ireturn C hA dX4_choiceAt_23 ⟨by rw [ih_c2_pick hs, if_pos h19], rfl⟩

set_option maxHeartbeats 4000000 in
set_option maxRecDepth 100000 in
theorem c_X4_walkIsBetter (l : Launch) (w : ih_Wd) (S : ih_Sg) (T : ih_TT) (hI : ih_Inv T) (hT : ih_HT T) (par kv n : Nat) (st : Nat → Nat) (hW : ih_MW S T par kv st n) (L s : Nat) (hL : L ≤ 18) (hs : s < 24) (kw : Nat) (hkw : kw = 56 ∨ kw = 57) (h5 : S.2.2 53 5 = some kw) (hwin : S.1 kw (L * 25 + s) = nI (ih_half (ih_cg T par) par st (n + 1) L s)) : ih_Ci l yX4_walkIsBetter wsX4_walkIsBetter 1 w ih_shX [.ref (w.2.2 53), .int (nI L), .int (nI s)] S (fun r S' => r = (if ih_sb (1 - par) (ih_half (ih_cg T par) par st (n + 1) L s) (ih_beh (ih_cg T par) par st n L s 1) = true then nI 1 else nI 0) ∧ S' = S) := by
  refine ih_bodyi (ret := some .int) rfl rfl (Nat.le_of_ble_eq_true rfl) ?_
  intro x A hA C
  have C : ih_Ok x w A cX4_walkIsBetter 6 RX4 wsX4_walkIsBetter (ih_rm 1) (some .int) := C
  show ih_Mw x w ih_shX A (ih_Qi x w ih_shX A _) 6 0 0 0 [(0, .ref (w.2.2 53)), (1, .int (nI L)), (2, .int (nI s))] [] S
  have hkvd : ih_shX.1 kv = 9 := by rcases hW.2.2.1 with rfl | rfl <;> rfl
  have hkvl : ih_shX.2.1 kv = 475 := by rcases hW.2.2.1 with rfl | rfl <;> rfl
  have hp := hW.1.1
  have hb := hW.1.2.2.2.2.2.2.2.2.2.1
  have hkv := hW.2.2.1
  have hpar := hW.2.1
  have hst := hW.2.2.2.2.2.1
  have hkwd : ih_shX.1 kw = 9 := by rcases hkw with rfl | rfl <;> rfl
  have hkwl : ih_shX.2.1 kw = 475 := by rcases hkw with rfl | rfl <;> rfl
  have hwb : ih_half (ih_cg T par) par st (n + 1) L s ≤ 1000000 := ih_half_le (ih_cg_ok hI hT par hpar).1 (ih_cg_ok hI hT par hpar).2 hst _ _ _ hL
  refine s_aload_n C 0 dX4_walkIsBetter_0 rfl ?_
  refine s_getR C 4 5 h5 (by decide) rfl (by decide) rfl (fun _ h => List.mem_cons_of_mem _ (List.mem_append_left _ (List.mem_append_right _ h))) (by decide) rfl (by decide +kernel) dX4_walkIsBetter_1 ?_
  refine s_iload_n C 1 dX4_walkIsBetter_4 rfl ?_
  refine s_bipush (v := nI 25) C dX4_walkIsBetter_5 (by decide) ?_
  refine s_imulN C dX4_walkIsBetter_7 ?_
  refine s_iload_n C 2 dX4_walkIsBetter_8 rfl ?_
  refine s_iaddN C dX4_walkIsBetter_9 ?_
  refine s_iaload C 475 ((L * 25) + s) rfl hkwl (by omega) (by decide) (show kw < 62 by omega) hkwd dX4_walkIsBetter_10 ?_
  refine s_toe hwin ?_
  refine s_istore_n (lv' := [(3, .int (nI (ih_half (ih_cg T par) par st (n + 1) L s))), (0, .ref (w.2.2 53)), (1, .int (nI L)), (2, .int (nI s))]) C dX4_walkIsBetter_11 rfl (by decide) rfl ?_
  refine s_aload_n C 1 dX4_walkIsBetter_12 rfl ?_
  refine s_iload_n C 2 dX4_walkIsBetter_13 rfl ?_
  refine s_iload_n C 3 dX4_walkIsBetter_14 rfl ?_
  refine s_iconst (v := nI 1) C dX4_walkIsBetter_15 (by decide) ?_
  refine s_callVi 3 C (c_X4_winAfter _ w _ T hI hT par kv n st hW L s hL hs 1 (by omega) (ih_may_6 (by decide))) gX4_walkIsBetter_X4_winAfter rfl (by decide +kernel) (by decide) (by decide) (by decide) rfl (by decide) rfl rfl rfl (Nat.le_of_ble_eq_true rfl) dX4_walkIsBetter_16 ?_
  rintro rb1 S2 ⟨hrb1, hSS⟩
  obtain rfl := hSS.symm
  subst hrb1
  have hbrb1 : ih_beh (ih_cg T par) par st n L s 1 ≤ 1000000 := ih_beh_le hI hT hpar hst hL
  refine s_istore (lv' := [(4, .int (nI (ih_beh (ih_cg T par) par st n L s 1))), (3, .int (nI (ih_half (ih_cg T par) par st (n + 1) L s))), (0, .ref (w.2.2 53)), (1, .int (nI L)), (2, .int (nI s))]) C dX4_walkIsBetter_19 (by decide) rfl ?_
  refine s_aload_n C 2 dX4_walkIsBetter_21 rfl ?_
  refine s_getI C 4 7 (by decide) rfl (by decide) rfl (fun _ h => List.mem_cons_of_mem _ (List.mem_append_left _ (List.mem_append_right _ h))) (by decide) rfl (by decide +kernel) dX4_walkIsBetter_22 ?_
  refine s_toe hW.2.2.2.2.1 ?_
  refine s_if_neN 42 C dX4_walkIsBetter_25 (by decide) (by omega) (fun h25 => ?_) (fun h25 => ?_)
  · refine s_iload C 0 dX4_walkIsBetter_42 rfl ?_
    refine s_iload_n C 1 dX4_walkIsBetter_44 rfl ?_
    refine s_icmp_leN 52 C dX4_walkIsBetter_45 (by decide) (by omega) (by omega) (fun h45 => ?_) (fun h45 => ?_)
    · refine s_iconst (v := nI 0) C dX4_walkIsBetter_52 (by decide) ?_
      refine s_istore (lv' := [(5, .int (nI 0)), (4, .int (nI (ih_beh (ih_cg T par) par st n L s 1))), (3, .int (nI (ih_half (ih_cg T par) par st (n + 1) L s))), (0, .ref (w.2.2 53)), (1, .int (nI L)), (2, .int (nI s))]) C dX4_walkIsBetter_53 (by decide) rfl ?_
      refine s_iload C 0 dX4_walkIsBetter_55 rfl ?_
      refine s_if_eqN 64 C dX4_walkIsBetter_57 (by decide) (by omega) (fun h57 => ?_) (fun h57 => ?_)
      · refine s_iconst (v := nI 0) C dX4_walkIsBetter_64 (by decide) ?_
        exact s_ireturn C hA dX4_walkIsBetter_65 ⟨by rw [if_neg (by rw [show 1 - par = 0 by omega, ih_sb]; rw [if_pos rfl]; rw [decide_eq_true_eq]; omega)], rfl⟩
      · exact absurd h57 (by decide)
    · refine s_iconst (v := nI 1) C dX4_walkIsBetter_48 (by decide) ?_
      refine s_goto C 53 dX4_walkIsBetter_49 (by decide) ?_
      refine s_istore (lv' := [(5, .int (nI 1)), (4, .int (nI (ih_beh (ih_cg T par) par st n L s 1))), (3, .int (nI (ih_half (ih_cg T par) par st (n + 1) L s))), (0, .ref (w.2.2 53)), (1, .int (nI L)), (2, .int (nI s))]) C dX4_walkIsBetter_53 (by decide) rfl ?_
      refine s_iload C 0 dX4_walkIsBetter_55 rfl ?_
      refine s_if_eqN 64 C dX4_walkIsBetter_57 (by decide) (by omega) (fun h57 => ?_) (fun h57 => ?_)
      · exact absurd h57 (by decide)
      · refine s_iconst (v := nI 1) C dX4_walkIsBetter_60 (by decide) ?_
        refine s_goto C 65 dX4_walkIsBetter_61 (by decide) ?_
        exact s_ireturn C hA dX4_walkIsBetter_65 ⟨by rw [if_pos (by rw [show 1 - par = 0 by omega, ih_sb]; rw [if_pos rfl]; rw [decide_eq_true_eq]; omega)], rfl⟩
  · refine s_iload C 0 dX4_walkIsBetter_28 rfl ?_
    refine s_iload_n C 1 dX4_walkIsBetter_30 rfl ?_
    refine s_icmp_geN 38 C dX4_walkIsBetter_31 (by decide) (by omega) (by omega) (fun h31 => ?_) (fun h31 => ?_)
    · refine s_iconst (v := nI 0) C dX4_walkIsBetter_38 (by decide) ?_
      refine s_goto C 53 dX4_walkIsBetter_39 (by decide) ?_
      refine s_istore (lv' := [(5, .int (nI 0)), (4, .int (nI (ih_beh (ih_cg T par) par st n L s 1))), (3, .int (nI (ih_half (ih_cg T par) par st (n + 1) L s))), (0, .ref (w.2.2 53)), (1, .int (nI L)), (2, .int (nI s))]) C dX4_walkIsBetter_53 (by decide) rfl ?_
      refine s_iload C 0 dX4_walkIsBetter_55 rfl ?_
      refine s_if_eqN 64 C dX4_walkIsBetter_57 (by decide) (by omega) (fun h57 => ?_) (fun h57 => ?_)
      · refine s_iconst (v := nI 0) C dX4_walkIsBetter_64 (by decide) ?_
        exact s_ireturn C hA dX4_walkIsBetter_65 ⟨by rw [if_neg (by rw [show 1 - par = 1 by omega, ih_sb]; rw [if_neg (by decide)]; rw [decide_eq_true_eq]; omega)], rfl⟩
      · exact absurd h57 (by decide)
    · refine s_iconst (v := nI 1) C dX4_walkIsBetter_34 (by decide) ?_
      refine s_goto C 53 dX4_walkIsBetter_35 (by decide) ?_
      refine s_istore (lv' := [(5, .int (nI 1)), (4, .int (nI (ih_beh (ih_cg T par) par st n L s 1))), (3, .int (nI (ih_half (ih_cg T par) par st (n + 1) L s))), (0, .ref (w.2.2 53)), (1, .int (nI L)), (2, .int (nI s))]) C dX4_walkIsBetter_53 (by decide) rfl ?_
      refine s_iload C 0 dX4_walkIsBetter_55 rfl ?_
      refine s_if_eqN 64 C dX4_walkIsBetter_57 (by decide) (by omega) (fun h57 => ?_) (fun h57 => ?_)
      · exact absurd h57 (by decide)
      · refine s_iconst (v := nI 1) C dX4_walkIsBetter_60 (by decide) ?_
        refine s_goto C 65 dX4_walkIsBetter_61 (by decide) ?_
        exact s_ireturn C hA dX4_walkIsBetter_65 ⟨by rw [if_pos (by rw [show 1 - par = 1 by omega, ih_sb]; rw [if_neg (by decide)]; rw [decide_eq_true_eq]; omega)], rfl⟩

