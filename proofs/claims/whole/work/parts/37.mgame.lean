theorem ih_lead (a L : Nat) : nI a + (nI L - nI 9) + nI 9 = nI (a + L) := by
  rw [Int32.add_assoc, Int32.sub_add_cancel, nI_add]
theorem ih_ldi (L r : Nat) : nI L - nI 9 + nI r = nI (L + r) - nI 9 := by
  rw [← nI_add, Int32.sub_eq_add_neg, Int32.sub_eq_add_neg, Int32.add_assoc, Int32.add_comm (-nI 9), ← Int32.add_assoc]
theorem ih_ldm {L r : Nat} (h : r ≤ L) : nI L - nI 9 + -nI r = nI (L - r) - nI 9 := by
  rw [← pk_sub h, Int32.sub_eq_add_neg, Int32.sub_eq_add_neg, Int32.sub_eq_add_neg, Int32.add_assoc, Int32.add_comm (-nI 9), ← Int32.add_assoc]
theorem ih_ldq (L r : Nat) (hL : L ≤ 18) (hr : r < 5) : (nI L - nI 9 + nI r).toInt = (L : Int) - 9 + r := by
  rw [ih_ldi, pk_sub_toInt (by omega) (by omega)]; omega
theorem ih_ldn (L r : Nat) (hL : L ≤ 18) (hr : r < 5) : (nI L - nI 9 + -nI r).toInt = (L : Int) - 9 - r := by
  have : ∀ L, L ≤ 18 → ∀ r, r < 5 → (nI L - nI 9 + -nI r).toInt = (L : Int) - 9 - r := by decide +kernel
  exact this L hL r hr
theorem ih_lt9 (L : Nat) (hL : L ≤ 18) : (nI L - nI 9).toInt = (L : Int) - 9 := by
  rw [pk_sub_toInt (by omega) (by omega)]; rfl
theorem ih_lead_of {a : Int32} (h : -9 ≤ a.toInt ∧ a.toInt ≤ 9) : ∃ L : Nat, L ≤ 18 ∧ a = nI L - nI 9 ∧ (L : Int) = a.toInt + 9 := by
  refine ⟨(a.toInt + 9).toNat, by omega, ?_, by omega⟩
  apply Int32.toInt_inj.mp
  rw [ih_lt9 _ (by omega)]
  omega
theorem ih_and7 {s : Nat} (hs : s < 24) : nI s &&& nI 7 = nI (s % 8) := by
  have : ∀ s, s < 24 → nI s &&& nI 7 = nI (s % 8) := by decide +kernel
  exact this s hs
/-- the place of a standing of a game in the reference's tables -/
def ih_at (h L n s : Nat) : Nat := ((h * 19 + L) * 13 + n) * 25 + s
def ih_cg (T : ih_TT) (t a : Nat) : Nat := ih_ch T (ih_tm T t) a
def ih_HT (T : ih_TT) : Prop := ∀ t, t < 2 → T 9 t = nI (ih_tm T t) ∧ ih_tm T t < ih_ct T
theorem ih_cg_ok {T : ih_TT} (hI : ih_Inv T) (hT : ih_HT T) : ih_okg (ih_cg T) := by
  intro t ht
  have h1 := hI.2.1.2.2 _ (hT t ht).2
  refine ⟨?_, (h1.1 6 (by decide)).2⟩
  rw [ih_sum_6]
  exact h1.2
theorem ih_cg_e {T : ih_TT} (hI : ih_Inv T) (hT : ih_HT T) {t a : Nat} (ht : t < 2) (ha : a < 7) : T 4 (7 * ih_tm T t + a) = nI (ih_cg T t a) ∧ ih_cg T t a ≤ 1000 := (hI.2.1.2.2 _ (hT t ht).2).1 a ha
def ih_sb (par a b : Nat) : Bool := if par = 0 then decide (a < b) else decide (b < a)
theorem ih_bt_sb (par a b : Nat) : ih_bt par a b = if ih_sb par a b = true then b else a := by
  unfold ih_bt ih_sb
  split <;> simp
/-- the choice: 0 strike, 1 bunt, 2 steal -/
def ih_c1 (c : Nat → Nat) (par : Nat) (st : Nat → Nat) (n L s : Nat) : Nat := if s % 8 = 0 then 0 else if ih_sb par (ih_v0 c par st n L s) (ih_beh c par st n L s 6) = true then 1 else 0
def ih_c2 (c : Nat → Nat) (par : Nat) (st : Nat → Nat) (n L s : Nat) : Nat := if s % 4 = 1 then (if ih_sb par (ih_v1 c par st n L s) (ih_v2 c par st n L s) = true then 2 else ih_c1 c par st n L s) else ih_c1 c par st n L s
def ih_chc (cs : Nat → Nat → Nat) (h n L s : Nat) : Int32 := if h = 0 ∨ n = 0 ∨ ¬ s < 24 then -1000000 else nI (ih_c2 (cs (h % 2)) (h % 2) (ih_st cs (h - 1)) (n - 1) L s)
theorem ih_win_0 {cs : Nat → Nat → Nat} {n L s : Nat} : ih_win cs 0 n L s = ih_st cs 0 L := by rw [ih_win, if_pos rfl]
theorem ih_win_p {cs : Nat → Nat → Nat} {h n L s : Nat} (hh : 0 < h) : ih_win cs h n L s = ih_half (cs (h % 2)) (h % 2) (ih_st cs (h - 1)) n L s := by rw [ih_win, if_neg (by omega)]
theorem ih_win_o {cs : Nat → Nat → Nat} {h n L s : Nat} (hh : 0 < h) (ho : n = 0 ∨ ¬ s < 24) : ih_win cs h n L s = ih_win cs (h - 1) 12 L 0 := by
  rw [ih_win_p hh]
  have h1 : ih_half (cs (h % 2)) (h % 2) (ih_st cs (h - 1)) n L s = ih_st cs (h - 1) L := by
    rcases ho with rfl | ho
    · exact ih_half_z
    · exact ih_half_o ho
  rw [h1]
  by_cases h2 : h - 1 = 0
  · rw [h2, ih_win_0]
  · rw [ih_win_p (by omega)]
    obtain ⟨m, hm⟩ : ∃ m, h - 1 = m + 1 := ⟨h - 2, by omega⟩
    rw [hm, ih_st]; rfl
theorem ih_win_s {cs : Nat → Nat → Nat} {h n L s : Nat} (hh : 0 < h) (hn : 0 < n) (hs : s < 24) : ih_win cs h n L s = if s % 4 = 1 then ih_bt (h % 2) (ih_v1 (cs (h % 2)) (h % 2) (ih_st cs (h - 1)) (n - 1) L s) (ih_v2 (cs (h % 2)) (h % 2) (ih_st cs (h - 1)) (n - 1) L s) else ih_v1 (cs (h % 2)) (h % 2) (ih_st cs (h - 1)) (n - 1) L s := by
  rw [ih_win_p hh]
  obtain ⟨m, rfl⟩ : ∃ m, n = m + 1 := ⟨n - 1, by omega⟩
  exact ih_half_s hs
def ih_WT (I : Nat → Nat → Int32) (cs : Nat → Nat → Nat) (H N L Z : Nat) : Prop := ∀ h n l s, n < 13 → l < 19 → s < 25 → (h < H ∨ (h = H ∧ (n < N ∨ (n = N ∧ (l < L ∨ (l = L ∧ s < Z)))))) → I 10 (ih_at h l n s) = nI (ih_win cs h n l s) ∧ I 11 (ih_at h l n s) = ih_chc cs h n l s
def ih_kp (Sb0 S : ih_Sg) (q : Nat) : Prop := ∀ j, j ≠ q → S.1 10 j = Sb0.1 10 j ∧ S.1 11 j = Sb0.1 11 j
theorem ih_at_inj {h n l s h2 n2 l2 s2 : Nat} (a1 : n < 13) (a2 : l < 19) (a3 : s < 25) (b1 : n2 < 13) (b2 : l2 < 19) (b3 : s2 < 25) (e : ih_at h l n s = ih_at h2 l2 n2 s2) : h = h2 ∧ n = n2 ∧ l = l2 ∧ s = s2 := by
  unfold ih_at at e
  omega
theorem ih_WT_w {Sb0 S : ih_Sg} {cs : Nat → Nat → Nat} {H N L Z : Nat} (h : ih_WT Sb0.1 cs H N L Z) (hk : ih_kp Sb0 S (ih_at H L N Z)) (hw : S.1 10 (ih_at H L N Z) = nI (ih_win cs H N L Z)) (hc : S.1 11 (ih_at H L N Z) = ih_chc cs H N L Z) (hN : N < 13) (hL : L < 19) (hZ : Z < 25) : ih_WT S.1 cs H N L (Z + 1) := by
  intro a n l s h1 h2 h3 hx
  by_cases he : a = H ∧ n = N ∧ l = L ∧ s = Z
  · obtain ⟨rfl, rfl, rfl, rfl⟩ := he
    exact ⟨hw, hc⟩
  · have hne : ih_at a l n s ≠ ih_at H L N Z := fun e => he (ih_at_inj h1 h2 h3 hN hL hZ e)
    obtain ⟨k1, k2⟩ := hk _ hne
    rw [k1, k2]
    exact h a n l s h1 h2 h3 (by omega)
theorem ih_WT_l {I : Nat → Nat → Int32} {cs : Nat → Nat → Nat} {H N L : Nat} (h : ih_WT I cs H N L 25) : ih_WT I cs H N (L + 1) 0 := fun a n l s h1 h2 h3 hx => h a n l s h1 h2 h3 (by omega)
theorem ih_WT_n {I : Nat → Nat → Int32} {cs : Nat → Nat → Nat} {H N : Nat} (h : ih_WT I cs H N 19 0) : ih_WT I cs H (N + 1) 0 0 := fun a n l s h1 h2 h3 hx => h a n l s h1 h2 h3 (by omega)
theorem ih_WT_h {I : Nat → Nat → Int32} {cs : Nat → Nat → Nat} {H : Nat} (h : ih_WT I cs H 13 0 0) : ih_WT I cs (H + 1) 0 0 0 := fun a n l s h1 h2 h3 hx => h a n l s h1 h2 h3 (by omega)
section IhG
variable {x : ih_Cx} {w : ih_Wd} {sh : ih_Sh} {A : Nat → Prop} {Q : State → Prop} {nL cells slots pc : Nat} {lv : List (Nat × Value)} {st : List Value} {S Sb0 : ih_Sg} {T : ih_TT}
theorem g_w10 {q : Nat} {v c : Int32} (hM : ih_RM S T) (hk : ih_kp Sb0 S q) (hc : S.1 11 q = c) (kk : ∀ S', ih_RM S' T → ih_kp Sb0 S' q → S'.1 10 q = v → S'.1 11 q = c → ih_Mw x w sh A Q nL cells slots pc lv st S') : ih_Mw x w sh A Q nL cells slots pc lv st (ih_sI S 10 q v) := by
  refine kk _ (ih_RM_h hM rfl) (fun j hj => ?_) ih_u2_s ?_
  · exact ⟨(ih_u2_j hj).trans (hk j hj).1, (hk j hj).2⟩
  · exact hc
theorem g_w11 {q : Nat} {v : Int32} (hM : ih_RM S T) (hk : ih_kp Sb0 S q) (kk : ∀ S', ih_RM S' T → ih_kp Sb0 S' q → S'.1 10 q = S.1 10 q → S'.1 11 q = v → ih_Mw x w sh A Q nL cells slots pc lv st S') : ih_Mw x w sh A Q nL cells slots pc lv st (ih_sI S 11 q v) := by
  refine kk _ (ih_RM_h hM rfl) (fun j hj => ?_) rfl ih_u2_s
  exact ⟨(hk j hj).1, (ih_u2_j hj).trans (hk j hj).2⟩
end IhG
set_option maxHeartbeats 4000000 in
set_option maxRecDepth 100000 in
theorem c_X8_placeOf (l : Launch) (w : ih_Wd) (S : ih_Sg) (h L n s : Nat) : ih_Ci l yX8_placeOf wsX8_placeOf 0 w ih_shM [.int (nI h), .int (nI L - nI 9), .int (nI n), .int (nI s)] S (fun r S' => r = nI (ih_at h L n s) ∧ S' = S) := by
  refine ih_bodyi (ret := some .int) rfl rfl (Nat.le_of_ble_eq_true rfl) ?_
  intro x A hA C
  have C : ih_Ok x w A cX8_placeOf 4 RX8 wsX8_placeOf (ih_rm 0) (some .int) := C
  show ih_Mw x w ih_shM A (ih_Qi x w ih_shM A _) 4 0 0 0 [(0, .int (nI h)), (1, .int (nI L - nI 9)), (2, .int (nI n)), (3, .int (nI s))] [] S
  refine s_iload_n C 0 dX8_placeOf_0 rfl ?_
  refine s_bipush (v := nI 19) C dX8_placeOf_1 (by decide) ?_
  refine s_imulN C dX8_placeOf_3 ?_
  refine s_iload_n C 1 dX8_placeOf_4 rfl ?_
  refine s_iadd C dX8_placeOf_5  ?_
  refine s_bipush (v := nI 9) C dX8_placeOf_6 (by decide) ?_
  refine s_iadd C dX8_placeOf_8  ?_
  refine s_toe (ih_lead (h * 19) L) ?_
  refine s_bipush (v := nI 13) C dX8_placeOf_9 (by decide) ?_
  refine s_imulN C dX8_placeOf_11 ?_
  refine s_iload_n C 2 dX8_placeOf_12 rfl ?_
  refine s_iaddN C dX8_placeOf_13 ?_
  refine s_bipush (v := nI 25) C dX8_placeOf_14 (by decide) ?_
  refine s_imulN C dX8_placeOf_16 ?_
  refine s_iload_n C 3 dX8_placeOf_17 rfl ?_
  refine s_iaddN C dX8_placeOf_18 ?_
  exact s_ireturn C hA dX8_placeOf_19 ⟨rfl, rfl⟩

set_option maxHeartbeats 4000000 in
set_option maxRecDepth 100000 in
theorem c_X8_winBehind (l : Launch) (w : ih_Wd) (S : ih_Sg) {T : ih_TT} (hM : ih_RM S T) (h L n s a v : Nat) (hh : h ≤ 5) (hL : L ≤ 18) (hn : 0 < n) (hn2 : n ≤ 12) (hs : s < 24) (ha : a < 9) (hv : S.1 10 (ih_at h (ih_ld (h % 2) L (ih_rn s a)) (n - 1) (ih_nx s a)) = nI v) : ih_Ci l yX8_winBehind wsX8_winBehind 2 w ih_shM [.ref (w.2.2 0), .int (nI h), .int (nI L - nI 9), .int (nI n), .int (nI s), .int (nI a)] S (fun r S' => r = nI v ∧ S' = S) := by
  refine ih_bodyi (ret := some .int) rfl rfl (Nat.le_of_ble_eq_true rfl) ?_
  intro x A hA C
  have C : ih_Ok x w A cX8_winBehind 8 RX8 wsX8_winBehind (ih_rm 2) (some .int) := C
  show ih_Mw x w ih_shM A (ih_Qi x w ih_shM A _) 8 0 0 0 [(0, .ref (w.2.2 0)), (1, .int (nI h)), (2, .int (nI L - nI 9)), (3, .int (nI n)), (4, .int (nI s)), (5, .int (nI a))] [] S
  have hm9 : (-9 : Int32).toInt = -9 := rfl
  refine s_iload_n C 1 dX8_winBehind_0 rfl ?_
  refine s_iconst (v := nI 2) C dX8_winBehind_1 (by decide) ?_
  refine s_iremN C dX8_winBehind_2 (by omega) (by omega) (by omega) ?_
  refine s_if_neN 16 C dX8_winBehind_3 (by decide) (by omega) (fun h3 => ?_) (fun h3 => ?_)
  · refine s_iload C 4 dX8_winBehind_16 rfl ?_
    refine s_iload C 5 dX8_winBehind_18 rfl ?_
    refine s_callSi 2 C (c_X8_runs _ w _ s a hs ha) gX8_winBehind_X8_runs rfl (by decide +kernel) (by decide) (by decide) rfl rfl (Nat.le_of_ble_eq_true rfl) dX8_winBehind_20 ?_
    rintro rr S2 ⟨hrr, hSS⟩
    obtain rfl := hSS.symm
    subst hrr
    have hrn := ih_rn_le s hs a ha
    have hq0 := ih_ldq L (ih_rn s a) hL hrn
    have hq1 := ih_ldn L (ih_rn s a) hL hrn
    refine s_ineg C dX8_winBehind_23 ?_
    refine s_istore (lv' := [(6, .int (-(nI (ih_rn s a)))), (0, .ref (w.2.2 0)), (1, .int (nI h)), (2, .int (nI L - nI 9)), (3, .int (nI n)), (4, .int (nI s)), (5, .int (nI a))]) C dX8_winBehind_24 (by decide) rfl ?_
    refine s_iload_n C 3 dX8_winBehind_26 rfl ?_
    refine s_iload C 0 dX8_winBehind_27 rfl ?_
    refine s_iadd C dX8_winBehind_29  ?_
    refine s_bipush (v := nI 9) C dX8_winBehind_30 (by decide) ?_
    refine s_icmp_le C 40 dX8_winBehind_32 (by decide) (fun h32 => ?_) (fun h32 => ?_)
    · simp only [ih_lei, ih_lti, ih_t0, ih_t (n := 9) (by omega)] at h32
      refine s_iload_n C 3 dX8_winBehind_40 rfl ?_
      refine s_iload C 0 dX8_winBehind_41 rfl ?_
      refine s_iadd C dX8_winBehind_43  ?_
      refine s_bipush (v := (-9)) C dX8_winBehind_44 (by decide) ?_
      refine s_icmp_ge C 54 dX8_winBehind_46 (by decide) (fun h46 => ?_) (fun h46 => ?_)
      · simp only [ih_lei, ih_lti, ih_t0] at h46
        refine s_iload_n C 3 dX8_winBehind_54 rfl ?_
        refine s_iload C 0 dX8_winBehind_55 rfl ?_
        refine s_iadd C dX8_winBehind_57  ?_
        refine s_toe (b := nI (ih_ld (h % 2) L (ih_rn s a)) - nI 9) (by rw [ih_ld, if_neg h3]; exact ih_ldm (by omega)) ?_
        refine s_istore (lv' := [(7, .int (nI (ih_ld (h % 2) L (ih_rn s a)) - nI 9)), (6, .int (-(nI (ih_rn s a)))), (0, .ref (w.2.2 0)), (1, .int (nI h)), (2, .int (nI L - nI 9)), (3, .int (nI n)), (4, .int (nI s)), (5, .int (nI a))]) C dX8_winBehind_58 (by decide) rfl ?_
        refine s_aload_n C 2 dX8_winBehind_60 rfl ?_
        refine s_getR C 8 13 (hM.1 _ _ _ rfl) (by decide) rfl (by decide) rfl (fun _ h => List.mem_cons_of_mem _ (List.mem_append_right _ h)) (by decide) rfl (by decide +kernel) dX8_winBehind_61 ?_
        refine s_iload_n C 3 dX8_winBehind_64 rfl ?_
        refine s_iload C 0 dX8_winBehind_65 rfl ?_
        refine s_iload_n C 5 dX8_winBehind_67 rfl ?_
        refine s_iconst (v := nI 1) C dX8_winBehind_68 (by decide) ?_
        refine s_isubN C dX8_winBehind_69 (by omega) ?_
        refine s_iload C 6 dX8_winBehind_70 rfl ?_
        refine s_iload C 7 dX8_winBehind_72 rfl ?_
        refine s_callSi 2 C (c_X8_next _ w _ s a hs ha) gX8_winBehind_X8_next rfl (by decide +kernel) (by decide) (by decide) rfl rfl (Nat.le_of_ble_eq_true rfl) dX8_winBehind_74 ?_
        rintro rr S2 ⟨hrr, hSS⟩
        obtain rfl := hSS.symm
        subst hrr
        have hnx := ih_nx_le s hs a ha
        have hld := ih_ld_le (par := h % 2) (r := ih_rn s a) hL
        refine s_callSi 4 C (c_X8_placeOf _ w _ h (ih_ld (h % 2) L (ih_rn s a)) (n - 1) (ih_nx s a)) gX8_winBehind_X8_placeOf rfl (by decide +kernel) (by decide) (by decide) rfl rfl (Nat.le_of_ble_eq_true rfl) dX8_winBehind_77 ?_
        rintro rr S2 ⟨hrr, hSS⟩
        obtain rfl := hSS.symm
        subst hrr
        refine s_iaload C 37050 (ih_at h (ih_ld (h % 2) L (ih_rn s a)) (n - 1) (ih_nx s a)) rfl rfl (by unfold ih_at; omega) (by decide) (by decide) rfl dX8_winBehind_80 ?_
        refine s_toe hv ?_
        exact s_ireturn C hA dX8_winBehind_81 ⟨rfl, rfl⟩
      · simp only [ih_lei, ih_lti, ih_t0] at h46
        refine s_bipush (v := (-9)) C dX8_winBehind_49 (by decide) ?_
        refine s_goto C 58 dX8_winBehind_51 (by decide) ?_
        refine s_toe (b := nI (ih_ld (h % 2) L (ih_rn s a)) - nI 9) (by rw [ih_ld, if_neg h3, show L - ih_rn s a = 0 by omega]; rfl) ?_
        refine s_istore (lv' := [(7, .int (nI (ih_ld (h % 2) L (ih_rn s a)) - nI 9)), (6, .int (-(nI (ih_rn s a)))), (0, .ref (w.2.2 0)), (1, .int (nI h)), (2, .int (nI L - nI 9)), (3, .int (nI n)), (4, .int (nI s)), (5, .int (nI a))]) C dX8_winBehind_58 (by decide) rfl ?_
        refine s_aload_n C 2 dX8_winBehind_60 rfl ?_
        refine s_getR C 8 13 (hM.1 _ _ _ rfl) (by decide) rfl (by decide) rfl (fun _ h => List.mem_cons_of_mem _ (List.mem_append_right _ h)) (by decide) rfl (by decide +kernel) dX8_winBehind_61 ?_
        refine s_iload_n C 3 dX8_winBehind_64 rfl ?_
        refine s_iload C 0 dX8_winBehind_65 rfl ?_
        refine s_iload_n C 5 dX8_winBehind_67 rfl ?_
        refine s_iconst (v := nI 1) C dX8_winBehind_68 (by decide) ?_
        refine s_isubN C dX8_winBehind_69 (by omega) ?_
        refine s_iload C 6 dX8_winBehind_70 rfl ?_
        refine s_iload C 7 dX8_winBehind_72 rfl ?_
        refine s_callSi 2 C (c_X8_next _ w _ s a hs ha) gX8_winBehind_X8_next rfl (by decide +kernel) (by decide) (by decide) rfl rfl (Nat.le_of_ble_eq_true rfl) dX8_winBehind_74 ?_
        rintro rr S2 ⟨hrr, hSS⟩
        obtain rfl := hSS.symm
        subst hrr
        have hnx := ih_nx_le s hs a ha
        have hld := ih_ld_le (par := h % 2) (r := ih_rn s a) hL
        refine s_callSi 4 C (c_X8_placeOf _ w _ h (ih_ld (h % 2) L (ih_rn s a)) (n - 1) (ih_nx s a)) gX8_winBehind_X8_placeOf rfl (by decide +kernel) (by decide) (by decide) rfl rfl (Nat.le_of_ble_eq_true rfl) dX8_winBehind_77 ?_
        rintro rr S2 ⟨hrr, hSS⟩
        obtain rfl := hSS.symm
        subst hrr
        refine s_iaload C 37050 (ih_at h (ih_ld (h % 2) L (ih_rn s a)) (n - 1) (ih_nx s a)) rfl rfl (by unfold ih_at; omega) (by decide) (by decide) rfl dX8_winBehind_80 ?_
        refine s_toe hv ?_
        exact s_ireturn C hA dX8_winBehind_81 ⟨rfl, rfl⟩
    · simp only [ih_lei, ih_lti, ih_t0, ih_t (n := 9) (by omega)] at h32
      refine s_bipush (v := nI 9) C dX8_winBehind_35 (by decide) ?_
      refine s_goto C 58 dX8_winBehind_37 (by decide) ?_
      refine s_toe (b := nI (ih_ld (h % 2) L (ih_rn s a)) - nI 9) (by exfalso; omega) ?_
      refine s_istore (lv' := [(7, .int (nI (ih_ld (h % 2) L (ih_rn s a)) - nI 9)), (6, .int (-(nI (ih_rn s a)))), (0, .ref (w.2.2 0)), (1, .int (nI h)), (2, .int (nI L - nI 9)), (3, .int (nI n)), (4, .int (nI s)), (5, .int (nI a))]) C dX8_winBehind_58 (by decide) rfl ?_
      refine s_aload_n C 2 dX8_winBehind_60 rfl ?_
      refine s_getR C 8 13 (hM.1 _ _ _ rfl) (by decide) rfl (by decide) rfl (fun _ h => List.mem_cons_of_mem _ (List.mem_append_right _ h)) (by decide) rfl (by decide +kernel) dX8_winBehind_61 ?_
      refine s_iload_n C 3 dX8_winBehind_64 rfl ?_
      refine s_iload C 0 dX8_winBehind_65 rfl ?_
      refine s_iload_n C 5 dX8_winBehind_67 rfl ?_
      refine s_iconst (v := nI 1) C dX8_winBehind_68 (by decide) ?_
      refine s_isubN C dX8_winBehind_69 (by omega) ?_
      refine s_iload C 6 dX8_winBehind_70 rfl ?_
      refine s_iload C 7 dX8_winBehind_72 rfl ?_
      refine s_callSi 2 C (c_X8_next _ w _ s a hs ha) gX8_winBehind_X8_next rfl (by decide +kernel) (by decide) (by decide) rfl rfl (Nat.le_of_ble_eq_true rfl) dX8_winBehind_74 ?_
      rintro rr S2 ⟨hrr, hSS⟩
      obtain rfl := hSS.symm
      subst hrr
      have hnx := ih_nx_le s hs a ha
      have hld := ih_ld_le (par := h % 2) (r := ih_rn s a) hL
      refine s_callSi 4 C (c_X8_placeOf _ w _ h (ih_ld (h % 2) L (ih_rn s a)) (n - 1) (ih_nx s a)) gX8_winBehind_X8_placeOf rfl (by decide +kernel) (by decide) (by decide) rfl rfl (Nat.le_of_ble_eq_true rfl) dX8_winBehind_77 ?_
      rintro rr S2 ⟨hrr, hSS⟩
      obtain rfl := hSS.symm
      subst hrr
      refine s_iaload C 37050 (ih_at h (ih_ld (h % 2) L (ih_rn s a)) (n - 1) (ih_nx s a)) rfl rfl (by unfold ih_at; omega) (by decide) (by decide) rfl dX8_winBehind_80 ?_
      refine s_toe hv ?_
      exact s_ireturn C hA dX8_winBehind_81 ⟨rfl, rfl⟩
  · refine s_iload C 4 dX8_winBehind_6 rfl ?_
    refine s_iload C 5 dX8_winBehind_8 rfl ?_
    refine s_callSi 2 C (c_X8_runs _ w _ s a hs ha) gX8_winBehind_X8_runs rfl (by decide +kernel) (by decide) (by decide) rfl rfl (Nat.le_of_ble_eq_true rfl) dX8_winBehind_10 ?_
    rintro rr S2 ⟨hrr, hSS⟩
    obtain rfl := hSS.symm
    subst hrr
    have hrn := ih_rn_le s hs a ha
    have hq0 := ih_ldq L (ih_rn s a) hL hrn
    have hq1 := ih_ldn L (ih_rn s a) hL hrn
    refine s_goto C 24 dX8_winBehind_13 (by decide) ?_
    refine s_istore (lv' := [(6, .int (nI (ih_rn s a))), (0, .ref (w.2.2 0)), (1, .int (nI h)), (2, .int (nI L - nI 9)), (3, .int (nI n)), (4, .int (nI s)), (5, .int (nI a))]) C dX8_winBehind_24 (by decide) rfl ?_
    refine s_iload_n C 3 dX8_winBehind_26 rfl ?_
    refine s_iload C 0 dX8_winBehind_27 rfl ?_
    refine s_iadd C dX8_winBehind_29  ?_
    refine s_bipush (v := nI 9) C dX8_winBehind_30 (by decide) ?_
    refine s_icmp_le C 40 dX8_winBehind_32 (by decide) (fun h32 => ?_) (fun h32 => ?_)
    · simp only [ih_lei, ih_lti, ih_t0, ih_t (n := 9) (by omega)] at h32
      refine s_iload_n C 3 dX8_winBehind_40 rfl ?_
      refine s_iload C 0 dX8_winBehind_41 rfl ?_
      refine s_iadd C dX8_winBehind_43  ?_
      refine s_bipush (v := (-9)) C dX8_winBehind_44 (by decide) ?_
      refine s_icmp_ge C 54 dX8_winBehind_46 (by decide) (fun h46 => ?_) (fun h46 => ?_)
      · simp only [ih_lei, ih_lti, ih_t0] at h46
        refine s_iload_n C 3 dX8_winBehind_54 rfl ?_
        refine s_iload C 0 dX8_winBehind_55 rfl ?_
        refine s_iadd C dX8_winBehind_57  ?_
        refine s_toe (b := nI (ih_ld (h % 2) L (ih_rn s a)) - nI 9) (by rw [ih_ld, if_pos h3, if_neg (by omega)]; exact ih_ldi _ _) ?_
        refine s_istore (lv' := [(7, .int (nI (ih_ld (h % 2) L (ih_rn s a)) - nI 9)), (6, .int (nI (ih_rn s a))), (0, .ref (w.2.2 0)), (1, .int (nI h)), (2, .int (nI L - nI 9)), (3, .int (nI n)), (4, .int (nI s)), (5, .int (nI a))]) C dX8_winBehind_58 (by decide) rfl ?_
        refine s_aload_n C 2 dX8_winBehind_60 rfl ?_
        refine s_getR C 8 13 (hM.1 _ _ _ rfl) (by decide) rfl (by decide) rfl (fun _ h => List.mem_cons_of_mem _ (List.mem_append_right _ h)) (by decide) rfl (by decide +kernel) dX8_winBehind_61 ?_
        refine s_iload_n C 3 dX8_winBehind_64 rfl ?_
        refine s_iload C 0 dX8_winBehind_65 rfl ?_
        refine s_iload_n C 5 dX8_winBehind_67 rfl ?_
        refine s_iconst (v := nI 1) C dX8_winBehind_68 (by decide) ?_
        refine s_isubN C dX8_winBehind_69 (by omega) ?_
        refine s_iload C 6 dX8_winBehind_70 rfl ?_
        refine s_iload C 7 dX8_winBehind_72 rfl ?_
        refine s_callSi 2 C (c_X8_next _ w _ s a hs ha) gX8_winBehind_X8_next rfl (by decide +kernel) (by decide) (by decide) rfl rfl (Nat.le_of_ble_eq_true rfl) dX8_winBehind_74 ?_
        rintro rr S2 ⟨hrr, hSS⟩
        obtain rfl := hSS.symm
        subst hrr
        have hnx := ih_nx_le s hs a ha
        have hld := ih_ld_le (par := h % 2) (r := ih_rn s a) hL
        refine s_callSi 4 C (c_X8_placeOf _ w _ h (ih_ld (h % 2) L (ih_rn s a)) (n - 1) (ih_nx s a)) gX8_winBehind_X8_placeOf rfl (by decide +kernel) (by decide) (by decide) rfl rfl (Nat.le_of_ble_eq_true rfl) dX8_winBehind_77 ?_
        rintro rr S2 ⟨hrr, hSS⟩
        obtain rfl := hSS.symm
        subst hrr
        refine s_iaload C 37050 (ih_at h (ih_ld (h % 2) L (ih_rn s a)) (n - 1) (ih_nx s a)) rfl rfl (by unfold ih_at; omega) (by decide) (by decide) rfl dX8_winBehind_80 ?_
        refine s_toe hv ?_
        exact s_ireturn C hA dX8_winBehind_81 ⟨rfl, rfl⟩
      · simp only [ih_lei, ih_lti, ih_t0] at h46
        refine s_bipush (v := (-9)) C dX8_winBehind_49 (by decide) ?_
        refine s_goto C 58 dX8_winBehind_51 (by decide) ?_
        refine s_toe (b := nI (ih_ld (h % 2) L (ih_rn s a)) - nI 9) (by exfalso; omega) ?_
        refine s_istore (lv' := [(7, .int (nI (ih_ld (h % 2) L (ih_rn s a)) - nI 9)), (6, .int (nI (ih_rn s a))), (0, .ref (w.2.2 0)), (1, .int (nI h)), (2, .int (nI L - nI 9)), (3, .int (nI n)), (4, .int (nI s)), (5, .int (nI a))]) C dX8_winBehind_58 (by decide) rfl ?_
        refine s_aload_n C 2 dX8_winBehind_60 rfl ?_
        refine s_getR C 8 13 (hM.1 _ _ _ rfl) (by decide) rfl (by decide) rfl (fun _ h => List.mem_cons_of_mem _ (List.mem_append_right _ h)) (by decide) rfl (by decide +kernel) dX8_winBehind_61 ?_
        refine s_iload_n C 3 dX8_winBehind_64 rfl ?_
        refine s_iload C 0 dX8_winBehind_65 rfl ?_
        refine s_iload_n C 5 dX8_winBehind_67 rfl ?_
        refine s_iconst (v := nI 1) C dX8_winBehind_68 (by decide) ?_
        refine s_isubN C dX8_winBehind_69 (by omega) ?_
        refine s_iload C 6 dX8_winBehind_70 rfl ?_
        refine s_iload C 7 dX8_winBehind_72 rfl ?_
        refine s_callSi 2 C (c_X8_next _ w _ s a hs ha) gX8_winBehind_X8_next rfl (by decide +kernel) (by decide) (by decide) rfl rfl (Nat.le_of_ble_eq_true rfl) dX8_winBehind_74 ?_
        rintro rr S2 ⟨hrr, hSS⟩
        obtain rfl := hSS.symm
        subst hrr
        have hnx := ih_nx_le s hs a ha
        have hld := ih_ld_le (par := h % 2) (r := ih_rn s a) hL
        refine s_callSi 4 C (c_X8_placeOf _ w _ h (ih_ld (h % 2) L (ih_rn s a)) (n - 1) (ih_nx s a)) gX8_winBehind_X8_placeOf rfl (by decide +kernel) (by decide) (by decide) rfl rfl (Nat.le_of_ble_eq_true rfl) dX8_winBehind_77 ?_
        rintro rr S2 ⟨hrr, hSS⟩
        obtain rfl := hSS.symm
        subst hrr
        refine s_iaload C 37050 (ih_at h (ih_ld (h % 2) L (ih_rn s a)) (n - 1) (ih_nx s a)) rfl rfl (by unfold ih_at; omega) (by decide) (by decide) rfl dX8_winBehind_80 ?_
        refine s_toe hv ?_
        exact s_ireturn C hA dX8_winBehind_81 ⟨rfl, rfl⟩
    · simp only [ih_lei, ih_lti, ih_t0, ih_t (n := 9) (by omega)] at h32
      refine s_bipush (v := nI 9) C dX8_winBehind_35 (by decide) ?_
      refine s_goto C 58 dX8_winBehind_37 (by decide) ?_
      refine s_toe (b := nI (ih_ld (h % 2) L (ih_rn s a)) - nI 9) (by rw [ih_ld, if_pos h3, if_pos (by omega)]; rfl) ?_
      refine s_istore (lv' := [(7, .int (nI (ih_ld (h % 2) L (ih_rn s a)) - nI 9)), (6, .int (nI (ih_rn s a))), (0, .ref (w.2.2 0)), (1, .int (nI h)), (2, .int (nI L - nI 9)), (3, .int (nI n)), (4, .int (nI s)), (5, .int (nI a))]) C dX8_winBehind_58 (by decide) rfl ?_
      refine s_aload_n C 2 dX8_winBehind_60 rfl ?_
      refine s_getR C 8 13 (hM.1 _ _ _ rfl) (by decide) rfl (by decide) rfl (fun _ h => List.mem_cons_of_mem _ (List.mem_append_right _ h)) (by decide) rfl (by decide +kernel) dX8_winBehind_61 ?_
      refine s_iload_n C 3 dX8_winBehind_64 rfl ?_
      refine s_iload C 0 dX8_winBehind_65 rfl ?_
      refine s_iload_n C 5 dX8_winBehind_67 rfl ?_
      refine s_iconst (v := nI 1) C dX8_winBehind_68 (by decide) ?_
      refine s_isubN C dX8_winBehind_69 (by omega) ?_
      refine s_iload C 6 dX8_winBehind_70 rfl ?_
      refine s_iload C 7 dX8_winBehind_72 rfl ?_
      refine s_callSi 2 C (c_X8_next _ w _ s a hs ha) gX8_winBehind_X8_next rfl (by decide +kernel) (by decide) (by decide) rfl rfl (Nat.le_of_ble_eq_true rfl) dX8_winBehind_74 ?_
      rintro rr S2 ⟨hrr, hSS⟩
      obtain rfl := hSS.symm
      subst hrr
      have hnx := ih_nx_le s hs a ha
      have hld := ih_ld_le (par := h % 2) (r := ih_rn s a) hL
      refine s_callSi 4 C (c_X8_placeOf _ w _ h (ih_ld (h % 2) L (ih_rn s a)) (n - 1) (ih_nx s a)) gX8_winBehind_X8_placeOf rfl (by decide +kernel) (by decide) (by decide) rfl rfl (Nat.le_of_ble_eq_true rfl) dX8_winBehind_77 ?_
      rintro rr S2 ⟨hrr, hSS⟩
      obtain rfl := hSS.symm
      subst hrr
      refine s_iaload C 37050 (ih_at h (ih_ld (h % 2) L (ih_rn s a)) (n - 1) (ih_nx s a)) rfl rfl (by unfold ih_at; omega) (by decide) (by decide) rfl dX8_winBehind_80 ?_
      refine s_toe hv ?_
      exact s_ireturn C hA dX8_winBehind_81 ⟨rfl, rfl⟩

set_option maxHeartbeats 4000000 in
set_option maxRecDepth 100000 in
theorem c_X8_take (l : Launch) (w : ih_Wd) (S Sb0 : ih_Sg) {T : ih_TT} (hM : ih_RM S T) (q h c v u : Nat) {d : Int32} (hq : q < 37050) (hh : h ≤ 5) (hv : v ≤ 1000000) (hu : u ≤ 1000000) (hk : ih_kp Sb0 S q) (hw : S.1 10 q = nI u) (hc : S.1 11 q = d) : ih_Cv l yX8_take wsX8_take 0 w ih_shM [.ref (w.2.2 0), .int (nI q), .int (nI h), .int (nI c), .int (nI v)] S (fun S' => ih_RM S' T ∧ ih_kp Sb0 S' q ∧ S'.1 10 q = nI (ih_bt (h % 2) u v) ∧ S'.1 11 q = if ih_sb (h % 2) u v = true then nI c else d) := by
  refine ih_bodyv (ret := none) rfl rfl (Nat.le_of_ble_eq_true rfl) ?_
  intro x A hA C
  have C : ih_Ok x w A cX8_take 5 RX8 wsX8_take (ih_rm 0) (none) := C
  show ih_Mw x w ih_shM A (ih_Qv x w ih_shM A _) 5 0 0 0 [(0, .ref (w.2.2 0)), (1, .int (nI q)), (2, .int (nI h)), (3, .int (nI c)), (4, .int (nI v))] [] S
  refine s_iload_n C 2 dX8_take_0 rfl ?_
  refine s_iconst (v := nI 2) C dX8_take_1 (by decide) ?_
  refine s_iremN C dX8_take_2 (by omega) (by omega) (by omega) ?_
  refine s_if_neN 20 C dX8_take_3 (by decide) (by omega) (fun h3 => ?_) (fun h3 => ?_)
  · refine s_iload C 4 dX8_take_20 rfl ?_
    refine s_aload_n C 0 dX8_take_22 rfl ?_
    refine s_getR C 8 13 (hM.1 _ _ _ rfl) (by decide) rfl (by decide) rfl (fun _ h => List.mem_cons_of_mem _ (List.mem_append_right _ h)) (by decide) rfl (by decide +kernel) dX8_take_23 ?_
    refine s_iload_n C 1 dX8_take_26 rfl ?_
    refine s_iaload C 37050 (q) rfl rfl (by omega) (by decide) (by decide) rfl dX8_take_27 ?_
    refine s_toe hw ?_
    refine s_icmp_geN 46 C dX8_take_28 (by decide) (by omega) (by omega) (fun h28 => ?_) (fun h28 => ?_)
    · exact s_vreturn C hA dX8_take_46 (by first | (rw [ih_bt_sb, if_pos (by unfold ih_sb; first | rw [if_pos (by omega), decide_eq_true_eq]; omega | rw [if_neg (by omega), decide_eq_true_eq]; omega), if_pos (by unfold ih_sb; first | rw [if_pos (by omega), decide_eq_true_eq]; omega | rw [if_neg (by omega), decide_eq_true_eq]; omega)]; exact ⟨hM, hk, hw, hc⟩) | (rw [ih_bt_sb, if_neg (by unfold ih_sb; first | rw [if_pos (by omega), decide_eq_true_eq]; omega | rw [if_neg (by omega), decide_eq_true_eq]; omega), if_neg (by unfold ih_sb; first | rw [if_pos (by omega), decide_eq_true_eq]; omega | rw [if_neg (by omega), decide_eq_true_eq]; omega)]; exact ⟨hM, hk, hw, hc⟩))
    · refine s_aload_n C 0 dX8_take_31 rfl ?_
      refine s_getR C 8 13 (hM.1 _ _ _ rfl) (by decide) rfl (by decide) rfl (fun _ h => List.mem_cons_of_mem _ (List.mem_append_right _ h)) (by decide) rfl (by decide +kernel) dX8_take_32 ?_
      refine s_iload_n C 1 dX8_take_35 rfl ?_
      refine s_iload C 4 dX8_take_36 rfl ?_
      refine s_iastore C 37050 (q) rfl rfl (by omega) (by decide) (by decide) rfl dX8_take_38 ?_
      refine g_w10 hM hk hc (fun S hM hk hw hc => ?_)
      refine s_aload_n C 0 dX8_take_39 rfl ?_
      refine s_getR C 8 14 (hM.1 _ _ _ rfl) (by decide) rfl (by decide) rfl (fun _ h => List.mem_cons_of_mem _ (List.mem_append_right _ h)) (by decide) rfl (by decide +kernel) dX8_take_40 ?_
      refine s_iload_n C 1 dX8_take_43 rfl ?_
      refine s_iload_n C 3 dX8_take_44 rfl ?_
      refine s_iastore C 37050 (q) rfl rfl (by omega) (by decide) (by decide) rfl dX8_take_45 ?_
      refine g_w11 hM hk (fun S hM hk hw2 hc => ?_)
      replace hw := hw2.trans hw
      exact s_vreturn C hA dX8_take_46 (by first | (rw [ih_bt_sb, if_pos (by unfold ih_sb; first | rw [if_pos (by omega), decide_eq_true_eq]; omega | rw [if_neg (by omega), decide_eq_true_eq]; omega), if_pos (by unfold ih_sb; first | rw [if_pos (by omega), decide_eq_true_eq]; omega | rw [if_neg (by omega), decide_eq_true_eq]; omega)]; exact ⟨hM, hk, hw, hc⟩) | (rw [ih_bt_sb, if_neg (by unfold ih_sb; first | rw [if_pos (by omega), decide_eq_true_eq]; omega | rw [if_neg (by omega), decide_eq_true_eq]; omega), if_neg (by unfold ih_sb; first | rw [if_pos (by omega), decide_eq_true_eq]; omega | rw [if_neg (by omega), decide_eq_true_eq]; omega)]; exact ⟨hM, hk, hw, hc⟩))
  · refine s_iload C 4 dX8_take_6 rfl ?_
    refine s_aload_n C 0 dX8_take_8 rfl ?_
    refine s_getR C 8 13 (hM.1 _ _ _ rfl) (by decide) rfl (by decide) rfl (fun _ h => List.mem_cons_of_mem _ (List.mem_append_right _ h)) (by decide) rfl (by decide +kernel) dX8_take_9 ?_
    refine s_iload_n C 1 dX8_take_12 rfl ?_
    refine s_iaload C 37050 (q) rfl rfl (by omega) (by decide) (by decide) rfl dX8_take_13 ?_
    refine s_toe hw ?_
    refine s_icmp_leN 46 C dX8_take_14 (by decide) (by omega) (by omega) (fun h14 => ?_) (fun h14 => ?_)
    · exact s_vreturn C hA dX8_take_46 (by first | (rw [ih_bt_sb, if_pos (by unfold ih_sb; first | rw [if_pos (by omega), decide_eq_true_eq]; omega | rw [if_neg (by omega), decide_eq_true_eq]; omega), if_pos (by unfold ih_sb; first | rw [if_pos (by omega), decide_eq_true_eq]; omega | rw [if_neg (by omega), decide_eq_true_eq]; omega)]; exact ⟨hM, hk, hw, hc⟩) | (rw [ih_bt_sb, if_neg (by unfold ih_sb; first | rw [if_pos (by omega), decide_eq_true_eq]; omega | rw [if_neg (by omega), decide_eq_true_eq]; omega), if_neg (by unfold ih_sb; first | rw [if_pos (by omega), decide_eq_true_eq]; omega | rw [if_neg (by omega), decide_eq_true_eq]; omega)]; exact ⟨hM, hk, hw, hc⟩))
    · refine s_goto C 31 dX8_take_17 (by decide) ?_
      refine s_aload_n C 0 dX8_take_31 rfl ?_
      refine s_getR C 8 13 (hM.1 _ _ _ rfl) (by decide) rfl (by decide) rfl (fun _ h => List.mem_cons_of_mem _ (List.mem_append_right _ h)) (by decide) rfl (by decide +kernel) dX8_take_32 ?_
      refine s_iload_n C 1 dX8_take_35 rfl ?_
      refine s_iload C 4 dX8_take_36 rfl ?_
      refine s_iastore C 37050 (q) rfl rfl (by omega) (by decide) (by decide) rfl dX8_take_38 ?_
      refine g_w10 hM hk hc (fun S hM hk hw hc => ?_)
      refine s_aload_n C 0 dX8_take_39 rfl ?_
      refine s_getR C 8 14 (hM.1 _ _ _ rfl) (by decide) rfl (by decide) rfl (fun _ h => List.mem_cons_of_mem _ (List.mem_append_right _ h)) (by decide) rfl (by decide +kernel) dX8_take_40 ?_
      refine s_iload_n C 1 dX8_take_43 rfl ?_
      refine s_iload_n C 3 dX8_take_44 rfl ?_
      refine s_iastore C 37050 (q) rfl rfl (by omega) (by decide) (by decide) rfl dX8_take_45 ?_
      refine g_w11 hM hk (fun S hM hk hw2 hc => ?_)
      replace hw := hw2.trans hw
      exact s_vreturn C hA dX8_take_46 (by first | (rw [ih_bt_sb, if_pos (by unfold ih_sb; first | rw [if_pos (by omega), decide_eq_true_eq]; omega | rw [if_neg (by omega), decide_eq_true_eq]; omega), if_pos (by unfold ih_sb; first | rw [if_pos (by omega), decide_eq_true_eq]; omega | rw [if_neg (by omega), decide_eq_true_eq]; omega)]; exact ⟨hM, hk, hw, hc⟩) | (rw [ih_bt_sb, if_neg (by unfold ih_sb; first | rw [if_pos (by omega), decide_eq_true_eq]; omega | rw [if_neg (by omega), decide_eq_true_eq]; omega), if_neg (by unfold ih_sb; first | rw [if_pos (by omega), decide_eq_true_eq]; omega | rw [if_neg (by omega), decide_eq_true_eq]; omega)]; exact ⟨hM, hk, hw, hc⟩))

set_option maxHeartbeats 4000000 in
set_option maxRecDepth 100000 in
theorem c_X8_play (l : Launch) (w : ih_Wd) (Sb0 : ih_Sg) (T : ih_TT) (hM : ih_RM Sb0 T) (hI : ih_Inv T) (hT : ih_HT T) (h L n s : Nat) (hh : h ≤ 5) (hL : L ≤ 18) (hn : n < 13) (hsZ : s < 25) (ht : ih_WT Sb0.1 (ih_cg T) h n L s) : ih_Cv l yX8_play wsX8_play 3 w ih_shM [.ref (w.2.2 0), .int (nI h), .int (nI L - nI 9), .int (nI n), .int (nI s)] Sb0 (fun S' => ih_RM S' T ∧ ih_WT S'.1 (ih_cg T) h n L (s + 1)) := by
  refine ih_bodyv (ret := none) rfl rfl (Nat.le_of_ble_eq_true rfl) ?_
  intro x A hA C
  have C : ih_Ok x w A cX8_play 11 RX8 wsX8_play (ih_rm 3) (none) := C
  show ih_Mw x w ih_shM A (ih_Qv x w ih_shM A _) 11 0 0 0 [(0, .ref (w.2.2 0)), (1, .int (nI h)), (2, .int (nI L - nI 9)), (3, .int (nI n)), (4, .int (nI s))] [] Sb0
  obtain ⟨Q, hQ⟩ : ∃ Q, Q = ih_Qv x w ih_shM A (fun S' => ih_RM S' T ∧ ih_WT S'.1 (ih_cg T) h n L (s + 1)) := ⟨_, rfl⟩
  rw [show ih_Qv x w ih_shM A _ = Q from hQ.symm]
  have hct : ih_ct T ≤ 12 := hI.2.1.2.1
  have hL2 : L < 19 := by omega
  have hat : ih_at h L n s < 37050 := by unfold ih_at; omega
  refine s_iload_n C 1 dX8_play_0 rfl ?_
  refine s_iload_n C 2 dX8_play_1 rfl ?_
  refine s_iload_n C 3 dX8_play_2 rfl ?_
  refine s_iload C 4 dX8_play_3 rfl ?_
  refine s_callSi 4 C (c_X8_placeOf _ w _ h L n s) gX8_play_X8_placeOf rfl (by decide +kernel) (by decide) (by decide) rfl rfl (Nat.le_of_ble_eq_true rfl) dX8_play_5 ?_
  rintro rr S2 ⟨hrr, hSS⟩
  obtain rfl := hSS.symm
  subst hrr
  refine s_istore (lv' := [(5, .int (nI (ih_at h L n s))), (0, .ref (w.2.2 0)), (1, .int (nI h)), (2, .int (nI L - nI 9)), (3, .int (nI n)), (4, .int (nI s))]) C dX8_play_8 (by decide) rfl ?_
  refine s_aload_n C 1 dX8_play_10 rfl ?_
  refine s_getR C 8 14 (hM.1 _ _ _ rfl) (by decide) rfl (by decide) rfl (fun _ h => List.mem_cons_of_mem _ (List.mem_append_right _ h)) (by decide) rfl (by decide +kernel) dX8_play_11 ?_
  refine s_iload C 0 dX8_play_14 rfl ?_
  refine s_ldc (v := (-1000000)) C (by decide +kernel) dX8_play_16 ?_
  refine s_iastore C 37050 (ih_at h L n s) rfl rfl hat (by decide) (by decide) rfl dX8_play_18 ?_
  refine g_w11 (Sb0 := Sb0) hM (fun j _ => ⟨rfl, rfl⟩) (fun S hM hk hw2 hc => ?_)
  refine s_iload_n C 2 dX8_play_19 rfl ?_
  refine s_if_neN 52 C dX8_play_20 (by decide) (by omega) (fun h20 => ?_) (fun h20 => ?_)
  · refine s_iload C 5 dX8_play_52 rfl ?_
    refine s_bipush (v := nI 24) C dX8_play_54 (by decide) ?_
    refine s_icmp_eqN 63 C dX8_play_56 (by decide) (by omega) (by omega) (fun h56 => ?_) (fun h56 => ?_)
    · refine s_aload_n C 1 dX8_play_63 rfl ?_
      refine s_getR C 8 13 (hM.1 _ _ _ rfl) (by decide) rfl (by decide) rfl (fun _ h => List.mem_cons_of_mem _ (List.mem_append_right _ h)) (by decide) rfl (by decide +kernel) dX8_play_64 ?_
      refine s_iload C 0 dX8_play_67 rfl ?_
      refine s_aload_n C 1 dX8_play_69 rfl ?_
      refine s_getR C 8 13 (hM.1 _ _ _ rfl) (by decide) rfl (by decide) rfl (fun _ h => List.mem_cons_of_mem _ (List.mem_append_right _ h)) (by decide) rfl (by decide +kernel) dX8_play_70 ?_
      refine s_iload_n C 2 dX8_play_73 rfl ?_
      refine s_iconst (v := nI 1) C dX8_play_74 (by decide) ?_
      refine s_isubN C dX8_play_75 (by omega) ?_
      refine s_iload_n C 3 dX8_play_76 rfl ?_
      refine s_bipush (v := nI 12) C dX8_play_77 (by decide) ?_
      refine s_iconst (v := nI 0) C dX8_play_79 (by decide) ?_
      refine s_callSi 4 C (c_X8_placeOf _ w _ (h - 1) L 12 0) gX8_play_X8_placeOf rfl (by decide +kernel) (by decide) (by decide) rfl rfl (Nat.le_of_ble_eq_true rfl) dX8_play_80 ?_
      rintro rr S2 ⟨hrr, hSS⟩
      obtain rfl := hSS.symm
      subst hrr
      refine s_iaload C 37050 (ih_at (h - 1) L 12 0) rfl rfl (by unfold ih_at; omega) (by decide) (by decide) rfl dX8_play_83 ?_
      refine s_toe (b := nI (ih_win (ih_cg T) (h - 1) 12 L 0)) ((hk _ (fun e => by have := ih_at_inj (by omega) (by omega) (by omega) (by omega) (by omega) (by omega) e; omega)).1.trans (ht (h - 1) 12 L 0 (by omega) (by omega) (by omega) (Or.inl (by omega))).1) ?_
      refine s_iastore C 37050 (ih_at h L n s) rfl rfl hat (by decide) (by decide) rfl dX8_play_84 ?_
      refine g_w10 hM hk hc (fun S hM hk hw hc => ?_)
      refine s_goto C 272 dX8_play_85 (by decide) ?_
      rw [hQ]
      exact s_vreturn C hA dX8_play_272 ⟨hM, ih_WT_w ht hk (by rw [hw, ih_win_o (cs := ih_cg T) (h := h) (n := n) (L := L) (s := s) (by omega) (by omega)]) (by rw [hc, ih_chc, if_pos (show h = 0 ∨ n = 0 ∨ ¬ s < 24 by omega)]) hn hL2 hsZ⟩
    · refine s_iload_n C 4 dX8_play_59 rfl ?_
      refine s_if_neN 88 C dX8_play_60 (by decide) (by omega) (fun h60 => ?_) (fun h60 => ?_)
      · have hs24 : s < 24 := by omega
        have hcgo := ih_cg_ok hI hT
        have hc6 := (hcgo (h % 2) (by omega)).2
        have hbeh : ∀ a, ih_beh (ih_cg T (h % 2)) (h % 2) (ih_st (ih_cg T) (h - 1)) (n - 1) L s a ≤ 1000000 := fun a => ih_half_le (hcgo (h % 2) (by omega)).1 hc6 (ih_st_le hcgo (h - 1)) _ _ _ (ih_ld_le hL)
        have htm := (hT (h % 2) (by omega)).2
        refine s_aload_n C 1 dX8_play_88 rfl ?_
        refine s_getR C 8 12 (hM.1 _ _ _ rfl) (by decide) rfl (by decide) rfl (fun _ h => List.mem_cons_of_mem _ (List.mem_append_right _ h)) (by decide) rfl (by decide +kernel) dX8_play_89 ?_
        refine s_iload_n C 2 dX8_play_92 rfl ?_
        refine s_iconst (v := nI 2) C dX8_play_93 (by decide) ?_
        refine s_iremN C dX8_play_94 (by omega) (by omega) (by omega) ?_
        refine s_iaload C 2 (h % 2) rfl rfl (by omega) (by decide) (by decide) rfl dX8_play_95 ?_
        refine s_toe (b := T 9 (h % 2)) (hM.2 _ _ rfl) ?_
        refine s_toe (b := nI (ih_tm T (h % 2))) (hT _ (by omega)).1 ?_
        refine s_istore (lv' := [(6, .int (nI (ih_tm T (h % 2)))), (5, .int (nI (ih_at h L n s))), (0, .ref (w.2.2 0)), (1, .int (nI h)), (2, .int (nI L - nI 9)), (3, .int (nI n)), (4, .int (nI s))]) C dX8_play_96 (by decide) rfl ?_
        refine s_lconst (v := lN 0) C dX8_play_98 rfl ?_
        refine s_lstore (lv' := [(7, .long (lN (0))), (6, .int (nI (ih_tm T (h % 2)))), (5, .int (nI (ih_at h L n s))), (0, .ref (w.2.2 0)), (1, .int (nI h)), (2, .int (nI L - nI 9)), (3, .int (nI n)), (4, .int (nI s))]) C dX8_play_99 (by decide) rfl ?_
        refine s_iconst (v := nI 0) C dX8_play_101 (by decide) ?_
        refine s_istore (lv' := [(9, .int (nI 0)), (7, .long (lN (0))), (6, .int (nI (ih_tm T (h % 2)))), (5, .int (nI (ih_at h L n s))), (0, .ref (w.2.2 0)), (1, .int (nI h)), (2, .int (nI L - nI 9)), (3, .int (nI n)), (4, .int (nI s))]) C dX8_play_102 (by decide) rfl ?_
        have hx_104 : ∀ S, ih_RM S T ∧ ih_kp Sb0 S (ih_at h L n s) ∧ S.1 11 (ih_at h L n s) = -1000000 → ih_Mw x w ih_shM A Q 11 0 0 149 [(0, .ref (w.2.2 0)), (1, .int (nI h)), (2, .int (nI L - nI 9)), (3, .int (nI n)), (4, .int (nI s)), (5, .int (nI (ih_at h L n s))), (6, .int (nI (ih_tm T (h % 2)))), (7, .long (lN (ih_sum (ih_wf (ih_cg T (h % 2)) (h % 2) (ih_st (ih_cg T) (h - 1)) (n - 1) L s) (6)))), (9, .int (nI 6))] [] S := by
          intro S ⟨hM, hk, hc⟩
          have hsb := ih_wf_le (par := h % 2) (n := n - 1) (s := s) (hcgo (h % 2) (by omega)).1 hc6 (ih_st_le hcgo (h - 1)) hL (Nat.le_refl 6)
          have hv0 : ih_v0 (ih_cg T (h % 2)) (h % 2) (ih_st (ih_cg T) (h - 1)) (n - 1) L s ≤ 1000000 := by unfold ih_v0; omega
          refine s_aload_n C 0 dX8_play_149 rfl ?_
          refine s_getR C 8 13 (hM.1 _ _ _ rfl) (by decide) rfl (by decide) rfl (fun _ h => List.mem_cons_of_mem _ (List.mem_append_right _ h)) (by decide) rfl (by decide +kernel) dX8_play_150 ?_
          refine s_iload C 5 dX8_play_153 rfl ?_
          refine s_lload C 7 dX8_play_155 rfl ?_
          refine s_ldc2 (v := lN 1000) C (by decide +kernel) dX8_play_157 ?_
          refine s_ldivN C dX8_play_160 (by omega) (by omega) (by omega) ?_
          refine s_l2iN C dX8_play_161 ?_
          refine s_iastore C 37050 (ih_at h L n s) rfl rfl hat (by decide) (by decide) rfl dX8_play_162 ?_
          refine g_w10 hM hk hc (fun S hM hk hw hc => ?_)
          replace hw : S.1 10 (ih_at h L n s) = nI (ih_v0 (ih_cg T (h % 2)) (h % 2) (ih_st (ih_cg T) (h - 1)) (n - 1) L s) := by rw [ih_v0]; exact hw
          refine s_aload_n C 0 dX8_play_163 rfl ?_
          refine s_getR C 8 14 (hM.1 _ _ _ rfl) (by decide) rfl (by decide) rfl (fun _ h => List.mem_cons_of_mem _ (List.mem_append_right _ h)) (by decide) rfl (by decide +kernel) dX8_play_164 ?_
          refine s_iload C 5 dX8_play_167 rfl ?_
          refine s_iconst (v := nI 0) C dX8_play_169 (by decide) ?_
          refine s_iastore C 37050 (ih_at h L n s) rfl rfl hat (by decide) (by decide) rfl dX8_play_170 ?_
          refine g_w11 hM hk (fun S hM hk hw2 hc => ?_)
          replace hw := hw2.trans hw
          refine s_iload C 4 dX8_play_171 rfl ?_
          refine s_bipush (v := nI 7) C dX8_play_173 (by decide) ?_
          refine s_iand C dX8_play_175 ?_
          refine s_toe (ih_and7 hs24) ?_
          refine s_if_eqN 198 C dX8_play_176 (by decide) (by omega) (fun h176 => ?_) (fun h176 => ?_)
          · rw [show ih_v0 (ih_cg T (h % 2)) (h % 2) (ih_st (ih_cg T) (h - 1)) (n - 1) L s = ih_v1 (ih_cg T (h % 2)) (h % 2) (ih_st (ih_cg T) (h - 1)) (n - 1) L s by rw [ih_v1, if_pos h176]] at hw
            replace hc : S.1 11 (ih_at h L n s) = nI (ih_c1 (ih_cg T (h % 2)) (h % 2) (ih_st (ih_cg T) (h - 1)) (n - 1) L s) := by rw [hc, ih_c1, if_pos h176]
            refine s_iload C 4 dX8_play_198 rfl ?_
            refine s_bipush (v := nI 7) C dX8_play_200 (by decide) ?_
            refine s_callSi 2 C (c_X8_mayBe _ w _ s 7 hs24 (by decide)) gX8_play_X8_mayBe rfl (by decide +kernel) (by decide) (by decide) rfl rfl (Nat.le_of_ble_eq_true rfl) dX8_play_202 ?_
            rintro rm S2 ⟨hrm, hSS⟩
            obtain rfl := hSS.symm
            refine s_if_eq C 272 dX8_play_205 (by decide) (fun h205 => ?_) (fun h205 => ?_)
            · replace h205 := ih_b0 hrm h205
              have hm4 : ¬ s % 4 = 1 := by simpa [ih_may] using h205
              rw [hQ]
              exact s_vreturn C hA dX8_play_272 ⟨hM, ih_WT_w ht hk (by rw [hw, ih_win_s (by omega) (by omega) hs24, if_neg hm4]) (by rw [hc, ih_chc, if_neg (show ¬ (h = 0 ∨ n = 0 ∨ ¬ s < 24) by omega), ih_c2, if_neg hm4]) hn hL2 hsZ⟩
            · replace h205 := ih_b1 hrm h205
              have hm4 : s % 4 = 1 := by simpa [ih_may] using h205
              refine s_aload_n C 0 dX8_play_208 rfl ?_
              refine s_getR C 8 6 (hM.1 _ _ _ rfl) (by decide) rfl (by decide) rfl (fun _ h => List.mem_cons_of_mem _ (List.mem_append_right _ h)) (by decide) rfl (by decide +kernel) dX8_play_209 ?_
              refine s_bipush (v := nI 7) C dX8_play_212 (by decide) ?_
              refine s_iload C 6 dX8_play_214 rfl ?_
              refine s_imulN C dX8_play_216 ?_
              refine s_bipush (v := nI 6) C dX8_play_217 (by decide) ?_
              refine s_iaddN C dX8_play_219 ?_
              refine s_iaload C 84 ((7 * (ih_tm T (h % 2))) + 6) rfl rfl (by omega) (by decide) (by decide) rfl dX8_play_220 ?_
              refine s_toe (b := T 4 ((7 * (ih_tm T (h % 2))) + 6)) (hM.2 _ _ rfl) ?_
              refine s_toe (b := nI (ih_cg T (h % 2) 6)) (ih_cg_e hI hT (by omega) (by omega)).1 ?_
              refine s_i2lN C dX8_play_221 (by omega) ?_
              refine s_lstore (lv' := [(9, .long (lN (ih_cg T (h % 2) 6))), (0, .ref (w.2.2 0)), (1, .int (nI h)), (2, .int (nI L - nI 9)), (3, .int (nI n)), (4, .int (nI s)), (5, .int (nI (ih_at h L n s))), (6, .int (nI (ih_tm T (h % 2)))), (7, .long (lN (ih_sum (ih_wf (ih_cg T (h % 2)) (h % 2) (ih_st (ih_cg T) (h - 1)) (n - 1) L s) (6))))]) C dX8_play_222 (by decide) rfl ?_
              refine s_aload_n C 1 dX8_play_224 rfl ?_
              refine s_iload C 6 dX8_play_225 rfl ?_
              refine s_iload_n C 2 dX8_play_227 rfl ?_
              refine s_iconst (v := nI 2) C dX8_play_228 (by decide) ?_
              refine s_lload C 0 dX8_play_229 rfl ?_
              refine s_aload_n C 1 dX8_play_231 rfl ?_
              refine s_iload_n C 2 dX8_play_232 rfl ?_
              refine s_iload_n C 3 dX8_play_233 rfl ?_
              refine s_iload_n C 4 dX8_play_234 rfl ?_
              refine s_iload C 5 dX8_play_235 rfl ?_
              refine s_bipush (v := nI 7) C dX8_play_237 (by decide) ?_
              refine s_callVi 5 C (c_X8_winBehind _ w _ hM h L n s 7 (ih_beh (ih_cg T (h % 2)) (h % 2) (ih_st (ih_cg T) (h - 1)) (n - 1) L s 7) (by omega) hL (by omega) (by omega) hs24 (by omega) ((hk _ (fun e => by have := ih_at_inj (by omega) (by have := ih_ld_le (par := h % 2) (r := ih_rn s 7) hL; omega) (by have := ih_nx_le s hs24 7 (by omega); omega) (by omega) (by omega) (by omega) e; omega)).1.trans ((ht h (n - 1) _ _ (by omega) (by have := ih_ld_le (par := h % 2) (r := ih_rn s 7) hL; omega) (ih_nx_le s hs24 7 (by omega)) (Or.inr ⟨rfl, Or.inl (by omega)⟩)).1.trans (congrArg nI (ih_win_p (by omega)))))) gX8_play_X8_winBehind rfl (by decide +kernel) (by decide) (by decide) (by decide) rfl (by decide) rfl rfl rfl (Nat.le_of_ble_eq_true rfl) dX8_play_239 ?_
              rintro rr S2 ⟨hrr, hSS⟩
              obtain rfl := hSS.symm
              subst hrr
              have hbb7 : ih_beh (ih_cg T (h % 2)) (h % 2) (ih_st (ih_cg T) (h - 1)) (n - 1) L s 7 ≤ 1000000 := hbeh 7
              refine s_i2lN C dX8_play_242 (by omega) ?_
              refine s_lmulN C dX8_play_243 ?_
              refine s_ldc2 (v := lN 1000) C (by decide +kernel) dX8_play_244 ?_
              refine s_lload C 0 dX8_play_247 rfl ?_
              refine s_lsubN C dX8_play_249 (by omega) ?_
              refine s_aload_n C 1 dX8_play_250 rfl ?_
              refine s_iload_n C 2 dX8_play_251 rfl ?_
              refine s_iload_n C 3 dX8_play_252 rfl ?_
              refine s_iload_n C 4 dX8_play_253 rfl ?_
              refine s_iload C 5 dX8_play_254 rfl ?_
              refine s_bipush (v := nI 8) C dX8_play_256 (by decide) ?_
              refine s_callVi 5 C (c_X8_winBehind _ w _ hM h L n s 8 (ih_beh (ih_cg T (h % 2)) (h % 2) (ih_st (ih_cg T) (h - 1)) (n - 1) L s 8) (by omega) hL (by omega) (by omega) hs24 (by omega) ((hk _ (fun e => by have := ih_at_inj (by omega) (by have := ih_ld_le (par := h % 2) (r := ih_rn s 8) hL; omega) (by have := ih_nx_le s hs24 8 (by omega); omega) (by omega) (by omega) (by omega) e; omega)).1.trans ((ht h (n - 1) _ _ (by omega) (by have := ih_ld_le (par := h % 2) (r := ih_rn s 8) hL; omega) (ih_nx_le s hs24 8 (by omega)) (Or.inr ⟨rfl, Or.inl (by omega)⟩)).1.trans (congrArg nI (ih_win_p (by omega)))))) gX8_play_X8_winBehind rfl (by decide +kernel) (by decide) (by decide) (by decide) rfl (by decide) rfl rfl rfl (Nat.le_of_ble_eq_true rfl) dX8_play_258 ?_
              rintro rr S2 ⟨hrr, hSS⟩
              obtain rfl := hSS.symm
              subst hrr
              have hbb8 : ih_beh (ih_cg T (h % 2)) (h % 2) (ih_st (ih_cg T) (h - 1)) (n - 1) L s 8 ≤ 1000000 := hbeh 8
              refine s_i2lN C dX8_play_261 (by omega) ?_
              refine s_lmulN C dX8_play_262 ?_
              refine s_laddN C dX8_play_263 ?_
              refine s_ldc2 (v := lN 1000) C (by decide +kernel) dX8_play_264 ?_
              have q7 := Nat.mul_le_mul_left (ih_cg T (h % 2) 6) hbb7
              have q8 := Nat.mul_le_mul_left (1000 - ih_cg T (h % 2) 6) hbb8
              refine s_ldivN C dX8_play_267 (by omega) (by omega) (by omega) ?_
              refine s_l2iN C dX8_play_268 ?_
              have hv2 : ih_v2 (ih_cg T (h % 2)) (h % 2) (ih_st (ih_cg T) (h - 1)) (n - 1) L s ≤ 1000000 := by unfold ih_v2; have q7 := Nat.mul_le_mul_left (ih_cg T (h % 2) 6) hbb7; have q8 := Nat.mul_le_mul_left (1000 - ih_cg T (h % 2) 6) hbb8; omega
              have hv1 : ih_v1 (ih_cg T (h % 2)) (h % 2) (ih_st (ih_cg T) (h - 1)) (n - 1) L s ≤ 1000000 := by unfold ih_v1; split <;> first | exact hv0 | exact ih_bt_le hv0 (hbeh 6)
              refine s_callVv 4 C (c_X8_take _ w _ Sb0 hM (ih_at h L n s) h 2 (ih_v2 (ih_cg T (h % 2)) (h % 2) (ih_st (ih_cg T) (h - 1)) (n - 1) L s) (ih_v1 (ih_cg T (h % 2)) (h % 2) (ih_st (ih_cg T) (h - 1)) (n - 1) L s) hat (by omega) hv2 hv1 hk hw hc) gX8_play_X8_take rfl (by decide +kernel) (by decide) (by decide) (by decide) rfl (by decide) rfl rfl rfl (Nat.le_of_ble_eq_true rfl) dX8_play_269 ?_
              rintro S ⟨hM, hk, hw, hc⟩
              refine s_toS rfl ?_
              rw [hQ]
              exact s_vreturn C hA dX8_play_272 ⟨hM, ih_WT_w ht hk (by rw [hw, ih_win_s (by omega) (by omega) hs24, if_pos hm4]) (by rw [hc, ih_chc, if_neg (show ¬ (h = 0 ∨ n = 0 ∨ ¬ s < 24) by omega), ih_c2, if_pos hm4]; split <;> rfl) hn hL2 hsZ⟩
          · refine s_aload_n C 0 dX8_play_179 rfl ?_
            refine s_iload C 5 dX8_play_180 rfl ?_
            refine s_iload_n C 1 dX8_play_182 rfl ?_
            refine s_iconst (v := nI 1) C dX8_play_183 (by decide) ?_
            refine s_aload_n C 0 dX8_play_184 rfl ?_
            refine s_iload_n C 1 dX8_play_185 rfl ?_
            refine s_iload_n C 2 dX8_play_186 rfl ?_
            refine s_iload_n C 3 dX8_play_187 rfl ?_
            refine s_iload C 4 dX8_play_188 rfl ?_
            refine s_bipush (v := nI 6) C dX8_play_190 (by decide) ?_
            refine s_callVi 5 C (c_X8_winBehind _ w _ hM h L n s 6 (ih_beh (ih_cg T (h % 2)) (h % 2) (ih_st (ih_cg T) (h - 1)) (n - 1) L s 6) (by omega) hL (by omega) (by omega) hs24 (by omega) ((hk _ (fun e => by have := ih_at_inj (by omega) (by have := ih_ld_le (par := h % 2) (r := ih_rn s 6) hL; omega) (by have := ih_nx_le s hs24 6 (by omega); omega) (by omega) (by omega) (by omega) e; omega)).1.trans ((ht h (n - 1) _ _ (by omega) (by have := ih_ld_le (par := h % 2) (r := ih_rn s 6) hL; omega) (ih_nx_le s hs24 6 (by omega)) (Or.inr ⟨rfl, Or.inl (by omega)⟩)).1.trans (congrArg nI (ih_win_p (by omega)))))) gX8_play_X8_winBehind rfl (by decide +kernel) (by decide) (by decide) (by decide) rfl (by decide) rfl rfl rfl (Nat.le_of_ble_eq_true rfl) dX8_play_192 ?_
            rintro rr S2 ⟨hrr, hSS⟩
            obtain rfl := hSS.symm
            subst hrr
            have hbb6 : ih_beh (ih_cg T (h % 2)) (h % 2) (ih_st (ih_cg T) (h - 1)) (n - 1) L s 6 ≤ 1000000 := hbeh 6
            refine s_callVv 4 C (c_X8_take _ w _ Sb0 hM (ih_at h L n s) h 1 (ih_beh (ih_cg T (h % 2)) (h % 2) (ih_st (ih_cg T) (h - 1)) (n - 1) L s 6) (ih_v0 (ih_cg T (h % 2)) (h % 2) (ih_st (ih_cg T) (h - 1)) (n - 1) L s) hat (by omega) hbb6 hv0 hk hw hc) gX8_play_X8_take rfl (by decide +kernel) (by decide) (by decide) (by decide) rfl (by decide) rfl rfl rfl (Nat.le_of_ble_eq_true rfl) dX8_play_195 ?_
            rintro S ⟨hM, hk, hw, hc⟩
            rw [show ih_bt (h % 2) (ih_v0 (ih_cg T (h % 2)) (h % 2) (ih_st (ih_cg T) (h - 1)) (n - 1) L s) (ih_beh (ih_cg T (h % 2)) (h % 2) (ih_st (ih_cg T) (h - 1)) (n - 1) L s 6) = ih_v1 (ih_cg T (h % 2)) (h % 2) (ih_st (ih_cg T) (h - 1)) (n - 1) L s by rw [ih_v1, if_neg h176]] at hw
            rw [show (if ih_sb (h % 2) (ih_v0 (ih_cg T (h % 2)) (h % 2) (ih_st (ih_cg T) (h - 1)) (n - 1) L s) (ih_beh (ih_cg T (h % 2)) (h % 2) (ih_st (ih_cg T) (h - 1)) (n - 1) L s 6) = true then nI 1 else nI 0) = nI (ih_c1 (ih_cg T (h % 2)) (h % 2) (ih_st (ih_cg T) (h - 1)) (n - 1) L s) by rw [ih_c1, if_neg h176]; split <;> rfl] at hc
            refine s_iload C 4 dX8_play_198 rfl ?_
            refine s_bipush (v := nI 7) C dX8_play_200 (by decide) ?_
            refine s_callSi 2 C (c_X8_mayBe _ w _ s 7 hs24 (by decide)) gX8_play_X8_mayBe rfl (by decide +kernel) (by decide) (by decide) rfl rfl (Nat.le_of_ble_eq_true rfl) dX8_play_202 ?_
            rintro rm S2 ⟨hrm, hSS⟩
            obtain rfl := hSS.symm
            refine s_if_eq C 272 dX8_play_205 (by decide) (fun h205 => ?_) (fun h205 => ?_)
            · replace h205 := ih_b0 hrm h205
              have hm4 : ¬ s % 4 = 1 := by simpa [ih_may] using h205
              rw [hQ]
              exact s_vreturn C hA dX8_play_272 ⟨hM, ih_WT_w ht hk (by rw [hw, ih_win_s (by omega) (by omega) hs24, if_neg hm4]) (by rw [hc, ih_chc, if_neg (show ¬ (h = 0 ∨ n = 0 ∨ ¬ s < 24) by omega), ih_c2, if_neg hm4]) hn hL2 hsZ⟩
            · replace h205 := ih_b1 hrm h205
              have hm4 : s % 4 = 1 := by simpa [ih_may] using h205
              refine s_aload_n C 0 dX8_play_208 rfl ?_
              refine s_getR C 8 6 (hM.1 _ _ _ rfl) (by decide) rfl (by decide) rfl (fun _ h => List.mem_cons_of_mem _ (List.mem_append_right _ h)) (by decide) rfl (by decide +kernel) dX8_play_209 ?_
              refine s_bipush (v := nI 7) C dX8_play_212 (by decide) ?_
              refine s_iload C 6 dX8_play_214 rfl ?_
              refine s_imulN C dX8_play_216 ?_
              refine s_bipush (v := nI 6) C dX8_play_217 (by decide) ?_
              refine s_iaddN C dX8_play_219 ?_
              refine s_iaload C 84 ((7 * (ih_tm T (h % 2))) + 6) rfl rfl (by omega) (by decide) (by decide) rfl dX8_play_220 ?_
              refine s_toe (b := T 4 ((7 * (ih_tm T (h % 2))) + 6)) (hM.2 _ _ rfl) ?_
              refine s_toe (b := nI (ih_cg T (h % 2) 6)) (ih_cg_e hI hT (by omega) (by omega)).1 ?_
              refine s_i2lN C dX8_play_221 (by omega) ?_
              refine s_lstore (lv' := [(9, .long (lN (ih_cg T (h % 2) 6))), (0, .ref (w.2.2 0)), (1, .int (nI h)), (2, .int (nI L - nI 9)), (3, .int (nI n)), (4, .int (nI s)), (5, .int (nI (ih_at h L n s))), (6, .int (nI (ih_tm T (h % 2)))), (7, .long (lN (ih_sum (ih_wf (ih_cg T (h % 2)) (h % 2) (ih_st (ih_cg T) (h - 1)) (n - 1) L s) (6))))]) C dX8_play_222 (by decide) rfl ?_
              refine s_aload_n C 1 dX8_play_224 rfl ?_
              refine s_iload C 6 dX8_play_225 rfl ?_
              refine s_iload_n C 2 dX8_play_227 rfl ?_
              refine s_iconst (v := nI 2) C dX8_play_228 (by decide) ?_
              refine s_lload C 0 dX8_play_229 rfl ?_
              refine s_aload_n C 1 dX8_play_231 rfl ?_
              refine s_iload_n C 2 dX8_play_232 rfl ?_
              refine s_iload_n C 3 dX8_play_233 rfl ?_
              refine s_iload_n C 4 dX8_play_234 rfl ?_
              refine s_iload C 5 dX8_play_235 rfl ?_
              refine s_bipush (v := nI 7) C dX8_play_237 (by decide) ?_
              refine s_callVi 5 C (c_X8_winBehind _ w _ hM h L n s 7 (ih_beh (ih_cg T (h % 2)) (h % 2) (ih_st (ih_cg T) (h - 1)) (n - 1) L s 7) (by omega) hL (by omega) (by omega) hs24 (by omega) ((hk _ (fun e => by have := ih_at_inj (by omega) (by have := ih_ld_le (par := h % 2) (r := ih_rn s 7) hL; omega) (by have := ih_nx_le s hs24 7 (by omega); omega) (by omega) (by omega) (by omega) e; omega)).1.trans ((ht h (n - 1) _ _ (by omega) (by have := ih_ld_le (par := h % 2) (r := ih_rn s 7) hL; omega) (ih_nx_le s hs24 7 (by omega)) (Or.inr ⟨rfl, Or.inl (by omega)⟩)).1.trans (congrArg nI (ih_win_p (by omega)))))) gX8_play_X8_winBehind rfl (by decide +kernel) (by decide) (by decide) (by decide) rfl (by decide) rfl rfl rfl (Nat.le_of_ble_eq_true rfl) dX8_play_239 ?_
              rintro rr S2 ⟨hrr, hSS⟩
              obtain rfl := hSS.symm
              subst hrr
              have hbb7 : ih_beh (ih_cg T (h % 2)) (h % 2) (ih_st (ih_cg T) (h - 1)) (n - 1) L s 7 ≤ 1000000 := hbeh 7
              refine s_i2lN C dX8_play_242 (by omega) ?_
              refine s_lmulN C dX8_play_243 ?_
              refine s_ldc2 (v := lN 1000) C (by decide +kernel) dX8_play_244 ?_
              refine s_lload C 0 dX8_play_247 rfl ?_
              refine s_lsubN C dX8_play_249 (by omega) ?_
              refine s_aload_n C 1 dX8_play_250 rfl ?_
              refine s_iload_n C 2 dX8_play_251 rfl ?_
              refine s_iload_n C 3 dX8_play_252 rfl ?_
              refine s_iload_n C 4 dX8_play_253 rfl ?_
              refine s_iload C 5 dX8_play_254 rfl ?_
              refine s_bipush (v := nI 8) C dX8_play_256 (by decide) ?_
              refine s_callVi 5 C (c_X8_winBehind _ w _ hM h L n s 8 (ih_beh (ih_cg T (h % 2)) (h % 2) (ih_st (ih_cg T) (h - 1)) (n - 1) L s 8) (by omega) hL (by omega) (by omega) hs24 (by omega) ((hk _ (fun e => by have := ih_at_inj (by omega) (by have := ih_ld_le (par := h % 2) (r := ih_rn s 8) hL; omega) (by have := ih_nx_le s hs24 8 (by omega); omega) (by omega) (by omega) (by omega) e; omega)).1.trans ((ht h (n - 1) _ _ (by omega) (by have := ih_ld_le (par := h % 2) (r := ih_rn s 8) hL; omega) (ih_nx_le s hs24 8 (by omega)) (Or.inr ⟨rfl, Or.inl (by omega)⟩)).1.trans (congrArg nI (ih_win_p (by omega)))))) gX8_play_X8_winBehind rfl (by decide +kernel) (by decide) (by decide) (by decide) rfl (by decide) rfl rfl rfl (Nat.le_of_ble_eq_true rfl) dX8_play_258 ?_
              rintro rr S2 ⟨hrr, hSS⟩
              obtain rfl := hSS.symm
              subst hrr
              have hbb8 : ih_beh (ih_cg T (h % 2)) (h % 2) (ih_st (ih_cg T) (h - 1)) (n - 1) L s 8 ≤ 1000000 := hbeh 8
              refine s_i2lN C dX8_play_261 (by omega) ?_
              refine s_lmulN C dX8_play_262 ?_
              refine s_laddN C dX8_play_263 ?_
              refine s_ldc2 (v := lN 1000) C (by decide +kernel) dX8_play_264 ?_
              have q7 := Nat.mul_le_mul_left (ih_cg T (h % 2) 6) hbb7
              have q8 := Nat.mul_le_mul_left (1000 - ih_cg T (h % 2) 6) hbb8
              refine s_ldivN C dX8_play_267 (by omega) (by omega) (by omega) ?_
              refine s_l2iN C dX8_play_268 ?_
              have hv2 : ih_v2 (ih_cg T (h % 2)) (h % 2) (ih_st (ih_cg T) (h - 1)) (n - 1) L s ≤ 1000000 := by unfold ih_v2; have q7 := Nat.mul_le_mul_left (ih_cg T (h % 2) 6) hbb7; have q8 := Nat.mul_le_mul_left (1000 - ih_cg T (h % 2) 6) hbb8; omega
              have hv1 : ih_v1 (ih_cg T (h % 2)) (h % 2) (ih_st (ih_cg T) (h - 1)) (n - 1) L s ≤ 1000000 := by unfold ih_v1; split <;> first | exact hv0 | exact ih_bt_le hv0 (hbeh 6)
              refine s_callVv 4 C (c_X8_take _ w _ Sb0 hM (ih_at h L n s) h 2 (ih_v2 (ih_cg T (h % 2)) (h % 2) (ih_st (ih_cg T) (h - 1)) (n - 1) L s) (ih_v1 (ih_cg T (h % 2)) (h % 2) (ih_st (ih_cg T) (h - 1)) (n - 1) L s) hat (by omega) hv2 hv1 hk hw hc) gX8_play_X8_take rfl (by decide +kernel) (by decide) (by decide) (by decide) rfl (by decide) rfl rfl rfl (Nat.le_of_ble_eq_true rfl) dX8_play_269 ?_
              rintro S ⟨hM, hk, hw, hc⟩
              refine s_toS rfl ?_
              rw [hQ]
              exact s_vreturn C hA dX8_play_272 ⟨hM, ih_WT_w ht hk (by rw [hw, ih_win_s (by omega) (by omega) hs24, if_pos hm4]) (by rw [hc, ih_chc, if_neg (show ¬ (h = 0 ∨ n = 0 ∨ ¬ s < 24) by omega), ih_c2, if_pos hm4]; split <;> rfl) hn hL2 hsZ⟩
        have loop_104 : ∀ (fu a : Nat), a + fu = 6 → ∀ S, ih_RM S T ∧ ih_kp Sb0 S (ih_at h L n s) ∧ S.1 11 (ih_at h L n s) = -1000000 → ih_Mw x w ih_shM A Q 11 0 0 104 [(0, .ref (w.2.2 0)), (1, .int (nI h)), (2, .int (nI L - nI 9)), (3, .int (nI n)), (4, .int (nI s)), (5, .int (nI (ih_at h L n s))), (6, .int (nI (ih_tm T (h % 2)))), (7, .long (lN (ih_sum (ih_wf (ih_cg T (h % 2)) (h % 2) (ih_st (ih_cg T) (h - 1)) (n - 1) L s) (a)))), (9, .int (nI a))] [] S := by
          intro fu
          induction fu with
          | zero =>
            intro a hae S ⟨hM, hk, hc⟩
            have ha0 : a = 6 := by omega
            refine s_iload C 8 dX8_play_104 rfl ?_
            refine s_bipush (v := nI 6) C dX8_play_106 (by decide) ?_
            refine s_icmp_geN 149 C dX8_play_108 (by decide) (by omega) (by omega) (fun h108 => ?_) (fun h108 => ?_)
            · subst ha0
              exact hx_104 _ ⟨hM, hk, hc⟩
            · exfalso; omega
          | succ fu ih_104 =>
            intro a hae S ⟨hM, hk, hc⟩
            have hal : a < 6 := by omega
            refine s_iload C 8 dX8_play_104 rfl ?_
            refine s_bipush (v := nI 6) C dX8_play_106 (by decide) ?_
            refine s_icmp_geN 149 C dX8_play_108 (by decide) (by omega) (by omega) (fun h108 => ?_) (fun h108 => ?_)
            · exfalso; omega
            · refine s_lload C 7 dX8_play_111 rfl ?_
              refine s_aload_n C 0 dX8_play_113 rfl ?_
              refine s_getR C 8 6 (hM.1 _ _ _ rfl) (by decide) rfl (by decide) rfl (fun _ h => List.mem_cons_of_mem _ (List.mem_append_right _ h)) (by decide) rfl (by decide +kernel) dX8_play_114 ?_
              refine s_bipush (v := nI 7) C dX8_play_117 (by decide) ?_
              refine s_iload C 6 dX8_play_119 rfl ?_
              refine s_imulN C dX8_play_121 ?_
              refine s_iload C 8 dX8_play_122 rfl ?_
              refine s_iaddN C dX8_play_124 ?_
              refine s_iaload C 84 ((7 * (ih_tm T (h % 2))) + a) rfl rfl (by omega) (by decide) (by decide) rfl dX8_play_125 ?_
              refine s_toe (b := T 4 ((7 * (ih_tm T (h % 2))) + a)) (hM.2 _ _ rfl) ?_
              refine s_toe (b := nI (ih_cg T (h % 2) a)) (ih_cg_e hI hT (by omega) (by omega)).1 ?_
              have hcb := (ih_cg_e hI hT (t := h % 2) (a := a) (by omega) (by omega)).2
              refine s_i2lN C dX8_play_126 (by omega) ?_
              refine s_aload_n C 0 dX8_play_127 rfl ?_
              refine s_iload_n C 1 dX8_play_128 rfl ?_
              refine s_iload_n C 2 dX8_play_129 rfl ?_
              refine s_iload_n C 3 dX8_play_130 rfl ?_
              refine s_iload C 4 dX8_play_131 rfl ?_
              refine s_iload C 8 dX8_play_133 rfl ?_
              refine s_callVi 5 C (c_X8_winBehind _ w _ hM h L n s a (ih_beh (ih_cg T (h % 2)) (h % 2) (ih_st (ih_cg T) (h - 1)) (n - 1) L s a) (by omega) hL (by omega) (by omega) hs24 (by omega) ((hk _ (fun e => by have := ih_at_inj (by omega) (by have := ih_ld_le (par := h % 2) (r := ih_rn s a) hL; omega) (by have := ih_nx_le s hs24 a (by omega); omega) (by omega) (by omega) (by omega) e; omega)).1.trans ((ht h (n - 1) _ _ (by omega) (by have := ih_ld_le (par := h % 2) (r := ih_rn s a) hL; omega) (ih_nx_le s hs24 a (by omega)) (Or.inr ⟨rfl, Or.inl (by omega)⟩)).1.trans (congrArg nI (ih_win_p (by omega)))))) gX8_play_X8_winBehind rfl (by decide +kernel) (by decide) (by decide) (by decide) rfl (by decide) rfl rfl rfl (Nat.le_of_ble_eq_true rfl) dX8_play_135 ?_
              rintro rr S2 ⟨hrr, hSS⟩
              obtain rfl := hSS.symm
              subst hrr
              have hbba : ih_beh (ih_cg T (h % 2)) (h % 2) (ih_st (ih_cg T) (h - 1)) (n - 1) L s a ≤ 1000000 := hbeh a
              refine s_i2lN C dX8_play_138 (by omega) ?_
              refine s_lmulN C dX8_play_139 ?_
              refine s_laddN C dX8_play_140 ?_
              refine s_tol (b := lN (ih_sum (ih_wf (ih_cg T (h % 2)) (h % 2) (ih_st (ih_cg T) (h - 1)) (n - 1) L s) (a + 1))) rfl ?_
              refine s_lstore (lv' := [(7, .long (lN (ih_sum (ih_wf (ih_cg T (h % 2)) (h % 2) (ih_st (ih_cg T) (h - 1)) (n - 1) L s) (a + 1)))), (0, .ref (w.2.2 0)), (1, .int (nI h)), (2, .int (nI L - nI 9)), (3, .int (nI n)), (4, .int (nI s)), (5, .int (nI (ih_at h L n s))), (6, .int (nI (ih_tm T (h % 2)))), (9, .int (nI a))]) C dX8_play_141 (by decide) rfl ?_
              refine s_iinc (u := nI (a + 1)) (lv' := [(9, .int (nI (a + 1))), (7, .long (lN (ih_sum (ih_wf (ih_cg T (h % 2)) (h % 2) (ih_st (ih_cg T) (h - 1)) (n - 1) L s) (a + 1)))), (0, .ref (w.2.2 0)), (1, .int (nI h)), (2, .int (nI L - nI 9)), (3, .int (nI n)), (4, .int (nI s)), (5, .int (nI (ih_at h L n s))), (6, .int (nI (ih_tm T (h % 2))))]) C 8 dX8_play_143 rfl (ih_incN (by decide)) (by decide) rfl ?_
              refine s_goto C 104 dX8_play_146 (by decide) ?_
              refine s_perm [2, 3, 4, 5, 6, 7, 8, 1, 0] rfl ?_
              exact ih_104 (a + 1) (by omega) _ ⟨hM, hk, hc⟩
        refine s_perm [4, 5, 6, 7, 8, 3, 2, 1, 0] rfl ?_
        exact loop_104 6 0 (by omega) _ ⟨hM, hk, hc⟩
      · refine s_aload_n C 1 dX8_play_63 rfl ?_
        refine s_getR C 8 13 (hM.1 _ _ _ rfl) (by decide) rfl (by decide) rfl (fun _ h => List.mem_cons_of_mem _ (List.mem_append_right _ h)) (by decide) rfl (by decide +kernel) dX8_play_64 ?_
        refine s_iload C 0 dX8_play_67 rfl ?_
        refine s_aload_n C 1 dX8_play_69 rfl ?_
        refine s_getR C 8 13 (hM.1 _ _ _ rfl) (by decide) rfl (by decide) rfl (fun _ h => List.mem_cons_of_mem _ (List.mem_append_right _ h)) (by decide) rfl (by decide +kernel) dX8_play_70 ?_
        refine s_iload_n C 2 dX8_play_73 rfl ?_
        refine s_iconst (v := nI 1) C dX8_play_74 (by decide) ?_
        refine s_isubN C dX8_play_75 (by omega) ?_
        refine s_iload_n C 3 dX8_play_76 rfl ?_
        refine s_bipush (v := nI 12) C dX8_play_77 (by decide) ?_
        refine s_iconst (v := nI 0) C dX8_play_79 (by decide) ?_
        refine s_callSi 4 C (c_X8_placeOf _ w _ (h - 1) L 12 0) gX8_play_X8_placeOf rfl (by decide +kernel) (by decide) (by decide) rfl rfl (Nat.le_of_ble_eq_true rfl) dX8_play_80 ?_
        rintro rr S2 ⟨hrr, hSS⟩
        obtain rfl := hSS.symm
        subst hrr
        refine s_iaload C 37050 (ih_at (h - 1) L 12 0) rfl rfl (by unfold ih_at; omega) (by decide) (by decide) rfl dX8_play_83 ?_
        refine s_toe (b := nI (ih_win (ih_cg T) (h - 1) 12 L 0)) ((hk _ (fun e => by have := ih_at_inj (by omega) (by omega) (by omega) (by omega) (by omega) (by omega) e; omega)).1.trans (ht (h - 1) 12 L 0 (by omega) (by omega) (by omega) (Or.inl (by omega))).1) ?_
        refine s_iastore C 37050 (ih_at h L n s) rfl rfl hat (by decide) (by decide) rfl dX8_play_84 ?_
        refine g_w10 hM hk hc (fun S hM hk hw hc => ?_)
        refine s_goto C 272 dX8_play_85 (by decide) ?_
        rw [hQ]
        exact s_vreturn C hA dX8_play_272 ⟨hM, ih_WT_w ht hk (by rw [hw, ih_win_o (cs := ih_cg T) (h := h) (n := n) (L := L) (s := s) (by omega) (by omega)]) (by rw [hc, ih_chc, if_pos (show h = 0 ∨ n = 0 ∨ ¬ s < 24 by omega)]) hn hL2 hsZ⟩
  · have h0 : h = 0 := h20
    have hl9 := ih_lt9 L hL
    refine s_aload_n C 1 dX8_play_23 rfl ?_
    refine s_getR C 8 13 (hM.1 _ _ _ rfl) (by decide) rfl (by decide) rfl (fun _ h => List.mem_cons_of_mem _ (List.mem_append_right _ h)) (by decide) rfl (by decide +kernel) dX8_play_24 ?_
    refine s_iload C 0 dX8_play_27 rfl ?_
    refine s_iload_n C 3 dX8_play_29 rfl ?_
    refine s_if_le C 38 dX8_play_30 (by decide) (fun h30 => ?_) (fun h30 => ?_)
    · simp only [ih_lei, ih_lti, ih_t0] at h30
      refine s_iload_n C 3 dX8_play_38 rfl ?_
      refine s_if_ne C 47 dX8_play_39 (by decide) (fun h39 => ?_) (fun h39 => ?_)
      · have hL9 : ¬ L = 9 := fun e => h39 (by rw [e]; rfl)
        refine s_iconst (v := nI 0) C dX8_play_47 (by decide) ?_
        refine s_iastore C 37050 (ih_at h L n s) rfl rfl hat (by decide) (by decide) rfl dX8_play_48 ?_
        refine g_w10 hM hk hc (fun S hM hk hw hc => ?_)
        refine s_goto C 272 dX8_play_49 (by decide) ?_
        rw [hQ]
        exact s_vreturn C hA dX8_play_272 ⟨hM, ih_WT_w ht hk (by rw [hw, h0, ih_win_0, ih_st]; first | rw [if_pos (by omega)] | rw [if_neg (by omega), if_pos (by omega)] | rw [if_neg (by omega), if_neg (by omega)]) (by rw [hc, ih_chc, if_pos (Or.inl h0)]) hn hL2 hsZ⟩
      · have hL9 : L = 9 := by have hz := congrArg Int32.toInt h39; rw [hl9, ih_t0] at hz; omega
        refine s_ldc (v := nI 500000) C (by decide +kernel) dX8_play_42 ?_
        refine s_goto C 48 dX8_play_44 (by decide) ?_
        refine s_iastore C 37050 (ih_at h L n s) rfl rfl hat (by decide) (by decide) rfl dX8_play_48 ?_
        refine g_w10 hM hk hc (fun S hM hk hw hc => ?_)
        refine s_goto C 272 dX8_play_49 (by decide) ?_
        rw [hQ]
        exact s_vreturn C hA dX8_play_272 ⟨hM, ih_WT_w ht hk (by rw [hw, h0, ih_win_0, ih_st]; first | rw [if_pos (by omega)] | rw [if_neg (by omega), if_pos (by omega)] | rw [if_neg (by omega), if_neg (by omega)]) (by rw [hc, ih_chc, if_pos (Or.inl h0)]) hn hL2 hsZ⟩
    · simp only [ih_lei, ih_lti, ih_t0] at h30
      refine s_ldc (v := nI 1000000) C (by decide +kernel) dX8_play_33 ?_
      refine s_goto C 48 dX8_play_35 (by decide) ?_
      refine s_iastore C 37050 (ih_at h L n s) rfl rfl hat (by decide) (by decide) rfl dX8_play_48 ?_
      refine g_w10 hM hk hc (fun S hM hk hw hc => ?_)
      refine s_goto C 272 dX8_play_49 (by decide) ?_
      rw [hQ]
      exact s_vreturn C hA dX8_play_272 ⟨hM, ih_WT_w ht hk (by rw [hw, h0, ih_win_0, ih_st]; first | rw [if_pos (by omega)] | rw [if_neg (by omega), if_pos (by omega)] | rw [if_neg (by omega), if_neg (by omega)]) (by rw [hc, ih_chc, if_pos (Or.inl h0)]) hn hL2 hsZ⟩

