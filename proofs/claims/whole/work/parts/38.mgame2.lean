def sp_game (T : ih_TT) (h l s n w : Int32) : Int32 :=
  if (0 ≤ h.toInt ∧ h.toInt ≤ 5) ∧ (-9 ≤ l.toInt ∧ l.toInt ≤ 9) ∧ (0 ≤ s.toInt ∧ s.toInt ≤ 24) ∧ (0 ≤ n.toInt ∧ n.toInt ≤ 12) ∧ (0 ≤ w.toInt ∧ w.toInt ≤ 2) then
    if T 9 0 = -1000000 ∨ T 9 1 = -1000000 then -1000002
    else if ih_n w = 0 then nI (ih_win (ih_cg T) (ih_n h) (ih_n n) (l.toInt + 9).toNat (ih_n s))
    else if ih_n w = 1 then ih_chc (ih_cg T) (ih_n h) (ih_n n) (l.toInt + 9).toNat (ih_n s)
    else if ih_n h = 0 ∨ ih_n n = 0 ∨ ¬ ih_n s < 24 then nI 0
    else if ih_sb (1 - ih_n h % 2) (ih_win (ih_cg T) (ih_n h) (ih_n n) (l.toInt + 9).toNat (ih_n s)) (ih_beh (ih_cg T (ih_n h % 2)) (ih_n h % 2) (ih_st (ih_cg T) (ih_n h - 1)) (ih_n n - 1) (l.toInt + 9).toNat (ih_n s) 1) = true then nI 1 else nI 0
  else -1000001
theorem ih_HT_of {T : ih_TT} (hI : ih_Inv T) (h0 : ¬ T 9 0 = -1000000) (h1 : ¬ T 9 1 = -1000000) : ih_HT T := by
  intro t ht
  rcases hI.2.2.2.1 t ht with q | q
  · exfalso
    rcases (show t = 0 ∨ t = 1 by omega) with rfl | rfl
    · exact h0 q
    · exact h1 q
  · exact q
theorem ih_ltA (L : Nat) (hL : L < 100) : (nI L - nI 9).toInt = (L : Int) - 9 := by
  rw [pk_sub_toInt (by omega) (by omega)]; rfl
theorem ih_c2_le (c : Nat → Nat) (par : Nat) (st : Nat → Nat) (n L s : Nat) : ih_c2 c par st n L s ≤ 2 := by
  have h1 : ih_c1 c par st n L s ≤ 2 := by
    unfold ih_c1
    split
    · omega
    · split <;> omega
  unfold ih_c2
  split
  · split
    · omega
    · exact h1
  · exact h1
theorem ih_chc_y {cs : Nat → Nat → Nat} {h n L s : Nat} (e : ih_chc cs h n L s = -1000000) : h = 0 ∨ n = 0 ∨ ¬ s < 24 := by
  unfold ih_chc at e
  split at e
  · assumption
  · exfalso
    have h2 := ih_c2_le (cs (h % 2)) (h % 2) (ih_st cs (h - 1)) (n - 1) L s
    generalize ih_c2 (cs (h % 2)) (h % 2) (ih_st cs (h - 1)) (n - 1) L s = q at e h2
    have h3 := congrArg Int32.toInt e
    rw [ih_t (by omega)] at h3
    have h4 : (-1000000 : Int32).toInt = -1000000 := rfl
    omega
theorem ih_chc_n {cs : Nat → Nat → Nat} {h n L s : Nat} (e : ¬ ih_chc cs h n L s = -1000000) : ¬ (h = 0 ∨ n = 0 ∨ ¬ s < 24) := fun q => e (by rw [ih_chc, if_pos q])
theorem ih_win_le {cs : Nat → Nat → Nat} (hc : ih_okg cs) {h n L s : Nat} (hL : L ≤ 18) : ih_win cs h n L s ≤ 1000000 := by
  unfold ih_win
  split
  · exact ih_st_le hc 0 L hL
  · exact ih_half_le (hc _ (Nat.mod_lt _ (by decide))).1 (hc _ (Nat.mod_lt _ (by decide))).2 (ih_st_le hc _) n L s hL
set_option maxHeartbeats 4000000 in
set_option maxRecDepth 100000 in
theorem c_X8_game (l : Launch) (w : ih_Wd) (S : ih_Sg) (T : ih_TT) (hM : ih_RM S T) (hI : ih_Inv T) (h l_ s n w_ : Int32) : ih_Ci l yX8_game wsX8_game 4 w ih_shM [.ref (w.2.2 0), .int h, .int l_, .int s, .int n, .int w_] S (fun r S' => r = sp_game T h l_ s n w_ ∧ ih_RM S' T) := by
  refine ih_bodyi (ret := some .int) rfl rfl (Nat.le_of_ble_eq_true rfl) ?_
  intro x A hA C
  have C : ih_Ok x w A cX8_game 10 RX8 wsX8_game (ih_rm 4) (some .int) := C
  show ih_Mw x w ih_shM A (ih_Qi x w ih_shM A _) 10 0 0 0 [(0, .ref (w.2.2 0)), (1, .int h), (2, .int l_), (3, .int s), (4, .int n), (5, .int w_)] [] S
  obtain ⟨Q, hQ⟩ : ∃ Q, Q = ih_Qi x w ih_shM A (fun r S' => r = sp_game T h l_ s n w_ ∧ ih_RM S' T) := ⟨_, rfl⟩
  rw [show ih_Qi x w ih_shM A _ = Q from hQ.symm]
  refine s_aload_n C 0 dX8_game_0 rfl ?_
  refine s_iconst (v := nI 0) C dX8_game_1 (by decide) ?_
  refine s_putI (ty := .int) C 8 0 tyX8 tyX8_ok nmX8 (by decide) rfl (by decide) rfl (fun _ h => List.mem_cons_of_mem _ (List.mem_append_right _ h)) (by decide) rfl (by decide +kernel) rfl (by decide +kernel) rfl rfl dX8_game_2 ?_
  refine m_hide hM rfl (fun S hM => ?_)
  refine s_iload_n C 1 dX8_game_5 rfl ?_
  refine s_i2l C dX8_game_6 ?_
  refine s_lconst (v := lN 0) C dX8_game_7 rfl ?_
  refine s_ldc2 (v := lN 5) C (by decide +kernel) dX8_game_8 ?_
  refine s_callSi 3 C (c_X8_in _ w _ _ _ _ _) gX8_game_X8_in rfl (by decide +kernel) (by decide) (by decide) rfl rfl (Nat.le_of_ble_eq_true rfl) dX8_game_11 ?_
  rintro rb11 S2 ⟨hrb11, hSS⟩
  obtain rfl := hSS.symm
  rw [ih_wide, ih_tl (by decide), ih_tl (by decide)] at hrb11
  refine s_if_eq C 69 dX8_game_14 (by decide) (fun h14 => ?_) (fun h14 => ?_)
  · replace h14 := ih_b0 hrb11 h14
    refine s_ldc (v := (-1000001)) C (by decide +kernel) dX8_game_69 ?_
    rw [hQ]
    exact s_ireturn C hA dX8_game_71 (by rw [sp_game, if_neg (by omega)]; exact ⟨rfl, hM⟩)
  · replace h14 := ih_b1 hrb11 h14
    refine s_iload_n C 2 dX8_game_17 rfl ?_
    refine s_i2l C dX8_game_18 ?_
    refine s_ldc2 (v := (-9)) C (by decide +kernel) dX8_game_19 ?_
    refine s_ldc2 (v := lN 9) C (by decide +kernel) dX8_game_22 ?_
    refine s_callSi 3 C (c_X8_in _ w _ _ _ _ _) gX8_game_X8_in rfl (by decide +kernel) (by decide) (by decide) rfl rfl (Nat.le_of_ble_eq_true rfl) dX8_game_25 ?_
    rintro rb25 S2 ⟨hrb25, hSS⟩
    obtain rfl := hSS.symm
    rw [ih_wide, show ((-9 : Int64)).toInt = -9 from rfl, ih_tl (by decide)] at hrb25
    refine s_if_eq C 69 dX8_game_28 (by decide) (fun h28 => ?_) (fun h28 => ?_)
    · replace h28 := ih_b0 hrb25 h28
      refine s_ldc (v := (-1000001)) C (by decide +kernel) dX8_game_69 ?_
      rw [hQ]
      exact s_ireturn C hA dX8_game_71 (by rw [sp_game, if_neg (by omega)]; exact ⟨rfl, hM⟩)
    · replace h28 := ih_b1 hrb25 h28
      refine s_iload_n C 3 dX8_game_31 rfl ?_
      refine s_i2l C dX8_game_32 ?_
      refine s_lconst (v := lN 0) C dX8_game_33 rfl ?_
      refine s_ldc2 (v := lN 24) C (by decide +kernel) dX8_game_34 ?_
      refine s_callSi 3 C (c_X8_in _ w _ _ _ _ _) gX8_game_X8_in rfl (by decide +kernel) (by decide) (by decide) rfl rfl (Nat.le_of_ble_eq_true rfl) dX8_game_37 ?_
      rintro rb37 S2 ⟨hrb37, hSS⟩
      obtain rfl := hSS.symm
      rw [ih_wide, ih_tl (by decide), ih_tl (by decide)] at hrb37
      refine s_if_eq C 69 dX8_game_40 (by decide) (fun h40 => ?_) (fun h40 => ?_)
      · replace h40 := ih_b0 hrb37 h40
        refine s_ldc (v := (-1000001)) C (by decide +kernel) dX8_game_69 ?_
        rw [hQ]
        exact s_ireturn C hA dX8_game_71 (by rw [sp_game, if_neg (by omega)]; exact ⟨rfl, hM⟩)
      · replace h40 := ih_b1 hrb37 h40
        refine s_iload C 4 dX8_game_43 rfl ?_
        refine s_i2l C dX8_game_45 ?_
        refine s_lconst (v := lN 0) C dX8_game_46 rfl ?_
        refine s_ldc2 (v := lN 12) C (by decide +kernel) dX8_game_47 ?_
        refine s_callSi 3 C (c_X8_in _ w _ _ _ _ _) gX8_game_X8_in rfl (by decide +kernel) (by decide) (by decide) rfl rfl (Nat.le_of_ble_eq_true rfl) dX8_game_50 ?_
        rintro rb50 S2 ⟨hrb50, hSS⟩
        obtain rfl := hSS.symm
        rw [ih_wide, ih_tl (by decide), ih_tl (by decide)] at hrb50
        refine s_if_eq C 69 dX8_game_53 (by decide) (fun h53 => ?_) (fun h53 => ?_)
        · replace h53 := ih_b0 hrb50 h53
          refine s_ldc (v := (-1000001)) C (by decide +kernel) dX8_game_69 ?_
          rw [hQ]
          exact s_ireturn C hA dX8_game_71 (by rw [sp_game, if_neg (by omega)]; exact ⟨rfl, hM⟩)
        · replace h53 := ih_b1 hrb50 h53
          refine s_iload C 5 dX8_game_56 rfl ?_
          refine s_i2l C dX8_game_58 ?_
          refine s_lconst (v := lN 0) C dX8_game_59 rfl ?_
          refine s_ldc2 (v := lN 2) C (by decide +kernel) dX8_game_60 ?_
          refine s_callSi 3 C (c_X8_in _ w _ _ _ _ _) gX8_game_X8_in rfl (by decide +kernel) (by decide) (by decide) rfl rfl (Nat.le_of_ble_eq_true rfl) dX8_game_63 ?_
          rintro rb63 S2 ⟨hrb63, hSS⟩
          obtain rfl := hSS.symm
          rw [ih_wide, ih_tl (by decide), ih_tl (by decide)] at hrb63
          refine s_if_ne C 72 dX8_game_66 (by decide) (fun h66 => ?_) (fun h66 => ?_)
          · replace h66 := ih_b1 hrb63 h66
            obtain ⟨hn_, hhn_, rfl, hhn_t⟩ := ih_nat (a := h) h14.1
            obtain ⟨LL, hLL, rfl, hLLt⟩ := ih_lead_of h28
            have hLLn : ((nI LL - nI 9).toInt + 9).toNat = LL := by omega
            obtain ⟨sn, hsn, rfl, hsnt⟩ := ih_nat (a := s) h40.1
            obtain ⟨nn, hnn, rfl, hnnt⟩ := ih_nat (a := n) h53.1
            obtain ⟨wn, hwn, rfl, hwnt⟩ := ih_nat (a := w_) h66.1
            refine s_aload_n C 0 dX8_game_72 rfl ?_
            refine s_getR C 8 12 (hM.1 _ _ _ rfl) (by decide) rfl (by decide) rfl (fun _ h => List.mem_cons_of_mem _ (List.mem_append_right _ h)) (by decide) rfl (by decide +kernel) dX8_game_73 ?_
            refine s_iconst (v := nI 0) C dX8_game_76 (by decide) ?_
            refine s_iaload C 2 (0) rfl rfl (by decide) (by decide) (by decide) rfl dX8_game_77 ?_
            refine s_toe (b := T 9 0) (hM.2 _ _ rfl) ?_
            refine s_ldc (v := (-1000000)) C (by decide +kernel) dX8_game_78 ?_
            refine s_icmp_eq C 94 dX8_game_80 (by decide) (fun h80 => ?_) (fun h80 => ?_)
            · refine s_ldc (v := (-1000002)) C (by decide +kernel) dX8_game_94 ?_
              rw [hQ]
              exact s_ireturn C hA dX8_game_96 (by rw [sp_game, if_pos (show (0 ≤ (nI hn_).toInt ∧ (nI hn_).toInt ≤ 5) ∧ (-9 ≤ (nI LL - nI 9).toInt ∧ (nI LL - nI 9).toInt ≤ 9) ∧ (0 ≤ (nI sn).toInt ∧ (nI sn).toInt ≤ 24) ∧ (0 ≤ (nI nn).toInt ∧ (nI nn).toInt ≤ 12) ∧ (0 ≤ (nI wn).toInt ∧ (nI wn).toInt ≤ 2) by omega), if_pos (show T 9 0 = -1000000 ∨ T 9 1 = -1000000 from Or.inl h80)]; exact ⟨rfl, hM⟩)
            · refine s_aload_n C 0 dX8_game_83 rfl ?_
              refine s_getR C 8 12 (hM.1 _ _ _ rfl) (by decide) rfl (by decide) rfl (fun _ h => List.mem_cons_of_mem _ (List.mem_append_right _ h)) (by decide) rfl (by decide +kernel) dX8_game_84 ?_
              refine s_iconst (v := nI 1) C dX8_game_87 (by decide) ?_
              refine s_iaload C 2 (1) rfl rfl (by decide) (by decide) (by decide) rfl dX8_game_88 ?_
              refine s_toe (b := T 9 1) (hM.2 _ _ rfl) ?_
              refine s_ldc (v := (-1000000)) C (by decide +kernel) dX8_game_89 ?_
              refine s_icmp_ne C 97 dX8_game_91 (by decide) (fun h91 => ?_) (fun h91 => ?_)
              · have hT := ih_HT_of hI h80 h91
                have hcgo := ih_cg_ok hI hT
                refine s_iconst (v := nI 0) C dX8_game_97 (by decide) ?_
                refine s_istore (lv' := [(6, .int (nI 0)), (0, .ref (w.2.2 0)), (1, .int (nI hn_)), (2, .int (nI LL - nI 9)), (3, .int (nI sn)), (4, .int (nI nn)), (5, .int (nI wn))]) C dX8_game_98 (by decide) rfl ?_
                have hx_100 : ∀ S, ih_RM S T ∧ ih_WT S.1 (ih_cg T) (hn_ + 1) 0 0 0 → ih_Mw x w ih_shM A Q 10 0 0 173 [(0, .ref (w.2.2 0)), (1, .int (nI hn_)), (2, .int (nI LL - nI 9)), (3, .int (nI sn)), (4, .int (nI nn)), (5, .int (nI wn)), (6, .int (nI (hn_ + 1)))] [] S := by
                  intro S ⟨hM, ht⟩
                  refine s_iload_n C 1 dX8_game_173 rfl ?_
                  refine s_iload_n C 2 dX8_game_174 rfl ?_
                  refine s_iload C 4 dX8_game_175 rfl ?_
                  refine s_iload_n C 3 dX8_game_177 rfl ?_
                  refine s_callSi 4 C (c_X8_placeOf _ w _ hn_ LL nn sn) gX8_game_X8_placeOf rfl (by decide +kernel) (by decide) (by decide) rfl rfl (Nat.le_of_ble_eq_true rfl) dX8_game_178 ?_
                  rintro rr S2 ⟨hrr, hSS⟩
                  obtain rfl := hSS.symm
                  subst hrr
                  refine s_istore (lv' := [(6, .int (nI (ih_at hn_ LL nn sn))), (0, .ref (w.2.2 0)), (1, .int (nI hn_)), (2, .int (nI LL - nI 9)), (3, .int (nI sn)), (4, .int (nI nn)), (5, .int (nI wn))]) C dX8_game_181 (by decide) rfl ?_
                  refine s_iload C 6 dX8_game_183 rfl ?_
                  refine s_iconst (v := nI 2) C dX8_game_185 (by decide) ?_
                  refine s_icmp_geN 212 C dX8_game_186 (by decide) (by omega) (by omega) (fun h186 => ?_) (fun h186 => ?_)
                  · refine s_aload_n C 1 dX8_game_212 rfl ?_
                    refine s_getR C 8 14 (hM.1 _ _ _ rfl) (by decide) rfl (by decide) rfl (fun _ h => List.mem_cons_of_mem _ (List.mem_append_right _ h)) (by decide) rfl (by decide +kernel) dX8_game_213 ?_
                    refine s_iload C 0 dX8_game_216 rfl ?_
                    refine s_iaload C 37050 (ih_at hn_ LL nn sn) rfl rfl (by unfold ih_at; omega) (by decide) (by decide) rfl dX8_game_218 ?_
                    refine s_toe (b := ih_chc (ih_cg T) hn_ nn LL sn) (ht hn_ nn LL sn (by omega) (by omega) (by omega) (Or.inl (by omega))).2 ?_
                    refine s_ldc (v := (-1000000)) C (by decide +kernel) dX8_game_219 ?_
                    refine s_icmp_ne C 226 dX8_game_221 (by decide) (fun h221 => ?_) (fun h221 => ?_)
                    · have hcn := ih_chc_n h221
                      refine s_aload_n C 1 dX8_game_226 rfl ?_
                      refine s_iload_n C 2 dX8_game_227 rfl ?_
                      refine s_iload_n C 3 dX8_game_228 rfl ?_
                      refine s_iload C 5 dX8_game_229 rfl ?_
                      refine s_iload_n C 4 dX8_game_231 rfl ?_
                      refine s_iconst (v := nI 1) C dX8_game_232 (by decide) ?_
                      refine s_callVi 5 C (c_X8_winBehind _ w _ hM hn_ LL nn sn 1 (ih_beh (ih_cg T (hn_ % 2)) (hn_ % 2) (ih_st (ih_cg T) (hn_ - 1)) (nn - 1) LL sn 1) (by omega) hLL (by omega) (by omega) (by omega) (by decide) ((ht hn_ (nn - 1) _ _ (by omega) (by have := ih_ld_le (par := hn_ % 2) (r := ih_rn sn 1) hLL; omega) (ih_nx_le sn (by omega) 1 (by decide)) (Or.inl (by omega))).1.trans (congrArg nI (ih_win_p (by omega))))) gX8_game_X8_winBehind rfl (by decide +kernel) (by decide) (by decide) (by decide) rfl (by decide) rfl rfl rfl (Nat.le_of_ble_eq_true rfl) dX8_game_233 ?_
                      rintro rr S2 ⟨hrr, hSS⟩
                      obtain rfl := hSS.symm
                      subst hrr
                      have hbb : ih_beh (ih_cg T (hn_ % 2)) (hn_ % 2) (ih_st (ih_cg T) (hn_ - 1)) (nn - 1) LL sn 1 ≤ 1000000 := ih_half_le (hcgo (hn_ % 2) (by omega)).1 (hcgo (hn_ % 2) (by omega)).2 (ih_st_le hcgo (hn_ - 1)) _ _ _ (ih_ld_le hLL)
                      have hww : ih_win (ih_cg T) hn_ nn LL sn ≤ 1000000 := ih_win_le hcgo hLL
                      refine s_istore (lv' := [(7, .int (nI (ih_beh (ih_cg T (hn_ % 2)) (hn_ % 2) (ih_st (ih_cg T) (hn_ - 1)) (nn - 1) LL sn 1))), (6, .int (nI (ih_at hn_ LL nn sn))), (0, .ref (w.2.2 0)), (1, .int (nI hn_)), (2, .int (nI LL - nI 9)), (3, .int (nI sn)), (4, .int (nI nn)), (5, .int (nI wn))]) C dX8_game_236 (by decide) rfl ?_
                      refine s_iload_n C 3 dX8_game_238 rfl ?_
                      refine s_iconst (v := nI 2) C dX8_game_239 (by decide) ?_
                      refine s_iremN C dX8_game_240 (by omega) (by omega) (by omega) ?_
                      refine s_if_neN 264 C dX8_game_241 (by decide) (by omega) (fun h241 => ?_) (fun h241 => ?_)
                      · refine s_iload C 0 dX8_game_264 rfl ?_
                        refine s_aload_n C 2 dX8_game_266 rfl ?_
                        refine s_getR C 8 13 (hM.1 _ _ _ rfl) (by decide) rfl (by decide) rfl (fun _ h => List.mem_cons_of_mem _ (List.mem_append_right _ h)) (by decide) rfl (by decide +kernel) dX8_game_267 ?_
                        refine s_iload C 1 dX8_game_270 rfl ?_
                        refine s_iaload C 37050 (ih_at hn_ LL nn sn) rfl rfl (by unfold ih_at; omega) (by decide) (by decide) rfl dX8_game_272 ?_
                        refine s_toe (b := nI (ih_win (ih_cg T) hn_ nn LL sn)) (ht hn_ nn LL sn (by omega) (by omega) (by omega) (Or.inl (by omega))).1 ?_
                        refine s_icmp_leN 280 C dX8_game_273 (by decide) (by omega) (by omega) (fun h273 => ?_) (fun h273 => ?_)
                        · refine s_iconst (v := nI 0) C dX8_game_280 (by decide) ?_
                          rw [hQ]
                          exact s_ireturn C hA dX8_game_281 (by rw [sp_game, if_pos (show (0 ≤ (nI hn_).toInt ∧ (nI hn_).toInt ≤ 5) ∧ (-9 ≤ (nI LL - nI 9).toInt ∧ (nI LL - nI 9).toInt ≤ 9) ∧ (0 ≤ (nI sn).toInt ∧ (nI sn).toInt ≤ 24) ∧ (0 ≤ (nI nn).toInt ∧ (nI nn).toInt ≤ 12) ∧ (0 ≤ (nI wn).toInt ∧ (nI wn).toInt ≤ 2) by omega), ih_n_nI hhn_, ih_n_nI hsn, ih_n_nI hnn, ih_n_nI hwn, hLLn, if_neg (show ¬ (T 9 0 = -1000000 ∨ T 9 1 = -1000000) from fun q => q.elim h80 h91), if_neg (show ¬ wn = 0 by omega), if_neg (show ¬ wn = 1 by omega), if_neg (ih_chc_n h221), if_neg (show ¬ (ih_sb (1 - hn_ % 2) (ih_win (ih_cg T) hn_ nn LL sn) (ih_beh (ih_cg T (hn_ % 2)) (hn_ % 2) (ih_st (ih_cg T) (hn_ - 1)) (nn - 1) LL sn 1) = true) by rw [show 1 - hn_ % 2 = 0 by omega]; rw [ih_sb]; rw [if_pos rfl]; rw [decide_eq_true_eq]; omega)]; exact ⟨rfl, hM⟩)
                        · refine s_iconst (v := nI 1) C dX8_game_276 (by decide) ?_
                          refine s_goto C 281 dX8_game_277 (by decide) ?_
                          rw [hQ]
                          exact s_ireturn C hA dX8_game_281 (by rw [sp_game, if_pos (show (0 ≤ (nI hn_).toInt ∧ (nI hn_).toInt ≤ 5) ∧ (-9 ≤ (nI LL - nI 9).toInt ∧ (nI LL - nI 9).toInt ≤ 9) ∧ (0 ≤ (nI sn).toInt ∧ (nI sn).toInt ≤ 24) ∧ (0 ≤ (nI nn).toInt ∧ (nI nn).toInt ≤ 12) ∧ (0 ≤ (nI wn).toInt ∧ (nI wn).toInt ≤ 2) by omega), ih_n_nI hhn_, ih_n_nI hsn, ih_n_nI hnn, ih_n_nI hwn, hLLn, if_neg (show ¬ (T 9 0 = -1000000 ∨ T 9 1 = -1000000) from fun q => q.elim h80 h91), if_neg (show ¬ wn = 0 by omega), if_neg (show ¬ wn = 1 by omega), if_neg (ih_chc_n h221), if_pos (show (ih_sb (1 - hn_ % 2) (ih_win (ih_cg T) hn_ nn LL sn) (ih_beh (ih_cg T (hn_ % 2)) (hn_ % 2) (ih_st (ih_cg T) (hn_ - 1)) (nn - 1) LL sn 1) = true) by rw [show 1 - hn_ % 2 = 0 by omega]; rw [ih_sb]; rw [if_pos rfl]; rw [decide_eq_true_eq]; omega)]; exact ⟨rfl, hM⟩)
                      · refine s_iload C 0 dX8_game_244 rfl ?_
                        refine s_aload_n C 2 dX8_game_246 rfl ?_
                        refine s_getR C 8 13 (hM.1 _ _ _ rfl) (by decide) rfl (by decide) rfl (fun _ h => List.mem_cons_of_mem _ (List.mem_append_right _ h)) (by decide) rfl (by decide +kernel) dX8_game_247 ?_
                        refine s_iload C 1 dX8_game_250 rfl ?_
                        refine s_iaload C 37050 (ih_at hn_ LL nn sn) rfl rfl (by unfold ih_at; omega) (by decide) (by decide) rfl dX8_game_252 ?_
                        refine s_toe (b := nI (ih_win (ih_cg T) hn_ nn LL sn)) (ht hn_ nn LL sn (by omega) (by omega) (by omega) (Or.inl (by omega))).1 ?_
                        refine s_icmp_geN 260 C dX8_game_253 (by decide) (by omega) (by omega) (fun h253 => ?_) (fun h253 => ?_)
                        · refine s_iconst (v := nI 0) C dX8_game_260 (by decide) ?_
                          refine s_goto C 281 dX8_game_261 (by decide) ?_
                          rw [hQ]
                          exact s_ireturn C hA dX8_game_281 (by rw [sp_game, if_pos (show (0 ≤ (nI hn_).toInt ∧ (nI hn_).toInt ≤ 5) ∧ (-9 ≤ (nI LL - nI 9).toInt ∧ (nI LL - nI 9).toInt ≤ 9) ∧ (0 ≤ (nI sn).toInt ∧ (nI sn).toInt ≤ 24) ∧ (0 ≤ (nI nn).toInt ∧ (nI nn).toInt ≤ 12) ∧ (0 ≤ (nI wn).toInt ∧ (nI wn).toInt ≤ 2) by omega), ih_n_nI hhn_, ih_n_nI hsn, ih_n_nI hnn, ih_n_nI hwn, hLLn, if_neg (show ¬ (T 9 0 = -1000000 ∨ T 9 1 = -1000000) from fun q => q.elim h80 h91), if_neg (show ¬ wn = 0 by omega), if_neg (show ¬ wn = 1 by omega), if_neg (ih_chc_n h221), if_neg (show ¬ (ih_sb (1 - hn_ % 2) (ih_win (ih_cg T) hn_ nn LL sn) (ih_beh (ih_cg T (hn_ % 2)) (hn_ % 2) (ih_st (ih_cg T) (hn_ - 1)) (nn - 1) LL sn 1) = true) by rw [show 1 - hn_ % 2 = 1 by omega]; rw [ih_sb]; rw [if_neg (by decide)]; rw [decide_eq_true_eq]; omega)]; exact ⟨rfl, hM⟩)
                        · refine s_iconst (v := nI 1) C dX8_game_256 (by decide) ?_
                          refine s_goto C 281 dX8_game_257 (by decide) ?_
                          rw [hQ]
                          exact s_ireturn C hA dX8_game_281 (by rw [sp_game, if_pos (show (0 ≤ (nI hn_).toInt ∧ (nI hn_).toInt ≤ 5) ∧ (-9 ≤ (nI LL - nI 9).toInt ∧ (nI LL - nI 9).toInt ≤ 9) ∧ (0 ≤ (nI sn).toInt ∧ (nI sn).toInt ≤ 24) ∧ (0 ≤ (nI nn).toInt ∧ (nI nn).toInt ≤ 12) ∧ (0 ≤ (nI wn).toInt ∧ (nI wn).toInt ≤ 2) by omega), ih_n_nI hhn_, ih_n_nI hsn, ih_n_nI hnn, ih_n_nI hwn, hLLn, if_neg (show ¬ (T 9 0 = -1000000 ∨ T 9 1 = -1000000) from fun q => q.elim h80 h91), if_neg (show ¬ wn = 0 by omega), if_neg (show ¬ wn = 1 by omega), if_neg (ih_chc_n h221), if_pos (show (ih_sb (1 - hn_ % 2) (ih_win (ih_cg T) hn_ nn LL sn) (ih_beh (ih_cg T (hn_ % 2)) (hn_ % 2) (ih_st (ih_cg T) (hn_ - 1)) (nn - 1) LL sn 1) = true) by rw [show 1 - hn_ % 2 = 1 by omega]; rw [ih_sb]; rw [if_neg (by decide)]; rw [decide_eq_true_eq]; omega)]; exact ⟨rfl, hM⟩)
                    · refine s_iconst (v := nI 0) C dX8_game_224 (by decide) ?_
                      rw [hQ]
                      exact s_ireturn C hA dX8_game_225 (by rw [sp_game, if_pos (show (0 ≤ (nI hn_).toInt ∧ (nI hn_).toInt ≤ 5) ∧ (-9 ≤ (nI LL - nI 9).toInt ∧ (nI LL - nI 9).toInt ≤ 9) ∧ (0 ≤ (nI sn).toInt ∧ (nI sn).toInt ≤ 24) ∧ (0 ≤ (nI nn).toInt ∧ (nI nn).toInt ≤ 12) ∧ (0 ≤ (nI wn).toInt ∧ (nI wn).toInt ≤ 2) by omega), ih_n_nI hhn_, ih_n_nI hsn, ih_n_nI hnn, ih_n_nI hwn, hLLn, if_neg (show ¬ (T 9 0 = -1000000 ∨ T 9 1 = -1000000) from fun q => q.elim h80 h91), if_neg (show ¬ wn = 0 by omega), if_neg (show ¬ wn = 1 by omega), if_pos (ih_chc_y h221)]; exact ⟨rfl, hM⟩)
                  · refine s_iload C 6 dX8_game_189 rfl ?_
                    refine s_if_neN 204 C dX8_game_191 (by decide) (by omega) (fun h191 => ?_) (fun h191 => ?_)
                    · refine s_aload_n C 1 dX8_game_204 rfl ?_
                      refine s_getR C 8 14 (hM.1 _ _ _ rfl) (by decide) rfl (by decide) rfl (fun _ h => List.mem_cons_of_mem _ (List.mem_append_right _ h)) (by decide) rfl (by decide +kernel) dX8_game_205 ?_
                      refine s_iload C 0 dX8_game_208 rfl ?_
                      refine s_iaload C 37050 (ih_at hn_ LL nn sn) rfl rfl (by unfold ih_at; omega) (by decide) (by decide) rfl dX8_game_210 ?_
                      refine s_toe (b := ih_chc (ih_cg T) hn_ nn LL sn) (ht hn_ nn LL sn (by omega) (by omega) (by omega) (Or.inl (by omega))).2 ?_
                      rw [hQ]
                      exact s_ireturn C hA dX8_game_211 (by rw [sp_game, if_pos (show (0 ≤ (nI hn_).toInt ∧ (nI hn_).toInt ≤ 5) ∧ (-9 ≤ (nI LL - nI 9).toInt ∧ (nI LL - nI 9).toInt ≤ 9) ∧ (0 ≤ (nI sn).toInt ∧ (nI sn).toInt ≤ 24) ∧ (0 ≤ (nI nn).toInt ∧ (nI nn).toInt ≤ 12) ∧ (0 ≤ (nI wn).toInt ∧ (nI wn).toInt ≤ 2) by omega), ih_n_nI hhn_, ih_n_nI hsn, ih_n_nI hnn, ih_n_nI hwn, hLLn, if_neg (show ¬ (T 9 0 = -1000000 ∨ T 9 1 = -1000000) from fun q => q.elim h80 h91), if_neg (show ¬ wn = 0 by omega), if_pos (show wn = 1 by omega)]; exact ⟨rfl, hM⟩)
                    · refine s_aload_n C 1 dX8_game_194 rfl ?_
                      refine s_getR C 8 13 (hM.1 _ _ _ rfl) (by decide) rfl (by decide) rfl (fun _ h => List.mem_cons_of_mem _ (List.mem_append_right _ h)) (by decide) rfl (by decide +kernel) dX8_game_195 ?_
                      refine s_iload C 0 dX8_game_198 rfl ?_
                      refine s_iaload C 37050 (ih_at hn_ LL nn sn) rfl rfl (by unfold ih_at; omega) (by decide) (by decide) rfl dX8_game_200 ?_
                      refine s_toe (b := nI (ih_win (ih_cg T) hn_ nn LL sn)) (ht hn_ nn LL sn (by omega) (by omega) (by omega) (Or.inl (by omega))).1 ?_
                      refine s_goto C 211 dX8_game_201 (by decide) ?_
                      rw [hQ]
                      exact s_ireturn C hA dX8_game_211 (by rw [sp_game, if_pos (show (0 ≤ (nI hn_).toInt ∧ (nI hn_).toInt ≤ 5) ∧ (-9 ≤ (nI LL - nI 9).toInt ∧ (nI LL - nI 9).toInt ≤ 9) ∧ (0 ≤ (nI sn).toInt ∧ (nI sn).toInt ≤ 24) ∧ (0 ≤ (nI nn).toInt ∧ (nI nn).toInt ≤ 12) ∧ (0 ≤ (nI wn).toInt ∧ (nI wn).toInt ≤ 2) by omega), ih_n_nI hhn_, ih_n_nI hsn, ih_n_nI hnn, ih_n_nI hwn, hLLn, if_neg (show ¬ (T 9 0 = -1000000 ∨ T 9 1 = -1000000) from fun q => q.elim h80 h91), if_pos (show wn = 0 by omega)]; exact ⟨rfl, hM⟩)
                have loop_100 : ∀ (fu a : Nat), a + fu = hn_ + 1 → ∀ S, ih_RM S T ∧ ih_WT S.1 (ih_cg T) (a) 0 0 0 → ih_Mw x w ih_shM A Q 10 0 0 100 [(0, .ref (w.2.2 0)), (1, .int (nI hn_)), (2, .int (nI LL - nI 9)), (3, .int (nI sn)), (4, .int (nI nn)), (5, .int (nI wn)), (6, .int (nI a))] [] S := by
                  intro fu
                  induction fu with
                  | zero =>
                    intro a hae S ⟨hM, ht⟩
                    have ha0 : a = hn_ + 1 := by omega
                    refine s_iload C 6 dX8_game_100 rfl ?_
                    refine s_iload_n C 1 dX8_game_102 rfl ?_
                    refine s_icmp_gtN 173 C dX8_game_103 (by decide) (by omega) (by omega) (fun h103 => ?_) (fun h103 => ?_)
                    · subst ha0
                      exact hx_100 _ ⟨hM, ht⟩
                    · exfalso; omega
                  | succ fu ih_100 =>
                    intro a hae S ⟨hM, ht⟩
                    have hal : a < hn_ + 1 := by omega
                    refine s_iload C 6 dX8_game_100 rfl ?_
                    refine s_iload_n C 1 dX8_game_102 rfl ?_
                    refine s_icmp_gtN 173 C dX8_game_103 (by decide) (by omega) (by omega) (fun h103 => ?_) (fun h103 => ?_)
                    · exfalso; omega
                    · refine s_iconst (v := nI 0) C dX8_game_106 (by decide) ?_
                      refine s_istore (lv' := [(7, .int (nI 0)), (0, .ref (w.2.2 0)), (1, .int (nI hn_)), (2, .int (nI LL - nI 9)), (3, .int (nI sn)), (4, .int (nI nn)), (5, .int (nI wn)), (6, .int (nI a))]) C dX8_game_107 (by decide) rfl ?_
                      have hx_109 : ∀ S, ih_RM S T ∧ ih_WT S.1 (ih_cg T) a (13) 0 0 → ih_Mw x w ih_shM A Q 10 0 0 167 [(0, .ref (w.2.2 0)), (1, .int (nI hn_)), (2, .int (nI LL - nI 9)), (3, .int (nI sn)), (4, .int (nI nn)), (5, .int (nI wn)), (6, .int (nI a)), (7, .int (nI 13))] [] S := by
                        intro S ⟨hM, ht⟩
                        refine s_iinc (u := nI (a + 1)) (lv' := [(6, .int (nI (a + 1))), (0, .ref (w.2.2 0)), (1, .int (nI hn_)), (2, .int (nI LL - nI 9)), (3, .int (nI sn)), (4, .int (nI nn)), (5, .int (nI wn)), (7, .int (nI 13))]) C 6 dX8_game_167 rfl (ih_incN (by decide)) (by decide) rfl ?_
                        refine s_goto C 100 dX8_game_170 (by decide) ?_
                        refine s_perm [1, 2, 3, 4, 5, 6, 0] rfl ?_
                        exact ih_100 (a + 1) (by omega) _ ⟨hM, ih_WT_h ht⟩
                      have loop_109 : ∀ (fu kk : Nat), kk + fu = 13 → ∀ S, ih_RM S T ∧ ih_WT S.1 (ih_cg T) a (kk) 0 0 → ih_Mw x w ih_shM A Q 10 0 0 109 [(0, .ref (w.2.2 0)), (1, .int (nI hn_)), (2, .int (nI LL - nI 9)), (3, .int (nI sn)), (4, .int (nI nn)), (5, .int (nI wn)), (6, .int (nI a)), (7, .int (nI kk))] [] S := by
                        intro fu
                        induction fu with
                        | zero =>
                          intro kk hkke S ⟨hM, ht⟩
                          have hkk0 : kk = 13 := by omega
                          refine s_iload C 7 dX8_game_109 rfl ?_
                          refine s_bipush (v := nI 13) C dX8_game_111 (by decide) ?_
                          refine s_icmp_geN 167 C dX8_game_113 (by decide) (by omega) (by omega) (fun h113 => ?_) (fun h113 => ?_)
                          · subst hkk0
                            exact hx_109 _ ⟨hM, ht⟩
                          · exfalso; omega
                        | succ fu ih_109 =>
                          intro kk hkke S ⟨hM, ht⟩
                          have hkkl : kk < 13 := by omega
                          refine s_iload C 7 dX8_game_109 rfl ?_
                          refine s_bipush (v := nI 13) C dX8_game_111 (by decide) ?_
                          refine s_icmp_geN 167 C dX8_game_113 (by decide) (by omega) (by omega) (fun h113 => ?_) (fun h113 => ?_)
                          · exfalso; omega
                          · refine s_bipush (v := (-9)) C dX8_game_116 (by decide) ?_
                            refine s_toe (b := nI 0 - nI 9) rfl ?_
                            refine s_istore (lv' := [(8, .int (nI 0 - nI 9)), (0, .ref (w.2.2 0)), (1, .int (nI hn_)), (2, .int (nI LL - nI 9)), (3, .int (nI sn)), (4, .int (nI nn)), (5, .int (nI wn)), (6, .int (nI a)), (7, .int (nI kk))]) C dX8_game_118 (by decide) rfl ?_
                            have hx_120 : ∀ S, ih_RM S T ∧ ih_WT S.1 (ih_cg T) a kk (19) 0 → ih_Mw x w ih_shM A Q 10 0 0 161 [(0, .ref (w.2.2 0)), (1, .int (nI hn_)), (2, .int (nI LL - nI 9)), (3, .int (nI sn)), (4, .int (nI nn)), (5, .int (nI wn)), (6, .int (nI a)), (7, .int (nI kk)), (8, .int (nI (19) - nI 9))] [] S := by
                              intro S ⟨hM, ht⟩
                              refine s_iinc (u := nI (kk + 1)) (lv' := [(7, .int (nI (kk + 1))), (0, .ref (w.2.2 0)), (1, .int (nI hn_)), (2, .int (nI LL - nI 9)), (3, .int (nI sn)), (4, .int (nI nn)), (5, .int (nI wn)), (6, .int (nI a)), (8, .int (nI (19) - nI 9))]) C 7 dX8_game_161 rfl (ih_incN (by decide)) (by decide) rfl ?_
                              refine s_goto C 109 dX8_game_164 (by decide) ?_
                              refine s_perm [1, 2, 3, 4, 5, 6, 7, 0] rfl ?_
                              exact ih_109 (kk + 1) (by omega) _ ⟨hM, ih_WT_n ht⟩
                            have loop_120 : ∀ (fu Lv : Nat), Lv + fu = 19 → ∀ S, ih_RM S T ∧ ih_WT S.1 (ih_cg T) a kk (Lv) 0 → ih_Mw x w ih_shM A Q 10 0 0 120 [(0, .ref (w.2.2 0)), (1, .int (nI hn_)), (2, .int (nI LL - nI 9)), (3, .int (nI sn)), (4, .int (nI nn)), (5, .int (nI wn)), (6, .int (nI a)), (7, .int (nI kk)), (8, .int (nI (Lv) - nI 9))] [] S := by
                              intro fu
                              induction fu with
                              | zero =>
                                intro Lv hLve S ⟨hM, ht⟩
                                have hLv0 : Lv = 19 := by omega
                                refine s_iload C 8 dX8_game_120 rfl ?_
                                refine s_bipush (v := nI 10) C dX8_game_122 (by decide) ?_
                                refine s_icmp_ge C 161 dX8_game_124 (by decide) (fun h124 => ?_) (fun h124 => ?_)
                                · simp only [ih_lei, ih_lti, ih_t0, ih_t (n := 10) (by omega)] at h124
                                  subst hLv0
                                  exact hx_120 _ ⟨hM, ht⟩
                                · simp only [ih_lei, ih_t (n := 10) (by decide), ih_ltA Lv (by omega)] at h124; exfalso; omega
                              | succ fu ih_120 =>
                                intro Lv hLve S ⟨hM, ht⟩
                                have hLvl : Lv < 19 := by omega
                                refine s_iload C 8 dX8_game_120 rfl ?_
                                refine s_bipush (v := nI 10) C dX8_game_122 (by decide) ?_
                                refine s_icmp_ge C 161 dX8_game_124 (by decide) (fun h124 => ?_) (fun h124 => ?_)
                                · simp only [ih_lei, ih_t (n := 10) (by decide), ih_ltA Lv (by omega)] at h124; exfalso; omega
                                · simp only [ih_lei, ih_lti, ih_t0, ih_t (n := 10) (by omega)] at h124
                                  refine s_iconst (v := nI 0) C dX8_game_127 (by decide) ?_
                                  refine s_istore (lv' := [(9, .int (nI 0)), (0, .ref (w.2.2 0)), (1, .int (nI hn_)), (2, .int (nI LL - nI 9)), (3, .int (nI sn)), (4, .int (nI nn)), (5, .int (nI wn)), (6, .int (nI a)), (7, .int (nI kk)), (8, .int (nI (Lv) - nI 9))]) C dX8_game_128 (by decide) rfl ?_
                                  have hx_130 : ∀ S, ih_RM S T ∧ ih_WT S.1 (ih_cg T) a kk Lv (25) → ih_Mw x w ih_shM A Q 10 0 0 155 [(0, .ref (w.2.2 0)), (1, .int (nI hn_)), (2, .int (nI LL - nI 9)), (3, .int (nI sn)), (4, .int (nI nn)), (5, .int (nI wn)), (6, .int (nI a)), (7, .int (nI kk)), (8, .int (nI (Lv) - nI 9)), (9, .int (nI 25))] [] S := by
                                    intro S ⟨hM, ht⟩
                                    obtain ⟨x8_1, ex8_1⟩ : ∃ y : Int32, y = nI (Lv) - nI 9 + Int32.ofInt (1) := ⟨_, rfl⟩
                                    refine s_iinc (lv' := [(8, .int x8_1), (0, .ref (w.2.2 0)), (1, .int (nI hn_)), (2, .int (nI LL - nI 9)), (3, .int (nI sn)), (4, .int (nI nn)), (5, .int (nI wn)), (6, .int (nI a)), (7, .int (nI kk)), (9, .int (nI 25))]) C 8 dX8_game_155 rfl ex8_1.symm (by decide) rfl ?_
                                    refine s_goto C 120 dX8_game_158 (by decide) ?_
                                    refine s_perm [1, 2, 3, 4, 5, 6, 7, 8, 0] rfl ?_
                                    have hx8 : x8_1 = nI (Lv + 1) - nI 9 := by rw [ex8_1]; exact ih_ldi Lv 1
                                    subst hx8
                                    exact ih_120 (Lv + 1) (by omega) _ ⟨hM, ih_WT_l ht⟩
                                  have loop_130 : ∀ (fu z : Nat), z + fu = 25 → ∀ S, ih_RM S T ∧ ih_WT S.1 (ih_cg T) a kk Lv (z) → ih_Mw x w ih_shM A Q 10 0 0 130 [(0, .ref (w.2.2 0)), (1, .int (nI hn_)), (2, .int (nI LL - nI 9)), (3, .int (nI sn)), (4, .int (nI nn)), (5, .int (nI wn)), (6, .int (nI a)), (7, .int (nI kk)), (8, .int (nI (Lv) - nI 9)), (9, .int (nI z))] [] S := by
                                    intro fu
                                    induction fu with
                                    | zero =>
                                      intro z hze S ⟨hM, ht⟩
                                      have hz0 : z = 25 := by omega
                                      refine s_iload C 9 dX8_game_130 rfl ?_
                                      refine s_bipush (v := nI 25) C dX8_game_132 (by decide) ?_
                                      refine s_icmp_geN 155 C dX8_game_134 (by decide) (by omega) (by omega) (fun h134 => ?_) (fun h134 => ?_)
                                      · subst hz0
                                        exact hx_130 _ ⟨hM, ht⟩
                                      · exfalso; omega
                                    | succ fu ih_130 =>
                                      intro z hze S ⟨hM, ht⟩
                                      have hzl : z < 25 := by omega
                                      refine s_iload C 9 dX8_game_130 rfl ?_
                                      refine s_bipush (v := nI 25) C dX8_game_132 (by decide) ?_
                                      refine s_icmp_geN 155 C dX8_game_134 (by decide) (by omega) (by omega) (fun h134 => ?_) (fun h134 => ?_)
                                      · exfalso; omega
                                      · refine s_aload_n C 0 dX8_game_137 rfl ?_
                                        refine s_iload C 6 dX8_game_138 rfl ?_
                                        refine s_iload C 8 dX8_game_140 rfl ?_
                                        refine s_iload C 7 dX8_game_142 rfl ?_
                                        refine s_iload C 9 dX8_game_144 rfl ?_
                                        refine s_callVv 4 C (c_X8_play _ w _ T hM hI hT a Lv kk z (by omega) (by omega) (by omega) (by omega) ht) gX8_game_X8_play rfl (by decide +kernel) (by decide) (by decide) (by decide) rfl (by decide) rfl rfl rfl (Nat.le_of_ble_eq_true rfl) dX8_game_146 ?_
                                        rintro S ⟨hM, ht⟩
                                        refine s_iinc (u := nI (z + 1)) (lv' := [(9, .int (nI (z + 1))), (0, .ref (w.2.2 0)), (1, .int (nI hn_)), (2, .int (nI LL - nI 9)), (3, .int (nI sn)), (4, .int (nI nn)), (5, .int (nI wn)), (6, .int (nI a)), (7, .int (nI kk)), (8, .int (nI (Lv) - nI 9))]) C 9 dX8_game_149 rfl (ih_incN (by decide)) (by decide) rfl ?_
                                        refine s_goto C 130 dX8_game_152 (by decide) ?_
                                        refine s_perm [1, 2, 3, 4, 5, 6, 7, 8, 9, 0] rfl ?_
                                        exact ih_130 (z + 1) (by omega) _ ⟨hM, ht⟩
                                  refine s_perm [1, 2, 3, 4, 5, 6, 7, 8, 9, 0] rfl ?_
                                  exact loop_130 25 0 (by omega) _ ⟨hM, ht⟩
                            refine s_perm [1, 2, 3, 4, 5, 6, 7, 8, 0] rfl ?_
                            exact loop_120 19 0 (by omega) _ ⟨hM, ht⟩
                      refine s_perm [1, 2, 3, 4, 5, 6, 7, 0] rfl ?_
                      exact loop_109 13 0 (by omega) _ ⟨hM, ht⟩
                refine s_perm [1, 2, 3, 4, 5, 6, 0] rfl ?_
                exact loop_100 (hn_ + 1) 0 (by omega) _ ⟨hM, fun h n l s _ _ _ hx => by omega⟩
              · refine s_ldc (v := (-1000002)) C (by decide +kernel) dX8_game_94 ?_
                rw [hQ]
                exact s_ireturn C hA dX8_game_96 (by rw [sp_game, if_pos (show (0 ≤ (nI hn_).toInt ∧ (nI hn_).toInt ≤ 5) ∧ (-9 ≤ (nI LL - nI 9).toInt ∧ (nI LL - nI 9).toInt ≤ 9) ∧ (0 ≤ (nI sn).toInt ∧ (nI sn).toInt ≤ 24) ∧ (0 ≤ (nI nn).toInt ∧ (nI nn).toInt ≤ 12) ∧ (0 ≤ (nI wn).toInt ∧ (nI wn).toInt ≤ 2) by omega), if_pos (show T 9 0 = -1000000 ∨ T 9 1 = -1000000 from Or.inr h91)]; exact ⟨rfl, hM⟩)
          · replace h66 := ih_b0 hrb63 h66
            refine s_ldc (v := (-1000001)) C (by decide +kernel) dX8_game_69 ?_
            rw [hQ]
            exact s_ireturn C hA dX8_game_71 (by rw [sp_game, if_neg (by omega)]; exact ⟨rfl, hM⟩)

