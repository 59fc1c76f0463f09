set_option maxHeartbeats 4000000 in
set_option maxRecDepth 100000 in
theorem c_X2_fillMeansF (l : Launch) (w : ih_Wd) (S : ih_Sg) (T : ih_TT) (hX : ih_RX S T) (hI : ih_Inv T) (Sb1 : ih_Sg) (hSb1 : S.1 = Sb1.1) (hpl0 : 0 < ih_pl T) (p n : Nat) (hpp : p < ih_pl T) (hn : n ≤ 30) : ih_Cv l yX2_fillMeans wsX2_fillMeans 1 w ih_shX [.ref (w.2.2 46), .int (nI p), .int (nI n)] S (fun S' => ih_MIx S' T p n n ∧ S'.1 = Sb1.1) := by
  refine ih_bodyv (ret := none) rfl rfl (Nat.le_of_ble_eq_true rfl) ?_
  intro x A hA C
  have C : ih_Ok x w A cX2_fillMeans 5 RX2 wsX2_fillMeans (ih_rm 1) (none) := C
  show ih_Mw x w ih_shX A (ih_Qv x w ih_shX A _) 5 0 0 0 [(0, .ref (w.2.2 46)), (1, .int (nI p)), (2, .int (nI n))] [] S
  obtain ⟨Q, hQ⟩ : ∃ Q, Q = ih_Qv x w ih_shX A (fun S' => ih_MIx S' T p n n ∧ S'.1 = Sb1.1) := ⟨_, rfl⟩
  rw [show ih_Qv x w ih_shX A _ = Q from hQ.symm]
  have hpl9 : ih_pl T ≤ 9 := hI.2.2.1.2.1
  have hct : ih_ct T ≤ 12 := hI.2.1.2.1
  have hok := ih_cc_ok hI
  obtain ⟨km, kb, hmb, h5, h6⟩ : ∃ km kb, ((km = 49 ∧ kb = 50) ∨ (km = 50 ∧ kb = 49)) ∧ S.2.2 46 5 = some km ∧ S.2.2 46 6 = some kb := by
    rcases hX.2.1.1 with q | q
    · exact ⟨49, 50, Or.inl ⟨rfl, rfl⟩, q⟩
    · exact ⟨50, 49, Or.inr ⟨rfl, rfl⟩, q⟩
  have hkmd : ih_shX.1 km = 10 := by rcases hmb with ⟨rfl, rfl⟩ | ⟨rfl, rfl⟩ <;> rfl
  have hkml : ih_shX.2.1 km = 25 := by rcases hmb with ⟨rfl, rfl⟩ | ⟨rfl, rfl⟩ <;> rfl
  have hkbd : ih_shX.1 kb = 10 := by rcases hmb with ⟨rfl, rfl⟩ | ⟨rfl, rfl⟩ <;> rfl
  have hkbl : ih_shX.2.1 kb = 25 := by rcases hmb with ⟨rfl, rfl⟩ | ⟨rfl, rfl⟩ <;> rfl
  have hne : kb ≠ km := by omega
  refine s_aload_n C 0 dX2_fillMeans_0 rfl ?_
  refine s_getR C 2 5 h5 (by decide) rfl (by decide) rfl (fun _ h => List.mem_cons_of_mem _ (List.mem_append_left _ (List.mem_append_left _ (List.mem_append_right _ h)))) (by decide) rfl (by decide +kernel) dX2_fillMeans_1 ?_
  refine s_lconst (v := lN 0) C dX2_fillMeans_4 rfl ?_
  refine s_callSv 2 C (c_fillL _ w _ km 25 (by omega) hkmd hkml (by decide) _) gX2_fillMeans_J7_fill_d0a16 rfl (by decide +kernel) (by decide) (by decide) rfl rfl (Nat.le_of_ble_eq_true rfl) dX2_fillMeans_5 ?_
  rintro S6 hS6
  refine s_aload_n C 0 dX2_fillMeans_8 rfl ?_
  refine s_getR C 2 6 (by rw [hS6]; exact h6) (by decide) rfl (by decide) rfl (fun _ h => List.mem_cons_of_mem _ (List.mem_append_left _ (List.mem_append_left _ (List.mem_append_right _ h)))) (by decide) rfl (by decide +kernel) dX2_fillMeans_9 ?_
  refine s_lconst (v := lN 0) C dX2_fillMeans_12 rfl ?_
  refine s_callSv 2 C (c_fillL _ w _ kb 25 (by omega) hkbd hkbl (by decide) _) gX2_fillMeans_J7_fill_d0a16 rfl (by decide +kernel) (by decide) (by decide) rfl rfl (Nat.le_of_ble_eq_true rfl) dX2_fillMeans_13 ?_
  rintro S7 hS7
  refine s_iconst (v := nI 1) C dX2_fillMeans_16 (by decide) ?_
  refine s_istore_n (lv' := [(3, .int (nI 1)), (0, .ref (w.2.2 46)), (1, .int (nI p)), (2, .int (nI n))]) C dX2_fillMeans_17 rfl (by decide) rfl ?_
  have hx_18 : ∀ S, (ih_MIx S T p n (n) ∧ S.1 = Sb1.1) → ih_Mw x w ih_shX A Q 5 0 0 62 [(0, .ref (w.2.2 46)), (1, .int (nI p)), (2, .int (nI n)), (3, .int (nI (n + 1)))] [] S := by
    intro S ⟨hE, hSf⟩
    rw [hQ]
    exact s_vreturn C hA dX2_fillMeans_62 ⟨hE, hSf⟩
  have loop_18 : ∀ (fu v : Nat), v + fu = n → ∀ S, (ih_MIx S T p n (v) ∧ S.1 = Sb1.1) → ih_Mw x w ih_shX A Q 5 0 0 18 [(0, .ref (w.2.2 46)), (1, .int (nI p)), (2, .int (nI n)), (3, .int (nI (v + 1)))] [] S := by
    intro fu
    induction fu with
    | zero =>
      intro v hve S ⟨hE, hSf⟩
      have hv0 : v = n := by omega
      refine s_iload_n C 3 dX2_fillMeans_18 rfl ?_
      refine s_iload_n C 2 dX2_fillMeans_19 rfl ?_
      refine s_icmp_gtN 62 C dX2_fillMeans_20 (by decide) (by omega) (by omega) (fun h20 => ?_) (fun h20 => ?_)
      · subst hv0
        exact hx_18 _ ⟨hE, hSf⟩
      · exfalso; omega
    | succ fu ih_18 =>
      intro v hve S ⟨hE, hSf⟩
      have hvl : v < n := by omega
      obtain ⟨km, kb, hM⟩ := hE.2
      have hor : ih_or T ((p + n - (v + 1)) % ih_pl T) < ih_ct T := (hI.2.2.1.2.2 _ (Nat.mod_lt _ hpl0)).2
      have hor12 : ih_or T ((p + n - (v + 1)) % ih_pl T) < 12 := by omega
      refine s_iload_n C 3 dX2_fillMeans_18 rfl ?_
      refine s_iload_n C 2 dX2_fillMeans_19 rfl ?_
      refine s_icmp_gtN 62 C dX2_fillMeans_20 (by decide) (by omega) (by omega) (fun h20 => ?_) (fun h20 => ?_)
      · exfalso; omega
      · refine s_aload_n C 0 dX2_fillMeans_23 rfl ?_
        refine s_getR C 2 6 hM.2.2.1 (by decide) rfl (by decide) rfl (fun _ h => List.mem_cons_of_mem _ (List.mem_append_left _ (List.mem_append_left _ (List.mem_append_right _ h)))) (by decide) rfl (by decide +kernel) dX2_fillMeans_24 ?_
        refine s_astore (lv' := [(4, .ref (w.2.2 kb)), (0, .ref (w.2.2 46)), (1, .int (nI p)), (2, .int (nI n)), (3, .int (nI (v + 1)))]) C dX2_fillMeans_27 (by decide) rfl ?_
        refine s_aload_n C 1 dX2_fillMeans_29 rfl ?_
        refine s_aload_n C 1 dX2_fillMeans_30 rfl ?_
        refine s_getR C 2 5 hM.2.1 (by decide) rfl (by decide) rfl (fun _ h => List.mem_cons_of_mem _ (List.mem_append_left _ (List.mem_append_left _ (List.mem_append_right _ h)))) (by decide) rfl (by decide +kernel) dX2_fillMeans_31 ?_
        refine s_putR (ty := .array .long) C 2 6 tyX2 tyX2_ok nmX2 (by decide) rfl (by decide) rfl (fun _ h => List.mem_cons_of_mem _ (List.mem_append_left _ (List.mem_append_left _ (List.mem_append_right _ h)))) (by decide) rfl (by decide +kernel) rfl (by decide +kernel) rfl rfl dX2_fillMeans_34 ?_
        refine s_aload_n C 1 dX2_fillMeans_37 rfl ?_
        refine s_aload C 0 dX2_fillMeans_38 rfl ?_
        refine s_putR (ty := .array .long) C 2 5 tyX2 tyX2_ok nmX2 (by decide) rfl (by decide) rfl (fun _ h => List.mem_cons_of_mem _ (List.mem_append_left _ (List.mem_append_left _ (List.mem_append_right _ h)))) (by decide) rfl (by decide +kernel) rfl (by decide +kernel) rfl rfl dX2_fillMeans_40 ?_
        refine s_aload_n C 1 dX2_fillMeans_43 rfl ?_
        refine s_aload_n C 1 dX2_fillMeans_44 rfl ?_
        refine s_iload_n C 2 dX2_fillMeans_45 rfl ?_
        refine s_iload_n C 3 dX2_fillMeans_46 rfl ?_
        refine s_iaddN C dX2_fillMeans_47 ?_
        refine s_iload_n C 4 dX2_fillMeans_48 rfl ?_
        refine s_isubN C dX2_fillMeans_49 (by omega) ?_
        refine s_callVr 1 C (c_X2_chancesAt _ w _ T (ih_RX_sw hE.1 hM.1) hI hpl0 (p + n - (v + 1)) (by omega)) gX2_fillMeans_X2_chancesAt rfl (by decide +kernel) (by decide) (by decide) (by decide) rfl (by decide) rfl rfl rfl (Nat.le_of_ble_eq_true rfl) dX2_fillMeans_50 ?_
        rintro S9 i9 ⟨hS9, hi9⟩
        obtain rfl := hS9
        obtain rfl := hi9
        refine s_callVv 1 C (c_X2_fillMeansOf _ w _ (ih_RX_sw hE.1 hM.1).1 (ih_RX_sw hE.1 hM.1).2.2.2.2.2.2.2.2.2.1 kb km (by have := hM.1; omega) rfl rfl _ hor12 (ih_cc T ((p + n - (v + 1)) % ih_pl T)) (ih_mean (ih_cc T) (ih_pl T) v ((p + n - v) % ih_pl T)) (ih_RX_c (ih_RX_sw hE.1 hM.1) hI hor) (fun s hs => ⟨hM.2.2.2.1 s hs, by have := ih_mean_le hpl0 hok v ((p + n - v) % ih_pl T) s (Nat.mod_lt _ hpl0); omega⟩)) gX2_fillMeans_X2_fillMeansOf rfl (by decide +kernel) (by decide) (by decide) (by decide) rfl (by decide) rfl rfl rfl (Nat.le_of_ble_eq_true rfl) dX2_fillMeans_53 ?_
        rintro S8 hF
        refine s_iinc (u := nI (v + 1 + 1)) (lv' := [(3, .int (nI (v + 1 + 1))), (4, .ref (w.2.2 kb)), (0, .ref (w.2.2 46)), (1, .int (nI p)), (2, .int (nI n))]) C 4 dX2_fillMeans_56 rfl (ih_incN (by decide)) (by decide) rfl ?_
        refine s_goto C 18 dX2_fillMeans_59 (by decide) ?_
        refine s_perm [2, 3, 4, 0] rfl ?_
        exact ih_18 (v + 1) (by omega) _ ⟨⟨ih_RX_p (ih_RX_sw hE.1 hM.1) hF.1 (fun a b i q => by rw [hF.2.1]; exact (ih_RX_sw hE.1 hM.1).1 a b i q) (by rw [hF.2.1]; exact (ih_RX_sw hE.1 hM.1).2.1), kb, km, ih_MI_s hI hpl0 (by omega) hM hF⟩, hF.1.trans hSf⟩
  refine s_perm [1, 2, 3, 0] rfl ?_
  rw [hS7, hS6]
  exact loop_18 n 0 (by omega) _ ⟨ih_MI_0 hX hmb h5 h6, hSb1⟩

set_option maxHeartbeats 4000000 in
set_option maxRecDepth 100000 in
theorem c_X2_meanFromF (l : Launch) (w : ih_Wd) (S : ih_Sg) (T : ih_TT) (hX : ih_RX S T) (hI : ih_Inv T) (hpl0 : 0 < ih_pl T) (s p n : Nat) (hs : s < 25) (hpp : p < ih_pl T) (hn : n ≤ 30) : ih_Ci l yX2_meanFrom wsX2_meanFrom 2 w ih_shX [.ref (w.2.2 46), .int (nI s), .int (nI p), .int (nI n)] S (fun r S' => r = nI (ih_mean (ih_cc T) (ih_pl T) n p s) ∧ ih_RX S' T ∧ S'.1 = S.1) := by
  refine ih_bodyi (ret := some .int) rfl rfl (Nat.le_of_ble_eq_true rfl) ?_
  intro x A hA C
  have C : ih_Ok x w A cX2_meanFrom 4 RX2 wsX2_meanFrom (ih_rm 2) (some .int) := C
  show ih_Mw x w ih_shX A (ih_Qi x w ih_shX A _) 4 0 0 0 [(0, .ref (w.2.2 46)), (1, .int (nI s)), (2, .int (nI p)), (3, .int (nI n))] [] S
  have hpl9 : ih_pl T ≤ 9 := hI.2.2.1.2.1
  refine s_aload_n C 0 dX2_meanFrom_0 rfl ?_
  refine s_iload_n C 2 dX2_meanFrom_1 rfl ?_
  refine s_iload_n C 3 dX2_meanFrom_2 rfl ?_
  refine s_callVv 2 C (c_X2_fillMeansF _ w _ T hX hI S rfl hpl0 p n hpp hn) gX2_meanFrom_X2_fillMeans rfl (by decide +kernel) (by decide) (by decide) (by decide) rfl (by decide) rfl rfl rfl (Nat.le_of_ble_eq_true rfl) dX2_meanFrom_3 ?_
  rintro S5 ⟨hE, hSf⟩
  obtain ⟨hX5, km, kb, hmb, h5, h6, hm, hz, hb⟩ := hE
  rw [show p + n - n = p by omega, Nat.mod_eq_of_lt hpp] at hm
  have hkmd : ih_shX.1 km = 10 := by rcases hmb with ⟨rfl, rfl⟩ | ⟨rfl, rfl⟩ <;> rfl
  have hkml : ih_shX.2.1 km = 25 := by rcases hmb with ⟨rfl, rfl⟩ | ⟨rfl, rfl⟩ <;> rfl
  have hkbd : ih_shX.1 kb = 10 := by rcases hmb with ⟨rfl, rfl⟩ | ⟨rfl, rfl⟩ <;> rfl
  have hkbl : ih_shX.2.1 kb = 25 := by rcases hmb with ⟨rfl, rfl⟩ | ⟨rfl, rfl⟩ <;> rfl
  have hne : kb ≠ km := by omega
  refine s_aload_n C 0 dX2_meanFrom_6 rfl ?_
  refine s_getR C 2 5 h5 (by decide) rfl (by decide) rfl (fun _ h => List.mem_cons_of_mem _ (List.mem_append_left _ (List.mem_append_left _ (List.mem_append_right _ h)))) (by decide) rfl (by decide +kernel) dX2_meanFrom_7 ?_
  refine s_iload_n C 1 dX2_meanFrom_10 rfl ?_
  refine s_laload C 25 (s) rfl hkml (by omega) (by decide) (show km < 62 by omega) hkmd dX2_meanFrom_11 ?_
  refine s_tol (hm s hs) ?_
  refine s_l2iN C dX2_meanFrom_12 ?_
  exact s_ireturn C hA dX2_meanFrom_13 ⟨rfl, hX5, hSf⟩

set_option maxHeartbeats 4000000 in
set_option maxRecDepth 100000 in
theorem c_X2_rateNowF (l : Launch) (w : ih_Wd) (S : ih_Sg) (T : ih_TT) (hX : ih_RX S T) (hI : ih_Inv T) (hpl0 : 0 < ih_pl T) : ih_Ci l yX2_rateNow wsX2_rateNow 3 w ih_shX [.ref (w.2.2 46)] S (fun r S' => r = nI (ih_rt T) ∧ ih_RX S' T ∧ S'.1 = S.1) := by
  refine ih_bodyi (ret := some .int) rfl rfl (Nat.le_of_ble_eq_true rfl) ?_
  intro x A hA C
  have C : ih_Ok x w A cX2_rateNow 1 RX2 wsX2_rateNow (ih_rm 3) (some .int) := C
  show ih_Mw x w ih_shX A (ih_Qi x w ih_shX A _) 1 0 0 0 [(0, .ref (w.2.2 46))] [] S
  have hpl9 : ih_pl T ≤ 9 := hI.2.2.1.2.1
  refine s_aload_n C 0 dX2_rateNow_0 rfl ?_
  refine s_iconst (v := nI 0) C dX2_rateNow_1 (by decide) ?_
  refine s_iconst (v := nI 0) C dX2_rateNow_2 (by decide) ?_
  refine s_bipush (v := nI 30) C dX2_rateNow_3 (by decide) ?_
  refine s_callVi 3 C (c_X2_meanFromF _ w _ T hX hI hpl0 0 0 30 (by decide) (by omega) (by decide)) gX2_rateNow_X2_meanFrom rfl (by decide +kernel) (by decide) (by decide) (by decide) rfl (by decide) rfl rfl rfl (Nat.le_of_ble_eq_true rfl) dX2_rateNow_5 ?_
  rintro rr S1 ⟨hrr, hX1, hf1⟩
  subst hrr
  refine s_aload_n C 0 dX2_rateNow_8 rfl ?_
  refine s_iconst (v := nI 0) C dX2_rateNow_9 (by decide) ?_
  refine s_aload_n C 0 dX2_rateNow_10 rfl ?_
  refine s_getI C 2 3 (by decide) rfl (by decide) rfl (fun _ h => List.mem_cons_of_mem _ (List.mem_append_left _ (List.mem_append_left _ (List.mem_append_right _ h)))) (by decide) rfl (by decide +kernel) dX2_rateNow_11 ?_
  refine s_toe (ih_RX_pl hX1 hI) ?_
  refine s_iconst (v := nI 2) C dX2_rateNow_14 (by decide) ?_
  refine s_idivN C dX2_rateNow_15 (by omega) (by omega) (by omega) ?_
  refine s_bipush (v := nI 30) C dX2_rateNow_16 (by decide) ?_
  refine s_callVi 3 C (c_X2_meanFromF _ w _ T hX1 hI hpl0 0 (ih_pl T / 2) 30 (by decide) (by omega) (by decide)) gX2_rateNow_X2_meanFrom rfl (by decide +kernel) (by decide) (by decide) (by decide) rfl (by decide) rfl rfl rfl (Nat.le_of_ble_eq_true rfl) dX2_rateNow_18 ?_
  rintro rr S11 ⟨hrr, hX11, hf11⟩
  subst hrr
  refine s_iaddN C dX2_rateNow_21 ?_
  exact s_ireturn C hA dX2_rateNow_22 ⟨rfl, hX11, hf11.trans hf1⟩

set_option maxHeartbeats 4000000 in
set_option maxRecDepth 100000 in
theorem c_X2_exchangeF (l : Launch) (w : ih_Wd) (S : ih_Sg) (T : ih_TT) (hX : ih_RX S T) (a b : Nat) (ha : a < 9) (hb : b < 9) : ih_Cv l yX2_exchange wsX2_exchange 0 w ih_shX [.ref (w.2.2 46), .int (nI a), .int (nI b)] S (fun S' => ih_RX S' (ih_xc T a b) ∧ S'.1 48 = S.1 48) := by
  refine ih_bodyv (ret := none) rfl rfl (Nat.le_of_ble_eq_true rfl) ?_
  intro x A hA C
  have C : ih_Ok x w A cX2_exchange 4 RX2 wsX2_exchange (ih_rm 0) (none) := C
  show ih_Mw x w ih_shX A (ih_Qv x w ih_shX A _) 4 0 0 0 [(0, .ref (w.2.2 46)), (1, .int (nI a)), (2, .int (nI b))] [] S
  have hp := hX.1
  refine s_aload_n C 0 dX2_exchange_0 rfl ?_
  refine s_getR C 2 2 (hp _ _ _ rfl) (by decide) rfl (by decide) rfl (fun _ h => List.mem_cons_of_mem _ (List.mem_append_right _ h)) (by decide) rfl (by decide +kernel) dX2_exchange_1 ?_
  refine s_iload_n C 1 dX2_exchange_4 rfl ?_
  refine s_iaload C 9 (a) rfl rfl (by omega) (by decide) (by decide) rfl dX2_exchange_5 ?_
  refine s_toe (b := T 5 (a)) (hX.2.2.2.2.2.2.1.2 (a) (by omega)) ?_
  refine s_istore_n (lv' := [(3, .int (T 5 (a))), (0, .ref (w.2.2 46)), (1, .int (nI a)), (2, .int (nI b))]) C dX2_exchange_6 rfl (by decide) rfl ?_
  refine s_aload_n C 1 dX2_exchange_7 rfl ?_
  refine s_getR C 2 2 (hp _ _ _ rfl) (by decide) rfl (by decide) rfl (fun _ h => List.mem_cons_of_mem _ (List.mem_append_right _ h)) (by decide) rfl (by decide +kernel) dX2_exchange_8 ?_
  refine s_iload_n C 2 dX2_exchange_11 rfl ?_
  refine s_aload_n C 1 dX2_exchange_12 rfl ?_
  refine s_getR C 2 2 (hp _ _ _ rfl) (by decide) rfl (by decide) rfl (fun _ h => List.mem_cons_of_mem _ (List.mem_append_right _ h)) (by decide) rfl (by decide +kernel) dX2_exchange_13 ?_
  refine s_iload_n C 3 dX2_exchange_16 rfl ?_
  refine s_iaload C 9 (b) rfl rfl (by omega) (by decide) (by decide) rfl dX2_exchange_17 ?_
  refine s_toe (b := T 5 (b)) (hX.2.2.2.2.2.2.1.2 (b) (by omega)) ?_
  refine s_iastore C 9 (a) rfl rfl (by omega) (by decide) (by decide) rfl dX2_exchange_18 ?_
  refine s_aload_n C 1 dX2_exchange_19 rfl ?_
  refine s_getR C 2 2 (hp _ _ _ rfl) (by decide) rfl (by decide) rfl (fun _ h => List.mem_cons_of_mem _ (List.mem_append_right _ h)) (by decide) rfl (by decide +kernel) dX2_exchange_20 ?_
  refine s_iload_n C 3 dX2_exchange_23 rfl ?_
  refine s_iload_n C 0 dX2_exchange_24 rfl ?_
  refine s_iastore C 9 (b) rfl rfl (by omega) (by decide) (by decide) rfl dX2_exchange_25 ?_
  exact s_vreturn C hA dX2_exchange_26 ⟨ih_RX_w5 (ih_RX_w5 hX _) _, (ih_sI_row (by decide)).trans (ih_sI_row (by decide))⟩

set_option maxHeartbeats 4000000 in
set_option maxRecDepth 100000 in
theorem c_X2_nextRowF (l : Launch) (w : ih_Wd) (S : ih_Sg) (T : ih_TT) (hX : ih_RX S T) (hI : ih_Inv T) (K48 : Nat → Int32) (hK : S.1 48 = K48) (hpl0 : 0 < ih_pl T) : ih_Ci l yX2_nextRow wsX2_nextRow 1 w ih_shX [.ref (w.2.2 46)] S (fun r S' => (ih_q T = 0 ∧ r = nI 0 ∧ ih_RX S' T ∧ S'.1 48 = K48) ∨ (0 < ih_q T ∧ r = nI 1 ∧ ih_RX S' (ih_nxt T) ∧ S'.1 48 = K48)) := by
  refine ih_bodyi (ret := some .boolean) rfl rfl (Nat.le_of_ble_eq_true rfl) ?_
  intro x A hA C
  have C : ih_Ok x w A cX2_nextRow 5 RX2 wsX2_nextRow (ih_rm 1) (some .boolean) := C
  show ih_Mw x w ih_shX A (ih_Qi x w ih_shX A _) 5 0 0 0 [(0, .ref (w.2.2 46))] [] S
  obtain ⟨Q, hQ⟩ : ∃ Q, Q = ih_Qi x w ih_shX A (fun r S' => (ih_q T = 0 ∧ r = nI 0 ∧ ih_RX S' T ∧ S'.1 48 = K48) ∨ (0 < ih_q T ∧ r = nI 1 ∧ ih_RX S' (ih_nxt T) ∧ S'.1 48 = K48)) := ⟨_, rfl⟩
  rw [show ih_Qi x w ih_shX A _ = Q from hQ.symm]
  have hp := hX.1
  have hpl9 : ih_pl T ≤ 9 := hI.2.2.1.2.1
  have hct : ih_ct T ≤ 12 := hI.2.1.2.1
  have hor : ∀ p, p < ih_pl T → ih_or T p < 12 := fun p hp => by have := (hI.2.2.1.2.2 p hp).2; omega
  refine s_aload_n C 0 dX2_nextRow_0 rfl ?_
  refine s_getI C 2 3 (by decide) rfl (by decide) rfl (fun _ h => List.mem_cons_of_mem _ (List.mem_append_right _ h)) (by decide) rfl (by decide +kernel) dX2_nextRow_1 ?_
  refine s_toe (ih_RX_pl hX hI) ?_
  refine s_iconst (v := nI 2) C dX2_nextRow_4 (by decide) ?_
  refine s_isub C dX2_nextRow_5  ?_
  refine s_toe (ih_m2 hpl0) ?_
  refine s_istore_n (lv' := [(1, .int (nI (ih_pl T - 1 - (0)) - nI 1)), (0, .ref (w.2.2 46))]) C dX2_nextRow_6 rfl (by decide) rfl ?_
  have loop_7 : ∀ (fu d : Nat), d + fu = ih_pl T - 1 → ∀ S, (ih_RX S T ∧ S.1 48 = K48 ∧ of_nk (ih_or T) (ih_pl T - 1) = of_nk (ih_or T) (ih_pl T - 1 - (d))) → ih_Mw x w ih_shX A Q 5 0 0 7 [(0, .ref (w.2.2 46)), (1, .int (nI (ih_pl T - 1 - (d)) - nI 1))] [] S := by
    intro fu
    induction fu with
    | zero =>
      intro d hde S ⟨hX, hK, hnk⟩
      have hd0 : d = ih_pl T - 1 := by omega
      have hp := hX.1
      rw [show nI (ih_pl T - 1 - d) - nI 1 = -1 by rw [hd0, Nat.sub_self]; rfl]
      refine s_iload_n C 1 dX2_nextRow_7 rfl ?_
      refine s_if_lt C 34 dX2_nextRow_8 (by decide) (fun h8 => ?_) (fun h8 => ?_)
      · simp only [ih_lei, ih_lti, ih_t0] at h8
        refine s_iload_n C 1 dX2_nextRow_34 rfl ?_
        refine s_if_ge C 40 dX2_nextRow_35 (by decide) (fun h35 => ?_) (fun h35 => ?_)
        · exact absurd h35 (by decide)
        · simp only [ih_lei, ih_lti, ih_t0] at h35
          refine s_iconst (v := nI 0) C dX2_nextRow_38 (by decide) ?_
          rw [hQ]
          exact s_zreturn C hA dX2_nextRow_39 (by decide) (Or.inl ⟨by unfold ih_q; rw [hnk, hd0, Nat.sub_self]; rfl, rfl, hX, hK⟩)
      · exact absurd (by decide) h8
    | succ fu ih_7 =>
      intro d hde S ⟨hX, hK, hnk⟩
      have hdl : d < ih_pl T - 1 := by omega
      have hp := hX.1
      rw [ih_p2 (p := ih_pl T) (d := d) (by omega)]
      refine s_iload_n C 1 dX2_nextRow_7 rfl ?_
      refine s_if_ltN 34 C dX2_nextRow_8 (by decide) (by omega) (fun h8 => ?_) (fun h8 => ?_)
      · exfalso; omega
      · refine s_aload_n C 0 dX2_nextRow_11 rfl ?_
        refine s_getR C 2 2 (hp _ _ _ rfl) (by decide) rfl (by decide) rfl (fun _ h => List.mem_cons_of_mem _ (List.mem_append_right _ h)) (by decide) rfl (by decide +kernel) dX2_nextRow_12 ?_
        refine s_iload_n C 1 dX2_nextRow_15 rfl ?_
        refine s_iaload C 9 (ih_pl T - 2 - d) rfl rfl (by omega) (by decide) (by decide) rfl dX2_nextRow_16 ?_
        refine s_toe (b := nI (ih_or T (ih_pl T - 2 - d))) ((hX.2.2.2.2.2.2.1.2 (ih_pl T - 2 - d) (by omega)).trans (hI.2.2.1.2.2 (ih_pl T - 2 - d) (by omega)).1) ?_
        have hob16 := hor (ih_pl T - 2 - d) (by omega)
        refine s_aload_n C 0 dX2_nextRow_17 rfl ?_
        refine s_getR C 2 2 (hp _ _ _ rfl) (by decide) rfl (by decide) rfl (fun _ h => List.mem_cons_of_mem _ (List.mem_append_right _ h)) (by decide) rfl (by decide +kernel) dX2_nextRow_18 ?_
        refine s_iload_n C 1 dX2_nextRow_21 rfl ?_
        refine s_iconst (v := nI 1) C dX2_nextRow_22 (by decide) ?_
        refine s_iaddN C dX2_nextRow_23 ?_
        refine s_iaload C 9 ((ih_pl T - 2 - d) + 1) rfl rfl (by omega) (by decide) (by decide) rfl dX2_nextRow_24 ?_
        refine s_toe (b := nI (ih_or T ((ih_pl T - 2 - d) + 1))) ((hX.2.2.2.2.2.2.1.2 ((ih_pl T - 2 - d) + 1) (by omega)).trans (hI.2.2.1.2.2 ((ih_pl T - 2 - d) + 1) (by omega)).1) ?_
        have hob24 := hor ((ih_pl T - 2 - d) + 1) (by omega)
        refine s_icmp_ltN 34 C dX2_nextRow_25 (by decide) (by omega) (by omega) (fun h25 => ?_) (fun h25 => ?_)
        · refine s_iload_n C 1 dX2_nextRow_34 rfl ?_
          refine s_if_geN 40 C dX2_nextRow_35 (by decide) (by omega) (fun h35 => ?_) (fun h35 => ?_)
          · have hqe : ih_q T = ih_pl T - 1 - d := by
              unfold ih_q
              rw [hnk, show ih_pl T - 1 - d = (ih_pl T - 2 - d) + 1 by omega, of_nk, if_neg (by omega)]
            refine s_aload_n C 0 dX2_nextRow_40 rfl ?_
            refine s_getI C 2 3 (by decide) rfl (by decide) rfl (fun _ h => List.mem_cons_of_mem _ (List.mem_append_right _ h)) (by decide) rfl (by decide +kernel) dX2_nextRow_41 ?_
            refine s_toe (ih_RX_pl hX hI) ?_
            refine s_iconst (v := nI 1) C dX2_nextRow_44 (by decide) ?_
            refine s_isubN C dX2_nextRow_45 (by omega) ?_
            refine s_toe (b := nI (ih_pl T - 1 - 0)) rfl ?_
            refine s_istore_n (lv' := [(2, .int (nI (ih_pl T - 1 - (0)))), (0, .ref (w.2.2 46)), (1, .int (nI (ih_pl T - 2 - d)))]) C dX2_nextRow_46 rfl (by decide) rfl ?_
            have loop_47 : ∀ (fu e : Nat), e + fu = ih_pl T - 2 - (ih_pl T - 2 - d) → ∀ S, (ih_RX S T ∧ S.1 48 = K48 ∧ of_nj (ih_or T) (ih_or T (ih_pl T - 2 - d)) (ih_pl T - 1) = of_nj (ih_or T) (ih_or T (ih_pl T - 2 - d)) (ih_pl T - 1 - (e))) → ih_Mw x w ih_shX A Q 5 0 0 47 [(0, .ref (w.2.2 46)), (1, .int (nI (ih_pl T - 2 - d))), (2, .int (nI (ih_pl T - 1 - (e))))] [] S := by
              intro fu
              induction fu with
              | zero =>
                intro e hee S ⟨hX, hK, hnj⟩
                have he0 : e = ih_pl T - 2 - (ih_pl T - 2 - d) := by omega
                have hp := hX.1
                refine s_iload_n C 2 dX2_nextRow_47 rfl ?_
                refine s_iload_n C 1 dX2_nextRow_48 rfl ?_
                refine s_icmp_leN 73 C dX2_nextRow_49 (by decide) (by omega) (by omega) (fun h49 => ?_) (fun h49 => ?_)
                · exfalso; omega
                · refine s_aload_n C 0 dX2_nextRow_52 rfl ?_
                  refine s_getR C 2 2 (hp _ _ _ rfl) (by decide) rfl (by decide) rfl (fun _ h => List.mem_cons_of_mem _ (List.mem_append_right _ h)) (by decide) rfl (by decide +kernel) dX2_nextRow_53 ?_
                  refine s_iload_n C 2 dX2_nextRow_56 rfl ?_
                  refine s_iaload C 9 (ih_pl T - 1 - (e)) rfl rfl (by omega) (by decide) (by decide) rfl dX2_nextRow_57 ?_
                  refine s_toe (b := nI (ih_or T (ih_pl T - 1 - (e)))) ((hX.2.2.2.2.2.2.1.2 (ih_pl T - 1 - (e)) (by omega)).trans (hI.2.2.1.2.2 (ih_pl T - 1 - (e)) (by omega)).1) ?_
                  have hob57 := hor (ih_pl T - 1 - (e)) (by omega)
                  refine s_aload_n C 0 dX2_nextRow_58 rfl ?_
                  refine s_getR C 2 2 (hp _ _ _ rfl) (by decide) rfl (by decide) rfl (fun _ h => List.mem_cons_of_mem _ (List.mem_append_right _ h)) (by decide) rfl (by decide +kernel) dX2_nextRow_59 ?_
                  refine s_iload_n C 1 dX2_nextRow_62 rfl ?_
                  refine s_iaload C 9 (ih_pl T - 2 - d) rfl rfl (by omega) (by decide) (by decide) rfl dX2_nextRow_63 ?_
                  refine s_toe (b := nI (ih_or T (ih_pl T - 2 - d))) ((hX.2.2.2.2.2.2.1.2 (ih_pl T - 2 - d) (by omega)).trans (hI.2.2.1.2.2 (ih_pl T - 2 - d) (by omega)).1) ?_
                  have hob63 := hor (ih_pl T - 2 - d) (by omega)
                  refine s_icmp_gtN 73 C dX2_nextRow_64 (by decide) (by omega) (by omega) (fun h64 => ?_) (fun h64 => ?_)
                  · have hje : ih_j T = ih_pl T - 1 - e := by
                      unfold ih_j
                      rw [show ih_q T - 1 = ih_pl T - 2 - d by omega, hnj, show ih_pl T - 1 - e = (ih_pl T - 1 - e - 1) + 1 by omega, of_nj, if_neg (by rw [show ih_pl T - 1 - e - 1 + 1 = ih_pl T - 1 - e by omega]; omega)]
                    refine s_aload_n C 0 dX2_nextRow_73 rfl ?_
                    refine s_iload_n C 1 dX2_nextRow_74 rfl ?_
                    refine s_iload_n C 2 dX2_nextRow_75 rfl ?_
                    refine s_callVv 2 C (c_X2_exchangeF _ w _ T hX (ih_pl T - 2 - d) (ih_pl T - 1 - e) (by omega) (by omega)) gX2_nextRow_X2_exchange rfl (by decide +kernel) (by decide) (by decide) (by decide) rfl (by decide) rfl rfl rfl (Nat.le_of_ble_eq_true rfl) dX2_nextRow_76 ?_
                    rintro S ⟨hX, hk2⟩
                    replace hK := hk2.trans hK
                    have hp := hX.1
                    rw [show ih_pl T - 2 - d = ih_q T - 1 by omega, ← hje] at hX
                    refine s_iload_n C 1 dX2_nextRow_79 rfl ?_
                    refine s_iconst (v := nI 1) C dX2_nextRow_80 (by decide) ?_
                    refine s_iaddN C dX2_nextRow_81 ?_
                    refine s_toe (b := nI (ih_q T + 0)) (congrArg nI (by omega)) ?_
                    refine s_istore_n (lv' := [(3, .int (nI (ih_q T + 0))), (0, .ref (w.2.2 46)), (1, .int (nI (ih_pl T - 2 - d))), (2, .int (nI (ih_pl T - 1 - (e))))]) C dX2_nextRow_82 rfl (by decide) rfl ?_
                    refine s_aload_n C 1 dX2_nextRow_83 rfl ?_
                    refine s_getI C 2 3 (by decide) rfl (by decide) rfl (fun _ h => List.mem_cons_of_mem _ (List.mem_append_right _ h)) (by decide) rfl (by decide +kernel) dX2_nextRow_84 ?_
                    refine s_toe (b := nI (ih_pl T)) (hX.2.2.2.2.2.2.1.1.trans ((ih_xc_o (by decide) _).trans hI.2.2.1.1)) ?_
                    refine s_iconst (v := nI 1) C dX2_nextRow_87 (by decide) ?_
                    refine s_isubN C dX2_nextRow_88 (by omega) ?_
                    refine s_toe (b := nI (ih_pl T - 1 - 0)) rfl ?_
                    refine s_istore (lv' := [(4, .int (nI (ih_pl T - 1 - 0))), (3, .int (nI (ih_q T + 0))), (0, .ref (w.2.2 46)), (1, .int (nI (ih_pl T - 2 - d))), (2, .int (nI (ih_pl T - 1 - (e))))]) C dX2_nextRow_89 (by decide) rfl ?_
                    have hx_91 : ∀ S, (ih_RX S (ih_rvs (ih_xc T (ih_q T - 1) (ih_j T)) (ih_q T) (ih_pl T - 1) ((ih_pl T - ih_q T) / 2)) ∧ S.1 48 = K48) → ih_Mw x w ih_shX A Q 5 0 0 113 [(0, .ref (w.2.2 46))] [] S := by
                      intro S ⟨hX, hK⟩
                      refine s_iconst (v := nI 1) C dX2_nextRow_113 (by decide) ?_
                      rw [hQ]
                      exact s_zreturn C hA dX2_nextRow_114 (by decide) (Or.inr ⟨by omega, rfl, hX, hK⟩)
                    have loop_91 : ∀ (fu r : Nat), r + fu = (ih_pl T - ih_q T) / 2 → ∀ S, (ih_RX S (ih_rvs (ih_xc T (ih_q T - 1) (ih_j T)) (ih_q T) (ih_pl T - 1) (r)) ∧ S.1 48 = K48) → ih_Mw x w ih_shX A Q 5 0 0 91 [(0, .ref (w.2.2 46)), (3, .int (nI (ih_q T + (r)))), (4, .int (nI (ih_pl T - 1 - (r))))] [] S := by
                      intro fu
                      induction fu with
                      | zero =>
                        intro r hre S ⟨hX, hK⟩
                        have hr0 : r = (ih_pl T - ih_q T) / 2 := by omega
                        refine s_iload_n C 1 dX2_nextRow_91 rfl ?_
                        refine s_iload C 2 dX2_nextRow_92 rfl ?_
                        refine s_icmp_geN 113 C dX2_nextRow_94 (by decide) (by omega) (by omega) (fun h94 => ?_) (fun h94 => ?_)
                        · refine s_perm [0] rfl ?_
                          subst hr0
                          exact hx_91 _ ⟨hX, hK⟩
                        · exfalso; omega
                      | succ fu ih_91 =>
                        intro r hre S ⟨hX, hK⟩
                        have hrl : r < (ih_pl T - ih_q T) / 2 := by omega
                        have hp := hX.1
                        refine s_iload_n C 1 dX2_nextRow_91 rfl ?_
                        refine s_iload C 2 dX2_nextRow_92 rfl ?_
                        refine s_icmp_geN 113 C dX2_nextRow_94 (by decide) (by omega) (by omega) (fun h94 => ?_) (fun h94 => ?_)
                        · exfalso; omega
                        · refine s_aload_n C 0 dX2_nextRow_97 rfl ?_
                          refine s_iload_n C 1 dX2_nextRow_98 rfl ?_
                          refine s_iload C 2 dX2_nextRow_99 rfl ?_
                          refine s_callVv 2 C (c_X2_exchangeF _ w _ _ hX (ih_q T + r) (ih_pl T - 1 - r) (by omega) (by omega)) gX2_nextRow_X2_exchange rfl (by decide +kernel) (by decide) (by decide) (by decide) rfl (by decide) rfl rfl rfl (Nat.le_of_ble_eq_true rfl) dX2_nextRow_101 ?_
                          rintro S ⟨hX, hk2⟩
                          replace hK := hk2.trans hK
                          have hp := hX.1
                          refine s_iinc (u := nI (ih_q T + (r) + 1)) (lv' := [(3, .int (nI (ih_q T + (r) + 1))), (0, .ref (w.2.2 46)), (4, .int (nI (ih_pl T - 1 - (r))))]) C 1 dX2_nextRow_104 rfl (ih_incN (by decide)) (by decide) rfl ?_
                          refine s_iinc (u := nI (ih_pl T - 1 - (r) - 1)) (lv' := [(4, .int (nI (ih_pl T - 1 - (r) - 1))), (3, .int (nI (ih_q T + (r) + 1))), (0, .ref (w.2.2 46))]) C 2 dX2_nextRow_107 rfl (ih_dec (by omega)) (by decide) rfl ?_
                          refine s_goto C 91 dX2_nextRow_110 (by decide) ?_
                          refine s_perm [2, 1, 0] rfl ?_
                          exact ih_91 (r + 1) (by omega) _ ⟨hX, hK⟩
                    refine s_perm [2, 1, 0] rfl ?_
                    exact loop_91 ((ih_pl T - ih_q T) / 2) 0 (by omega) _ ⟨hX, hK⟩
                  · exfalso; rw [show ih_pl T - 1 - e = ih_pl T - 2 - d + 1 by omega] at h64; omega
              | succ fu ih_47 =>
                intro e hee S ⟨hX, hK, hnj⟩
                have hel : e < ih_pl T - 2 - (ih_pl T - 2 - d) := by omega
                have hp := hX.1
                refine s_iload_n C 2 dX2_nextRow_47 rfl ?_
                refine s_iload_n C 1 dX2_nextRow_48 rfl ?_
                refine s_icmp_leN 73 C dX2_nextRow_49 (by decide) (by omega) (by omega) (fun h49 => ?_) (fun h49 => ?_)
                · exfalso; omega
                · refine s_aload_n C 0 dX2_nextRow_52 rfl ?_
                  refine s_getR C 2 2 (hp _ _ _ rfl) (by decide) rfl (by decide) rfl (fun _ h => List.mem_cons_of_mem _ (List.mem_append_right _ h)) (by decide) rfl (by decide +kernel) dX2_nextRow_53 ?_
                  refine s_iload_n C 2 dX2_nextRow_56 rfl ?_
                  refine s_iaload C 9 (ih_pl T - 1 - (e)) rfl rfl (by omega) (by decide) (by decide) rfl dX2_nextRow_57 ?_
                  refine s_toe (b := nI (ih_or T (ih_pl T - 1 - (e)))) ((hX.2.2.2.2.2.2.1.2 (ih_pl T - 1 - (e)) (by omega)).trans (hI.2.2.1.2.2 (ih_pl T - 1 - (e)) (by omega)).1) ?_
                  have hob57 := hor (ih_pl T - 1 - (e)) (by omega)
                  refine s_aload_n C 0 dX2_nextRow_58 rfl ?_
                  refine s_getR C 2 2 (hp _ _ _ rfl) (by decide) rfl (by decide) rfl (fun _ h => List.mem_cons_of_mem _ (List.mem_append_right _ h)) (by decide) rfl (by decide +kernel) dX2_nextRow_59 ?_
                  refine s_iload_n C 1 dX2_nextRow_62 rfl ?_
                  refine s_iaload C 9 (ih_pl T - 2 - d) rfl rfl (by omega) (by decide) (by decide) rfl dX2_nextRow_63 ?_
                  refine s_toe (b := nI (ih_or T (ih_pl T - 2 - d))) ((hX.2.2.2.2.2.2.1.2 (ih_pl T - 2 - d) (by omega)).trans (hI.2.2.1.2.2 (ih_pl T - 2 - d) (by omega)).1) ?_
                  have hob63 := hor (ih_pl T - 2 - d) (by omega)
                  refine s_icmp_gtN 73 C dX2_nextRow_64 (by decide) (by omega) (by omega) (fun h64 => ?_) (fun h64 => ?_)
                  · have hje : ih_j T = ih_pl T - 1 - e := by
                      unfold ih_j
                      rw [show ih_q T - 1 = ih_pl T - 2 - d by omega, hnj, show ih_pl T - 1 - e = (ih_pl T - 1 - e - 1) + 1 by omega, of_nj, if_neg (by rw [show ih_pl T - 1 - e - 1 + 1 = ih_pl T - 1 - e by omega]; omega)]
                    refine s_aload_n C 0 dX2_nextRow_73 rfl ?_
                    refine s_iload_n C 1 dX2_nextRow_74 rfl ?_
                    refine s_iload_n C 2 dX2_nextRow_75 rfl ?_
                    refine s_callVv 2 C (c_X2_exchangeF _ w _ T hX (ih_pl T - 2 - d) (ih_pl T - 1 - e) (by omega) (by omega)) gX2_nextRow_X2_exchange rfl (by decide +kernel) (by decide) (by decide) (by decide) rfl (by decide) rfl rfl rfl (Nat.le_of_ble_eq_true rfl) dX2_nextRow_76 ?_
                    rintro S ⟨hX, hk2⟩
                    replace hK := hk2.trans hK
                    have hp := hX.1
                    rw [show ih_pl T - 2 - d = ih_q T - 1 by omega, ← hje] at hX
                    refine s_iload_n C 1 dX2_nextRow_79 rfl ?_
                    refine s_iconst (v := nI 1) C dX2_nextRow_80 (by decide) ?_
                    refine s_iaddN C dX2_nextRow_81 ?_
                    refine s_toe (b := nI (ih_q T + 0)) (congrArg nI (by omega)) ?_
                    refine s_istore_n (lv' := [(3, .int (nI (ih_q T + 0))), (0, .ref (w.2.2 46)), (1, .int (nI (ih_pl T - 2 - d))), (2, .int (nI (ih_pl T - 1 - (e))))]) C dX2_nextRow_82 rfl (by decide) rfl ?_
                    refine s_aload_n C 1 dX2_nextRow_83 rfl ?_
                    refine s_getI C 2 3 (by decide) rfl (by decide) rfl (fun _ h => List.mem_cons_of_mem _ (List.mem_append_right _ h)) (by decide) rfl (by decide +kernel) dX2_nextRow_84 ?_
                    refine s_toe (b := nI (ih_pl T)) (hX.2.2.2.2.2.2.1.1.trans ((ih_xc_o (by decide) _).trans hI.2.2.1.1)) ?_
                    refine s_iconst (v := nI 1) C dX2_nextRow_87 (by decide) ?_
                    refine s_isubN C dX2_nextRow_88 (by omega) ?_
                    refine s_toe (b := nI (ih_pl T - 1 - 0)) rfl ?_
                    refine s_istore (lv' := [(4, .int (nI (ih_pl T - 1 - 0))), (3, .int (nI (ih_q T + 0))), (0, .ref (w.2.2 46)), (1, .int (nI (ih_pl T - 2 - d))), (2, .int (nI (ih_pl T - 1 - (e))))]) C dX2_nextRow_89 (by decide) rfl ?_
                    have hx_91 : ∀ S, (ih_RX S (ih_rvs (ih_xc T (ih_q T - 1) (ih_j T)) (ih_q T) (ih_pl T - 1) ((ih_pl T - ih_q T) / 2)) ∧ S.1 48 = K48) → ih_Mw x w ih_shX A Q 5 0 0 113 [(0, .ref (w.2.2 46))] [] S := by
                      intro S ⟨hX, hK⟩
                      refine s_iconst (v := nI 1) C dX2_nextRow_113 (by decide) ?_
                      rw [hQ]
                      exact s_zreturn C hA dX2_nextRow_114 (by decide) (Or.inr ⟨by omega, rfl, hX, hK⟩)
                    have loop_91 : ∀ (fu r : Nat), r + fu = (ih_pl T - ih_q T) / 2 → ∀ S, (ih_RX S (ih_rvs (ih_xc T (ih_q T - 1) (ih_j T)) (ih_q T) (ih_pl T - 1) (r)) ∧ S.1 48 = K48) → ih_Mw x w ih_shX A Q 5 0 0 91 [(0, .ref (w.2.2 46)), (3, .int (nI (ih_q T + (r)))), (4, .int (nI (ih_pl T - 1 - (r))))] [] S := by
                      intro fu
                      induction fu with
                      | zero =>
                        intro r hre S ⟨hX, hK⟩
                        have hr0 : r = (ih_pl T - ih_q T) / 2 := by omega
                        refine s_iload_n C 1 dX2_nextRow_91 rfl ?_
                        refine s_iload C 2 dX2_nextRow_92 rfl ?_
                        refine s_icmp_geN 113 C dX2_nextRow_94 (by decide) (by omega) (by omega) (fun h94 => ?_) (fun h94 => ?_)
                        · refine s_perm [0] rfl ?_
                          subst hr0
                          exact hx_91 _ ⟨hX, hK⟩
                        · exfalso; omega
                      | succ fu ih_91 =>
                        intro r hre S ⟨hX, hK⟩
                        have hrl : r < (ih_pl T - ih_q T) / 2 := by omega
                        have hp := hX.1
                        refine s_iload_n C 1 dX2_nextRow_91 rfl ?_
                        refine s_iload C 2 dX2_nextRow_92 rfl ?_
                        refine s_icmp_geN 113 C dX2_nextRow_94 (by decide) (by omega) (by omega) (fun h94 => ?_) (fun h94 => ?_)
                        · exfalso; omega
                        · refine s_aload_n C 0 dX2_nextRow_97 rfl ?_
                          refine s_iload_n C 1 dX2_nextRow_98 rfl ?_
                          refine s_iload C 2 dX2_nextRow_99 rfl ?_
                          refine s_callVv 2 C (c_X2_exchangeF _ w _ _ hX (ih_q T + r) (ih_pl T - 1 - r) (by omega) (by omega)) gX2_nextRow_X2_exchange rfl (by decide +kernel) (by decide) (by decide) (by decide) rfl (by decide) rfl rfl rfl (Nat.le_of_ble_eq_true rfl) dX2_nextRow_101 ?_
                          rintro S ⟨hX, hk2⟩
                          replace hK := hk2.trans hK
                          have hp := hX.1
                          refine s_iinc (u := nI (ih_q T + (r) + 1)) (lv' := [(3, .int (nI (ih_q T + (r) + 1))), (0, .ref (w.2.2 46)), (4, .int (nI (ih_pl T - 1 - (r))))]) C 1 dX2_nextRow_104 rfl (ih_incN (by decide)) (by decide) rfl ?_
                          refine s_iinc (u := nI (ih_pl T - 1 - (r) - 1)) (lv' := [(4, .int (nI (ih_pl T - 1 - (r) - 1))), (3, .int (nI (ih_q T + (r) + 1))), (0, .ref (w.2.2 46))]) C 2 dX2_nextRow_107 rfl (ih_dec (by omega)) (by decide) rfl ?_
                          refine s_goto C 91 dX2_nextRow_110 (by decide) ?_
                          refine s_perm [2, 1, 0] rfl ?_
                          exact ih_91 (r + 1) (by omega) _ ⟨hX, hK⟩
                    refine s_perm [2, 1, 0] rfl ?_
                    exact loop_91 ((ih_pl T - ih_q T) / 2) 0 (by omega) _ ⟨hX, hK⟩
                  · refine s_iinc (u := nI (ih_pl T - 1 - (e) - 1)) (lv' := [(2, .int (nI (ih_pl T - 1 - (e) - 1))), (0, .ref (w.2.2 46)), (1, .int (nI (ih_pl T - 2 - d)))]) C 2 dX2_nextRow_67 rfl (ih_dec (by omega)) (by decide) rfl ?_
                    refine s_goto C 47 dX2_nextRow_70 (by decide) ?_
                    refine s_perm [1, 2, 0] rfl ?_
                    refine ih_47 (e + 1) (by omega) _ ⟨hX, hK, ?_⟩
                    rw [hnj, show ih_pl T - 1 - e = (ih_pl T - 1 - (e + 1)) + 1 by omega, of_nj, if_pos (by rw [show ih_pl T - 1 - (e + 1) + 1 = ih_pl T - 1 - e by omega]; omega)]
            refine s_perm [1, 2, 0] rfl ?_
            exact loop_47 _ 0 (Nat.zero_add _) _ ⟨hX, hK, rfl⟩
          · exfalso; omega
        · obtain ⟨x1_1, ex1_1⟩ : ∃ y : Int32, y = nI (ih_pl T - 2 - d) + Int32.ofInt (-1) := ⟨_, rfl⟩
          refine s_iinc (lv' := [(1, .int x1_1), (0, .ref (w.2.2 46))]) C 1 dX2_nextRow_28 rfl ex1_1.symm (by decide) rfl ?_
          refine s_goto C 7 dX2_nextRow_31 (by decide) ?_
          refine s_perm [1, 0] rfl ?_
          have hx1 : x1_1 = nI (ih_pl T - 1 - (d + 1)) - nI 1 := by rw [ex1_1, ih_m3, show ih_pl T - 2 - d = ih_pl T - 1 - (d + 1) by omega]
          subst hx1
          refine ih_7 (d + 1) (by omega) _ ⟨hX, hK, ?_⟩
          rw [hnk, show ih_pl T - 1 - d = (ih_pl T - 1 - (d + 1)) + 1 by omega, of_nk, if_pos (by rw [show ih_pl T - 1 - (d + 1) + 1 = ih_pl T - 2 - d + 1 by omega, show ih_pl T - 1 - (d + 1) = ih_pl T - 2 - d by omega]; omega)]
  refine s_perm [1, 0] rfl ?_
  exact loop_7 (ih_pl T - 1) 0 (by omega) _ ⟨hX, hK, rfl⟩

