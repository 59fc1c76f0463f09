/-! best: all rows in order, from the sorted one on -/
def ih_sb1 (T : ih_TT) (a b : Nat) : ih_TT := if ih_or T b < ih_or T a then ih_xc T a b else T
def ih_si (T : ih_TT) (a : Nat) : Nat → ih_TT
  | 0 => T
  | m + 1 => ih_sb1 (ih_si T a m) a (a + 1 + m)
def ih_so (T : ih_TT) (pl : Nat) : Nat → ih_TT
  | 0 => T
  | a + 1 => ih_si (ih_so T pl a) a (pl - (a + 1))
def ih_pn (T : ih_TT) : Nat → ih_TT
  | 0 => T
  | n + 1 => ih_nxt (ih_pn T n)
def ih_bi (T : ih_TT) : Nat → Nat
  | 0 => 0
  | n + 1 => if ih_rt (ih_pn T (ih_bi T n)) < ih_rt (ih_pn T (n + 1)) then n + 1 else ih_bi T n
def ih_mo (T : ih_TT) : Nat → Int32
  | 0 => -1
  | n + 1 => nI (ih_rt (ih_pn T (ih_bi T n)))
/-- the last row's number -/
def ih_N (T : ih_TT) : Nat := ih_fi (fun n => decide (ih_q (ih_pn T n) = 0)) 720
def ih_Ts (T : ih_TT) : ih_TT := ih_so T (ih_pl T) (ih_pl T)
def ih_bst (T : ih_TT) : ih_TT := ih_pn (ih_Ts T) (ih_bi (ih_Ts T) (ih_N (ih_Ts T)))
def sp_best (T : ih_TT) : Int32 × ih_TT := if ih_pl T = 0 ∨ 6 < ih_pl T then (-1000002, T) else (nI (ih_rt (ih_bst T)), ih_bst T)
theorem ih_si_s {T : ih_TT} {a b : Nat} (h : a < b) : ih_si T a (b + 1 - (a + 1)) = ih_sb1 (ih_si T a (b - (a + 1))) a b := by
  rw [show b + 1 - (a + 1) = (b - (a + 1)) + 1 by omega]
  show ih_sb1 _ a (a + 1 + (b - (a + 1))) = _
  rw [show a + 1 + (b - (a + 1)) = b by omega]
theorem ih_sb1_I {T : ih_TT} {a b : Nat} (h : ih_Inv T) (ha : a < ih_pl T) (hb : b < ih_pl T) : ih_Inv (ih_sb1 T a b) ∧ ih_pl (ih_sb1 T a b) = ih_pl T := by
  unfold ih_sb1
  split
  · exact ⟨ih_xc_Inv h ha hb, ih_xc_pl⟩
  · exact ⟨h, rfl⟩
theorem ih_si_I {T : ih_TT} {a : Nat} (h : ih_Inv T) (ha : a < ih_pl T) : ∀ m, a + m < ih_pl T → ih_Inv (ih_si T a m) ∧ ih_pl (ih_si T a m) = ih_pl T
  | 0, _ => ⟨h, rfl⟩
  | m + 1, hm => by
    obtain ⟨h1, h2⟩ := ih_si_I h ha m (by omega)
    obtain ⟨h3, h4⟩ := ih_sb1_I h1 (a := a) (b := a + 1 + m) (by omega) (by omega)
    exact ⟨h3, h4.trans h2⟩
theorem ih_so_I {T : ih_TT} (h : ih_Inv T) : ∀ a, a ≤ ih_pl T → ih_Inv (ih_so T (ih_pl T) a) ∧ ih_pl (ih_so T (ih_pl T) a) = ih_pl T
  | 0, _ => ⟨h, rfl⟩
  | a + 1, ha => by
    obtain ⟨h1, h2⟩ := ih_so_I h a (by omega)
    obtain ⟨h3, h4⟩ := ih_si_I h1 (a := a) (by omega) (ih_pl T - (a + 1)) (by omega)
    exact ⟨h3, h4.trans h2⟩
theorem ih_Ts_I {T : ih_TT} (h : ih_Inv T) : ih_Inv (ih_Ts T) ∧ ih_pl (ih_Ts T) = ih_pl T := ih_so_I h (ih_pl T) (Nat.le_refl _)
theorem ih_pn_I {T : ih_TT} (h : ih_Inv T) (hp : 0 < ih_pl T) : ∀ n, ih_Inv (ih_pn T n) ∧ ih_pl (ih_pn T n) = ih_pl T
  | 0 => ⟨h, rfl⟩
  | n + 1 => by
    obtain ⟨h1, h2⟩ := ih_pn_I h hp n
    exact ⟨ih_nxt_Inv h1 (by omega), by show ih_pl (ih_nxt _) = _; rw [ih_nxt_pl, h2]⟩
theorem ih_rvs_5 {T : ih_TT} {a b j p : Nat} (hj : p ≤ j) : ∀ r, (∀ i, i < r → a + i < p ∧ b - i < p) → ih_rvs T a b r 5 j = T 5 j
  | 0, _ => rfl
  | r + 1, hr => by
    have h2 := hr r (by omega)
    show ih_xc (ih_rvs T a b r) (a + r) (b - r) 5 j = _
    rw [ih_xc_5, if_neg (by omega), if_neg (by omega), ih_rvs_5 hj r (fun i hi => hr i (by omega))]
theorem ih_nxt_out {T : ih_TT} (hp : 0 < ih_pl T) {k j : Nat} (h : ¬ (k = 5 ∧ j < ih_pl T)) : ih_nxt T k j = T k j := by
  have h1 : ih_q T ≤ ih_pl T - 1 := of_nk_le _ _
  have h2 : ih_j T ≤ ih_pl T - 1 := of_nj_le _ _ _
  unfold ih_nxt
  by_cases hk : k = 5
  · subst hk
    rw [ih_rvs_5 (p := ih_pl T) (by omega) _ (fun i hi => by omega), ih_xc_5, if_neg (by omega), if_neg (by omega)]
  · rw [ih_rvs_o hk, ih_xc_o hk]
theorem ih_pn_out {T : ih_TT} (h : ih_Inv T) (hp : 0 < ih_pl T) {k j : Nat} (hk : ¬ (k = 5 ∧ j < ih_pl T)) : ∀ n, ih_pn T n k j = T k j
  | 0 => rfl
  | n + 1 => by
    obtain ⟨h1, h2⟩ := ih_pn_I h hp n
    show ih_nxt (ih_pn T n) k j = _
    rw [ih_nxt_out (by omega) (by rw [h2]; exact hk), ih_pn_out h hp hk n]
/-- the reference's own row 'best' beside a state -/
def ih_w8 (X : ih_TT) (B : Nat → Int32) : ih_TT := fun k j => if k = 8 then B j else X k j
theorem ih_w8_self {X : ih_TT} : ih_w8 X (X 8) = X := by
  funext k j
  unfold ih_w8
  split
  · next h => rw [h]
  · rfl
theorem ih_w8_8 {X : ih_TT} {B : Nat → Int32} {j : Nat} {v : Int32} : ih_u2 (ih_w8 X B) 8 j v = ih_w8 X (fun i => if i = j then v else B i) := by
  funext k i
  unfold ih_u2 ih_w8
  by_cases h : k = 8
  · by_cases h2 : i = j
    · simp [h, h2]
    · simp [h, h2]
  · simp [h]
theorem ih_w8_5 {X : ih_TT} {B : Nat → Int32} {j : Nat} {v : Int32} : ih_u2 (ih_w8 X B) 5 j v = ih_w8 (ih_u2 X 5 j v) B := by
  funext k i
  unfold ih_u2 ih_w8
  by_cases h : k = 8
  · simp [h]
  · simp [h]
theorem ih_w8_xc {X : ih_TT} {B : Nat → Int32} {a b : Nat} : ih_xc (ih_w8 X B) a b = ih_w8 (ih_xc X a b) B := by
  unfold ih_xc
  rw [ih_w8_5, ih_w8_5]; rfl
theorem ih_w8_rvs {X : ih_TT} {B : Nat → Int32} {a b : Nat} : ∀ r, ih_rvs (ih_w8 X B) a b r = ih_w8 (ih_rvs X a b r) B
  | 0 => rfl
  | r + 1 => by
    show ih_xc (ih_rvs (ih_w8 X B) a b r) _ _ = ih_w8 (ih_xc _ _ _) B
    rw [ih_w8_rvs r, ih_w8_xc]
theorem ih_w8_or {X : ih_TT} {B : Nat → Int32} : ih_or (ih_w8 X B) = ih_or X := rfl
theorem ih_w8_pl {X : ih_TT} {B : Nat → Int32} : ih_pl (ih_w8 X B) = ih_pl X := rfl
theorem ih_w8_q {X : ih_TT} {B : Nat → Int32} : ih_q (ih_w8 X B) = ih_q X := by unfold ih_q; rw [ih_w8_or, ih_w8_pl]
theorem ih_w8_j {X : ih_TT} {B : Nat → Int32} : ih_j (ih_w8 X B) = ih_j X := by unfold ih_j; rw [ih_w8_or, ih_w8_pl, ih_w8_q]
theorem ih_w8_nxt {X : ih_TT} {B : Nat → Int32} : ih_nxt (ih_w8 X B) = ih_w8 (ih_nxt X) B := by
  unfold ih_nxt
  rw [ih_w8_q, ih_w8_j, ih_w8_pl, ih_w8_xc, ih_w8_rvs]
theorem ih_w8_cc {X : ih_TT} {B : Nat → Int32} : ih_cc (ih_w8 X B) = ih_cc X := rfl
theorem ih_w8_rt {X : ih_TT} {B : Nat → Int32} : ih_rt (ih_w8 X B) = ih_rt X := by unfold ih_rt; rw [ih_w8_cc, ih_w8_pl]
theorem ih_w8_I {X : ih_TT} {B : Nat → Int32} (h : ih_Inv X) : ih_Inv (ih_w8 X B) := h
def ih_cb (T U : ih_TT) : Nat → ih_TT
  | 0 => T
  | j + 1 => ih_u2 (ih_cb T U j) 5 j (U 5 j)
theorem ih_cb_at {T U : ih_TT} {k j : Nat} : ∀ n, ih_cb T U n k j = if k = 5 ∧ j < n then U 5 j else T k j
  | 0 => by rw [if_neg (by omega)]; rfl
  | n + 1 => by
    show ih_u2 (ih_cb T U n) 5 n (U 5 n) k j = _
    unfold ih_u2
    by_cases h : k = 5 ∧ j = n
    · rw [if_pos h, if_pos (by omega), h.2]
    · rw [if_neg h, ih_cb_at n]
      by_cases h2 : k = 5 ∧ j < n
      · rw [if_pos h2, if_pos (by omega)]
      · rw [if_neg h2, if_neg (by omega)]
theorem ih_cb_all {T : ih_TT} (h : ih_Inv T) (hp : 0 < ih_pl T) (a b : Nat) : ih_cb (ih_pn T a) (ih_pn T b) (ih_pl T) = ih_pn T b := by
  funext k j
  rw [ih_cb_at]
  by_cases hk : k = 5 ∧ j < ih_pl T
  · rw [if_pos hk, hk.1]
  · rw [if_neg hk, ih_pn_out h hp hk, ih_pn_out h hp hk]
theorem ih_mo_s {T : ih_TT} {n : Nat} : ih_mo T (n + 1) = nI (ih_rt (ih_pn T (ih_bi T n))) := rfl
theorem ih_bst_e {T : ih_TT} {n : Nat} (h : ih_N (ih_Ts T) = n) : ih_bst T = ih_pn (ih_Ts T) (ih_bi (ih_Ts T) n) := by unfold ih_bst; rw [h]
theorem ih_mo_gt {T : ih_TT} (h : ih_Inv T) (hp : 0 < ih_pl T) {n : Nat} (hv : ¬ (ih_rt (ih_pn T n) : Int) ≤ (ih_mo T n).toInt) : ih_bi T n = n := by
  cases n with
  | zero => rfl
  | succ n =>
    have hb := ih_rt_le (ih_pn_I h hp (ih_bi T n)).1 (by rw [(ih_pn_I h hp (ih_bi T n)).2]; exact hp)
    have e : (ih_mo T (n + 1)).toInt = (ih_rt (ih_pn T (ih_bi T n)) : Int) := ih_t (by omega)
    rw [e] at hv
    rw [ih_bi, if_pos (by omega)]
theorem ih_mo_le {T : ih_TT} (h : ih_Inv T) (hp : 0 < ih_pl T) {n : Nat} (hv : (ih_rt (ih_pn T n) : Int) ≤ (ih_mo T n).toInt) : 0 < n ∧ ih_bi T n = ih_bi T (n - 1) ∧ ih_mo T n = ih_mo T (n + 1) := by
  cases n with
  | zero =>
    exfalso
    have e : (ih_mo T 0).toInt = -1 := rfl
    rw [e] at hv
    omega
  | succ n =>
    have hb := ih_rt_le (ih_pn_I h hp (ih_bi T n)).1 (by rw [(ih_pn_I h hp (ih_bi T n)).2]; exact hp)
    have e : (ih_mo T (n + 1)).toInt = (ih_rt (ih_pn T (ih_bi T n)) : Int) := ih_t (by omega)
    rw [e] at hv
    have e2 : ih_bi T (n + 1) = ih_bi T n := by rw [ih_bi, if_neg (by omega)]
    refine ⟨by omega, e2, ?_⟩
    show nI _ = nI (ih_rt (ih_pn T (ih_bi T (n + 1))))
    rw [e2]
set_option maxHeartbeats 4000000 in
set_option maxRecDepth 100000 in
theorem c_X8_best_open (l : Launch) (w : ih_Wd) (S : ih_Sg) (T : ih_TT) (hM : ih_RM S T) (hI : ih_Inv T) (Nn : Nat) (hNn : ih_N (ih_Ts T) = Nn) (hN1 : ∀ m, m < Nn → ¬ ih_q (ih_pn (ih_Ts T) m) = 0) (hN2 : ih_q (ih_pn (ih_Ts T) Nn) = 0) : ih_Ci l yX8_best wsX8_best 4 w ih_shM [.ref (w.2.2 0)] S (fun r S' => r = (sp_best T).1 ∧ ∃ Bq : Nat → Int32, ih_RM S' (ih_w8 (sp_best T).2 Bq)) := by
  refine ih_bodyi (ret := some .int) rfl rfl (Nat.le_of_ble_eq_true rfl) ?_
  intro x A hA C
  have C : ih_Ok x w A cX8_best 5 RX8 wsX8_best (ih_rm 4) (some .int) := C
  show ih_Mw x w ih_shM A (ih_Qi x w ih_shM A _) 5 0 0 0 [(0, .ref (w.2.2 0))] [] S
  obtain ⟨Q, hQ⟩ : ∃ Q, Q = ih_Qi x w ih_shM A (fun r S' => r = (sp_best T).1 ∧ ∃ Bq : Nat → Int32, ih_RM S' (ih_w8 (sp_best T).2 Bq)) := ⟨_, rfl⟩
  rw [show ih_Qi x w ih_shM A _ = Q from hQ.symm]
  have hpl9 : ih_pl T ≤ 9 := hI.2.2.1.2.1
  have hct : ih_ct T ≤ 12 := hI.2.1.2.1
  refine s_aload_n C 0 dX8_best_0 rfl ?_
  refine s_iconst (v := nI 0) C dX8_best_1 (by decide) ?_
  refine s_putI (ty := .int) C 8 0 tyX8 tyX8_ok nmX8 (by decide) rfl (by decide) rfl (fun _ h => List.mem_cons_of_mem _ (List.mem_append_right _ h)) (by decide) rfl (by decide +kernel) rfl (by decide +kernel) rfl rfl dX8_best_2 ?_
  refine m_hide hM rfl (fun S hM => ?_)
  refine s_aload_n C 0 dX8_best_5 rfl ?_
  refine s_getI C 8 7 (by decide) rfl (by decide) rfl (fun _ h => List.mem_cons_of_mem _ (List.mem_append_right _ h)) (by decide) rfl (by decide +kernel) dX8_best_6 ?_
  refine s_toe (b := nI (ih_pl T)) ((hM.2 _ _ rfl).trans hI.2.2.1.1) ?_
  refine s_if_eqN 21 C dX8_best_9 (by decide) (by omega) (fun h9 => ?_) (fun h9 => ?_)
  · refine s_ldc (v := (-1000002)) C (by decide +kernel) dX8_best_21 ?_
    rw [hQ]
    exact s_ireturn C hA dX8_best_23 (by rw [sp_best, if_pos (by omega)]; exact ⟨rfl, T 8, by rw [ih_w8_self]; exact hM⟩)
  · refine s_aload_n C 0 dX8_best_12 rfl ?_
    refine s_getI C 8 7 (by decide) rfl (by decide) rfl (fun _ h => List.mem_cons_of_mem _ (List.mem_append_right _ h)) (by decide) rfl (by decide +kernel) dX8_best_13 ?_
    refine s_toe (b := nI (ih_pl T)) ((hM.2 _ _ rfl).trans hI.2.2.1.1) ?_
    refine s_bipush (v := nI 6) C dX8_best_16 (by decide) ?_
    refine s_icmp_leN 24 C dX8_best_18 (by decide) (by omega) (by omega) (fun h18 => ?_) (fun h18 => ?_)
    · refine s_iconst (v := nI 0) C dX8_best_24 (by decide) ?_
      refine s_istore_n (lv' := [(1, .int (nI 0)), (0, .ref (w.2.2 0))]) C dX8_best_25 rfl (by decide) rfl ?_
      have hx_26 : ∀ S, ih_RM S (ih_so T (ih_pl T) (ih_pl T)) → ih_Mw x w ih_shM A Q 5 0 0 79 [(0, .ref (w.2.2 0))] [] S := by
        intro S hM
        refine s_iconst (v := (-1)) C dX8_best_79 (by decide) ?_
        obtain ⟨hIs, hps⟩ := ih_Ts_I hI
        have hps0 : 0 < ih_pl (ih_Ts T) := by omega
        refine s_toe (b := ih_mo (ih_Ts T) 0) rfl ?_
        refine s_istore_n (lv' := [(1, .int (ih_mo (ih_Ts T) 0)), (0, .ref (w.2.2 0))]) C dX8_best_80 rfl (by decide) rfl ?_
        refine s_iconst (v := nI 1) C dX8_best_81 (by decide) ?_
        refine s_istore_n (lv' := [(2, .int (nI 1)), (1, .int (ih_mo (ih_Ts T) 0)), (0, .ref (w.2.2 0))]) C dX8_best_82 rfl (by decide) rfl ?_
        have loop_83 : ∀ (fu n : Nat), n + fu = Nn → ∀ S, (∃ Bq : Nat → Int32, ih_RM S (ih_w8 (ih_pn (ih_Ts T) (n)) Bq) ∧ (0 < n → ∀ j, j < ih_pl T → Bq j = ih_pn (ih_Ts T) (ih_bi (ih_Ts T) (n - 1)) 5 j)) → ih_Mw x w ih_shM A Q 5 0 0 83 [(0, .ref (w.2.2 0)), (1, .int (ih_mo (ih_Ts T) (n))), (2, .int (nI 1))] [] S := by
          intro fu
          induction fu with
          | zero =>
            intro n hne S ⟨Bq, hM, hbq⟩
            have hn0 : n = Nn := by omega
            obtain ⟨hIn, hpn⟩ := ih_pn_I hIs hps0 n
            replace hpn : ih_pl (ih_pn (ih_Ts T) n) = ih_pl T := hpn.trans hps
            have hqn : ih_q (ih_pn (ih_Ts T) n) = 0 := by rw [hn0]; exact hN2
            refine s_iload_n C 2 dX8_best_83 rfl ?_
            refine s_if_eqN 139 C dX8_best_84 (by decide) (by omega) (fun h84 => ?_) (fun h84 => ?_)
            · exact absurd h84 (by decide)
            · refine s_aload_n C 0 dX8_best_87 rfl ?_
              refine s_callVi 0 C (c_X8_rateNow _ w _ _ hM (ih_w8_I hIn) (by rw [ih_w8_pl]; omega)) gX8_best_X8_rateNow rfl (by decide +kernel) (by decide) (by decide) (by decide) rfl (by decide) rfl rfl rfl (Nat.le_of_ble_eq_true rfl) dX8_best_88 ?_
              rintro rv S ⟨hrv, hM⟩
              rw [ih_w8_rt] at hrv
              subst hrv
              have hrb := ih_rt_le hIn (by omega)
              refine s_istore_n (lv' := [(3, .int (nI (ih_rt (ih_pn (ih_Ts T) n)))), (0, .ref (w.2.2 0)), (1, .int (ih_mo (ih_Ts T) (n))), (2, .int (nI 1))]) C dX8_best_91 rfl (by decide) rfl ?_
              refine s_iload_n C 0 dX8_best_92 rfl ?_
              refine s_iload_n C 2 dX8_best_93 rfl ?_
              refine s_icmp_le C 131 dX8_best_94 (by decide) (fun h94 => ?_) (fun h94 => ?_)
              · simp only [ih_lei, ih_lti, ih_t0, ih_t (n := ih_rt (ih_pn (ih_Ts T) n)) (by omega)] at h94
                obtain ⟨hnp, hbi, hmo⟩ := ih_mo_le hIs hps0 (n := n) h94
                rw [hmo]
                have hbe : ∀ j, j < ih_pl T → Bq j = ih_pn (ih_Ts T) (ih_bi (ih_Ts T) n) 5 j := fun j hj => by rw [hbi]; exact hbq hnp j hj
                refine s_aload_n C 1 dX8_best_131 rfl ?_
                refine s_callVi 0 C (c_X8_nextOrder _ w _ hM (ih_w8_I hIn) (by rw [ih_w8_pl]; omega)) gX8_best_X8_nextOrder rfl (by decide +kernel) (by decide) (by decide) (by decide) rfl (by decide) rfl rfl rfl (Nat.le_of_ble_eq_true rfl) dX8_best_132 ?_
                rintro rz S hrz
                rw [ih_w8_q, ih_w8_nxt] at hrz
                rcases hrz with ⟨hq0, rfl, hM⟩ | ⟨hq0, rfl, hM⟩
                · refine s_istore_n (lv' := [(2, .int (nI 0)), (3, .int (nI (ih_rt (ih_pn (ih_Ts T) n)))), (0, .ref (w.2.2 0)), (1, .int (ih_mo (ih_Ts T) (n + 1)))]) C dX8_best_135 rfl (by decide) rfl ?_
                  refine s_goto C 83 dX8_best_136 (by decide) ?_
                  refine s_iload_n C 0 dX8_best_83 rfl ?_
                  refine s_if_eqN 139 C dX8_best_84 (by decide) (by omega) (fun h84 => ?_) (fun h84 => ?_)
                  · refine s_iconst (v := nI 0) C dX8_best_139 (by decide) ?_
                    refine s_istore_n (lv' := [(3, .int (nI 0)), (2, .int (nI 0)), (0, .ref (w.2.2 0)), (1, .int (ih_mo (ih_Ts T) (n + 1)))]) C dX8_best_140 rfl (by decide) rfl ?_
                    have hx_141 : ∀ S, ih_RM S (ih_w8 (ih_cb (ih_pn (ih_Ts T) n) (ih_pn (ih_Ts T) (ih_bi (ih_Ts T) n)) (ih_pl T)) Bq) → ih_Mw x w ih_shM A Q 5 0 0 167 [(0, .ref (w.2.2 0)), (1, .int (ih_mo (ih_Ts T) (n + 1)))] [] S := by
                      intro S hM
                      refine s_iload_n C 1 dX8_best_167 rfl ?_
                      rw [hQ]
                      exact s_ireturn C hA dX8_best_168 (by rw [sp_best, if_neg (by omega), ih_bst_e (hNn.trans hn0.symm)]; dsimp only; refine ⟨ih_mo_s, Bq, ?_⟩; rw [← ih_cb_all hIs hps0 n (ih_bi (ih_Ts T) n), hps]; exact hM)
                    have loop_141 : ∀ (fu j : Nat), j + fu = ih_pl T → ∀ S, ih_RM S (ih_w8 (ih_cb (ih_pn (ih_Ts T) n) (ih_pn (ih_Ts T) (ih_bi (ih_Ts T) n)) (j)) Bq) → ih_Mw x w ih_shM A Q 5 0 0 141 [(0, .ref (w.2.2 0)), (1, .int (ih_mo (ih_Ts T) (n + 1))), (3, .int (nI j))] [] S := by
                      intro fu
                      induction fu with
                      | zero =>
                        intro j hje S hM
                        have hj0 : j = ih_pl T := by omega
                        refine s_iload_n C 2 dX8_best_141 rfl ?_
                        refine s_aload_n C 0 dX8_best_142 rfl ?_
                        refine s_getI C 8 7 (by decide) rfl (by decide) rfl (fun _ h => List.mem_cons_of_mem _ (List.mem_append_right _ h)) (by decide) rfl (by decide +kernel) dX8_best_143 ?_
                        refine s_toe (b := nI (ih_pl T)) ((hM.2 _ _ rfl).trans ((ih_cb_at _).trans ((if_neg (fun q => absurd q.1 (by decide))).trans (hIn.2.2.1.1.trans (congrArg nI hpn))))) ?_
                        refine s_icmp_geN 167 C dX8_best_146 (by decide) (by omega) (by omega) (fun h146 => ?_) (fun h146 => ?_)
                        · refine s_perm [0, 1] rfl ?_
                          subst hj0
                          exact hx_141 _ hM
                        · exfalso; omega
                      | succ fu ih_141 =>
                        intro j hje S hM
                        have hjl : j < ih_pl T := by omega
                        refine s_iload_n C 2 dX8_best_141 rfl ?_
                        refine s_aload_n C 0 dX8_best_142 rfl ?_
                        refine s_getI C 8 7 (by decide) rfl (by decide) rfl (fun _ h => List.mem_cons_of_mem _ (List.mem_append_right _ h)) (by decide) rfl (by decide +kernel) dX8_best_143 ?_
                        refine s_toe (b := nI (ih_pl T)) ((hM.2 _ _ rfl).trans ((ih_cb_at _).trans ((if_neg (fun q => absurd q.1 (by decide))).trans (hIn.2.2.1.1.trans (congrArg nI hpn))))) ?_
                        refine s_icmp_geN 167 C dX8_best_146 (by decide) (by omega) (by omega) (fun h146 => ?_) (fun h146 => ?_)
                        · exfalso; omega
                        · refine s_aload_n C 0 dX8_best_149 rfl ?_
                          refine s_getR C 8 8 (hM.1 _ _ _ rfl) (by decide) rfl (by decide) rfl (fun _ h => List.mem_cons_of_mem _ (List.mem_append_right _ h)) (by decide) rfl (by decide +kernel) dX8_best_150 ?_
                          refine s_iload_n C 2 dX8_best_153 rfl ?_
                          refine s_aload_n C 0 dX8_best_154 rfl ?_
                          refine s_getR C 8 11 (hM.1 _ _ _ rfl) (by decide) rfl (by decide) rfl (fun _ h => List.mem_cons_of_mem _ (List.mem_append_right _ h)) (by decide) rfl (by decide +kernel) dX8_best_155 ?_
                          refine s_iload_n C 2 dX8_best_158 rfl ?_
                          refine s_iaload C 9 (j) rfl rfl (by omega) (by decide) (by decide) rfl dX8_best_159 ?_
                          refine s_toe (b := ih_pn (ih_Ts T) (ih_bi (ih_Ts T) n) 5 j) ((hM.2 _ _ rfl).trans (hbe j (by omega))) ?_
                          refine s_iastore C 9 (j) rfl rfl (by omega) (by decide) (by decide) rfl dX8_best_160 ?_
                          refine m_w hM (fun S hM => ?_)
                          rw [ih_w8_5] at hM
                          refine s_iinc (u := nI (j + 1)) (lv' := [(3, .int (nI (j + 1))), (0, .ref (w.2.2 0)), (1, .int (ih_mo (ih_Ts T) (n + 1)))]) C 2 dX8_best_161 rfl (ih_incN (by decide)) (by decide) rfl ?_
                          refine s_goto C 141 dX8_best_164 (by decide) ?_
                          refine s_perm [1, 2, 0] rfl ?_
                          exact ih_141 (j + 1) (by omega) _ hM
                    refine s_perm [2, 3, 0] rfl ?_
                    exact loop_141 (ih_pl T) 0 (by omega) _ hM
                  · exact absurd h84 (by decide)
                · exfalso; omega
              · simp only [ih_lei, ih_lti, ih_t0, ih_t (n := ih_rt (ih_pn (ih_Ts T) n)) (by omega)] at h94
                have hbi := ih_mo_gt hIs hps0 (n := n) h94
                refine s_iload_n C 0 dX8_best_97 rfl ?_
                refine s_toe (b := ih_mo (ih_Ts T) (n + 1)) (by show _ = nI (ih_rt (ih_pn (ih_Ts T) (ih_bi (ih_Ts T) n))); rw [hbi]) ?_
                refine s_istore_n (lv' := [(1, .int (ih_mo (ih_Ts T) (n + 1))), (3, .int (nI (ih_rt (ih_pn (ih_Ts T) n)))), (0, .ref (w.2.2 0)), (2, .int (nI 1))]) C dX8_best_98 rfl (by decide) rfl ?_
                refine s_iconst (v := nI 0) C dX8_best_99 (by decide) ?_
                refine s_istore (lv' := [(4, .int (nI 0)), (1, .int (ih_mo (ih_Ts T) (n + 1))), (3, .int (nI (ih_rt (ih_pn (ih_Ts T) n)))), (0, .ref (w.2.2 0)), (2, .int (nI 1))]) C dX8_best_100 (by decide) rfl ?_
                have hx_102 : ∀ S, (∃ Bq : Nat → Int32, ih_RM S (ih_w8 (ih_pn (ih_Ts T) n) Bq) ∧ (∀ i, i < ih_pl T → Bq i = (ih_pn (ih_Ts T) n) 5 i)) → ih_Mw x w ih_shM A Q 5 0 0 131 [(0, .ref (w.2.2 0)), (1, .int (ih_mo (ih_Ts T) (n + 1))), (2, .int (nI 1))] [] S := by
                  intro S ⟨Bq, hM, hbw⟩
                  have hbe : ∀ j, j < ih_pl T → Bq j = ih_pn (ih_Ts T) (ih_bi (ih_Ts T) n) 5 j := fun j hj => by rw [hbi]; exact hbw j hj
                  refine s_aload_n C 0 dX8_best_131 rfl ?_
                  refine s_callVi 0 C (c_X8_nextOrder _ w _ hM (ih_w8_I hIn) (by rw [ih_w8_pl]; omega)) gX8_best_X8_nextOrder rfl (by decide +kernel) (by decide) (by decide) (by decide) rfl (by decide) rfl rfl rfl (Nat.le_of_ble_eq_true rfl) dX8_best_132 ?_
                  rintro rz S hrz
                  rw [ih_w8_q, ih_w8_nxt] at hrz
                  rcases hrz with ⟨hq0, rfl, hM⟩ | ⟨hq0, rfl, hM⟩
                  · refine s_istore_n (lv' := [(2, .int (nI 0)), (0, .ref (w.2.2 0)), (1, .int (ih_mo (ih_Ts T) (n + 1)))]) C dX8_best_135 rfl (by decide) rfl ?_
                    refine s_goto C 83 dX8_best_136 (by decide) ?_
                    refine s_iload_n C 0 dX8_best_83 rfl ?_
                    refine s_if_eqN 139 C dX8_best_84 (by decide) (by omega) (fun h84 => ?_) (fun h84 => ?_)
                    · refine s_iconst (v := nI 0) C dX8_best_139 (by decide) ?_
                      refine s_istore_n (lv' := [(3, .int (nI 0)), (2, .int (nI 0)), (0, .ref (w.2.2 0)), (1, .int (ih_mo (ih_Ts T) (n + 1)))]) C dX8_best_140 rfl (by decide) rfl ?_
                      have hx_141 : ∀ S, ih_RM S (ih_w8 (ih_cb (ih_pn (ih_Ts T) n) (ih_pn (ih_Ts T) (ih_bi (ih_Ts T) n)) (ih_pl T)) Bq) → ih_Mw x w ih_shM A Q 5 0 0 167 [(0, .ref (w.2.2 0)), (1, .int (ih_mo (ih_Ts T) (n + 1)))] [] S := by
                        intro S hM
                        refine s_iload_n C 1 dX8_best_167 rfl ?_
                        rw [hQ]
                        exact s_ireturn C hA dX8_best_168 (by rw [sp_best, if_neg (by omega), ih_bst_e (hNn.trans hn0.symm)]; dsimp only; refine ⟨ih_mo_s, Bq, ?_⟩; rw [← ih_cb_all hIs hps0 n (ih_bi (ih_Ts T) n), hps]; exact hM)
                      have loop_141 : ∀ (fu j : Nat), j + fu = ih_pl T → ∀ S, ih_RM S (ih_w8 (ih_cb (ih_pn (ih_Ts T) n) (ih_pn (ih_Ts T) (ih_bi (ih_Ts T) n)) (j)) Bq) → ih_Mw x w ih_shM A Q 5 0 0 141 [(0, .ref (w.2.2 0)), (1, .int (ih_mo (ih_Ts T) (n + 1))), (3, .int (nI j))] [] S := by
                        intro fu
                        induction fu with
                        | zero =>
                          intro j hje S hM
                          have hj0 : j = ih_pl T := by omega
                          refine s_iload_n C 2 dX8_best_141 rfl ?_
                          refine s_aload_n C 0 dX8_best_142 rfl ?_
                          refine s_getI C 8 7 (by decide) rfl (by decide) rfl (fun _ h => List.mem_cons_of_mem _ (List.mem_append_right _ h)) (by decide) rfl (by decide +kernel) dX8_best_143 ?_
                          refine s_toe (b := nI (ih_pl T)) ((hM.2 _ _ rfl).trans ((ih_cb_at _).trans ((if_neg (fun q => absurd q.1 (by decide))).trans (hIn.2.2.1.1.trans (congrArg nI hpn))))) ?_
                          refine s_icmp_geN 167 C dX8_best_146 (by decide) (by omega) (by omega) (fun h146 => ?_) (fun h146 => ?_)
                          · refine s_perm [0, 1] rfl ?_
                            subst hj0
                            exact hx_141 _ hM
                          · exfalso; omega
                        | succ fu ih_141 =>
                          intro j hje S hM
                          have hjl : j < ih_pl T := by omega
                          refine s_iload_n C 2 dX8_best_141 rfl ?_
                          refine s_aload_n C 0 dX8_best_142 rfl ?_
                          refine s_getI C 8 7 (by decide) rfl (by decide) rfl (fun _ h => List.mem_cons_of_mem _ (List.mem_append_right _ h)) (by decide) rfl (by decide +kernel) dX8_best_143 ?_
                          refine s_toe (b := nI (ih_pl T)) ((hM.2 _ _ rfl).trans ((ih_cb_at _).trans ((if_neg (fun q => absurd q.1 (by decide))).trans (hIn.2.2.1.1.trans (congrArg nI hpn))))) ?_
                          refine s_icmp_geN 167 C dX8_best_146 (by decide) (by omega) (by omega) (fun h146 => ?_) (fun h146 => ?_)
                          · exfalso; omega
                          · refine s_aload_n C 0 dX8_best_149 rfl ?_
                            refine s_getR C 8 8 (hM.1 _ _ _ rfl) (by decide) rfl (by decide) rfl (fun _ h => List.mem_cons_of_mem _ (List.mem_append_right _ h)) (by decide) rfl (by decide +kernel) dX8_best_150 ?_
                            refine s_iload_n C 2 dX8_best_153 rfl ?_
                            refine s_aload_n C 0 dX8_best_154 rfl ?_
                            refine s_getR C 8 11 (hM.1 _ _ _ rfl) (by decide) rfl (by decide) rfl (fun _ h => List.mem_cons_of_mem _ (List.mem_append_right _ h)) (by decide) rfl (by decide +kernel) dX8_best_155 ?_
                            refine s_iload_n C 2 dX8_best_158 rfl ?_
                            refine s_iaload C 9 (j) rfl rfl (by omega) (by decide) (by decide) rfl dX8_best_159 ?_
                            refine s_toe (b := ih_pn (ih_Ts T) (ih_bi (ih_Ts T) n) 5 j) ((hM.2 _ _ rfl).trans (hbe j (by omega))) ?_
                            refine s_iastore C 9 (j) rfl rfl (by omega) (by decide) (by decide) rfl dX8_best_160 ?_
                            refine m_w hM (fun S hM => ?_)
                            rw [ih_w8_5] at hM
                            refine s_iinc (u := nI (j + 1)) (lv' := [(3, .int (nI (j + 1))), (0, .ref (w.2.2 0)), (1, .int (ih_mo (ih_Ts T) (n + 1)))]) C 2 dX8_best_161 rfl (ih_incN (by decide)) (by decide) rfl ?_
                            refine s_goto C 141 dX8_best_164 (by decide) ?_
                            refine s_perm [1, 2, 0] rfl ?_
                            exact ih_141 (j + 1) (by omega) _ hM
                      refine s_perm [2, 3, 0] rfl ?_
                      exact loop_141 (ih_pl T) 0 (by omega) _ hM
                    · exact absurd h84 (by decide)
                  · exfalso; omega
                have loop_102 : ∀ (fu j : Nat), j + fu = ih_pl T → ∀ S, (∃ Bq : Nat → Int32, ih_RM S (ih_w8 (ih_pn (ih_Ts T) n) Bq) ∧ (∀ i, i < j → Bq i = (ih_pn (ih_Ts T) n) 5 i)) → ih_Mw x w ih_shM A Q 5 0 0 102 [(0, .ref (w.2.2 0)), (1, .int (ih_mo (ih_Ts T) (n + 1))), (2, .int (nI 1)), (4, .int (nI j))] [] S := by
                  intro fu
                  induction fu with
                  | zero =>
                    intro j hje S ⟨Bq, hM, hbw⟩
                    have hj0 : j = ih_pl T := by omega
                    refine s_iload C 3 dX8_best_102 rfl ?_
                    refine s_aload_n C 0 dX8_best_104 rfl ?_
                    refine s_getI C 8 7 (by decide) rfl (by decide) rfl (fun _ h => List.mem_cons_of_mem _ (List.mem_append_right _ h)) (by decide) rfl (by decide +kernel) dX8_best_105 ?_
                    refine s_toe (b := nI (ih_pl T)) ((hM.2 _ _ rfl).trans (hIn.2.2.1.1.trans (congrArg nI hpn))) ?_
                    refine s_icmp_geN 131 C dX8_best_108 (by decide) (by omega) (by omega) (fun h108 => ?_) (fun h108 => ?_)
                    · refine s_perm [0, 1, 2] rfl ?_
                      subst hj0
                      exact hx_102 _ ⟨Bq, hM, hbw⟩
                    · exfalso; omega
                  | succ fu ih_102 =>
                    intro j hje S ⟨Bq, hM, hbw⟩
                    have hjl : j < ih_pl T := by omega
                    refine s_iload C 3 dX8_best_102 rfl ?_
                    refine s_aload_n C 0 dX8_best_104 rfl ?_
                    refine s_getI C 8 7 (by decide) rfl (by decide) rfl (fun _ h => List.mem_cons_of_mem _ (List.mem_append_right _ h)) (by decide) rfl (by decide +kernel) dX8_best_105 ?_
                    refine s_toe (b := nI (ih_pl T)) ((hM.2 _ _ rfl).trans (hIn.2.2.1.1.trans (congrArg nI hpn))) ?_
                    refine s_icmp_geN 131 C dX8_best_108 (by decide) (by omega) (by omega) (fun h108 => ?_) (fun h108 => ?_)
                    · exfalso; omega
                    · refine s_aload_n C 0 dX8_best_111 rfl ?_
                      refine s_getR C 8 11 (hM.1 _ _ _ rfl) (by decide) rfl (by decide) rfl (fun _ h => List.mem_cons_of_mem _ (List.mem_append_right _ h)) (by decide) rfl (by decide +kernel) dX8_best_112 ?_
                      refine s_iload C 3 dX8_best_115 rfl ?_
                      refine s_aload_n C 0 dX8_best_117 rfl ?_
                      refine s_getR C 8 8 (hM.1 _ _ _ rfl) (by decide) rfl (by decide) rfl (fun _ h => List.mem_cons_of_mem _ (List.mem_append_right _ h)) (by decide) rfl (by decide +kernel) dX8_best_118 ?_
                      refine s_iload C 3 dX8_best_121 rfl ?_
                      refine s_iaload C 9 (j) rfl rfl (by omega) (by decide) (by decide) rfl dX8_best_123 ?_
                      refine s_toe (b := (ih_pn (ih_Ts T) n) 5 j) (hM.2 _ _ rfl) ?_
                      refine s_iastore C 9 (j) rfl rfl (by omega) (by decide) (by decide) rfl dX8_best_124 ?_
                      refine m_w hM (fun S hM => ?_)
                      rw [ih_w8_8] at hM
                      refine s_iinc (u := nI (j + 1)) (lv' := [(4, .int (nI (j + 1))), (0, .ref (w.2.2 0)), (1, .int (ih_mo (ih_Ts T) (n + 1))), (2, .int (nI 1))]) C 3 dX8_best_125 rfl (ih_incN (by decide)) (by decide) rfl ?_
                      refine s_goto C 102 dX8_best_128 (by decide) ?_
                      refine s_perm [1, 2, 3, 0] rfl ?_
                      refine ih_102 (j + 1) (by omega) _ ⟨_, hM, fun i hi => ?_⟩
                      by_cases he : i = j
                      · subst he; exact if_pos rfl
                      · exact (if_neg he).trans (hbw i (by omega))
                refine s_perm [3, 1, 4, 0] rfl ?_
                exact loop_102 (ih_pl T) 0 (by omega) _ ⟨_, hM, fun i hi => absurd hi (Nat.not_lt_zero i)⟩
          | succ fu ih_83 =>
            intro n hne S ⟨Bq, hM, hbq⟩
            have hnl : n < Nn := by omega
            obtain ⟨hIn, hpn⟩ := ih_pn_I hIs hps0 n
            replace hpn : ih_pl (ih_pn (ih_Ts T) n) = ih_pl T := hpn.trans hps
            have hqn : ¬ ih_q (ih_pn (ih_Ts T) n) = 0 := hN1 n (by omega)
            refine s_iload_n C 2 dX8_best_83 rfl ?_
            refine s_if_eqN 139 C dX8_best_84 (by decide) (by omega) (fun h84 => ?_) (fun h84 => ?_)
            · exact absurd h84 (by decide)
            · refine s_aload_n C 0 dX8_best_87 rfl ?_
              refine s_callVi 0 C (c_X8_rateNow _ w _ _ hM (ih_w8_I hIn) (by rw [ih_w8_pl]; omega)) gX8_best_X8_rateNow rfl (by decide +kernel) (by decide) (by decide) (by decide) rfl (by decide) rfl rfl rfl (Nat.le_of_ble_eq_true rfl) dX8_best_88 ?_
              rintro rv S ⟨hrv, hM⟩
              rw [ih_w8_rt] at hrv
              subst hrv
              have hrb := ih_rt_le hIn (by omega)
              refine s_istore_n (lv' := [(3, .int (nI (ih_rt (ih_pn (ih_Ts T) n)))), (0, .ref (w.2.2 0)), (1, .int (ih_mo (ih_Ts T) (n))), (2, .int (nI 1))]) C dX8_best_91 rfl (by decide) rfl ?_
              refine s_iload_n C 0 dX8_best_92 rfl ?_
              refine s_iload_n C 2 dX8_best_93 rfl ?_
              refine s_icmp_le C 131 dX8_best_94 (by decide) (fun h94 => ?_) (fun h94 => ?_)
              · simp only [ih_lei, ih_lti, ih_t0, ih_t (n := ih_rt (ih_pn (ih_Ts T) n)) (by omega)] at h94
                obtain ⟨hnp, hbi, hmo⟩ := ih_mo_le hIs hps0 (n := n) h94
                rw [hmo]
                have hbe : ∀ j, j < ih_pl T → Bq j = ih_pn (ih_Ts T) (ih_bi (ih_Ts T) n) 5 j := fun j hj => by rw [hbi]; exact hbq hnp j hj
                refine s_aload_n C 1 dX8_best_131 rfl ?_
                refine s_callVi 0 C (c_X8_nextOrder _ w _ hM (ih_w8_I hIn) (by rw [ih_w8_pl]; omega)) gX8_best_X8_nextOrder rfl (by decide +kernel) (by decide) (by decide) (by decide) rfl (by decide) rfl rfl rfl (Nat.le_of_ble_eq_true rfl) dX8_best_132 ?_
                rintro rz S hrz
                rw [ih_w8_q, ih_w8_nxt] at hrz
                rcases hrz with ⟨hq0, rfl, hM⟩ | ⟨hq0, rfl, hM⟩
                · exact absurd hq0 hqn
                · refine s_istore_n (lv' := [(2, .int (nI 1)), (3, .int (nI (ih_rt (ih_pn (ih_Ts T) n)))), (0, .ref (w.2.2 0)), (1, .int (ih_mo (ih_Ts T) (n + 1)))]) C dX8_best_135 rfl (by decide) rfl ?_
                  refine s_goto C 83 dX8_best_136 (by decide) ?_
                  refine s_perm [2, 3, 0] rfl ?_
                  exact ih_83 (n + 1) (by omega) _ ⟨Bq, hM, fun _ j hj => hbe j hj⟩
              · simp only [ih_lei, ih_lti, ih_t0, ih_t (n := ih_rt (ih_pn (ih_Ts T) n)) (by omega)] at h94
                have hbi := ih_mo_gt hIs hps0 (n := n) h94
                refine s_iload_n C 0 dX8_best_97 rfl ?_
                refine s_toe (b := ih_mo (ih_Ts T) (n + 1)) (by show _ = nI (ih_rt (ih_pn (ih_Ts T) (ih_bi (ih_Ts T) n))); rw [hbi]) ?_
                refine s_istore_n (lv' := [(1, .int (ih_mo (ih_Ts T) (n + 1))), (3, .int (nI (ih_rt (ih_pn (ih_Ts T) n)))), (0, .ref (w.2.2 0)), (2, .int (nI 1))]) C dX8_best_98 rfl (by decide) rfl ?_
                refine s_iconst (v := nI 0) C dX8_best_99 (by decide) ?_
                refine s_istore (lv' := [(4, .int (nI 0)), (1, .int (ih_mo (ih_Ts T) (n + 1))), (3, .int (nI (ih_rt (ih_pn (ih_Ts T) n)))), (0, .ref (w.2.2 0)), (2, .int (nI 1))]) C dX8_best_100 (by decide) rfl ?_
                have hx_102 : ∀ S, (∃ Bq : Nat → Int32, ih_RM S (ih_w8 (ih_pn (ih_Ts T) n) Bq) ∧ (∀ i, i < ih_pl T → Bq i = (ih_pn (ih_Ts T) n) 5 i)) → ih_Mw x w ih_shM A Q 5 0 0 131 [(0, .ref (w.2.2 0)), (1, .int (ih_mo (ih_Ts T) (n + 1))), (2, .int (nI 1))] [] S := by
                  intro S ⟨Bq, hM, hbw⟩
                  have hbe : ∀ j, j < ih_pl T → Bq j = ih_pn (ih_Ts T) (ih_bi (ih_Ts T) n) 5 j := fun j hj => by rw [hbi]; exact hbw j hj
                  refine s_aload_n C 0 dX8_best_131 rfl ?_
                  refine s_callVi 0 C (c_X8_nextOrder _ w _ hM (ih_w8_I hIn) (by rw [ih_w8_pl]; omega)) gX8_best_X8_nextOrder rfl (by decide +kernel) (by decide) (by decide) (by decide) rfl (by decide) rfl rfl rfl (Nat.le_of_ble_eq_true rfl) dX8_best_132 ?_
                  rintro rz S hrz
                  rw [ih_w8_q, ih_w8_nxt] at hrz
                  rcases hrz with ⟨hq0, rfl, hM⟩ | ⟨hq0, rfl, hM⟩
                  · exact absurd hq0 hqn
                  · refine s_istore_n (lv' := [(2, .int (nI 1)), (0, .ref (w.2.2 0)), (1, .int (ih_mo (ih_Ts T) (n + 1)))]) C dX8_best_135 rfl (by decide) rfl ?_
                    refine s_goto C 83 dX8_best_136 (by decide) ?_
                    refine s_perm [1, 2, 0] rfl ?_
                    exact ih_83 (n + 1) (by omega) _ ⟨Bq, hM, fun _ j hj => hbe j hj⟩
                have loop_102 : ∀ (fu j : Nat), j + fu = ih_pl T → ∀ S, (∃ Bq : Nat → Int32, ih_RM S (ih_w8 (ih_pn (ih_Ts T) n) Bq) ∧ (∀ i, i < j → Bq i = (ih_pn (ih_Ts T) n) 5 i)) → ih_Mw x w ih_shM A Q 5 0 0 102 [(0, .ref (w.2.2 0)), (1, .int (ih_mo (ih_Ts T) (n + 1))), (2, .int (nI 1)), (4, .int (nI j))] [] S := by
                  intro fu
                  induction fu with
                  | zero =>
                    intro j hje S ⟨Bq, hM, hbw⟩
                    have hj0 : j = ih_pl T := by omega
                    refine s_iload C 3 dX8_best_102 rfl ?_
                    refine s_aload_n C 0 dX8_best_104 rfl ?_
                    refine s_getI C 8 7 (by decide) rfl (by decide) rfl (fun _ h => List.mem_cons_of_mem _ (List.mem_append_right _ h)) (by decide) rfl (by decide +kernel) dX8_best_105 ?_
                    refine s_toe (b := nI (ih_pl T)) ((hM.2 _ _ rfl).trans (hIn.2.2.1.1.trans (congrArg nI hpn))) ?_
                    refine s_icmp_geN 131 C dX8_best_108 (by decide) (by omega) (by omega) (fun h108 => ?_) (fun h108 => ?_)
                    · refine s_perm [0, 1, 2] rfl ?_
                      subst hj0
                      exact hx_102 _ ⟨Bq, hM, hbw⟩
                    · exfalso; omega
                  | succ fu ih_102 =>
                    intro j hje S ⟨Bq, hM, hbw⟩
                    have hjl : j < ih_pl T := by omega
                    refine s_iload C 3 dX8_best_102 rfl ?_
                    refine s_aload_n C 0 dX8_best_104 rfl ?_
                    refine s_getI C 8 7 (by decide) rfl (by decide) rfl (fun _ h => List.mem_cons_of_mem _ (List.mem_append_right _ h)) (by decide) rfl (by decide +kernel) dX8_best_105 ?_
                    refine s_toe (b := nI (ih_pl T)) ((hM.2 _ _ rfl).trans (hIn.2.2.1.1.trans (congrArg nI hpn))) ?_
                    refine s_icmp_geN 131 C dX8_best_108 (by decide) (by omega) (by omega) (fun h108 => ?_) (fun h108 => ?_)
                    · exfalso; omega
                    · refine s_aload_n C 0 dX8_best_111 rfl ?_
                      refine s_getR C 8 11 (hM.1 _ _ _ rfl) (by decide) rfl (by decide) rfl (fun _ h => List.mem_cons_of_mem _ (List.mem_append_right _ h)) (by decide) rfl (by decide +kernel) dX8_best_112 ?_
                      refine s_iload C 3 dX8_best_115 rfl ?_
                      refine s_aload_n C 0 dX8_best_117 rfl ?_
                      refine s_getR C 8 8 (hM.1 _ _ _ rfl) (by decide) rfl (by decide) rfl (fun _ h => List.mem_cons_of_mem _ (List.mem_append_right _ h)) (by decide) rfl (by decide +kernel) dX8_best_118 ?_
                      refine s_iload C 3 dX8_best_121 rfl ?_
                      refine s_iaload C 9 (j) rfl rfl (by omega) (by decide) (by decide) rfl dX8_best_123 ?_
                      refine s_toe (b := (ih_pn (ih_Ts T) n) 5 j) (hM.2 _ _ rfl) ?_
                      refine s_iastore C 9 (j) rfl rfl (by omega) (by decide) (by decide) rfl dX8_best_124 ?_
                      refine m_w hM (fun S hM => ?_)
                      rw [ih_w8_8] at hM
                      refine s_iinc (u := nI (j + 1)) (lv' := [(4, .int (nI (j + 1))), (0, .ref (w.2.2 0)), (1, .int (ih_mo (ih_Ts T) (n + 1))), (2, .int (nI 1))]) C 3 dX8_best_125 rfl (ih_incN (by decide)) (by decide) rfl ?_
                      refine s_goto C 102 dX8_best_128 (by decide) ?_
                      refine s_perm [1, 2, 3, 0] rfl ?_
                      refine ih_102 (j + 1) (by omega) _ ⟨_, hM, fun i hi => ?_⟩
                      by_cases he : i = j
                      · subst he; exact if_pos rfl
                      · exact (if_neg he).trans (hbw i (by omega))
                refine s_perm [3, 1, 4, 0] rfl ?_
                exact loop_102 (ih_pl T) 0 (by omega) _ ⟨_, hM, fun i hi => absurd hi (Nat.not_lt_zero i)⟩
        refine s_perm [2, 1, 0] rfl ?_
        exact loop_83 Nn 0 (by omega) _ ⟨ih_Ts T 8, by show ih_RM S (ih_w8 (ih_Ts T) (ih_Ts T 8)); rw [ih_w8_self]; exact hM, fun h => absurd h (Nat.lt_irrefl 0)⟩
      have loop_26 : ∀ (fu a : Nat), a + fu = ih_pl T → ∀ S, ih_RM S (ih_so T (ih_pl T) (a)) → ih_Mw x w ih_shM A Q 5 0 0 26 [(0, .ref (w.2.2 0)), (1, .int (nI a))] [] S := by
        intro fu
        induction fu with
        | zero =>
          intro a hae S hM
          have ha0 : a = ih_pl T := by omega
          obtain ⟨hIa, hpa⟩ := ih_so_I hI a (by omega)
          refine s_iload_n C 1 dX8_best_26 rfl ?_
          refine s_aload_n C 0 dX8_best_27 rfl ?_
          refine s_getI C 8 7 (by decide) rfl (by decide) rfl (fun _ h => List.mem_cons_of_mem _ (List.mem_append_right _ h)) (by decide) rfl (by decide +kernel) dX8_best_28 ?_
          refine s_toe (b := nI (ih_pl T)) ((hM.2 _ _ rfl).trans (hIa.2.2.1.1.trans (congrArg nI hpa))) ?_
          refine s_icmp_geN 79 C dX8_best_31 (by decide) (by omega) (by omega) (fun h31 => ?_) (fun h31 => ?_)
          · refine s_perm [0] rfl ?_
            subst ha0
            exact hx_26 _ hM
          · exfalso; omega
        | succ fu ih_26 =>
          intro a hae S hM
          have hal : a < ih_pl T := by omega
          obtain ⟨hIa, hpa⟩ := ih_so_I hI a (by omega)
          refine s_iload_n C 1 dX8_best_26 rfl ?_
          refine s_aload_n C 0 dX8_best_27 rfl ?_
          refine s_getI C 8 7 (by decide) rfl (by decide) rfl (fun _ h => List.mem_cons_of_mem _ (List.mem_append_right _ h)) (by decide) rfl (by decide +kernel) dX8_best_28 ?_
          refine s_toe (b := nI (ih_pl T)) ((hM.2 _ _ rfl).trans (hIa.2.2.1.1.trans (congrArg nI hpa))) ?_
          refine s_icmp_geN 79 C dX8_best_31 (by decide) (by omega) (by omega) (fun h31 => ?_) (fun h31 => ?_)
          · exfalso; omega
          · refine s_iload_n C 1 dX8_best_34 rfl ?_
            refine s_iconst (v := nI 1) C dX8_best_35 (by decide) ?_
            refine s_iaddN C dX8_best_36 ?_
            refine s_istore_n (lv' := [(2, .int (nI (a + 1))), (0, .ref (w.2.2 0)), (1, .int (nI a))]) C dX8_best_37 rfl (by decide) rfl ?_
            have hx_38 : ∀ S, ih_RM S (ih_si (ih_so T (ih_pl T) a) a (ih_pl T - (a + 1))) ∧ a < ih_pl T → ih_Mw x w ih_shM A Q 5 0 0 73 [(0, .ref (w.2.2 0)), (1, .int (nI a))] [] S := by
              intro S ⟨hM, hab⟩
              refine s_iinc (u := nI (a + 1)) (lv' := [(1, .int (nI (a + 1))), (0, .ref (w.2.2 0))]) C 1 dX8_best_73 rfl (ih_incN (by decide)) (by decide) rfl ?_
              refine s_goto C 26 dX8_best_76 (by decide) ?_
              refine s_perm [1, 0] rfl ?_
              exact ih_26 (a + 1) (by omega) _ hM
            have loop_38 : ∀ (fu b : Nat), b + fu = ih_pl T → ∀ S, ih_RM S (ih_si (ih_so T (ih_pl T) a) a (b - (a + 1))) ∧ a < b → ih_Mw x w ih_shM A Q 5 0 0 38 [(0, .ref (w.2.2 0)), (1, .int (nI a)), (2, .int (nI b))] [] S := by
              intro fu
              induction fu with
              | zero =>
                intro b hbe S ⟨hM, hab⟩
                have hb0 : b = ih_pl T := by omega
                obtain ⟨hIb, hpb⟩ := ih_si_I hIa (a := a) (by omega) (b - (a + 1)) (by omega)
                rw [hpa] at hpb
                refine s_iload_n C 2 dX8_best_38 rfl ?_
                refine s_aload_n C 0 dX8_best_39 rfl ?_
                refine s_getI C 8 7 (by decide) rfl (by decide) rfl (fun _ h => List.mem_cons_of_mem _ (List.mem_append_right _ h)) (by decide) rfl (by decide +kernel) dX8_best_40 ?_
                refine s_toe (b := nI (ih_pl T)) ((hM.2 _ _ rfl).trans (hIb.2.2.1.1.trans (congrArg nI hpb))) ?_
                refine s_icmp_geN 73 C dX8_best_43 (by decide) (by omega) (by omega) (fun h43 => ?_) (fun h43 => ?_)
                · refine s_perm [0, 1] rfl ?_
                  subst hb0
                  exact hx_38 _ ⟨hM, hab⟩
                · exfalso; omega
              | succ fu ih_38 =>
                intro b hbe S ⟨hM, hab⟩
                have hbl : b < ih_pl T := by omega
                obtain ⟨hIb, hpb⟩ := ih_si_I hIa (a := a) (by omega) (b - (a + 1)) (by omega)
                rw [hpa] at hpb
                refine s_iload_n C 2 dX8_best_38 rfl ?_
                refine s_aload_n C 0 dX8_best_39 rfl ?_
                refine s_getI C 8 7 (by decide) rfl (by decide) rfl (fun _ h => List.mem_cons_of_mem _ (List.mem_append_right _ h)) (by decide) rfl (by decide +kernel) dX8_best_40 ?_
                refine s_toe (b := nI (ih_pl T)) ((hM.2 _ _ rfl).trans (hIb.2.2.1.1.trans (congrArg nI hpb))) ?_
                refine s_icmp_geN 73 C dX8_best_43 (by decide) (by omega) (by omega) (fun h43 => ?_) (fun h43 => ?_)
                · exfalso; omega
                · refine s_aload_n C 0 dX8_best_46 rfl ?_
                  refine s_getR C 8 8 (hM.1 _ _ _ rfl) (by decide) rfl (by decide) rfl (fun _ h => List.mem_cons_of_mem _ (List.mem_append_right _ h)) (by decide) rfl (by decide +kernel) dX8_best_47 ?_
                  refine s_iload_n C 2 dX8_best_50 rfl ?_
                  refine s_iaload C 9 (b) rfl rfl (by omega) (by decide) (by decide) rfl dX8_best_51 ?_
                  refine s_toe (b := nI (ih_or (ih_si (ih_so T (ih_pl T) a) a (b - (a + 1))) (b))) ((hM.2 _ _ rfl).trans (hIb.2.2.1.2.2 (b) (by omega)).1) ?_
                  have hob51 := (hIb.2.2.1.2.2 (b) (by omega)).2
                  have hct51 := hIb.2.1.2.1
                  refine s_aload_n C 0 dX8_best_52 rfl ?_
                  refine s_getR C 8 8 (hM.1 _ _ _ rfl) (by decide) rfl (by decide) rfl (fun _ h => List.mem_cons_of_mem _ (List.mem_append_right _ h)) (by decide) rfl (by decide +kernel) dX8_best_53 ?_
                  refine s_iload_n C 1 dX8_best_56 rfl ?_
                  refine s_iaload C 9 (a) rfl rfl (by omega) (by decide) (by decide) rfl dX8_best_57 ?_
                  refine s_toe (b := nI (ih_or (ih_si (ih_so T (ih_pl T) a) a (b - (a + 1))) (a))) ((hM.2 _ _ rfl).trans (hIb.2.2.1.2.2 (a) (by omega)).1) ?_
                  have hob57 := (hIb.2.2.1.2.2 (a) (by omega)).2
                  have hct57 := hIb.2.1.2.1
                  refine s_icmp_geN 67 C dX8_best_58 (by decide) (by omega) (by omega) (fun h58 => ?_) (fun h58 => ?_)
                  · refine s_iinc (u := nI (b + 1)) (lv' := [(2, .int (nI (b + 1))), (0, .ref (w.2.2 0)), (1, .int (nI a))]) C 2 dX8_best_67 rfl (ih_incN (by decide)) (by decide) rfl ?_
                    refine s_goto C 38 dX8_best_70 (by decide) ?_
                    refine s_perm [1, 2, 0] rfl ?_
                    exact ih_38 (b + 1) (by omega) _ ⟨by rw [ih_si_s hab, ih_sb1]; first | (rw [if_pos (by omega)]; exact hM) | (rw [if_neg (by omega)]; exact hM), by omega⟩
                  · refine s_aload_n C 0 dX8_best_61 rfl ?_
                    refine s_iload_n C 1 dX8_best_62 rfl ?_
                    refine s_iload_n C 2 dX8_best_63 rfl ?_
                    refine s_callVv 2 C (c_X8_exchange _ w _ hM a b (by omega) (by omega)) gX8_best_X8_exchange rfl (by decide +kernel) (by decide) (by decide) (by decide) rfl (by decide) rfl rfl rfl (Nat.le_of_ble_eq_true rfl) dX8_best_64 ?_
                    rintro S hM
                    refine s_iinc (u := nI (b + 1)) (lv' := [(2, .int (nI (b + 1))), (0, .ref (w.2.2 0)), (1, .int (nI a))]) C 2 dX8_best_67 rfl (ih_incN (by decide)) (by decide) rfl ?_
                    refine s_goto C 38 dX8_best_70 (by decide) ?_
                    refine s_perm [1, 2, 0] rfl ?_
                    exact ih_38 (b + 1) (by omega) _ ⟨by rw [ih_si_s hab, ih_sb1]; first | (rw [if_pos (by omega)]; exact hM) | (rw [if_neg (by omega)]; exact hM), by omega⟩
            refine s_perm [1, 2, 0] rfl ?_
            exact loop_38 (ih_pl T - (a + 1)) (a + 1) (by omega) _ ⟨by rw [Nat.sub_self]; exact hM, by omega⟩
      refine s_perm [1, 0] rfl ?_
      exact loop_26 (ih_pl T) 0 (by omega) _ hM
    · refine s_ldc (v := (-1000002)) C (by decide +kernel) dX8_best_21 ?_
      rw [hQ]
      exact s_ireturn C hA dX8_best_23 (by rw [sp_best, if_pos (by omega)]; exact ⟨rfl, T 8, by rw [ih_w8_self]; exact hM⟩)

