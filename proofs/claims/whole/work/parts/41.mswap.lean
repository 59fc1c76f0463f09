/-- the first number below n with p, else n -/
def ih_fi (p : Nat → Bool) : Nat → Nat
  | 0 => 0
  | n + 1 => if ih_fi p n < n then ih_fi p n else if p n = true then n else n + 1
theorem ih_fi_le (p : Nat → Bool) : ∀ n, ih_fi p n ≤ n
  | 0 => Nat.le_refl 0
  | n + 1 => by
    have := ih_fi_le p n
    unfold ih_fi
    split
    · omega
    · split <;> omega
theorem ih_fi_no {p : Nat → Bool} : ∀ {n : Nat}, (∀ m, m < n → p m = false) → ih_fi p n = n
  | 0, _ => rfl
  | n + 1, h => by
    have h1 := ih_fi_no (p := p) (n := n) (fun m hm => h m (by omega))
    unfold ih_fi
    rw [h1, if_neg (by omega), if_neg (by rw [h n (by omega)]; decide)]
theorem ih_fi_eq {p : Nat → Bool} {k : Nat} (hk : p k = true) (h : ∀ m, m < k → p m = false) : ∀ {n : Nat}, k < n → ih_fi p n = k
  | 0, hn => absurd hn (Nat.not_lt_zero k)
  | n + 1, hn => by
    unfold ih_fi
    rcases Nat.lt_or_ge k n with q | q
    · rw [ih_fi_eq hk h q, if_pos q]
    · have e : k = n := by omega
      subst e
      rw [ih_fi_no h, if_neg (by omega), if_pos hk]
theorem ih_fi_sp {p : Nat → Bool} : ∀ {n : Nat}, ih_fi p n < n → p (ih_fi p n) = true ∧ ∀ m, m < ih_fi p n → p m = false
  | 0, h => absurd h (Nat.not_lt_zero _)
  | n + 1, h => by
    unfold ih_fi at h ⊢
    by_cases h1 : ih_fi p n < n
    · rw [if_pos h1]; exact ih_fi_sp h1
    · rw [if_neg h1] at h ⊢
      have h2 : ih_fi p n = n := by have := ih_fi_le p n; omega
      by_cases h3 : p n = true
      · rw [if_pos h3]
        refine ⟨h3, fun m hm => ?_⟩
        cases hq : p m with
        | false => rfl
        | true =>
          exfalso
          have : ∃ k, p k = true ∧ (∀ j, j < k → p j = false) ∧ k ≤ m := by
            have H : ∀ m, p m = true → ∃ k, p k = true ∧ (∀ j, j < k → p j = false) ∧ k ≤ m := by
              intro m
              induction m using Nat.strongRecOn with
              | ind m ih =>
                intro hm
                by_cases hx : ∃ j, j < m ∧ p j = true
                · obtain ⟨j, hj, hj2⟩ := hx
                  obtain ⟨k, a, b, c⟩ := ih j hj hj2
                  exact ⟨k, a, b, by omega⟩
                · refine ⟨m, hm, fun j hj => ?_, Nat.le_refl _⟩
                  cases hjj : p j with
                  | false => rfl
                  | true => exact absurd ⟨j, hj, hjj⟩ hx
            exact H m hq
          obtain ⟨k, a, b, c⟩ := this
          have := ih_fi_eq a b (n := n) (by omega)
          omega
      · rw [if_neg h3] at h
        omega
theorem ih_xc_5 {T : ih_TT} {a b : Nat} (j : Nat) : ih_xc T a b 5 j = if j = b then T 5 a else if j = a then T 5 b else T 5 j := by
  unfold ih_xc ih_u2
  by_cases h1 : j = b
  · simp [h1]
  · by_cases h2 : j = a
    · subst h2; simp [h1]
    · simp [h1, h2]
theorem ih_xc_o {T : ih_TT} {a b k : Nat} (hk : k ≠ 5) (j : Nat) : ih_xc T a b k j = T k j := by
  unfold ih_xc
  rw [ih_u2_k hk, ih_u2_k hk]
theorem ih_xc_xc {T : ih_TT} {a b : Nat} : ih_xc (ih_xc T a b) a b = T := by
  funext k j
  by_cases hk : k = 5
  · subst hk
    rw [ih_xc_5, ih_xc_5, ih_xc_5, ih_xc_5]
    by_cases h1 : j = b
    · subst h1
      by_cases h3 : a = j
      · subst h3; simp
      · simp [h3]
    · by_cases h2 : j = a
      · subst h2; simp [h1]
      · simp [h1, h2]
  · rw [ih_xc_o hk, ih_xc_o hk]
theorem ih_xc_pl {T : ih_TT} {a b : Nat} : ih_pl (ih_xc T a b) = ih_pl T := by unfold ih_pl; rw [ih_xc_o (by decide)]
theorem ih_xc_ct {T : ih_TT} {a b : Nat} : ih_ct (ih_xc T a b) = ih_ct T := by unfold ih_ct; rw [ih_xc_o (by decide)]
theorem ih_xc_ch {T : ih_TT} {a b k c : Nat} : ih_ch (ih_xc T a b) k c = ih_ch T k c := by unfold ih_ch; rw [ih_xc_o (by decide)]
theorem ih_xc_or {T : ih_TT} {a b j : Nat} : ih_or (ih_xc T a b) j = if j = b then ih_or T a else if j = a then ih_or T b else ih_or T j := by
  unfold ih_or
  rw [ih_xc_5]
  split
  · rfl
  · split <;> rfl
theorem ih_xc_Inv {T : ih_TT} {a b : Nat} (h : ih_Inv T) (ha : a < ih_pl T) (hb : b < ih_pl T) : ih_Inv (ih_xc T a b) := by
  obtain ⟨h1, h2, h3, h4, h5⟩ := h
  refine ⟨fun s hs => ?_, ⟨?_, ?_, fun k hk => ?_⟩, ⟨?_, ?_, fun j hj => ?_⟩, fun t ht => ?_, ?_, ?_⟩
  · have := h1 s hs
    unfold ih_mn at this ⊢
    rw [ih_xc_o (by decide), ih_xc_o (by decide)]
    exact this
  · rw [ih_xc_o (by decide), ih_xc_ct]; exact h2.1
  · rw [ih_xc_ct]; exact h2.2.1
  · rw [ih_xc_ct] at hk
    refine ⟨fun c hc => ?_, ?_⟩
    · rw [ih_xc_o (by decide), ih_xc_ch]; exact (h2.2.2 k hk).1 c hc
    · rw [ih_xc_ch, ih_xc_ch, ih_xc_ch, ih_xc_ch, ih_xc_ch, ih_xc_ch]; exact (h2.2.2 k hk).2
  · rw [ih_xc_o (by decide), ih_xc_pl]; exact h3.1
  · rw [ih_xc_pl]; exact h3.2.1
  · rw [ih_xc_pl] at hj
    rw [ih_xc_5, ih_xc_or, ih_xc_ct]
    split
    · exact h3.2.2 a ha
    · split
      · exact h3.2.2 b hb
      · exact h3.2.2 j hj
  · have := h4 t ht
    unfold ih_tm at this ⊢
    rw [ih_xc_o (by decide), ih_xc_ct]
    exact this
  · unfold ih_td; rw [ih_xc_o (by decide)]; exact h5.1
  · unfold ih_td; rw [ih_xc_o (by decide)]; exact h5.2
theorem ih_rt_le {T : ih_TT} (h : ih_Inv T) (hp : 0 < ih_pl T) : ih_rt T ≤ 240000000 := by
  have h1 := ih_mean_le hp (ih_cc_ok h) 30 0 0 hp
  have h2 := ih_mean_le hp (ih_cc_ok h) 30 (ih_pl T / 2) 0 (by omega)
  unfold ih_rt
  omega
/-- whether the exchange of pair t (places t / 9 and t % 9) makes the rate more -/
def ih_bet (T : ih_TT) (t : Nat) : Bool := decide (t / 9 < t % 9 ∧ t % 9 < ih_pl T ∧ ih_rt T < ih_rt (ih_xc T (t / 9) (t % 9)))
theorem ih_bet_iff {T : ih_TT} {t : Nat} : ih_bet T t = true ↔ (t / 9 < t % 9 ∧ t % 9 < ih_pl T ∧ ih_rt T < ih_rt (ih_xc T (t / 9) (t % 9))) := by
  unfold ih_bet; rw [decide_eq_true_eq]
def ih_it (T : ih_TT) : Nat → ih_TT
  | 0 => T
  | n + 1 => ih_xc (ih_it T n) (ih_fi (ih_bet (ih_it T n)) 81 / 9) (ih_fi (ih_bet (ih_it T n)) 81 % 9)
def ih_stp (T : ih_TT) (n : Nat) : Bool := decide (¬ ih_fi (ih_bet (ih_it T n)) 81 < 81)
def sp_swapped (T : ih_TT) : Int32 × ih_TT := if ih_pl T = 0 then (-1000002, T) else (nI (ih_fi (ih_stp T) 40), ih_it T (ih_fi (ih_stp T) 40))
theorem ih_it_Inv {T : ih_TT} (h : ih_Inv T) : ∀ n, (∀ m, m < n → ih_stp T m = false) → ih_Inv (ih_it T n) ∧ ih_pl (ih_it T n) = ih_pl T
  | 0, _ => ⟨h, rfl⟩
  | n + 1, hs => by
    obtain ⟨h1, h2⟩ := ih_it_Inv h n (fun m hm => hs m (by omega))
    have h3 : ih_fi (ih_bet (ih_it T n)) 81 < 81 := by
      have := hs n (by omega)
      unfold ih_stp at this
      rw [decide_eq_false_iff_not] at this
      omega
    have h4 := (ih_fi_sp h3).1
    rw [ih_bet_iff] at h4
    refine ⟨ih_xc_Inv h1 (by omega) (by omega), ?_⟩
    show ih_pl (ih_xc _ _ _) = _
    rw [ih_xc_pl, h2]
/-- no pair ahead of (a, b) makes it more -/
def ih_NB (T : ih_TT) (a b : Nat) : Prop := ∀ c d, c < d → d < ih_pl T → (c < a ∨ (c = a ∧ d < b)) → ¬ ih_rt T < ih_rt (ih_xc T c d)
theorem ih_NB_f {T : ih_TT} {a b : Nat} (h : ih_NB T a b) (hab : a < b) (hb : b < ih_pl T) (h9 : ih_pl T ≤ 9) (hv : ih_rt T < ih_rt (ih_xc T a b)) : ih_fi (ih_bet T) 81 = 9 * a + b := by
  refine ih_fi_eq ?_ (fun m hm => ?_) (by omega)
  · unfold ih_bet
    rw [decide_eq_true_eq, show (9 * a + b) / 9 = a by omega, show (9 * a + b) % 9 = b by omega]
    exact ⟨hab, hb, hv⟩
  · unfold ih_bet
    rw [decide_eq_false_iff_not]
    exact fun q => h (m / 9) (m % 9) q.1 q.2.1 (by omega) q.2.2
theorem ih_NB_n {T : ih_TT} {a : Nat} (h : ih_NB T a 0) (ha : ih_pl T ≤ a) : ih_fi (ih_bet T) 81 = 81 := by
  refine ih_fi_no (fun m hm => ?_)
  unfold ih_bet
  rw [decide_eq_false_iff_not]
  exact fun q => h (m / 9) (m % 9) q.1 q.2.1 (by omega) q.2.2
set_option maxHeartbeats 4000000 in
set_option maxRecDepth 100000 in
theorem c_X8_swapped (l : Launch) (w : ih_Wd) (S : ih_Sg) (T : ih_TT) (hM : ih_RM S T) (hI : ih_Inv T) : ih_Ci l yX8_swapped wsX8_swapped 4 w ih_shM [.ref (w.2.2 0)] S (fun r S' => r = (sp_swapped T).1 ∧ ih_RM S' (sp_swapped T).2) := by
  refine ih_bodyi (ret := some .int) rfl rfl (Nat.le_of_ble_eq_true rfl) ?_
  intro x A hA C
  have C : ih_Ok x w A cX8_swapped 7 RX8 wsX8_swapped (ih_rm 4) (some .int) := C
  show ih_Mw x w ih_shM A (ih_Qi x w ih_shM A _) 7 0 0 0 [(0, .ref (w.2.2 0))] [] S
  obtain ⟨Q, hQ⟩ : ∃ Q, Q = ih_Qi x w ih_shM A (fun r S' => r = (sp_swapped T).1 ∧ ih_RM S' (sp_swapped T).2) := ⟨_, rfl⟩
  rw [show ih_Qi x w ih_shM A _ = Q from hQ.symm]
  have hpl9 : ih_pl T ≤ 9 := hI.2.2.1.2.1
  have hct : ih_ct T ≤ 12 := hI.2.1.2.1
  refine s_aload_n C 0 dX8_swapped_0 rfl ?_
  refine s_iconst (v := nI 0) C dX8_swapped_1 (by decide) ?_
  refine s_putI (ty := .int) C 8 0 tyX8 tyX8_ok nmX8 (by decide) rfl (by decide) rfl (fun _ h => List.mem_cons_of_mem _ (List.mem_append_right _ h)) (by decide) rfl (by decide +kernel) rfl (by decide +kernel) rfl rfl dX8_swapped_2 ?_
  refine m_hide hM rfl (fun S hM => ?_)
  refine s_aload_n C 0 dX8_swapped_5 rfl ?_
  refine s_getI C 8 7 (by decide) rfl (by decide) rfl (fun _ h => List.mem_cons_of_mem _ (List.mem_append_right _ h)) (by decide) rfl (by decide +kernel) dX8_swapped_6 ?_
  refine s_toe (b := T 0 7) (hM.2 _ _ rfl) ?_
  refine s_toe (b := nI (ih_pl T)) hI.2.2.1.1 ?_
  refine s_if_neN 15 C dX8_swapped_9 (by decide) (by omega) (fun h9 => ?_) (fun h9 => ?_)
  · refine s_iconst (v := nI 0) C dX8_swapped_15 (by decide) ?_
    refine s_istore_n (lv' := [(1, .int (nI 0)), (0, .ref (w.2.2 0))]) C dX8_swapped_16 rfl (by decide) rfl ?_
    refine s_aload_n C 1 dX8_swapped_17 rfl ?_
    refine s_callVi 0 C (c_X8_rateNow _ w _ _ hM hI (by omega)) gX8_swapped_X8_rateNow rfl (by decide +kernel) (by decide) (by decide) (by decide) rfl (by decide) rfl rfl rfl (Nat.le_of_ble_eq_true rfl) dX8_swapped_18 ?_
    rintro rv S ⟨hrv, hM⟩
    subst hrv
    refine s_istore_n (lv' := [(2, .int (nI (ih_rt (ih_it T 0)))), (1, .int (nI 0)), (0, .ref (w.2.2 0))]) C dX8_swapped_21 rfl (by decide) rfl ?_
    refine s_iconst (v := nI 1) C dX8_swapped_22 (by decide) ?_
    refine s_istore_n (lv' := [(3, .int (nI 1)), (2, .int (nI (ih_rt (ih_it T 0)))), (1, .int (nI 0)), (0, .ref (w.2.2 0))]) C dX8_swapped_23 rfl (by decide) rfl ?_
    have loop_24 : ∀ (fu n : Nat), n + fu = 40 → ∀ S, ih_RM S (ih_it T (n)) ∧ (∀ m, m < n → ih_stp T m = false) → ih_Mw x w ih_shM A Q 7 0 0 24 [(0, .ref (w.2.2 0)), (1, .int (nI n)), (2, .int (nI (ih_rt (ih_it T n)))), (3, .int (nI 1))] [] S := by
      intro fu
      induction fu with
      | zero =>
        intro n hne S ⟨hM, hst⟩
        have hn0 : n = 40 := by omega
        subst hn0
        refine s_iload_n C 3 dX8_swapped_24 rfl ?_
        refine s_if_eqN 125 C dX8_swapped_25 (by decide) (by omega) (fun h25 => ?_) (fun h25 => ?_)
        · exact absurd h25 (by decide)
        · refine s_iload_n C 1 dX8_swapped_28 rfl ?_
          refine s_bipush (v := nI 40) C dX8_swapped_29 (by decide) ?_
          refine s_icmp_geN 125 C dX8_swapped_31 (by decide) (by omega) (by omega) (fun h31 => ?_) (fun h31 => ?_)
          · refine s_iload_n C 1 dX8_swapped_125 rfl ?_
            rw [hQ]
            exact s_ireturn C hA dX8_swapped_126 (by rw [sp_swapped, if_neg (by omega), ih_fi_no hst]; exact ⟨rfl, hM⟩)
          · exfalso; omega
      | succ fu ih_24 =>
        intro n hne S ⟨hM, hst⟩
        have hnl : n < 40 := by omega
        obtain ⟨hIn, hpn⟩ := ih_it_Inv hI n hst
        refine s_iload_n C 3 dX8_swapped_24 rfl ?_
        refine s_if_eqN 125 C dX8_swapped_25 (by decide) (by omega) (fun h25 => ?_) (fun h25 => ?_)
        · exact absurd h25 (by decide)
        · refine s_iload_n C 1 dX8_swapped_28 rfl ?_
          refine s_bipush (v := nI 40) C dX8_swapped_29 (by decide) ?_
          refine s_icmp_geN 125 C dX8_swapped_31 (by decide) (by omega) (by omega) (fun h31 => ?_) (fun h31 => ?_)
          · exfalso; omega
          · refine s_iconst (v := nI 0) C dX8_swapped_34 (by decide) ?_
            refine s_istore_n (lv' := [(3, .int (nI 0)), (0, .ref (w.2.2 0)), (1, .int (nI n)), (2, .int (nI (ih_rt (ih_it T n))))]) C dX8_swapped_35 rfl (by decide) rfl ?_
            refine s_iconst (v := nI 0) C dX8_swapped_36 (by decide) ?_
            refine s_istore (lv' := [(4, .int (nI 0)), (3, .int (nI 0)), (0, .ref (w.2.2 0)), (1, .int (nI n)), (2, .int (nI (ih_rt (ih_it T n))))]) C dX8_swapped_37 (by decide) rfl ?_
            have hx_39 : ∀ S, ih_RM S (ih_it T n) ∧ ih_NB (ih_it T n) (ih_pl T) 0 → ih_Mw x w ih_shM A Q 7 0 0 122 [(0, .ref (w.2.2 0)), (1, .int (nI n)), (2, .int (nI (ih_rt (ih_it T n)))), (3, .int (nI 0))] [] S := by
              intro S ⟨hM, hnb⟩
              refine s_goto C 24 dX8_swapped_122 (by decide) ?_
              refine s_iload_n C 3 dX8_swapped_24 rfl ?_
              refine s_if_eqN 125 C dX8_swapped_25 (by decide) (by omega) (fun h25 => ?_) (fun h25 => ?_)
              · refine s_iload_n C 1 dX8_swapped_125 rfl ?_
                rw [hQ]
                exact s_ireturn C hA dX8_swapped_126 (by rw [sp_swapped, if_neg (by omega), ih_fi_eq (k := n) (by unfold ih_stp; rw [decide_eq_true_eq, ih_NB_n hnb (by omega)]; decide) hst (by omega)]; exact ⟨rfl, hM⟩)
              · exact absurd h25 (by decide)
            have loop_39 : ∀ (fu a : Nat), a + fu = ih_pl T → ∀ S, ih_RM S (ih_it T n) ∧ ih_NB (ih_it T n) (a) 0 → ih_Mw x w ih_shM A Q 7 0 0 39 [(0, .ref (w.2.2 0)), (1, .int (nI n)), (2, .int (nI (ih_rt (ih_it T n)))), (3, .int (nI 0)), (4, .int (nI a))] [] S := by
              intro fu
              induction fu with
              | zero =>
                intro a hae S ⟨hM, hnb⟩
                have ha0 : a = ih_pl T := by omega
                refine s_iload C 4 dX8_swapped_39 rfl ?_
                refine s_aload_n C 0 dX8_swapped_41 rfl ?_
                refine s_getI C 8 7 (by decide) rfl (by decide) rfl (fun _ h => List.mem_cons_of_mem _ (List.mem_append_right _ h)) (by decide) rfl (by decide +kernel) dX8_swapped_42 ?_
                refine s_toe (b := nI (ih_pl T)) ((hM.2 _ _ rfl).trans (hIn.2.2.1.1.trans (congrArg nI hpn))) ?_
                refine s_icmp_geN 122 C dX8_swapped_45 (by decide) (by omega) (by omega) (fun h45 => ?_) (fun h45 => ?_)
                · refine s_perm [0, 1, 2, 3] rfl ?_
                  subst ha0
                  exact hx_39 _ ⟨hM, hnb⟩
                · exfalso; omega
              | succ fu ih_39 =>
                intro a hae S ⟨hM, hnb⟩
                have hal : a < ih_pl T := by omega
                refine s_iload C 4 dX8_swapped_39 rfl ?_
                refine s_aload_n C 0 dX8_swapped_41 rfl ?_
                refine s_getI C 8 7 (by decide) rfl (by decide) rfl (fun _ h => List.mem_cons_of_mem _ (List.mem_append_right _ h)) (by decide) rfl (by decide +kernel) dX8_swapped_42 ?_
                refine s_toe (b := nI (ih_pl T)) ((hM.2 _ _ rfl).trans (hIn.2.2.1.1.trans (congrArg nI hpn))) ?_
                refine s_icmp_geN 122 C dX8_swapped_45 (by decide) (by omega) (by omega) (fun h45 => ?_) (fun h45 => ?_)
                · exfalso; omega
                · refine s_iload_n C 3 dX8_swapped_48 rfl ?_
                  refine s_if_neN 122 C dX8_swapped_49 (by decide) (by omega) (fun h49 => ?_) (fun h49 => ?_)
                  · exact absurd h49 (by decide)
                  · refine s_iload C 4 dX8_swapped_52 rfl ?_
                    refine s_iconst (v := nI 1) C dX8_swapped_54 (by decide) ?_
                    refine s_iaddN C dX8_swapped_55 ?_
                    refine s_istore (lv' := [(5, .int (nI (a + 1))), (0, .ref (w.2.2 0)), (1, .int (nI n)), (2, .int (nI (ih_rt (ih_it T n)))), (3, .int (nI 0)), (4, .int (nI a))]) C dX8_swapped_56 (by decide) rfl ?_
                    have hx_58 : ∀ S, ih_RM S (ih_it T n) ∧ ih_NB (ih_it T n) a (ih_pl T) ∧ a < ih_pl T → ih_Mw x w ih_shM A Q 7 0 0 116 [(0, .ref (w.2.2 0)), (1, .int (nI n)), (2, .int (nI (ih_rt (ih_it T n)))), (3, .int (nI 0)), (4, .int (nI a))] [] S := by
                      intro S ⟨hM, hnb, hab⟩
                      refine s_iinc (u := nI (a + 1)) (lv' := [(4, .int (nI (a + 1))), (0, .ref (w.2.2 0)), (1, .int (nI n)), (2, .int (nI (ih_rt (ih_it T n)))), (3, .int (nI 0))]) C 4 dX8_swapped_116 rfl (ih_incN (by decide)) (by decide) rfl ?_
                      refine s_goto C 39 dX8_swapped_119 (by decide) ?_
                      refine s_perm [1, 2, 3, 4, 0] rfl ?_
                      exact ih_39 (a + 1) (by omega) _ ⟨hM, fun c d h1 h2 h3 => hnb c d h1 h2 (by omega)⟩
                    have loop_58 : ∀ (fu b : Nat), b + fu = ih_pl T → ∀ S, ih_RM S (ih_it T n) ∧ ih_NB (ih_it T n) a (b) ∧ a < b → ih_Mw x w ih_shM A Q 7 0 0 58 [(0, .ref (w.2.2 0)), (1, .int (nI n)), (2, .int (nI (ih_rt (ih_it T n)))), (3, .int (nI 0)), (4, .int (nI a)), (5, .int (nI b))] [] S := by
                      intro fu
                      induction fu with
                      | zero =>
                        intro b hbe S ⟨hM, hnb, hab⟩
                        have hb0 : b = ih_pl T := by omega
                        refine s_iload C 5 dX8_swapped_58 rfl ?_
                        refine s_aload_n C 0 dX8_swapped_60 rfl ?_
                        refine s_getI C 8 7 (by decide) rfl (by decide) rfl (fun _ h => List.mem_cons_of_mem _ (List.mem_append_right _ h)) (by decide) rfl (by decide +kernel) dX8_swapped_61 ?_
                        refine s_toe (b := nI (ih_pl T)) ((hM.2 _ _ rfl).trans (hIn.2.2.1.1.trans (congrArg nI hpn))) ?_
                        refine s_icmp_geN 116 C dX8_swapped_64 (by decide) (by omega) (by omega) (fun h64 => ?_) (fun h64 => ?_)
                        · refine s_perm [0, 1, 2, 3, 4] rfl ?_
                          subst hb0
                          exact hx_58 _ ⟨hM, hnb, hab⟩
                        · exfalso; omega
                      | succ fu ih_58 =>
                        intro b hbe S ⟨hM, hnb, hab⟩
                        have hbl : b < ih_pl T := by omega
                        refine s_iload C 5 dX8_swapped_58 rfl ?_
                        refine s_aload_n C 0 dX8_swapped_60 rfl ?_
                        refine s_getI C 8 7 (by decide) rfl (by decide) rfl (fun _ h => List.mem_cons_of_mem _ (List.mem_append_right _ h)) (by decide) rfl (by decide +kernel) dX8_swapped_61 ?_
                        refine s_toe (b := nI (ih_pl T)) ((hM.2 _ _ rfl).trans (hIn.2.2.1.1.trans (congrArg nI hpn))) ?_
                        refine s_icmp_geN 116 C dX8_swapped_64 (by decide) (by omega) (by omega) (fun h64 => ?_) (fun h64 => ?_)
                        · exfalso; omega
                        · refine s_iload_n C 3 dX8_swapped_67 rfl ?_
                          refine s_if_neN 116 C dX8_swapped_68 (by decide) (by omega) (fun h68 => ?_) (fun h68 => ?_)
                          · exact absurd h68 (by decide)
                          · refine s_aload_n C 0 dX8_swapped_71 rfl ?_
                            refine s_iload C 4 dX8_swapped_72 rfl ?_
                            refine s_iload C 5 dX8_swapped_74 rfl ?_
                            refine s_callVv 2 C (c_X8_exchange _ w _ hM a b (by omega) (by omega)) gX8_swapped_X8_exchange rfl (by decide +kernel) (by decide) (by decide) (by decide) rfl (by decide) rfl rfl rfl (Nat.le_of_ble_eq_true rfl) dX8_swapped_76 ?_
                            rintro S hM
                            have hIx := ih_xc_Inv hIn (a := a) (b := b) (by omega) (by omega)
                            refine s_aload_n C 0 dX8_swapped_79 rfl ?_
                            refine s_callVi 0 C (c_X8_rateNow _ w _ _ hM hIx (by rw [ih_xc_pl]; omega)) gX8_swapped_X8_rateNow rfl (by decide +kernel) (by decide) (by decide) (by decide) rfl (by decide) rfl rfl rfl (Nat.le_of_ble_eq_true rfl) dX8_swapped_80 ?_
                            rintro rv S ⟨hrv, hM⟩
                            subst hrv
                            have hrb1 := ih_rt_le hIn (by omega)
                            have hrb2 := ih_rt_le hIx (by rw [ih_xc_pl]; omega)
                            refine s_istore (lv' := [(6, .int (nI (ih_rt (ih_xc (ih_it T n) a b)))), (0, .ref (w.2.2 0)), (1, .int (nI n)), (2, .int (nI (ih_rt (ih_it T n)))), (3, .int (nI 0)), (4, .int (nI a)), (5, .int (nI b))]) C dX8_swapped_83 (by decide) rfl ?_
                            refine s_iload C 0 dX8_swapped_85 rfl ?_
                            refine s_iload_n C 3 dX8_swapped_87 rfl ?_
                            refine s_icmp_leN 102 C dX8_swapped_88 (by decide) (by omega) (by omega) (fun h88 => ?_) (fun h88 => ?_)
                            · refine s_aload_n C 1 dX8_swapped_102 rfl ?_
                              refine s_iload C 5 dX8_swapped_103 rfl ?_
                              refine s_iload C 6 dX8_swapped_105 rfl ?_
                              refine s_callVv 2 C (c_X8_exchange _ w _ hM a b (by omega) (by omega)) gX8_swapped_X8_exchange rfl (by decide +kernel) (by decide) (by decide) (by decide) rfl (by decide) rfl rfl rfl (Nat.le_of_ble_eq_true rfl) dX8_swapped_107 ?_
                              rintro S hM
                              rw [ih_xc_xc] at hM
                              refine s_iinc (u := nI (b + 1)) (lv' := [(5, .int (nI (b + 1))), (6, .int (nI (ih_rt (ih_xc (ih_it T n) a b)))), (0, .ref (w.2.2 0)), (1, .int (nI n)), (2, .int (nI (ih_rt (ih_it T n)))), (3, .int (nI 0)), (4, .int (nI a))]) C 6 dX8_swapped_110 rfl (ih_incN (by decide)) (by decide) rfl ?_
                              refine s_goto C 58 dX8_swapped_113 (by decide) ?_
                              refine s_perm [2, 3, 4, 5, 6, 0] rfl ?_
                              exact ih_58 (b + 1) (by omega) _ ⟨hM, fun c d h1 h2 h3 => by
                                by_cases he : c = a ∧ d = b
                                · rw [he.1, he.2]; omega
                                · exact hnb c d h1 h2 (by omega), by omega⟩
                            · have hab2 := hab
                              refine s_iload C 0 dX8_swapped_91 rfl ?_
                              refine s_istore_n (lv' := [(2, .int (nI (ih_rt (ih_xc (ih_it T n) a b)))), (6, .int (nI (ih_rt (ih_xc (ih_it T n) a b)))), (0, .ref (w.2.2 0)), (1, .int (nI n)), (3, .int (nI 0)), (4, .int (nI a)), (5, .int (nI b))]) C dX8_swapped_93 rfl (by decide) rfl ?_
                              refine s_iinc (u := nI (n + 1)) (lv' := [(1, .int (nI (n + 1))), (2, .int (nI (ih_rt (ih_xc (ih_it T n) a b)))), (6, .int (nI (ih_rt (ih_xc (ih_it T n) a b)))), (0, .ref (w.2.2 0)), (3, .int (nI 0)), (4, .int (nI a)), (5, .int (nI b))]) C 3 dX8_swapped_94 rfl (ih_incN (by decide)) (by decide) rfl ?_
                              refine s_iconst (v := nI 1) C dX8_swapped_97 (by decide) ?_
                              refine s_istore_n (lv' := [(3, .int (nI 1)), (1, .int (nI (n + 1))), (2, .int (nI (ih_rt (ih_xc (ih_it T n) a b)))), (6, .int (nI (ih_rt (ih_xc (ih_it T n) a b)))), (0, .ref (w.2.2 0)), (4, .int (nI a)), (5, .int (nI b))]) C dX8_swapped_98 rfl (by decide) rfl ?_
                              refine s_goto C 110 dX8_swapped_99 (by decide) ?_
                              refine s_iinc (u := nI (b + 1)) (lv' := [(5, .int (nI (b + 1))), (3, .int (nI 1)), (1, .int (nI (n + 1))), (2, .int (nI (ih_rt (ih_xc (ih_it T n) a b)))), (6, .int (nI (ih_rt (ih_xc (ih_it T n) a b)))), (0, .ref (w.2.2 0)), (4, .int (nI a))]) C 6 dX8_swapped_110 rfl (ih_incN (by decide)) (by decide) rfl ?_
                              refine s_goto C 58 dX8_swapped_113 (by decide) ?_
                              refine s_iload C 0 dX8_swapped_58 rfl ?_
                              refine s_aload_n C 5 dX8_swapped_60 rfl ?_
                              refine s_getI C 8 7 (by decide) rfl (by decide) rfl (fun _ h => List.mem_cons_of_mem _ (List.mem_append_right _ h)) (by decide) rfl (by decide +kernel) dX8_swapped_61 ?_
                              refine s_toe (b := nI (ih_pl T)) ((hM.2 _ _ rfl).trans ((ih_xc_o (by decide) _).trans (hIn.2.2.1.1.trans (congrArg nI hpn)))) ?_
                              refine s_icmp_geN 116 C dX8_swapped_64 (by decide) (by omega) (by omega) (fun h64 => ?_) (fun h64 => ?_)
                              · refine s_iinc (u := nI (a + 1)) (lv' := [(4, .int (nI (a + 1))), (5, .int (nI (b + 1))), (3, .int (nI 1)), (1, .int (nI (n + 1))), (2, .int (nI (ih_rt (ih_xc (ih_it T n) a b)))), (6, .int (nI (ih_rt (ih_xc (ih_it T n) a b)))), (0, .ref (w.2.2 0))]) C 6 dX8_swapped_116 rfl (ih_incN (by decide)) (by decide) rfl ?_
                                refine s_goto C 39 dX8_swapped_119 (by decide) ?_
                                refine s_iload C 0 dX8_swapped_39 rfl ?_
                                refine s_aload_n C 6 dX8_swapped_41 rfl ?_
                                refine s_getI C 8 7 (by decide) rfl (by decide) rfl (fun _ h => List.mem_cons_of_mem _ (List.mem_append_right _ h)) (by decide) rfl (by decide +kernel) dX8_swapped_42 ?_
                                refine s_toe (b := nI (ih_pl T)) ((hM.2 _ _ rfl).trans ((ih_xc_o (by decide) _).trans (hIn.2.2.1.1.trans (congrArg nI hpn)))) ?_
                                refine s_icmp_geN 122 C dX8_swapped_45 (by decide) (by omega) (by omega) (fun h45 => ?_) (fun h45 => ?_)
                                · refine s_goto C 24 dX8_swapped_122 (by decide) ?_
                                  refine s_perm [6, 3, 4, 2] rfl ?_
                                  have hfe : ih_fi (ih_bet (ih_it T n)) 81 = 9 * a + b := ih_NB_f hnb hab (by omega) (by omega) (by omega)
                                  have hie : ih_it T (n + 1) = ih_xc (ih_it T n) a b := by show ih_xc (ih_it T n) _ _ = _; rw [hfe, show (9 * a + b) / 9 = a by omega, show (9 * a + b) % 9 = b by omega]
                                  rw [← hie] at hM ⊢
                                  refine ih_24 (n + 1) (by omega) _ ⟨hM, fun m hm => ?_⟩
                                  by_cases he : m = n
                                  · subst he; unfold ih_stp; rw [decide_eq_false_iff_not, hfe]; omega
                                  · exact hst m (by omega)
                                · refine s_iload_n C 2 dX8_swapped_48 rfl ?_
                                  refine s_if_neN 122 C dX8_swapped_49 (by decide) (by omega) (fun h49 => ?_) (fun h49 => ?_)
                                  · refine s_goto C 24 dX8_swapped_122 (by decide) ?_
                                    refine s_perm [6, 3, 4, 2] rfl ?_
                                    have hfe : ih_fi (ih_bet (ih_it T n)) 81 = 9 * a + b := ih_NB_f hnb hab (by omega) (by omega) (by omega)
                                    have hie : ih_it T (n + 1) = ih_xc (ih_it T n) a b := by show ih_xc (ih_it T n) _ _ = _; rw [hfe, show (9 * a + b) / 9 = a by omega, show (9 * a + b) % 9 = b by omega]
                                    rw [← hie] at hM ⊢
                                    refine ih_24 (n + 1) (by omega) _ ⟨hM, fun m hm => ?_⟩
                                    by_cases he : m = n
                                    · subst he; unfold ih_stp; rw [decide_eq_false_iff_not, hfe]; omega
                                    · exact hst m (by omega)
                                  · exact absurd h49 (by decide)
                              · refine s_iload_n C 1 dX8_swapped_67 rfl ?_
                                refine s_if_neN 116 C dX8_swapped_68 (by decide) (by omega) (fun h68 => ?_) (fun h68 => ?_)
                                · refine s_iinc (u := nI (a + 1)) (lv' := [(4, .int (nI (a + 1))), (5, .int (nI (b + 1))), (3, .int (nI 1)), (1, .int (nI (n + 1))), (2, .int (nI (ih_rt (ih_xc (ih_it T n) a b)))), (6, .int (nI (ih_rt (ih_xc (ih_it T n) a b)))), (0, .ref (w.2.2 0))]) C 6 dX8_swapped_116 rfl (ih_incN (by decide)) (by decide) rfl ?_
                                  refine s_goto C 39 dX8_swapped_119 (by decide) ?_
                                  refine s_iload C 0 dX8_swapped_39 rfl ?_
                                  refine s_aload_n C 6 dX8_swapped_41 rfl ?_
                                  refine s_getI C 8 7 (by decide) rfl (by decide) rfl (fun _ h => List.mem_cons_of_mem _ (List.mem_append_right _ h)) (by decide) rfl (by decide +kernel) dX8_swapped_42 ?_
                                  refine s_toe (b := nI (ih_pl T)) ((hM.2 _ _ rfl).trans ((ih_xc_o (by decide) _).trans (hIn.2.2.1.1.trans (congrArg nI hpn)))) ?_
                                  refine s_icmp_geN 122 C dX8_swapped_45 (by decide) (by omega) (by omega) (fun h45 => ?_) (fun h45 => ?_)
                                  · refine s_goto C 24 dX8_swapped_122 (by decide) ?_
                                    refine s_perm [6, 3, 4, 2] rfl ?_
                                    have hfe : ih_fi (ih_bet (ih_it T n)) 81 = 9 * a + b := ih_NB_f hnb hab (by omega) (by omega) (by omega)
                                    have hie : ih_it T (n + 1) = ih_xc (ih_it T n) a b := by show ih_xc (ih_it T n) _ _ = _; rw [hfe, show (9 * a + b) / 9 = a by omega, show (9 * a + b) % 9 = b by omega]
                                    rw [← hie] at hM ⊢
                                    refine ih_24 (n + 1) (by omega) _ ⟨hM, fun m hm => ?_⟩
                                    by_cases he : m = n
                                    · subst he; unfold ih_stp; rw [decide_eq_false_iff_not, hfe]; omega
                                    · exact hst m (by omega)
                                  · refine s_iload_n C 2 dX8_swapped_48 rfl ?_
                                    refine s_if_neN 122 C dX8_swapped_49 (by decide) (by omega) (fun h49 => ?_) (fun h49 => ?_)
                                    · refine s_goto C 24 dX8_swapped_122 (by decide) ?_
                                      refine s_perm [6, 3, 4, 2] rfl ?_
                                      have hfe : ih_fi (ih_bet (ih_it T n)) 81 = 9 * a + b := ih_NB_f hnb hab (by omega) (by omega) (by omega)
                                      have hie : ih_it T (n + 1) = ih_xc (ih_it T n) a b := by show ih_xc (ih_it T n) _ _ = _; rw [hfe, show (9 * a + b) / 9 = a by omega, show (9 * a + b) % 9 = b by omega]
                                      rw [← hie] at hM ⊢
                                      refine ih_24 (n + 1) (by omega) _ ⟨hM, fun m hm => ?_⟩
                                      by_cases he : m = n
                                      · subst he; unfold ih_stp; rw [decide_eq_false_iff_not, hfe]; omega
                                      · exact hst m (by omega)
                                    · exact absurd h49 (by decide)
                                · exact absurd h68 (by decide)
                    refine s_perm [1, 2, 3, 4, 5, 0] rfl ?_
                    exact loop_58 (ih_pl T - (a + 1)) (a + 1) (by omega) _ ⟨hM, fun c d h1 h2 h3 => hnb c d h1 h2 (by omega), by omega⟩
            refine s_perm [2, 3, 4, 1, 0] rfl ?_
            exact loop_39 (ih_pl T) 0 (by omega) _ ⟨hM, fun c d h1 h2 h3 => by omega⟩
    refine s_perm [3, 2, 1, 0] rfl ?_
    exact loop_24 40 0 (by omega) _ ⟨hM, fun m hm => absurd hm (Nat.not_lt_zero m)⟩
  · refine s_ldc (v := (-1000002)) C (by decide +kernel) dX8_swapped_12 ?_
    rw [hQ]
    exact s_ireturn C hA dX8_swapped_14 (by rw [sp_swapped, if_pos (by omega)]; exact ⟨rfl, hM⟩)

