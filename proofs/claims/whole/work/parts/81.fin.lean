/-! the sorted row, the end of the rows, halves exchanged -/
theorem rf_x_a {f : Nat → Nat} {a b : Nat} (h : a ≠ b) : rf_x f a b a = f b := by unfold rf_x; rw [if_neg h, if_pos rfl]
theorem rf_x_b {f : Nat → Nat} {a b : Nat} : rf_x f a b b = f a := by unfold rf_x; rw [if_pos rfl]
theorem rf_x_o {f : Nat → Nat} {a b j : Nat} (h1 : j ≠ a) (h2 : j ≠ b) : rf_x f a b j = f j := by unfold rf_x; rw [if_neg h2, if_neg h1]
theorem ih_or_sb1 {T : ih_TT} {a b : Nat} : ih_or (ih_sb1 T a b) = if ih_or T b < ih_or T a then rf_x (ih_or T) a b else ih_or T := by
  unfold ih_sb1
  split
  · exact rf_or_xc
  · rfl
/-- behind the inner loop the place a holds the least of those behind it; places ahead stay least -/
theorem ih_si_least {T : ih_TT} {a pl : Nat} (hl : ∀ i j, i < a → i < j → j < pl → ih_or T i ≤ ih_or T j) : ∀ m, a + m < pl → (∀ i j, i < a → i < j → j < pl → ih_or (ih_si T a m) i ≤ ih_or (ih_si T a m) j) ∧ ∀ j, a < j → j ≤ a + m → ih_or (ih_si T a m) a ≤ ih_or (ih_si T a m) j
  | 0, _ => ⟨hl, fun j h1 h2 => by omega⟩
  | m + 1, hm => by
    obtain ⟨h1, h2⟩ := ih_si_least hl m (by omega)
    show (∀ i j, i < a → i < j → j < pl → ih_or (ih_sb1 (ih_si T a m) a (a + 1 + m)) i ≤ ih_or (ih_sb1 (ih_si T a m) a (a + 1 + m)) j) ∧ ∀ j, a < j → j ≤ a + (m + 1) → ih_or (ih_sb1 (ih_si T a m) a (a + 1 + m)) a ≤ ih_or (ih_sb1 (ih_si T a m) a (a + 1 + m)) j
    rw [ih_or_sb1]
    generalize ih_or (ih_si T a m) = f at h1 h2 ⊢
    by_cases hc : f (a + 1 + m) < f a
    · rw [if_pos hc]
      refine ⟨fun i j hi hij hj => ?_, fun j hj1 hj2 => ?_⟩
      · rw [rf_x_o (j := i) (by omega) (by omega)]
        by_cases e1 : j = a
        · rw [e1, rf_x_a (by omega)]; exact h1 i _ hi (by omega) (by omega)
        · by_cases e2 : j = a + 1 + m
          · rw [e2, rf_x_b]; exact h1 i _ hi (by omega) (by omega)
          · rw [rf_x_o e1 e2]; exact h1 i j hi hij hj
      · rw [rf_x_a (by omega)]
        by_cases e2 : j = a + 1 + m
        · rw [e2, rf_x_b]; omega
        · rw [rf_x_o (by omega) e2]
          have := h2 j hj1 (by omega)
          omega
    · rw [if_neg hc]
      refine ⟨h1, fun j hj1 hj2 => ?_⟩
      by_cases e2 : j = a + 1 + m
      · rw [e2]; omega
      · exact h2 j hj1 (by omega)
theorem ih_so_least {T : ih_TT} {pl : Nat} : ∀ a, a ≤ pl → ∀ i j, i < a → i < j → j < pl → ih_or (ih_so T pl a) i ≤ ih_or (ih_so T pl a) j
  | 0, _ => fun i j hi _ _ => absurd hi (Nat.not_lt_zero i)
  | a + 1, ha => by
    have h := ih_si_least (T := ih_so T pl a) (a := a) (pl := pl) (ih_so_least a (by omega)) (pl - (a + 1)) (by omega)
    show ∀ i j, i < a + 1 → i < j → j < pl → ih_or (ih_si (ih_so T pl a) a (pl - (a + 1))) i ≤ ih_or (ih_si (ih_so T pl a) a (pl - (a + 1))) j
    intro i j hi hij hj
    by_cases e : i = a
    · rw [e]; rw [e] at hij; exact h.2 j hij (by omega)
    · exact h.1 i j (by omega) hij hj
theorem ih_Ts_le {T : ih_TT} {i j : Nat} (h : i < j) (hj : j < ih_pl T) : ih_or (ih_Ts T) i ≤ ih_or (ih_Ts T) j := ih_so_least (ih_pl T) (Nat.le_refl _) i j (by omega) h hj
/-- a sorted row and its ranks are ordered alike -/
theorem rk_oe {p : Nat} {f : Nat → Nat} {b : Nat → Bool} (hs : ∀ i j, i < j → j < p → f i ≤ f j) (hb : ∀ j, j + 1 < p → b j = decide (f j < f (j + 1))) : rf_oe p f (rk_n b) := by
  have mono : ∀ d i, i + d < p → rk_n b i ≤ rk_n b (i + d) ∧ (rk_n b i = rk_n b (i + d) ↔ f i = f (i + d)) := by
    intro d
    induction d with
    | zero => exact fun i _ => ⟨Nat.le_refl _, ⟨fun _ => rfl, fun _ => rfl⟩⟩
    | succ d ih =>
      intro i hi
      obtain ⟨h1, h2⟩ := ih i (by omega)
      have h3 : rk_n b (i + (d + 1)) = rk_n b (i + d) + (bif b (i + d) then 1 else 0) := rfl
      have h4 := hb (i + d) (by omega)
      have h6 : f i ≤ f (i + d) := by
        rcases Nat.eq_zero_or_pos d with e | e
        · rw [e]; exact Nat.le_refl _
        · exact hs i (i + d) (by omega) (by omega)
      by_cases h5 : f (i + d) < f (i + d + 1)
      · rw [decide_eq_true h5] at h4
        rw [h3, h4, cond_true]
        refine ⟨by omega, ⟨fun e => by omega, fun e => ?_⟩⟩
        exfalso
        have : f i = f (i + d + 1) := e
        omega
      · rw [decide_eq_false h5] at h4
        have h7 := hs (i + d) (i + d + 1) (by omega) (by omega)
        have h8 : f (i + (d + 1)) = f (i + d) := by
          show f (i + d + 1) = f (i + d)
          omega
        rw [h3, h4, cond_false, Nat.add_zero, h8]
        exact ⟨h1, h2⟩
  have up : ∀ i j, i ≤ j → j < p → f i ≤ f j ∧ rk_n b i ≤ rk_n b j ∧ (rk_n b i = rk_n b j ↔ f i = f j) := by
    intro i j hij hj
    have h := mono (j - i) i (by omega)
    rw [show i + (j - i) = j by omega] at h
    refine ⟨?_, h⟩
    rcases Nat.lt_or_ge i j with q | q
    · exact hs i j q hj
    · rw [show i = j by omega]; exact Nat.le_refl _
  intro i j hi hj
  rcases Nat.le_total i j with q | q
  · obtain ⟨h1, h2, h3⟩ := up i j q hj
    exact ⟨fun _ => h2, fun _ => h1⟩
  · obtain ⟨h1, h2, h3⟩ := up j i q hi
    refine ⟨fun e => ?_, fun e => ?_⟩
    · exact Nat.le_of_eq (h3.mpr (by omega)).symm
    · exact Nat.le_of_eq (h3.mp (by omega)).symm
theorem rl_all {p : Nat} (h0 : 0 < p) (h6 : p ≤ 6) (b0 b1 b2 b3 b4 : Bool) : ∃ b : Nat → Bool, (∀ j, j + 1 < p → b j = rk_b b0 b1 b2 b3 b4 j) ∧ rl_r p 720 (rl_t (rk_n b) p) [] = true := by
  rcases Nat.lt_or_ge p 6 with q | q
  · refine ⟨rk_b b0 b1 b2 b3 true, fun j hj => ?_, rl_all_s b0 b1 b2 b3 p q h0⟩
    rcases (show j = 0 ∨ j = 1 ∨ j = 2 ∨ j = 3 by omega) with rfl | rfl | rfl | rfl <;> rfl
  · obtain rfl : p = 6 := by omega
    exact ⟨rk_b b0 b1 b2 b3 b4, fun _ _ => rfl, rl_all_6 b0 b1 b2 b3 b4⟩
/-- the rate is the same with the halves of an even row exchanged -/
theorem ih_mean_rot {c d : Nat → Nat → Nat} {pl h : Nat} (hp : 0 < pl) (hc : ∀ p, p < pl → ∀ a, d p a = c ((p + h) % pl) a) : ∀ n p s, p < pl → ih_mean d pl n p s = ih_mean c pl n ((p + h) % pl) s
  | 0, _, _, _ => rfl
  | n + 1, p, s, hpp => by
    rcases Nat.lt_or_ge s 24 with hs | hs
    · rw [ih_mean_s hs, ih_mean_s hs]
      refine congrArg (· / 1000) (ih_sum_congr (fun a ha => ?_))
      unfold ih_mf
      rw [hc p hpp a, ih_mean_rot hp hc n ((p + 1) % pl) _ (Nat.mod_lt _ hp)]
      have e : ((p + 1) % pl + h) % pl = ((p + h) % pl + 1) % pl := by
        rw [Nat.mod_add_mod, Nat.mod_add_mod, show p + 1 + h = p + h + 1 by omega]
      rw [e]
    · rw [ih_mean_o (by omega), ih_mean_o (by omega)]
theorem ih_rt_rot {T U : ih_TT} (hp : 0 < ih_pl T) (hpu : ih_pl U = ih_pl T) (hev : ih_pl T / 2 * 2 = ih_pl T) (hch : ∀ k a, ih_ch U k a = ih_ch T k a) (ho : ∀ j, j < ih_pl T → ih_or U j = ih_or T ((j + ih_pl T / 2) % ih_pl T)) : ih_rt U = ih_rt T := by
  have hc : ∀ p, p < ih_pl T → ∀ a, ih_cc U p a = ih_cc T ((p + ih_pl T / 2) % ih_pl T) a := by
    intro p hpp a
    unfold ih_cc
    rw [hch, ho p hpp]
  unfold ih_rt
  rw [hpu, ih_mean_rot hp hc 30 0 0 hp, ih_mean_rot hp hc 30 (ih_pl T / 2) 0 (by omega), Nat.zero_add, Nat.mod_eq_of_lt (show ih_pl T / 2 < ih_pl T by omega), show (ih_pl T / 2 + ih_pl T / 2) % ih_pl T = 0 by rw [show ih_pl T / 2 + ih_pl T / 2 = ih_pl T by omega, Nat.mod_self]]
  exact Nat.add_comm _ _
theorem ih_pn_ch {T : ih_TT} (h : ih_Inv T) (hp : 0 < ih_pl T) (n k a : Nat) : ih_ch (ih_pn T n) k a = ih_ch T k a := by
  unfold ih_ch
  rw [ih_pn_out h hp (by omega)]
/-- all about the rows of best -/
theorem ih_fin {T : ih_TT} (hI : ih_Inv T) (hp0 : 0 < ih_pl T) (hp6 : ih_pl T ≤ 6) : ∃ N, N < 720 ∧ ih_N (ih_Ts T) = N ∧ (∀ m, m < N → ¬ ih_q (ih_pn (ih_Ts T) m) = 0) ∧ ih_q (ih_pn (ih_Ts T) N) = 0 ∧ ∀ n, n ≤ N → rf_hm (ih_or (ih_pn (ih_Ts T) n)) (ih_pl T) = true → ∃ m, m < n ∧ ih_rt (ih_pn (ih_Ts T) m) = ih_rt (ih_pn (ih_Ts T) n) := by
  obtain ⟨hIs, hps⟩ := ih_Ts_I hI
  have hps0 : 0 < ih_pl (ih_Ts T) := by omega
  obtain ⟨b, hb, hr⟩ := rl_all hp0 hp6 (decide (ih_or (ih_Ts T) 0 < ih_or (ih_Ts T) 1)) (decide (ih_or (ih_Ts T) 1 < ih_or (ih_Ts T) 2)) (decide (ih_or (ih_Ts T) 2 < ih_or (ih_Ts T) 3)) (decide (ih_or (ih_Ts T) 3 < ih_or (ih_Ts T) 4)) (decide (ih_or (ih_Ts T) 4 < ih_or (ih_Ts T) 5))
  have hoe : rf_oe (ih_pl T) (ih_or (ih_Ts T)) (rk_n b) := by
    refine rk_oe (fun i j h1 h2 => ih_Ts_le h1 h2) (fun j hj => ?_)
    rw [hb j hj]
    rcases (show j = 0 ∨ j = 1 ∨ j = 2 ∨ j = 3 ∨ j = 4 by omega) with rfl | rfl | rfl | rfl | rfl <;> rfl
  have hR : ∀ n, rf_R (ih_pl T) (ih_or (ih_Ts T)) (rk_n b) (ih_or (ih_pn (ih_Ts T) n)) (rl_g (rl_c (ih_pl T) (rl_t (rk_n b) (ih_pl T)) n)) := by
    intro n
    induction n with
    | zero => exact ⟨fun j => j, fun j hj => hj, fun j hj => ⟨rfl, rl_gt hj⟩⟩
    | succ n ih =>
      obtain ⟨t, h1, h2⟩ := rf_R_n hoe hp0 ih
      refine ⟨t, h1, fun j hj => ?_⟩
      obtain ⟨h3, h4⟩ := h2 j hj
      refine ⟨?_, ?_⟩
      · show ih_or (ih_nxt (ih_pn (ih_Ts T) n)) j = _
        rw [rf_or_nxt, (ih_pn_I hIs hps0 n).2, hps]
        exact h3
      · show rl_g (rl_t _ _) j = _
        rw [rl_gt hj]
        exact h4
  have hq : ∀ n, ih_q (ih_pn (ih_Ts T) n) = rf_q (rl_g (rl_c (ih_pl T) (rl_t (rk_n b) (ih_pl T)) n)) (ih_pl T) := by
    intro n
    show rf_q (ih_or (ih_pn (ih_Ts T) n)) (ih_pl (ih_pn (ih_Ts T) n)) = _
    rw [(ih_pn_I hIs hps0 n).2, hps]
    exact rf_q_oe (rf_R_oe hoe (hR n)) hp0
  obtain ⟨N, g1, g2, g3, g4⟩ := rl_r_ok 720 _ _ hr
  have hN2 : ih_q (ih_pn (ih_Ts T) N) = 0 := by rw [hq]; exact g2
  have hN1 : ∀ m, m < N → ¬ ih_q (ih_pn (ih_Ts T) m) = 0 := fun m hm => by rw [hq]; exact g3 m hm
  refine ⟨N, g1, ?_, hN1, hN2, fun n hn hx => ?_⟩
  · unfold ih_N
    exact ih_fi_eq (decide_eq_true hN2) (fun m hm => decide_eq_false (hN1 m hm)) g1
  · have hx2 := hx
    rw [rf_hm_oe (rf_R_oe hoe (hR n))] at hx2
    rcases g4 n hn hx2 with q | ⟨m, hm, e⟩
    · cases q
    · refine ⟨m, hm, ?_⟩
      have hev : ih_pl T / 2 * 2 = ih_pl T := by
        unfold rf_hm at hx
        split at hx
        · assumption
        · cases hx
      have hpn := (ih_pn_I hIs hps0 n).2
      have hpm := (ih_pn_I hIs hps0 m).2
      refine ih_rt_rot (by omega) (by omega) (by rw [hpn, hps]; exact hev) (fun k a => by rw [ih_pn_ch hIs hps0, ih_pn_ch hIs hps0]) (fun j hj => ?_)
      rw [hpn, hps] at hj ⊢
      have hj2 : (j + ih_pl T / 2) % ih_pl T < ih_pl T := Nat.mod_lt _ hp0
      have e2 : rl_g (rl_c (ih_pl T) (rl_t (rk_n b) (ih_pl T)) m) j = rl_g (rl_c (ih_pl T) (rl_t (rk_n b) (ih_pl T)) n) ((j + ih_pl T / 2) % ih_pl T) := by
        rw [e]
        exact rl_gt hj
      obtain ⟨t, t1, t2⟩ := hR m
      obtain ⟨u, u1, u2⟩ := hR n
      rw [(t2 j hj).2, (u2 _ hj2).2] at e2
      rw [(t2 j hj).1, (u2 _ hj2).1]
      have o1 := hoe (t j) (u ((j + ih_pl T / 2) % ih_pl T)) (t1 j hj) (u1 _ hj2)
      have o2 := hoe (u ((j + ih_pl T / 2) % ih_pl T)) (t j) (u1 _ hj2) (t1 j hj)
      exact Nat.le_antisymm (o1.mpr (Nat.le_of_eq e2)) (o2.mpr (Nat.le_of_eq e2.symm))
theorem ih_bi_max {T : ih_TT} : ∀ n m, m ≤ n → ih_rt (ih_pn T m) ≤ ih_rt (ih_pn T (ih_bi T n))
  | 0, m, h => by
    obtain rfl : m = 0 := by omega
    exact Nat.le_refl _
  | n + 1, m, h => by
    rw [ih_bi]
    by_cases hc : ih_rt (ih_pn T (ih_bi T n)) < ih_rt (ih_pn T (n + 1))
    · rw [if_pos hc]
      by_cases e : m = n + 1
      · rw [e]; exact Nat.le_refl _
      · have := ih_bi_max (T := T) n m (by omega)
        omega
    · rw [if_neg hc]
      by_cases e : m = n + 1
      · rw [e]; omega
      · exact ih_bi_max n m (by omega)
