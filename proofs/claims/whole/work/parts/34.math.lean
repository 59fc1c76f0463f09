/-! MEAN, LIKELY, WIN, LOGS as plain numbers -/
def ih_sum (f : Nat → Nat) : Nat → Nat
  | 0 => 0
  | n + 1 => ih_sum f n + f n
theorem ih_sum_congr {f g : Nat → Nat} : ∀ {n : Nat}, (∀ a, a < n → f a = g a) → ih_sum f n = ih_sum g n
  | 0, _ => rfl
  | n + 1, h => by
    show ih_sum f n + f n = ih_sum g n + g n
    rw [ih_sum_congr (fun a ha => h a (by omega)), h n (by omega)]
theorem ih_sum_le {f c : Nat → Nat} {B : Nat} : ∀ {n : Nat}, (∀ a, a < n → f a ≤ c a * B) → ih_sum f n ≤ ih_sum c n * B
  | 0, _ => by simp [ih_sum]
  | n + 1, h => by
    show ih_sum f n + f n ≤ (ih_sum c n + c n) * B
    rw [Nat.add_mul]
    exact Nat.add_le_add (ih_sum_le (fun a ha => h a (by omega))) (h n (by omega))
theorem ih_sum_mono {f : Nat → Nat} : ∀ {n m : Nat}, n ≤ m → ih_sum f n ≤ ih_sum f m
  | n, 0, h => by
    have : n = 0 := by omega
    subst this; exact Nat.le_refl _
  | n, m + 1, h => by
    rcases Nat.lt_or_ge n (m + 1) with q | q
    · exact Nat.le_trans (ih_sum_mono (n := n) (m := m) (by omega)) (Nat.le_add_right _ _)
    · have : n = m + 1 := by omega
      subst this; exact Nat.le_refl _
theorem ih_sum_6 (f : Nat → Nat) : ih_sum f 6 = f 0 + f 1 + f 2 + f 3 + f 4 + f 5 := by
  simp [ih_sum]
def ih_mean (c : Nat → Nat → Nat) (pl : Nat) : Nat → Nat → Nat → Nat
  | 0, _, _ => 0
  | n + 1, p, s => if s < 24 then ih_sum (fun a => c p a * (ih_rn s a * 1000000 + ih_mean c pl n ((p + 1) % pl) (ih_nx s a))) 6 / 1000 else 0
/-- one strike's summand -/
def ih_mf (c : Nat → Nat → Nat) (pl n p s a : Nat) : Nat := c p a * (ih_rn s a * 1000000 + ih_mean c pl n ((p + 1) % pl) (ih_nx s a))
theorem ih_mean_s {c : Nat → Nat → Nat} {pl n p s : Nat} (h : s < 24) : ih_mean c pl (n + 1) p s = ih_sum (ih_mf c pl n p s) 6 / 1000 := by
  rw [ih_mean, if_pos h]; rfl
theorem ih_mean_o {c : Nat → Nat → Nat} {pl n p s : Nat} (h : ¬ s < 24) : ih_mean c pl n p s = 0 := by
  cases n with
  | zero => rfl
  | succ n => rw [ih_mean, if_neg h]
def ih_ok (c : Nat → Nat → Nat) (pl : Nat) : Prop := ∀ p, p < pl → ih_sum (c p) 6 = 1000
theorem ih_mean_le {c : Nat → Nat → Nat} {pl : Nat} (hp : 0 < pl) (h : ih_ok c pl) : ∀ n p s, p < pl → ih_mean c pl n p s ≤ 4000000 * n
  | 0, p, s, _ => Nat.le_refl _
  | n + 1, p, s, hpp => by
    rcases Nat.lt_or_ge s 24 with hs | hs
    · rw [ih_mean_s hs]
      have h1 : ih_sum (ih_mf c pl n p s) 6 ≤ ih_sum (c p) 6 * (4000000 * (n + 1)) := by
        refine ih_sum_le (fun a ha => ?_)
        have h2 := ih_mean_le hp h n ((p + 1) % pl) (ih_nx s a) (Nat.mod_lt _ hp)
        have h3 := ih_rn_le s hs a (by omega)
        exact Nat.mul_le_mul_left _ (by omega)
      rw [h p hpp] at h1
      omega
    · rw [ih_mean_o (by omega)]; omega
theorem ih_mf_le {c : Nat → Nat → Nat} {pl n p s : Nat} (hp : 0 < pl) (h : ih_ok c pl) (hpp : p < pl) (hs : s < 24) (hn : n < 30) {k : Nat} (hk : k ≤ 6) : ih_sum (ih_mf c pl n p s) k ≤ 120000000000 := by
  have h1 : ih_sum (ih_mf c pl n p s) 6 ≤ ih_sum (c p) 6 * 120000000 := by
    refine ih_sum_le (fun a ha => ?_)
    have h2 := ih_mean_le hp h n ((p + 1) % pl) (ih_nx s a) (Nat.mod_lt _ hp)
    have h3 := ih_rn_le s hs a (by omega)
    exact Nat.mul_le_mul_left _ (by omega)
  rw [h p hpp] at h1
  have h2 := ih_sum_mono (f := ih_mf c pl n p s) hk
  omega
/-- LIKELY; b: of so many or more -/
def ih_lk (b : Bool) (c : Nat → Nat → Nat) (pl : Nat) : Nat → Nat → Nat → Nat → Nat
  | 0, _, _, r => if r = 0 then 1000000 else 0
  | n + 1, p, s, r => if s < 24 then ih_sum (fun a => c p a * (if r < ih_rn s a then (if b = true then 1000000 else 0) else ih_lk b c pl n ((p + 1) % pl) (ih_nx s a) (r - ih_rn s a))) 6 / 1000 else if r = 0 then 1000000 else 0
def ih_lf (b : Bool) (c : Nat → Nat → Nat) (pl n p s r a : Nat) : Nat := c p a * (if r < ih_rn s a then (if b = true then 1000000 else 0) else ih_lk b c pl n ((p + 1) % pl) (ih_nx s a) (r - ih_rn s a))
theorem ih_lk_s {b : Bool} {c : Nat → Nat → Nat} {pl n p s r : Nat} (h : s < 24) : ih_lk b c pl (n + 1) p s r = ih_sum (ih_lf b c pl n p s r) 6 / 1000 := by
  rw [ih_lk, if_pos h]; rfl
theorem ih_lk_o {b : Bool} {c : Nat → Nat → Nat} {pl n p s r : Nat} (h : ¬ s < 24) : ih_lk b c pl n p s r = if r = 0 then 1000000 else 0 := by
  cases n with
  | zero => rw [ih_lk]
  | succ n => rw [ih_lk, if_neg h]
theorem ih_lk_z {b : Bool} {c : Nat → Nat → Nat} {pl p s r : Nat} : ih_lk b c pl 0 p s r = if r = 0 then 1000000 else 0 := by rw [ih_lk]
theorem ih_lk_le {b : Bool} {c : Nat → Nat → Nat} {pl : Nat} (hp : 0 < pl) (h : ih_ok c pl) : ∀ n p s r, p < pl → ih_lk b c pl n p s r ≤ 1000000
  | 0, p, s, r, _ => by rw [ih_lk_z]; split <;> decide
  | n + 1, p, s, r, hpp => by
    rcases Nat.lt_or_ge s 24 with hs | hs
    · rw [ih_lk_s hs]
      have h1 : ih_sum (ih_lf b c pl n p s r) 6 ≤ ih_sum (c p) 6 * 1000000 := by
        refine ih_sum_le (fun a ha => ?_)
        refine Nat.mul_le_mul_left _ ?_
        split
        · split <;> decide
        · exact ih_lk_le hp h n _ _ _ (Nat.mod_lt _ hp)
      rw [h p hpp] at h1
      omega
    · rw [ih_lk_o (by omega)]; split <;> decide
theorem ih_lf_le {b : Bool} {c : Nat → Nat → Nat} {pl n p s r : Nat} (hp : 0 < pl) (h : ih_ok c pl) (hpp : p < pl) {k : Nat} (hk : k ≤ 6) : ih_sum (ih_lf b c pl n p s r) k ≤ 1000000000 := by
  have h1 : ih_sum (ih_lf b c pl n p s r) 6 ≤ ih_sum (c p) 6 * 1000000 := by
    refine ih_sum_le (fun a ha => ?_)
    refine Nat.mul_le_mul_left _ ?_
    split
    · split <;> decide
    · exact ih_lk_le hp h n _ _ _ (Nat.mod_lt _ hp)
  rw [h p hpp] at h1
  have h2 := ih_sum_mono (f := ih_lf b c pl n p s r) hk
  omega
/-- 'so many or more' of none is sure -/
theorem ih_lk_0 {c : Nat → Nat → Nat} {pl : Nat} (hp : 0 < pl) (h : ih_ok c pl) : ∀ n p s, p < pl → ih_lk true c pl n p s 0 = 1000000
  | 0, p, s, _ => by rw [ih_lk_z, if_pos rfl]
  | n + 1, p, s, hpp => by
    rcases Nat.lt_or_ge s 24 with hs | hs
    · rw [ih_lk_s hs]
      have h1 : ih_sum (ih_lf true c pl n p s 0) 6 = ih_sum (fun a => c p a * 1000000) 6 := by
        refine ih_sum_congr (fun a ha => ?_)
        unfold ih_lf
        split
        · rfl
        · next h2 =>
          have : ih_rn s a = 0 := by omega
          rw [this, ih_lk_0 hp h n _ _ (Nat.mod_lt _ hp)]
      have h2 := h p hpp
      rw [h1, ih_sum_6]
      rw [ih_sum_6] at h2
      omega
    · rw [ih_lk_o (by omega), if_pos rfl]
/-! a game: the lead of team 0 is told by 0 .. 18 -/
def ih_ld (par L r : Nat) : Nat := if par = 0 then (if 18 < L + r then 18 else L + r) else L - r
def ih_bt (par a b : Nat) : Nat := if par = 0 then (if a < b then b else a) else (if b < a then b else a)
def ih_half (c : Nat → Nat) (par : Nat) (st : Nat → Nat) : Nat → Nat → Nat → Nat
  | 0, L, _ => st L
  | n + 1, L, s => if s < 24 then
      (let beh := fun a => ih_half c par st n (ih_ld par L (ih_rn s a)) (ih_nx s a)
       let v0 := ih_sum (fun a => c a * beh a) 6 / 1000
       let v1 := if s % 8 = 0 then v0 else ih_bt par v0 (beh 6)
       if s % 4 = 1 then ih_bt par v1 ((c 6 * beh 7 + (1000 - c 6) * beh 8) / 1000) else v1)
    else st L
/-- WIN behind an act, with n strikes left then -/
def ih_beh (c : Nat → Nat) (par : Nat) (st : Nat → Nat) (n L s a : Nat) : Nat := ih_half c par st n (ih_ld par L (ih_rn s a)) (ih_nx s a)
def ih_wf (c : Nat → Nat) (par : Nat) (st : Nat → Nat) (n L s a : Nat) : Nat := c a * ih_beh c par st n L s a
def ih_v0 (c : Nat → Nat) (par : Nat) (st : Nat → Nat) (n L s : Nat) : Nat := ih_sum (ih_wf c par st n L s) 6 / 1000
def ih_v1 (c : Nat → Nat) (par : Nat) (st : Nat → Nat) (n L s : Nat) : Nat := if s % 8 = 0 then ih_v0 c par st n L s else ih_bt par (ih_v0 c par st n L s) (ih_beh c par st n L s 6)
def ih_v2 (c : Nat → Nat) (par : Nat) (st : Nat → Nat) (n L s : Nat) : Nat := (c 6 * ih_beh c par st n L s 7 + (1000 - c 6) * ih_beh c par st n L s 8) / 1000
theorem ih_half_s {c : Nat → Nat} {par : Nat} {st : Nat → Nat} {n L s : Nat} (h : s < 24) : ih_half c par st (n + 1) L s = if s % 4 = 1 then ih_bt par (ih_v1 c par st n L s) (ih_v2 c par st n L s) else ih_v1 c par st n L s := by
  rw [ih_half, if_pos h]; rfl
theorem ih_half_o {c : Nat → Nat} {par : Nat} {st : Nat → Nat} {n L s : Nat} (h : ¬ s < 24) : ih_half c par st n L s = st L := by
  cases n with
  | zero => rw [ih_half]
  | succ n => rw [ih_half, if_neg h]
theorem ih_half_z {c : Nat → Nat} {par : Nat} {st : Nat → Nat} {L s : Nat} : ih_half c par st 0 L s = st L := by rw [ih_half]
theorem ih_bt_le {par a b m : Nat} (ha : a ≤ m) (hb : b ≤ m) : ih_bt par a b ≤ m := by
  unfold ih_bt
  split <;> split <;> assumption
theorem ih_ld_le {par L r : Nat} (h : L ≤ 18) : ih_ld par L r ≤ 18 := by
  unfold ih_ld
  split
  · split <;> omega
  · omega
theorem ih_half_le {c : Nat → Nat} {par : Nat} {st : Nat → Nat} (hc : ih_sum c 6 = 1000) (h6 : c 6 ≤ 1000) (hst : ∀ L, L ≤ 18 → st L ≤ 1000000) : ∀ n L s, L ≤ 18 → ih_half c par st n L s ≤ 1000000
  | 0, L, s, hL => by rw [ih_half_z]; exact hst L hL
  | n + 1, L, s, hL => by
    rcases Nat.lt_or_ge s 24 with hs | hs
    · rw [ih_half_s hs]
      have hb : ∀ a, ih_beh c par st n L s a ≤ 1000000 := fun a => ih_half_le hc h6 hst n _ _ (ih_ld_le hL)
      have h0 : ih_v0 c par st n L s ≤ 1000000 := by
        have h1 : ih_sum (ih_wf c par st n L s) 6 ≤ ih_sum c 6 * 1000000 := ih_sum_le (fun a _ => Nat.mul_le_mul_left _ (hb a))
        rw [hc] at h1
        unfold ih_v0
        omega
      have h1 : ih_v1 c par st n L s ≤ 1000000 := by
        unfold ih_v1
        split
        · exact h0
        · exact ih_bt_le h0 (hb 6)
      have h2 : ih_v2 c par st n L s ≤ 1000000 := by
        unfold ih_v2
        have q7 := Nat.mul_le_mul_left (c 6) (hb 7)
        have q8 := Nat.mul_le_mul_left (1000 - c 6) (hb 8)
        omega
      split
      · exact ih_bt_le h1 h2
      · exact h1
    · rw [ih_half_o (by omega)]; exact hst L hL
theorem ih_wf_le {c : Nat → Nat} {par : Nat} {st : Nat → Nat} (hc : ih_sum c 6 = 1000) (h6 : c 6 ≤ 1000) (hst : ∀ L, L ≤ 18 → st L ≤ 1000000) {n L s k : Nat} (hL : L ≤ 18) (hk : k ≤ 6) : ih_sum (ih_wf c par st n L s) k ≤ 1000000000 := by
  have h1 : ih_sum (ih_wf c par st n L s) 6 ≤ ih_sum c 6 * 1000000 := ih_sum_le (fun a _ => Nat.mul_le_mul_left _ (ih_half_le hc h6 hst n _ _ (ih_ld_le hL)))
  rw [hc] at h1
  have h2 := ih_sum_mono (f := ih_wf c par st n L s) hk
  omega
def ih_st (cs : Nat → Nat → Nat) : Nat → Nat → Nat
  | 0, L => if 9 < L then 1000000 else if L = 9 then 500000 else 0
  | h + 1, L => ih_half (cs ((h + 1) % 2)) ((h + 1) % 2) (ih_st cs h) 12 L 0
def ih_okg (cs : Nat → Nat → Nat) : Prop := ∀ t, t < 2 → ih_sum (cs t) 6 = 1000 ∧ cs t 6 ≤ 1000
theorem ih_st_le {cs : Nat → Nat → Nat} (h : ih_okg cs) : ∀ n L, L ≤ 18 → ih_st cs n L ≤ 1000000
  | 0, L, _ => by
    unfold ih_st
    split
    · decide
    · split <;> decide
  | n + 1, L, hL => by
    rw [ih_st]
    exact ih_half_le (h _ (Nat.mod_lt _ (by decide))).1 (h _ (Nat.mod_lt _ (by decide))).2 (ih_st_le h n) 12 L 0 hL
def ih_win (cs : Nat → Nat → Nat) (h n L s : Nat) : Nat := if h = 0 then ih_st cs 0 L else ih_half (cs (h % 2)) (h % 2) (ih_st cs (h - 1)) n L s
/-! logs -/
def ih_now (s : Nat) : Nat := if s = 24 then 0 else s
def ih_fit (T : ih_TT) (b s : Nat) : Prop := 0 ≤ (T 3 b).toInt ∧ (T 3 b).toInt ≤ 8 ∧ ih_may (ih_now s) (ih_n (T 3 b)) = true ∧ nI (ih_nx (ih_now s) (ih_n (T 3 b))) = T 3 (b + 1) ∧ nI (ih_rn (ih_now s) (ih_n (T 3 b))) = T 3 (b + 2)
/-- clash, standing, runs, halves, how often each act, up to row k -/
def ih_lg (T : ih_TT) (b : Nat) : Nat → Int32 × Nat × Nat × Nat × (Nat → Nat)
  | 0 => (-1000000, 0, 0, 0, fun _ => 0)
  | k + 1 => let q := ih_lg T b k
    if q.1 = -1000000 then
      (if (0 ≤ (T 3 (b + 3 * k)).toInt ∧ (T 3 (b + 3 * k)).toInt ≤ 8 ∧ ih_may (ih_now q.2.1) (ih_n (T 3 (b + 3 * k))) = true ∧ nI (ih_nx (ih_now q.2.1) (ih_n (T 3 (b + 3 * k)))) = T 3 (b + 3 * k + 1) ∧ nI (ih_rn (ih_now q.2.1) (ih_n (T 3 (b + 3 * k)))) = T 3 (b + 3 * k + 2))
       then (-1000000, ih_nx (ih_now q.2.1) (ih_n (T 3 (b + 3 * k))), q.2.2.1 + ih_rn (ih_now q.2.1) (ih_n (T 3 (b + 3 * k))), q.2.2.2.1 + (if ih_nx (ih_now q.2.1) (ih_n (T 3 (b + 3 * k))) = 24 then 1 else 0), fun a => if a = ih_n (T 3 (b + 3 * k)) then q.2.2.2.2 a + 1 else q.2.2.2.2 a)
       else (nI k, q.2))
    else q
