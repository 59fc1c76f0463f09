/-! the game's numbers depend on the chances of acts 0 to 6 alone -/
theorem ih_half_congr {c d : Nat → Nat} {par : Nat} {f g : Nat → Nat} (h : ∀ a, a < 7 → c a = d a) (hf : ∀ L, f L = g L) : ∀ n L s, ih_half c par f n L s = ih_half d par g n L s
  | 0, L, s => by rw [ih_half_z, ih_half_z, hf]
  | n + 1, L, s => by
    rcases Nat.lt_or_ge s 24 with hs | hs
    · have hb : ∀ a, ih_beh c par f n L s a = ih_beh d par g n L s a := fun a => ih_half_congr h hf n _ _
      have h0 : ih_v0 c par f n L s = ih_v0 d par g n L s := by
        unfold ih_v0
        rw [ih_sum_congr (g := ih_wf d par g n L s) (fun a ha => by unfold ih_wf; rw [h a (by omega), hb a])]
      have h1 : ih_v1 c par f n L s = ih_v1 d par g n L s := by
        unfold ih_v1
        rw [h0, hb 6]
      have h2 : ih_v2 c par f n L s = ih_v2 d par g n L s := by
        unfold ih_v2
        rw [h 6 (by decide), hb 7, hb 8]
      rw [ih_half_s hs, ih_half_s hs, h1, h2]
    · rw [ih_half_o (by omega), ih_half_o (by omega), hf]
theorem ih_st_congr {cs ds : Nat → Nat → Nat} (h : ∀ t, t < 2 → ∀ a, a < 7 → cs t a = ds t a) : ∀ n L, ih_st cs n L = ih_st ds n L
  | 0, L => by rw [ih_st_0, ih_st_0]
  | n + 1, L => by
    rw [ih_st, ih_st]
    exact ih_half_congr (h _ (Nat.mod_lt _ (by decide))) (ih_st_congr h n) 12 L 0
theorem ih_set1_6 {T : ih_TT} {k : Nat} {v : Int32} : ih_set1 (ih_u2 T 4 (7 * k + 6) v) k = ih_u2 (ih_set1 T k) 4 (7 * k + 6) v := by
  unfold ih_set1
  rw [ih_u2_j (by omega), ih_u2_j (by omega), ih_u2_j (by omega), ih_u2_j (by omega), ih_u2_j (by omega)]
  funext a b
  unfold ih_u2
  by_cases h1 : a = 4 ∧ b = 7 * k + 6
  · rw [if_neg (by omega), if_pos h1, if_pos h1]
  · by_cases h2 : a = 4 ∧ b = 7 * k
    · rw [if_pos h2, if_neg h1, if_pos h2]
    · rw [if_neg h2, if_neg h1, if_neg h1, if_neg h2]
