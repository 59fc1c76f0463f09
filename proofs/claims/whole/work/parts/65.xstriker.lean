/-- the strikers change, their number, what is known of halves, and nothing else -/
theorem ih_RX_kk {S V : ih_Sg} {T U : ih_TT} (h : ih_RX S T) (h2 : V.2 = S.2) (hc : ∀ k, k < 19 ∨ 43 ≤ k → k ≠ 0 → k ≠ 53 → V.1 k = S.1 k) (h08 : V.1 0 8 = U 0 1) (h02 : V.1 0 2 = U 0 5) (hk : rx_k V.1 U) (h1 : U 1 = T 1) (h22 : U 2 = T 2) (h3 : U 3 = T 3) (h5 : U 5 = T 5) (h9 : U 9 = T 9) (h13 : U 13 = T 13) (h07 : U 0 7 = T 0 7) (h021 : U 0 21 = T 0 21) (hm : rx_m V.1 U) : ih_RX V U := by
  obtain ⟨g1, g2, g3, g4, g5, g6, g7, g8, g9, g10, g11⟩ := h
  refine ⟨?_, by rw [h2]; exact g2, h08, h02, rx_s_c g5 (fun s hs => ⟨hc _ (by omega) (by omega) (by omega), hc _ (by omega) (by omega) (by omega)⟩) ⟨h1, h22, h3⟩, hk, ?_, ?_, ?_, ?_, hm⟩
  · intro k j i q
    have := g1 k j i q
    rw [h2]; exact this
  · unfold rx_o; rw [hc 46 (by omega) (by omega) (by omega), hc 47 (by omega) (by omega) (by omega), h07, h5]; exact g7
  · unfold rx_t; rw [hc 54 (by omega) (by omega) (by omega), h9]; exact g8
  · unfold rx_a; rw [hc 60 (by omega) (by omega) (by omega), hc 61 (by omega) (by omega) (by omega), h021, h13]; exact g9
  · unfold rx_b; rw [hc 44 (by omega) (by omega) (by omega), hc 45 (by omega) (by omega) (by omega)]; exact g10
/-- a striker's cells and the state's row agree as they are written -/
def rx_k1 (I : Nat → Nat → Int32) (T : ih_TT) (k : Nat) : Prop := (∀ a, a < 6 → I (20 + 2 * k) a = T 4 (7 * k + a)) ∧ I (19 + 2 * k) 1 = T 4 (7 * k + 6)
theorem rx_k_w {S : ih_Sg} {T : ih_TT} (h : rx_k S.1 T) {k a : Nat} (hk : k < 12) (ha : a < 6) (v : Int32) : rx_k (ih_sI S (20 + 2 * k) a v).1 (ih_u2 T 4 (7 * k + a) v) := by
  intro q hq
  obtain ⟨h1, h2⟩ := h q hq
  refine ⟨fun b hb => ?_, ?_⟩
  · show ih_u2 S.1 (20 + 2 * k) a v (20 + 2 * q) b = ih_u2 T 4 (7 * k + a) v 4 (7 * q + b)
    by_cases he : q = k ∧ b = a
    · rw [he.1, he.2, ih_u2_s, ih_u2_s]
    · rw [ih_u2_j (f := T) (by omega)]
      by_cases hqk : q = k
      · rw [ih_u2_j (by omega)]; exact h1 b hb
      · rw [ih_u2_k (by omega)]; exact h1 b hb
  · show ih_u2 S.1 (20 + 2 * k) a v (19 + 2 * q) 1 = ih_u2 T 4 (7 * k + a) v 4 (7 * q + 6)
    rw [ih_u2_k (by omega), ih_u2_j (by omega)]; exact h2
theorem rx_k_6 {S : ih_Sg} {T : ih_TT} (h : rx_k S.1 T) {k : Nat} (hk : k < 12) (v : Int32) : rx_k (ih_sI S (19 + 2 * k) 1 v).1 (ih_u2 T 4 (7 * k + 6) v) := by
  intro q hq
  obtain ⟨h1, h2⟩ := h q hq
  refine ⟨fun b hb => ?_, ?_⟩
  · show ih_u2 S.1 (19 + 2 * k) 1 v (20 + 2 * q) b = ih_u2 T 4 (7 * k + 6) v 4 (7 * q + b)
    rw [ih_u2_k (by omega), ih_u2_j (by omega)]; exact h1 b hb
  · show ih_u2 S.1 (19 + 2 * k) 1 v (19 + 2 * q) 1 = ih_u2 T 4 (7 * k + 6) v 4 (7 * q + 6)
    by_cases hqk : q = k
    · rw [hqk, ih_u2_s, ih_u2_s]
    · rw [ih_u2_k (by omega), ih_u2_j (by omega)]; exact h2
theorem rx_k_0 {S : ih_Sg} {T : ih_TT} (h : rx_k S.1 T) {k : Nat} (hk : k < 12) : rx_k (ih_sI S (20 + 2 * k) 0 (ih_rest (S.1 (20 + 2 * k)) 5)).1 (ih_set1 T k) := by
  have h1 := (h k hk).1
  have e : ih_rest (S.1 (20 + 2 * k)) 5 = nI 1000 - T 4 (7 * k + 1) - T 4 (7 * k + 2) - T 4 (7 * k + 3) - T 4 (7 * k + 4) - T 4 (7 * k + 5) := by
    show nI 1000 - S.1 (20 + 2 * k) 1 - S.1 (20 + 2 * k) 2 - S.1 (20 + 2 * k) 3 - S.1 (20 + 2 * k) 4 - S.1 (20 + 2 * k) 5 = _
    rw [h1 1 (by decide), h1 2 (by decide), h1 3 (by decide), h1 4 (by decide), h1 5 (by decide)]
  rw [e]
  exact rx_k_w h hk (a := 0) (by decide) _
