theorem ih_sI_row {S : ih_Sg} {k j a : Nat} {v : Int32} (h : a ≠ k) : (ih_sI S k j v).1 a = S.1 a := ih_u2_row h
/-- a new striker: his chances stand in W and X, behind all that were there -/
theorem ih_RX_new {S W : ih_Sg} {T X : ih_TT} {c : Nat} (h : ih_RX S T) (hI : ih_Inv T) (hc : c = ih_ct T) (hc12 : c < 12) (hW2 : W.2 = S.2) (hWr : ∀ k, k ≠ 20 + 2 * c → W.1 k = S.1 k) (hk : rx_k W.1 X) (hXr : ∀ k, k ≠ 4 → X k = T k) (hX4 : ∀ j, j < 7 * c → X 4 j = T 4 j) (f : Int32) :
    ih_RX (ih_sI (ih_sI (ih_sI W (20 + 2 * c) 0 (ih_rest (W.1 (20 + 2 * c)) 5)) (19 + 2 * c) 1 f) 0 2 (nI (c + 1))) (ih_u2 (ih_set1 (ih_u2 X 4 (7 * c + 6) f) c) 0 5 (nI (c + 1))) := by
  have hkk := rx_k_6 (rx_k_0 hk hc12) hc12 f
  rw [← ih_set1_6] at hkk
  have hr : ∀ k, k ≠ 0 → k ≠ 19 + 2 * c → k ≠ 20 + 2 * c → (ih_sI (ih_sI (ih_sI W (20 + 2 * c) 0 (ih_rest (W.1 (20 + 2 * c)) 5)) (19 + 2 * c) 1 f) 0 2 (nI (c + 1))).1 k = S.1 k := by
    intro k h1 h2 h3
    rw [ih_sI_row h1, ih_sI_row h2, ih_sI_row h3]
    exact hWr k h3
  have hu : ∀ k, k ≠ 0 → k ≠ 4 → ih_u2 (ih_set1 (ih_u2 X 4 (7 * c + 6) f) c) 0 5 (nI (c + 1)) k = T k := by
    intro k h1 h2
    unfold ih_set1
    rw [ih_u2_row h1, ih_u2_row h2, ih_u2_row h2]
    exact hXr k h2
  have hu0 : ∀ j, j ≠ 5 → ih_u2 (ih_set1 (ih_u2 X 4 (7 * c + 6) f) c) 0 5 (nI (c + 1)) 0 j = T 0 j := by
    intro j hj
    unfold ih_set1
    rw [ih_u2_j hj, ih_u2_k (by decide), ih_u2_k (by decide), hXr 0 (by decide)]
  have hu4 : ∀ j, j < 7 * c → ih_u2 (ih_set1 (ih_u2 X 4 (7 * c + 6) f) c) 0 5 (nI (c + 1)) 4 j = T 4 j := by
    intro j hj
    unfold ih_set1
    rw [ih_u2_k (by decide), ih_u2_j (by omega), ih_u2_j (by omega)]
    exact hX4 j hj
  have hV0 : ∀ j, j ≠ 2 → (ih_sI (ih_sI (ih_sI W (20 + 2 * c) 0 (ih_rest (W.1 (20 + 2 * c)) 5)) (19 + 2 * c) 1 f) 0 2 (nI (c + 1))).1 0 j = S.1 0 j := by
    intro j hj
    show ih_u2 _ 0 2 _ 0 j = _
    rw [ih_u2_j hj, ih_sI_row (by omega), ih_sI_row (by omega), hWr 0 (by omega)]
  refine ih_RX_kk h hW2 (fun k h1 h2 h3 => hr k h2 (by omega) (by omega)) ?_ ?_ ?_ (hu 1 (by decide) (by decide)) (hu 2 (by decide) (by decide)) (hu 3 (by decide) (by decide)) (hu 5 (by decide) (by decide)) (hu 9 (by decide) (by decide)) (hu 13 (by decide) (by decide)) (hu0 7 (by decide)) (hu0 21 (by decide)) ?_
  · rw [hV0 8 (by decide), hu0 1 (by decide)]; exact h.2.2.1
  · rw [ih_u2_s]; rfl
  · exact rx_k_c hkk (fun s hs => ⟨ih_sI_row (by omega), ih_sI_row (by omega)⟩) (ih_u2_row (by decide))
  · obtain ⟨kh, a, b, d, e⟩ := h.2.2.2.2.2.2.2.2.2.2
    refine ⟨kh, a, by rw [hr 53 (by omega) (by omega) (by omega)]; exact b, fun L hL => ?_, fun q => ?_⟩
    · rw [hr 55 (by omega) (by omega) (by omega), d L hL, ih_st_0, ih_st_0]
    · obtain ⟨e1, e2⟩ := e q
      have hcg : ∀ t, t < 2 → ∀ a, a < 7 → ih_cg T t a = ih_cg (ih_u2 (ih_set1 (ih_u2 X 4 (7 * c + 6) f) c) 0 5 (nI (c + 1))) t a := by
        intro t ht a ha
        have ht2 := (e1 t ht).2
        unfold ih_cg ih_ch ih_tm
        rw [hu 9 (by decide) (by decide)]
        have : 7 * ih_n (T 9 t) + a < 7 * c := by
          unfold ih_tm at ht2
          omega
        rw [hu4 _ this]
      refine ⟨fun t ht => ?_, fun hh hh2 L hL => ?_⟩
      · have ht2 := e1 t ht
        have hcu : ih_ct (ih_u2 (ih_set1 (ih_u2 X 4 (7 * c + 6) f) c) 0 5 (nI (c + 1))) = c + 1 := by
          show ih_n (ih_u2 _ 0 5 (nI (c + 1)) 0 5) = _
          rw [ih_u2_s, ih_n_nI (by omega)]
        unfold ih_tm at ht2 ⊢
        rw [hu 9 (by decide) (by decide), hcu]
        exact ⟨ht2.1, by omega⟩
      · rw [hr 55 (by omega) (by omega) (by omega), e2 hh hh2 L hL, ih_st_congr hcg]
