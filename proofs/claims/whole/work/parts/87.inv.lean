/-! the invariant is kept by every call -/
theorem iv_S {T U : ih_TT} (h : ih_InvS T) (h1 : U 1 = T 1) (h2 : U 2 = T 2) : ih_InvS U := fun s hs => by
  have := h s hs
  unfold ih_mn at this ⊢
  rw [h1, h2]; exact this
theorem iv_C {T U : ih_TT} (h : ih_InvC T) (h4 : U 4 = T 4) (h05 : U 0 5 = T 0 5) : ih_InvC U := by
  unfold ih_InvC ih_ct ih_ch at h ⊢
  rw [h4, h05]; exact h
theorem iv_O {T U : ih_TT} (h : ih_InvO T) (h5 : U 5 = T 5) (h05 : U 0 5 = T 0 5) (h07 : U 0 7 = T 0 7) : ih_InvO U := by
  unfold ih_InvO ih_ct ih_pl ih_or at h ⊢
  rw [h5, h05, h07]; exact h
theorem iv_T {T U : ih_TT} (h : ih_InvT T) (h9 : U 9 = T 9) (h05 : U 0 5 = T 0 5) : ih_InvT U := by
  unfold ih_InvT ih_ct ih_tm at h ⊢
  rw [h9, h05]; exact h
theorem iv_A {T U : ih_TT} (h : ih_InvA T) (h21 : U 0 21 = T 0 21) : ih_InvA U := by
  unfold ih_InvA ih_td at h ⊢
  rw [h21]; exact h
theorem iv_all {T U : ih_TT} (h : ih_Inv T) (h1 : U 1 = T 1) (h2 : U 2 = T 2) (h4 : U 4 = T 4) (h5 : U 5 = T 5) (h9 : U 9 = T 9) (h05 : U 0 5 = T 0 5) (h07 : U 0 7 = T 0 7) (h21 : U 0 21 = T 0 21) : ih_Inv U :=
  ⟨iv_S h.1 h1 h2, iv_C h.2.1 h4 h05, iv_O h.2.2.1 h5 h05 h07, iv_T h.2.2.2.1 h9 h05, iv_A h.2.2.2.2 h21⟩
theorem iv_fd {T : ih_TT} (h : ih_Inv T) (n : Nat) : ih_Inv (ih_fd T n).2 := h
theorem iv_fe {T : ih_TT} (h : ih_Inv T) (n : Nat) : ih_Inv (ih_fe T n).2 := h
theorem iv_sheet {T : ih_TT} (h : ih_Inv T) (s l n : Int32) : ih_Inv (sp_sheet T s l n).2 := by
  unfold sp_sheet
  split
  · next hc =>
    split
    · exact iv_fd h 4
    · next hn =>
      obtain ⟨sn, hsn, rfl, hst⟩ := ih_nat (a := s) hc.1.1
      obtain ⟨nn, hnn, rfl, hnt⟩ := ih_nat (a := n) (by omega)
      obtain ⟨ln, hln, rfl, hlt⟩ := ih_nat (a := l) hc.2.1.1
      rw [ih_n_nI hsn]
      have key : ∀ U : ih_TT, U = ih_fill (ih_u2 (ih_u2 (ih_u2 T 0 1 (nI 0)) 1 sn (nI ln)) 2 sn (nI nn)) 3 (60 * sn) (nI 0) 60 → ih_Inv U := by
        intro U hU
        have hr : ∀ k, k ≠ 0 → k ≠ 1 → k ≠ 2 → k ≠ 3 → U k = T k := by
          intro k h0 h1 h2 h3
          rw [hU, ih_fill_row h3, ih_u2_row h2, ih_u2_row h1, ih_u2_row h0]
        have h0 : ∀ j, j ≠ 1 → U 0 j = T 0 j := by
          intro j hj
          rw [hU, ih_fill_row (by decide), ih_u2_k (by decide), ih_u2_k (by decide), ih_u2_j hj]
        refine ⟨fun q hq => ?_, iv_C h.2.1 (hr 4 (by decide) (by decide) (by decide) (by decide)) (h0 5 (by decide)), iv_O h.2.2.1 (hr 5 (by decide) (by decide) (by decide) (by decide)) (h0 5 (by decide)) (h0 7 (by decide)), iv_T h.2.2.2.1 (hr 9 (by decide) (by decide) (by decide) (by decide)) (h0 5 (by decide)), iv_A h.2.2.2.2 (h0 21 (by decide))⟩
        have u1 : U 1 q = ih_u2 T 1 sn (nI ln) 1 q := by
          rw [hU, ih_fill_row (by decide), ih_u2_k (by decide)]
          by_cases e : q = sn
          · rw [e, ih_u2_s, ih_u2_s]
          · rw [ih_u2_j e, ih_u2_j e, ih_u2_k (by decide)]
        have u2 : U 2 q = ih_u2 T 2 sn (nI nn) 2 q := by
          rw [hU, ih_fill_row (by decide)]
          by_cases e : q = sn
          · rw [e, ih_u2_s, ih_u2_s]
          · rw [ih_u2_j e, ih_u2_k (by decide), ih_u2_k (by decide), ih_u2_j e]
        unfold ih_mn
        rw [u1, u2]
        by_cases e : q = sn
        · subst e
          rw [ih_u2_s, ih_u2_s, ih_n_nI hnn]
          refine ⟨?_, rfl, by omega⟩
          rcases (show ln = 0 ∨ ln = 1 ∨ ln = 2 by omega) with rfl | rfl | rfl
          · exact Or.inr (Or.inl rfl)
          · exact Or.inr (Or.inr (Or.inl rfl))
          · exact Or.inr (Or.inr (Or.inr rfl))
        · rw [ih_u2_j e, ih_u2_j e]
          exact h.1 q hq
      exact key _ rfl
  · exact h
theorem iv_set {T : ih_TT} (h : ih_Inv T) (s i v : Int32) : ih_Inv (sp_set T s i v).2 := by
  unfold sp_set
  split
  · split
    · exact iv_fd h 1
    · split
      · exact iv_all h rfl rfl rfl rfl rfl rfl rfl rfl
      · exact iv_fd h 2
  · exact h
theorem ih_cpy_row {T : ih_TT} {a b n k : Nat} (h : k ≠ 3) : ih_cpy T a b n k = T k := by
  funext j
  unfold ih_cpy
  rw [if_neg (fun q => h q.1)]
theorem iv_copy {T : ih_TT} (h : ih_Inv T) (a i b j n : Int32) : ih_Inv (sp_copy T a i b j n).2 := by
  unfold sp_copy
  split
  · split
    · exact iv_fd h 1
    · split
      · split
        · show ih_Inv (ih_cpy (ih_u2 T 0 1 (nI 0)) _ _ _)
          exact iv_all (T := ih_u2 T 0 1 (nI 0)) (ih_Inv_st (v := nI 0) h) (ih_cpy_row (by decide)) (ih_cpy_row (by decide)) (ih_cpy_row (by decide)) (ih_cpy_row (by decide)) (ih_cpy_row (by decide)) (congrFun (ih_cpy_row (by decide)) _) (congrFun (ih_cpy_row (by decide)) _) (congrFun (ih_cpy_row (by decide)) _)
        · exact iv_fd h 2
      · exact iv_fd h 5
  · exact h
theorem iv_drop {T : ih_TT} (h : ih_Inv T) (s : Int32) : ih_Inv (sp_drop T s).2 := by
  unfold sp_drop
  split
  · split
    · exact iv_fd h 1
    · refine ⟨fun q hq => ?_, h.2.1, h.2.2.1, h.2.2.2.1, h.2.2.2.2⟩
      have h1 := h.1 q hq
      refine ⟨?_, h1.2⟩
      show ih_u2 (ih_u2 T 0 1 (nI 0)) 1 (ih_n s) (-1) 1 q = -1 ∨ ih_u2 (ih_u2 T 0 1 (nI 0)) 1 (ih_n s) (-1) 1 q = nI 0 ∨ ih_u2 (ih_u2 T 0 1 (nI 0)) 1 (ih_n s) (-1) 1 q = nI 1 ∨ ih_u2 (ih_u2 T 0 1 (nI 0)) 1 (ih_n s) (-1) 1 q = nI 2
      by_cases e : q = ih_n s
      · rw [e, ih_u2_s]; exact Or.inl rfl
      · rw [ih_u2_j e, ih_u2_k (by decide)]; exact h1.1
  · exact h
/-- one striker's row is new, the others are as they were -/
theorem iv_row {T U : ih_TT} (h : ih_InvC T) {c k0 : Nat} (h05 : U 0 5 = nI c) (hc12 : c ≤ 12) (hk : ∀ k, k < c → k ≠ k0 → k < ih_ct T) (hlo : ∀ k a, k < c → k ≠ k0 → a < 7 → U 4 (7 * k + a) = T 4 (7 * k + a)) {v : Nat → Nat} (hv : ∀ a, a < 7 → U 4 (7 * k0 + a) = nI (v a) ∧ v a ≤ 1000) (hs : v 0 + v 1 + v 2 + v 3 + v 4 + v 5 = 1000) : ih_InvC U := by
  have hct : ih_ct U = c := by unfold ih_ct; rw [h05, ih_n_nI (by omega)]
  refine ⟨by rw [hct]; exact h05, by rw [hct]; exact hc12, fun k hkc => ?_⟩
  rw [hct] at hkc
  by_cases e : k = k0
  · subst e
    have hch : ∀ a, a < 7 → ih_ch U k a = v a := fun a ha => by unfold ih_ch; rw [(hv a ha).1, ih_n_nI (by have := (hv a ha).2; omega)]
    refine ⟨fun a ha => ?_, ?_⟩
    · rw [hch a ha]; exact hv a ha
    · rw [hch 0 (by decide), hch 1 (by decide), hch 2 (by decide), hch 3 (by decide), hch 4 (by decide), hch 5 (by decide)]; exact hs
  · have h1 := h.2.2 k (hk k hkc e)
    have hch : ∀ a, a < 7 → ih_ch U k a = ih_ch T k a := fun a ha => by unfold ih_ch; rw [hlo k a hkc e ha]
    refine ⟨fun a ha => ?_, ?_⟩
    · rw [hch a ha, hlo k a hkc e ha]; exact h1.1 a ha
    · rw [hch 0 (by decide), hch 1 (by decide), hch 2 (by decide), hch 3 (by decide), hch 4 (by decide), hch 5 (by decide)]; exact h1.2
/-- a new striker -/
theorem iv_new {T U : ih_TT} (h : ih_Inv T) (hc12 : ih_ct T < 12) (h05 : U 0 5 = nI (ih_ct T + 1)) (hlo : ∀ j, j < 7 * ih_ct T → U 4 j = T 4 j) {v : Nat → Nat} (hv : ∀ a, a < 7 → U 4 (7 * ih_ct T + a) = nI (v a) ∧ v a ≤ 1000) (hs : v 0 + v 1 + v 2 + v 3 + v 4 + v 5 = 1000) (h1 : U 1 = T 1) (h2 : U 2 = T 2) (h5 : U 5 = T 5) (h9 : U 9 = T 9) (h07 : U 0 7 = T 0 7) (h21 : U 0 21 = T 0 21) : ih_Inv U := by
  have hct : ih_ct U = ih_ct T + 1 := by unfold ih_ct at h05 ⊢; rw [h05, ih_n_nI (by unfold ih_ct at hc12; omega)]
  refine ⟨iv_S h.1 h1 h2, iv_row h.2.1 (c := ih_ct T + 1) (k0 := ih_ct T) h05 (by omega) (fun k h1 h2 => by omega) (fun k a h1 h2 h3 => hlo _ (by omega)) hv hs, ⟨?_, ?_, fun j hj => ?_⟩, fun t ht => ?_, iv_A h.2.2.2.2 h21⟩
  · unfold ih_pl; rw [h07]; exact h.2.2.1.1
  · unfold ih_pl; rw [h07]; exact h.2.2.1.2.1
  · have hpl : ih_pl U = ih_pl T := by unfold ih_pl; rw [h07]
    have := h.2.2.1.2.2 j (by omega)
    unfold ih_or at this ⊢
    rw [h5, hct]
    exact ⟨this.1, by omega⟩
  · have := h.2.2.2.1 t ht
    unfold ih_tm at this ⊢
    rw [h9, hct]
    rcases this with q | q
    · exact Or.inl q
    · exact Or.inr ⟨q.1, by omega⟩
theorem iv_striker {T : ih_TT} (h : ih_Inv T) (a b c d e f : Int32) : ih_Inv (sp_striker T a b c d e f).2 := by
  unfold sp_striker
  split
  · next hc =>
    split
    · exact h
    · next hne =>
      have hc12 : ih_ct T < 12 := by have := h.2.1.2.1; omega
      obtain ⟨an, han, rfl, hant⟩ := ih_nat (a := a) hc.1.1
      obtain ⟨bn, hbn, rfl, hbnt⟩ := ih_nat (a := b) hc.2.1.1
      obtain ⟨cn, hcn, rfl, hcnt⟩ := ih_nat (a := c) hc.2.2.1.1
      obtain ⟨dn, hdn, rfl, hdnt⟩ := ih_nat (a := d) hc.2.2.2.1.1
      obtain ⟨en, hen, rfl, hent⟩ := ih_nat (a := e) hc.2.2.2.2.1.1
      obtain ⟨fn_, hfn, rfl, hfnt⟩ := ih_nat (a := f) hc.2.2.2.2.2.1.1
      dsimp only
      generalize hq : ih_ct T = q
      rw [hq] at hc12
      refine iv_new (v := fun z => if z = 0 then 1000 - an - bn - cn - dn - en else if z = 1 then an else if z = 2 then bn else if z = 3 then cn else if z = 4 then dn else if z = 5 then en else fn_) h (by rw [hq]; exact hc12) (by rw [hq, ih_u2_s]) (fun j hj => ?_) (fun z hz => ?_) (by simp; omega) rfl rfl rfl rfl rfl rfl
      · rw [hq] at hj
        unfold ih_set1
        rw [ih_u2_k (by decide), ih_u2_j (by omega), ih_u2_j (by omega), ih_u2_j (by omega), ih_u2_j (by omega), ih_u2_j (by omega), ih_u2_j (by omega), ih_u2_j (by omega)]
      · rw [hq]
        unfold ih_set1
        rcases (show z = 0 ∨ z = 1 ∨ z = 2 ∨ z = 3 ∨ z = 4 ∨ z = 5 ∨ z = 6 by omega) with rfl | rfl | rfl | rfl | rfl | rfl | rfl
        · refine ⟨?_, by simp; omega⟩
          rw [ih_u2_k (by decide), show 7 * q + 0 = 7 * q from rfl, ih_u2_s]
          simp only [ih_u2, true_and, if_true, Nat.add_left_cancel_iff]
          simp
          rw [pk_sub (by omega), pk_sub (by omega), pk_sub (by omega), pk_sub (by omega), pk_sub (by omega)]
        all_goals refine ⟨?_, by simp; omega⟩; simp [ih_u2]
  · exact h
theorem iv_train {T : ih_TT} (h : ih_Inv T) (k a v : Int32) : ih_Inv (sp_train T k a v).2 := by
  unfold sp_train
  split
  · next hc =>
    split
    · exact h
    · next hne =>
      obtain ⟨kn, hkn, rfl, hknt⟩ := ih_nat (a := k) hc.1.1
      obtain ⟨an, han, rfl, hant⟩ := ih_nat (a := a) (by omega)
      obtain ⟨vn, hvn, rfl, hvnt⟩ := ih_nat (a := v) hc.2.2.1
      rw [ih_n_nI hkn, ih_n_nI han]
      rw [ih_n_nI hkn, ih_n_nI han, ih_n_nI hvn] at hne
      dsimp only
      have hkc : kn < ih_ct T := by omega
      have hrow := h.2.1.2.2 kn hkc
      have hr : ∀ k, k ≠ 4 → ih_set1 (ih_u2 T 4 (7 * kn + an) (nI vn)) kn k = T k := fun k hk => (ih_u2_row hk).trans (ih_u2_row hk)
      refine ⟨iv_S h.1 (hr 1 (by decide)) (hr 2 (by decide)), ?_, iv_O h.2.2.1 (hr 5 (by decide)) (congrFun (hr 0 (by decide)) 5) (congrFun (hr 0 (by decide)) 7), iv_T h.2.2.2.1 (hr 9 (by decide)) (congrFun (hr 0 (by decide)) 5), iv_A h.2.2.2.2 (congrFun (hr 0 (by decide)) 21)⟩
      have hlo : ∀ k a, k < ih_ct T → k ≠ kn → a < 7 → ih_set1 (ih_u2 T 4 (7 * kn + an) (nI vn)) kn 4 (7 * k + a) = T 4 (7 * k + a) := by
        intro k a h1 h2 h3
        unfold ih_set1
        rw [ih_u2_j (by omega), ih_u2_j (by omega)]
      have h05 : ih_set1 (ih_u2 T 4 (7 * kn + an) (nI vn)) kn 0 5 = nI (ih_ct T) := (congrFun (hr 0 (by decide)) 5).trans h.2.1.1
      have hx : ∀ z, z < 7 → ih_u2 T 4 (7 * kn + an) (nI vn) 4 (7 * kn + z) = nI (if z = an then vn else ih_ch T kn z) ∧ (if z = an then vn else ih_ch T kn z) ≤ 1000 := by
        intro z hz
        by_cases e : z = an
        · subst e
          rw [if_pos rfl, ih_u2_s]
          exact ⟨rfl, by omega⟩
        · rw [if_neg e, ih_u2_j (by omega)]
          exact hrow.1 z hz
      have b0 := (hrow.1 0 (by decide)).2
      have hs := hrow.2
      have hsum : (if 1 = an then vn else ih_ch T kn 1) + (if 2 = an then vn else ih_ch T kn 2) + (if 3 = an then vn else ih_ch T kn 3) + (if 4 = an then vn else ih_ch T kn 4) + (if 5 = an then vn else ih_ch T kn 5) ≤ 1000 := by
        rcases (show an = 1 ∨ an = 2 ∨ an = 3 ∨ an = 4 ∨ an = 5 ∨ an = 6 by omega) with rfl | rfl | rfl | rfl | rfl | rfl <;> simp <;> omega
      refine iv_row (v := fun z => if z = 0 then 1000 - (if 1 = an then vn else ih_ch T kn 1) - (if 2 = an then vn else ih_ch T kn 2) - (if 3 = an then vn else ih_ch T kn 3) - (if 4 = an then vn else ih_ch T kn 4) - (if 5 = an then vn else ih_ch T kn 5) else if z = an then vn else ih_ch T kn z) h.2.1 (k0 := kn) h05 h.2.1.2.1 (fun k h1 _ => h1) hlo (fun z hz => ?_) ?_
      · by_cases e0 : z = 0
        · subst e0
          refine ⟨?_, by rw [if_pos rfl]; omega⟩
          unfold ih_set1
          rw [show 7 * kn + 0 = 7 * kn from rfl, ih_u2_s, (hx 1 (by decide)).1, (hx 2 (by decide)).1, (hx 3 (by decide)).1, (hx 4 (by decide)).1, (hx 5 (by decide)).1, if_pos rfl]
          rw [pk_sub (by omega), pk_sub (by omega), pk_sub (by omega), pk_sub (by omega), pk_sub (by omega)]
        · rw [if_neg e0]
          refine ⟨?_, (hx z hz).2⟩
          unfold ih_set1
          rw [ih_u2_j (by omega)]
          exact (hx z hz).1
      · rw [if_pos rfl, if_neg (show ¬ 1 = 0 by decide), if_neg (show ¬ 2 = 0 by decide), if_neg (show ¬ 3 = 0 by decide), if_neg (show ¬ 4 = 0 by decide), if_neg (show ¬ 5 = 0 by decide)]
        omega
  · exact h
theorem iv_order {T : ih_TT} (h : ih_Inv T) (s i n : Int32) : ih_Inv (sp_order T s i n).2 := by
  unfold sp_order
  split
  · next hc =>
    split
    · exact iv_fe h 1
    · split
      · split
        · next hok =>
          obtain ⟨nn, hnn, rfl, hnt⟩ := ih_nat (a := n) (by omega)
          rw [ih_n_nI hnn] at hok ⊢
          dsimp only
          have hr : ∀ k, k ≠ 0 → k ≠ 5 → ih_cp5 (ih_u2 (ih_u2 T 0 1 (nI 0)) 0 7 (nI nn)) (60 * ih_n s + ih_n i) nn k = T k := by
            intro k h0 h5
            rw [ih_cp5_row h5, ih_u2_row h0, ih_u2_row h0]
          have h0 : ∀ j, j ≠ 1 → j ≠ 7 → ih_cp5 (ih_u2 (ih_u2 T 0 1 (nI 0)) 0 7 (nI nn)) (60 * ih_n s + ih_n i) nn 0 j = T 0 j := by
            intro j h1 h7
            rw [ih_cp5_row (by decide), ih_u2_j h7, ih_u2_j h1]
          have h07 : ih_cp5 (ih_u2 (ih_u2 T 0 1 (nI 0)) 0 7 (nI nn)) (60 * ih_n s + ih_n i) nn 0 7 = nI nn := by rw [ih_cp5_row (by decide), ih_u2_s]
          have hpl : ih_pl (ih_cp5 (ih_u2 (ih_u2 T 0 1 (nI 0)) 0 7 (nI nn)) (60 * ih_n s + ih_n i) nn) = nn := by unfold ih_pl; rw [h07, ih_n_nI hnn]
          have hct : ih_ct (ih_cp5 (ih_u2 (ih_u2 T 0 1 (nI 0)) 0 7 (nI nn)) (60 * ih_n s + ih_n i) nn) = ih_ct T := by unfold ih_ct; rw [h0 5 (by decide) (by decide)]
          refine ⟨iv_S h.1 (hr 1 (by decide) (by decide)) (hr 2 (by decide) (by decide)), iv_C h.2.1 (hr 4 (by decide) (by decide)) (h0 5 (by decide) (by decide)), ⟨by rw [hpl]; exact h07, by rw [hpl]; omega, fun j hj => ?_⟩, iv_T h.2.2.2.1 (hr 9 (by decide) (by decide)) (h0 5 (by decide) (by decide)), iv_A h.2.2.2.2 (h0 21 (by decide) (by decide))⟩
          rw [hpl] at hj
          rw [hct]
          have hj2 := hok j hj
          unfold ih_or
          rw [ih_cp5_at, if_pos ⟨rfl, hj⟩, ih_u2_k (by decide), ih_u2_k (by decide)]
          generalize T 3 (60 * ih_n s + ih_n i + j) = z at hj2
          obtain ⟨zn, hzn, rfl, hzt⟩ := ih_nat (a := z) hj2.1
          rw [ih_n_nI hzn]
          exact ⟨rfl, by omega⟩
        · exact h
      · exact iv_fe h 2
  · exact h
theorem iv_swapped {T : ih_TT} (h : ih_Inv T) : ih_Inv (sp_swapped T).2 := by
  unfold sp_swapped
  split
  · exact h
  · have hz : ∀ m, m < ih_fi (ih_stp T) 40 → ih_stp T m = false := by
      rcases Nat.lt_or_ge (ih_fi (ih_stp T) 40) 40 with q | q
      · exact (ih_fi_sp q).2
      · intro m hm
        have hle := ih_fi_le (ih_stp T) 40
        cases hb : ih_stp T m with
        | false => rfl
        | true =>
          exfalso
          have hex : ∃ k, k ≤ m ∧ ih_stp T k = true ∧ ∀ j, j < k → ih_stp T j = false := by
            clear hle hm q
            induction m using Nat.strongRecOn with
            | ind m ih =>
              by_cases hx : ∃ j, j < m ∧ ih_stp T j = true
              · obtain ⟨j, hj, hj2⟩ := hx
                obtain ⟨k, a, b, c⟩ := ih j hj hj2
                exact ⟨k, by omega, b, c⟩
              · refine ⟨m, Nat.le_refl m, hb, fun j hj => ?_⟩
                cases hjj : ih_stp T j with
                | false => rfl
                | true => exact absurd ⟨j, hj, hjj⟩ hx
          obtain ⟨k, k1, k2, k3⟩ := hex
          have := ih_fi_eq k2 k3 (n := 40) (by omega)
          omega
    generalize ih_fi (ih_stp T) 40 = q at hz ⊢
    exact (ih_it_Inv h q hz).1
theorem iv_best {T : ih_TT} (h : ih_Inv T) : ih_Inv (sp_best T).2 := by
  unfold sp_best
  split
  · exact h
  · next hc =>
    obtain ⟨hIs, hps⟩ := ih_Ts_I h
    have hb : ih_Inv (ih_bst T) := by
      unfold ih_bst
      generalize ih_bi (ih_Ts T) (ih_N (ih_Ts T)) = q
      exact (ih_pn_I hIs (by omega) q).1
    generalize ih_bst T = q at hb ⊢
    exact hb
theorem iv_team {T : ih_TT} (h : ih_Inv T) (t k : Int32) : ih_Inv (sp_team T t k).2 := by
  unfold sp_team
  split
  · next hc =>
    refine ⟨h.1, h.2.1, h.2.2.1, fun q hq => ?_, h.2.2.2.2⟩
    obtain ⟨kn, hkn, rfl, hkt⟩ := ih_nat (a := k) hc.2.1
    unfold ih_tm
    show ih_u2 T 9 (ih_n t) (nI kn) 9 q = -1000000 ∨ (ih_u2 T 9 (ih_n t) (nI kn) 9 q = nI (ih_n (ih_u2 T 9 (ih_n t) (nI kn) 9 q)) ∧ ih_n (ih_u2 T 9 (ih_n t) (nI kn) 9 q) < ih_ct T)
    by_cases e : q = ih_n t
    · rw [e, ih_u2_s, ih_n_nI hkn]
      exact Or.inr ⟨rfl, by omega⟩
    · rw [ih_u2_j e]
      exact h.2.2.2.1 q hq
  · exact h
theorem iv_log {T : ih_TT} (h : ih_Inv T) (s i n w : Int32) : ih_Inv (sp_log T s i n w).2 := by
  unfold sp_log
  split
  · split
    · exact iv_fe h 1
    · split
      · exact ih_Inv_st h
      · exact iv_fe h 2
  · exact h
theorem iv_as {T : ih_TT} (h : ih_Inv T) (k o : Int32) : ih_Inv (sp_as T k o).2 := by
  unfold sp_as
  split
  · split
    · exact ih_Inv_st h
    · exact iv_fd h 3
  · exact h
theorem ih_lc_at {T : ih_TT} {k : Nat} {v : Nat → Nat} {a : Nat} (ha : 0 < a) : ∀ n, a ≤ n → ih_lc T k v n 4 (7 * k + a) = nI (v a)
  | 0, h => by omega
  | n + 1, h => by
    show ih_u2 (ih_lc T k v n) 4 (7 * k + (n + 1)) (nI (v (n + 1))) 4 (7 * k + a) = _
    by_cases e : a = n + 1
    · rw [e, ih_u2_s]
    · rw [ih_u2_j (by omega), ih_lc_at ha n (by omega)]
theorem iv_parts {f : Nat → Nat} {al : Nat} (hal : 0 < al) (h : f 1 + f 2 + f 3 + f 4 + f 5 ≤ al) : f 1 * 1000 / al + f 2 * 1000 / al + f 3 * 1000 / al + f 4 * 1000 / al + f 5 * 1000 / al ≤ 1000 := by
  have d : ∀ a, f a * 1000 / al * al ≤ f a * 1000 := fun a => Nat.div_mul_le_self _ _
  refine Nat.le_of_mul_le_mul_right (c := al) ?_ hal
  rw [Nat.add_mul, Nat.add_mul, Nat.add_mul, Nat.add_mul]
  have d1 := d 1
  have d2 := d 2
  have d3 := d 3
  have d4 := d 4
  have d5 := d 5
  omega
theorem iv_learn {T : ih_TT} (h : ih_Inv T) (s i n p : Int32) : ih_Inv (sp_learn T s i n p).2 := by
  unfold sp_learn
  split
  · next hc =>
    split
    · exact h
    · next hne =>
      split
      · exact iv_fe h 1
      · split
        · split
          · exact h
          · next hal =>
            have hc12 : ih_ct T < 12 := by have := h.2.1.2.1; omega
            obtain ⟨pn, hpn, rfl, hpt⟩ := ih_nat (a := p) hc.2.2.1
            generalize (ih_lg T (60 * ih_n s + ih_n i) (ih_n n)).2.2.2.2 = f at hal ⊢
            have hpa := iv_parts (f := f) (al := ih_al f) (by omega) (by unfold ih_al; omega)
            dsimp only
            obtain ⟨g, hg⟩ : ∃ g : Nat → Nat, g = (fun a => f a * 1000 / ih_al f) := ⟨_, rfl⟩
            rw [← hg]
            replace hpa : g 1 + g 2 + g 3 + g 4 + g 5 ≤ 1000 := by rw [hg]; exact hpa
            generalize hq : ih_ct T = q
            rw [hq] at hc12
            refine iv_new (v := fun z => if z = 0 then 1000 - g 1 - g 2 - g 3 - g 4 - g 5 else if z = 6 then pn else g z) h (by rw [hq]; exact hc12) (by rw [hq, ih_u2_s]) (fun j hj => ?_) (fun z hz => ?_) ?_ ?_ ?_ ?_ ?_ ?_ ?_
            · rw [hq] at hj
              unfold ih_set1
              rw [ih_u2_k (by decide), ih_u2_j (by omega), ih_u2_j (by omega), ih_lc_lo hj, ih_u2_k (by decide)]
            · rw [hq]
              have hx : ∀ z, 0 < z → z < 6 → ih_u2 (ih_lc (ih_u2 T 0 1 (nI 0)) q g 5) 4 (7 * q + 6) (nI pn) 4 (7 * q + z) = nI (g z) := fun z h0 h6 => by
                rw [ih_u2_j (by omega), ih_lc_at h0 5 (by omega)]
              unfold ih_set1
              by_cases e0 : z = 0
              · subst e0
                refine ⟨?_, by rw [if_pos rfl]; omega⟩
                rw [ih_u2_k (by decide), show 7 * q + 0 = 7 * q from rfl, ih_u2_s, hx 1 (by decide) (by decide), hx 2 (by decide) (by decide), hx 3 (by decide) (by decide), hx 4 (by decide) (by decide), hx 5 (by decide) (by decide), if_pos rfl]
                rw [pk_sub (by omega), pk_sub (by omega), pk_sub (by omega), pk_sub (by omega), pk_sub (by omega)]
              · rw [if_neg e0, ih_u2_k (by decide), ih_u2_j (by omega)]
                by_cases e6 : z = 6
                · subst e6
                  rw [if_pos rfl, ih_u2_s]
                  exact ⟨rfl, by omega⟩
                · rw [if_neg e6, hx z (by omega) (by omega)]
                  refine ⟨rfl, ?_⟩
                  rcases (show z = 1 ∨ z = 2 ∨ z = 3 ∨ z = 4 ∨ z = 5 by omega) with rfl | rfl | rfl | rfl | rfl <;> omega
            · simp
              omega
            · unfold ih_set1
              rw [ih_u2_row (by decide), ih_u2_row (by decide), ih_u2_row (by decide), ih_lc_row (by decide), ih_u2_row (by decide)]
            · unfold ih_set1
              rw [ih_u2_row (by decide), ih_u2_row (by decide), ih_u2_row (by decide), ih_lc_row (by decide), ih_u2_row (by decide)]
            · unfold ih_set1
              rw [ih_u2_row (by decide), ih_u2_row (by decide), ih_u2_row (by decide), ih_lc_row (by decide), ih_u2_row (by decide)]
            · unfold ih_set1
              rw [ih_u2_row (by decide), ih_u2_row (by decide), ih_u2_row (by decide), ih_lc_row (by decide), ih_u2_row (by decide)]
            · unfold ih_set1
              rw [ih_u2_j (by decide), ih_u2_k (by decide), ih_u2_k (by decide), ih_lc_row (by decide), ih_u2_j (by decide)]
            · unfold ih_set1
              rw [ih_u2_j (by decide), ih_u2_k (by decide), ih_u2_k (by decide), ih_lc_row (by decide), ih_u2_j (by decide)]
        · exact iv_fe h 2
  · exact h
theorem iv_bg {T : ih_TT} (h : ih_Inv T) (b : Nat) : ih_Inv (ih_bg T b) := by
  have hA := ih_bg_A (b := b) h.2.2.2.2
  unfold ih_bg at hA ⊢
  split
  · next hc => rw [if_pos hc] at hA; exact ⟨h.1, h.2.1, h.2.2.1, h.2.2.2.1, hA⟩
  · exact h
theorem iv_trS {T : ih_TT} (h : ih_Inv T) (kd : Nat) : ih_Inv (ih_trS T kd) := by
  unfold ih_trS
  split
  · exact iv_bg (iv_bg (iv_bg h _) _) _
  · exact iv_bg (iv_bg h _) _
theorem iv_trM {T : ih_TT} (h : ih_Inv T) (kd : Nat) : ih_Inv (ih_trM T kd) := by
  unfold ih_trM
  split
  · exact iv_bg h _
  · split
    · exact iv_bg (iv_bg h _) _
    · split
      · exact iv_trS (iv_bg (iv_bg (iv_bg h _) _) _) _
      · exact iv_bg (iv_bg h _) _
theorem iv_trZ {T : ih_TT} (h : ih_Inv T) (kd : Nat) : ih_Inv (ih_trZ T kd) := by
  unfold ih_trZ
  split
  · exact iv_bg h _
  · split
    · exact iv_trS h _
    · split
      · exact iv_trS h _
      · exact iv_trM (iv_bg (iv_bg h _) _) _
theorem iv_ask {T : ih_TT} (h : ih_Inv T) (k w : Int32) : ih_Inv (sp_ask T k w).2 := by
  unfold sp_ask
  split
  · split
    · exact iv_trZ (ih_Inv_t0 h) _
    · exact iv_trM (ih_Inv_t0 h) _
  · exact h
