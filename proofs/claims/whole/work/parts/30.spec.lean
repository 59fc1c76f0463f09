/-! the state that both sides stand for: rows of ints, as the reference has them (0: fields 1 status, 5 strikers, 7 places, 21 traced; 1 lane, 2 many, 3 item, 4 chance, 5 order, 9 team, 13 trace) -/
abbrev ih_TT : Type := Nat → Nat → Int32
def ih_vis (k j : Nat) : Bool := if k = 0 then (decide (j = 1) || decide (j = 5) || decide (j = 7) || decide (j = 21)) else (decide (k ≤ 5) || decide (k = 8) || decide (k = 9) || decide (k = 13))
def ih_RM (S : ih_Sg) (T : ih_TT) : Prop := ih_PM S ∧ ∀ k j, ih_vis k j = true → S.1 k j = T k j
def ih_n (v : Int32) : Nat := v.toNatClampNeg
theorem ih_n_nI {n : Nat} (h : n < 2147483648) : ih_n (nI n) = n := nI_clamp h
theorem ih_n_of {v : Int32} {n : Nat} (h : v = nI n) (hn : n < 2147483648) : ih_n v = n := by rw [h]; exact nI_clamp hn
def ih_ct (T : ih_TT) : Nat := ih_n (T 0 5)
def ih_pl (T : ih_TT) : Nat := ih_n (T 0 7)
def ih_ch (T : ih_TT) (k a : Nat) : Nat := ih_n (T 4 (7 * k + a))
def ih_or (T : ih_TT) (j : Nat) : Nat := ih_n (T 5 j)
def ih_mn (T : ih_TT) (s : Nat) : Nat := ih_n (T 2 s)
def ih_tm (T : ih_TT) (t : Nat) : Nat := ih_n (T 9 t)
def ih_td (T : ih_TT) : Nat := ih_n (T 0 21)
def ih_InvS (T : ih_TT) : Prop := ∀ s, s < 8 → (T 1 s = -1 ∨ T 1 s = nI 0 ∨ T 1 s = nI 1 ∨ T 1 s = nI 2) ∧ T 2 s = nI (ih_mn T s) ∧ ih_mn T s ≤ 60
def ih_InvC (T : ih_TT) : Prop := T 0 5 = nI (ih_ct T) ∧ ih_ct T ≤ 12 ∧ ∀ k, k < ih_ct T → (∀ a, a < 7 → T 4 (7 * k + a) = nI (ih_ch T k a) ∧ ih_ch T k a ≤ 1000) ∧ ih_ch T k 0 + ih_ch T k 1 + ih_ch T k 2 + ih_ch T k 3 + ih_ch T k 4 + ih_ch T k 5 = 1000
def ih_InvO (T : ih_TT) : Prop := T 0 7 = nI (ih_pl T) ∧ ih_pl T ≤ 9 ∧ ∀ j, j < ih_pl T → T 5 j = nI (ih_or T j) ∧ ih_or T j < ih_ct T
def ih_InvT (T : ih_TT) : Prop := ∀ t, t < 2 → T 9 t = -1000000 ∨ (T 9 t = nI (ih_tm T t) ∧ ih_tm T t < ih_ct T)
def ih_InvA (T : ih_TT) : Prop := T 0 21 = nI (ih_td T) ∧ ih_td T ≤ 16
def ih_Inv (T : ih_TT) : Prop := ih_InvS T ∧ ih_InvC T ∧ ih_InvO T ∧ ih_InvT T ∧ ih_InvA T
section IhM
variable {x : ih_Cx} {w : ih_Wd} {sh : ih_Sh} {A : Nat → Prop} {Q : State → Prop} {nL cells slots pc : Nat} {lv : List (Nat × Value)} {st : List Value} {S : ih_Sg} {T : ih_TT}
theorem m_w {k j : Nat} {v : Int32} (hM : ih_RM S T) (kk : ∀ S', ih_RM S' (ih_u2 T k j v) → ih_Mw x w sh A Q nL cells slots pc lv st S') : ih_Mw x w sh A Q nL cells slots pc lv st (ih_sI S k j v) := by
  refine kk _ ⟨hM.1, fun a b h => ?_⟩
  show ih_u2 S.1 k j v a b = ih_u2 T k j v a b
  unfold ih_u2
  split
  · rfl
  · exact hM.2 a b h
theorem m_hide {k j : Nat} {v : Int32} (hM : ih_RM S T) (hv : ih_vis k j = false) (kk : ∀ S', ih_RM S' T → ih_Mw x w sh A Q nL cells slots pc lv st S') : ih_Mw x w sh A Q nL cells slots pc lv st (ih_sI S k j v) := by
  refine kk _ ⟨hM.1, fun a b h => ?_⟩
  show ih_u2 S.1 k j v a b = T a b
  unfold ih_u2
  split
  · next h2 => rw [h2.1, h2.2, hv] at h; cases h
  · exact hM.2 a b h
end IhM
theorem ih_b0 {c : Prop} [Decidable c] {r : Int32} (hr : r = if c then nI 1 else nI 0) (h : r = 0) : ¬ c := by
  intro hc
  rw [if_pos hc] at hr
  rw [h] at hr
  exact absurd hr (by decide)
theorem ih_b1 {c : Prop} [Decidable c] {r : Int32} (hr : r = if c then nI 1 else nI 0) (h : ¬ r = 0) : c := by
  by_cases hc : c
  · exact hc
  · rw [if_neg hc] at hr
    exact absurd hr h
def ih_bo (p : Prop) [Decidable p] : Int32 := if p then nI 1 else nI 0
def ih_fill (T : ih_TT) (k b : Nat) (v : Int32) : Nat → ih_TT
  | 0 => T
  | n + 1 => ih_u2 (ih_fill T k b v n) k (b + n) v
/-! what each call answers and makes of the state -/
def ih_isS (s : Int32) : Prop := 0 ≤ s.toInt ∧ s.toInt ≤ 7
def ih_fd (T : ih_TT) (n : Nat) : Int32 × ih_TT := ((-1000010) - nI n, ih_u2 (ih_u2 T 0 1 (nI 0)) 0 1 (nI n))
def ih_fe (T : ih_TT) (n : Nat) : Int32 × ih_TT := ((-1000010) - nI n, ih_u2 T 0 1 (nI n))
def sp_sheet (T : ih_TT) (s l n : Int32) : Int32 × ih_TT :=
  if (0 ≤ s.toInt ∧ s.toInt ≤ 7) ∧ (0 ≤ l.toInt ∧ l.toInt ≤ 2) ∧ n.toInt ≤ 60 then
    if n.toInt < 0 then ih_fd T 4 else (n, ih_fill (ih_u2 (ih_u2 (ih_u2 T 0 1 (nI 0)) 1 (ih_n s) l) 2 (ih_n s) n) 3 (60 * ih_n s) (nI 0) 60)
  else (-1000001, T)
def ih_cut (l v : Int32) : Int32 := if l = 0 then v.toInt8.toInt32 else if l = nI 1 then v.toInt16.toInt32 else v
def sp_set (T : ih_TT) (s i v : Int32) : Int32 × ih_TT :=
  if 0 ≤ s.toInt ∧ s.toInt ≤ 7 then
    if (T 1 (ih_n s)).toInt < 0 then ih_fd T 1
    else if 0 ≤ i.toInt ∧ i.toInt < ih_mn T (ih_n s) then (ih_cut (T 1 (ih_n s)) v, ih_u2 (ih_u2 T 0 1 (nI 0)) 3 (60 * ih_n s + ih_n i) (ih_cut (T 1 (ih_n s)) v))
    else ih_fd T 2
  else (-1000001, T)
/-- n items from a to b, as they were ahead -/
def ih_cpy (T : ih_TT) (a b n : Nat) : ih_TT := fun k j => if k = 3 ∧ b ≤ j ∧ j < b + n then T 3 (a + (j - b)) else T k j
def sp_copy (T : ih_TT) (a i b j n : Int32) : Int32 × ih_TT :=
  if (0 ≤ a.toInt ∧ a.toInt ≤ 7) ∧ (0 ≤ b.toInt ∧ b.toInt ≤ 7) then
    if (T 1 (ih_n a)).toInt < 0 ∨ (T 1 (ih_n b)).toInt < 0 then ih_fd T 1
    else if T 1 (ih_n a) = T 1 (ih_n b) then
      if 0 ≤ i.toInt ∧ 0 ≤ j.toInt ∧ 0 ≤ n.toInt ∧ i.toInt + n.toInt ≤ ih_mn T (ih_n a) ∧ j.toInt + n.toInt ≤ ih_mn T (ih_n b) then (n, ih_cpy (ih_u2 T 0 1 (nI 0)) (60 * ih_n a + ih_n i) (60 * ih_n b + ih_n j) (ih_n n))
      else ih_fd T 2
    else ih_fd T 5
  else (-1000001, T)
def sp_drop (T : ih_TT) (s : Int32) : Int32 × ih_TT :=
  if 0 ≤ s.toInt ∧ s.toInt ≤ 7 then
    if (T 1 (ih_n s)).toInt < 0 then ih_fd T 1 else (T 2 (ih_n s), ih_u2 (ih_u2 T 0 1 (nI 0)) 1 (ih_n s) (-1))
  else (-1000001, T)
def sp_behind (s a b : Int32) : Int32 :=
  if (0 ≤ s.toInt ∧ s.toInt ≤ 23) ∧ (0 ≤ a.toInt ∧ a.toInt ≤ 8) ∧ (0 ≤ b.toInt ∧ b.toInt ≤ 1) then
    if ih_may (ih_n s) (ih_n a) = true then (if b = 0 then nI (ih_nx (ih_n s) (ih_n a)) else nI (ih_rn (ih_n s) (ih_n a))) else -1000000
  else -1000001
def ih_set1 (T : ih_TT) (k : Nat) : ih_TT := ih_u2 T 4 (7 * k) (nI 1000 - T 4 (7 * k + 1) - T 4 (7 * k + 2) - T 4 (7 * k + 3) - T 4 (7 * k + 4) - T 4 (7 * k + 5))
def sp_striker (T : ih_TT) (a b c d e f : Int32) : Int32 × ih_TT :=
  if (0 ≤ a.toInt ∧ a.toInt ≤ 1000) ∧ (0 ≤ b.toInt ∧ b.toInt ≤ 1000) ∧ (0 ≤ c.toInt ∧ c.toInt ≤ 1000) ∧ (0 ≤ d.toInt ∧ d.toInt ≤ 1000) ∧ (0 ≤ e.toInt ∧ e.toInt ≤ 1000) ∧ (0 ≤ f.toInt ∧ f.toInt ≤ 1000) ∧ a.toInt + b.toInt + c.toInt + d.toInt + e.toInt ≤ 1000 then
    if ih_ct T = 12 then (-1000003, T)
    else (nI (ih_ct T), ih_u2 (ih_set1 (ih_u2 (ih_u2 (ih_u2 (ih_u2 (ih_u2 (ih_u2 T 4 (7 * ih_ct T + 1) a) 4 (7 * ih_ct T + 2) b) 4 (7 * ih_ct T + 3) c) 4 (7 * ih_ct T + 4) d) 4 (7 * ih_ct T + 5) e) 4 (7 * ih_ct T + 6) f) (ih_ct T)) 0 5 (nI (ih_ct T + 1)))
  else (-1000001, T)
def sp_train (T : ih_TT) (k a v : Int32) : Int32 × ih_TT :=
  if (0 ≤ k.toInt ∧ k.toInt < ih_ct T) ∧ (1 ≤ a.toInt ∧ a.toInt ≤ 6) ∧ (0 ≤ v.toInt ∧ v.toInt ≤ 1000) then
    if a.toInt < 6 ∧ ih_ch T (ih_n k) 0 + ih_ch T (ih_n k) (ih_n a) < ih_n v then (-1000002, T)
    else (T 4 (7 * ih_n k + ih_n a), ih_set1 (ih_u2 T 4 (7 * ih_n k + ih_n a) v) (ih_n k))
  else (-1000001, T)
def sp_chance (T : ih_TT) (k a : Int32) : Int32 := if (0 ≤ k.toInt ∧ k.toInt < ih_ct T) ∧ (0 ≤ a.toInt ∧ a.toInt ≤ 6) then T 4 (7 * ih_n k + ih_n a) else -1000001
/-- n items from b on come to row k of T -/
def ih_cp5 (T : ih_TT) (b : Nat) : Nat → ih_TT
  | 0 => T
  | n + 1 => ih_u2 (ih_cp5 T b n) 5 n (T 3 (b + n))
def sp_order (T : ih_TT) (s i n : Int32) : Int32 × ih_TT :=
  if (0 ≤ s.toInt ∧ s.toInt ≤ 7) ∧ (1 ≤ n.toInt ∧ n.toInt ≤ 9) then
    if (T 1 (ih_n s)).toInt < 0 then ih_fe T 1
    else if 0 ≤ i.toInt ∧ i.toInt + n.toInt ≤ ih_mn T (ih_n s) then
      if ∀ k, k < ih_n n → 0 ≤ (T 3 (60 * ih_n s + ih_n i + k)).toInt ∧ (T 3 (60 * ih_n s + ih_n i + k)).toInt < ih_ct T then (n, ih_cp5 (ih_u2 (ih_u2 T 0 1 (nI 0)) 0 7 n) (60 * ih_n s + ih_n i) (ih_n n))
      else (-1000001, T)
    else ih_fe T 2
  else (-1000001, T)
def sp_striking (T : ih_TT) (p : Int32) : Int32 := if p = -1000000 then T 0 7 else if 0 ≤ p.toInt ∧ p.toInt < ih_pl T then T 5 (ih_n p) else -1000001
def sp_team (T : ih_TT) (t k : Int32) : Int32 × ih_TT := if (0 ≤ t.toInt ∧ t.toInt ≤ 1) ∧ (0 ≤ k.toInt ∧ k.toInt < ih_ct T) then (T 9 (ih_n t), ih_u2 T 9 (ih_n t) k) else (-1000001, T)
def ih_kind (T : ih_TT) (k : Nat) : Nat := if ih_ch T k 0 ≤ 650 then (if 60 ≤ ih_ch T k 4 + ih_ch T k 5 then 2 else 1) else if 700 ≤ ih_ch T k 6 then 3 else 0
def ih_isOf (i o : Nat) : Bool := decide (o = 0) || decide (i = o) || (decide (o = 1) && decide (i = 2))
def sp_kind (T : ih_TT) (k : Int32) : Int32 := if 0 ≤ k.toInt ∧ k.toInt < ih_ct T then nI (ih_kind T (ih_n k)) else -1000001
def sp_as (T : ih_TT) (k o : Int32) : Int32 × ih_TT := if (0 ≤ k.toInt ∧ k.toInt < ih_ct T) ∧ (0 ≤ o.toInt ∧ o.toInt ≤ 3) then (if ih_isOf (ih_kind T (ih_n k)) (ih_n o) = true then (T 4 (7 * ih_n k), ih_u2 T 0 1 (nI 0)) else ih_fd T 3) else (-1000001, T)
/-- a body begins: its number into the trace -/
def ih_bg (T : ih_TT) (b : Nat) : ih_TT := if ih_td T < 16 then ih_u2 (ih_u2 T 13 (ih_td T) (nI b)) 0 21 (nI (ih_td T + 1)) else T
def sp_trace (T : ih_TT) (i : Int32) : Int32 := if 0 ≤ i.toInt ∧ i.toInt < ih_td T then T 13 (ih_n i) else -1000000
def ih_fc (p : Nat → Bool) : Nat → Nat
  | 0 => 0
  | n + 1 => ih_fc p n + (if p n = true then 1 else 0)
theorem ih_fc_le (p : Nat → Bool) : ∀ n, ih_fc p n ≤ n
  | 0 => Nat.le_refl 0
  | n + 1 => by
    have := ih_fc_le p n
    unfold ih_fc
    split <;> omega
def ih_trS (T : ih_TT) (kd : Nat) : ih_TT := ih_bg (ih_bg (if kd = 2 then ih_bg T 12 else T) 11) 10
def ih_vlS (c : Nat → Nat) (kd : Nat) : Nat := if kd = 2 then 2 * (c 6 + 1000 - c 0) else c 6 + 1000 - c 0
def ih_trM (T : ih_TT) (kd : Nat) : ih_TT := if kd = 0 then ih_bg T 20 else if kd = 1 then ih_bg (ih_bg T 21) 20 else if kd = 2 then ih_trS (ih_bg (ih_bg (ih_bg T 22) 21) 20) 2 else ih_bg (ih_bg T 23) 20
theorem ih_trS_1 (T : ih_TT) : ih_trS T 1 = ih_bg (ih_bg T 11) 10 := by rw [ih_trS, if_neg (by decide)]
theorem ih_trS_2 (T : ih_TT) : ih_trS T 2 = ih_bg (ih_bg (ih_bg T 12) 11) 10 := by rw [ih_trS, if_pos rfl]
theorem ih_vlS_1 (c : Nat → Nat) : ih_vlS c 1 = c 6 + 1000 - c 0 := by rw [ih_vlS, if_neg (by decide)]
theorem ih_vlS_2 (c : Nat → Nat) : ih_vlS c 2 = 2 * (c 6 + 1000 - c 0) := by rw [ih_vlS, if_pos rfl]
theorem ih_trM_0 (T : ih_TT) : ih_trM T 0 = ih_bg T 20 := by rw [ih_trM, if_pos rfl]
theorem ih_trM_1 (T : ih_TT) : ih_trM T 1 = ih_bg (ih_bg T 21) 20 := by rw [ih_trM, if_neg (by decide), if_pos rfl]
theorem ih_trM_2 (T : ih_TT) : ih_trM T 2 = ih_trS (ih_bg (ih_bg (ih_bg T 22) 21) 20) 2 := by rw [ih_trM, if_neg (by decide), if_neg (by decide), if_pos rfl]
theorem ih_trM_3 (T : ih_TT) : ih_trM T 3 = ih_bg (ih_bg T 23) 20 := by rw [ih_trM, if_neg (by decide), if_neg (by decide), if_neg (by decide)]
def ih_vlM (c : Nat → Nat) (kd : Nat) : Nat := if kd = 0 then c 5 else if kd = 1 then c 5 + 100 else if kd = 2 then c 5 + 100 + ih_vlS c 2 else c 5 / 2
theorem ih_vlM_0 (c : Nat → Nat) : ih_vlM c 0 = c 5 := by rw [ih_vlM, if_pos rfl]
theorem ih_vlM_1 (c : Nat → Nat) : ih_vlM c 1 = c 5 + 100 := by rw [ih_vlM, if_neg (by decide), if_pos rfl]
theorem ih_vlM_2 (c : Nat → Nat) : ih_vlM c 2 = c 5 + 100 + ih_vlS c 2 := by rw [ih_vlM, if_neg (by decide), if_neg (by decide), if_pos rfl]
theorem ih_vlM_3 (c : Nat → Nat) : ih_vlM c 3 = c 5 / 2 := by rw [ih_vlM, if_neg (by decide), if_neg (by decide), if_neg (by decide)]
def ih_trZ (T : ih_TT) (kd : Nat) : ih_TT := if kd = 0 then ih_bg T 10 else if kd = 1 then ih_trS T 1 else if kd = 2 then ih_trS T 2 else ih_trM (ih_bg (ih_bg T 13) 10) 3
theorem ih_trZ_0 (T : ih_TT) : ih_trZ T 0 = ih_bg T 10 := by rw [ih_trZ, if_pos rfl]
theorem ih_trZ_1 (T : ih_TT) : ih_trZ T 1 = ih_trS T 1 := by rw [ih_trZ, if_neg (by decide), if_pos rfl]
theorem ih_trZ_2 (T : ih_TT) : ih_trZ T 2 = ih_trS T 2 := by rw [ih_trZ, if_neg (by decide), if_neg (by decide), if_pos rfl]
theorem ih_trZ_3 (T : ih_TT) : ih_trZ T 3 = ih_trM (ih_bg (ih_bg T 13) 10) 3 := by rw [ih_trZ, if_neg (by decide), if_neg (by decide), if_neg (by decide)]
def ih_vlZ (c : Nat → Nat) (kd : Nat) : Nat := if kd = 0 then c 6 else if kd = 1 then ih_vlS c 1 else if kd = 2 then ih_vlS c 2 else c 6 - c 5 / 2
theorem ih_vlZ_0 (c : Nat → Nat) : ih_vlZ c 0 = c 6 := by rw [ih_vlZ, if_pos rfl]
theorem ih_vlZ_1 (c : Nat → Nat) : ih_vlZ c 1 = ih_vlS c 1 := by rw [ih_vlZ, if_neg (by decide), if_pos rfl]
theorem ih_vlZ_2 (c : Nat → Nat) : ih_vlZ c 2 = ih_vlS c 2 := by rw [ih_vlZ, if_neg (by decide), if_neg (by decide), if_pos rfl]
theorem ih_vlZ_3 (c : Nat → Nat) : ih_vlZ c 3 = c 6 - c 5 / 2 := by rw [ih_vlZ, if_neg (by decide), if_neg (by decide), if_neg (by decide)]
def sp_ask (T : ih_TT) (k w : Int32) : Int32 × ih_TT :=
  if (0 ≤ k.toInt ∧ k.toInt < ih_ct T) ∧ (0 ≤ w.toInt ∧ w.toInt ≤ 1) then
    if w = 0 then (nI (ih_vlZ (ih_ch T (ih_n k)) (ih_kind T (ih_n k))), ih_trZ (ih_u2 T 0 21 (nI 0)) (ih_kind T (ih_n k)))
    else (nI (ih_vlM (ih_ch T (ih_n k)) (ih_kind T (ih_n k))), ih_trM (ih_u2 T 0 21 (nI 0)) (ih_kind T (ih_n k)))
  else (-1000001, T)
def sp_count (T : ih_TT) (w : Int32) : Int32 :=
  if w = nI 0 then nI (ih_fc (fun s => decide (0 ≤ (T 1 s).toInt)) 8)
  else if w = nI 1 then T 0 5
  else if w = nI 2 ∨ w = nI 3 ∨ w = nI 4 then nI (ih_fc (fun k => ih_isOf (ih_kind T k) (ih_n w - 1)) (ih_ct T))
  else if w = nI 5 then T 0 7
  else if w = nI 6 then nI ((if T 9 0 = -1000000 then 0 else 1) + (if T 9 1 = -1000000 then 0 else 1))
  else -1000001
