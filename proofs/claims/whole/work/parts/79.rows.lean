/-! rows of numbers: the next one depends on comparisons alone -/
def rf_x (f : Nat → Nat) (a b : Nat) : Nat → Nat := fun j => if j = b then f a else if j = a then f b else f j
def rf_v (f : Nat → Nat) (a b : Nat) : Nat → Nat → Nat
  | 0 => f
  | r + 1 => rf_x (rf_v f a b r) (a + r) (b - r)
def rf_q (f : Nat → Nat) (p : Nat) : Nat := of_nk f (p - 1)
def rf_j (f : Nat → Nat) (p : Nat) : Nat := of_nj f (f (rf_q f p - 1)) (p - 1)
def rf_n (f : Nat → Nat) (p : Nat) : Nat → Nat := rf_v (rf_x f (rf_q f p - 1) (rf_j f p)) (rf_q f p) (p - 1) ((p - rf_q f p) / 2)
theorem rf_or_xc {T : ih_TT} {a b : Nat} : ih_or (ih_xc T a b) = rf_x (ih_or T) a b := by
  funext j
  rw [ih_xc_or]
  rfl
theorem rf_or_rvs {T : ih_TT} {a b : Nat} : ∀ r, ih_or (ih_rvs T a b r) = rf_v (ih_or T) a b r
  | 0 => rfl
  | r + 1 => by
    show ih_or (ih_xc (ih_rvs T a b r) (a + r) (b - r)) = rf_x (rf_v (ih_or T) a b r) (a + r) (b - r)
    rw [rf_or_xc, rf_or_rvs r]
theorem rf_or_nxt {T : ih_TT} : ih_or (ih_nxt T) = rf_n (ih_or T) (ih_pl T) := by
  unfold ih_nxt
  rw [rf_or_rvs, rf_or_xc]
  rfl
/-- two rows are ordered alike -/
def rf_oe (p : Nat) (f g : Nat → Nat) : Prop := ∀ i j, i < p → j < p → (f i ≤ f j ↔ g i ≤ g j)
/-- two rows are the same rearrangement of two first ones -/
def rf_R (p : Nat) (f0 g0 f g : Nat → Nat) : Prop := ∃ t : Nat → Nat, (∀ j, j < p → t j < p) ∧ ∀ j, j < p → f j = f0 (t j) ∧ g j = g0 (t j)
theorem rf_R_oe {p : Nat} {f0 g0 f g : Nat → Nat} (h : rf_oe p f0 g0) (hR : rf_R p f0 g0 f g) : rf_oe p f g := by
  obtain ⟨t, h1, h2⟩ := hR
  intro i j hi hj
  rw [(h2 i hi).1, (h2 j hj).1, (h2 i hi).2, (h2 j hj).2]
  exact h _ _ (h1 i hi) (h1 j hj)
theorem rf_R_x {p : Nat} {f0 g0 f g : Nat → Nat} (hR : rf_R p f0 g0 f g) {a b : Nat} (ha : a < p) (hb : b < p) : rf_R p f0 g0 (rf_x f a b) (rf_x g a b) := by
  obtain ⟨t, h1, h2⟩ := hR
  refine ⟨rf_x t a b, fun j hj => ?_, fun j hj => ?_⟩
  · unfold rf_x
    split
    · exact h1 a ha
    · split
      · exact h1 b hb
      · exact h1 j hj
  · unfold rf_x
    split
    · exact h2 a ha
    · split
      · exact h2 b hb
      · exact h2 j hj
theorem rf_R_v {p : Nat} {f0 g0 f g : Nat → Nat} (hR : rf_R p f0 g0 f g) {a b : Nat} : ∀ r, (∀ i, i < r → a + i < p ∧ b - i < p) → rf_R p f0 g0 (rf_v f a b r) (rf_v g a b r)
  | 0, _ => hR
  | r + 1, h => rf_R_x (rf_R_v hR r (fun i hi => h i (by omega))) (h r (by omega)).1 (h r (by omega)).2
theorem of_nk_oe {p : Nat} {f g : Nat → Nat} (h : rf_oe p f g) : ∀ q, q < p → of_nk f q = of_nk g q
  | 0, _ => rfl
  | q + 1, hq => by
    unfold of_nk
    have h1 := h (q + 1) q hq (by omega)
    by_cases h2 : f (q + 1) ≤ f q
    · rw [if_pos h2, if_pos (h1.mp h2), of_nk_oe h q (by omega)]
    · rw [if_neg h2, if_neg (fun z => h2 (h1.mpr z))]
theorem of_nj_oe {p : Nat} {f g : Nat → Nat} (h : rf_oe p f g) {x : Nat} (hx : x < p) : ∀ q, q < p → of_nj f (f x) q = of_nj g (g x) q
  | 0, _ => rfl
  | q + 1, hq => by
    unfold of_nj
    have h1 := h (q + 1) x hq hx
    by_cases h2 : f (q + 1) ≤ f x
    · rw [if_pos h2, if_pos (h1.mp h2), of_nj_oe h hx q (by omega)]
    · rw [if_neg h2, if_neg (fun z => h2 (h1.mpr z))]
theorem rf_q_oe {p : Nat} {f g : Nat → Nat} (h : rf_oe p f g) (hp : 0 < p) : rf_q f p = rf_q g p := of_nk_oe h (p - 1) (by omega)
theorem rf_R_n {p : Nat} {f0 g0 f g : Nat → Nat} (h0 : rf_oe p f0 g0) (hp : 0 < p) (hR : rf_R p f0 g0 f g) : rf_R p f0 g0 (rf_n f p) (rf_n g p) := by
  have h := rf_R_oe h0 hR
  have hq := rf_q_oe h hp
  have hql : rf_q g p ≤ p - 1 := of_nk_le _ _
  have hjl : rf_j g p ≤ p - 1 := of_nj_le _ _ _
  have hj : rf_j f p = rf_j g p := by
    unfold rf_j
    rw [hq]
    exact of_nj_oe h (by omega) (p - 1) (by omega)
  unfold rf_n
  rw [hq, hj]
  exact rf_R_v (rf_R_x hR (by omega) (by omega)) _ (fun i hi => by omega)
/-- of an even row, whether the row with its halves exchanged is smaller -/
def rf_hs (f : Nat → Nat) (h : Nat) : Nat → Bool
  | 0 => false
  | m + 1 => if f (h - (m + 1)) = f (h - (m + 1) + h) then rf_hs f h m else decide (f (h - (m + 1) + h) < f (h - (m + 1)))
def rf_hm (f : Nat → Nat) (p : Nat) : Bool := if p / 2 * 2 = p then rf_hs f (p / 2) (p / 2) else false
def rf_hx (f : Nat → Nat) (p : Nat) : Nat → Nat := fun j => f ((j + p / 2) % p)
theorem rf_hs_oe {p h : Nat} {f g : Nat → Nat} (ho : rf_oe p f g) (hh : h + h ≤ p) : ∀ m, m ≤ h → rf_hs f h m = rf_hs g h m
  | 0, _ => rfl
  | m + 1, hm => by
    unfold rf_hs
    have h1 := ho (h - (m + 1)) (h - (m + 1) + h) (by omega) (by omega)
    have h2 := ho (h - (m + 1) + h) (h - (m + 1)) (by omega) (by omega)
    by_cases e : f (h - (m + 1)) = f (h - (m + 1) + h)
    · have e2 : g (h - (m + 1)) = g (h - (m + 1) + h) := Nat.le_antisymm (h1.mp (Nat.le_of_eq e)) (h2.mp (Nat.le_of_eq e.symm))
      rw [if_pos e, if_pos e2, rf_hs_oe ho hh m (by omega)]
    · have e2 : ¬ g (h - (m + 1)) = g (h - (m + 1) + h) := fun z => e (Nat.le_antisymm (h1.mpr (Nat.le_of_eq z)) (h2.mpr (Nat.le_of_eq z.symm)))
      rw [if_neg e, if_neg e2]
      refine decide_eq_decide.mpr ?_
      have h3 := Nat.not_le (a := f (h - (m + 1))) (b := f (h - (m + 1) + h))
      have h4 := Nat.not_le (a := g (h - (m + 1))) (b := g (h - (m + 1) + h))
      rw [← h3, ← h4, h1]
theorem rf_hm_oe {p : Nat} {f g : Nat → Nat} (ho : rf_oe p f g) : rf_hm f p = rf_hm g p := by
  unfold rf_hm
  split
  · exact rf_hs_oe ho (by omega) _ (Nat.le_refl _)
  · rfl
/-! the same with lists, for the kernel -/
def rl_g (l : List Nat) (j : Nat) : Nat := l.getD j 0
def rl_t (f : Nat → Nat) (p : Nat) : List Nat := (List.range p).map f
theorem rl_gt {f : Nat → Nat} {p j : Nat} (h : j < p) : rl_g (rl_t f p) j = f j := by
  unfold rl_g rl_t
  rw [List.getD_eq_getElem?_getD, List.getElem?_map, List.getElem?_range h]
  rfl
def rl_f : List Nat → (List Nat → Bool) → Bool
  | [], k => k []
  | 0 :: l, k => rl_f l (fun m => k (0 :: m))
  | (n + 1) :: l, k => rl_f l (fun m => k ((n + 1) :: m))
theorem rl_f_eq : ∀ (l : List Nat) (k : List Nat → Bool), rl_f l k = k l
  | [], k => rfl
  | 0 :: l, k => rl_f_eq l (fun m => k (0 :: m))
  | (n + 1) :: l, k => rl_f_eq l (fun m => k ((n + 1) :: m))
def rl_e : List Nat → List Nat → Bool
  | [], [] => true
  | a :: l, b :: m => Nat.beq a b && rl_e l m
  | _, _ => false
theorem rl_e_eq : ∀ (l m : List Nat), rl_e l m = true → l = m
  | [], [], _ => rfl
  | [], _ :: _, h => by cases h
  | _ :: _, [], h => by cases h
  | a :: l, b :: m, h => by
    unfold rl_e at h
    rw [Bool.and_eq_true] at h
    rw [Nat.eq_of_beq_eq_true h.1, rl_e_eq l m h.2]
def rl_m (l : List Nat) : List (List Nat) → Bool
  | [] => false
  | a :: t => rl_e a l || rl_m l t
theorem rl_m_in {l : List Nat} : ∀ {t : List (List Nat)}, rl_m l t = true → l ∈ t
  | [], h => by cases h
  | a :: t, h => by
    unfold rl_m at h
    rw [Bool.or_eq_true] at h
    rcases h with h | h
    · rw [rl_e_eq _ _ h]; exact List.mem_cons_self
    · exact List.mem_cons_of_mem _ (rl_m_in h)
def rc_x (f : Nat → Nat) (a b j : Nat) : Nat := bif Nat.beq j b then f a else bif Nat.beq j a then f b else f j
theorem rc_beq {a b : Nat} {α : Type} {x y : α} : (bif Nat.beq a b then x else y) = if a = b then x else y := by
  by_cases h : a = b
  · subst h
    rw [if_pos rfl, Nat.beq_refl, cond_true]
  · have e : Nat.beq a b = false := by
      cases hb : Nat.beq a b with
      | false => rfl
      | true => exact absurd (Nat.eq_of_beq_eq_true hb) h
    rw [if_neg h, e, cond_false]
theorem rc_ble {a b : Nat} {α : Type} {x y : α} : (bif Nat.ble a b then x else y) = if a ≤ b then x else y := by
  by_cases h : a ≤ b
  · rw [if_pos h, Nat.ble_eq_true_of_le h, cond_true]
  · have e : Nat.ble a b = false := by
      cases hb : Nat.ble a b with
      | false => rfl
      | true => exact absurd (Nat.le_of_ble_eq_true hb) h
    rw [if_neg h, e, cond_false]
theorem rc_x_eq (f : Nat → Nat) (a b : Nat) : rc_x f a b = rf_x f a b := by
  funext j
  unfold rc_x rf_x
  rw [rc_beq, rc_beq]
def rc_v (f : Nat → Nat) (a b : Nat) : Nat → Nat → Nat
  | 0 => f
  | r + 1 => rc_x (rc_v f a b r) (a + r) (b - r)
theorem rc_v_eq (f : Nat → Nat) (a b : Nat) : ∀ r, rc_v f a b r = rf_v f a b r
  | 0 => rfl
  | r + 1 => by
    show rc_x (rc_v f a b r) _ _ = rf_x (rf_v f a b r) _ _
    rw [rc_x_eq, rc_v_eq f a b r]
def rc_k (f : Nat → Nat) : Nat → Nat
  | 0 => 0
  | q + 1 => bif Nat.ble (f (q + 1)) (f q) then rc_k f q else q + 1
theorem rc_k_eq (f : Nat → Nat) : ∀ q, rc_k f q = of_nk f q
  | 0 => rfl
  | q + 1 => by
    unfold rc_k of_nk
    rw [rc_ble, rc_k_eq f q]
def rc_j (f : Nat → Nat) (x : Nat) : Nat → Nat
  | 0 => 0
  | q + 1 => bif Nat.ble (f (q + 1)) x then rc_j f x q else q + 1
theorem rc_j_eq (f : Nat → Nat) (x : Nat) : ∀ q, rc_j f x q = of_nj f x q
  | 0 => rfl
  | q + 1 => by
    unfold rc_j of_nj
    rw [rc_ble, rc_j_eq f x q]
def rc_hs (f : Nat → Nat) (h : Nat) : Nat → Bool
  | 0 => false
  | m + 1 => bif Nat.beq (f (h - (m + 1))) (f (h - (m + 1) + h)) then rc_hs f h m else Nat.ble (f (h - (m + 1) + h) + 1) (f (h - (m + 1)))
theorem rc_hs_eq (f : Nat → Nat) (h : Nat) : ∀ m, rc_hs f h m = rf_hs f h m
  | 0 => rfl
  | m + 1 => by
    unfold rc_hs rf_hs
    rw [rc_beq, rc_hs_eq f h m]
    split
    · rfl
    · by_cases e : f (h - (m + 1) + h) < f (h - (m + 1))
      · rw [decide_eq_true e, Nat.ble_eq_true_of_le e]
      · rw [decide_eq_false e]
        cases hb : Nat.ble (f (h - (m + 1) + h) + 1) (f (h - (m + 1))) with
        | false => rfl
        | true => exact absurd (Nat.le_of_ble_eq_true hb) e
/-- a number brought to its end -/
def rl_k (n : Nat) (k : Nat → Bool) : Bool := match n with
  | 0 => k 0
  | m + 1 => k (m + 1)
theorem rl_k_eq (n : Nat) (k : Nat → Bool) : rl_k n k = k n := by cases n <;> rfl
def rl_r (p : Nat) : Nat → List Nat → List (List Nat) → Bool
  | 0, _, _ => false
  | n + 1, l, acc => (bif (bif Nat.beq (p / 2 * 2) p then rc_hs (rl_g l) (p / 2) (p / 2) else false) then rl_f (rl_t (rf_hx (rl_g l) p) p) (fun m => rl_m m acc) else true) && rl_k (rc_k (rl_g l) (p - 1)) (fun q => bif Nat.beq q 0 then true else rl_k (rc_j (rl_g l) (rl_g l (q - 1)) (p - 1)) (fun j => rl_f (rl_t (rc_v (rc_x (rl_g l) (q - 1) j) q (p - 1) ((p - q) / 2)) p) (fun m => rl_r p n m (l :: acc))))
theorem rl_r_s {p n : Nat} {l : List Nat} {acc : List (List Nat)} : rl_r p (n + 1) l acc = ((bif rf_hm (rl_g l) p then rl_m (rl_t (rf_hx (rl_g l) p) p) acc else true) && (bif Nat.beq (rf_q (rl_g l) p) 0 then true else rl_r p n (rl_t (rf_n (rl_g l) p) p) (l :: acc))) := by
  have e1 : (bif Nat.beq (p / 2 * 2) p then rc_hs (rl_g l) (p / 2) (p / 2) else false) = rf_hm (rl_g l) p := by
    unfold rf_hm
    rw [rc_beq, rc_hs_eq]
  have e2 : rc_k (rl_g l) (p - 1) = rf_q (rl_g l) p := rc_k_eq _ _
  have e3 : rc_j (rl_g l) (rl_g l (rf_q (rl_g l) p - 1)) (p - 1) = rf_j (rl_g l) p := rc_j_eq _ _ _
  rw [rl_r, e1, e2, rl_f_eq, rl_k_eq, rl_k_eq, rl_f_eq, e3, rc_x_eq, rc_v_eq]
  rfl
def rl_c (p : Nat) (l : List Nat) : Nat → List Nat
  | 0 => l
  | n + 1 => rl_t (rf_n (rl_g (rl_c p l n)) p) p
theorem rl_c_s {p : Nat} {l : List Nat} : ∀ n, rl_c p (rl_t (rf_n (rl_g l) p) p) n = rl_c p l (n + 1)
  | 0 => rfl
  | n + 1 => by
    show rl_t (rf_n (rl_g (rl_c p (rl_t (rf_n (rl_g l) p) p) n)) p) p = rl_t (rf_n (rl_g (rl_c p l (n + 1))) p) p
    rw [rl_c_s n]
def rl_hx (p : Nat) (l : List Nat) : List Nat := rl_t (rf_hx (rl_g l) p) p
theorem rl_r_ok {p : Nat} : ∀ (n : Nat) (l : List Nat) (acc : List (List Nat)), rl_r p n l acc = true → ∃ N, N < n ∧ rf_q (rl_g (rl_c p l N)) p = 0 ∧ (∀ m, m < N → ¬ rf_q (rl_g (rl_c p l m)) p = 0) ∧ ∀ i, i ≤ N → rf_hm (rl_g (rl_c p l i)) p = true → (rl_hx p (rl_c p l i) ∈ acc ∨ ∃ m, m < i ∧ rl_c p l m = rl_hx p (rl_c p l i))
  | 0, _, _, h => by cases h
  | n + 1, l, acc, h => by
    rw [rl_r_s, Bool.and_eq_true] at h
    obtain ⟨h1, h2⟩ := h
    have h0 : rf_hm (rl_g l) p = true → rl_hx p l ∈ acc := by
      intro e
      rw [e, cond_true] at h1
      exact rl_m_in h1
    by_cases e : rf_q (rl_g l) p = 0
    · refine ⟨0, by omega, e, fun m hm => absurd hm (Nat.not_lt_zero m), fun i hi hx => ?_⟩
      obtain rfl : i = 0 := by omega
      exact Or.inl (h0 hx)
    · have eb : Nat.beq (rf_q (rl_g l) p) 0 = false := by
        cases hb : Nat.beq (rf_q (rl_g l) p) 0 with
        | false => rfl
        | true => exact absurd (Nat.eq_of_beq_eq_true hb) e
      rw [eb, cond_false] at h2
      obtain ⟨N, g1, g2, g3, g4⟩ := rl_r_ok n _ _ h2
      refine ⟨N + 1, by omega, by rw [← rl_c_s]; exact g2, fun m hm => ?_, fun i hi hx => ?_⟩
      · cases m with
        | zero => exact e
        | succ m => rw [← rl_c_s]; exact g3 m (by omega)
      · cases i with
        | zero => exact Or.inl (h0 hx)
        | succ i =>
          rw [← rl_c_s] at hx ⊢
          rcases g4 i (by omega) hx with q | ⟨m, q1, q2⟩
          · rcases List.mem_cons.mp q with q | q
            · exact Or.inr ⟨0, by omega, q.symm⟩
            · exact Or.inl q
          · exact Or.inr ⟨m + 1, by omega, by rw [← rl_c_s]; exact q2⟩
/-- ranks of a sorted row, told by where it grows -/
def rk_n (b : Nat → Bool) : Nat → Nat
  | 0 => 0
  | j + 1 => rk_n b j + (bif b j then 1 else 0)
def rk_b (b0 b1 b2 b3 b4 : Bool) (j : Nat) : Bool := match j with
  | 0 => b0
  | 1 => b1
  | 2 => b2
  | 3 => b3
  | _ => b4
set_option maxRecDepth 100000 in
theorem rl_all_s : ∀ b0 b1 b2 b3 : Bool, ∀ p, p < 6 → 0 < p → rl_r p 720 (rl_t (rk_n (rk_b b0 b1 b2 b3 true)) p) [] = true := by decide +kernel
