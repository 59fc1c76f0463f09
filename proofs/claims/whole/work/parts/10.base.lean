/-! the world by places: cell k lies at the address ad k; ints, longs and references by (place of the cell, slot) -/
abbrev ih_Sg : Type := (Nat → Nat → Int32) × (Nat → Nat → Int64) × (Nat → Nat → Option Nat)
abbrev ih_Sh : Type := (Nat → Nat) × (Nat → Nat) × Nat
abbrev ih_Wd : Type := va_G × (Nat → ClassId) × (Nat → Nat)
def ih_rv (ad : Nat → Nat) (r : Option Nat) : Value := va_rf (r.map ad)
theorem ih_rv_some {ad : Nat → Nat} {i : Nat} : ih_rv ad (some i) = .ref (ad i) := rfl
/-- which fields of a class are references -/
def ih_fl (kd : Nat) : List Bool := match kd with
  | 0 => [true, false]
  | 1 => [true, true]
  | 2 => [true, true, true, false, true, true, true, true, true]
  | 3 => [true, true, false, false, false, false]
  | 4 => [true, true, true, true, false, true, true, false]
  | 5 => [true, false, false, false]
  | 6 => [true, false]
  | 7 => [true, true, false, true, true, true, true, true, false]
  | 8 => [false, false, true, true, true, false, true, false, true, true, true, true, true, true, true, false, false, false, false, true, true, false]
  | _ => []
def ih_fs (ad : Nat → Nat) (kd : Nat) (I : Nat → Int32) (R : Nat → Option Nat) : List Value := (List.range (ih_fl kd).length).map (fun j => if (ih_fl kd).getD j false = true then ih_rv ad (R j) else .int (I j))
theorem ih_fs_get {ad : Nat → Nat} {kd : Nat} {I : Nat → Int32} {R : Nat → Option Nat} {j : Nat} {b : Bool} (h : (ih_fl kd)[j]? = some b) : (ih_fs ad kd I R)[j]? = some (if b = true then ih_rv ad (R j) else .int (I j)) := by
  have hj : j < (ih_fl kd).length := by
    rcases Nat.lt_or_ge j (ih_fl kd).length with q | q
    · exact q
    · rw [List.getElem?_eq_none q] at h; cases h
  have hb : (ih_fl kd).getD j false = b := by rw [List.getD_eq_getElem?_getD, h]; rfl
  rw [ih_fs, List.getElem?_map, List.getElem?_range hj, Option.map_some, hb]
theorem ih_fs_len {ad : Nat → Nat} {kd : Nat} {I : Nat → Int32} {R : Nat → Option Nat} : (ih_fs ad kd I R).length = (ih_fl kd).length := by
  rw [ih_fs, List.length_map, List.length_range]
theorem ih_fs_ext {ad : Nat → Nat} {kd : Nat} {I I' : Nat → Int32} {R R' : Nat → Option Nat} {j : Nat} {v : Value} (hj : j < (ih_fl kd).length)
    (hv : (if (ih_fl kd).getD j false = true then ih_rv ad (R' j) else .int (I' j)) = v) (ho : ∀ i, i ≠ j → I' i = I i ∧ R' i = R i) : (ih_fs ad kd I R).set j v = ih_fs ad kd I' R' := by
  apply List.ext_getElem?
  intro i
  rw [List.getElem?_set, ih_fs_len]
  rcases Nat.lt_or_ge i (ih_fl kd).length with hi | hi
  · by_cases hij : j = i
    · subst hij
      rw [if_pos rfl, if_pos hj, ih_fs, List.getElem?_map, List.getElem?_range hj, Option.map_some, hv]
    · rw [if_neg hij, ih_fs, ih_fs, List.getElem?_map, List.getElem?_map, List.getElem?_range hi, Option.map_some, Option.map_some, (ho i (fun h => hij h.symm)).1, (ho i (fun h => hij h.symm)).2]
  · have h1 : (ih_fs ad kd I R)[i]? = none := List.getElem?_eq_none (by rw [ih_fs_len]; exact hi)
    have h2 : (ih_fs ad kd I' R')[i]? = none := List.getElem?_eq_none (by rw [ih_fs_len]; exact hi)
    by_cases hij : j = i
    · subst hij; omega
    · rw [if_neg hij, h1, h2]
def ih_ce (w : ih_Wd) (kd ln : Nat) (I : Nat → Int32) (J : Nat → Int64) (R : Nat → Option Nat) : va_E :=
  if kd < 9 then .inr (kd, ih_fs w.2.2 kd I R) else if kd = 9 then .inl (w.2.1 0, ln, .inl I) else if kd = 10 then .inl (w.2.1 1, ln, .inr (.inl J)) else .inl (w.2.1 (kd - 9), ln, .inr (.inr (.inr (.inr (fun j => (R j).map w.2.2)))))
def ih_wl (w : ih_Wd) (sh : ih_Sh) (S : ih_Sg) : va_W := (List.range sh.2.2).map (fun k => (w.2.2 k, ih_ce w (sh.1 k) (sh.2.1 k) (S.1 k) (S.2.1 k) (S.2.2 k)))
theorem ih_wl_get {w : ih_Wd} {sh : ih_Sh} {S : ih_Sg} {k : Nat} (h : k < sh.2.2) : (ih_wl w sh S)[k]? = some (w.2.2 k, ih_ce w (sh.1 k) (sh.2.1 k) (S.1 k) (S.2.1 k) (S.2.2 k)) := by
  rw [ih_wl, List.getElem?_map, List.getElem?_range h, Option.map_some]
theorem ih_wl_len {w : ih_Wd} {sh : ih_Sh} {S : ih_Sg} : (ih_wl w sh S).length = sh.2.2 := by
  rw [ih_wl, List.length_map, List.length_range]
theorem ih_wl_set {w : ih_Wd} {sh : ih_Sh} {S S' : ih_Sg} {k : Nat} {e : va_E} (he : e = ih_ce w (sh.1 k) (sh.2.1 k) (S'.1 k) (S'.2.1 k) (S'.2.2 k)) (ho : ∀ i, i ≠ k → S'.1 i = S.1 i ∧ S'.2.1 i = S.2.1 i ∧ S'.2.2 i = S.2.2 i) : (ih_wl w sh S).set k (w.2.2 k, e) = ih_wl w sh S' := by
  apply List.ext_getElem?
  intro i
  rw [List.getElem?_set, ih_wl_len]
  rcases Nat.lt_or_ge i sh.2.2 with hi | hi
  · by_cases hik : k = i
    · subst hik
      rw [if_pos rfl, if_pos hi, ih_wl_get hi, he]
    · obtain ⟨h1, h2, h3⟩ := ho i (fun h => hik h.symm)
      rw [if_neg hik, ih_wl_get hi, ih_wl_get hi, h1, h2, h3]
  · have h1 : (ih_wl w sh S)[i]? = none := List.getElem?_eq_none (by rw [ih_wl_len]; exact hi)
    have h2 : (ih_wl w sh S')[i]? = none := List.getElem?_eq_none (by rw [ih_wl_len]; exact hi)
    by_cases hik : k = i
    · subst hik; rw [if_pos rfl, if_neg (by omega), h2]
    · rw [if_neg hik, h1, h2]
/-- one place of a table of tables -/
def ih_u2 {α : Type} (f : Nat → Nat → α) (k j : Nat) (v : α) : Nat → Nat → α := fun a b => if a = k ∧ b = j then v else f a b
/-- one row of a table of tables -/
def ih_u1 {α : Type} (f : Nat → Nat → α) (k : Nat) (g : Nat → α) : Nat → Nat → α := fun a b => if a = k then g b else f a b
theorem ih_u2_s {α : Type} {f : Nat → Nat → α} {k j : Nat} {v : α} : ih_u2 f k j v k j = v := by simp [ih_u2]
theorem ih_u2_k {α : Type} {f : Nat → Nat → α} {k j a b : Nat} {v : α} (h : a ≠ k) : ih_u2 f k j v a b = f a b := by simp [ih_u2, h]
theorem ih_u2_j {α : Type} {f : Nat → Nat → α} {k j a b : Nat} {v : α} (h : b ≠ j) : ih_u2 f k j v a b = f a b := by simp [ih_u2, h]
theorem ih_u2_row {α : Type} {f : Nat → Nat → α} {k j a : Nat} {v : α} (h : a ≠ k) : ih_u2 f k j v a = f a := by funext b; simp [ih_u2, h]
theorem ih_u1_row {α : Type} {f : Nat → Nat → α} {k a : Nat} {g : Nat → α} (h : a ≠ k) : ih_u1 f k g a = f a := by funext b; simp [ih_u1, h]
theorem ih_u1_s {α : Type} {f : Nat → Nat → α} {k : Nat} {g : Nat → α} : ih_u1 f k g k = g := by funext b; simp [ih_u1]
def ih_sI (S : ih_Sg) (k j : Nat) (v : Int32) : ih_Sg := (ih_u2 S.1 k j v, S.2.1, S.2.2)
def ih_sJ (S : ih_Sg) (k j : Nat) (v : Int64) : ih_Sg := (S.1, ih_u2 S.2.1 k j v, S.2.2)
def ih_sR (S : ih_Sg) (k j : Nat) (v : Option Nat) : ih_Sg := (S.1, S.2.1, ih_u2 S.2.2 k j v)
def ih_sA (S : ih_Sg) (k : Nat) (g : Nat → Int32) : ih_Sg := (ih_u1 S.1 k g, S.2.1, S.2.2)
def ih_sL (S : ih_Sg) (k : Nat) (g : Nat → Int64) : ih_Sg := (S.1, ih_u1 S.2.1 k g, S.2.2)
/-- what the tables say: classes, array classes, the links between nest mates -/
def ih_K (w : ih_Wd) (U : State) : Prop := va_K w.1 vwCl [(w.2.1 0, .int), (w.2.1 1, .long), (w.2.1 2, .object RX5), (w.2.1 3, .object RX6)] U ∧
  va_Nw (.methodLinkNest RX7 15 yX5_init RX7) U ∧ va_Nw (.methodLinkNest RX7 22 yX6_init RX7) U ∧ va_Nw (.methodLinkNest RX7 61 yX0_init RX7) U ∧ va_Nw (.methodLinkNest RX3 43 yX7_within RX7) U ∧ va_Nw (.methodLinkNest RX7 217 yX0_sizeOf RX7) U ∧ va_Nw (.methodLinkNest RX7 221 yX0_markOf RX7) U
theorem ih_K.warm {w : ih_Wd} {s U : State} (hW : s.WarmedH U.vm) (h : ih_K w s) : ih_K w U := by
  obtain ⟨h0, h1, h2, h3, h4, h5, h6⟩ := h
  exact ⟨va_K.moved hW.alike h0, va_Nw.warmM hW h1, va_Nw.warmM hW h2, va_Nw.warmM hW h3, va_Nw.warmM hW h4, va_Nw.warmM hW h5, va_Nw.warmM hW h6⟩
theorem ih_K.same {w : ih_Wd} {u U : State} (hv : u.vm = U.vm) (h : ih_K w u) : ih_K w U := by
  obtain ⟨h0, h1, h2, h3, h4, h5, h6⟩ := h
  exact ⟨va_K.moved (by rw [hv]; exact Vm.Alike.refl _) h0, va_Nw.same rfl hv h1, va_Nw.same rfl hv h2, va_Nw.same rfl hv h3, va_Nw.same rfl hv h4, va_Nw.same rfl hv h5, va_Nw.same rfl hv h6⟩
/-- which cells a method may change -/
def ih_A (w : ih_Wd) (sh : ih_Sh) (sz : Nat) : Nat → Prop := fun q => (∃ k, k < sh.2.2 ∧ q = w.2.2 k) ∨ sz ≤ q
theorem ih_A_D {w : ih_Wd} {sh : ih_Sh} {S : ih_Sg} {sz : Nat} {B : Nat → Prop} (h : va_D B (ih_wl w sh S)) : va_D (ih_A w sh sz) (ih_wl w sh S) := by
  refine ⟨h.1, fun k q hk => ?_⟩
  rcases Nat.lt_or_ge k sh.2.2 with hi | hi
  · rw [ih_wl_get hi] at hk
    cases hk
    exact Or.inl ⟨k, hi, rfl⟩
  · rw [List.getElem?_eq_none (by rw [ih_wl_len]; exact hi)] at hk
    cases hk
/-- the machine's parts: program, launch, environment, room, the method's start, its id, its arguments, what lies below, the method, its code -/
abbrev ih_Cx : Type := Program × Launch × Env × Room × State × MethodId × Array Value × List Frame × Method × Code
def ih_W (x : ih_Cx) (H : Heap) (locs : List Loc) (cells slots : Nat) (Q : State → Prop) (g : JFrame) : Prop := W x.1 x.2.1 x.2.2.1 x.2.2.2.1 x.2.2.2.2.1 x.2.2.2.2.2.1 x.2.2.2.2.2.2.1 x.2.2.2.2.2.2.2.1 x.2.2.2.2.2.2.2.2.1 x.2.2.2.2.2.2.2.2.2 H locs cells slots Q g
def ih_F (x : ih_Cx) (pc : Nat) (ls : Array Slot) (st : List Value) : JFrame := F0 x.2.2.2.2.2.1 pc ls st
/-- the machine at pc with locals lv, stack st and the world S comes to Q -/
def ih_Mw (x : ih_Cx) (w : ih_Wd) (sh : ih_Sh) (A : Nat → Prop) (Q : State → Prop) (nL cells slots pc : Nat) (lv : List (Nat × Value)) (st : List Value) (S : ih_Sg) : Prop :=
  ∀ (H : Heap) (locs : List Loc) (ls : Array Slot), va_P w.1 vwCl (ih_wl w sh S) H → va_D A (ih_wl w sh S) → va_S A x.2.2.2.2.1.heap H locs → lv_has ls nL lv → ih_W x H locs cells slots Q (ih_F x pc ls st)
/-- what is known all along a method's body -/
def ih_Ok (x : ih_Cx) (w : ih_Wd) (A : Nat → Prop) (cc : ByteArray) (nL : Nat) (own : String) (Ts : List Cond) (rm : Room) (ret : Option FieldType) : Prop :=
  CallFix x.1 x.2.2.2.2.2.1 x.2.2.2.2.2.2.2.2.2 cc nL x.2.2.2.2.1 x.2.2.2.2.2.2.1 Ts own ∧ ih_K w x.2.2.2.2.1 ∧ (∀ q, x.2.2.2.2.1.heap.size ≤ q → A q) ∧ x.2.2.2.2.2.2.2.2.1.locks = false ∧ x.2.2.2.1 = rm ∧ x.2.2.2.2.2.2.2.2.1.sig.returnType = ret
