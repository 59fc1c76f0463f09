/-! worlds that grow: cell n is made next; what isn't made yet is bare -/
def ih_shN (sh : ih_Sh) (n : Nat) : ih_Sh := (sh.1, sh.2.1, n)
def ih_vg (S : ih_Sg) (n : Nat) : Prop := (∀ k, n ≤ k → S.1 k = (fun _ => nI 0) ∧ S.2.1 k = (fun _ => lN 0) ∧ S.2.2 k = (fun _ => none)) ∧ ∀ k j i, S.2.2 k j = some i → i < n
def ih_S0 : ih_Sg := (fun _ _ => nI 0, fun _ _ => lN 0, fun _ _ => none)
theorem vg_0 {n : Nat} : ih_vg ih_S0 n := ⟨fun _ _ => ⟨rfl, rfl, rfl⟩, fun _ _ _ h => by cases h⟩
theorem vg_up {S : ih_Sg} {n m : Nat} (h : ih_vg S n) (hm : n ≤ m) : ih_vg S m := ⟨fun k hk => h.1 k (by omega), fun k j i q => by have := h.2 k j i q; omega⟩
theorem vg_I {S : ih_Sg} {n k j : Nat} {v : Int32} (h : ih_vg S n) (hk : k < n) : ih_vg (ih_sI S k j v) n := by
  refine ⟨fun q hq => ⟨?_, (h.1 q hq).2⟩, h.2⟩
  rw [ih_sI_row (by omega)]; exact (h.1 q hq).1
theorem vg_R {S : ih_Sg} {n k j i : Nat} (h : ih_vg S n) (hk : k < n) (hi : i < n) : ih_vg (ih_sR S k j (some i)) n := by
  refine ⟨fun q hq => ⟨(h.1 q hq).1, (h.1 q hq).2.1, ?_⟩, fun a b c q => ?_⟩
  · show ih_u2 S.2.2 k j (some i) q = _
    rw [ih_u2_row (by omega)]; exact (h.1 q hq).2.2
  · have q2 : ih_u2 S.2.2 k j (some i) a b = some c := q
    unfold ih_u2 at q2
    split at q2
    · cases q2; exact hi
    · exact h.2 a b c q2
theorem ih_fs_ad {ad ad' : Nat → Nat} {kd : Nat} {I : Nat → Int32} {R : Nat → Option Nat} (h : ∀ j i, R j = some i → ad i = ad' i) : ih_fs ad kd I R = ih_fs ad' kd I R := by
  unfold ih_fs
  refine List.map_congr_left (fun j _ => ?_)
  have e : ih_rv ad (R j) = ih_rv ad' (R j) := by
    unfold ih_rv
    cases hr : R j with
    | none => rfl
    | some i => show va_rf (some (ad i)) = va_rf (some (ad' i)); rw [h j i hr]
  rw [e]
theorem ih_ce_ad {g : va_G} {c : Nat → ClassId} {ad ad' : Nat → Nat} {kd ln : Nat} {I : Nat → Int32} {J : Nat → Int64} {R : Nat → Option Nat} (h : ∀ j i, R j = some i → ad i = ad' i) : ih_ce (g, c, ad) kd ln I J R = ih_ce (g, c, ad') kd ln I J R := by
  unfold ih_ce
  split
  · rw [ih_fs_ad h]
  · split
    · rfl
    · split
      · rfl
      · have e : (fun j => (R j).map ad) = (fun j => (R j).map ad') := by
          funext j
          cases hr : R j with
          | none => rfl
          | some i => show some (ad i) = some (ad' i); rw [h j i hr]
        show Sum.inl (c (kd - 9), ln, Sum.inr (Sum.inr (Sum.inr (Sum.inr (fun j => (R j).map ad))))) = Sum.inl (c (kd - 9), ln, Sum.inr (Sum.inr (Sum.inr (Sum.inr (fun j => (R j).map ad')))))
        rw [e]
theorem ih_wl_push {w : ih_Wd} {sh : ih_Sh} {S : ih_Sg} {n q : Nat} {ad : Nat → Nat} (hv : ih_vg S n) (hag : ∀ k, k < n → w.2.2 k = ad k) (hq : ad n = q) : ih_wl (w.1, w.2.1, ad) (ih_shN sh (n + 1)) S = ih_wl w (ih_shN sh n) S ++ [(q, ih_ce (w.1, w.2.1, ad) (sh.1 n) (sh.2.1 n) (S.1 n) (S.2.1 n) (S.2.2 n))] := by
  unfold ih_wl
  show List.map _ (List.range (n + 1)) = List.map _ (List.range n) ++ _
  rw [List.range_succ, List.map_append]
  refine (congrArg (fun z => z ++ _) (List.map_congr_left (fun k hk => ?_))).trans (congrArg (fun z => _ ++ z) ?_)
  · have hkn : k < n := List.mem_range.mp hk
    show (ad k, ih_ce (w.1, w.2.1, ad) (sh.1 k) (sh.2.1 k) (S.1 k) (S.2.1 k) (S.2.2 k)) = (w.2.2 k, ih_ce w (sh.1 k) (sh.2.1 k) (S.1 k) (S.2.1 k) (S.2.2 k))
    rw [hag k hkn]
    exact congrArg (Prod.mk (ad k)) (ih_ce_ad (fun j i hr => (hag i (hv.2 k j i hr)).symm))
  · show [(ad n, ih_ce (w.1, w.2.1, ad) (sh.1 n) (sh.2.1 n) (S.1 n) (S.2.1 n) (S.2.2 n))] = _
    rw [hq]
def ih_rmC (d mc ms : Nat) : Room := { frames := d, cells := mc, slots := ms, locals := 60 * d }
theorem ih_Ok_w {x : ih_Cx} {w v : ih_Wd} {A : Nat → Prop} {cc : ByteArray} {nL : Nat} {own : String} {Ts : List Cond} {rm : Room} {ret : Option FieldType} (e1 : v.1 = w.1) (e2 : v.2.1 = w.2.1) (C : ih_Ok x w A cc nL own Ts rm ret) : ih_Ok x v A cc nL own Ts rm ret := by
  refine ⟨C.1, ?_, C.2.2⟩
  have h := C.2.1
  unfold ih_K at h ⊢
  rw [e1, e2]; exact h
/-- the new address beside the old ones -/
def ih_adn (w : ih_Wd) (n q : Nat) : ih_Wd := (w.1, w.2.1, fun k => if k = n then q else w.2.2 k)
theorem ih_adn_ag {w : ih_Wd} {n q : Nat} : ∀ k, k < n → w.2.2 k = (ih_adn w n q).2.2 k := fun k hk => (if_neg (by omega)).symm
theorem ih_adn_n {w : ih_Wd} {n q : Nat} : (ih_adn w n q).2.2 n = q := if_pos rfl
section IhGrow
variable {x : ih_Cx} {w : ih_Wd} {sh : ih_Sh} {A : Nat → Prop} {Q : State → Prop} {cc : ByteArray} {nL : Nat} {own : String} {Ts : List Cond} {rm : Room} {ret : Option FieldType} {cells slots pc n : Nat} {lv : List (Nat × Value)} {st : List Value} {S : ih_Sg}
/-- new: an object whose fields are bare -/
theorem s_newO (C : ih_Ok x w A cc nL own Ts rm ret) {index ci N : Nat} {Cn : String} {T : u_T} (hv : ih_vg S n) (hkd : sh.1 n = ci) (h9 : ci < 9) (hc : vwCl[ci]? = some (Cn, T, N)) (hin : ∀ w ∈ u_ws Cn T N, w ∈ Ts) (ty0 : Nat → FieldType) (hty : ∀ k, k < N → parseFieldDescriptor (T k).2.2.1 = some (ty0 k)) (hdf : ∀ j, j < N → defaultValue (ty0 j) = vp_V (ih_fs (fun k => k) ci (fun _ => nI 0) (fun _ => none)) j) (hcl : Cond.classLink own index Cn ∈ Ts) (hinst : Cond.instantiable Cn N ∈ Ts) (hini : Cond.initialized Cn ∈ Ts) (hz : cells + 1 ≤ rm.cells ∧ slots + N ≤ rm.slots) (hd : decode cc pc = .ok (.new index, 3))
    (kk : ∀ v : ih_Wd, v.1 = w.1 → v.2.1 = w.2.1 → (∀ k, k < n → w.2.2 k = v.2.2 k) → ih_Mw x v (ih_shN sh (n + 1)) A Q nL (cells + 1) (slots + N) (pc + 3) lv (.ref (v.2.2 n) :: st) S) : ih_Mw x w (ih_shN sh n) A Q nL cells slots pc lv st S := by
  intro H locs ls hP hD hS hl
  have hf0 : ∀ ad : Nat → Nat, ih_fs ad ci (fun _ => nI 0) (fun _ => none) = ih_fs (fun k => k) ci (fun _ => nI 0) (fun _ => none) := fun ad => ih_fs_ad (fun j i h => by cases h)
  refine va_new (fs := ih_fs (fun k => k) ci (fun _ => nI 0) (fun _ => none)) C.1.1 C.1.2.1 C.1.2.2.2.2 hin ty0 hty C.1.2.2.2.1 (C.1.2.2.2.2 _ hcl) (C.1.2.2.2.2 _ hinst) (C.1.2.2.2.2 _ hini) C.2.1.1 hP hD hS C.2.2.1 hc hdf (by rw [C.2.2.2.2.1]; exact hz.1) (by rw [C.2.2.2.2.1]; exact hz.2) hd (fun q H1 hP1 hD1 hS1 => ?_)
  have hpush := ih_wl_push (w := w) (sh := sh) (S := S) (n := n) (q := q) (ad := (ih_adn w n q).2.2) hv ih_adn_ag ih_adn_n
  rw [hkd, ih_ce_o h9, (hv.1 n (Nat.le_refl n)).1, (hv.1 n (Nat.le_refl n)).2.2, hf0] at hpush
  have hk := kk (ih_adn w n q) rfl rfl ih_adn_ag H1 locs ls (by show va_P w.1 vwCl (ih_wl (w.1, w.2.1, (ih_adn w n q).2.2) (ih_shN sh (n + 1)) S) H1; rw [hpush]; exact hP1) (by show va_D A (ih_wl (w.1, w.2.1, (ih_adn w n q).2.2) (ih_shN sh (n + 1)) S); rw [hpush]; exact hD1) hS1 hl
  rw [ih_adn_n] at hk
  exact hk
theorem ih_clsI {U : State} (h : ih_K w U) {c : ClassId} (hc : U.vm.findClass ("[" ++ (FieldType.int).toString) = some c) : c = w.2.1 0 := by
  have h2 : U.vm.findClass ("[" ++ (FieldType.int).toString) = some (w.2.1 0) := (h.1.2 0 (w.2.1 0, .int) rfl).2
  exact Option.some.inj (hc.symm.trans h2)
theorem ih_clsL {U : State} (h : ih_K w U) {c : ClassId} (hc : U.vm.findClass ("[" ++ (FieldType.long).toString) = some c) : c = w.2.1 1 := by
  have h2 : U.vm.findClass ("[" ++ (FieldType.long).toString) = some (w.2.1 1) := (h.1.2 1 (w.2.1 1, .long) rfl).2
  exact Option.some.inj (hc.symm.trans h2)
/-- newarray of ints -/
theorem s_newI (C : ih_Ok x w A cc nL own Ts rm ret) {N : Nat} {v0 : Int32} (hv : ih_vg S n) (hkd : sh.1 n = 9) (hln : sh.2.1 n = N) (h0 : v0 = nI N) (hN : N < 134217728) (harr : Cond.arrayClass .int ∈ Ts) (hz : cells + 1 ≤ rm.cells ∧ slots + N ≤ rm.slots) (hd : decode cc pc = .ok (.newarray .int, 2))
    (kk : ∀ v : ih_Wd, v.1 = w.1 → v.2.1 = w.2.1 → (∀ k, k < n → w.2.2 k = v.2.2 k) → ih_Mw x v (ih_shN sh (n + 1)) A Q nL (cells + 1) (slots + N) (pc + 2) lv (.ref (v.2.2 n) :: st) S) : ih_Mw x w (ih_shN sh n) A Q nL cells slots pc lv (.int v0 :: st) S := by
  subst h0
  intro H locs ls hP hD hS hl
  refine va_newa (atype := .int) (a0 := (N, .inl (fun _ => nI 0))) C.1.1 C.1.2.1 (C.1.2.2.2.2 _ harr) (ty := .int) rfl C.2.1.1 hP hD hS C.2.2.1 (fun cA => rfl) (nI_pos (by omega)) (nI_clamp (by omega)) (by show N * 4 ≤ _; omega) (by rw [C.2.2.2.2.1]; exact hz.1) (by rw [C.2.2.2.2.1]; exact hz.2) hd (fun q cA H1 hK1 hP1 hD1 hS1 => ?_)
  have hcA : cA = w.2.1 0 := ih_clsI C.2.1 (hK1.2 4 (cA, .int) rfl).2
  subst hcA
  have hpush := ih_wl_push (w := w) (sh := sh) (S := S) (n := n) (q := q) (ad := (ih_adn w n q).2.2) hv ih_adn_ag ih_adn_n
  rw [hkd, ih_ce_I rfl, (hv.1 n (Nat.le_refl n)).1, hln] at hpush
  have hk := kk (ih_adn w n q) rfl rfl ih_adn_ag H1 locs ls (by show va_P w.1 vwCl (ih_wl (w.1, w.2.1, (ih_adn w n q).2.2) (ih_shN sh (n + 1)) S) H1; rw [hpush]; exact hP1) (by show va_D A (ih_wl (w.1, w.2.1, (ih_adn w n q).2.2) (ih_shN sh (n + 1)) S); rw [hpush]; exact hD1) hS1 hl
  rw [ih_adn_n] at hk
  exact hk
/-- newarray of longs -/
theorem s_newJ (C : ih_Ok x w A cc nL own Ts rm ret) {N : Nat} {v0 : Int32} (hv : ih_vg S n) (hkd : sh.1 n = 10) (hln : sh.2.1 n = N) (h0 : v0 = nI N) (hN : N < 67108864) (harr : Cond.arrayClass .long ∈ Ts) (hz : cells + 1 ≤ rm.cells ∧ slots + N ≤ rm.slots) (hd : decode cc pc = .ok (.newarray .long, 2))
    (kk : ∀ v : ih_Wd, v.1 = w.1 → v.2.1 = w.2.1 → (∀ k, k < n → w.2.2 k = v.2.2 k) → ih_Mw x v (ih_shN sh (n + 1)) A Q nL (cells + 1) (slots + N) (pc + 2) lv (.ref (v.2.2 n) :: st) S) : ih_Mw x w (ih_shN sh n) A Q nL cells slots pc lv (.int v0 :: st) S := by
  subst h0
  intro H locs ls hP hD hS hl
  refine va_newa (atype := .long) (a0 := (N, .inr (.inl (fun _ => lN 0)))) C.1.1 C.1.2.1 (C.1.2.2.2.2 _ harr) (ty := .long) rfl C.2.1.1 hP hD hS C.2.2.1 (fun cA => rfl) (nI_pos (by omega)) (nI_clamp (by omega)) (by show N * 8 ≤ _; omega) (by rw [C.2.2.2.2.1]; exact hz.1) (by rw [C.2.2.2.2.1]; exact hz.2) hd (fun q cA H1 hK1 hP1 hD1 hS1 => ?_)
  have hcA : cA = w.2.1 1 := ih_clsL C.2.1 (hK1.2 4 (cA, .long) rfl).2
  subst hcA
  have hpush := ih_wl_push (w := w) (sh := sh) (S := S) (n := n) (q := q) (ad := (ih_adn w n q).2.2) hv ih_adn_ag ih_adn_n
  rw [hkd, ih_ce_J rfl, (hv.1 n (Nat.le_refl n)).2.1, hln] at hpush
  have hk := kk (ih_adn w n q) rfl rfl ih_adn_ag H1 locs ls (by show va_P w.1 vwCl (ih_wl (w.1, w.2.1, (ih_adn w n q).2.2) (ih_shN sh (n + 1)) S) H1; rw [hpush]; exact hP1) (by show va_D A (ih_wl (w.1, w.2.1, (ih_adn w n q).2.2) (ih_shN sh (n + 1)) S); rw [hpush]; exact hD1) hS1 hl
  rw [ih_adn_n] at hk
  exact hk
/-- anewarray: of sheets (kind 11), of strikers (kind 12) -/
theorem s_newA (C : ih_Ok x w A cc nL own Ts rm ret) {N kd t0 index : Nat} {Cn : String} {v0 : Int32} (hv : ih_vg S n) (hkd : sh.1 n = kd) (ht : (kd = 11 ∧ t0 = 2 ∧ Cn = RX5) ∨ (kd = 12 ∧ t0 = 3 ∧ Cn = RX6)) (hln : sh.2.1 n = N) (h0 : v0 = nI N) (hN : N < 134217728) (hao : va_AO Cn x.2.2.2.2.1) (hcl : Cond.classLink own index Cn ∈ Ts) (hz : cells + 1 ≤ rm.cells ∧ slots + N ≤ rm.slots) (hd : decode cc pc = .ok (.anewarray index, 3))
    (kk : ∀ v : ih_Wd, v.1 = w.1 → v.2.1 = w.2.1 → (∀ k, k < n → w.2.2 k = v.2.2 k) → ih_Mw x v (ih_shN sh (n + 1)) A Q nL (cells + 1) (slots + N) (pc + 3) lv (.ref (v.2.2 n) :: st) S) : ih_Mw x w (ih_shN sh n) A Q nL cells slots pc lv (.int v0 :: st) S := by
  subst h0
  intro H locs ls hP hD hS hl
  refine va_newq C.1.1 C.1.2.1 C.1.2.2.2.1 (C.1.2.2.2.2 _ hcl) hao C.2.1.1 hP hD hS C.2.2.1 (nI_pos (by omega)) (nI_clamp (by omega)) (by omega) (by rw [C.2.2.2.2.1]; exact hz.1) (by rw [C.2.2.2.2.1]; exact hz.2) hd (fun q cA H1 hK1 hP1 hD1 hS1 => ?_)
  have hcA : cA = w.2.1 (kd - 9) := by
    rcases ht with ⟨rfl, rfl, rfl⟩ | ⟨rfl, rfl, rfl⟩
    · obtain ⟨_, _, _, _, _, a1⟩ := (hK1.2 4 (cA, .object RX5) rfl).2
      obtain ⟨_, _, _, _, _, a2⟩ := (C.2.1.1.2 2 (w.2.1 2, .object RX5) rfl).2
      exact Option.some.inj (a1.symm.trans a2)
    · obtain ⟨_, _, _, _, _, a1⟩ := (hK1.2 4 (cA, .object RX6) rfl).2
      obtain ⟨_, _, _, _, _, a2⟩ := (C.2.1.1.2 3 (w.2.1 3, .object RX6) rfl).2
      exact Option.some.inj (a1.symm.trans a2)
  subst hcA
  have hpush := ih_wl_push (w := w) (sh := sh) (S := S) (n := n) (q := q) (ad := (ih_adn w n q).2.2) hv ih_adn_ag ih_adn_n
  have hce : ih_ce (w.1, w.2.1, (ih_adn w n q).2.2) (sh.1 n) (sh.2.1 n) (S.1 n) (S.2.1 n) (S.2.2 n) = .inl (w.2.1 (kd - 9), N, .inr (.inr (.inr (.inr (fun _ => none))))) := by
    rw [hkd, hln, (hv.1 n (Nat.le_refl n)).2.2]
    rcases ht with ⟨rfl, rfl, rfl⟩ | ⟨rfl, rfl, rfl⟩ <;> rfl
  rw [hce] at hpush
  have hk := kk (ih_adn w n q) rfl rfl ih_adn_ag H1 locs ls (by show va_P w.1 vwCl (ih_wl (w.1, w.2.1, (ih_adn w n q).2.2) (ih_shN sh (n + 1)) S) H1; rw [hpush]; exact hP1) (by show va_D A (ih_wl (w.1, w.2.1, (ih_adn w n q).2.2) (ih_shN sh (n + 1)) S); rw [hpush]; exact hD1) hS1 hl
  rw [ih_adn_n] at hk
  exact hk
/-- Object's own constructor -/
theorem s_obj (C : ih_Ok x w A cc nL own Ts rm ret) {index : Nat} {a : Nat} (hlink : Cond.methodLink own index objectInit ∈ Ts) (hinst : Cond.instanceMethod objectInit ∈ Ts) (hcode : Cond.code objectInit ⟨#[0xb1]⟩ 1 none ∈ Ts) (hfr : 1 ≤ rm.frames) (hlo : (st.map fun v => v.category).sum + 12 ≤ rm.locals) (hd : decode cc pc = .ok (.invokespecial index, 3)) (kk : ih_Mw x w sh A Q nL cells slots (pc + 3) lv st S) : ih_Mw x w sh A Q nL cells slots pc lv (.ref a :: st) S := by
  intro H locs ls hP hD hS hl
  exact W.objInit C.1.1 C.1.2.1 C.1.2.2.2.1 (C.1.2.2.2.2 _ hlink) (C.1.2.2.2.2 _ hinst) (C.1.2.2.2.2 _ hcode) rfl (hl.1.trans C.1.2.2.1.symm) rfl hd (by rw [C.2.2.2.2.1]; exact hfr) (by rw [C.2.2.2.2.1]; show 2 * 0 + _ + 12 ≤ _; omega) (kk H locs ls hP hD hS hl)
/-- a final field that is a reference, in its constructor -/
theorem s_putF (C : ih_Ok x w A cc nL own Ts rm ret) {index : Nat} {Cn : String} {T : u_T} {N k i : Nat} {ty : FieldType} (ci j : Nat) (ty0 : Nat → FieldType) (hty : ∀ k, k < N → parseFieldDescriptor (T k).2.2.1 = some (ty0 k)) (hnm : ∀ a, a < N → ∀ b, b < N → a ≠ b → (T a).2.1 ≠ (T b).2.1) (hk : k < sh.2.2) (hkd : sh.1 k = ci) (h9 : ci < 9) (hc : vwCl[ci]? = some (Cn, T, N)) (hin : ∀ w ∈ u_ws Cn T N, w ∈ Ts) (hj : j < N) (hb : (ih_fl ci)[j]? = some true) (hlink : Cond.fieldLink own index (T j).1 (T j).2.1 (T j).2.2.1 ∈ Ts) (hfin : (T j).2.2.2 = true) (hin2 : x.2.2.2.2.2.2.2.2.1.name = "<init>") (hdecl : (T j).1 = own) (hde : parseFieldDescriptor (T j).2.2.1 = some ty) (hn : narrow ty (.ref (w.2.2 i)) = .ref (w.2.2 i)) (hfit : fits ty (.ref (w.2.2 i)) = true) (hd : decode cc pc = .ok (.putfield index, 3)) (kk : ih_Mw x w sh A Q nL cells slots (pc + 3) lv st (ih_sR S k j (some i))) : ih_Mw x w sh A Q nL cells slots pc lv (.ref (w.2.2 i) :: .ref (w.2.2 k) :: st) S := by
  intro H locs ls hP hD hS hl
  have he := ih_wl_get (w := w) (S := S) hk
  rw [hkd, ih_ce_o h9] at he
  have hjl : j < (ih_fl ci).length := by
    rcases Nat.lt_or_ge j (ih_fl ci).length with q | q
    · exact q
    · rw [List.getElem?_eq_none q] at hb; cases hb
  have hset : (ih_wl w sh S).set k (w.2.2 k, .inr (ci, (ih_fs w.2.2 ci (S.1 k) (S.2.2 k)).set j (.ref (w.2.2 i)))) = ih_wl w sh (ih_sR S k j (some i)) := by
    refine ih_wl_set ?_ (fun i hi => ⟨rfl, rfl, ih_u2_row hi⟩)
    rw [hkd, ih_ce_o h9]
    refine congrArg (fun l => Sum.inr (ci, l)) (ih_fs_ext hjl ?_ (fun i hi => ⟨rfl, ih_u2_j hi⟩))
    rw [List.getD_eq_getElem?_getD, hb]
    show ih_rv w.2.2 (ih_u2 S.2.2 k j (some i) k j) = _
    rw [ih_u2_s]; rfl
  refine va_putF C.1.1 C.1.2.1 C.1.2.2.2.2 hin ty0 hty hnm C.1.2.2.2.1 C.2.1.1 hP hD hS k he hc j hj (C.1.2.2.2.2 _ hlink) (fun _ h => h) hfin hin2 hdecl hde hn hfit (by rw [ih_fs_len]; exact hjl) hd (fun H1 locs1 hP1 hD1 hS1 => ?_)
  rw [hset] at hP1 hD1
  exact kk H1 locs1 ls hP1 hD1 hS1 hl
/-- a reference into an array of references -/
theorem s_aastore (C : ih_Ok x w A cc nL own Ts rm ret) {k v kd ci : Nat} {a : Int32} (N i : Nat) (ha : a = nI i) (hn : sh.2.1 k = N) (hi : i < N) (hs : N < 2147483648) (hk : k < sh.2.2) (hkd : sh.1 k = kd) (hv : v < sh.2.2) (hvd : sh.1 v = ci) (ht : (kd = 11 ∧ ci = 5) ∨ (kd = 12 ∧ ci = 6)) (hd : decode cc pc = .ok (.aastore, 1)) (kk : ih_Mw x w sh A Q nL cells slots (pc + 1) lv st (ih_sR S k i (some v))) : ih_Mw x w sh A Q nL cells slots pc lv (.ref (w.2.2 v) :: .int a :: .ref (w.2.2 k) :: st) S := by
  subst ha hn
  intro H locs ls hP hD hS hl
  have he := ih_wl_get (w := w) (S := S) hk
  have hev := ih_wl_get (w := w) (S := S) hv
  have hset : ∀ c0 : ClassId, ih_ce w (sh.1 k) (sh.2.1 k) (S.1 k) (S.2.1 k) (ih_u2 S.2.2 k i (some v) k) = .inl (c0, sh.2.1 k, .inr (.inr (.inr (.inr (va_up (fun j => (S.2.2 k j).map w.2.2) i (some (w.2.2 v))))))) → (ih_wl w sh S).set k (w.2.2 k, .inl (c0, sh.2.1 k, .inr (.inr (.inr (.inr (va_up (fun j => (S.2.2 k j).map w.2.2) i (some (w.2.2 v)))))))) = ih_wl w sh (ih_sR S k i (some v)) := by
    intro c0 hc0
    exact ih_wl_set (S' := ih_sR S k i (some v)) hc0.symm (fun i hi => ⟨rfl, rfl, ih_u2_row hi⟩)
  have hup : (fun j => (ih_u2 S.2.2 k i (some v) k j).map w.2.2) = va_up (fun j => (S.2.2 k j).map w.2.2) i (some (w.2.2 v)) := by
    funext j
    unfold va_up
    by_cases e : j = i
    · rw [e, ih_u2_s]; simp
    · rw [ih_u2_j e]; simp [e]
  rcases ht with ⟨rfl, rfl⟩ | ⟨rfl, rfl⟩
  · rw [hvd, ih_ce_o (by decide)] at hev
    have hs2 := hset (w.2.1 2) (by rw [hkd]; show Sum.inl (w.2.1 2, sh.2.1 k, Sum.inr (Sum.inr (Sum.inr (Sum.inr (fun j => (ih_u2 S.2.2 k i (some v) k j).map w.2.2))))) = _; rw [hup])
    rw [hkd] at he
    refine va_astq (r := (RX5, TX5, 4)) C.1.1 C.1.2.1 C.2.1.1 hP hD hS k 2 v 5 (f := fun j => (S.2.2 k j).map w.2.2) he rfl hev rfl (vp_in_nI hi hs) hd (fun H1 locs1 hP1 hD1 hS1 => ?_)
    rw [nI_clamp (by omega), hs2] at hP1 hD1
    exact kk H1 locs1 ls hP1 hD1 hS1 hl
  · rw [hvd, ih_ce_o (by decide)] at hev
    have hs2 := hset (w.2.1 3) (by rw [hkd]; show Sum.inl (w.2.1 3, sh.2.1 k, Sum.inr (Sum.inr (Sum.inr (Sum.inr (fun j => (ih_u2 S.2.2 k i (some v) k j).map w.2.2))))) = _; rw [hup])
    rw [hkd] at he
    refine va_astq (r := (RX6, TX6, 2)) C.1.1 C.1.2.1 C.2.1.1 hP hD hS k 3 v 6 (f := fun j => (S.2.2 k j).map w.2.2) he rfl hev rfl (vp_in_nI hi hs) hd (fun H1 locs1 hP1 hD1 hS1 => ?_)
    rw [nI_clamp (by omega), hs2] at hP1 hD1
    exact kk H1 locs1 ls hP1 hD1 hS1 hl
end IhGrow
/-! constructors: from n cells to n' -/
def ih_PreX (w : ih_Wd) (sh : ih_Sh) (S : ih_Sg) (E : State → Prop) (sz : Nat) : State → Prop := fun U => ih_Pre w sh S sz U ∧ E U
def ih_BG (w : ih_Wd) (sh : ih_Sh) (n n' sz : Nat) : ih_Sg × ih_Wd → State → Prop := fun u t => (u.2.1 = w.1 ∧ u.2.2.1 = w.2.1 ∧ ∀ k, k < n → w.2.2 k = u.2.2.2 k) ∧ va_P w.1 vwCl (ih_wl u.2 (ih_shN sh n') u.1) t.heap ∧ va_D (ih_A w (ih_shN sh n) sz) (ih_wl u.2 (ih_shN sh n') u.1)
/-- what a constructor needs of the tables besides -/
def ih_E0 : State → Prop := fun _ => True
def ih_E1 : State → Prop := fun U => va_AO RX5 U ∧ va_AO RX6 U
def ih_Eok (E : State → Prop) : Prop := ∀ u U : State, u.vm.Alike U.vm → E u → E U
theorem ih_E0_ok : ih_Eok ih_E0 := fun _ _ _ _ => trivial
theorem ih_E1_ok : ih_Eok ih_E1 := fun _ _ h q => ⟨va_AO.moved h q.1, va_AO.moved h q.2⟩
def ih_Cc (l : Launch) (y : MethodName) (ws : List Cond) (d mc ms : Nat) (w : ih_Wd) (sh : ih_Sh) (n n' : Nat) (E : State → Prop) (av : List Value) (S : ih_Sg) (post : ih_Sg × ih_Wd → Prop) : Prop := ∀ sz, Met l y ws (ih_rmC d mc ms) (va_Pc av (ih_PreX w (ih_shN sh n) S E sz)) (va_Qv post (ih_BG w sh n n' sz) (ih_A w (ih_shN sh n) sz)) mc ms (ih_A w (ih_shN sh n) sz)
def ih_QG (x : ih_Cx) (w : ih_Wd) (sh : ih_Sh) (n n' mc ms : Nat) (A : Nat → Prop) (post : ih_Sg × ih_Wd → Prop) : State → Prop := MQ x.2.2.2.2.2.2.2.1 (va_Qv post (ih_BG w sh n n' x.2.2.2.2.1.heap.size) (ih_A w (ih_shN sh n) x.2.2.2.2.1.heap.size)) x.2.2.2.2.2.2.1 x.2.2.2.2.1 mc ms A
theorem ih_bodyc {l : Launch} {y : MethodName} {ws ws' : List Cond} {d mc ms : Nat} {w : ih_Wd} {sh : ih_Sh} {n n' : Nat} {E : State → Prop} {av : List Value} {S : ih_Sg} {cc : ByteArray} {maxL : Nat} {post : ih_Sg × ih_Wd → Prop} (hy : plainName y.cls = true) (hw : ws = .code y cc maxL none :: ws') (hav : (lg_sl av).length ≤ maxL) (hyn : y.name = "<init>")
    (body : ∀ (x : ih_Cx) (A : Nat → Prop), A = ih_A w (ih_shN sh n) x.2.2.2.2.1.heap.size → ih_Ok x w A cc maxL y.cls ws (ih_rmC d mc ms) none → x.2.2.2.2.2.2.2.2.1.name = "<init>" → E x.2.2.2.2.1 → ih_Mw x w (ih_shN sh n) A (ih_QG x w sh n n' mc ms A post) maxL 0 0 0 (lv_args 0 av) [] S) : ih_Cc l y ws d mc ms w sh n n' E av S post := by
  intro sz
  refine Met.ofW (cc := cc) (maxL := maxL) (ret := none) hy hw ?_
  intro p e s m args below meth c s₁ B hml hv
  obtain ⟨rfl, ⟨hsz, hP, hK, hD0⟩, hE⟩ := hv
  have hts := atoms_spec (ws := ws) B.pre
  have hown : s.vm.findClass y.cls = some m.cls := findClass_of_methodNamed B.named
  have hnm : meth.name = "<init>" := ((name_of_methodNamed B.named B.method).1).trans hyn
  subst hsz
  have hl := lv_entry av (n := maxL) hav
  rw [lg_entry_eq]
  generalize (lg_sl av ++ List.replicate (maxL - (lg_sl av).length) Slot.unset).toArray = ls at hl ⊢
  exact body (p, l, e, (headSpec ws (ih_rmC d mc ms)).room, s, m, av.toArray, below, meth, c) _ rfl ⟨⟨B.exec, B.bytes, hml, hown, hts⟩, hK, fun q h => Or.inr h, B.notSynchronized, rfl, B.returns⟩ hnm hE s.heap [] ls hP (ih_A_D hD0) va_S.rf hl
section IhCon
variable {x : ih_Cx} {w w0 : ih_Wd} {sh : ih_Sh} {A : Nat → Prop} {Q : State → Prop} {cc : ByteArray} {nL : Nat} {own : String} {Ts : List Cond} {rm : Room} {ret : Option FieldType} {pc n n0 n' mc ms cells slots : Nat} {lv : List (Nat × Value)} {st : List Value} {S : ih_Sg}
theorem s_vretG {post : ih_Sg × ih_Wd → Prop} (C : ih_Ok x w A cc nL own Ts rm none) (hA : A = ih_A w0 (ih_shN sh n0) x.2.2.2.2.1.heap.size) (e1 : w.1 = w0.1) (e2 : w.2.1 = w0.2.1) (hag : ∀ k, k < n0 → w0.2.2 k = w.2.2 k) (hd : decode cc pc = .ok (.return_, 1)) (hp : post (S, w)) : ih_Mw x w (ih_shN sh n') A (ih_QG x w0 sh n0 n' mc ms A post) nL mc ms pc lv [] S := by
  subst hA
  intro H locs ls hP hD hS hl
  exact W.vret (hlocks := C.2.2.2.1) C.1.1 C.1.2.1 C.2.2.2.2.2 (fun t ht hW => ⟨⟨(S, w), rfl, hp, ⟨e1, e2, hag⟩, by rw [ht, ← e1]; exact hP, hD⟩, hS.F ht⟩) hS.2.2 hd
theorem ih_blindX {E : State → Prop} (hE : ih_Eok E) {sz : Nat} {av : List Value} : FrameBlind (va_Pc av (ih_PreX w sh S E sz)) := fun a U g mk q => by
  obtain ⟨q0, ⟨q1, q2, q3, q4⟩, q5⟩ := q
  exact ⟨q0, ⟨q1, q2, ih_K.same (u := U) (U := U.calling g mk a) rfl q3, q4⟩, hE U (U.calling g mk a) (Vm.Alike.refl U.vm) q5⟩
theorem ih_goc {post : ih_Sg × ih_Wd → Prop} {H : Heap} {locs : List Loc} {ls : Array Slot} {stk : List Value} {a : Array Value} (C : ih_Ok x w A cc nL own Ts rm ret)
    (hr : va_Run x.1 x.2.1 x.2.2.1 x.2.2.2.1 x.2.2.2.2.1 x.2.2.2.2.2.1 x.2.2.2.2.2.2.1 x.2.2.2.2.2.2.2.1 x.2.2.2.2.2.2.2.2.1 x.2.2.2.2.2.2.2.2.2 H locs cells slots mc ms (F0 x.2.2.2.2.2.1 pc ls stk) st (va_Qv post (ih_BG w sh n n' H.size) (ih_A w (ih_shN sh n) H.size) a) (ih_A w (ih_shN sh n) H.size))
    (hD : va_D A (ih_wl w (ih_shN sh n) S)) (hS : va_S A x.2.2.2.2.1.heap H locs) (hl : lv_has ls nL lv) (kk : ∀ (v : ih_Wd) (S' : ih_Sg), v.1 = w.1 → v.2.1 = w.2.1 → (∀ k, k < n → w.2.2 k = v.2.2 k) → post (S', v) → ih_Mw x v (ih_shN sh n') A Q nL (cells + mc) (slots + ms) (pc + 3) lv st S') : ih_W x H locs cells slots Q (ih_F x pc ls stk) := by
  have hF := ih_A_in hD C.2.2.1 hS
  refine va_callv hr hS (fun q _ h => hF q h) hF (fun u t H1 locs1 ht hvm hpost hB hz1 hk1 hS1 => ?_)
  obtain ⟨⟨b1, b2, b3⟩, b4, b5⟩ := hB
  exact kk u.2 u.1 b1 b2 b3 hpost H1 locs1 ls (by rw [← ht, b1]; exact b4) (b5.weaken (fun _ q _ h => hF q.1 h)) hS1 hl
variable {y : MethodName} {bytes : ByteArray} {maxL index d k : Nat} {ws ws' : List Cond}
theorem s_callI {post : ih_Sg × ih_Wd → Prop} {E : State → Prop} (nn : Nat) {As stk : List Value} (C : ih_Ok x w A cc nL own Ts rm ret) (hM : ih_Cc x.2.1 y ws d mc ms w sh n n' E (.ref (w.2.2 k) :: As) S post) (hE : ih_Eok E) (hE1 : E x.2.2.2.2.1) (hG : GoodIn Ts ws) (hw : ws = Cond.code y bytes maxL none :: ws') (hini : Cond.initialized y.cls ∈ Ts) (hl0 : Cond.methodLink own index y ∈ Ts) (him : Cond.instanceMethod y ∈ Ts) (hyn : y.name = "<init>") (hdd : y.cls ≠ "java/lang/invoke/MethodHandle" ∧ y.cls ≠ "java/lang/invoke/VarHandle" ∧ (parseMethodDescriptor y.desc).map (fun d => d.parameters.length) = some nn) (hR : d + 1 ≤ rm.frames ∧ 8 + (maxL + 11) + 60 * d ≤ rm.locals) (hcs : cells + mc ≤ rm.cells ∧ slots + ms ≤ rm.slots) (hn : As.length = nn) (hstk : stk = As.reverse ++ .ref (w.2.2 k) :: st) (hst : (st.map fun v => v.category).sum ≤ 8) (hd : decode cc pc = .ok (.invokespecial index, 3))
    (kk : ∀ (v : ih_Wd) (S' : ih_Sg), v.1 = w.1 → v.2.1 = w.2.1 → (∀ k, k < n → w.2.2 k = v.2.2 k) → post (S', v) → ih_Mw x v (ih_shN sh n') A Q nL (cells + mc) (slots + ms) (pc + 3) lv st S') : ih_Mw x w (ih_shN sh n) A Q nL cells slots pc lv stk S := by
  intro H locs ls hP hD hS hl
  have hR' : (ih_rmC d mc ms).frames + 1 ≤ x.2.2.2.1.frames ∧ 8 + (maxL + 11) + (ih_rmC d mc ms).locals ≤ x.2.2.2.1.locals := by rw [C.2.2.2.2.1]; exact hR
  exact ih_goc C (va_runI (As := As) (rest := st) C.1 (hM H.size) (cwI nn C.1.2.2.2.2 hG hw rfl rfl (C.1.2.2.2.2 _ hini) (C.1.2.2.2.2 _ hl0) (C.1.2.2.2.2 _ him) hyn hdd hR') ⟨ih_blindX hE, fun U hU hW => ⟨rfl, ⟨by rw [hU], by rw [hU]; exact hP, ih_K.warm hW C.2.1, hD.weaken (fun _ _ _ _ => trivial)⟩, hE _ _ hW.alike hE1⟩⟩ rfl hn hl.1 hstk (lv_room hst) hd (by rw [C.2.2.2.2.1]; exact hcs)) hD hS hl kk
theorem s_callIN {post : ih_Sg × ih_Wd → Prop} {E : State → Prop} (nn : Nat) {As stk : List Value} {host : String} (C : ih_Ok x w A cc nL own Ts rm ret) (hM : ih_Cc x.2.1 y ws d mc ms w sh n n' E (.ref (w.2.2 k) :: As) S post) (hE : ih_Eok E) (hE1 : E x.2.2.2.2.1) (hG : GoodIn Ts ws) (hw : ws = Cond.code y bytes maxL none :: ws') (hini : Cond.initialized y.cls ∈ Ts) (hN : va_Nw (.methodLinkNest own index y host) x.2.2.2.2.1) (him : Cond.instanceMethod y ∈ Ts) (hyn : y.name = "<init>") (hdd : y.cls ≠ "java/lang/invoke/MethodHandle" ∧ y.cls ≠ "java/lang/invoke/VarHandle" ∧ (parseMethodDescriptor y.desc).map (fun d => d.parameters.length) = some nn) (hR : d + 1 ≤ rm.frames ∧ 8 + (maxL + 11) + 60 * d ≤ rm.locals) (hcs : cells + mc ≤ rm.cells ∧ slots + ms ≤ rm.slots) (hn : As.length = nn) (hstk : stk = As.reverse ++ .ref (w.2.2 k) :: st) (hst : (st.map fun v => v.category).sum ≤ 8) (hd : decode cc pc = .ok (.invokespecial index, 3))
    (kk : ∀ (v : ih_Wd) (S' : ih_Sg), v.1 = w.1 → v.2.1 = w.2.1 → (∀ k, k < n → w.2.2 k = v.2.2 k) → post (S', v) → ih_Mw x v (ih_shN sh n') A Q nL (cells + mc) (slots + ms) (pc + 3) lv st S') : ih_Mw x w (ih_shN sh n) A Q nL cells slots pc lv stk S := by
  intro H locs ls hP hD hS hl
  have hR' : (ih_rmC d mc ms).frames + 1 ≤ x.2.2.2.1.frames ∧ 8 + (maxL + 11) + (ih_rmC d mc ms).locals ≤ x.2.2.2.1.locals := by rw [C.2.2.2.2.1]; exact hR
  exact ih_goc C (va_runIN (As := As) (rest := st) C.1 (hM H.size) ⟨va_cnB nn C.1.2.2.2.2 hG hw rfl rfl hN (C.1.2.2.2.2 _ hini) hdd hR', hyn, C.1.2.2.2.2 _ him⟩ ⟨ih_blindX hE, fun U hU hW => ⟨rfl, ⟨by rw [hU], by rw [hU]; exact hP, ih_K.warm hW C.2.1, hD.weaken (fun _ _ _ _ => trivial)⟩, hE _ _ hW.alike hE1⟩⟩ rfl hn hl.1 hstk (lv_room hst) hd (by rw [C.2.2.2.2.1]; exact hcs)) hD hS hl kk
end IhCon
