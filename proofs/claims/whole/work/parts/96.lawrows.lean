/-! the law's own steps: over any knowledge of the heap -/
def ih_Mg (x : ih_Cx) (P : Heap → Prop) (A : Nat → Prop) (Q : State → Prop) (nL cells slots pc : Nat) (lv : List (Nat × Value)) (st : List Value) : Prop :=
  ∀ (H : Heap) (locs : List Loc) (ls : Array Slot), P H → va_S A x.2.2.2.2.1.heap H locs → lv_has ls nL lv → ih_W x H locs cells slots Q (ih_F x pc ls st)
def ih_P2 (wX wM : ih_Wd) (A : Nat → Prop) (SX SM : ih_Sg) : Heap → Prop := fun H => va_P wX.1 vwCl (ih_wl wX ih_shX SX ++ ih_wl wM ih_shM SM) H ∧ va_D A (ih_wl wX ih_shX SX ++ ih_wl wM ih_shM SM)
theorem p2_Pl {D : va_G} {cl : List vw_C} {a b : va_W} {H : Heap} (h : va_P D cl (a ++ b) H) : va_P D cl a H := fun k q hk => h k q (by rw [List.getElem?_append_left (List.getElem?_eq_some_iff.mp hk).1]; exact hk)
theorem p2_Pr {D : va_G} {cl : List vw_C} {a b : va_W} {H : Heap} (h : va_P D cl (a ++ b) H) : va_P D cl b H := fun k q hk => h (a.length + k) q (by rw [List.getElem?_append_right (Nat.le_add_right _ _), Nat.add_sub_cancel_left]; exact hk)
theorem p2_Dl {A : Nat → Prop} {a b : va_W} (h : va_D A (a ++ b)) : va_D A a := by
  have up : ∀ (k : Nat) (q : Nat × va_E), a[k]? = some q → (a ++ b)[k]? = some q := fun k q hk => by rw [List.getElem?_append_left (List.getElem?_eq_some_iff.mp hk).1]; exact hk
  exact ⟨fun i j p q hi hj e => h.1 i j p q (up i p hi) (up j q hj) e, fun k q hk => h.2 k q (up k q hk)⟩
theorem p2_Dr {A : Nat → Prop} {a b : va_W} (h : va_D A (a ++ b)) : va_D A b := by
  have up : ∀ (k : Nat) (q : Nat × va_E), b[k]? = some q → (a ++ b)[a.length + k]? = some q := fun k q hk => by rw [List.getElem?_append_right (Nat.le_add_right _ _), Nat.add_sub_cancel_left]; exact hk
  refine ⟨fun i j p q hi hj e => ?_, fun k q hk => h.2 _ q (up k q hk)⟩
  have := h.1 _ _ p q (up i p hi) (up j q hj) e
  omega
theorem p2_Dx {A : Nat → Prop} {a b : va_W} (h : va_D A (a ++ b)) : ∀ (i j : Nat) (p q : Nat × va_E), a[i]? = some p → b[j]? = some q → p.1 ≠ q.1 := by
  intro i j p q hi hj e
  have hl := (List.getElem?_eq_some_iff.mp hi).1
  have := h.1 i (a.length + j) p q (by rw [List.getElem?_append_left hl]; exact hi) (by rw [List.getElem?_append_right (Nat.le_add_right _ _), Nat.add_sub_cancel_left]; exact hj) e
  omega
theorem p2_swP {D : va_G} {cl : List vw_C} {a b : va_W} {H : Heap} (h : va_P D cl (a ++ b) H) : va_P D cl (b ++ a) H := va_P.app (p2_Pr h) (p2_Pl h)
theorem p2_swD {A : Nat → Prop} {a b : va_W} (h : va_D A (a ++ b)) : va_D A (b ++ a) := va_D.app (p2_Dr h) (p2_Dl h) (fun i j p q hi hj e => p2_Dx h j i q p hj hi e.symm)
/-- the callee's cells a have become c; the others stay -/
theorem p2_join {A0 Ac : Nat → Prop} {D : va_G} {cl : List vw_C} {a b c : va_W} {H H1 : Heap} (hP : va_P D cl (a ++ b) H) (hD : va_D A0 (a ++ b)) (hAc : ∀ q, q < H.size → Ac q → ∃ (k : Nat) (e : va_E), a[k]? = some (q, e)) (hk : ∀ q : Nat, q < H.size → ¬ Ac q → H1[q]? = H[q]?) (hF : ∀ q, Ac q → A0 q) (hP1 : va_P D cl c H1) (hD1 : va_D Ac c) : va_P D cl (c ++ b) H1 ∧ va_D A0 (c ++ b) := by
  have apart : ∀ (k : Nat) (q : Nat × va_E), b[k]? = some q → q.1 < H.size ∧ ¬ Ac q.1 := by
    intro k q hq
    have hl := (p2_Pr hP k q hq).lt
    refine ⟨hl, fun h => ?_⟩
    obtain ⟨i, e, hi⟩ := hAc q.1 hl h
    exact p2_Dx hD i k (q.1, e) q hi hq rfl
  refine ⟨va_P.app hP1 (fun k q hq => (p2_Pr hP k q hq).kept (hk q.1 (apart k q hq).1 (apart k q hq).2)), va_D.app (hD1.weaken (fun k q _ h => hF q.1 h)) (p2_Dr hD) (fun i j p q hi hj e => ?_)⟩
  exact (apart j q hj).2 (by rw [← e]; exact hD1.2 i p hi)
theorem ih_A_mem {w : ih_Wd} {sh : ih_Sh} {S : ih_Sg} {sz : Nat} : ∀ q, q < sz → ih_A w sh sz q → ∃ (k : Nat) (e : va_E), (ih_wl w sh S)[k]? = some (q, e) := by
  intro q hq h
  rcases h with ⟨k, hk, rfl⟩ | h
  · exact ⟨k, _, ih_wl_get hk⟩
  · omega
section IhLaw
variable {x : ih_Cx} {w wX wM : ih_Wd} {P : Heap → Prop} {A : Nat → Prop} {Q : State → Prop} {cc : ByteArray} {nL : Nat} {own : String} {Ts : List Cond} {rm : Room} {ret : Option FieldType} {cells slots pc : Nat} {lv : List (Nat × Value)} {st : List Value} {SX SM : ih_Sg}
theorem g_iconst (C : ih_Ok x w A cc nL own Ts rm ret) {n : Int} {v : Int32} (hd : decode cc pc = .ok (.iconst n, 1)) (hv : Int32.ofInt n = v) (k : ih_Mg x P A Q nL cells slots (pc + 1) lv (.int v :: st)) : ih_Mg x P A Q nL cells slots pc lv st := fun H locs ls hP hS hl => lv_iconst C.1.1 C.1.2.1 hd hv (k H locs ls hP hS hl)
theorem g_bipush (C : ih_Ok x w A cc nL own Ts rm ret) {n : Int} {v : Int32} (hd : decode cc pc = .ok (.bipush n, 2)) (hv : (Int8.ofInt n).toInt32 = v) (k : ih_Mg x P A Q nL cells slots (pc + 2) lv (.int v :: st)) : ih_Mg x P A Q nL cells slots pc lv st := fun H locs ls hP hS hl => lv_bipush C.1.1 C.1.2.1 hd hv (k H locs ls hP hS hl)
theorem g_iload_n (C : ih_Ok x w A cc nL own Ts rm ret) {kk : Fin 4} (i : Nat) {v : Int32} (hd : decode cc pc = .ok (.iload_n kk, 1)) (hl0 : lv[i]? = some ((kk : Nat), .int v)) (k : ih_Mg x P A Q nL cells slots (pc + 1) lv (.int v :: st)) : ih_Mg x P A Q nL cells slots pc lv st := fun H locs ls hP hS hl => lv_iload_n C.1.1 C.1.2.1 hd rfl (lv_at hl i hl0) (k H locs ls hP hS hl)
theorem g_aload_n (C : ih_Ok x w A cc nL own Ts rm ret) {kk : Fin 4} (i : Nat) {v : Nat} (hd : decode cc pc = .ok (.aload_n kk, 1)) (hl0 : lv[i]? = some ((kk : Nat), .ref v)) (k : ih_Mg x P A Q nL cells slots (pc + 1) lv (.ref v :: st)) : ih_Mg x P A Q nL cells slots pc lv st := fun H locs ls hP hS hl => lv_aload_n C.1.1 C.1.2.1 hd rfl (lv_at hl i hl0) (k H locs ls hP hS hl)
theorem g_iadd (C : ih_Ok x w A cc nL own Ts rm ret) {a b : Nat} (hd : decode cc pc = .ok (.iadd, 1)) (k : ih_Mg x P A Q nL cells slots (pc + 1) lv (.int (nI (a + b)) :: st)) : ih_Mg x P A Q nL cells slots pc lv (.int (nI b) :: .int (nI a) :: st) := fun H locs ls hP hS hl => lv_iadd C.1.1 C.1.2.1 hd (by rw [nI_add]; exact k H locs ls hP hS hl)
theorem g_isub (C : ih_Ok x w A cc nL own Ts rm ret) {a b : Int32} (hd : decode cc pc = .ok (.isub, 1)) (k : ih_Mg x P A Q nL cells slots (pc + 1) lv (.int (a - b) :: st)) : ih_Mg x P A Q nL cells slots pc lv (.int b :: .int a :: st) := fun H locs ls hP hS hl => lv_isub C.1.1 C.1.2.1 hd (k H locs ls hP hS hl)
theorem g_iand (C : ih_Ok x w A cc nL own Ts rm ret) {a b : Int32} (hd : decode cc pc = .ok (.iand, 1)) (k : ih_Mg x P A Q nL cells slots (pc + 1) lv (.int (a &&& b) :: st)) : ih_Mg x P A Q nL cells slots pc lv (.int b :: .int a :: st) := fun H locs ls hP hS hl => lv_iand C.1.1 C.1.2.1 hd (k H locs ls hP hS hl)
theorem g_goto (C : ih_Ok x w A cc nL own Ts rm ret) {off : Int} (tgt : Nat) (hd : decode cc pc = .ok (.goto off, 3)) (ht : (pc : Int) + off = (tgt : Int)) (k : ih_Mg x P A Q nL cells slots tgt lv st) : ih_Mg x P A Q nL cells slots pc lv st := fun H locs ls hP hS hl => lv_goto C.1.1 C.1.2.1 hd ht (k H locs ls hP hS hl)
theorem g_tableIn (C : ih_Ok x w A cc nL own Ts rm ret) {dflt lo hi : Int} {offs : Array Int} {len : Nat} {a : Int32} {off : Int} (tgt : Nat) (hd : decode cc pc = .ok (.tableswitch dflt lo hi offs, len)) (h1 : ¬ a.toInt < lo) (h2 : ¬ hi < a.toInt) (ho : offs[(a.toInt - lo).toNat]? = some off) (ht : (pc : Int) + off = (tgt : Int)) (k : ih_Mg x P A Q nL cells slots tgt lv st) : ih_Mg x P A Q nL cells slots pc lv (.int a :: st) := fun H locs ls hP hS hl => lv_tableIn C.1.1 C.1.2.1 hd h1 h2 ho ht (k H locs ls hP hS hl)
theorem g_tableOut (C : ih_Ok x w A cc nL own Ts rm ret) {dflt lo hi : Int} {offs : Array Int} {len : Nat} {a : Int32} (tgt : Nat) (hd : decode cc pc = .ok (.tableswitch dflt lo hi offs, len)) (h : a.toInt < lo ∨ hi < a.toInt) (ht : (pc : Int) + dflt = (tgt : Int)) (k : ih_Mg x P A Q nL cells slots tgt lv st) : ih_Mg x P A Q nL cells slots pc lv (.int a :: st) := fun H locs ls hP hS hl => lv_tableOut C.1.1 C.1.2.1 hd h ht (k H locs ls hP hS hl)
theorem g_iinc (C : ih_Ok x w A cc nL own Ts rm ret) (j : Nat) {i : Nat} {n : Int} {v u : Int32} {lv' : List (Nat × Value)} (hd : decode cc pc = .ok (.iinc i n, 3)) (hk : lv[j]? = some (i, .int v)) (hv : v + Int32.ofInt n = u) (hn : i < nL) (hl0 : (i, Value.int u) :: lv.filter (fun q => !(q.1 == i) && !(q.1 + 1 == i && q.2.category == 2)) = lv') (k : ih_Mg x P A Q nL cells slots (pc + 3) lv' st) : ih_Mg x P A Q nL cells slots pc lv st := fun H locs ls hP hS hl => lv_iinc C.1.1 C.1.2.1 hd hl hk hv hn hl0 (fun ls' hl' => k H locs ls' hP hS hl')
theorem g_perm {lv' : List (Nat × Value)} (ks : List Nat) (h : lv_pick lv ks = lv') (k : ih_Mg x P A Q nL cells slots pc lv' st) : ih_Mg x P A Q nL cells slots pc lv st := fun H locs ls hP hS hl => k H locs ls hP hS (lv_sub hl ks h)
theorem g_icmp_eq (C : ih_Ok x w A cc nL own Ts rm ret) {a b : Int32} {off : Int} (tgt : Nat) (hd : decode cc pc = .ok (.if_icmp .eq off, 3)) (ht : (pc : Int) + off = (tgt : Int)) (he : a = b) (k : ih_Mg x P A Q nL cells slots tgt lv st) : ih_Mg x P A Q nL cells slots pc lv (.int b :: .int a :: st) := fun H locs ls hP hS hl => lv_icmp_eq C.1.1 C.1.2.1 hd ht (fun _ => k H locs ls hP hS hl) (fun h => absurd he h)
theorem g_icmp_gt (C : ih_Ok x w A cc nL own Ts rm ret) {a b : Int32} {off : Int} (tgt : Nat) (hd : decode cc pc = .ok (.if_icmp .gt off, 3)) (ht : (pc : Int) + off = (tgt : Int)) (kt : b < a → ih_Mg x P A Q nL cells slots tgt lv st) (kf : ¬ b < a → ih_Mg x P A Q nL cells slots (pc + 3) lv st) : ih_Mg x P A Q nL cells slots pc lv (.int b :: .int a :: st) := fun H locs ls hP hS hl => lv_icmp_gt C.1.1 C.1.2.1 hd ht (fun h => kt h H locs ls hP hS hl) (fun h => kf h H locs ls hP hS hl)
/-- an int of the script -/
theorem g_scr (C : ih_Ok x w A cc nL own Ts rm ret) {b L i : Nat} {xs : Nat → Int32} (hX : va_X b L xs x.2.2.2.2.1 x.2.2.2.2.1.heap) (hbl : b < x.2.2.2.2.1.heap.size) (hbA : ¬ A b) (hi : i < L) (hL : L < 2147483648) (hd : decode cc pc = .ok (.iaload, 1)) (k : ih_Mg x P A Q nL cells slots (pc + 1) lv (.int (xs i) :: st)) : ih_Mg x P A Q nL cells slots pc lv (.int (nI i) :: .ref b :: st) := fun H locs ls hP hS hl => va_sld C.1.1 C.1.2.1 hX hbl hbA hS (vp_in_nI hi hL) hd (by rw [nI_clamp (by omega)]; exact k H locs ls hP hS hl)
theorem g_slen (C : ih_Ok x w A cc nL own Ts rm ret) {b L : Nat} {xs : Nat → Int32} (hX : va_X b L xs x.2.2.2.2.1 x.2.2.2.2.1.heap) (hbl : b < x.2.2.2.2.1.heap.size) (hbA : ¬ A b) (hd : decode cc pc = .ok (.arraylength, 1)) (k : ih_Mg x P A Q nL cells slots (pc + 1) lv (.int (nI L) :: st)) : ih_Mg x P A Q nL cells slots pc lv (.ref b :: st) := fun H locs ls hP hS hl => va_slen C.1.1 C.1.2.1 hX hbl hbA hS hd (k H locs ls hP hS hl)
variable {y : MethodName} {bytes : ByteArray} {maxL index d : Nat} {rt : Option FieldType} {ws ws' : List Cond}
/-- a call of the class -/
theorem g_callX {post : Int32 → ih_Sg → Prop} (n : Nat) {As stk : List Value} (C : ih_Ok x wX A cc nL own Ts rm ret) (hM : ih_Ci x.2.1 y ws d wX ih_shX (.ref (wX.2.2 0) :: As) SX post) (hG : GoodIn Ts (wsV own index RX7 y ws)) (hw : ws = Cond.code y bytes maxL rt :: ws') (hdd : y.cls = RX7 ∧ y.cls ≠ "java/lang/invoke/MethodHandle" ∧ y.cls ≠ "java/lang/invoke/VarHandle" ∧ (parseMethodDescriptor y.desc).map (fun d => d.parameters.length) = some n) (hR : d + 1 ≤ rm.frames ∧ 8 + (maxL + 11) + 60 * d ≤ rm.locals) (hcs : cells ≤ rm.cells ∧ slots ≤ rm.slots) (hn : As.length = n) (hstk : stk = As.reverse ++ .ref (wX.2.2 0) :: st) (hst : (st.map fun v => v.category).sum ≤ 8) (hd : decode cc pc = .ok (.invokevirtual index, 3))
    (kk : ∀ (r : Int32) (S' : ih_Sg), post r S' → ih_Mg x (ih_P2 wX wM A S' SM) A Q nL cells slots (pc + 3) lv (.int r :: st)) : ih_Mg x (ih_P2 wX wM A SX SM) A Q nL cells slots pc lv stk := by
  intro H locs ls hPD hS hl
  obtain ⟨hP, hD⟩ := hPD
  have hP1 := p2_Pl hP
  have hD1 := p2_Dl hD
  have he := ih_wl_get (w := wX) (sh := ih_shX) (S := SX) (k := 0) (by decide)
  rw [show ih_shX.1 0 = 7 from rfl, ih_ce_o (by decide)] at he
  have hR' : (ih_rm d).frames + 1 ≤ x.2.2.2.1.frames ∧ 8 + (maxL + 11) + (ih_rm d).locals ≤ x.2.2.2.1.locals := by rw [C.2.2.2.2.1]; exact hR
  have hr := va_runV (As := As) (rest := st) (locs := locs) (cells := cells) (slots := slots) (g := F0 x.2.2.2.2.2.1 pc ls stk) (e := x.2.2.1) (below := x.2.2.2.2.2.2.2.1) (meth := x.2.2.2.2.2.2.2.2.1) C.1 (hM H.size) (cwV n C.1.2.2.2.2 hG hw rfl rfl hdd hR') ⟨ih_blind, va_recv C.2.1.1 hP1 (ci := 7) rfl he, fun U hU hW => ⟨rfl, by rw [hU], by rw [hU]; exact hP1, ih_K.warm hW C.2.1, hD1.weaken (fun _ _ _ _ => trivial)⟩⟩ rfl hn hl.1 hstk (lv_room hst) hd (by rw [C.2.2.2.2.1]; exact hcs)
  have hF := ih_A_in hD1 C.2.2.1 hS
  refine va_calli hr hS (fun q _ h => hF q h) hF (fun r u t H1 locs1 ht hvm hpost hB hz1 hk1 hS1 => ?_)
  have hj := p2_join hP hD ih_A_mem hk1 hF (by rw [← ht]; exact hB.1) hB.2
  exact kk r u hpost H1 locs1 ls hj hS1 hl
/-- a call of the reference -/
theorem g_callM {post : Int32 → ih_Sg → Prop} (n : Nat) {As stk : List Value} (C : ih_Ok x wX A cc nL own Ts rm ret) (e1 : wM.1 = wX.1) (e2 : wM.2.1 = wX.2.1) (hM : ih_Ci x.2.1 y ws d wM ih_shM (.ref (wM.2.2 0) :: As) SM post) (hG : GoodIn Ts (wsV own index RX8 y ws)) (hw : ws = Cond.code y bytes maxL rt :: ws') (hdd : y.cls = RX8 ∧ y.cls ≠ "java/lang/invoke/MethodHandle" ∧ y.cls ≠ "java/lang/invoke/VarHandle" ∧ (parseMethodDescriptor y.desc).map (fun d => d.parameters.length) = some n) (hR : d + 1 ≤ rm.frames ∧ 8 + (maxL + 11) + 60 * d ≤ rm.locals) (hcs : cells ≤ rm.cells ∧ slots ≤ rm.slots) (hn : As.length = n) (hstk : stk = As.reverse ++ .ref (wM.2.2 0) :: st) (hst : (st.map fun v => v.category).sum ≤ 8) (hd : decode cc pc = .ok (.invokevirtual index, 3))
    (kk : ∀ (r : Int32) (S' : ih_Sg), post r S' → ih_Mg x (ih_P2 wX wM A SX S') A Q nL cells slots (pc + 3) lv (.int r :: st)) : ih_Mg x (ih_P2 wX wM A SX SM) A Q nL cells slots pc lv stk := by
  intro H locs ls hPD hS hl
  obtain ⟨hP0, hD0⟩ := hPD
  have hP := p2_swP hP0
  have hD := p2_swD hD0
  rw [← e1] at hP
  have C' : ih_Ok x wM A cc nL own Ts rm ret := ih_Ok_w e1 e2 C
  have hP1 := p2_Pl hP
  have hD1 := p2_Dl hD
  have he := ih_wl_get (w := wM) (sh := ih_shM) (S := SM) (k := 0) (by decide)
  rw [show ih_shM.1 0 = 8 from rfl, ih_ce_o (by decide)] at he
  have hR' : (ih_rm d).frames + 1 ≤ x.2.2.2.1.frames ∧ 8 + (maxL + 11) + (ih_rm d).locals ≤ x.2.2.2.1.locals := by rw [C.2.2.2.2.1]; exact hR
  have hr := va_runV (As := As) (rest := st) (locs := locs) (cells := cells) (slots := slots) (g := F0 x.2.2.2.2.2.1 pc ls stk) (e := x.2.2.1) (below := x.2.2.2.2.2.2.2.1) (meth := x.2.2.2.2.2.2.2.2.1) C'.1 (hM H.size) (cwV n C'.1.2.2.2.2 hG hw rfl rfl hdd hR') ⟨ih_blind, va_recv C'.2.1.1 hP1 (ci := 8) rfl he, fun U hU hW => ⟨rfl, by rw [hU], by rw [hU]; exact hP1, ih_K.warm hW C'.2.1, hD1.weaken (fun _ _ _ _ => trivial)⟩⟩ rfl hn hl.1 hstk (lv_room hst) hd (by rw [C'.2.2.2.2.1]; exact hcs)
  have hF := ih_A_in hD1 C'.2.2.1 hS
  refine va_calli hr hS (fun q _ h => hF q h) hF (fun r u t H1 locs1 ht hvm hpost hB hz1 hk1 hS1 => ?_)
  have hj := p2_join hP hD ih_A_mem hk1 hF (by rw [← ht]; exact hB.1) hB.2
  rw [e1] at hj
  exact kk r u hpost H1 locs1 ls ⟨p2_swP hj.1, p2_swD hj.2⟩ hS1 hl
end IhLaw
