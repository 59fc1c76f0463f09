/-! contracts over the world by places, and calls -/
def ih_rm (d : Nat) : Room := { frames := d, cells := 0, slots := 0, locals := 60 * d }
def ih_Pre (w : ih_Wd) (sh : ih_Sh) (S : ih_Sg) (sz : Nat) : State → Prop := fun U => U.heap.size = sz ∧ va_P w.1 vwCl (ih_wl w sh S) U.heap ∧ ih_K w U ∧ va_D (fun _ => True) (ih_wl w sh S)
def ih_B (w : ih_Wd) (sh : ih_Sh) (sz : Nat) : ih_Sg → State → Prop := fun S t => va_P w.1 vwCl (ih_wl w sh S) t.heap ∧ va_D (ih_A w sh sz) (ih_wl w sh S)
def ih_Br (w : ih_Wd) (sh : ih_Sh) (sz : Nat) : ih_Sg × Nat → Nat → State → Prop := fun u a t => a = w.2.2 u.2 ∧ va_P w.1 vwCl (ih_wl w sh u.1) t.heap ∧ va_D (ih_A w sh sz) (ih_wl w sh u.1)
/-- a contract: with the world S the method ends, its answer and the new world as post says -/
def ih_Ci (l : Launch) (y : MethodName) (ws : List Cond) (d : Nat) (w : ih_Wd) (sh : ih_Sh) (av : List Value) (S : ih_Sg) (post : Int32 → ih_Sg → Prop) : Prop := ∀ sz, Met l y ws (ih_rm d) (va_Pc av (ih_Pre w sh S sz)) (va_Qi post (ih_B w sh sz) (ih_A w sh sz)) 0 0 (ih_A w sh sz)
def ih_Cv (l : Launch) (y : MethodName) (ws : List Cond) (d : Nat) (w : ih_Wd) (sh : ih_Sh) (av : List Value) (S : ih_Sg) (post : ih_Sg → Prop) : Prop := ∀ sz, Met l y ws (ih_rm d) (va_Pc av (ih_Pre w sh S sz)) (va_Qv post (ih_B w sh sz) (ih_A w sh sz)) 0 0 (ih_A w sh sz)
def ih_Cr (l : Launch) (y : MethodName) (ws : List Cond) (d : Nat) (w : ih_Wd) (sh : ih_Sh) (av : List Value) (S : ih_Sg) (post : ih_Sg × Nat → Prop) : Prop := ∀ sz, Met l y ws (ih_rm d) (va_Pc av (ih_Pre w sh S sz)) (va_Qr post (ih_Br w sh sz) (ih_A w sh sz)) 0 0 (ih_A w sh sz)
theorem ih_blind {w : ih_Wd} {sh : ih_Sh} {S : ih_Sg} {sz : Nat} {av : List Value} : FrameBlind (va_Pc av (ih_Pre w sh S sz)) := fun a U g mk q => by
  obtain ⟨q0, q1, q2, q3, q4⟩ := q
  exact ⟨q0, q1, q2, ih_K.same (u := U) (U := U.calling g mk a) rfl q3, q4⟩
theorem ih_A_in {x : ih_Cx} {w : ih_Wd} {sh : ih_Sh} {S : ih_Sg} {A : Nat → Prop} {H : Heap} {locs : List Loc} (hD : va_D A (ih_wl w sh S)) (hA : ∀ q, x.2.2.2.2.1.heap.size ≤ q → A q) (hS : va_S A x.2.2.2.2.1.heap H locs) : ∀ q, ih_A w sh H.size q → A q := by
  intro q h
  rcases h with ⟨k, hk, rfl⟩ | h
  · exact hD.2 k _ (ih_wl_get hk)
  · exact hA q (Nat.le_trans hS.1 h)
theorem ih_body {l : Launch} {y : MethodName} {ws ws' : List Cond} {d : Nat} {w : ih_Wd} {sh : ih_Sh} {av : List Value} {S : ih_Sg} {cc : ByteArray} {maxL : Nat} {ret : Option FieldType} {Qc : Nat → Array Value → State → Outcome → State → Prop} (hy : plainName y.cls = true) (hw : ws = .code y cc maxL ret :: ws') (hav : (lg_sl av).length ≤ maxL)
    (body : ∀ (x : ih_Cx) (A : Nat → Prop), A = ih_A w sh x.2.2.2.2.1.heap.size → ih_Ok x w A cc maxL y.cls ws (ih_rm d) ret → ih_Mw x w sh A (MQ x.2.2.2.2.2.2.2.1 (Qc x.2.2.2.2.1.heap.size) x.2.2.2.2.2.2.1 x.2.2.2.2.1 0 0 A) maxL 0 0 0 (lv_args 0 av) [] S) :
    ∀ sz, Met l y ws (ih_rm d) (va_Pc av (ih_Pre w sh S sz)) (Qc sz) 0 0 (ih_A w sh sz) := by
  intro sz
  refine Met.ofW (cc := cc) (maxL := maxL) (ret := ret) hy hw ?_
  intro p e s m args below meth c s₁ B hml hv
  obtain ⟨rfl, hsz, hP, hK, hD0⟩ := hv
  have hts := atoms_spec (ws := ws) B.pre
  have hown : s.vm.findClass y.cls = some m.cls := findClass_of_methodNamed B.named
  subst hsz
  have hl := lv_entry av (n := maxL) hav
  rw [lg_entry_eq]
  generalize (lg_sl av ++ List.replicate (maxL - (lg_sl av).length) Slot.unset).toArray = ls at hl ⊢
  exact body (p, l, e, (headSpec ws (ih_rm d)).room, s, m, av.toArray, below, meth, c) _ rfl ⟨⟨B.exec, B.bytes, hml, hown, hts⟩, hK, fun q h => Or.inr h, B.notSynchronized, rfl, B.returns⟩ s.heap [] ls hP (ih_A_D hD0) va_S.rf hl
def ih_Qi (x : ih_Cx) (w : ih_Wd) (sh : ih_Sh) (A : Nat → Prop) (post : Int32 → ih_Sg → Prop) : State → Prop := MQ x.2.2.2.2.2.2.2.1 (va_Qi post (ih_B w sh x.2.2.2.2.1.heap.size) (ih_A w sh x.2.2.2.2.1.heap.size)) x.2.2.2.2.2.2.1 x.2.2.2.2.1 0 0 A
def ih_Qv (x : ih_Cx) (w : ih_Wd) (sh : ih_Sh) (A : Nat → Prop) (post : ih_Sg → Prop) : State → Prop := MQ x.2.2.2.2.2.2.2.1 (va_Qv post (ih_B w sh x.2.2.2.2.1.heap.size) (ih_A w sh x.2.2.2.2.1.heap.size)) x.2.2.2.2.2.2.1 x.2.2.2.2.1 0 0 A
def ih_Qr (x : ih_Cx) (w : ih_Wd) (sh : ih_Sh) (A : Nat → Prop) (post : ih_Sg × Nat → Prop) : State → Prop := MQ x.2.2.2.2.2.2.2.1 (va_Qr post (ih_Br w sh x.2.2.2.2.1.heap.size) (ih_A w sh x.2.2.2.2.1.heap.size)) x.2.2.2.2.2.2.1 x.2.2.2.2.1 0 0 A
theorem ih_bodyi {l : Launch} {y : MethodName} {ws ws' : List Cond} {d : Nat} {w : ih_Wd} {sh : ih_Sh} {av : List Value} {S : ih_Sg} {cc : ByteArray} {maxL : Nat} {ret : Option FieldType} {post : Int32 → ih_Sg → Prop} (hy : plainName y.cls = true) (hw : ws = .code y cc maxL ret :: ws') (hav : (lg_sl av).length ≤ maxL)
    (body : ∀ (x : ih_Cx) (A : Nat → Prop), A = ih_A w sh x.2.2.2.2.1.heap.size → ih_Ok x w A cc maxL y.cls ws (ih_rm d) ret → ih_Mw x w sh A (ih_Qi x w sh A post) maxL 0 0 0 (lv_args 0 av) [] S) : ih_Ci l y ws d w sh av S post :=
  ih_body (Qc := fun sz => va_Qi post (ih_B w sh sz) (ih_A w sh sz)) hy hw hav body
theorem ih_bodyv {l : Launch} {y : MethodName} {ws ws' : List Cond} {d : Nat} {w : ih_Wd} {sh : ih_Sh} {av : List Value} {S : ih_Sg} {cc : ByteArray} {maxL : Nat} {ret : Option FieldType} {post : ih_Sg → Prop} (hy : plainName y.cls = true) (hw : ws = .code y cc maxL ret :: ws') (hav : (lg_sl av).length ≤ maxL)
    (body : ∀ (x : ih_Cx) (A : Nat → Prop), A = ih_A w sh x.2.2.2.2.1.heap.size → ih_Ok x w A cc maxL y.cls ws (ih_rm d) ret → ih_Mw x w sh A (ih_Qv x w sh A post) maxL 0 0 0 (lv_args 0 av) [] S) : ih_Cv l y ws d w sh av S post :=
  ih_body (Qc := fun sz => va_Qv post (ih_B w sh sz) (ih_A w sh sz)) hy hw hav body
theorem ih_bodyr {l : Launch} {y : MethodName} {ws ws' : List Cond} {d : Nat} {w : ih_Wd} {sh : ih_Sh} {av : List Value} {S : ih_Sg} {cc : ByteArray} {maxL : Nat} {ret : Option FieldType} {post : ih_Sg × Nat → Prop} (hy : plainName y.cls = true) (hw : ws = .code y cc maxL ret :: ws') (hav : (lg_sl av).length ≤ maxL)
    (body : ∀ (x : ih_Cx) (A : Nat → Prop), A = ih_A w sh x.2.2.2.2.1.heap.size → ih_Ok x w A cc maxL y.cls ws (ih_rm d) ret → ih_Mw x w sh A (ih_Qr x w sh A post) maxL 0 0 0 (lv_args 0 av) [] S) : ih_Cr l y ws d w sh av S post :=
  ih_body (Qc := fun sz => va_Qr post (ih_Br w sh sz) (ih_A w sh sz)) hy hw hav body
section IhCalls
variable {x : ih_Cx} {w : ih_Wd} {sh : ih_Sh} {A : Nat → Prop} {Q : State → Prop} {cc : ByteArray} {nL : Nat} {own : String} {Ts : List Cond} {rm : Room} {ret : Option FieldType} {pc : Nat} {lv : List (Nat × Value)} {st : List Value} {S : ih_Sg}
theorem s_ireturn {post : Int32 → ih_Sg → Prop} {v : Int32} (C : ih_Ok x w A cc nL own Ts rm (some .int)) (hA : A = ih_A w sh x.2.2.2.2.1.heap.size) (hd : decode cc pc = .ok (.ireturn, 1)) (hp : post v S) : ih_Mw x w sh A (ih_Qi x w sh A post) nL 0 0 pc lv [.int v] S := by
  subst hA
  intro H locs ls hP hD hS hl
  exact W.iret (hlocks := C.2.2.2.1) C.1.1 C.1.2.1 C.2.2.2.2.2 (fun t ht hW => ⟨⟨v, S, rfl, hp, by rw [ht]; exact hP, hD⟩, hS.F ht⟩) hS.2.2 hd
theorem s_zreturn {post : Int32 → ih_Sg → Prop} {v : Int32} (C : ih_Ok x w A cc nL own Ts rm (some .boolean)) (hA : A = ih_A w sh x.2.2.2.2.1.heap.size) (hd : decode cc pc = .ok (.ireturn, 1)) (hv : v = 0 ∨ v = 1) (hp : post v S) : ih_Mw x w sh A (ih_Qi x w sh A post) nL 0 0 pc lv [.int v] S := by
  subst hA
  intro H locs ls hP hD hS hl
  refine W.zret (hlocks := C.2.2.2.1) C.1.1 C.1.2.1 C.2.2.2.2.2 (by rcases hv with rfl | rfl <;> decide) (fun t ht hW => ⟨⟨v, S, rfl, hp, by rw [ht]; exact hP, hD⟩, hS.F ht⟩) hS.2.2 hd
theorem s_vreturn {post : ih_Sg → Prop} (C : ih_Ok x w A cc nL own Ts rm none) (hA : A = ih_A w sh x.2.2.2.2.1.heap.size) (hd : decode cc pc = .ok (.return_, 1)) (hp : post S) : ih_Mw x w sh A (ih_Qv x w sh A post) nL 0 0 pc lv [] S := by
  subst hA
  intro H locs ls hP hD hS hl
  exact W.vret (hlocks := C.2.2.2.1) C.1.1 C.1.2.1 C.2.2.2.2.2 (fun t ht hW => ⟨⟨S, rfl, hp, by rw [ht]; exact hP, hD⟩, hS.F ht⟩) hS.2.2 hd
theorem s_areturn {post : ih_Sg × Nat → Prop} {k : Nat} {t0 : FieldType} (C : ih_Ok x w A cc nL own Ts rm (some (.array t0))) (hA : A = ih_A w sh x.2.2.2.2.1.heap.size) (hd : decode cc pc = .ok (.areturn, 1)) (hp : post (S, k)) : ih_Mw x w sh A (ih_Qr x w sh A post) nL 0 0 pc lv [.ref (w.2.2 k)] S := by
  subst hA
  intro H locs ls hP hD hS hl
  exact W.aret (hlocks := C.2.2.2.1) C.1.1 C.1.2.1 C.2.2.2.2.2 (Or.inr ⟨_, rfl⟩) (Or.inr ⟨_, rfl⟩) (fun t ht hW => ⟨⟨(S, k), w.2.2 k, rfl, hp, rfl, by rw [ht]; exact hP, hD⟩, hS.F ht⟩) hS.2.2 hd
theorem ih_goi {post : Int32 → ih_Sg → Prop} {H : Heap} {locs : List Loc} {ls : Array Slot} {stk : List Value} {a : Array Value} {cells slots : Nat} (C : ih_Ok x w A cc nL own Ts rm ret)
    (hr : va_Run x.1 x.2.1 x.2.2.1 x.2.2.2.1 x.2.2.2.2.1 x.2.2.2.2.2.1 x.2.2.2.2.2.2.1 x.2.2.2.2.2.2.2.1 x.2.2.2.2.2.2.2.2.1 x.2.2.2.2.2.2.2.2.2 H locs cells slots 0 0 (F0 x.2.2.2.2.2.1 pc ls stk) st (va_Qi post (ih_B w sh H.size) (ih_A w sh H.size) a) (ih_A w sh H.size))
    (hD : va_D A (ih_wl w sh S)) (hS : va_S A x.2.2.2.2.1.heap H locs) (hl : lv_has ls nL lv) (kk : ∀ (r : Int32) (S' : ih_Sg), post r S' → ih_Mw x w sh A Q nL cells slots (pc + 3) lv (.int r :: st) S') : ih_W x H locs cells slots Q (ih_F x pc ls stk) := by
  have hF := ih_A_in hD C.2.2.1 hS
  refine va_calli hr hS (fun q _ h => hF q h) hF (fun r u t H1 locs1 ht hvm hpost hB hz1 hk1 hS1 => ?_)
  exact kk r u hpost H1 locs1 ls (by rw [← ht]; exact hB.1) (hB.2.weaken (fun _ q _ h => hF q.1 h)) hS1 hl
theorem ih_gov {post : ih_Sg → Prop} {H : Heap} {locs : List Loc} {ls : Array Slot} {stk : List Value} {a : Array Value} {cells slots : Nat} (C : ih_Ok x w A cc nL own Ts rm ret)
    (hr : va_Run x.1 x.2.1 x.2.2.1 x.2.2.2.1 x.2.2.2.2.1 x.2.2.2.2.2.1 x.2.2.2.2.2.2.1 x.2.2.2.2.2.2.2.1 x.2.2.2.2.2.2.2.2.1 x.2.2.2.2.2.2.2.2.2 H locs cells slots 0 0 (F0 x.2.2.2.2.2.1 pc ls stk) st (va_Qv post (ih_B w sh H.size) (ih_A w sh H.size) a) (ih_A w sh H.size))
    (hD : va_D A (ih_wl w sh S)) (hS : va_S A x.2.2.2.2.1.heap H locs) (hl : lv_has ls nL lv) (kk : ∀ (S' : ih_Sg), post S' → ih_Mw x w sh A Q nL cells slots (pc + 3) lv st S') : ih_W x H locs cells slots Q (ih_F x pc ls stk) := by
  have hF := ih_A_in hD C.2.2.1 hS
  refine va_callv hr hS (fun q _ h => hF q h) hF (fun u t H1 locs1 ht hvm hpost hB hz1 hk1 hS1 => ?_)
  exact kk u hpost H1 locs1 ls (by rw [← ht]; exact hB.1) (hB.2.weaken (fun _ q _ h => hF q.1 h)) hS1 hl
theorem ih_gor {post : ih_Sg × Nat → Prop} {H : Heap} {locs : List Loc} {ls : Array Slot} {stk : List Value} {a : Array Value} {cells slots : Nat} (C : ih_Ok x w A cc nL own Ts rm ret)
    (hr : va_Run x.1 x.2.1 x.2.2.1 x.2.2.2.1 x.2.2.2.2.1 x.2.2.2.2.2.1 x.2.2.2.2.2.2.1 x.2.2.2.2.2.2.2.1 x.2.2.2.2.2.2.2.2.1 x.2.2.2.2.2.2.2.2.2 H locs cells slots 0 0 (F0 x.2.2.2.2.2.1 pc ls stk) st (va_Qr post (ih_Br w sh H.size) (ih_A w sh H.size) a) (ih_A w sh H.size))
    (hD : va_D A (ih_wl w sh S)) (hS : va_S A x.2.2.2.2.1.heap H locs) (hl : lv_has ls nL lv) (kk : ∀ (S' : ih_Sg) (i : Nat), post (S', i) → ih_Mw x w sh A Q nL cells slots (pc + 3) lv (.ref (w.2.2 i) :: st) S') : ih_W x H locs cells slots Q (ih_F x pc ls stk) := by
  have hF := ih_A_in hD C.2.2.1 hS
  refine va_callr hr hS (fun q _ h => hF q h) hF (fun u ra t H1 locs1 ht hvm hpost hB hz1 hk1 hS1 => ?_)
  obtain ⟨rfl, hB1, hB2⟩ := hB
  exact kk u.1 u.2 hpost H1 locs1 ls (by rw [← ht]; exact hB1) (hB2.weaken (fun _ q _ h => hF q.1 h)) hS1 hl
variable {y : MethodName} {bytes : ByteArray} {maxL index d ci N k cells slots : Nat} {rt : Option FieldType} {ws ws' : List Cond} {Cn : String} {T : u_T}
theorem s_callVi {post : Int32 → ih_Sg → Prop} (n : Nat) {As stk : List Value} (C : ih_Ok x w A cc nL own Ts rm ret) (hM : ih_Ci x.2.1 y ws d w sh (.ref (w.2.2 k) :: As) S post) (hG : GoodIn Ts (wsV own index Cn y ws)) (hw : ws = Cond.code y bytes maxL rt :: ws') (hdd : y.cls = Cn ∧ y.cls ≠ "java/lang/invoke/MethodHandle" ∧ y.cls ≠ "java/lang/invoke/VarHandle" ∧ (parseMethodDescriptor y.desc).map (fun d => d.parameters.length) = some n) (hR : d + 1 ≤ rm.frames ∧ 8 + (maxL + 11) + 60 * d ≤ rm.locals) (hcs : cells ≤ rm.cells ∧ slots ≤ rm.slots) (hk : k < sh.2.2) (hkd : sh.1 k = ci) (h9 : ci < 9) (hc : vwCl[ci]? = some (Cn, T, N)) (hn : As.length = n) (hstk : stk = As.reverse ++ .ref (w.2.2 k) :: st) (hst : (st.map fun v => v.category).sum ≤ 8) (hd : decode cc pc = .ok (.invokevirtual index, 3)) (kk : ∀ (r : Int32) (S' : ih_Sg), post r S' → ih_Mw x w sh A Q nL cells slots (pc + 3) lv (.int r :: st) S') : ih_Mw x w sh A Q nL cells slots pc lv stk S := by
  intro H locs ls hP hD hS hl
  have he := ih_wl_get (w := w) (S := S) hk
  rw [hkd, ih_ce_o h9] at he
  have hR' : (ih_rm d).frames + 1 ≤ x.2.2.2.1.frames ∧ 8 + (maxL + 11) + (ih_rm d).locals ≤ x.2.2.2.1.locals := by rw [C.2.2.2.2.1]; exact hR
  exact ih_goi C (va_runV (As := As) (rest := st) C.1 (hM H.size) (cwV n C.1.2.2.2.2 hG hw rfl rfl hdd hR') ⟨ih_blind, va_recv C.2.1.1 hP hc he, fun U hU hW => ⟨rfl, by rw [hU], by rw [hU]; exact hP, ih_K.warm hW C.2.1, hD.weaken (fun _ _ _ _ => trivial)⟩⟩ rfl hn hl.1 hstk (lv_room hst) hd (by rw [C.2.2.2.2.1]; exact hcs)) hD hS hl kk
theorem s_callSi {post : Int32 → ih_Sg → Prop} (n : Nat) {As stk : List Value} (C : ih_Ok x w A cc nL own Ts rm ret) (hM : ih_Ci x.2.1 y ws d w sh As S post) (hG : GoodIn Ts (va_wsS own index y ws)) (hw : ws = Cond.code y bytes maxL rt :: ws') (hdd : y.cls ≠ "java/lang/invoke/MethodHandle" ∧ y.cls ≠ "java/lang/invoke/VarHandle" ∧ (parseMethodDescriptor y.desc).map (fun d => d.parameters.length) = some n) (hR : d + 1 ≤ rm.frames ∧ 8 + (maxL + 11) + 60 * d ≤ rm.locals) (hcs : cells ≤ rm.cells ∧ slots ≤ rm.slots) (hn : As.length = n) (hstk : stk = As.reverse ++ st) (hst : (st.map fun v => v.category).sum ≤ 8) (hd : decode cc pc = .ok (.invokestatic index, 3)) (kk : ∀ (r : Int32) (S' : ih_Sg), post r S' → ih_Mw x w sh A Q nL cells slots (pc + 3) lv (.int r :: st) S') : ih_Mw x w sh A Q nL cells slots pc lv stk S := by
  intro H locs ls hP hD hS hl
  have hR' : (ih_rm d).frames + 1 ≤ x.2.2.2.1.frames ∧ 8 + (maxL + 11) + (ih_rm d).locals ≤ x.2.2.2.1.locals := by rw [C.2.2.2.2.1]; exact hR
  exact ih_goi C (va_runS (As := As) (rest := st) C.1 (hM H.size) (va_cwS n C.1.2.2.2.2 hG hw rfl rfl hdd hR') ⟨ih_blind, fun U hU hW => ⟨rfl, by rw [hU], by rw [hU]; exact hP, ih_K.warm hW C.2.1, hD.weaken (fun _ _ _ _ => trivial)⟩⟩ rfl hn hl.1 hstk (lv_room hst) hd (by rw [C.2.2.2.2.1]; exact hcs)) hD hS hl kk
theorem s_callVv {post : ih_Sg → Prop} (n : Nat) {As stk : List Value} (C : ih_Ok x w A cc nL own Ts rm ret) (hM : ih_Cv x.2.1 y ws d w sh (.ref (w.2.2 k) :: As) S post) (hG : GoodIn Ts (wsV own index Cn y ws)) (hw : ws = Cond.code y bytes maxL rt :: ws') (hdd : y.cls = Cn ∧ y.cls ≠ "java/lang/invoke/MethodHandle" ∧ y.cls ≠ "java/lang/invoke/VarHandle" ∧ (parseMethodDescriptor y.desc).map (fun d => d.parameters.length) = some n) (hR : d + 1 ≤ rm.frames ∧ 8 + (maxL + 11) + 60 * d ≤ rm.locals) (hcs : cells ≤ rm.cells ∧ slots ≤ rm.slots) (hk : k < sh.2.2) (hkd : sh.1 k = ci) (h9 : ci < 9) (hc : vwCl[ci]? = some (Cn, T, N)) (hn : As.length = n) (hstk : stk = As.reverse ++ .ref (w.2.2 k) :: st) (hst : (st.map fun v => v.category).sum ≤ 8) (hd : decode cc pc = .ok (.invokevirtual index, 3)) (kk : ∀ (S' : ih_Sg), post S' → ih_Mw x w sh A Q nL cells slots (pc + 3) lv st S') : ih_Mw x w sh A Q nL cells slots pc lv stk S := by
  intro H locs ls hP hD hS hl
  have he := ih_wl_get (w := w) (S := S) hk
  rw [hkd, ih_ce_o h9] at he
  have hR' : (ih_rm d).frames + 1 ≤ x.2.2.2.1.frames ∧ 8 + (maxL + 11) + (ih_rm d).locals ≤ x.2.2.2.1.locals := by rw [C.2.2.2.2.1]; exact hR
  exact ih_gov C (va_runV (As := As) (rest := st) C.1 (hM H.size) (cwV n C.1.2.2.2.2 hG hw rfl rfl hdd hR') ⟨ih_blind, va_recv C.2.1.1 hP hc he, fun U hU hW => ⟨rfl, by rw [hU], by rw [hU]; exact hP, ih_K.warm hW C.2.1, hD.weaken (fun _ _ _ _ => trivial)⟩⟩ rfl hn hl.1 hstk (lv_room hst) hd (by rw [C.2.2.2.2.1]; exact hcs)) hD hS hl kk
theorem s_callSv {post : ih_Sg → Prop} (n : Nat) {As stk : List Value} (C : ih_Ok x w A cc nL own Ts rm ret) (hM : ih_Cv x.2.1 y ws d w sh As S post) (hG : GoodIn Ts (va_wsS own index y ws)) (hw : ws = Cond.code y bytes maxL rt :: ws') (hdd : y.cls ≠ "java/lang/invoke/MethodHandle" ∧ y.cls ≠ "java/lang/invoke/VarHandle" ∧ (parseMethodDescriptor y.desc).map (fun d => d.parameters.length) = some n) (hR : d + 1 ≤ rm.frames ∧ 8 + (maxL + 11) + 60 * d ≤ rm.locals) (hcs : cells ≤ rm.cells ∧ slots ≤ rm.slots) (hn : As.length = n) (hstk : stk = As.reverse ++ st) (hst : (st.map fun v => v.category).sum ≤ 8) (hd : decode cc pc = .ok (.invokestatic index, 3)) (kk : ∀ (S' : ih_Sg), post S' → ih_Mw x w sh A Q nL cells slots (pc + 3) lv st S') : ih_Mw x w sh A Q nL cells slots pc lv stk S := by
  intro H locs ls hP hD hS hl
  have hR' : (ih_rm d).frames + 1 ≤ x.2.2.2.1.frames ∧ 8 + (maxL + 11) + (ih_rm d).locals ≤ x.2.2.2.1.locals := by rw [C.2.2.2.2.1]; exact hR
  exact ih_gov C (va_runS (As := As) (rest := st) C.1 (hM H.size) (va_cwS n C.1.2.2.2.2 hG hw rfl rfl hdd hR') ⟨ih_blind, fun U hU hW => ⟨rfl, by rw [hU], by rw [hU]; exact hP, ih_K.warm hW C.2.1, hD.weaken (fun _ _ _ _ => trivial)⟩⟩ rfl hn hl.1 hstk (lv_room hst) hd (by rw [C.2.2.2.2.1]; exact hcs)) hD hS hl kk
theorem s_callVr {post : ih_Sg × Nat → Prop} (n : Nat) {As stk : List Value} (C : ih_Ok x w A cc nL own Ts rm ret) (hM : ih_Cr x.2.1 y ws d w sh (.ref (w.2.2 k) :: As) S post) (hG : GoodIn Ts (wsV own index Cn y ws)) (hw : ws = Cond.code y bytes maxL rt :: ws') (hdd : y.cls = Cn ∧ y.cls ≠ "java/lang/invoke/MethodHandle" ∧ y.cls ≠ "java/lang/invoke/VarHandle" ∧ (parseMethodDescriptor y.desc).map (fun d => d.parameters.length) = some n) (hR : d + 1 ≤ rm.frames ∧ 8 + (maxL + 11) + 60 * d ≤ rm.locals) (hcs : cells ≤ rm.cells ∧ slots ≤ rm.slots) (hk : k < sh.2.2) (hkd : sh.1 k = ci) (h9 : ci < 9) (hc : vwCl[ci]? = some (Cn, T, N)) (hn : As.length = n) (hstk : stk = As.reverse ++ .ref (w.2.2 k) :: st) (hst : (st.map fun v => v.category).sum ≤ 8) (hd : decode cc pc = .ok (.invokevirtual index, 3)) (kk : ∀ (S' : ih_Sg) (i : Nat), post (S', i) → ih_Mw x w sh A Q nL cells slots (pc + 3) lv (.ref (w.2.2 i) :: st) S') : ih_Mw x w sh A Q nL cells slots pc lv stk S := by
  intro H locs ls hP hD hS hl
  have he := ih_wl_get (w := w) (S := S) hk
  rw [hkd, ih_ce_o h9] at he
  have hR' : (ih_rm d).frames + 1 ≤ x.2.2.2.1.frames ∧ 8 + (maxL + 11) + (ih_rm d).locals ≤ x.2.2.2.1.locals := by rw [C.2.2.2.2.1]; exact hR
  exact ih_gor C (va_runV (As := As) (rest := st) C.1 (hM H.size) (cwV n C.1.2.2.2.2 hG hw rfl rfl hdd hR') ⟨ih_blind, va_recv C.2.1.1 hP hc he, fun U hU hW => ⟨rfl, by rw [hU], by rw [hU]; exact hP, ih_K.warm hW C.2.1, hD.weaken (fun _ _ _ _ => trivial)⟩⟩ rfl hn hl.1 hstk (lv_room hst) hd (by rw [C.2.2.2.2.1]; exact hcs)) hD hS hl kk
theorem s_callSr {post : ih_Sg × Nat → Prop} (n : Nat) {As stk : List Value} (C : ih_Ok x w A cc nL own Ts rm ret) (hM : ih_Cr x.2.1 y ws d w sh As S post) (hG : GoodIn Ts (va_wsS own index y ws)) (hw : ws = Cond.code y bytes maxL rt :: ws') (hdd : y.cls ≠ "java/lang/invoke/MethodHandle" ∧ y.cls ≠ "java/lang/invoke/VarHandle" ∧ (parseMethodDescriptor y.desc).map (fun d => d.parameters.length) = some n) (hR : d + 1 ≤ rm.frames ∧ 8 + (maxL + 11) + 60 * d ≤ rm.locals) (hcs : cells ≤ rm.cells ∧ slots ≤ rm.slots) (hn : As.length = n) (hstk : stk = As.reverse ++ st) (hst : (st.map fun v => v.category).sum ≤ 8) (hd : decode cc pc = .ok (.invokestatic index, 3)) (kk : ∀ (S' : ih_Sg) (i : Nat), post (S', i) → ih_Mw x w sh A Q nL cells slots (pc + 3) lv (.ref (w.2.2 i) :: st) S') : ih_Mw x w sh A Q nL cells slots pc lv stk S := by
  intro H locs ls hP hD hS hl
  have hR' : (ih_rm d).frames + 1 ≤ x.2.2.2.1.frames ∧ 8 + (maxL + 11) + (ih_rm d).locals ≤ x.2.2.2.1.locals := by rw [C.2.2.2.2.1]; exact hR
  exact ih_gor C (va_runS (As := As) (rest := st) C.1 (hM H.size) (va_cwS n C.1.2.2.2.2 hG hw rfl rfl hdd hR') ⟨ih_blind, fun U hU hW => ⟨rfl, by rw [hU], by rw [hU]; exact hP, ih_K.warm hW C.2.1, hD.weaken (fun _ _ _ _ => trivial)⟩⟩ rfl hn hl.1 hstk (lv_room hst) hd (by rw [C.2.2.2.2.1]; exact hcs)) hD hS hl kk
theorem s_callVNi {post : Int32 → ih_Sg → Prop} (n : Nat) {As stk : List Value} {host : String} (C : ih_Ok x w A cc nL own Ts rm ret) (hM : ih_Ci x.2.1 y ws d w sh (.ref (w.2.2 k) :: As) S post) (hG : GoodIn Ts ws) (hN : va_Nw (.methodLinkNest own index y host) x.2.2.2.2.1) (hini : Cond.initialized y.cls ∈ Ts) (him : Cond.instanceMethod y ∈ Ts) (hse : Cond.selects Cn y y ∈ Ts) (hw : ws = Cond.code y bytes maxL rt :: ws') (hdd : y.cls ≠ "java/lang/invoke/MethodHandle" ∧ y.cls ≠ "java/lang/invoke/VarHandle" ∧ (parseMethodDescriptor y.desc).map (fun d => d.parameters.length) = some n) (hR : d + 1 ≤ rm.frames ∧ 8 + (maxL + 11) + 60 * d ≤ rm.locals) (hcs : cells ≤ rm.cells ∧ slots ≤ rm.slots) (hk : k < sh.2.2) (hkd : sh.1 k = ci) (h9 : ci < 9) (hc : vwCl[ci]? = some (Cn, T, N)) (hn : As.length = n) (hstk : stk = As.reverse ++ .ref (w.2.2 k) :: st) (hst : (st.map fun v => v.category).sum ≤ 8) (hd : decode cc pc = .ok (.invokevirtual index, 3)) (kk : ∀ (r : Int32) (S' : ih_Sg), post r S' → ih_Mw x w sh A Q nL cells slots (pc + 3) lv (.int r :: st) S') : ih_Mw x w sh A Q nL cells slots pc lv stk S := by
  intro H locs ls hP hD hS hl
  have he := ih_wl_get (w := w) (S := S) hk
  rw [hkd, ih_ce_o h9] at he
  have hR' : (ih_rm d).frames + 1 ≤ x.2.2.2.1.frames ∧ 8 + (maxL + 11) + (ih_rm d).locals ≤ x.2.2.2.1.locals := by rw [C.2.2.2.2.1]; exact hR
  exact ih_goi C (va_runVN (As := As) (rest := st) C.1 (hM H.size) ⟨va_cnB n C.1.2.2.2.2 hG hw rfl rfl hN (C.1.2.2.2.2 _ hini) hdd hR', C.1.2.2.2.2 _ him, C.1.2.2.2.2 _ hse⟩ ⟨ih_blind, va_recv C.2.1.1 hP hc he, fun U hU hW => ⟨rfl, by rw [hU], by rw [hU]; exact hP, ih_K.warm hW C.2.1, hD.weaken (fun _ _ _ _ => trivial)⟩⟩ rfl hn hl.1 hstk (lv_room hst) hd (by rw [C.2.2.2.2.1]; exact hcs)) hD hS hl kk
theorem s_callSNi {post : Int32 → ih_Sg → Prop} (n : Nat) {As stk : List Value} {host : String} (C : ih_Ok x w A cc nL own Ts rm ret) (hM : ih_Ci x.2.1 y ws d w sh As S post) (hG : GoodIn Ts ws) (hN : va_Nw (.methodLinkNest own index y host) x.2.2.2.2.1) (hini : Cond.initialized y.cls ∈ Ts) (hsm : Cond.static y ∈ Ts) (hw : ws = Cond.code y bytes maxL rt :: ws') (hdd : y.cls ≠ "java/lang/invoke/MethodHandle" ∧ y.cls ≠ "java/lang/invoke/VarHandle" ∧ (parseMethodDescriptor y.desc).map (fun d => d.parameters.length) = some n) (hR : d + 1 ≤ rm.frames ∧ 8 + (maxL + 11) + 60 * d ≤ rm.locals) (hcs : cells ≤ rm.cells ∧ slots ≤ rm.slots) (hn : As.length = n) (hstk : stk = As.reverse ++ st) (hst : (st.map fun v => v.category).sum ≤ 8) (hd : decode cc pc = .ok (.invokestatic index, 3)) (kk : ∀ (r : Int32) (S' : ih_Sg), post r S' → ih_Mw x w sh A Q nL cells slots (pc + 3) lv (.int r :: st) S') : ih_Mw x w sh A Q nL cells slots pc lv stk S := by
  intro H locs ls hP hD hS hl
  have hR' : (ih_rm d).frames + 1 ≤ x.2.2.2.1.frames ∧ 8 + (maxL + 11) + (ih_rm d).locals ≤ x.2.2.2.1.locals := by rw [C.2.2.2.2.1]; exact hR
  exact ih_goi C (va_runSN (As := As) (rest := st) C.1 (hM H.size) ⟨va_cnB n C.1.2.2.2.2 hG hw rfl rfl hN (C.1.2.2.2.2 _ hini) hdd hR', C.1.2.2.2.2 _ hsm, trivial⟩ ⟨ih_blind, fun U hU hW => ⟨rfl, by rw [hU], by rw [hU]; exact hP, ih_K.warm hW C.2.1, hD.weaken (fun _ _ _ _ => trivial)⟩⟩ rfl hn hl.1 hstk (lv_room hst) hd (by rw [C.2.2.2.2.1]; exact hcs)) hD hS hl kk
end IhCalls
