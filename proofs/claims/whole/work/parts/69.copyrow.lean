section IhCopy
variable {x : ih_Cx} {w : ih_Wd} {sh : ih_Sh} {A : Nat → Prop} {Q : State → Prop} {cc : ByteArray} {nL : Nat} {own : String} {Ts : List Cond} {rm : Room} {ret : Option FieldType} {cells slots pc : Nat} {lv : List (Nat × Value)} {st : List Value} {S : ih_Sg}
/-- System.arraycopy of ints -/
theorem s_copyi (C : ih_Ok x w A cc nL own Ts rm ret) {index k0 k1 a b m : Nat} (hk0 : k0 < sh.2.2) (hkd0 : sh.1 k0 = 9) (hk1 : k1 < sh.2.2) (hkd1 : sh.1 k1 = 9) (h4 : a + m ≤ sh.2.1 k0) (h5 : b + m ≤ sh.2.1 k1) (ha : a < 2147483648) (hb : b < 2147483648) (hm : m < 2147483648) (hlink : Cond.methodLink own index arraycopyName ∈ Ts) (hnat : Cond.native arraycopyName ∈ Ts) (hstat : Cond.static arraycopyName ∈ Ts) (hini : Cond.initialized "java/lang/System" ∈ Ts) (hfr : 1 ≤ rm.frames) (hlo : (st.map fun v => v.category).sum + (nativeFrameWords "java/lang/System" "arraycopy" 5 + 11) ≤ rm.locals) (hd : decode cc pc = .ok (.invokestatic index, 3))
    (kk : ih_Mw x w sh A Q nL cells slots (pc + 3) lv st (ih_sA S k1 (va_cpy (S.1 k0) (S.1 k1) a b m))) : ih_Mw x w sh A Q nL cells slots pc lv (.int (nI m) :: .int (nI b) :: .ref (w.2.2 k1) :: .int (nI a) :: .ref (w.2.2 k0) :: st) S := by
  intro H locs ls hP hD hS hl
  have he0 := ih_wl_get (w := w) (S := S) hk0
  rw [ih_ce_I hkd0] at he0
  have he1 := ih_wl_get (w := w) (S := S) hk1
  rw [ih_ce_I hkd1] at he1
  have hset : (ih_wl w sh S).set k1 (w.2.2 k1, .inl (w.2.1 0, sh.2.1 k1, .inl (va_cpy (S.1 k0) (S.1 k1) a b m))) = ih_wl w sh (ih_sA S k1 (va_cpy (S.1 k0) (S.1 k1) a b m)) := by
    refine ih_wl_set ?_ (fun i hi => ⟨ih_u1_row hi, rfl, rfl⟩)
    rw [ih_ce_I hkd1]
    exact congrArg (fun f => Sum.inl (w.2.1 0, sh.2.1 k1, Sum.inl f)) ih_u1_s.symm
  refine va_copyi (ty := .int) C.1.1 C.1.2.1 (C.1.2.2.1.trans hl.1.symm) C.1.2.2.2.1 (C.1.2.2.2.2 _ hlink) (C.1.2.2.2.2 _ hnat) (C.1.2.2.2.2 _ hstat) (C.1.2.2.2.2 _ hini) C.2.1.1 hP hD hS k0 k1 0 0 he0 he1 rfl rfl rfl (nI_pos ha) (nI_pos hb) (nI_pos hm) (by rw [nI_clamp ha, nI_clamp hm]; exact h4) (by rw [nI_clamp hb, nI_clamp hm]; exact h5) (fun _ _ => rfl) (by rw [C.2.2.2.2.1]; exact hfr) (by rw [C.2.2.2.2.1]; exact hlo) hd (fun H1 locs1 hP1 hD1 hS1 => ?_)
  rw [nI_clamp ha, nI_clamp hb, nI_clamp hm, hset] at hP1 hD1
  exact kk H1 locs1 ls hP1 hD1 hS1 hl
end IhCopy
