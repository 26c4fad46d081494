section Caught
variable {l : Launch} {D : va_G} {dA : Nat → ClassId} {own : String} {cc : ByteArray} {ws : List Cond} {nL : Nat} {ini : Bool} {rt : Option FieldType} {hh : List (Nat × Nat × Nat × Nat)} {fr lo : Nat} {F : jFin} {n0 bc bs : Nat} {M : jM} {pc : Nat} {lv st : List Value} {P : jP}
theorem jLs.setU {ls : Array Slot} {ad : Nat → Nat} {i : Nat} {w : Value} (hk : jok lv i = true)
    (h : lv_has ls nL ((i, w) :: (jal dA ad lv).filter (fun q => !(q.1 == i) && !(q.1 + 1 == i && q.2.category == 2)))) : jLs dA ls nL ad (lv.set i (.float 0)) := by
  refine ⟨h.1, h.2.1, fun j u hj hu => ?_⟩
  by_cases hij : j = i
  · subst hij
    have hl : j < lv.length := by
      have := (List.getElem?_eq_some_iff.mp hj).1
      simpa using this
    rw [List.getElem?_set_self hl] at hj
    cases hj
    exact nomatch hu
  · rw [List.getElem?_set_ne (Ne.symm hij)] at hj
    refine h.2.2 (j, jv dA ad u) (List.mem_cons_of_mem _ (List.mem_filter.mpr ⟨jal_mem hj hu, ?_⟩))
    have h1 : (j == i) = false := by simpa using hij
    simp only [h1, jv_cat, Bool.not_false, Bool.true_and, Bool.not_eq_true', Bool.and_eq_false_iff]
    by_cases h2 : j + 1 = i
    · right
      subst h2
      simp only [jok, hj] at hk
      have : u.category = 1 := by simpa using hk
      simp [this]
    · left
      simpa using h2
/-- caught by a row of this method's table, and laid into a local that isn't read -/
theorem JX_catchN {E name : String} (pre : List (Nat × Nat × Nat × Nat)) (x : Nat × Nat × Nat × Nat) (suf : List (Nat × Nat × Nat × Nat)) (hh0 : hh = pre ++ x :: suf) (hpass : ∀ z ∈ pre, z.2.2.2 ≠ 0 ∧ ∃ nm : String, Cond.classLink own z.2.2.2 nm ∈ ws ∧ (E, nm) ∈ jNcs) (hx : x.1 ≤ pc ∧ pc < x.2.1) (h0 : x.2.2.2 ≠ 0) (hcl : Cond.classLink own x.2.2.2 name ∈ ws) (hca : Cond.castable E name ∈ jNws) {q : Fin 4} {i : Nat} (hd : decode cc x.2.2.1 = .ok (.astore_n q, 1)) (hi : (q : Nat) = i) (hn : i < nL) (hk : jok lv i = true) {lv' : List Value} (hlv : lv.set i (.float 0) = lv') (k : J l D dA own cc ws nL ini rt hh fr lo F n0 bc bs M (x.2.2.1 + 1) lv' []) : JX l D dA own cc ws nL ini rt hh fr lo F n0 bc bs E M pc lv st := by
  intro p e R s m args below meth c H locs cells slots MC MS A ad ad0 ls q9 ce G hP hD hS hl hr g1 g2 g3
  obtain ⟨hx0, hb, hml, hown, hts, hlk, htb, hini, hrt, hfr, hlo, hMC, hMS, hA, hK, hX, hst⟩ := id G
  subst hlv
  refine vx_catch hown (tableOf pre) ⟨x.1, x.2.1, x.2.2.1, x.2.2.2⟩ (tableOf suf) (by rw [htb, hh0]; simp [tableOf]) (fun z hz => ?_) (by simp [covers, hx.1, hx.2]) h0 (hts _ hcl) (jNw_use rfl (hX.1 _ hca)) g1 g2 g3 ?_
  · obtain ⟨y, hy, rfl⟩ := List.mem_map.mp hz
    obtain ⟨a, nm, b, c9⟩ := hpass y hy
    exact Or.inr ⟨a, nm, hts _ b, hX.2.2.2.2.2.2.1 (E, nm) c9⟩
  · exact lv_astore_n hx0 hb hd hi hl.has hn rfl (fun ls2 h2 => k p e R s m args below meth c H locs cells slots MC MS A ad ad0 ls2 G hP hD hS (jLs.setU hk h2) hr)
theorem JX_catch {E name : String} (pre : List (Nat × Nat × Nat × Nat)) (x : Nat × Nat × Nat × Nat) (suf : List (Nat × Nat × Nat × Nat)) (hh0 : hh = pre ++ x :: suf) (hpass : ∀ z ∈ pre, z.2.2.2 ≠ 0 ∧ ∃ nm : String, Cond.classLink own z.2.2.2 nm ∈ ws ∧ (E, nm) ∈ jNcs) (hx : x.1 ≤ pc ∧ pc < x.2.1) (h0 : x.2.2.2 ≠ 0) (hcl : Cond.classLink own x.2.2.2 name ∈ ws) (hca : Cond.castable E name ∈ jNws) {i : Nat} (hd : decode cc x.2.2.1 = .ok (.astore i, 2)) (hn : i < nL) (hk : jok lv i = true) {lv' : List Value} (hlv : lv.set i (.float 0) = lv') (k : J l D dA own cc ws nL ini rt hh fr lo F n0 bc bs M (x.2.2.1 + 2) lv' []) : JX l D dA own cc ws nL ini rt hh fr lo F n0 bc bs E M pc lv st := by
  intro p e R s m args below meth c H locs cells slots MC MS A ad ad0 ls q9 ce G hP hD hS hl hr g1 g2 g3
  obtain ⟨hx0, hb, hml, hown, hts, hlk, htb, hini, hrt, hfr, hlo, hMC, hMS, hA, hK, hX, hst⟩ := id G
  subst hlv
  refine vx_catch hown (tableOf pre) ⟨x.1, x.2.1, x.2.2.1, x.2.2.2⟩ (tableOf suf) (by rw [htb, hh0]; simp [tableOf]) (fun z hz => ?_) (by simp [covers, hx.1, hx.2]) h0 (hts _ hcl) (jNw_use rfl (hX.1 _ hca)) g1 g2 g3 ?_
  · obtain ⟨y, hy, rfl⟩ := List.mem_map.mp hz
    obtain ⟨a, nm, b, c9⟩ := hpass y hy
    exact Or.inr ⟨a, nm, hts _ b, hX.2.2.2.2.2.2.1 (E, nm) c9⟩
  · exact lv_astore hx0 hb hd hl.has hn rfl (fun ls2 h2 => k p e R s m args below meth c H locs cells slots MC MS A ad ad0 ls2 G hP hD hS (jLs.setU hk h2) hr)
/-- a body with handlers -/
theorem jBodyH {y : MethodName} {wy wy' : List Cond} {mc ms k : Nat} {av : List Value} (hy : plainName y.cls = true) (hw : wy = Cond.codeWith y cc nL rt hh :: wy') (hst : l.stackTraces = false) (hlen : av.length ≤ nL) (hc : ∀ v ∈ av, v.category = 1) (hi : ini = true → y.name = "<init>")
    (h : J l D dA y.cls cc wy nL ini rt hh fr lo (jF D dA (jn M) P k) (jn M) mc ms M 0 (av ++ List.replicate (nL - av.length) (.float 0)) []) : jCT l D dA y wy fr lo mc ms k av M P := by
  intro A ad
  refine vx_ofWH hy hw ?_
  intro p e s m args below meth c s₁ B hml hv
  obtain ⟨rfl, hP, hD, hK, hX, hA⟩ := hv
  have hlg : (lg_sl (av.map (jv dA ad))).length ≤ nL := by
    rw [lg_sl1 _ (fun v hv => by obtain ⟨u, hu2, rfl⟩ := List.mem_map.mp hv; rw [jv_cat]; exact hc u hu2), List.length_map]
    exact hlen
  have hl := lv_entry (av.map (jv dA ad)) (n := nL) hlg
  rw [lg_entry_eq]
  generalize (lg_sl (av.map (jv dA ad)) ++ List.replicate (nL - (lg_sl (av.map (jv dA ad))).length) Slot.unset).toArray = ls at hl ⊢
  have hts := atoms_spec (ws := wy) B.pre
  have ht0 : c.exceptionTable.toList = tableOf hh := vx_table (x := y) B (hts _ (by rw [hw]; exact List.mem_cons_self))
  exact h p e (headSpec wy { frames := fr, cells := mc, slots := ms, locals := lo }).room s m _ below meth c s.heap [] 0 0 mc ms A ad ad ls
    ⟨B.exec, B.bytes, hml, findClass_of_methodNamed B.named, hts, B.notSynchronized, ht0, fun hq => (name_of_methodNamed B.named B.method).1.trans (hi hq), B.returns, Nat.le_refl _, Nat.le_refl _, Nat.le_refl _, Nat.le_refl _, hA, hK, hX, hst⟩ hP hD va_S.rf (jLs_entry hc hl) ⟨jAg.rf, Nat.le_refl _, by omega, by omega, Or.inl rfl⟩
def jYH (y : MethodName) (wy : List Cond) (bytes : ByteArray) (maxL : Nat) (ret : Option FieldType) (hy : List (Nat × Nat × Nat × Nat)) (n : Nat) : Prop := (∃ w', wy = Cond.codeWith y bytes maxL ret hy :: w') ∧ y.cls ≠ "java/lang/invoke/MethodHandle" ∧ y.cls ≠ "java/lang/invoke/VarHandle" ∧ (parseMethodDescriptor y.desc).map (fun d => d.parameters.length) = some n
theorem jrunSH {y : MethodName} {wy : List Cond} {bytes : ByteArray} {maxL n idx mc ms k fr' lo' : Nat} {ret : Option FieldType} {hy : List (Nat × Nat × Nat × Nat)} {Pc : jP} {As st0 : List Value} (hct : jCT l D dA y wy fr' lo' mc ms k As M Pc) (hd : decode cc pc = .ok (.invokestatic idx, 3)) (hY : jYH y wy bytes maxL ret hy n) (hG : GoodIn ws (va_wsS own idx y wy)) (hs : st0 = As.reverse ++ st) (hR : fr' + 1 ≤ fr ∧ 8 + (maxL + 11) + lo' ≤ lo) (hb2 : mc ≤ bc ∧ ms ≤ bs) (hlen : As.length = n) (hst4 : st.length ≤ 4)  : jRun l D dA own cc ws nL ini rt hh fr lo n0 bc bs mc ms k Pc M pc lv st0 st := by
  intro p e R s m args below meth c H locs cells slots MC MS A ad ad0 ls G hP hD hS hl hr
  obtain ⟨hx, hb, hml, hown, hts, hlk, htb, hini, hrt, hfr, hlo, hMC, hMS, hA, hK, hX, hst⟩ := id G
  obtain ⟨⟨w', hw⟩, hy1, hy2, hy3⟩ := hY
  have hRR : fr' + 1 ≤ R.frames ∧ 8 + (maxL + 11) + lo' ≤ R.locals := ⟨Nat.le_trans hR.1 hfr, Nat.le_trans hR.2 hlo⟩
  have hff : cells + mc ≤ R.cells ∧ slots + ms ≤ R.slots := ⟨by have := hr.2.2.1; omega, by have := hr.2.2.2.1; omega⟩
  rw [jStk0 hs]
  exact ⟨_, vx_runSX ⟨hx, hb, hml, hown, hts⟩ (hct A ad) (vx_cwSW n hts hG hw rfl rfl ⟨hy1, hy2, hy3⟩ hRR) ⟨jPre_blind, fun U hU hW => ⟨rfl, jPre_go hA hK hX hP hD hS hU hW⟩⟩ rfl (by rw [List.length_map]; exact hlen) hl.1 rfl (jRoom hst4) hd hff⟩
end Caught
