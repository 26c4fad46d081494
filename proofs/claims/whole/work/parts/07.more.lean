theorem jCl_Nw {M : jM} {kd len : Nat} (h : jCl M) : jCl (jNw M kd len) := by
  intro a j q ha hq
  rw [jr_Nw] at hq
  split at hq
  · cases hq
  · rename_i hne
    exact Nat.lt_succ_of_lt (h a j q (by rw [jn_Nw] at ha; omega) hq)
theorem jCl_Sr {M : jM} {a j : Nat} {r : Option Nat} (h : jCl M) (hr : ∀ q, r = some q → q < jn M) : jCl (jSr M a j r) := by
  intro b i q hb hq
  rw [jr_Sr] at hq
  split at hq
  · exact hr q hq
  · exact h b i q hb hq
theorem jCl_Si {M : jM} {a j : Nat} {x : Int32} (h : jCl M) : jCl (jSi M a j x) := h
theorem jCl_Sv {M : jM} {a : Nat} {g : Nat → Int32} (h : jCl M) : jCl (jSv M a g) := h
/-- every old cell as it was; there may be new ones -/
def jExt (M M1 : jM) : Prop := jn M ≤ jn M1 ∧ ∀ a, a < jn M → jk M1 a = jk M a ∧ jz M1 a = jz M a ∧ ji M1 a = ji M a ∧ jr M1 a = jr M a ∧ jl M1 a = jl M a ∧ jd M1 a = jd M a
theorem jExt.rf {M : jM} : jExt M M := ⟨Nat.le_refl _, fun _ _ => ⟨rfl, rfl, rfl, rfl, rfl, rfl⟩⟩
theorem jExt.tr {M M1 M2 : jM} (h : jExt M M1) (h2 : jExt M1 M2) : jExt M M2 := by
  refine ⟨Nat.le_trans h.1 h2.1, fun a ha => ?_⟩
  obtain ⟨a1, a2, a3, a4, a5, a6⟩ := h.2 a ha
  obtain ⟨b1, b2, b3, b4, b5, b6⟩ := h2.2 a (Nat.lt_of_lt_of_le ha h.1)
  exact ⟨b1.trans a1, b2.trans a2, b3.trans a3, b4.trans a4, b5.trans a5, b6.trans a6⟩
theorem jExt.nw {M : jM} {kd len : Nat} : jExt M (jNw M kd len) := by
  refine ⟨Nat.le_succ _, fun a ha => ?_⟩
  have hne : a ≠ jn M := Nat.ne_of_lt ha
  refine ⟨by simp [jk_Nw, hne], by simp [jz_Nw, hne], by funext j; simp [ji_Nw, hne], by funext j; simp [jr_Nw, hne], by funext j; simp [jl_Nw, hne], by funext j; simp [jd_Nw, hne]⟩
theorem jExt.si {M M1 : jM} {a j : Nat} {x : Int32} (h : jExt M M1) (ha : jn M ≤ a) : jExt M (jSi M1 a j x) := by
  refine ⟨h.1, fun b hb => ?_⟩
  obtain ⟨a1, a2, a3, a4, a5, a6⟩ := h.2 b hb
  have hne : b ≠ a := by omega
  refine ⟨a1, a2, ?_, a4, a5, a6⟩
  rw [← a3]; funext i; simp [ji_Si, hne]
theorem jExt.sr {M M1 : jM} {a j : Nat} {x : Option Nat} (h : jExt M M1) (ha : jn M ≤ a) : jExt M (jSr M1 a j x) := by
  refine ⟨h.1, fun b hb => ?_⟩
  obtain ⟨a1, a2, a3, a4, a5, a6⟩ := h.2 b hb
  have hne : b ≠ a := by omega
  refine ⟨a1, a2, a3, ?_, a5, a6⟩
  rw [← a4]; funext i; simp [jr_Sr, hne]
theorem jExt.sv {M M1 : jM} {a : Nat} {g : Nat → Int32} (h : jExt M M1) (ha : jn M ≤ a) : jExt M (jSv M1 a g) := by
  refine ⟨h.1, fun b hb => ?_⟩
  obtain ⟨a1, a2, a3, a4, a5, a6⟩ := h.2 b hb
  have hne : b ≠ a := by omega
  refine ⟨a1, a2, ?_, a4, a5, a6⟩
  rw [← a3]; funext i; simp [ji_Sv, hne]
section More
variable {l : Launch} {D : va_G} {dA : Nat → ClassId} {own : String} {cc : ByteArray} {ws : List Cond} {nL : Nat} {ini : Bool} {rt : Option FieldType} {hh : List (Nat × Nat × Nat × Nat)} {fr lo : Nat} {F : jFin} {n0 bc bs : Nat} {M : jM} {pc : Nat} {lv st : List Value} {P : jP}
theorem J_throwSW {E text : String} {names : List String} {ik is ic k : Nat} (hfit : Bundle.fit E = true) (hnames : ∀ n ∈ names, Bundle.fit n = true)
    (d0 : decode cc pc = .ok (.new ik, 3)) (d3 : decode cc (pc + 3) = .ok (.dup, 1)) (d4 : decode cc (pc + 4) = .ok (.ldc_w is, 3)) (d7 : decode cc (pc + 7) = .ok (.invokespecial ic, 3)) (d10 : decode cc (pc + 10) = .ok (.athrow, 1))
    (hw1 : Cond.classLink own ik E ∈ ws) (hw2 : Cond.initialized E ∈ ws) (hs1 : (own, is, text) ∈ jStrs) (hat1 : ∀ w ∈ (vy_atS own ic E names).filter goodWord, w ∈ ws) (hat2 : ∀ w ∈ (vy_atS own ic E names).filter (fun w => !goodWord w), w ∈ jNws)
    (hgood : ∀ w ∈ Cond.classLink own ik E :: Cond.initialized E :: vy_atS own ic E names, vx_ot w = true) (hh0 : hh = []) (hst4 : st.length ≤ 4) (hf9 : names.length + 3 < fr) (hl9 : 8 + (13 * (names.length + 1) + 43) ≤ lo) (h1 : 1 ≤ bc) (h2 : 6 ≤ bs) (hp : P (.inr E) M) :
    J l D dA own cc ws nL ini rt hh fr lo (jF D dA n0 P k) n0 bc bs M pc lv st := by
  intro p e R s m args below meth c H locs cells slots MC MS A ad ad0 ls G hP hD hS hl hr
  obtain ⟨hx, hb, hml, hown, hts, hlk, htb, hini, hrt, hfr, hlo, hMC, hMS, hA, hK, hX, hst⟩ := id G
  subst hh0
  obtain ⟨sa, hsa⟩ := hX.2.2.2.2.2.1 _ hs1
  have hrm := jCat (st := st) (dA := dA) (ad := ad) hst4
  have hc1 := hr.2.2.1
  have hs9 := hr.2.2.2.1
  refine vy_throwSW (text := text) (sa := sa) hx hb hst hown hfit hnames (hts _ hw1) (hts _ hw2) hsa (vx_hat (fun w hw => hts w (hat1 w hw)) (fun w hw => hat2 w hw) (fun w hw => jNw_use (List.mem_filter.mp hw).2 (hX.1 w hw))) hgood hX.2.2.2.1 hX.2.2.2.2.1 hS (by rw [hml]; exact hl.1) d0 d3 d4 d7 d10 (fun x hx2 => by rw [htb] at hx2; cases hx2) (by omega) (by omega) (by omega) (by omega) hlk (fun t hv hz hq => ?_) hS.2.2 (by omega) (by omega)
  have hS' : va_F A s t := ⟨Nat.le_trans hS.1 hz, fun q g1 g2 => (hq q (Nat.lt_of_lt_of_le g1 hS.1)).trans (hS.2.1 q g1 g2)⟩
  exact ⟨(M, ad), trivial, ⟨hp, hP.kept (fun kk q hk => hq q.1 ((hP kk q hk).lt)), hD, va_K.moved hv hK, hr.1, hr.2.1, hr.2.2.2.2⟩, hS'⟩
theorem J_copyi {idx a0 a sp dp n z0 z : Nat} (hd : decode cc pc = .ok (.invokestatic idx, 3)) (hw1 : Cond.methodLink own idx arraycopyName ∈ ws) (hw2 : Cond.native arraycopyName ∈ ws) (hw3 : Cond.static arraycopyName ∈ ws) (hw4 : Cond.initialized "java/lang/System" ∈ ws)
    (ha0 : a0 < jn M) (hk0 : jk M a0 = 22) (ha : a < jn M) (hk : jk M a = 22) (hz0 : jz M a0 = z0) (hz : jz M a = z) (hb0 : z0 < 2 ^ 31) (hb : z < 2 ^ 31) (h1 : sp + n ≤ z0) (h2 : dp + n ≤ z) (hst4 : st.length ≤ 4) (hfr9 : 1 ≤ fr) (hlo9 : 60 ≤ lo)
    (k : J l D dA own cc ws nL ini rt hh fr lo F n0 bc bs (jSv M a (va_cpy (ji M a0) (ji M a) sp dp n)) (pc + 3) lv st) : J l D dA own cc ws nL ini rt hh fr lo F n0 bc bs M pc lv (.int (nI n) :: .int (nI dp) :: .ref a :: .int (nI sp) :: .ref a0 :: st) := by
  intro p e R s m args below meth c H locs cells slots MC MS A ad ad0 ls G hP hD hS hl hr
  obtain ⟨hx, hb9, hml, hown, hts, hlk, htb, hini, hrt, hfr, hlo, hMC, hMS, hA, hK, hX, hst⟩ := id G
  have hrm := jCat (st := st) (dA := dA) (ad := ad) hst4
  have e1 : (nI sp).toNatClampNeg = sp := nI_clamp (by omega)
  have e2 : (nI dp).toNatClampNeg = dp := nI_clamp (by omega)
  have e3 : (nI n).toNatClampNeg = n := nI_clamp (by omega)
  refine va_copyi hx hb9 (hml.trans hl.1.symm) hown (hts _ hw1) (hts _ hw2) (hts _ hw3) (hts _ hw4) hK hP hD hS a0 a 2 2 (c0 := dA 2) (c1 := dA 2) (n0 := jz M a0) (n1 := jz M a) (f := ji M a0) (g := ji M a) (ty := .int) ?_ ?_ rfl rfl rfl (nI_pos (by omega)) (nI_pos (by omega)) (nI_pos (by omega)) (by rw [e1, e3, hz0]; exact h1) (by rw [e2, e3, hz]; exact h2) (fun i _ => rfl) (Nat.le_trans hfr9 hfr) ?_ hd (fun H1 locs1 hP1 hD1 hS1 => ?_)
  · rw [jW_arr (t := 2) ha0 hk0]; rfl
  · rw [jW_arr (t := 2) ha hk]; rfl
  · have : nativeFrameWords "java/lang/System" "arraycopy" 5 + 11 ≤ 52 := by decide
    omega
  · rw [e1, e2, e3] at hP1 hD1
    have he9 : (jW ad dA M).set a (ad a, .inl (dA 2, jz M a, .inl (va_cpy (ji M a0) (ji M a) sp dp n))) = jW ad dA (jSv M a (va_cpy (ji M a0) (ji M a) sp dp n)) := jW_set rfl (by rw [jE_i (t := 2) (show jk (jSv M a _) a = 20 + 2 from hk) (by decide), show ji (jSv M a (va_cpy (ji M a0) (ji M a) sp dp n)) a = va_cpy (ji M a0) (ji M a) sp dp n from by funext j; simp [ji_Sv]]; rfl) (fun b hb2 => jE_sv_ne hb2)
    rw [he9] at hP1 hD1
    exact k p e R s m args below meth c H1 locs1 cells slots MC MS A ad ad0 ls G hP1 hD1 hS1 hl hr
theorem jfind_I {s : State} (hK : va_K D vwCl (jT dA) s) : s.vm.findClass "[I" = some (dA 2) := (hK.2 2 _ rfl).2
/-- the copy of an array of ints that clone() makes, and the cast that follows -/
theorem J_cloneI {idx idx2 a : Nat} (hd : decode cc pc = .ok (.invokevirtual idx, 3)) (hd2 : decode cc (pc + 3) = .ok (.checkcast idx2, 3)) (hw1 : Cond.methodLink own idx ⟨"[I", "clone", "()Ljava/lang/Object;"⟩ ∈ ws) (hw2 : Cond.sameMethod "[I" "java/lang/Object" "clone" "()Ljava/lang/Object;" ∈ ws) (hw3 : Cond.native ⟨"java/lang/Object", "clone", "()Ljava/lang/Object;"⟩ ∈ ws) (hw4 : Cond.instanceMethod ⟨"java/lang/Object", "clone", "()Ljava/lang/Object;"⟩ ∈ ws) (hw5 : Cond.selects "[I" ⟨"[I", "clone", "()Ljava/lang/Object;"⟩ ⟨"java/lang/Object", "clone", "()Ljava/lang/Object;"⟩ ∈ ws) (hw6 : Cond.classLink own idx2 "[I" ∈ ws) (hw7 : Cond.castable "[I" "java/lang/Cloneable" ∈ jNws)
    (ha : a < jn M) (hk : jk M a = 22) (hcl : jCl M) (hlv : jOk (jn M) lv) (hst2 : jOk (jn M) st) (h1 : 1 ≤ bc) (h2 : jz M a ≤ bs) (hst4 : st.length ≤ 4) (hfr9 : 1 ≤ fr) (hlo9 : 60 ≤ lo)
    (k : J l D dA own cc ws nL ini rt hh fr lo F n0 (bc - 1) (bs - jz M a) (jSv (jNw M 22 (jz M a)) (jn M) (ji M a)) (pc + 6) lv (.ref (jn M) :: st)) : J l D dA own cc ws nL ini rt hh fr lo F n0 bc bs M pc lv (.ref a :: st) := by
  intro p e R s m args below meth c H locs cells slots MC MS A ad ad0 ls G hP hD hS hl hr
  obtain ⟨hx, hb9, hml, hown, hts, hlk, htb, hini, hrt, hfr, hlo, hMC, hMS, hA, hK, hX, hst⟩ := id G
  have hrm := jCat (st := st) (dA := dA) (ad := ad) hst4
  have hr1 := hr.2.2.1
  have hr2 := hr.2.2.2.1
  refine va_clone hx hb9 (hml.trans hl.1.symm) hown (hts _ hw1) (hts _ hw2) (hts _ hw3) (hts _ hw4) (hts _ hw5) (hX.1 _ hw7) hK hP hD hS hA a 2 (cA := dA 2) (x := (jz M a, .inl (ji M a))) (ty := .int) (by rw [jW_arr (t := 2) ha hk]; rfl) rfl (jfind_I hK) (fun i v hv => ?_) (Nat.le_trans hfr9 hfr) (by omega) (by omega) (by show slots + jz M a ≤ _; omega) hd (fun q H1 hK1 hP1 hD1 hS1 => ?_)
  · have hv2 : (arrV (dA 2) (jz M a) (fun j => Value.int (ji M a j))).slots[i]? = some v := hv
    have hi : i < jz M a := by
      have := (Array.getElem?_eq_some_iff.mp hv2).1
      rwa [arrV_size] at this
    rw [arrV_read _ _ hi] at hv2
    cases hv2
    rfl
  · have he9 : jE (va_up ad (jn M) q) dA (jNw M 22 (jz M a)) (jn M) = .inl (dA 2, (jz M a, .inl (fun _ => 0))) := by
      rw [jE_arr (t := 2) (show jk (jNw M 22 (jz M a)) (jn M) = 20 + 2 by simp [jk_Nw])]
      have e1 : ji (jNw M 22 (jz M a)) (jn M) = fun _ => 0 := by funext j; simp [ji_Nw]
      simp [jC, jz_Nw, e1]
    have hset : jW ad dA M ++ [(q, .inl (dA 2, (jz M a, .inl (ji M a))))] = jW (va_up ad (jn M) q) dA (jSv (jNw M 22 (jz M a)) (jn M) (ji M a)) := by
      have h9 := jW_push hcl he9
      have h10 : (jW (va_up ad (jn M) q) dA (jNw M 22 (jz M a))).set (jn M) (va_up ad (jn M) q (jn M), .inl (dA 2, jz M a, .inl (ji M a))) = jW (va_up ad (jn M) q) dA (jSv (jNw M 22 (jz M a)) (jn M) (ji M a)) := jW_set rfl (by rw [jE_i (t := 2) (show jk (jSv (jNw M 22 (jz M a)) (jn M) (ji M a)) (jn M) = 20 + 2 by simp [jk_Sv, jk_Nw]) (by decide), show ji (jSv (jNw M 22 (jz M a)) (jn M) (ji M a)) (jn M) = ji M a from by funext j; simp [ji_Sv]]; simp [jz_Sv, jz_Nw]) (fun b hb2 => jE_sv_ne hb2)
      rw [← h10, ← h9, va_up_self, List.set_append_right _ _ (by rw [jW_len]; exact Nat.le_refl _), jW_len, Nat.sub_self]
      rfl
    rw [hset] at hP1 hD1
    have hk2 := k p e R s m args below meth c H1 locs (cells + 1) (slots + jz M a) MC MS A (va_up ad (jn M) q) ad0 ls G hP1 hD1 hS1 (hl.ag (fun i hi => va_up_ne _ _ (Nat.ne_of_lt hi)) hlv) (jR_new (kd := 22) (len := jz M a) hr h1 h2)
    have em : st.map (jv dA (va_up ad (jn M) q)) = st.map (jv dA ad) := jmap_ag (fun i hi => va_up_ne _ _ (Nat.ne_of_lt hi)) hst2
    rw [List.map_cons, em] at hk2
    have e3 : jv dA (va_up ad (jn M) q) (.ref (jn M)) = .ref q := congrArg Value.ref (va_up_self _ _ _)
    rw [e3] at hk2
    have hq9 : (jW (va_up ad (jn M) q) dA (jSv (jNw M 22 (jz M a)) (jn M) (ji M a)))[jn M]? = some (q, .inl (dA 2, (jz M a, .inl (ji M a)))) := by
      rw [jW_at (show jn M < jn (jSv (jNw M 22 (jz M a)) (jn M) (ji M a)) from Nat.lt_succ_self _), va_up_self, jE_i (t := 2) (show jk (jSv (jNw M 22 (jz M a)) (jn M) (ji M a)) (jn M) = 20 + 2 by simp [jk_Sv, jk_Nw]) (by decide), show ji (jSv (jNw M 22 (jz M a)) (jn M) (ji M a)) (jn M) = ji M a from by funext j; simp [ji_Sv]]
      simp [jz_Sv, jz_Nw]
    exact va_castA hx hb9 hown (hts _ hw6) hP1 (jn M) hq9 (jfind_I hK) hd2 hk2
end More
