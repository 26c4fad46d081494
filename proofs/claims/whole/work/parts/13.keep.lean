section VWF
variable {l : Launch}
theorem vx_ofWF {y : MethodName} {ws ws' : List Cond} {rm : Room} {Pc : Array Value → State → Prop} {Qc : Array Value → State → Outcome → State → Prop} {XC : String → State → State → Prop} {mc ms : Nat} {free : Addr → Prop} {cc : ByteArray} {maxL : Nat} {ret : Option FieldType}
    (hy : Jvm.plainFor y = true) (hw : ws = Cond.code y cc maxL ret :: ws')
    (body : ∀ p e s m args below meth c s₁, BodyLoose p l y (headSpec ws rm) cc maxL ret e s m args below meth c s₁ → c.maxLocals = maxL → (∀ x ∈ c.exceptionTable.toList, False) → Pc args s →
      W p l e (headSpec ws rm).room s m args below meth c s.heap [] 0 0 (vx_MQ below Qc XC args s mc ms free) (entryFrame m args maxL)) : vx_Met l y ws rm Pc Qc XC mc ms free := by
  refine MetFree.of_bodySF (code := cc) (maxLocals := maxL) (ret := ret) hy ?_ ?_
  · intro args s m h hn
    obtain ⟨meth, c, h1, h2, h3, h4, h5, h6, -, -⟩ := Cond.code_spec hn (atoms_spec (ws := ws) h _ (by rw [hw]; exact List.mem_cons_self))
    exact ⟨meth, c, h1, h2, h3, h4, h5, h6⟩
  · intro p e s m args below meth c s₁ B hml hP _
    have hh0 : s₁.heap = s.heap := by rw [B.state]; rfl
    have ht : ∀ x ∈ c.exceptionTable.toList, False := by
      obtain ⟨meth9, c9, h1, h2, -, -, -, -, h7, -⟩ := Cond.code_spec B.named (atoms_spec (ws := ws) B.pre _ (by rw [hw]; exact List.mem_cons_self))
      cases Option.some.inj (h1.symm.trans B.method)
      cases Option.some.inj (h2.symm.trans (Stand.of_body B).code)
      intro x hx
      rw [Array.isEmpty_iff.mp h7] at hx
      cases hx
    obtain ⟨t, a1, o, b1, b2, b3⟩ := body p e s m args below meth c s₁ B hml ht hP s₁ hh0 (Stand.of_body B)
    exact ⟨t, o, a1, b1, b2, b3⟩
end VWF
section EndsF
variable {l : Launch} {D : va_G} {dA : Nat → ClassId} {own : String} {cc : ByteArray} {ws : List Cond} {nL : Nat} {ini : Bool} {rt : Option FieldType} {hh : List (Nat × Nat × Nat × Nat)} {fr lo : Nat} {F : jFin} {n0 bc bs : Nat} {M : jM} {pc : Nat} {lv st : List Value} {P : jP}
theorem jBodyF {y : MethodName} {wy wy' : List Cond} {mc ms k : Nat} {av : List Value} (hy : Jvm.plainFor y = true) (hw : wy = Cond.code y cc nL rt :: wy') (hst : l.stackTraces = false) (hlen : av.length ≤ nL) (hc : ∀ v ∈ av, v.category = 1) (hi : ini = true → y.name = "<init>")
    (h : J l D dA y.cls cc wy nL ini rt [] fr lo (jF D dA (jn M) P k) (jn M) mc ms M 0 (av ++ List.replicate (nL - av.length) (.float 0)) []) : jCT l D dA y wy fr lo mc ms k av M P := by
  intro A ad
  refine vx_ofWF hy hw ?_
  intro p e s m args below meth c s₁ B hml ht hv
  obtain ⟨rfl, hP, hD, hK, hX, hA⟩ := hv
  have hlg : (lg_sl (av.map (jv dA ad))).length ≤ nL := by
    rw [lg_sl1 _ (fun v hv => by obtain ⟨u, hu2, rfl⟩ := List.mem_map.mp hv; rw [jv_cat]; exact hc u hu2), List.length_map]
    exact hlen
  have hl := lv_entry (av.map (jv dA ad)) (n := nL) hlg
  rw [lg_entry_eq]
  generalize (lg_sl (av.map (jv dA ad)) ++ List.replicate (nL - (lg_sl (av.map (jv dA ad))).length) Slot.unset).toArray = ls at hl ⊢
  have ht0 : c.exceptionTable.toList = tableOf [] := by
    show _ = []
    cases hq : c.exceptionTable.toList with
    | nil => rfl
    | cons x l9 => exact absurd (ht x (by rw [hq]; exact List.mem_cons_self)) id
  exact h p e (headSpec wy { frames := fr, cells := mc, slots := ms, locals := lo }).room s m _ below meth c s.heap [] 0 0 mc ms A ad ad ls
    ⟨B.exec, B.bytes, hml, findClass_of_methodNamed B.named, atoms_spec (ws := wy) B.pre, B.notSynchronized, ht0, fun hq => (name_of_methodNamed B.named B.method).1.trans (hi hq), B.returns, Nat.le_refl _, Nat.le_refl _, Nat.le_refl _, Nat.le_refl _, hA, hK, hX, hst⟩ hP hD va_S.rf (jLs_entry hc hl) ⟨jAg.rf, Nat.le_refl _, by omega, by omega, Or.inl rfl⟩
end EndsF
theorem ji_new {M : jM} {a j kd len : Nat} {x : Int32} (h : a < jn M) (hk : ji M a j = x) : ji (jNw M kd len) a j = x := by rw [ji_Nw, if_neg (Nat.ne_of_lt h)]; exact hk
/-- a row of references anew -/
def jSq (M : jM) (a : Nat) (g : Nat → Option Nat) : jM := (jn M, jk M, jz M, ji M, jV (jr M) a g, jl M, jd M)
theorem jr_Sq (M : jM) (a : Nat) (g : Nat → Option Nat) (b j : Nat) : jr (jSq M a g) b j = if b = a then g j else jr M b j := rfl
theorem ji_Sq (M : jM) (a : Nat) (g : Nat → Option Nat) : ji (jSq M a g) = ji M := rfl
theorem jn_Sq (M : jM) (a : Nat) (g : Nat → Option Nat) : jn (jSq M a g) = jn M := rfl
theorem jk_Sq (M : jM) (a : Nat) (g : Nat → Option Nat) : jk (jSq M a g) = jk M := rfl
theorem jz_Sq (M : jM) (a : Nat) (g : Nat → Option Nat) : jz (jSq M a g) = jz M := rfl
theorem jl_Sq (M : jM) (a : Nat) (g : Nat → Option Nat) : jl (jSq M a g) = jl M := rfl
theorem jd_Sq (M : jM) (a : Nat) (g : Nat → Option Nat) : jd (jSq M a g) = jd M := rfl
theorem jM_eq {A B : jM} (h1 : jn A = jn B) (h2 : jk A = jk B) (h3 : jz A = jz B) (h4 : ji A = ji B) (h5 : jr A = jr B) (h6 : jl A = jl B) (h7 : jd A = jd B) : A = B := by
  obtain ⟨a1, a2, a3, a4, a5, a6, a7⟩ := A
  obtain ⟨b1, b2, b3, b4, b5, b6, b7⟩ := B
  cases h1; cases h2; cases h3; cases h4; cases h5; cases h6; cases h7
  rfl
theorem jV_U {α : Type} (f : Nat → Nat → α) (a k : Nat) (g : Nat → α) (v : α) : jU (jV f a g) a k v = jV f a (fun j => if j = k then v else g j) := by
  funext b j
  unfold jU jV
  by_cases h : b = a
  · subst h; simp
  · simp [h]
theorem jV_self {α : Type} (f : Nat → Nat → α) (a : Nat) : jV f a (f a) = f := by
  funext b j
  unfold jV
  by_cases h : b = a
  · subst h; simp
  · simp [h]
theorem jSr_Sq (M : jM) (a k : Nat) (g : Nat → Option Nat) (v : Option Nat) : jSr (jSq M a g) a k v = jSq M a (fun j => if j = k then v else g j) :=
  jM_eq rfl rfl rfl rfl (jV_U _ _ _ _ _) rfl rfl
theorem jSq_self (M : jM) (a : Nat) : jSq M a (jr M a) = M := jM_eq rfl rfl rfl rfl (jV_self _ _) rfl rfl
theorem jSi_Sv (M : jM) (a k : Nat) (g : Nat → Int32) (v : Int32) : jSi (jSv M a g) a k v = jSv M a (fun j => if j = k then v else g j) :=
  jM_eq rfl rfl rfl (jV_U _ _ _ _ _) rfl rfl rfl
theorem jSv_self (M : jM) (a : Nat) : jSv M a (ji M a) = M := jM_eq rfl rfl rfl (jV_self _ _) rfl rfl rfl
/-- the state at s becomes like the one at o -/
def jBR (M : jM) (s o k : Nat) : Nat → Option Nat := fun j => if j < k then jr M (o + 1) j else jr M (s + 1) j
def jBL (M : jM) (s o : Nat) : jM := jSi (jSv (jSq M (s + 1) (jBR M s o 12)) (s + 2) (va_cpy (ji M (o + 2)) (ji M (s + 2)) 0 0 30)) s 2 (ji M o 2)
theorem jBR_0 (M : jM) (s o : Nat) : jSq M (s + 1) (jBR M s o 0) = M := by
  have : jBR M s o 0 = jr M (s + 1) := by funext j; simp [jBR]
  rw [this, jSq_self]
theorem jBR_s (M : jM) (s o k : Nat) : jSr (jSq M (s + 1) (jBR M s o k)) (s + 1) k (jr M (o + 1) k) = jSq M (s + 1) (jBR M s o (k + 1)) := by
  rw [jSr_Sq]
  congr 1
  funext j
  unfold jBR
  by_cases h : j = k
  · subst h; simp
  · rw [if_neg h]
    by_cases h2 : j < k
    · rw [if_pos h2, if_pos (by omega)]
    · rw [if_neg h2, if_neg (by omega)]
theorem stR_k {M : jM} {s k : Nat} (h : k < 12) : stRange M s (nI k) = jr M (s + 1) k := by
  unfold stRange
  rw [if_pos (okSlot_c (nI_pos (by omega)) (nI_lt (b := 12) h (by omega))), nI_clamp (by omega)]
theorem okSlot_neg {x : Int32} (h : x < 0) : okSlot x = false := by simp [okSlot, h]
theorem okSlot_big {k : Nat} (h : 12 ≤ k) (hk : k < 2 ^ 31) : okSlot (nI k) = false := by
  have : ¬ nI k < 12 := nI_nlt (b := 12) h hk
  simp [okSlot, this]
theorem stR_no {M : jM} {s : Nat} {x : Int32} (h : okSlot x = false) : stRange M s x = none := by unfold stRange; rw [h]; rfl
theorem jBL_i {M : jM} {s o b j : Nat} (h1 : b ≠ s) (h2 : b ≠ s + 2) : ji (jBL M s o) b j = ji M b j := by
  unfold jBL
  rw [ji_Si, if_neg (fun h => h1 h.1), ji_Sv, if_neg h2, ji_Sq]
theorem jBL_r {M : jM} {s o b j : Nat} (h1 : b ≠ s + 1) : jr (jBL M s o) b j = jr M b j := by
  unfold jBL
  rw [jr_Si, jr_Sv, jr_Sq, if_neg h1]
theorem jStt.si {M : jM} {s c a k : Nat} {x : Int32} (h : jStt M s c) (hne : s ≠ a) : jStt (jSi M a k x) s c := by
  obtain ⟨h1, h2, h3, h4, h5, h6, h7, h8, h9, h10⟩ := h
  exact ⟨h1, h2, h3, h4, h5, h6, h7, h8, (by rw [ji_Si, if_neg (fun h => hne h.1)]; exact h9), h10⟩
def vFm (x : Int32) : Int32 := if x ^^^ 8 < 0 then (if x - x / 8 * 8 = 0 then x - x / 8 * 8 else x - x / 8 * 8 + 8) else x - x / 8 * 8
theorem vFm_up : ∀ k : Nat, k < 8 → vFm (nI (k + 1)) = nI ((k + 1) % 8) := by decide +kernel
theorem vFm_dn : ∀ k : Nat, k < 8 → vFm (nI k - 1) = nI ((k + 7) % 8) := by decide +kernel
theorem nI_min8 : ∀ k : Nat, k ≤ 8 → (if (8 : Int32) < nI (k + 1) then (8 : Int32) else nI (k + 1)) = nI (min (k + 1) 8) := by
  intro k hk
  have : ∀ k : Nat, k < 9 → (if (8 : Int32) < nI (k + 1) then (8 : Int32) else nI (k + 1)) = nI (min (k + 1) 8) := by decide +kernel
  exact this k (by omega)
/-- a history at h: its states lie behind its array; where the next goes, how many are kept -/
def jHis (M : jM) (h nx kp : Nat) : Prop := h + 26 ≤ jn M ∧ jk M h = 6 ∧ jr M h 0 = some (h + 1) ∧ jk M (h + 1) = 24 ∧ jz M (h + 1) = 8 ∧ (∀ j, j < 8 → jr M (h + 1) j = some (h + 2 + 3 * j)) ∧ (∀ j, j < 8 → ∃ c, jStt M (h + 2 + 3 * j) c) ∧ ji M h 1 = nI nx ∧ ji M h 2 = nI kp ∧ nx < 8 ∧ kp ≤ 8
/-- a state just made -/
def jStN (M : jM) (s : Nat) : Prop := (∀ j, jr M (s + 1) j = none) ∧ (∀ j, ji M (s + 2) j = 0) ∧ ji M s 2 = 0
theorem dX5_init_0 : decode cX5_init 0 = .ok (.aload_n 0, 1) := by decide +kernel
theorem dX5_init_1 : decode cX5_init 1 = .ok (.invokespecial 3, 3) := by decide +kernel
theorem dX5_init_4 : decode cX5_init 4 = .ok (.aload_n 0, 1) := by decide +kernel
theorem dX5_init_5 : decode cX5_init 5 = .ok (.bipush 12, 2) := by decide +kernel
theorem dX5_init_7 : decode cX5_init 7 = .ok (.anewarray 9, 3) := by decide +kernel
theorem dX5_init_10 : decode cX5_init 10 = .ok (.putfield 11, 3) := by decide +kernel
theorem dX5_init_13 : decode cX5_init 13 = .ok (.aload_n 0, 1) := by decide +kernel
theorem dX5_init_14 : decode cX5_init 14 = .ok (.bipush 30, 2) := by decide +kernel
theorem dX5_init_16 : decode cX5_init 16 = .ok (.newarray .int, 2) := by decide +kernel
theorem dX5_init_18 : decode cX5_init 18 = .ok (.putfield 17, 3) := by decide +kernel
theorem dX5_init_21 : decode cX5_init 21 = .ok (.aload_n 0, 1) := by decide +kernel
theorem dX5_init_22 : decode cX5_init 22 = .ok (.iconst 0, 1) := by decide +kernel
theorem dX5_init_23 : decode cX5_init 23 = .ok (.putfield 21, 3) := by decide +kernel
theorem dX5_init_26 : decode cX5_init 26 = .ok (.return_, 1) := by decide +kernel
set_option maxHeartbeats 2000000 in
set_option maxRecDepth 20000 in
theorem ct_X5_init (l : Launch) (D : va_G) (dA : Nat → ClassId) (hst : l.stackTraces = false) (M : jM) (hcl : jCl M) (t : Nat) (ht : t < jn M) (hk : jk M t = 9) : jCT l D dA yX5_init wsX5_init (21) (360) (2) (42) 0 [.ref (t)] M (jPo (oV) (jSi (jSr (jNw (jSr (jNw M 23 12) t 0 (some (jn M))) 22 30) t 1 (some (jn M + 1))) t 2 0)) := by
  refine jBody (cc := cX5_init) (nL := 1) (rt := none) (ini := true) (by decide) rfl hst (Nat.le_of_ble_eq_true rfl) (by simp [Value.category]) (by intro h9; first | exact absurd h9 (by decide) | rfl) ?_
  show J l D dA RX5 cX5_init wsX5_init 1 true none [] (21) (360) (jF D dA (jn M) (jPo (oV) (jSi (jSr (jNw (jSr (jNw M 23 12) t 0 (some (jn M))) 22 30) t 1 (some (jn M + 1))) t 2 0)) 0) (jn M) (2) (42) (M) 0 [.ref (t)] []
  refine J_aload_n (t) dX5_init_0 rfl rfl ?_
  refine J_objInit dX5_init_1 (List.mem_of_getElem? (i := 1) rfl) (List.mem_of_getElem? (i := 2) rfl) (List.mem_of_getElem? (i := 3) rfl) (Nat.le_of_ble_eq_true rfl) (by omega) (by omega) ?_
  refine J_aload_n (t) dX5_init_4 rfl rfl ?_
  refine J_bipush (x := 12) dX5_init_5 (by decide) ?_
  refine J_newq3 (N' := 12) (n := (12)) dX5_init_7 (List.mem_of_getElem? (i := 4) rfl) (nI_pos (n := 12) (by omega)) (nI_clamp (n := 12) (by omega)) (by omega) (by omega) (by omega) (hcl) (jOk.ref ht jOk.nil) (jOk.ref ht jOk.nil) ?_
  refine J_putrF (j := 0) (r := some (jn M)) dX5_init_10 (fun _ h => List.mem_cons_of_mem _ (List.mem_append_right _ (h))) cs9 cty9 (by decide) rfl (List.mem_of_getElem? (i := 5) rfl) rfl rfl rfl rfl jfit_rA (by have h9 := ht; first | exact h9 | (simp only [jn_Nw, jn_Si, jn_Sr, jn_Sv, jn_Sq]; omega)) (jk_new (M := M) (kd := 23) (len := 12) (by have h9 := ht; first | exact h9 | (simp only [jn_Nw, jn_Si, jn_Sr, jn_Sv, jn_Sq]; omega)) hk) ?_
  refine J_aload_n (t) dX5_init_13 rfl rfl ?_
  refine J_bipush (x := 30) dX5_init_14 (by decide) ?_
  refine J_newa (t := 2) (atype := .int) (N' := 30) (n := (30)) dX5_init_16 (by decide) rfl rfl (List.mem_of_getElem? (i := 6) rfl) (nI_pos (n := 30) (by omega)) (nI_clamp (n := 30) (by omega)) (by simp [newarray.typeOf, componentBytes] <;> omega) (by omega) (by omega) (jCl_Sr (jCl_Nw (hcl)) (fun q9 h9 => by cases h9; exact (by simp [jn_Nw, jn_Si, jn_Sr, jn_Sv] <;> omega))) (jOk.ref (by have h9 := ht; first | exact h9 | (simp only [jn_Nw, jn_Si, jn_Sr, jn_Sv, jn_Sq]; omega)) jOk.nil) (jOk.ref (by have h9 := ht; first | exact h9 | (simp only [jn_Nw, jn_Si, jn_Sr, jn_Sv, jn_Sq]; omega)) jOk.nil) ?_
  refine J_putrF (j := 1) (r := some (jn M + 1)) dX5_init_18 (fun _ h => List.mem_cons_of_mem _ (List.mem_append_right _ (h))) cs9 cty9 (by decide) rfl (List.mem_of_getElem? (i := 7) rfl) rfl rfl rfl rfl jfit_rA (by have h9 := ht; first | exact h9 | (simp only [jn_Nw, jn_Si, jn_Sr, jn_Sv, jn_Sq]; omega)) (jk_new (M := jSr (jNw M 23 12) (t) 0 (some (jn M))) (kd := 22) (len := 30) (by have h9 := ht; first | exact h9 | (simp only [jn_Nw, jn_Si, jn_Sr, jn_Sv, jn_Sq]; omega)) (jk_new (M := M) (kd := 23) (len := 12) (by have h9 := ht; first | exact h9 | (simp only [jn_Nw, jn_Si, jn_Sr, jn_Sv, jn_Sq]; omega)) hk)) ?_
  refine J_aload_n (t) dX5_init_21 rfl rfl ?_
  refine J_iconst (x := 0) dX5_init_22 (by decide) ?_
  refine J_puti (j := 2) (x := (0)) dX5_init_23 (fun _ h => List.mem_cons_of_mem _ (List.mem_append_right _ (h))) cs9 cty9 (by decide) rfl (List.mem_of_getElem? (i := 8) rfl) rfl rfl ⟨rfl, rfl⟩ (by have h9 := ht; first | exact h9 | (simp only [jn_Nw, jn_Si, jn_Sr, jn_Sv, jn_Sq]; omega)) (jk_new (M := jSr (jNw M 23 12) (t) 0 (some (jn M))) (kd := 22) (len := 30) (by have h9 := ht; first | exact h9 | (simp only [jn_Nw, jn_Si, jn_Sr, jn_Sv, jn_Sq]; omega)) (jk_new (M := M) (kd := 23) (len := 12) (by have h9 := ht; first | exact h9 | (simp only [jn_Nw, jn_Si, jn_Sr, jn_Sv, jn_Sq]; omega)) hk)) ?_
  exact J_vret dX5_init_26 rfl ⟨(by rfl), (by rfl)⟩

theorem dX5_becomeLike_2 : decode cX5_becomeLike 2 = .ok (.iload_n 2, 1) := by decide +kernel
theorem dX5_becomeLike_3 : decode cX5_becomeLike 3 = .ok (.bipush 12, 2) := by decide +kernel
theorem dX5_becomeLike_5 : decode cX5_becomeLike 5 = .ok (.if_icmp .ge 21, 3) := by decide +kernel
theorem dX5_becomeLike_26 : decode cX5_becomeLike 26 = .ok (.aload_n 1, 1) := by decide +kernel
theorem dX5_becomeLike_27 : decode cX5_becomeLike 27 = .ok (.getfield 17, 3) := by decide +kernel
theorem dX5_becomeLike_30 : decode cX5_becomeLike 30 = .ok (.iconst 0, 1) := by decide +kernel
theorem dX5_becomeLike_31 : decode cX5_becomeLike 31 = .ok (.aload_n 0, 1) := by decide +kernel
theorem dX5_becomeLike_32 : decode cX5_becomeLike 32 = .ok (.getfield 17, 3) := by decide +kernel
theorem dX5_becomeLike_35 : decode cX5_becomeLike 35 = .ok (.iconst 0, 1) := by decide +kernel
theorem dX5_becomeLike_36 : decode cX5_becomeLike 36 = .ok (.bipush 30, 2) := by decide +kernel
theorem dX5_becomeLike_38 : decode cX5_becomeLike 38 = .ok (.invokestatic 25, 3) := by decide +kernel
theorem dX5_becomeLike_41 : decode cX5_becomeLike 41 = .ok (.aload_n 0, 1) := by decide +kernel
theorem dX5_becomeLike_42 : decode cX5_becomeLike 42 = .ok (.aload_n 1, 1) := by decide +kernel
theorem dX5_becomeLike_43 : decode cX5_becomeLike 43 = .ok (.getfield 21, 3) := by decide +kernel
theorem dX5_becomeLike_46 : decode cX5_becomeLike 46 = .ok (.putfield 21, 3) := by decide +kernel
theorem dX5_becomeLike_49 : decode cX5_becomeLike 49 = .ok (.return_, 1) := by decide +kernel
theorem dX5_becomeLike_8 : decode cX5_becomeLike 8 = .ok (.aload_n 0, 1) := by decide +kernel
theorem dX5_becomeLike_9 : decode cX5_becomeLike 9 = .ok (.getfield 11, 3) := by decide +kernel
theorem dX5_becomeLike_12 : decode cX5_becomeLike 12 = .ok (.iload_n 2, 1) := by decide +kernel
theorem dX5_becomeLike_13 : decode cX5_becomeLike 13 = .ok (.aload_n 1, 1) := by decide +kernel
theorem dX5_becomeLike_14 : decode cX5_becomeLike 14 = .ok (.getfield 11, 3) := by decide +kernel
theorem dX5_becomeLike_17 : decode cX5_becomeLike 17 = .ok (.iload_n 2, 1) := by decide +kernel
theorem dX5_becomeLike_18 : decode cX5_becomeLike 18 = .ok (.aaload, 1) := by decide +kernel
theorem dX5_becomeLike_19 : decode cX5_becomeLike 19 = .ok (.aastore, 1) := by decide +kernel
theorem dX5_becomeLike_20 : decode cX5_becomeLike 20 = .ok (.iinc 2 1, 3) := by decide +kernel
theorem dX5_becomeLike_23 : decode cX5_becomeLike 23 = .ok (.goto (-21), 3) := by decide +kernel
theorem dX5_becomeLike_0 : decode cX5_becomeLike 0 = .ok (.iconst 0, 1) := by decide +kernel
theorem dX5_becomeLike_1 : decode cX5_becomeLike 1 = .ok (.istore_n 2, 1) := by decide +kernel
set_option maxHeartbeats 2000000 in
set_option maxRecDepth 20000 in
theorem ct_X5_becomeLike (l : Launch) (D : va_G) (dA : Nat → ClassId) (hst : l.stackTraces = false) (M : jM) (s c : Nat) (hS : jStt M s c) (o d : Nat) (hO : jStt M o d) (hd : s + 2 < o ∨ o + 2 < s) (hSl : jSlots M o) : jCT l D dA yX5_becomeLike wsX5_becomeLike (21) (360) (0) (0) 0 [.ref (s), .ref (o)] M (jPo (oV) (jBL M s o)) := by
  refine jBody (cc := cX5_becomeLike) (nL := 3) (rt := none) (ini := false) (by decide) rfl hst (Nat.le_of_ble_eq_true rfl) (by simp [Value.category]) (by intro h9; first | exact absurd h9 (by decide) | rfl) ?_
  show J l D dA RX5 cX5_becomeLike wsX5_becomeLike 3 false none [] (21) (360) (jF D dA (jn M) (jPo (oV) (jBL M s o)) 0) (jn M) (0) (0) (M) 0 [.ref (s), .ref (o), .float 0] []
  obtain ⟨s1, s2, s3, s4, s5, s6, s7, s8, s9, s10⟩ := id hS
  obtain ⟨o1, o2, o3, o4, o5, o6, o7, o8, o9, o10⟩ := id hO
  have L2 : ∀ (fuel : Nat) (k : Nat) (hk : k ≤ 12), 12 - k < fuel → J l D dA RX5 cX5_becomeLike wsX5_becomeLike 3 false none [] (21) (360) (jF D dA (jn M) (jPo (oV) (jBL M s o)) 0) (jn M) (0) (0) (jSq M (s + 1) (jBR M s o k)) 2 [.ref (s), .ref (o), .int (nI (k))] [] := by
    intro fuel
    induction fuel with
    | zero => intro k hk hm; exact absurd hm (Nat.not_lt_zero _)
    | succ fuel ih2 =>
      intro k hk hm2
      refine J_iload_n dX5_becomeLike_2 rfl rfl ?_
      refine J_bipush (x := 12) dX5_becomeLike_3 (by decide) ?_
      refine J_icmp_ge dX5_becomeLike_5 (tgt := 26) (by decide) (fun c5 => ?_) (fun c5 => ?_)
      · have c5 := jleT (a := 12) (b := k) (by omega) (by omega) c5
        refine J_aload_n (o) dX5_becomeLike_26 rfl rfl ?_
        refine J_getrs (q := o + 2) ((show jr (jSq M (s + 1) (jBR M s o k)) o 1 = some (o + 2) by rw [jr_Sq, if_neg (by omega)]; exact o4)) dX5_becomeLike_27 (fun _ h => List.mem_cons_of_mem _ (List.mem_append_right _ (h))) cs9 (by decide) rfl (List.mem_of_getElem? (i := 2) rfl) rfl (show o < jn M from by omega) o2 ?_
        refine J_iconst (x := 0) dX5_becomeLike_30 (by decide) ?_
        refine J_aload_n (s) dX5_becomeLike_31 rfl rfl ?_
        refine J_getrs (q := s + 2) ((show jr (jSq M (s + 1) (jBR M s o k)) s 1 = some (s + 2) by rw [jr_Sq, if_neg (by omega)]; exact s4)) dX5_becomeLike_32 (fun _ h => List.mem_cons_of_mem _ (List.mem_append_right _ (h))) cs9 (by decide) rfl (List.mem_of_getElem? (i := 2) rfl) rfl (show s < jn M from by omega) s2 ?_
        refine J_iconst (x := 0) dX5_becomeLike_35 (by decide) ?_
        refine J_bipush (x := 30) dX5_becomeLike_36 (by decide) ?_
        refine J_copyi (z0 := 30) (z := 30) (sp := 0) (dp := 0) (n := 30) dX5_becomeLike_38 (List.mem_of_getElem? (i := 3) rfl) (List.mem_of_getElem? (i := 4) rfl) (List.mem_of_getElem? (i := 5) rfl) (List.mem_of_getElem? (i := 6) rfl) (show o + 2 < jn M from by omega) o7 (show s + 2 < jn M from by omega) s7 o8 s8 (by omega) (by omega) (by omega) (by omega) (Nat.le_of_ble_eq_true rfl) (by omega) (by omega) ?_
        refine J_aload_n (s) dX5_becomeLike_41 rfl rfl ?_
        refine J_aload_n (o) dX5_becomeLike_42 rfl rfl ?_
        refine J_geti (j := 2) dX5_becomeLike_43 (fun _ h => List.mem_cons_of_mem _ (List.mem_append_right _ (h))) cs9 (by decide) rfl (List.mem_of_getElem? (i := 7) rfl) rfl (show o < jn M from by omega) o2 ?_
        refine J_topi (y := nI (d)) ((ji_ne_v (by omega) o9)) ?_
        refine J_puti (j := 2) (x := nI (d)) dX5_becomeLike_46 (fun _ h => List.mem_cons_of_mem _ (List.mem_append_right _ (h))) cs9 cty9 (by decide) rfl (List.mem_of_getElem? (i := 7) rfl) rfl rfl ⟨rfl, rfl⟩ (show s < jn M from by omega) s2 ?_
        exact J_vret dX5_becomeLike_49 rfl ⟨(by rfl), (by rw [show k = 12 from by omega]; unfold jBL; rw [o9]; rfl)⟩
      · have c5 := jleF (a := 12) (b := k) (by omega) (by omega) c5
        refine J_aload_n (s) dX5_becomeLike_8 rfl rfl ?_
        refine J_getrs (q := s + 1) ((show jr (jSq M (s + 1) (jBR M s o k)) s 0 = some (s + 1) by rw [jr_Sq, if_neg (by omega)]; exact s3)) dX5_becomeLike_9 (fun _ h => List.mem_cons_of_mem _ (List.mem_append_right _ (h))) cs9 (by decide) rfl (List.mem_of_getElem? (i := 1) rfl) rfl (show s < jn M from by omega) s2 ?_
        refine J_iload_n dX5_becomeLike_12 rfl rfl ?_
        refine J_aload_n (o) dX5_becomeLike_13 rfl rfl ?_
        refine J_getrs (q := o + 1) ((show jr (jSq M (s + 1) (jBR M s o k)) o 0 = some (o + 1) by rw [jr_Sq, if_neg (by omega)]; exact o3)) dX5_becomeLike_14 (fun _ h => List.mem_cons_of_mem _ (List.mem_append_right _ (h))) cs9 (by decide) rfl (List.mem_of_getElem? (i := 1) rfl) rfl (show o < jn M from by omega) o2 ?_
        refine J_iload_n dX5_becomeLike_17 rfl rfl ?_
        refine J_aald3N (k := k) dX5_becomeLike_18 (show o + 1 < jn M from by omega) o5 (by exact Nat.lt_of_lt_of_eq (show _ < 12 by omega) (Eq.symm o6)) (by exact Nat.lt_of_le_of_lt (Nat.le_of_eq o6) (show 12 < 2 ^ 31 by omega)) ?_
        refine J_topr (y := jr M (o + 1) k) (by rw [jr_Sq, if_neg (by omega)]) ?_
        refine J_aast3N (k := k) (r := jr M (o + 1) k) dX5_becomeLike_19 (show s + 1 < jn M from by omega) s5 (by exact Nat.lt_of_lt_of_eq (show _ < 12 by omega) (Eq.symm s6)) (by exact Nat.lt_of_le_of_lt (Nat.le_of_eq s6) (show 12 < 2 ^ 31 by omega)) (by exact fun q9 h9 => ⟨Nat.lt_of_succ_lt (hSl k q9 (by omega) h9).1, (hSl k q9 (by omega) h9).2.1⟩) ?_
        refine J_mem (M' := jSq M (s + 1) (jBR M s o (k + 1))) (by exact jBR_s M s o k) ?_
        refine J_iinc (y := nI (k + 1)) (lv' := [.ref (s), .ref (o), .int (nI (k + 1))]) dX5_becomeLike_20 rfl (jinc (k)) (by decide) rfl rfl ?_
        refine J_goto (tgt := 2) dX5_becomeLike_23 (by decide) ?_
        exact ih2 (k + 1) (by omega) (by omega)
  refine J_mem (M' := jSq M (s + 1) (jBR M s o 0)) (by exact (jBR_0 M s o).symm) ?_
  refine J_iconst (x := 0) dX5_becomeLike_0 (by decide) ?_
  refine J_istore_n (lv' := [.ref (s), .ref (o), .int (0)]) dX5_becomeLike_1 rfl (by decide) rfl rfl ?_
  exact L2 _ (0) (by omega) (Nat.lt_succ_self _)

theorem dX5_rangeIn_0 : decode cX5_rangeIn 0 = .ok (.iload_n 1, 1) := by decide +kernel
theorem dX5_rangeIn_1 : decode cX5_rangeIn 1 = .ok (.ifCond .lt 18, 3) := by decide +kernel
theorem dX5_rangeIn_19 : decode cX5_rangeIn 19 = .ok (.aconst_null, 1) := by decide +kernel
theorem dX5_rangeIn_20 : decode cX5_rangeIn 20 = .ok (.areturn, 1) := by decide +kernel
theorem dX5_rangeIn_4 : decode cX5_rangeIn 4 = .ok (.iload_n 1, 1) := by decide +kernel
theorem dX5_rangeIn_5 : decode cX5_rangeIn 5 = .ok (.bipush 12, 2) := by decide +kernel
theorem dX5_rangeIn_7 : decode cX5_rangeIn 7 = .ok (.if_icmp .ge 12, 3) := by decide +kernel
theorem dX5_rangeIn_10 : decode cX5_rangeIn 10 = .ok (.aload_n 0, 1) := by decide +kernel
theorem dX5_rangeIn_11 : decode cX5_rangeIn 11 = .ok (.getfield 11, 3) := by decide +kernel
theorem dX5_rangeIn_14 : decode cX5_rangeIn 14 = .ok (.iload_n 1, 1) := by decide +kernel
theorem dX5_rangeIn_15 : decode cX5_rangeIn 15 = .ok (.aaload, 1) := by decide +kernel
theorem dX5_rangeIn_16 : decode cX5_rangeIn 16 = .ok (.goto 4, 3) := by decide +kernel
set_option maxHeartbeats 2000000 in
set_option maxRecDepth 20000 in
theorem ct_X5_rangeIn (l : Launch) (D : va_G) (dA : Nat → ClassId) (hst : l.stackTraces = false) (M : jM) (s c : Nat) (hS : jStt M s c) (x : Int32) : jCT l D dA yX5_rangeIn wsX5_rangeIn (20) (300) (0) (0) 2 [.ref (s), .int (x)] M (jPo (oR (stRange M s x)) (M)) := by
  refine jBody (cc := cX5_rangeIn) (nL := 2) (rt := (some (.object "VersionAlgebra$Range"))) (ini := false) (by decide) rfl hst (Nat.le_of_ble_eq_true rfl) (by simp [Value.category]) (by intro h9; first | exact absurd h9 (by decide) | rfl) ?_
  show J l D dA RX5 cX5_rangeIn wsX5_rangeIn 2 false (some (.object "VersionAlgebra$Range")) [] (20) (300) (jF D dA (jn M) (jPo (oR (stRange M s x)) (M)) 2) (jn M) (0) (0) (M) 0 [.ref (s), .int (x)] []
  obtain ⟨s1, s2, s3, s4, s5, s6, s7, s8, s9, s10⟩ := id hS
  refine J_iload_n dX5_rangeIn_0 rfl rfl ?_
  refine J_if_lt dX5_rangeIn_1 (tgt := 19) (by decide) (fun c1 => ?_) (fun c1 => ?_)
  · refine J_null dX5_rangeIn_19 ?_
    exact J_aret (r := none) dX5_rangeIn_20 rfl (Or.inl ⟨_, rfl⟩) ⟨(by first | (rw [stR_k (by omega)]; done) | exact congrArg oR (stR_no (okSlot_neg c1)).symm | exact congrArg oR (stR_no (okSlot_big (by omega) hk31)).symm | fail "b"), (by rfl)⟩
  · obtain ⟨k, hk31, rfl⟩ := nI_of c1
    refine J_iload_n dX5_rangeIn_4 rfl rfl ?_
    refine J_bipush (x := 12) dX5_rangeIn_5 (by decide) ?_
    refine J_icmp_ge dX5_rangeIn_7 (tgt := 19) (by decide) (fun c7 => ?_) (fun c7 => ?_)
    · have c7 := jleT (a := 12) (b := k) (by omega) (by omega) c7
      refine J_null dX5_rangeIn_19 ?_
      exact J_aret (r := none) dX5_rangeIn_20 rfl (Or.inl ⟨_, rfl⟩) ⟨(by first | (rw [stR_k (by omega)]; done) | exact congrArg oR (stR_no (okSlot_neg c1)).symm | exact congrArg oR (stR_no (okSlot_big (by omega) hk31)).symm | fail "b"), (by rfl)⟩
    · have c7 := jleF (a := 12) (b := k) (by omega) (by omega) c7
      refine J_aload_n (s) dX5_rangeIn_10 rfl rfl ?_
      refine J_getrs (q := s + 1) s3 dX5_rangeIn_11 (fun _ h => List.mem_cons_of_mem _ (List.mem_append_right _ (h))) cs9 (by decide) rfl (List.mem_of_getElem? (i := 1) rfl) rfl (show s < jn M from by omega) s2 ?_
      refine J_iload_n dX5_rangeIn_14 rfl rfl ?_
      refine J_aald3N (k := k) dX5_rangeIn_15 (show s + 1 < jn M from by omega) s5 (by exact Nat.lt_of_lt_of_eq (show _ < 12 by omega) (Eq.symm s6)) (by exact Nat.lt_of_le_of_lt (Nat.le_of_eq s6) (show 12 < 2 ^ 31 by omega)) ?_
      refine J_goto (tgt := 20) dX5_rangeIn_16 (by decide) ?_
      exact J_aret (r := jr M (s + 1) k) dX5_rangeIn_20 rfl (Or.inl ⟨_, rfl⟩) ⟨(by first | (rw [stR_k (by omega)]; done) | exact congrArg oR (stR_no (okSlot_neg c1)).symm | exact congrArg oR (stR_no (okSlot_big (by omega) hk31)).symm | fail "b"), (by rfl)⟩

theorem dX5_setRange_0 : decode cX5_setRange 0 = .ok (.iload_n 1, 1) := by decide +kernel
theorem dX5_setRange_1 : decode cX5_setRange 1 = .ok (.ifCond .lt 16, 3) := by decide +kernel
theorem dX5_setRange_17 : decode cX5_setRange 17 = .ok (.return_, 1) := by decide +kernel
theorem dX5_setRange_4 : decode cX5_setRange 4 = .ok (.iload_n 1, 1) := by decide +kernel
theorem dX5_setRange_5 : decode cX5_setRange 5 = .ok (.bipush 12, 2) := by decide +kernel
theorem dX5_setRange_7 : decode cX5_setRange 7 = .ok (.if_icmp .ge 10, 3) := by decide +kernel
theorem dX5_setRange_10 : decode cX5_setRange 10 = .ok (.aload_n 0, 1) := by decide +kernel
theorem dX5_setRange_11 : decode cX5_setRange 11 = .ok (.getfield 11, 3) := by decide +kernel
theorem dX5_setRange_14 : decode cX5_setRange 14 = .ok (.iload_n 1, 1) := by decide +kernel
theorem dX5_setRange_15 : decode cX5_setRange 15 = .ok (.aload_n 2, 1) := by decide +kernel
theorem dX5_setRange_16 : decode cX5_setRange 16 = .ok (.aastore, 1) := by decide +kernel
set_option maxHeartbeats 2000000 in
set_option maxRecDepth 20000 in
theorem ct_X5_setRange (l : Launch) (D : va_G) (dA : Nat → ClassId) (hst : l.stackTraces = false) (M : jM) (s c : Nat) (hS : jStt M s c) (x : Int32) (r9 : Option Nat) (hr9 : ∀ q, r9 = some q → q < jn M ∧ jk M q = 7) : jCT l D dA yX5_setRange wsX5_setRange (20) (300) (0) (0) 0 [.ref (s), .int (x), va_rf (r9)] M (jPo (oV) (if okSlot x then jSr M (s + 1) x.toNatClampNeg r9 else M)) := by
  refine jBody (cc := cX5_setRange) (nL := 3) (rt := none) (ini := false) (by decide) rfl hst (Nat.le_of_ble_eq_true rfl) (by simp only [List.forall_mem_cons, jcat_rf]; simp [Value.category]) (by intro h9; first | exact absurd h9 (by decide) | rfl) ?_
  show J l D dA RX5 cX5_setRange wsX5_setRange 3 false none [] (20) (300) (jF D dA (jn M) (jPo (oV) (if okSlot x then jSr M (s + 1) x.toNatClampNeg r9 else M)) 0) (jn M) (0) (0) (M) 0 [.ref (s), .int (x), va_rf (r9)] []
  obtain ⟨s1, s2, s3, s4, s5, s6, s7, s8, s9, s10⟩ := id hS
  refine J_iload_n dX5_setRange_0 rfl rfl ?_
  refine J_if_lt dX5_setRange_1 (tgt := 17) (by decide) (fun c1 => ?_) (fun c1 => ?_)
  · exact J_vret dX5_setRange_17 rfl ⟨(by rfl), (by first | (rw [okSlot_neg c1]; exact (if_neg (by decide)).symm) | (rw [okSlot_big (by omega) hk31]; exact (if_neg (by decide)).symm) | (rw [if_pos (okSlot_c (nI_pos (by omega)) (nI_lt (b := 12) (by omega) (by omega))), nI_clamp (by omega)]; done) | fail "b")⟩
  · obtain ⟨k, hk31, rfl⟩ := nI_of c1
    refine J_iload_n dX5_setRange_4 rfl rfl ?_
    refine J_bipush (x := 12) dX5_setRange_5 (by decide) ?_
    refine J_icmp_ge dX5_setRange_7 (tgt := 17) (by decide) (fun c7 => ?_) (fun c7 => ?_)
    · have c7 := jleT (a := 12) (b := k) (by omega) (by omega) c7
      exact J_vret dX5_setRange_17 rfl ⟨(by rfl), (by first | (rw [okSlot_neg c1]; exact (if_neg (by decide)).symm) | (rw [okSlot_big (by omega) hk31]; exact (if_neg (by decide)).symm) | (rw [if_pos (okSlot_c (nI_pos (by omega)) (nI_lt (b := 12) (by omega) (by omega))), nI_clamp (by omega)]; done) | fail "b")⟩
    · have c7 := jleF (a := 12) (b := k) (by omega) (by omega) c7
      refine J_aload_n (s) dX5_setRange_10 rfl rfl ?_
      refine J_getrs (q := s + 1) s3 dX5_setRange_11 (fun _ h => List.mem_cons_of_mem _ (List.mem_append_right _ (h))) cs9 (by decide) rfl (List.mem_of_getElem? (i := 1) rfl) rfl (show s < jn M from by omega) s2 ?_
      refine J_iload_n dX5_setRange_14 rfl rfl ?_
      refine J_aload_nq (r9) dX5_setRange_15 rfl rfl ?_
      refine J_aast3N (k := k) (r := r9) dX5_setRange_16 (show s + 1 < jn M from by omega) s5 (by exact Nat.lt_of_lt_of_eq (show _ < 12 by omega) (Eq.symm s6)) (by exact Nat.lt_of_le_of_lt (Nat.le_of_eq s6) (show 12 < 2 ^ 31 by omega)) (by exact hr9) ?_
      exact J_vret dX5_setRange_17 rfl ⟨(by rfl), (by first | (rw [okSlot_neg c1]; exact (if_neg (by decide)).symm) | (rw [okSlot_big (by omega) hk31]; exact (if_neg (by decide)).symm) | (rw [if_pos (okSlot_c (nI_pos (by omega)) (nI_lt (b := 12) (by omega) (by omega))), nI_clamp (by omega)]; done) | fail "b")⟩

theorem dJ9_floorMod_7cf53_0 : decode cJ9_floorMod_7cf53 0 = .ok (.iload_n 0, 1) := by decide +kernel
theorem dJ9_floorMod_7cf53_1 : decode cJ9_floorMod_7cf53 1 = .ok (.iload_n 1, 1) := by decide +kernel
theorem dJ9_floorMod_7cf53_2 : decode cJ9_floorMod_7cf53 2 = .ok (.irem, 1) := by decide +kernel
theorem dJ9_floorMod_7cf53_3 : decode cJ9_floorMod_7cf53 3 = .ok (.istore_n 2, 1) := by decide +kernel
theorem dJ9_floorMod_7cf53_4 : decode cJ9_floorMod_7cf53 4 = .ok (.iload_n 0, 1) := by decide +kernel
theorem dJ9_floorMod_7cf53_5 : decode cJ9_floorMod_7cf53 5 = .ok (.iload_n 1, 1) := by decide +kernel
theorem dJ9_floorMod_7cf53_6 : decode cJ9_floorMod_7cf53 6 = .ok (.ixor, 1) := by decide +kernel
theorem dJ9_floorMod_7cf53_7 : decode cJ9_floorMod_7cf53 7 = .ok (.ifCond .ge 11, 3) := by decide +kernel
theorem dJ9_floorMod_7cf53_18 : decode cJ9_floorMod_7cf53 18 = .ok (.iload_n 2, 1) := by decide +kernel
theorem dJ9_floorMod_7cf53_19 : decode cJ9_floorMod_7cf53 19 = .ok (.ireturn, 1) := by decide +kernel
theorem dJ9_floorMod_7cf53_10 : decode cJ9_floorMod_7cf53 10 = .ok (.iload_n 2, 1) := by decide +kernel
theorem dJ9_floorMod_7cf53_11 : decode cJ9_floorMod_7cf53 11 = .ok (.ifCond .eq 7, 3) := by decide +kernel
theorem dJ9_floorMod_7cf53_14 : decode cJ9_floorMod_7cf53 14 = .ok (.iload_n 2, 1) := by decide +kernel
theorem dJ9_floorMod_7cf53_15 : decode cJ9_floorMod_7cf53 15 = .ok (.iload_n 1, 1) := by decide +kernel
theorem dJ9_floorMod_7cf53_16 : decode cJ9_floorMod_7cf53 16 = .ok (.iadd, 1) := by decide +kernel
theorem dJ9_floorMod_7cf53_17 : decode cJ9_floorMod_7cf53 17 = .ok (.ireturn, 1) := by decide +kernel
set_option maxHeartbeats 2000000 in
set_option maxRecDepth 20000 in
theorem ct_J9_floorMod_7cf53 (l : Launch) (D : va_G) (dA : Nat → ClassId) (hst : l.stackTraces = false) (M : jM) (x : Int32) : jCT l D dA yJ9_floorMod_7cf53 wsJ9_floorMod_7cf53 (20) (300) (0) (0) 1 [.int (x), .int (8)] M (jPo (oI (vFm x)) (M)) := by
  refine jBodyF (cc := cJ9_floorMod_7cf53) (nL := 3) (rt := (some .int)) (ini := false) (by decide +kernel) rfl hst (Nat.le_of_ble_eq_true rfl) (by simp [Value.category]) (by intro h9; first | exact absurd h9 (by decide) | rfl) ?_
  show J l D dA RJ9 cJ9_floorMod_7cf53 wsJ9_floorMod_7cf53 3 false (some .int) [] (20) (300) (jF D dA (jn M) (jPo (oI (vFm x)) (M)) 1) (jn M) (0) (0) (M) 0 [.int (x), .int (8), .float 0] []
  refine J_iload_n dJ9_floorMod_7cf53_0 rfl rfl ?_
  refine J_iload_n dJ9_floorMod_7cf53_1 rfl rfl ?_
  refine J_irem dJ9_floorMod_7cf53_2 (by decide) ?_
  refine J_istore_n (lv' := [.int (x), .int (8), .int ((x) - (x) / (8) * (8))]) dJ9_floorMod_7cf53_3 rfl (by decide) rfl rfl ?_
  refine J_iload_n dJ9_floorMod_7cf53_4 rfl rfl ?_
  refine J_iload_n dJ9_floorMod_7cf53_5 rfl rfl ?_
  refine J_ixor dJ9_floorMod_7cf53_6 ?_
  refine J_if_ge dJ9_floorMod_7cf53_7 (tgt := 18) (by decide) (fun c7 => ?_) (fun c7 => ?_)
  · refine J_iload_n dJ9_floorMod_7cf53_18 rfl rfl ?_
    exact J_iret (ty := .int) dJ9_floorMod_7cf53_19 rfl (rfl) ⟨(by first | (simp [vFm, *]; done) | (unfold vFm; rw [if_pos (Int32.not_le.mp c7), if_pos c11]) | (unfold vFm; rw [if_pos (Int32.not_le.mp c7), if_neg c11]) | (unfold vFm; rw [if_neg (Int32.not_lt.mpr c7)])), (by rfl)⟩
  · refine J_iload_n dJ9_floorMod_7cf53_10 rfl rfl ?_
    refine J_if_eq dJ9_floorMod_7cf53_11 (tgt := 18) (by decide) (fun c11 => ?_) (fun c11 => ?_)
    · refine J_iload_n dJ9_floorMod_7cf53_18 rfl rfl ?_
      exact J_iret (ty := .int) dJ9_floorMod_7cf53_19 rfl (rfl) ⟨(by first | (simp [vFm, *]; done) | (unfold vFm; rw [if_pos (Int32.not_le.mp c7), if_pos c11]) | (unfold vFm; rw [if_pos (Int32.not_le.mp c7), if_neg c11]) | (unfold vFm; rw [if_neg (Int32.not_lt.mpr c7)])), (by rfl)⟩
    · refine J_iload_n dJ9_floorMod_7cf53_14 rfl rfl ?_
      refine J_iload_n dJ9_floorMod_7cf53_15 rfl rfl ?_
      refine J_iadd dJ9_floorMod_7cf53_16 ?_
      exact J_iret (ty := .int) dJ9_floorMod_7cf53_17 rfl (rfl) ⟨(by first | (simp [vFm, *]; done) | (unfold vFm; rw [if_pos (Int32.not_le.mp c7), if_pos c11]) | (unfold vFm; rw [if_pos (Int32.not_le.mp c7), if_neg c11]) | (unfold vFm; rw [if_neg (Int32.not_lt.mpr c7)])), (by rfl)⟩

theorem dX2_count_0 : decode cX2_count 0 = .ok (.aload_n 0, 1) := by decide +kernel
theorem dX2_count_1 : decode cX2_count 1 = .ok (.getfield 21, 3) := by decide +kernel
theorem dX2_count_4 : decode cX2_count 4 = .ok (.ireturn, 1) := by decide +kernel
set_option maxHeartbeats 2000000 in
set_option maxRecDepth 20000 in
theorem ct_X2_count (l : Launch) (D : va_G) (dA : Nat → ClassId) (hst : l.stackTraces = false) (M : jM) (h nx kp : Nat) (hH : jHis M h nx kp) : jCT l D dA yX2_count wsX2_count (20) (300) (0) (0) 1 [.ref (h)] M (jPo (oI (nI kp)) (M)) := by
  refine jBody (cc := cX2_count) (nL := 1) (rt := (some .int)) (ini := false) (by decide) rfl hst (Nat.le_of_ble_eq_true rfl) (by simp [Value.category]) (by intro h9; first | exact absurd h9 (by decide) | rfl) ?_
  show J l D dA RX2 cX2_count wsX2_count 1 false (some .int) [] (20) (300) (jF D dA (jn M) (jPo (oI (nI kp)) (M)) 1) (jn M) (0) (0) (M) 0 [.ref (h)] []
  obtain ⟨e1, e2, e3, e4, e5, e6, e7, e8, e9, e10, e11⟩ := id hH
  refine J_aload_n (h) dX2_count_0 rfl rfl ?_
  refine J_geti (j := 2) dX2_count_1 (fun _ h => List.mem_cons_of_mem _ (List.mem_append_right _ (h))) cs6 (by decide) rfl (List.mem_of_getElem? (i := 1) rfl) rfl (show h < jn M from by omega) e2 ?_
  refine J_topi (y := nI (kp)) (e9) ?_
  exact J_iret (ty := .int) dX2_count_4 rfl (rfl) ⟨(by rfl), (by rfl)⟩

theorem dX2_forget_0 : decode cX2_forget 0 = .ok (.aload_n 0, 1) := by decide +kernel
theorem dX2_forget_1 : decode cX2_forget 1 = .ok (.iconst 0, 1) := by decide +kernel
theorem dX2_forget_2 : decode cX2_forget 2 = .ok (.putfield 21, 3) := by decide +kernel
theorem dX2_forget_5 : decode cX2_forget 5 = .ok (.return_, 1) := by decide +kernel
set_option maxHeartbeats 2000000 in
set_option maxRecDepth 20000 in
theorem ct_X2_forget (l : Launch) (D : va_G) (dA : Nat → ClassId) (hst : l.stackTraces = false) (M : jM) (h nx kp : Nat) (hH : jHis M h nx kp) : jCT l D dA yX2_forget wsX2_forget (20) (300) (0) (0) 0 [.ref (h)] M (jPo (oV) (jSi M h 2 0)) := by
  refine jBody (cc := cX2_forget) (nL := 1) (rt := none) (ini := false) (by decide) rfl hst (Nat.le_of_ble_eq_true rfl) (by simp [Value.category]) (by intro h9; first | exact absurd h9 (by decide) | rfl) ?_
  show J l D dA RX2 cX2_forget wsX2_forget 1 false none [] (20) (300) (jF D dA (jn M) (jPo (oV) (jSi M h 2 0)) 0) (jn M) (0) (0) (M) 0 [.ref (h)] []
  obtain ⟨e1, e2, e3, e4, e5, e6, e7, e8, e9, e10, e11⟩ := id hH
  refine J_aload_n (h) dX2_forget_0 rfl rfl ?_
  refine J_iconst (x := 0) dX2_forget_1 (by decide) ?_
  refine J_puti (j := 2) (x := (0)) dX2_forget_2 (fun _ h => List.mem_cons_of_mem _ (List.mem_append_right _ (h))) cs6 cty6 (by decide) rfl (List.mem_of_getElem? (i := 1) rfl) rfl rfl ⟨rfl, rfl⟩ (show h < jn M from by omega) e2 ?_
  exact J_vret dX2_forget_5 rfl ⟨(by rfl), (by rfl)⟩

theorem dX2_keep_0 : decode cX2_keep 0 = .ok (.aload_n 0, 1) := by decide +kernel
theorem dX2_keep_1 : decode cX2_keep 1 = .ok (.getfield 11, 3) := by decide +kernel
theorem dX2_keep_4 : decode cX2_keep 4 = .ok (.aload_n 0, 1) := by decide +kernel
theorem dX2_keep_5 : decode cX2_keep 5 = .ok (.getfield 17, 3) := by decide +kernel
theorem dX2_keep_8 : decode cX2_keep 8 = .ok (.aaload, 1) := by decide +kernel
theorem dX2_keep_9 : decode cX2_keep 9 = .ok (.aload_n 1, 1) := by decide +kernel
theorem dX2_keep_10 : decode cX2_keep 10 = .ok (.invokevirtual 25, 3) := by decide +kernel
set_option maxRecDepth 20000 in
theorem ggX2_keep_X5_becomeLike : GoodIn wsX2_keep wsX5_becomeLike := goodIn_r _ [12, 13, 14, 15, 16, 17, 18, 19, 27, 28, 29] (by decide +kernel) (by decide +kernel)
set_option maxRecDepth 20000 in
theorem gX2_keep_X5_becomeLike : GoodIn wsX2_keep (wsV RX2 25 RX5 yX5_becomeLike wsX5_becomeLike) := goodIn_app (goodIn_of _ (by decide +kernel)) ggX2_keep_X5_becomeLike
theorem yY_X5_becomeLike : jY yX5_becomeLike wsX5_becomeLike cX5_becomeLike 3 none 1 := ⟨⟨_, rfl⟩, by decide +kernel, by decide +kernel, by decide +kernel⟩
theorem dX2_keep_13 : decode cX2_keep 13 = .ok (.aload_n 0, 1) := by decide +kernel
theorem dX2_keep_14 : decode cX2_keep 14 = .ok (.aload_n 0, 1) := by decide +kernel
theorem dX2_keep_15 : decode cX2_keep 15 = .ok (.getfield 17, 3) := by decide +kernel
theorem dX2_keep_18 : decode cX2_keep 18 = .ok (.iconst 1, 1) := by decide +kernel
theorem dX2_keep_19 : decode cX2_keep 19 = .ok (.iadd, 1) := by decide +kernel
theorem dX2_keep_20 : decode cX2_keep 20 = .ok (.bipush 8, 2) := by decide +kernel
theorem dX2_keep_22 : decode cX2_keep 22 = .ok (.invokestatic 29, 3) := by decide +kernel
set_option maxRecDepth 20000 in
theorem ggX2_keep_J9_floorMod_7cf53 : GoodIn wsX2_keep wsJ9_floorMod_7cf53 := goodIn_r _ [23] (by decide +kernel) (by decide +kernel)
set_option maxRecDepth 20000 in
theorem gX2_keep_J9_floorMod_7cf53 : GoodIn wsX2_keep (va_wsS RX2 29 yJ9_floorMod_7cf53 wsJ9_floorMod_7cf53) := goodIn_app (goodIn_of _ (by decide +kernel)) ggX2_keep_J9_floorMod_7cf53
theorem yY_J9_floorMod_7cf53 : jY yJ9_floorMod_7cf53 wsJ9_floorMod_7cf53 cJ9_floorMod_7cf53 3 (some .int) 2 := ⟨⟨_, rfl⟩, by decide +kernel, by decide +kernel, by decide +kernel⟩
theorem dX2_keep_25 : decode cX2_keep 25 = .ok (.putfield 17, 3) := by decide +kernel
theorem dX2_keep_28 : decode cX2_keep 28 = .ok (.aload_n 0, 1) := by decide +kernel
theorem dX2_keep_29 : decode cX2_keep 29 = .ok (.aload_n 0, 1) := by decide +kernel
theorem dX2_keep_30 : decode cX2_keep 30 = .ok (.getfield 21, 3) := by decide +kernel
theorem dX2_keep_33 : decode cX2_keep 33 = .ok (.iconst 1, 1) := by decide +kernel
theorem dX2_keep_34 : decode cX2_keep 34 = .ok (.iadd, 1) := by decide +kernel
theorem dX2_keep_35 : decode cX2_keep 35 = .ok (.bipush 8, 2) := by decide +kernel
theorem dX2_keep_37 : decode cX2_keep 37 = .ok (.invokestatic 35, 3) := by decide +kernel
theorem dX2_keep_40 : decode cX2_keep 40 = .ok (.putfield 21, 3) := by decide +kernel
theorem dX2_keep_43 : decode cX2_keep 43 = .ok (.return_, 1) := by decide +kernel
set_option maxHeartbeats 2000000 in
set_option maxRecDepth 20000 in
theorem ct_X2_keep (l : Launch) (D : va_G) (dA : Nat → ClassId) (hst : l.stackTraces = false) (M : jM) (h nx kp : Nat) (hH : jHis M h nx kp) (s c : Nat) (hS : jStt M s c) (hSl : jSlots M s) (hd : s + 2 < h ∨ h + 26 ≤ s) : jCT l D dA yX2_keep wsX2_keep (22) (420) (0) (0) 0 [.ref (h), .ref (s)] M (jPo (oV) (jSi (jSi (jBL M (h + 2 + 3 * nx) s) h 1 (nI ((nx + 1) % 8))) h 2 (nI (min (kp + 1) 8)))) := by
  refine jBody (cc := cX2_keep) (nL := 2) (rt := none) (ini := false) (by decide) rfl hst (Nat.le_of_ble_eq_true rfl) (by simp [Value.category]) (by intro h9; first | exact absurd h9 (by decide) | rfl) ?_
  show J l D dA RX2 cX2_keep wsX2_keep 2 false none [] (22) (420) (jF D dA (jn M) (jPo (oV) (jSi (jSi (jBL M (h + 2 + 3 * nx) s) h 1 (nI ((nx + 1) % 8))) h 2 (nI (min (kp + 1) 8)))) 0) (jn M) (0) (0) (M) 0 [.ref (h), .ref (s)] []
  obtain ⟨e1, e2, e3, e4, e5, e6, e7, e8, e9, e10, e11⟩ := id hH
  obtain ⟨s1, s2, s3, s4, s5, s6, s7, s8, s9, s10⟩ := id hS
  obtain ⟨d, tt⟩ := e7 nx e10
  have ttn := tt.1
  refine J_aload_n (h) dX2_keep_0 rfl rfl ?_
  refine J_getrs (q := h + 1) e3 dX2_keep_1 (fun _ h => List.mem_cons_of_mem _ (List.mem_append_left _ (List.mem_append_right _ (h)))) cs6 (by decide) rfl (List.mem_of_getElem? (i := 1) rfl) rfl (show h < jn M from by omega) e2 ?_
  refine J_aload_n (h) dX2_keep_4 rfl rfl ?_
  refine J_geti (j := 1) dX2_keep_5 (fun _ h => List.mem_cons_of_mem _ (List.mem_append_left _ (List.mem_append_right _ (h)))) cs6 (by decide) rfl (List.mem_of_getElem? (i := 2) rfl) rfl (show h < jn M from by omega) e2 ?_
  refine J_topi (y := nI (nx)) (e8) ?_
  refine J_aald4N (k := nx) dX2_keep_8 (show h + 1 < jn M from by omega) e4 (by exact Nat.lt_of_lt_of_eq (show _ < 8 by omega) (Eq.symm e5)) (by exact Nat.lt_of_le_of_lt (Nat.le_of_eq e5) (show 8 < 2 ^ 31 by omega)) ?_
  refine J_topr (y := some (h + 2 + 3 * nx)) (by exact e6 nx e10) ?_
  refine J_aload_n (s) dX2_keep_9 rfl rfl ?_
  refine J_callv0 (jrunV (As := [.ref (s)]) (ct_X5_becomeLike l D dA hst M (h + 2 + 3 * nx) d ((show jStt M (h + 2 + 3 * nx) d from tt)) s c hS (by omega) hSl) dX2_keep_10 yY_X5_becomeLike gX2_keep_X5_becomeLike rfl cs9 (show h + 2 + 3 * nx < jn M from by omega) tt.2.1 rfl ⟨by omega, by omega⟩ ⟨Nat.zero_le _, Nat.zero_le _⟩ rfl (Nat.le_of_ble_eq_true rfl)) (rfl) (rfl) ?_
  refine J_aload_n (h) dX2_keep_13 rfl rfl ?_
  refine J_aload_n (h) dX2_keep_14 rfl rfl ?_
  refine J_geti (j := 1) dX2_keep_15 (fun _ h => List.mem_cons_of_mem _ (List.mem_append_left _ (List.mem_append_right _ (h)))) cs6 (by decide) rfl (List.mem_of_getElem? (i := 2) rfl) rfl (show h < jn M from by omega) e2 ?_
  refine J_topi (y := nI (nx)) (((jBL_i (by omega) (by omega)).trans e8)) ?_
  refine J_iconst (x := 1) dX2_keep_18 (by decide) ?_
  refine J_iadd dX2_keep_19 ?_
  refine J_topi (y := nI (nx + 1)) (nI_add (nx) (1)) ?_
  refine J_bipush (x := 8) dX2_keep_20 (by decide) ?_
  refine J_calli0 (jrunS (As := [.int (nI (nx + 1)), .int (8)]) (ct_J9_floorMod_7cf53 l D dA hst (jBL M (h + 2 + 3 * nx) s) (nI (nx + 1))) dX2_keep_22 yY_J9_floorMod_7cf53 gX2_keep_J9_floorMod_7cf53 rfl ⟨by omega, by omega⟩ ⟨Nat.zero_le _, Nat.zero_le _⟩ rfl (Nat.le_of_ble_eq_true rfl)) (rfl) (rfl) ?_
  refine J_topi (y := nI ((nx + 1) % 8)) (by exact vFm_up nx e10) ?_
  refine J_puti (j := 1) (x := nI ((nx + 1) % 8)) dX2_keep_25 (fun _ h => List.mem_cons_of_mem _ (List.mem_append_left _ (List.mem_append_right _ (h)))) cs6 cty6 (by decide) rfl (List.mem_of_getElem? (i := 2) rfl) rfl rfl ⟨rfl, rfl⟩ (show h < jn M from by omega) e2 ?_
  refine J_aload_n (h) dX2_keep_28 rfl rfl ?_
  refine J_aload_n (h) dX2_keep_29 rfl rfl ?_
  refine J_geti (j := 2) dX2_keep_30 (fun _ h => List.mem_cons_of_mem _ (List.mem_append_left _ (List.mem_append_right _ (h)))) cs6 (by decide) rfl (List.mem_of_getElem? (i := 3) rfl) rfl (show h < jn M from by omega) e2 ?_
  refine J_topi (y := nI (kp)) ((ji_ne_i (by omega) ((jBL_i (by omega) (by omega)).trans e9))) ?_
  refine J_iconst (x := 1) dX2_keep_33 (by decide) ?_
  refine J_iadd dX2_keep_34 ?_
  refine J_topi (y := nI (kp + 1)) (nI_add (kp) (1)) ?_
  refine J_bipush (x := 8) dX2_keep_35 (by decide) ?_
  refine J_mmin dX2_keep_37 (List.mem_of_getElem? (i := 4) rfl) (List.mem_of_getElem? (i := 5) rfl) (List.mem_of_getElem? (i := 6) rfl) (List.mem_of_getElem? (i := 7) rfl) (Nat.le_of_ble_eq_true rfl) (by omega) (by omega) ?_
  refine J_topi (y := nI (min (kp + 1) 8)) (by exact nI_min8 kp e11) ?_
  refine J_puti (j := 2) (x := nI (min (kp + 1) 8)) dX2_keep_40 (fun _ h => List.mem_cons_of_mem _ (List.mem_append_left _ (List.mem_append_right _ (h)))) cs6 cty6 (by decide) rfl (List.mem_of_getElem? (i := 3) rfl) rfl rfl ⟨rfl, rfl⟩ (show h < jn M from by omega) e2 ?_
  exact J_vret dX2_keep_43 rfl ⟨(by rfl), (by rfl)⟩

theorem dX2_takeBack_0 : decode cX2_takeBack 0 = .ok (.aload_n 0, 1) := by decide +kernel
theorem dX2_takeBack_1 : decode cX2_takeBack 1 = .ok (.getfield 21, 3) := by decide +kernel
theorem dX2_takeBack_4 : decode cX2_takeBack 4 = .ok (.ifCond .ne 4, 3) := by decide +kernel
theorem dX2_takeBack_8 : decode cX2_takeBack 8 = .ok (.aload_n 0, 1) := by decide +kernel
theorem dX2_takeBack_9 : decode cX2_takeBack 9 = .ok (.aload_n 0, 1) := by decide +kernel
theorem dX2_takeBack_10 : decode cX2_takeBack 10 = .ok (.getfield 17, 3) := by decide +kernel
theorem dX2_takeBack_13 : decode cX2_takeBack 13 = .ok (.iconst 1, 1) := by decide +kernel
theorem dX2_takeBack_14 : decode cX2_takeBack 14 = .ok (.isub, 1) := by decide +kernel
theorem dX2_takeBack_15 : decode cX2_takeBack 15 = .ok (.bipush 8, 2) := by decide +kernel
theorem dX2_takeBack_17 : decode cX2_takeBack 17 = .ok (.invokestatic 29, 3) := by decide +kernel
set_option maxRecDepth 20000 in
theorem ggX2_takeBack_J9_floorMod_7cf53 : GoodIn wsX2_takeBack wsJ9_floorMod_7cf53 := goodIn_r _ [7] (by decide +kernel) (by decide +kernel)
set_option maxRecDepth 20000 in
theorem gX2_takeBack_J9_floorMod_7cf53 : GoodIn wsX2_takeBack (va_wsS RX2 29 yJ9_floorMod_7cf53 wsJ9_floorMod_7cf53) := goodIn_app (goodIn_of _ (by decide +kernel)) ggX2_takeBack_J9_floorMod_7cf53
theorem dX2_takeBack_20 : decode cX2_takeBack 20 = .ok (.putfield 17, 3) := by decide +kernel
theorem dX2_takeBack_23 : decode cX2_takeBack 23 = .ok (.aload_n 0, 1) := by decide +kernel
theorem dX2_takeBack_24 : decode cX2_takeBack 24 = .ok (.dup, 1) := by decide +kernel
theorem dX2_takeBack_25 : decode cX2_takeBack 25 = .ok (.getfield 21, 3) := by decide +kernel
theorem dX2_takeBack_28 : decode cX2_takeBack 28 = .ok (.iconst 1, 1) := by decide +kernel
theorem dX2_takeBack_29 : decode cX2_takeBack 29 = .ok (.isub, 1) := by decide +kernel
theorem dX2_takeBack_30 : decode cX2_takeBack 30 = .ok (.putfield 21, 3) := by decide +kernel
theorem dX2_takeBack_33 : decode cX2_takeBack 33 = .ok (.aload_n 1, 1) := by decide +kernel
theorem dX2_takeBack_34 : decode cX2_takeBack 34 = .ok (.aload_n 0, 1) := by decide +kernel
theorem dX2_takeBack_35 : decode cX2_takeBack 35 = .ok (.getfield 11, 3) := by decide +kernel
theorem dX2_takeBack_38 : decode cX2_takeBack 38 = .ok (.aload_n 0, 1) := by decide +kernel
theorem dX2_takeBack_39 : decode cX2_takeBack 39 = .ok (.getfield 17, 3) := by decide +kernel
theorem dX2_takeBack_42 : decode cX2_takeBack 42 = .ok (.aaload, 1) := by decide +kernel
theorem dX2_takeBack_43 : decode cX2_takeBack 43 = .ok (.invokevirtual 25, 3) := by decide +kernel
set_option maxRecDepth 20000 in
theorem ggX2_takeBack_X5_becomeLike : GoodIn wsX2_takeBack wsX5_becomeLike := goodIn_r _ [12, 13, 14, 15, 16, 17, 18, 19, 23, 24, 25] (by decide +kernel) (by decide +kernel)
set_option maxRecDepth 20000 in
theorem gX2_takeBack_X5_becomeLike : GoodIn wsX2_takeBack (wsV RX2 25 RX5 yX5_becomeLike wsX5_becomeLike) := goodIn_app (goodIn_of _ (by decide +kernel)) ggX2_takeBack_X5_becomeLike
theorem dX2_takeBack_46 : decode cX2_takeBack 46 = .ok (.return_, 1) := by decide +kernel
theorem dX2_takeBack_7 : decode cX2_takeBack 7 = .ok (.return_, 1) := by decide +kernel
set_option maxHeartbeats 2000000 in
set_option maxRecDepth 20000 in
theorem ct_X2_takeBack (l : Launch) (D : va_G) (dA : Nat → ClassId) (hst : l.stackTraces = false) (M : jM) (h nx kp : Nat) (hH : jHis M h nx kp) (s c : Nat) (hS : jStt M s c) (hSl : jSlots M (h + 2 + 3 * ((nx + 7) % 8))) (hd : s + 2 < h ∨ h + 26 ≤ s) : jCT l D dA yX2_takeBack wsX2_takeBack (22) (420) (0) (0) 0 [.ref (h), .ref (s)] M (jPo (oV) (if kp = 0 then M else jBL (jSi (jSi M h 1 (nI ((nx + 7) % 8))) h 2 (nI (kp - 1))) s (h + 2 + 3 * ((nx + 7) % 8)))) := by
  refine jBody (cc := cX2_takeBack) (nL := 2) (rt := none) (ini := false) (by decide) rfl hst (Nat.le_of_ble_eq_true rfl) (by simp [Value.category]) (by intro h9; first | exact absurd h9 (by decide) | rfl) ?_
  show J l D dA RX2 cX2_takeBack wsX2_takeBack 2 false none [] (22) (420) (jF D dA (jn M) (jPo (oV) (if kp = 0 then M else jBL (jSi (jSi M h 1 (nI ((nx + 7) % 8))) h 2 (nI (kp - 1))) s (h + 2 + 3 * ((nx + 7) % 8)))) 0) (jn M) (0) (0) (M) 0 [.ref (h), .ref (s)] []
  obtain ⟨e1, e2, e3, e4, e5, e6, e7, e8, e9, e10, e11⟩ := id hH
  obtain ⟨s1, s2, s3, s4, s5, s6, s7, s8, s9, s10⟩ := id hS
  obtain ⟨d, tt⟩ := e7 ((nx + 7) % 8) (Nat.mod_lt _ (by decide))
  have ttn := tt.1
  refine J_aload_n (h) dX2_takeBack_0 rfl rfl ?_
  refine J_geti (j := 2) dX2_takeBack_1 (fun _ h => List.mem_cons_of_mem _ (List.mem_append_left _ (List.mem_append_right _ (h)))) cs6 (by decide) rfl (List.mem_of_getElem? (i := 1) rfl) rfl (show h < jn M from by omega) e2 ?_
  refine J_topi (y := nI (kp)) (e9) ?_
  refine J_if_ne dX2_takeBack_4 (tgt := 8) (by decide) (fun c4 => ?_) (fun c4 => ?_)
  · have c4 := jeqF (a := kp) (b := 0) (by omega) (by omega) c4
    refine J_aload_n (h) dX2_takeBack_8 rfl rfl ?_
    refine J_aload_n (h) dX2_takeBack_9 rfl rfl ?_
    refine J_geti (j := 1) dX2_takeBack_10 (fun _ h => List.mem_cons_of_mem _ (List.mem_append_left _ (List.mem_append_right _ (h)))) cs6 (by decide) rfl (List.mem_of_getElem? (i := 2) rfl) rfl (show h < jn M from by omega) e2 ?_
    refine J_topi (y := nI (nx)) (e8) ?_
    refine J_iconst (x := 1) dX2_takeBack_13 (by decide) ?_
    refine J_isub dX2_takeBack_14 ?_
    refine J_bipush (x := 8) dX2_takeBack_15 (by decide) ?_
    refine J_calli0 (jrunS (As := [.int (nI (nx) - (1)), .int (8)]) (ct_J9_floorMod_7cf53 l D dA hst M ((nI (nx) - (1)))) dX2_takeBack_17 yY_J9_floorMod_7cf53 gX2_takeBack_J9_floorMod_7cf53 rfl ⟨by omega, by omega⟩ ⟨Nat.zero_le _, Nat.zero_le _⟩ rfl (Nat.le_of_ble_eq_true rfl)) (rfl) (rfl) ?_
    refine J_topi (y := nI ((nx + 7) % 8)) (by exact vFm_dn nx e10) ?_
    refine J_puti (j := 1) (x := nI ((nx + 7) % 8)) dX2_takeBack_20 (fun _ h => List.mem_cons_of_mem _ (List.mem_append_left _ (List.mem_append_right _ (h)))) cs6 cty6 (by decide) rfl (List.mem_of_getElem? (i := 2) rfl) rfl rfl ⟨rfl, rfl⟩ (show h < jn M from by omega) e2 ?_
    refine J_aload_n (h) dX2_takeBack_23 rfl rfl ?_
    refine J_dup dX2_takeBack_24 rfl ?_
    refine J_geti (j := 2) dX2_takeBack_25 (fun _ h => List.mem_cons_of_mem _ (List.mem_append_left _ (List.mem_append_right _ (h)))) cs6 (by decide) rfl (List.mem_of_getElem? (i := 1) rfl) rfl (show h < jn M from by omega) e2 ?_
    refine J_topi (y := nI (kp)) ((ji_ne_i (by omega) e9)) ?_
    refine J_iconst (x := 1) dX2_takeBack_28 (by decide) ?_
    refine J_isub dX2_takeBack_29 ?_
    refine J_topi (y := nI (kp - 1)) (pk_sub (a := kp) (b := 1) (by omega)) ?_
    refine J_puti (j := 2) (x := nI (kp - 1)) dX2_takeBack_30 (fun _ h => List.mem_cons_of_mem _ (List.mem_append_left _ (List.mem_append_right _ (h)))) cs6 cty6 (by decide) rfl (List.mem_of_getElem? (i := 1) rfl) rfl rfl ⟨rfl, rfl⟩ (show h < jn M from by omega) e2 ?_
    refine J_aload_n (s) dX2_takeBack_33 rfl rfl ?_
    refine J_aload_n (h) dX2_takeBack_34 rfl rfl ?_
    refine J_getrs (q := h + 1) e3 dX2_takeBack_35 (fun _ h => List.mem_cons_of_mem _ (List.mem_append_left _ (List.mem_append_right _ (h)))) cs6 (by decide) rfl (List.mem_of_getElem? (i := 3) rfl) rfl (show h < jn M from by omega) e2 ?_
    refine J_aload_n (h) dX2_takeBack_38 rfl rfl ?_
    refine J_geti (j := 1) dX2_takeBack_39 (fun _ h => List.mem_cons_of_mem _ (List.mem_append_left _ (List.mem_append_right _ (h)))) cs6 (by decide) rfl (List.mem_of_getElem? (i := 2) rfl) rfl (show h < jn M from by omega) e2 ?_
    refine J_topi (y := nI ((nx + 7) % 8)) ((ji_ne_i (by omega) (by simp [ji_Si]))) ?_
    refine J_aald4N (k := (nx + 7) % 8) dX2_takeBack_42 (show h + 1 < jn M from by omega) e4 (by exact Nat.lt_of_lt_of_eq (show _ < 8 by omega) (Eq.symm e5)) (by exact Nat.lt_of_le_of_lt (Nat.le_of_eq e5) (show 8 < 2 ^ 31 by omega)) ?_
    refine J_topr (y := some (h + 2 + 3 * ((nx + 7) % 8))) (by exact e6 _ (Nat.mod_lt _ (by decide))) ?_
    refine J_callv0 (jrunV (As := [.ref (h + 2 + 3 * ((nx + 7) % 8))]) (ct_X5_becomeLike l D dA hst (jSi (jSi M h 1 (nI ((nx + 7) % 8))) h 2 (nI (kp - 1))) s c ((hS.si (by omega) |>.si (by omega))) (h + 2 + 3 * ((nx + 7) % 8)) d ((tt.si (by omega) |>.si (by omega))) (by omega) hSl) dX2_takeBack_43 yY_X5_becomeLike gX2_takeBack_X5_becomeLike rfl cs9 (show s < jn M from by omega) s2 rfl ⟨by omega, by omega⟩ ⟨Nat.zero_le _, Nat.zero_le _⟩ rfl (Nat.le_of_ble_eq_true rfl)) (rfl) (rfl) ?_
    exact J_vret dX2_takeBack_46 rfl ⟨(by rfl), (by rw [if_neg c4])⟩
  · have c4 := jeqT (a := kp) (b := 0) (by omega) (by omega) c4
    exact J_vret dX2_takeBack_7 rfl ⟨(by rfl), (by rw [if_pos c4])⟩

