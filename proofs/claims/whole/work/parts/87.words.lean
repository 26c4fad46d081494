/-! THE WORDS OF THE LAW'S OWN LIST, out of the tables by their places -/
/-- 'selects' of a private method of a superclass: that class is no interface, for another of its methods is selected -/
theorem lw_selP {args : Array Value} {s : State} {C : String} {y z x : MethodName} {n : Nat} (hy : y.cls ≠ "java/lang/invoke/MethodHandle" ∧ y.cls ≠ "java/lang/invoke/VarHandle") (hins : (Cond.instantiable C n).before args s = true) (hpriv : (Cond.privateMethod y).before args s = true) (hinst : (Cond.instanceMethod y).before args s = true) (hz : (Cond.selects C x z).before args s = true) (hc9 : z.cls = y.cls) : (Cond.selects C y y).before args s = true := by
  obtain ⟨c, k, hc, hk, -⟩ := Cond.instantiable_spec hins
  obtain ⟨mk, methM, hnamed, hmethM, -, -⟩ := Cond.instanceMethod_spec hinst
  have hfound : s.methodFound? y.cls y.name y.desc = some mk := State.methodFound?_of_named hnamed hy
  have hsel : selectMethod {} s.vm c mk = .method mk := selectMethod_private hmethM (Cond.privateMethod_at hpriv mk methM hnamed hmethM)
  simp only [Cond.before, Cond.holds, Cond.value, hc] at hz
  cases h1 : s.methodFound? x.cls x.name x.desc with
  | none => simp [h1] at hz
  | some r =>
    cases h2 : s.methodNamed? z with
    | none => simp [h1, h2] at hz
    | some mz =>
      have hcls : mz.cls = mk.cls := Option.some.inj ((findClass_of_methodNamed h2).symm.trans ((congrArg s.vm.findClass hc9).trans (findClass_of_methodNamed hnamed)))
      have hni : (s.vm.classes[mk.cls]?).any (!·.isInterface) = true := by
        rw [← hcls]
        simp only [h1, h2] at hz
        cases h3 : selectMethod {} s.vm c r <;> simp [h3] at hz
        simpa using hz.2
      simp only [Cond.before, Cond.holds, Cond.value, hc, hfound, hnamed, hsel]
      simpa using hni
def lw_ext : List Cond := [Cond.selects "VersionAlgebra$Expression" ⟨"VersionAlgebra$TextReader", "digitAt", "(I)I"⟩ ⟨"VersionAlgebra$TextReader", "digitAt", "(I)I"⟩, Cond.selects "VersionAlgebra$RangeReader" ⟨"VersionAlgebra$TextReader", "digitAt", "(I)I"⟩ ⟨"VersionAlgebra$TextReader", "digitAt", "(I)I"⟩, Cond.selects "java/lang/StringBuilder" ⟨"java/lang/AbstractStringBuilder", "ensureCapacityInternal", "(I)V"⟩ ⟨"java/lang/AbstractStringBuilder", "ensureCapacityInternal", "(I)V"⟩, Cond.selects "java/lang/StringBuilder" ⟨"java/lang/AbstractStringBuilder", "newCapacity", "(I)I"⟩ ⟨"java/lang/AbstractStringBuilder", "newCapacity", "(I)I"⟩, Cond.selects "java/lang/StringBuilder" ⟨"java/lang/AbstractStringBuilder", "appendNull", "()Ljava/lang/AbstractStringBuilder;"⟩ ⟨"java/lang/AbstractStringBuilder", "appendNull", "()Ljava/lang/AbstractStringBuilder;"⟩, Cond.selects "java/lang/StringBuilder" ⟨"java/lang/AbstractStringBuilder", "putStringAt", "(ILjava/lang/String;)V"⟩ ⟨"java/lang/AbstractStringBuilder", "putStringAt", "(ILjava/lang/String;)V"⟩, Cond.selects "java/lang/StringBuilder" ⟨"java/lang/AbstractStringBuilder", "inflateIfNeededFor", "(Ljava/lang/String;)V"⟩ ⟨"java/lang/AbstractStringBuilder", "inflateIfNeededFor", "(Ljava/lang/String;)V"⟩, Cond.selects "java/lang/StringBuilder" ⟨"java/lang/AbstractStringBuilder", "inflate", "()V"⟩ ⟨"java/lang/AbstractStringBuilder", "inflate", "()V"⟩]
def lw_tb2 : List Cond := lw_tbl ++ lw_ext
/-- a word at its place: 0 the private ones, k the k-th row of the tables -/
def lw_at (q : Nat × Nat) : Option Cond := match q.1 with
  | 0 => (k2_sels lw_privs)[q.2]?
  | 1 => tables_1_1[q.2]?
  | 2 => tables_1_2[q.2]?
  | 3 => tables_1_3[q.2]?
  | 4 => tables_1_4[q.2]?
  | 5 => tables_1_5[q.2]?
  | 6 => tables_1_6[q.2]?
  | 7 => tables_1_7[q.2]?
  | 8 => tables_1_8[q.2]?
  | _ => lw_ext[q.2]?
theorem lw_atm {q : Nat × Nat} {w : Cond} (h : lw_at q = some w) : w ∈ lw_tb2 := by
  obtain ⟨a, b⟩ := q
  unfold lw_at at h
  split at h
  · exact List.mem_append_left _ (List.mem_append_left _ (List.mem_of_getElem? h))
  · exact List.mem_append_left _ (List.mem_append_right _ (by unfold tables_1; exact (List.mem_append_left _ (List.mem_of_getElem? h))))
  · exact List.mem_append_left _ (List.mem_append_right _ (by unfold tables_1; exact (List.mem_append_right _ (List.mem_append_left _ (List.mem_of_getElem? h)))))
  · exact List.mem_append_left _ (List.mem_append_right _ (by unfold tables_1; exact (List.mem_append_right _ (List.mem_append_right _ (List.mem_append_left _ (List.mem_of_getElem? h))))))
  · exact List.mem_append_left _ (List.mem_append_right _ (by unfold tables_1; exact (List.mem_append_right _ (List.mem_append_right _ (List.mem_append_right _ (List.mem_append_left _ (List.mem_of_getElem? h)))))))
  · exact List.mem_append_left _ (List.mem_append_right _ (by unfold tables_1; exact (List.mem_append_right _ (List.mem_append_right _ (List.mem_append_right _ (List.mem_append_right _ (List.mem_append_left _ (List.mem_of_getElem? h))))))))
  · exact List.mem_append_left _ (List.mem_append_right _ (by unfold tables_1; exact (List.mem_append_right _ (List.mem_append_right _ (List.mem_append_right _ (List.mem_append_right _ (List.mem_append_right _ (List.mem_append_left _ (List.mem_of_getElem? h)))))))))
  · exact List.mem_append_left _ (List.mem_append_right _ (by unfold tables_1; exact (List.mem_append_right _ (List.mem_append_right _ (List.mem_append_right _ (List.mem_append_right _ (List.mem_append_right _ (List.mem_append_right _ (List.mem_append_left _ (List.mem_of_getElem? h))))))))))
  · exact List.mem_append_left _ (List.mem_append_right _ (by unfold tables_1; exact (List.mem_append_right _ (List.mem_append_right _ (List.mem_append_right _ (List.mem_append_right _ (List.mem_append_right _ (List.mem_append_right _ (List.mem_append_right _ (List.mem_of_getElem? h))))))))))
  · exact List.mem_append_right _ (List.mem_of_getElem? h)
theorem lw_ps {ws : List Cond} (ps : List (Nat × Nat)) (h : ws = ps.filterMap lw_at) : ∀ w ∈ ws, w ∈ lw_tb2 := by
  intro w hw
  rw [h] at hw
  obtain ⟨q, -, hq⟩ := List.mem_filterMap.mp hw
  exact lw_atm hq
theorem lw_tm {q : Nat × Nat} {w : Cond} (h : lw_at q = some w) (hq : (match q.1 with | 0 => true | 1 => true | 2 => true | 3 => true | 4 => true | 5 => true | 6 => true | 7 => true | 8 => true | _ => false) = true) : w ∈ lw_tbl := by
  obtain ⟨a, b⟩ := q
  unfold lw_at at h
  split at h
  · exact List.mem_append_left _ (List.mem_of_getElem? h)
  · exact List.mem_append_right _ (by unfold tables_1; exact (List.mem_append_left _ (List.mem_of_getElem? h)))
  · exact List.mem_append_right _ (by unfold tables_1; exact (List.mem_append_right _ (List.mem_append_left _ (List.mem_of_getElem? h))))
  · exact List.mem_append_right _ (by unfold tables_1; exact (List.mem_append_right _ (List.mem_append_right _ (List.mem_append_left _ (List.mem_of_getElem? h)))))
  · exact List.mem_append_right _ (by unfold tables_1; exact (List.mem_append_right _ (List.mem_append_right _ (List.mem_append_right _ (List.mem_append_left _ (List.mem_of_getElem? h))))))
  · exact List.mem_append_right _ (by unfold tables_1; exact (List.mem_append_right _ (List.mem_append_right _ (List.mem_append_right _ (List.mem_append_right _ (List.mem_append_left _ (List.mem_of_getElem? h)))))))
  · exact List.mem_append_right _ (by unfold tables_1; exact (List.mem_append_right _ (List.mem_append_right _ (List.mem_append_right _ (List.mem_append_right _ (List.mem_append_right _ (List.mem_append_left _ (List.mem_of_getElem? h))))))))
  · exact List.mem_append_right _ (by unfold tables_1; exact (List.mem_append_right _ (List.mem_append_right _ (List.mem_append_right _ (List.mem_append_right _ (List.mem_append_right _ (List.mem_append_right _ (List.mem_append_left _ (List.mem_of_getElem? h)))))))))
  · exact List.mem_append_right _ (by unfold tables_1; exact (List.mem_append_right _ (List.mem_append_right _ (List.mem_append_right _ (List.mem_append_right _ (List.mem_append_right _ (List.mem_append_right _ (List.mem_append_right _ (List.mem_of_getElem? h)))))))))
  · exfalso
    split at hq <;> first | contradiction | (cases hq; done)
theorem lw_hts2 {args : Array Value} {s : State} (hts : ∀ w ∈ lw_tbl, w.before args s = true) : ∀ w ∈ lw_tb2, w.before args s = true :=
  List.forall_mem_append.mpr ⟨hts, List.forall_mem_cons.mpr ⟨lw_selP (n := 10) (x := ⟨"VersionAlgebra$TextReader", "isAt", "(C)Z"⟩) (z := ⟨"VersionAlgebra$TextReader", "isAt", "(C)Z"⟩) ⟨by decide +kernel, by decide +kernel⟩ (hts _ (lw_tm (q := (3, 60)) (by decide +kernel) rfl)) (hts _ (lw_tm (q := (2, 140)) (by decide +kernel) rfl)) (hts _ (lw_tm (q := (2, 141)) (by decide +kernel) rfl)) (hts _ (lw_tm (q := (2, 126)) (by decide +kernel) rfl)) rfl,
    List.forall_mem_cons.mpr ⟨lw_selP (n := 7) (x := ⟨"VersionAlgebra$RangeReader", "textSize", "()I"⟩) (z := ⟨"VersionAlgebra$TextReader", "textSize", "()I"⟩) ⟨by decide +kernel, by decide +kernel⟩ (hts _ (lw_tm (q := (2, 49)) (by decide +kernel) rfl)) (hts _ (lw_tm (q := (2, 140)) (by decide +kernel) rfl)) (hts _ (lw_tm (q := (2, 141)) (by decide +kernel) rfl)) (hts _ (lw_tm (q := (2, 106)) (by decide +kernel) rfl)) rfl,
    List.forall_mem_cons.mpr ⟨lw_selP (n := 4) (x := ⟨"java/lang/AbstractStringBuilder", "isLatin1", "()Z"⟩) (z := ⟨"java/lang/AbstractStringBuilder", "isLatin1", "()Z"⟩) ⟨by decide +kernel, by decide +kernel⟩ (hts _ (lw_tm (q := (1, 81)) (by decide +kernel) rfl)) (hts _ (lw_tm (q := (4, 157)) (by decide +kernel) rfl)) (hts _ (lw_tm (q := (4, 158)) (by decide +kernel) rfl)) (hts _ (lw_tm (q := (4, 184)) (by decide +kernel) rfl)) rfl,
    List.forall_mem_cons.mpr ⟨lw_selP (n := 4) (x := ⟨"java/lang/AbstractStringBuilder", "isLatin1", "()Z"⟩) (z := ⟨"java/lang/AbstractStringBuilder", "isLatin1", "()Z"⟩) ⟨by decide +kernel, by decide +kernel⟩ (hts _ (lw_tm (q := (1, 81)) (by decide +kernel) rfl)) (hts _ (lw_tm (q := (4, 161)) (by decide +kernel) rfl)) (hts _ (lw_tm (q := (4, 162)) (by decide +kernel) rfl)) (hts _ (lw_tm (q := (4, 184)) (by decide +kernel) rfl)) rfl,
    List.forall_mem_cons.mpr ⟨lw_selP (n := 4) (x := ⟨"java/lang/AbstractStringBuilder", "isLatin1", "()Z"⟩) (z := ⟨"java/lang/AbstractStringBuilder", "isLatin1", "()Z"⟩) ⟨by decide +kernel, by decide +kernel⟩ (hts _ (lw_tm (q := (1, 81)) (by decide +kernel) rfl)) (hts _ (lw_tm (q := (4, 153)) (by decide +kernel) rfl)) (hts _ (lw_tm (q := (4, 154)) (by decide +kernel) rfl)) (hts _ (lw_tm (q := (4, 184)) (by decide +kernel) rfl)) rfl,
    List.forall_mem_cons.mpr ⟨lw_selP (n := 4) (x := ⟨"java/lang/AbstractStringBuilder", "isLatin1", "()Z"⟩) (z := ⟨"java/lang/AbstractStringBuilder", "isLatin1", "()Z"⟩) ⟨by decide +kernel, by decide +kernel⟩ (hts _ (lw_tm (q := (1, 81)) (by decide +kernel) rfl)) (hts _ (lw_tm (q := (4, 222)) (by decide +kernel) rfl)) (hts _ (lw_tm (q := (4, 223)) (by decide +kernel) rfl)) (hts _ (lw_tm (q := (4, 184)) (by decide +kernel) rfl)) rfl,
    List.forall_mem_cons.mpr ⟨lw_selP (n := 4) (x := ⟨"java/lang/AbstractStringBuilder", "isLatin1", "()Z"⟩) (z := ⟨"java/lang/AbstractStringBuilder", "isLatin1", "()Z"⟩) ⟨by decide +kernel, by decide +kernel⟩ (hts _ (lw_tm (q := (1, 81)) (by decide +kernel) rfl)) (hts _ (lw_tm (q := (4, 226)) (by decide +kernel) rfl)) (hts _ (lw_tm (q := (4, 227)) (by decide +kernel) rfl)) (hts _ (lw_tm (q := (4, 184)) (by decide +kernel) rfl)) rfl,
    List.forall_mem_cons.mpr ⟨lw_selP (n := 4) (x := ⟨"java/lang/AbstractStringBuilder", "isLatin1", "()Z"⟩) (z := ⟨"java/lang/AbstractStringBuilder", "isLatin1", "()Z"⟩) ⟨by decide +kernel, by decide +kernel⟩ (hts _ (lw_tm (q := (1, 81)) (by decide +kernel) rfl)) (hts _ (lw_tm (q := (4, 231)) (by decide +kernel) rfl)) (hts _ (lw_tm (q := (4, 232)) (by decide +kernel) rfl)) (hts _ (lw_tm (q := (4, 184)) (by decide +kernel) rfl)) rfl,
    fun _ h => absurd h List.not_mem_nil⟩⟩⟩⟩⟩⟩⟩⟩⟩
