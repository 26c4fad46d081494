/-- FOREIGN VALUES: .retAddr x stands for the reference to a cell that the start holds: 0, 1, 2 the texts "none", ">=", "<=", 10 + i their bytes; 3 a formatter; 4 the script; 6, 7 the tables of digits -/
theorem jOk.fs {n : Nat} {x : Nat} {st : List Value} (hs : jOk n st) : jOk n (.retAddr x :: st) := fun z hz => (List.mem_cons.mp hz).elim (fun e => by cases e) (hs z)
theorem jOk.lng {n : Nat} {x : Int64} {st : List Value} (hs : jOk n st) : jOk n (.long x :: st) := fun z hz => (List.mem_cons.mp hz).elim (fun e => by cases e) (hs z)
def jStrL (i : Nat) : Nat := [4, 2, 2].getD i 0
def jStrB (i : Nat) (k : Nat) : Int32 := ([[110, 111, 110, 101], [62, 61], [60, 61]].getD i []).getD k 0
/-- the script -/
def jSL (dA : Nat → ClassId) : Nat := dA 105
def jSX (dA : Nat → ClassId) (k : Nat) : Int32 := Int32.ofNat (dA (200 + k))
section Str
variable {l : Launch} {D : va_G} {dA : Nat → ClassId} {own : String} {cc : ByteArray} {ws : List Cond} {nL : Nat} {ini : Bool} {rt : Option FieldType} {hh : List (Nat × Nat × Nat × Nat)} {fr lo : Nat} {F : jFin} {n0 bc bs : Nat} {M : jM} {pc : Nat} {lv st : List Value} {P : jP}
theorem J_aload_ns {q : Fin 4} {i : Nat} (x : Nat) (hd : decode cc pc = .ok (.aload_n q, 1)) (hi : (q : Nat) = i) (hv : lv[i]? = some (.retAddr x)) (k : J l D dA own cc ws nL ini rt hh fr lo F n0 bc bs M (pc + 1) lv (.retAddr x :: st)) : J l D dA own cc ws nL ini rt hh fr lo F n0 bc bs M pc lv st := by
  intro p e R s m args below meth c H locs cells slots MC MS A ad ad0 ls G hP hD hS hl hr
  obtain ⟨hx, hb, hml, hown, hts, hlk, htb, hini, hrt, hfr, hlo, hMC, hMS, hA, hK, hX, hst⟩ := id G
  exact lv_aload_n hx hb hd hi (hl.2.2 i _ hv rfl) (k p e R s m args below meth c H locs cells slots MC MS A ad ad0 ls G hP hD hS hl hr)
theorem J_aloads {i : Nat} (x : Nat) (hd : decode cc pc = .ok (.aload i, 2)) (hv : lv[i]? = some (.retAddr x)) (k : J l D dA own cc ws nL ini rt hh fr lo F n0 bc bs M (pc + 2) lv (.retAddr x :: st)) : J l D dA own cc ws nL ini rt hh fr lo F n0 bc bs M pc lv st := by
  intro p e R s m args below meth c H locs cells slots MC MS A ad ad0 ls G hP hD hS hl hr
  obtain ⟨hx, hb, hml, hown, hts, hlk, htb, hini, hrt, hfr, hlo, hMC, hMS, hA, hK, hX, hst⟩ := id G
  exact lv_aload hx hb hd (hl.2.2 i _ hv rfl) (k p e R s m args below meth c H locs cells slots MC MS A ad ad0 ls G hP hD hS hl hr)
theorem J_ifnulls {x : Nat} {off : Int} (hd : decode cc pc = .ok (.ifnull off, 3)) (k : J l D dA own cc ws nL ini rt hh fr lo F n0 bc bs M (pc + 3) lv st) : J l D dA own cc ws nL ini rt hh fr lo F n0 bc bs M pc lv (.retAddr x :: st) := by
  intro p e R s m args below meth c H locs cells slots MC MS A ad ad0 ls G hP hD hS hl hr
  obtain ⟨hx, hb, hml, hown, hts, hlk, htb, hini, hrt, hfr, hlo, hMC, hMS, hA, hK, hX, hst⟩ := id G
  exact lv_ifnull hx hb hd (k p e R s m args below meth c H locs cells slots MC MS A ad ad0 ls G hP hD hS hl hr)
theorem J_ifnonnulls {x : Nat} {off : Int} {tgt : Nat} (hd : decode cc pc = .ok (.ifnonnull off, 3)) (ht : (pc : Int) + off = (tgt : Int)) (k : J l D dA own cc ws nL ini rt hh fr lo F n0 bc bs M tgt lv st) : J l D dA own cc ws nL ini rt hh fr lo F n0 bc bs M pc lv (.retAddr x :: st) := by
  intro p e R s m args below meth c H locs cells slots MC MS A ad ad0 ls G hP hD hS hl hr
  obtain ⟨hx, hb, hml, hown, hts, hlk, htb, hini, hrt, hfr, hlo, hMC, hMS, hA, hK, hX, hst⟩ := id G
  exact lv_ifnonnull hx hb hd ht (k p e R s m args below meth c H locs cells slots MC MS A ad ad0 ls G hP hD hS hl hr)
theorem J_ishr0 {x : Int32} (hd : decode cc pc = .ok (.ishr, 1)) (k : J l D dA own cc ws nL ini rt hh fr lo F n0 bc bs M (pc + 1) lv (.int x :: st)) : J l D dA own cc ws nL ini rt hh fr lo F n0 bc bs M pc lv (.int 0 :: .int x :: st) := by
  intro p e R s m args below meth c H locs cells slots MC MS A ad ad0 ls G hP hD hS hl hr
  obtain ⟨hx, hb, hml, hown, hts, hlk, htb, hini, hrt, hfr, hlo, hMC, hMS, hA, hK, hX, hst⟩ := id G
  have k2 := (k p e R s m args below meth c H locs cells slots MC MS A ad ad0 ls G hP hD hS hl hr)
  rw [show x = x >>> ((0 : Int32) &&& 31) from (sb_shr0 x).symm] at k2
  exact lv_ishr hx hb hd k2
theorem J_ishl0 {x : Int32} (hd : decode cc pc = .ok (.ishl, 1)) (k : J l D dA own cc ws nL ini rt hh fr lo F n0 bc bs M (pc + 1) lv (.int x :: st)) : J l D dA own cc ws nL ini rt hh fr lo F n0 bc bs M pc lv (.int 0 :: .int x :: st) := by
  intro p e R s m args below meth c H locs cells slots MC MS A ad ad0 ls G hP hD hS hl hr
  obtain ⟨hx, hb, hml, hown, hts, hlk, htb, hini, hrt, hfr, hlo, hMC, hMS, hA, hK, hX, hst⟩ := id G
  have k2 := (k p e R s m args below meth c H locs cells slots MC MS A ad ad0 ls G hP hD hS hl hr)
  rw [show x = x <<< ((0 : Int32) &&& 31) from (sb_shl0 x).symm] at k2
  exact lv_ishl hx hb hd k2
theorem J_getsC {idx : Nat} (hd : decode cc pc = .ok (.getstatic idx, 3)) (hw : Cond.fieldLink own idx "java/lang/String" "COMPACT_STRINGS" "Z" ∈ ws) (k : J l D dA own cc ws nL ini rt hh fr lo F n0 bc bs M (pc + 3) lv (.int 1 :: st)) : J l D dA own cc ws nL ini rt hh fr lo F n0 bc bs M pc lv st := by
  intro p e R s m args below meth c H locs cells slots MC MS A ad ad0 ls G hP hD hS hl hr
  obtain ⟨hx, hb, hml, hown, hts, hlk, htb, hini, hrt, hfr, hlo, hMC, hMS, hA, hK, hX, hst⟩ := id G
  exact va_gets hx hb hX.2.2.2.2.2.2.2.2.2.2.2.2.1 hS hown (hts _ hw) (fun _ h => h) hd (k p e R s m args below meth c H locs cells slots MC MS A ad ad0 ls G hP hD hS hl hr)
theorem J_getsT {idx : Nat} (hd : decode cc pc = .ok (.getstatic idx, 3)) (hw : Cond.fieldLink own idx "java/lang/Integer" "DigitTens" "[B" ∈ ws) (k : J l D dA own cc ws nL ini rt hh fr lo F n0 bc bs M (pc + 3) lv (.retAddr 6 :: st)) : J l D dA own cc ws nL ini rt hh fr lo F n0 bc bs M pc lv st := by
  intro p e R s m args below meth c H locs cells slots MC MS A ad ad0 ls G hP hD hS hl hr
  obtain ⟨hx, hb, hml, hown, hts, hlk, htb, hini, hrt, hfr, hlo, hMC, hMS, hA, hK, hX, hst⟩ := id G
  exact va_gets hx hb hX.2.2.2.2.2.2.2.2.2.2.2.2.2.1.1 hS hown (hts _ hw) (fun _ h => h) hd (k p e R s m args below meth c H locs cells slots MC MS A ad ad0 ls G hP hD hS hl hr)
theorem J_getsO {idx : Nat} (hd : decode cc pc = .ok (.getstatic idx, 3)) (hw : Cond.fieldLink own idx "java/lang/Integer" "DigitOnes" "[B" ∈ ws) (k : J l D dA own cc ws nL ini rt hh fr lo F n0 bc bs M (pc + 3) lv (.retAddr 7 :: st)) : J l D dA own cc ws nL ini rt hh fr lo F n0 bc bs M pc lv st := by
  intro p e R s m args below meth c H locs cells slots MC MS A ad ad0 ls G hP hD hS hl hr
  obtain ⟨hx, hb, hml, hown, hts, hlk, htb, hini, hrt, hfr, hlo, hMC, hMS, hA, hK, hX, hst⟩ := id G
  exact va_gets hx hb hX.2.2.2.2.2.2.2.2.2.2.2.2.2.2.1.1 hS hown (hts _ hw) (fun _ h => h) hd (k p e R s m args below meth c H locs cells slots MC MS A ad ad0 ls G hP hD hS hl hr)
theorem J_getsF {idx : Nat} (hd : decode cc pc = .ok (.getstatic idx, 3)) (hw : Cond.fieldLink own idx "jdk/internal/util/Preconditions" "SIOOBE_FORMATTER" "Ljava/util/function/BiFunction;" ∈ ws) (k : J l D dA own cc ws nL ini rt hh fr lo F n0 bc bs M (pc + 3) lv (.null :: st)) (k2 : J l D dA own cc ws nL ini rt hh fr lo F n0 bc bs M (pc + 3) lv (.retAddr 3 :: st)) : J l D dA own cc ws nL ini rt hh fr lo F n0 bc bs M pc lv st := by
  intro p e R s m args below meth c H locs cells slots MC MS A ad ad0 ls G hP hD hS hl hr
  obtain ⟨hx, hb, hml, hown, hts, hlk, htb, hini, hrt, hfr, hlo, hMC, hMS, hA, hK, hX, hst⟩ := id G
  rcases hX.2.2.2.2.2.2.2.2.2.2.2.2.2.2.2.1 with hz | hz
  · exact va_gets hx hb hz hS hown (hts _ hw) (fun _ h => h) hd (k p e R s m args below meth c H locs cells slots MC MS A ad ad0 ls G hP hD hS hl hr)
  · exact va_gets hx hb hz hS hown (hts _ hw) (fun _ h => h) hd (k2 p e R s m args below meth c H locs cells slots MC MS A ad ad0 ls G hP hD hS hl hr)
theorem J_getfSv {i idx : Nat} (hi : i < 3) (hd : decode cc pc = .ok (.getfield idx, 3)) (hw : Cond.fieldLink own idx "java/lang/String" "value" "[B" ∈ ws) (k : J l D dA own cc ws nL ini rt hh fr lo F n0 bc bs M (pc + 3) lv (.retAddr (10 + i) :: st)) : J l D dA own cc ws nL ini rt hh fr lo F n0 bc bs M pc lv (.retAddr i :: st) := by
  intro p e R s m args below meth c H locs cells slots MC MS A ad ad0 ls G hP hD hS hl hr
  obtain ⟨hx, hb, hml, hown, hts, hlk, htb, hini, hrt, hfr, hlo, hMC, hMS, hA, hK, hX, hst⟩ := id G
  have k2 := (k p e R s m args below meth c H locs cells slots MC MS A ad ad0 ls G hP hD hS hl hr)
  have e9 : jv dA ad (.retAddr (10 + i)) = .ref (dA (110 + i)) := by show Value.ref (dA (100 + (10 + i))) = _; rw [show 100 + (10 + i) = 110 + i from by omega]
  rw [List.map_cons, e9] at k2
  exact vk_getf hx hb (hX.2.2.2.2.2.2.2.1.1 i hi).2.2.1 hS hown (hts _ hw) (fun _ h => h) hd k2
theorem J_getfSc {i idx : Nat} (hi : i < 3) (hd : decode cc pc = .ok (.getfield idx, 3)) (hw : Cond.fieldLink own idx "java/lang/String" "coder" "B" ∈ ws) (k : J l D dA own cc ws nL ini rt hh fr lo F n0 bc bs M (pc + 3) lv (.int 0 :: st)) : J l D dA own cc ws nL ini rt hh fr lo F n0 bc bs M pc lv (.retAddr i :: st) := by
  intro p e R s m args below meth c H locs cells slots MC MS A ad ad0 ls G hP hD hS hl hr
  obtain ⟨hx, hb, hml, hown, hts, hlk, htb, hini, hrt, hfr, hlo, hMC, hMS, hA, hK, hX, hst⟩ := id G
  exact vk_getf hx hb (hX.2.2.2.2.2.2.2.1.1 i hi).2.1 hS hown (hts _ hw) (fun _ h => h) hd (k p e R s m args below meth c H locs cells slots MC MS A ad ad0 ls G hP hD hS hl hr)
theorem J_alenS {i : Nat} (hi : i < 3) (hd : decode cc pc = .ok (.arraylength, 1)) (k : J l D dA own cc ws nL ini rt hh fr lo F n0 bc bs M (pc + 1) lv (.int (nI (jStrL i)) :: st)) : J l D dA own cc ws nL ini rt hh fr lo F n0 bc bs M pc lv (.retAddr (10 + i) :: st) := by
  intro p e R s m args below meth c H locs cells slots MC MS A ad ad0 ls G hP hD hS hl hr
  obtain ⟨hx, hb, hml, hown, hts, hlk, htb, hini, hrt, hfr, hlo, hMC, hMS, hA, hK, hX, hst⟩ := id G
  have e9 : jv dA ad (.retAddr (10 + i)) = .ref (dA (110 + i)) := by show Value.ref (dA (100 + (10 + i))) = _; rw [show 100 + (10 + i) = 110 + i from by omega]
  rw [List.map_cons, e9]
  exact va_tlen hx hb (hX.2.2.2.2.2.2.2.1.1 i hi).2.2.2 hS rfl hd (k p e R s m args below meth c H locs cells slots MC MS A ad ad0 ls G hP hD hS hl hr)
theorem J_baldS {i kq : Nat} (hi : i < 3) (hd : decode cc pc = .ok (.baload, 1)) (hk : kq < jStrL i) (k : J l D dA own cc ws nL ini rt hh fr lo F n0 bc bs M (pc + 1) lv (.int (jStrB i kq) :: st)) : J l D dA own cc ws nL ini rt hh fr lo F n0 bc bs M pc lv (.int (nI kq) :: .retAddr (10 + i) :: st) := by
  intro p e R s m args below meth c H locs cells slots MC MS A ad ad0 ls G hP hD hS hl hr
  obtain ⟨hx, hb, hml, hown, hts, hlk, htb, hini, hrt, hfr, hlo, hMC, hMS, hA, hK, hX, hst⟩ := id G
  have e9 : jv dA ad (.retAddr (10 + i)) = .ref (dA (110 + i)) := by show Value.ref (dA (100 + (10 + i))) = _; rw [show 100 + (10 + i) = 110 + i from by omega]
  have hl9 : jStrL i < 100 := by have : ∀ i : Nat, i < 3 → jStrL i < 100 := by decide
                                 exact this i hi
  rw [List.map_cons, List.map_cons, e9]
  exact va_tb hx hb (hX.2.2.2.2.2.2.2.1.1 i hi).2.2.2 hS (jvin (show kq < jStrL i from hk) (show jStrL i < 2 ^ 31 by omega)) (by rw [nI_clamp (by omega)]; rfl) hd (k p e R s m args below meth c H locs cells slots MC MS A ad ad0 ls G hP hD hS hl hr)
theorem J_baldT {kq : Nat} (hd : decode cc pc = .ok (.baload, 1)) (hk : kq < 100) (k : J l D dA own cc ws nL ini rt hh fr lo F n0 bc bs M (pc + 1) lv (.int (nI (48 + kq / 10)) :: st)) : J l D dA own cc ws nL ini rt hh fr lo F n0 bc bs M pc lv (.int (nI kq) :: .retAddr 6 :: st) := by
  intro p e R s m args below meth c H locs cells slots MC MS A ad ad0 ls G hP hD hS hl hr
  obtain ⟨hx, hb, hml, hown, hts, hlk, htb, hini, hrt, hfr, hlo, hMC, hMS, hA, hK, hX, hst⟩ := id G
  exact va_tb hx hb hX.2.2.2.2.2.2.2.2.2.2.2.2.2.1.2 hS (jvin hk (by decide)) (by rw [nI_clamp (by omega)]; rfl) hd (k p e R s m args below meth c H locs cells slots MC MS A ad ad0 ls G hP hD hS hl hr)
theorem J_baldO {kq : Nat} (hd : decode cc pc = .ok (.baload, 1)) (hk : kq < 100) (k : J l D dA own cc ws nL ini rt hh fr lo F n0 bc bs M (pc + 1) lv (.int (nI (48 + kq % 10)) :: st)) : J l D dA own cc ws nL ini rt hh fr lo F n0 bc bs M pc lv (.int (nI kq) :: .retAddr 7 :: st) := by
  intro p e R s m args below meth c H locs cells slots MC MS A ad ad0 ls G hP hD hS hl hr
  obtain ⟨hx, hb, hml, hown, hts, hlk, htb, hini, hrt, hfr, hlo, hMC, hMS, hA, hK, hX, hst⟩ := id G
  exact va_tb hx hb hX.2.2.2.2.2.2.2.2.2.2.2.2.2.2.1.2 hS (jvin hk (by decide)) (by rw [nI_clamp (by omega)]; rfl) hd (k p e R s m args below meth c H locs cells slots MC MS A ad ad0 ls G hP hD hS hl hr)
theorem J_slen (hd : decode cc pc = .ok (.arraylength, 1)) (k : J l D dA own cc ws nL ini rt hh fr lo F n0 bc bs M (pc + 1) lv (.int (nI (jSL dA)) :: st)) : J l D dA own cc ws nL ini rt hh fr lo F n0 bc bs M pc lv (.retAddr 4 :: st) := by
  intro p e R s m args below meth c H locs cells slots MC MS A ad ad0 ls G hP hD hS hl hr
  obtain ⟨hx, hb, hml, hown, hts, hlk, htb, hini, hrt, hfr, hlo, hMC, hMS, hA, hK, hX, hst⟩ := id G
  obtain ⟨g12, g13, g14, g15⟩ := hX.2.2.2.2.2.2.2.2.2.2.2.2.2.2.2.2
  exact va_slen hx hb g12 g13 g14 hS hd (k p e R s m args below meth c H locs cells slots MC MS A ad ad0 ls G hP hD hS hl hr)
theorem J_sld {kq : Nat} (hd : decode cc pc = .ok (.iaload, 1)) (hk : kq < jSL dA) (k : J l D dA own cc ws nL ini rt hh fr lo F n0 bc bs M (pc + 1) lv (.int (jSX dA kq) :: st)) : J l D dA own cc ws nL ini rt hh fr lo F n0 bc bs M pc lv (.int (nI kq) :: .retAddr 4 :: st) := by
  intro p e R s m args below meth c H locs cells slots MC MS A ad ad0 ls G hP hD hS hl hr
  obtain ⟨hx, hb, hml, hown, hts, hlk, htb, hini, hrt, hfr, hlo, hMC, hMS, hA, hK, hX, hst⟩ := id G
  obtain ⟨g12, g13, g14, g15⟩ := hX.2.2.2.2.2.2.2.2.2.2.2.2.2.2.2.2
  have h9 : jSL dA ≤ 2560 := g15
  have k2 := (k p e R s m args below meth c H locs cells slots MC MS A ad ad0 ls G hP hD hS hl hr)
  have e8 : (nI kq).toNatClampNeg = kq := nI_clamp (by omega)
  refine va_sld hx hb g12 g13 g14 hS (jvin hk (show jSL dA < 2 ^ 31 by omega)) hd ?_
  rw [e8]
  exact k2
theorem J_ldcwS {i is : Nat} {text : String} (hd : decode cc pc = .ok (.ldc_w is, 3)) (hi : ∀ (A : Nat → Prop) (U : State), jXs dA A U U.heap → vk_R own is text (dA (100 + i)) U) (k : J l D dA own cc ws nL ini rt hh fr lo F n0 bc bs M (pc + 3) lv (.retAddr i :: st)) : J l D dA own cc ws nL ini rt hh fr lo F n0 bc bs M pc lv st := by
  intro p e R s m args below meth c H locs cells slots MC MS A ad ad0 ls G hP hD hS hl hr
  obtain ⟨hx, hb, hml, hown, hts, hlk, htb, hini, hrt, hfr, hlo, hMC, hMS, hA, hK, hX, hst⟩ := id G
  intro T hT X
  obtain ⟨t, a, b⟩ := (k p e R s m args below meth c H locs cells slots MC MS A ad ad0 ls G hP hD hS hl hr) T hT X
  have h9 := hi A s hX.2.2.2.2.2.2.2
  exact ⟨t, X.ldcStringW hx (own := own) (text := text) (index := is) (a := dA (100 + i)) hown h9.1 h9.2 (g := F0 m pc ls (st.map (jv dA ad))) rfl (by rw [hb]; exact hd) t a, b⟩
theorem J_ldcS {i is : Nat} {text : String} (hd : decode cc pc = .ok (.ldc is, 2)) (hi : ∀ (A : Nat → Prop) (U : State), jXs dA A U U.heap → vk_R own is text (dA (100 + i)) U) (k : J l D dA own cc ws nL ini rt hh fr lo F n0 bc bs M (pc + 2) lv (.retAddr i :: st)) : J l D dA own cc ws nL ini rt hh fr lo F n0 bc bs M pc lv st := by
  intro p e R s m args below meth c H locs cells slots MC MS A ad ad0 ls G hP hD hS hl hr
  obtain ⟨hx, hb, hml, hown, hts, hlk, htb, hini, hrt, hfr, hlo, hMC, hMS, hA, hK, hX, hst⟩ := id G
  intro T hT X
  obtain ⟨t, a, b⟩ := (k p e R s m args below meth c H locs cells slots MC MS A ad ad0 ls G hP hD hS hl hr) T hT X
  have h9 := hi A s hX.2.2.2.2.2.2.2
  exact ⟨t, X.ldcString hx (own := own) (text := text) (index := is) (a := dA (100 + i)) hown h9.1 h9.2 (g := F0 m pc ls (st.map (jv dA ad))) rfl (by rw [hb]; exact hd) t a, b⟩
theorem J_copyb {idx a0 a sp dp n z0 z : Nat} (hd : decode cc pc = .ok (.invokestatic idx, 3)) (hw1 : Cond.methodLink own idx arraycopyName ∈ ws) (hw2 : Cond.native arraycopyName ∈ ws) (hw3 : Cond.static arraycopyName ∈ ws) (hw4 : Cond.initialized "java/lang/System" ∈ ws)
    (ha0 : a0 < jn M) (hk0 : jk M a0 = 20) (ha : a < jn M) (hk : jk M a = 20) (hz0 : jz M a0 = z0) (hz : jz M a = z) (hb0 : z0 < 2 ^ 31) (hb : z < 2 ^ 31) (h1 : sp + n ≤ z0) (h2 : dp + n ≤ z) (hfit : ∀ i, i < n → fits .byte (.int (ji M a0 (sp + i))) = true) (hst4 : st.length ≤ 4) (hfr9 : 1 ≤ fr) (hlo9 : 60 ≤ lo)
    (k : J l D dA own cc ws nL ini rt hh fr lo F n0 bc bs (jSv M a (va_cpy (ji M a0) (ji M a) sp dp n)) (pc + 3) lv st) : J l D dA own cc ws nL ini rt hh fr lo F n0 bc bs M pc lv (.int (nI n) :: .int (nI dp) :: .ref a :: .int (nI sp) :: .ref a0 :: st) := by
  intro p e R s m args below meth c H locs cells slots MC MS A ad ad0 ls G hP hD hS hl hr
  obtain ⟨hx, hb9, hml, hown, hts, hlk, htb, hini, hrt, hfr, hlo, hMC, hMS, hA, hK, hX, hst⟩ := id G
  have hrm := jCat (st := st) (dA := dA) (ad := ad) hst4
  have e1 : (nI sp).toNatClampNeg = sp := nI_clamp (by omega)
  have e2 : (nI dp).toNatClampNeg = dp := nI_clamp (by omega)
  have e3 : (nI n).toNatClampNeg = n := nI_clamp (by omega)
  refine va_copyi hx hb9 (hml.trans hl.1.symm) hown (hts _ hw1) (hts _ hw2) (hts _ hw3) (hts _ hw4) hK hP hD hS a0 a 0 0 (c0 := dA 0) (c1 := dA 0) (n0 := jz M a0) (n1 := jz M a) (f := ji M a0) (g := ji M a) (ty := .byte) ?_ ?_ rfl rfl rfl (nI_pos (by omega)) (nI_pos (by omega)) (nI_pos (by omega)) (by rw [e1, e3, hz0]; exact h1) (by rw [e2, e3, hz]; exact h2) (fun i hi => by rw [e1]; rw [e3] at hi; exact hfit i hi) (Nat.le_trans hfr9 hfr) ?_ hd (fun H1 locs1 hP1 hD1 hS1 => ?_)
  · rw [jW_arr (t := 0) ha0 hk0]; rfl
  · rw [jW_arr (t := 0) ha hk]; rfl
  · have : nativeFrameWords "java/lang/System" "arraycopy" 5 + 11 ≤ 52 := by decide
    omega
  · rw [e1, e2, e3] at hP1 hD1
    have he9 : (jW ad dA M).set a (ad a, .inl (dA 0, jz M a, .inl (va_cpy (ji M a0) (ji M a) sp dp n))) = jW ad dA (jSv M a (va_cpy (ji M a0) (ji M a) sp dp n)) := jW_set rfl (by rw [jE_i (t := 0) (show jk (jSv M a _) a = 20 + 0 from hk) (by decide), show ji (jSv M a (va_cpy (ji M a0) (ji M a) sp dp n)) a = va_cpy (ji M a0) (ji M a) sp dp n from by funext j; simp [ji_Sv]]; rfl) (fun b hb2 => jE_sv_ne hb2)
    rw [he9] at hP1 hD1
    exact k p e R s m args below meth c H1 locs1 cells slots MC MS A ad ad0 ls G hP1 hD1 hS1 hl hr
theorem jgetD_no {α : Type} {l : List α} {k : Nat} {d : α} (h : l.length ≤ k) : l.getD k d = d := by rw [List.getD_eq_getElem?_getD, List.getElem?_eq_none h]; rfl
theorem jgetD_l {α : Type} {l l2 : List α} {k : Nat} {d : α} (h : k < l.length) : (l ++ l2).getD k d = l.getD k d := by rw [List.getD_eq_getElem?_getD, List.getElem?_append_left h, List.getD_eq_getElem?_getD]
theorem jgetD_r {α : Type} {l l2 : List α} {k : Nat} {d : α} : (l ++ l2).getD (l.length + k) d = l2.getD k d := by rw [List.getD_eq_getElem?_getD, List.getElem?_append_right (Nat.le_add_right _ _), List.getD_eq_getElem?_getD, Nat.add_sub_cancel_left]
theorem jgetD_m {α : Type} {l : List α} {k : Nat} {d : α} (h : k < l.length) : l.getD k d ∈ l := by rw [List.getD_eq_getElem?_getD, List.getElem?_eq_getElem h]; exact List.getElem_mem h
theorem jStrB_fit : ∀ i k : Nat, fits .byte (.int (jStrB i k)) = true := by
  have h : ∀ i : Nat, i < 3 → ∀ k : Nat, k < 4 → fits .byte (.int (jStrB i k)) = true := by decide
  intro i k
  rcases Nat.lt_or_ge i 3 with hi | hi
  · rcases Nat.lt_or_ge k 4 with hk | hk
    · exact h i hi k hk
    · have : jStrB i k = 0 := by
        unfold jStrB
        rcases (show i = 0 ∨ i = 1 ∨ i = 2 by omega) with rfl | rfl | rfl
        · exact jgetD_no (by show 4 ≤ k; omega)
        · exact jgetD_no (by show 2 ≤ k; omega)
        · exact jgetD_no (by show 2 ≤ k; omega)
      rw [this]; decide
  · have : jStrB i k = 0 := by
      unfold jStrB
      rw [jgetD_no (l := [[110, 111, 110, 101], [62, 61], [60, 61]]) (by show 3 ≤ i; omega)]
      rfl
    rw [this]; decide
theorem J_copyS {idx i a sp dp n z : Nat} (hi : i < 3) (hd : decode cc pc = .ok (.invokestatic idx, 3)) (hw1 : Cond.methodLink own idx arraycopyName ∈ ws) (hw2 : Cond.native arraycopyName ∈ ws) (hw3 : Cond.static arraycopyName ∈ ws) (hw4 : Cond.initialized "java/lang/System" ∈ ws)
    (ha : a < jn M) (hk : jk M a = 20) (hz : jz M a = z) (hb : z < 2 ^ 31) (h1 : sp + n ≤ jStrL i) (h2 : dp + n ≤ z) (hst4 : st.length ≤ 4) (hfr9 : 1 ≤ fr) (hlo9 : 60 ≤ lo)
    (k : J l D dA own cc ws nL ini rt hh fr lo F n0 bc bs (jSv M a (va_cpy (jStrB i) (ji M a) sp dp n)) (pc + 3) lv st) : J l D dA own cc ws nL ini rt hh fr lo F n0 bc bs M pc lv (.int (nI n) :: .int (nI dp) :: .ref a :: .int (nI sp) :: .retAddr (10 + i) :: st) := by
  intro p e R s m args below meth c H locs cells slots MC MS A ad ad0 ls G hP hD hS hl hr
  obtain ⟨hx, hb9, hml, hown, hts, hlk, htb, hini, hrt, hfr, hlo, hMC, hMS, hA, hK, hX, hst⟩ := id G
  have hrm := jCat (st := st) (dA := dA) (ad := ad) hst4
  have hl9 : jStrL i < 100 := by have : ∀ i : Nat, i < 3 → jStrL i < 100 := by decide
                                 exact this i hi
  have e1 : (nI sp).toNatClampNeg = sp := nI_clamp (by omega)
  have e2 : (nI dp).toNatClampNeg = dp := nI_clamp (by omega)
  have e3 : (nI n).toNatClampNeg = n := nI_clamp (by omega)
  have e9 : jv dA ad (.retAddr (10 + i)) = .ref (dA (110 + i)) := by show Value.ref (dA (100 + (10 + i))) = _; rw [show 100 + (10 + i) = 110 + i from by omega]
  rw [List.map_cons, List.map_cons, List.map_cons, List.map_cons, List.map_cons, e9]
  refine vk_copyt hx hb9 (hml.trans hl.1.symm) hown (hts _ hw1) (hts _ hw2) (hts _ hw3) (hts _ hw4) hK hP hD hS (hX.2.2.2.2.2.2.2.1.1 i hi).2.2.2 a 0 (c1 := dA 0) (n1 := jz M a) (g := ji M a) ?_ rfl (nI_pos (by omega)) (nI_pos (by omega)) (nI_pos (by omega)) (by rw [e1, e3]; exact h1) (by rw [e2, e3, hz]; exact h2) (fun j _ => jStrB_fit i _) (Nat.le_trans hfr9 hfr) ?_ hd (fun H1 locs1 hP1 hD1 hS1 => ?_)
  · rw [jW_arr (t := 0) ha hk]; rfl
  · have : nativeFrameWords "java/lang/System" "arraycopy" 5 + 11 ≤ 52 := by decide
    omega
  · rw [e1, e2, e3] at hP1 hD1
    have he9 : (jW ad dA M).set a (ad a, .inl (dA 0, jz M a, .inl (va_cpy (jStrB i) (ji M a) sp dp n))) = jW ad dA (jSv M a (va_cpy (jStrB i) (ji M a) sp dp n)) := jW_set rfl (by rw [jE_i (t := 0) (show jk (jSv M a _) a = 20 + 0 from hk) (by decide), show ji (jSv M a (va_cpy (jStrB i) (ji M a) sp dp n)) a = va_cpy (jStrB i) (ji M a) sp dp n from by funext j; simp [ji_Sv]]; rfl) (fun b hb2 => jE_sv_ne hb2)
    have hf9 : (fun j => ([[110, 111, 110, 101], [62, 61], [60, 61]].getD i []).getD j 0) = jStrB i := rfl
    rw [hf9, he9] at hP1 hD1
    exact k p e R s m args below meth c H1 locs1 cells slots MC MS A ad ad0 ls G hP1 hD1 hS1 hl hr
theorem jrunVS {y : MethodName} {wy : List Cond} {bytes : ByteArray} {maxL n idx mc ms k fr' lo' : Nat} {ret : Option FieldType} {Pc : jP} {As st0 : List Value} {i : Nat} (hct : jCT l D dA y wy fr' lo' mc ms k (.retAddr i :: As) M Pc) (hd : decode cc pc = .ok (.invokevirtual idx, 3)) (hY : jY y wy bytes maxL ret n) (hG : GoodIn ws (wsV own idx "java/lang/String" y wy)) (hyC : y.cls = "java/lang/String") (hi : i < 3) (hs : st0 = As.reverse ++ .retAddr i :: st) (hR : fr' + 1 ≤ fr ∧ 8 + (maxL + 11) + lo' ≤ lo) (hb2 : mc ≤ bc ∧ ms ≤ bs) (hlen : As.length = n) (hst4 : st.length ≤ 4) : jRun l D dA own cc ws nL ini rt hh fr lo n0 bc bs mc ms k Pc M pc lv st0 st := by
  intro p e R s m args below meth c H locs cells slots MC MS A ad ad0 ls G hP hD hS hl hr
  obtain ⟨hx, hb, hml, hown, hts, hlk, htb, hini, hrt, hfr, hlo, hMC, hMS, hA, hK, hX, hst⟩ := id G
  obtain ⟨⟨w', hw⟩, hy1, hy2, hy3⟩ := hY
  have hRR : fr' + 1 ≤ R.frames ∧ 8 + (maxL + 11) + lo' ≤ R.locals := ⟨Nat.le_trans hR.1 hfr, Nat.le_trans hR.2 hlo⟩
  have hff : cells + mc ≤ R.cells ∧ slots + ms ≤ R.slots := ⟨by have := hr.2.2.1; omega, by have := hr.2.2.2.1; omega⟩
  rw [jStk hs]
  exact ⟨_, vx_runV ⟨hx, hb, hml, hown, hts⟩ (hct A ad) (cwV n hts hG hw rfl rfl ⟨hyC, hy1, hy2, hy3⟩ hRR) ⟨jPre_blind, vk_recv hX.2.2.2.2.2.2.2.1 hi hS, fun U hU hW => ⟨rfl, jPre_go hA hK hX hP hD hS hU hW⟩⟩ rfl (by rw [List.length_map]; exact hlen) hl.1 rfl (jRoom hst4) hd hff⟩
theorem jrunSU {y : MethodName} {wy : List Cond} {bytes : ByteArray} {maxL n idx mc ms k fr' lo' : Nat} {ret : Option FieldType} {Pc : jP} {As st0 : List Value} {ci a : Nat} {C : String} {T : u_T} {N : Nat} (hct : jCT l D dA y wy fr' lo' mc ms k (.ref a :: As) M Pc) (hd : decode cc pc = .ok (.invokespecial idx, 3)) (hY : jY y wy bytes maxL ret n) (hG : GoodIn ws (va_wsSU own idx y wy)) (hyn : y.name ≠ "<init>") (hc : jCs ci C T N) (ha : a < jn M) (hk : jk M a = ci) (hs : st0 = As.reverse ++ .ref a :: st) (hR : fr' + 1 ≤ fr ∧ 8 + (maxL + 11) + lo' ≤ lo) (hb2 : mc ≤ bc ∧ ms ≤ bs) (hlen : As.length = n) (hst4 : st.length ≤ 4) : jRun l D dA own cc ws nL ini rt hh fr lo n0 bc bs mc ms k Pc M pc lv st0 st := by
  intro p e R s m args below meth c H locs cells slots MC MS A ad ad0 ls G hP hD hS hl hr
  obtain ⟨hx, hb, hml, hown, hts, hlk, htb, hini, hrt, hfr, hlo, hMC, hMS, hA, hK, hX, hst⟩ := id G
  obtain ⟨⟨w', hw⟩, hy1, hy2, hy3⟩ := hY
  have hRR : fr' + 1 ≤ R.frames ∧ 8 + (maxL + 11) + lo' ≤ R.locals := ⟨Nat.le_trans hR.1 hfr, Nat.le_trans hR.2 hlo⟩
  have hff : cells + mc ≤ R.cells ∧ slots + ms ≤ R.slots := ⟨by have := hr.2.2.1; omega, by have := hr.2.2.2.1; omega⟩
  rw [jStk hs]
  exact ⟨_, vx_runSU ((hK.1 ci _ hc.1).2) ⟨hx, hb, hml, hown, hts⟩ (hct A ad) (va_cwSU n hts hG hw rfl rfl ⟨hyn, hy3⟩ hRR) ⟨jPre_blind, va_recv hK hP hc.1 (jW_obj ha hk hc.2.2.1), fun U hU hW => ⟨rfl, jPre_go hA hK hX hP hD hS hU hW⟩⟩ rfl (by rw [List.length_map]; exact hlen) hl.1 rfl (jRoom hst4) hd hff⟩
end Str
