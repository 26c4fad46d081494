section Heap
variable {l : Launch} {D : va_G} {dA : Nat → ClassId} {own : String} {cc : ByteArray} {ws : List Cond} {nL : Nat} {ini : Bool} {rt : Option FieldType} {hh : List (Nat × Nat × Nat × Nat)} {fr lo : Nat} {F : jFin} {n0 bc bs : Nat} {M : jM} {pc : Nat} {lv st : List Value}
/-- a class of the memory: its number, name, fields -/
def jCs (ci : Nat) (C : String) (T : u_T) (N : Nat) : Prop := vwCl[ci]? = some (C, T, N) ∧ jfn ci = N ∧ ci < 20 ∧ (∀ a, a < N → ∀ b, b < N → a ≠ b → (T a).2.1 ≠ (T b).2.1)
/-- .. its types -/
def jTy (ci : Nat) (T : u_T) (N : Nat) (ty : Nat → FieldType) : Prop := (∀ k, k < N → parseFieldDescriptor (T k).2.2.1 = some (ty k)) ∧ ∀ k, k < N → defaultValue (ty k) = if jfr ci k then .null else .int 0
theorem jW_obj {ad : Nat → Nat} {a ci : Nat} (ha : a < jn M) (hk : jk M a = ci) (h20 : ci < 20) : (jW ad dA M)[a]? = some (ad a, .inr (ci, jfs ad M a ci)) := by rw [jW_at ha, jE_obj hk h20]
theorem jW_arr {ad : Nat → Nat} {a t : Nat} (ha : a < jn M) (hk : jk M a = 20 + t) : (jW ad dA M)[a]? = some (ad a, .inl (dA t, (jz M a, jC ad M a t))) := by rw [jW_at ha, jE_arr hk]
theorem jE_i {ad : Nat → Nat} {M : jM} {a t : Nat} (h : jk M a = 20 + t) (ht : t < 3) : jE ad dA M a = .inl (dA t, (jz M a, .inl (ji M a))) := by rw [jE_arr h]; simp [jC, ht]
theorem jE_q {ad : Nat → Nat} {M : jM} {a t : Nat} (h : jk M a = 20 + t) (h1 : ¬ t < 3) (h2 : t < 5) : jE ad dA M a = .inl (dA t, (jz M a, .inr (.inr (.inr (.inr (fun j => (jr M a j).map ad)))))) := by rw [jE_arr h]; simp [jC, h1, h2]
theorem jE_l {ad : Nat → Nat} {M : jM} {a : Nat} (h : jk M a = 25) : jE ad dA M a = .inl (dA 5, (jz M a, .inr (.inl (jl M a)))) := by rw [jE_arr (t := 5) h]; simp [jC]
theorem jE_d {ad : Nat → Nat} {M : jM} {a : Nat} (h : jk M a = 26) : jE ad dA M a = .inl (dA 6, (jz M a, .inr (.inr (.inr (.inl (jd M a)))))) := by rw [jE_arr (t := 6) h]; simp [jC]
theorem jfv_i {ad : Nat → Nat} {a ci j : Nat} (hj : j < jfn ci) (hf : jfr ci j = false) : (jfs ad M a ci)[j]? = some (.int (ji M a j)) := by rw [jfs_at hj]; simp [jfv, hf]
theorem jfv_r {ad : Nat → Nat} {a ci j : Nat} (hj : j < jfn ci) (hf : jfr ci j = true) : (jfs ad M a ci)[j]? = some (va_rf ((jr M a j).map ad)) := by rw [jfs_at hj]; simp [jfv, hf]

theorem J_geti {ci j idx a : Nat} {C ref : String} {T : u_T} {N : Nat} (hd : decode cc pc = .ok (.getfield idx, 3)) (hin : ∀ w ∈ u_ws C T N, w ∈ ws) (hc : jCs ci C T N) (hj : j < N) (hf : jfr ci j = false) (hw : Cond.fieldLink own idx ref (T j).2.1 (T j).2.2.1 ∈ ws) (hs : ref = (T j).1) (ha : a < jn M) (hk : jk M a = ci) (k : J l D dA own cc ws nL ini rt hh fr lo F n0 bc bs (M) (pc + 3) (lv) (.int (ji M a j) :: st)) : J l D dA own cc ws nL ini rt hh fr lo F n0 bc bs (M) (pc) (lv) (.ref a :: st) := by
  intro p e R s m args below meth c H locs cells slots MC MS A ad ad0 ls G hP hD hS hl hr
  obtain ⟨hx, hb, hml, hown, hts, hlk, htb, hini, hrt, hfr, hlo, hMC, hMS, hA, hK, hX, hst⟩ := id G
  subst hs
  exact va_get hx hb hts hin hown hK hP a (jW_obj ha hk hc.2.2.1) hc.1 j hj (hts _ hw) (fun _ h => h) (jfv_i (by rw [hc.2.1]; exact hj) hf) hd (k p e R s m args below meth c H locs cells slots MC MS A ad ad0 ls G hP hD hS hl hr)
theorem J_getr {ci j idx a : Nat} {C ref : String} {T : u_T} {N : Nat} (hd : decode cc pc = .ok (.getfield idx, 3)) (hin : ∀ w ∈ u_ws C T N, w ∈ ws) (hc : jCs ci C T N) (hj : j < N) (hf : jfr ci j = true) (hw : Cond.fieldLink own idx ref (T j).2.1 (T j).2.2.1 ∈ ws) (hs : ref = (T j).1) (ha : a < jn M) (hk : jk M a = ci) (k : J l D dA own cc ws nL ini rt hh fr lo F n0 bc bs (M) (pc + 3) (lv) (va_rf (jr M a j) :: st)) : J l D dA own cc ws nL ini rt hh fr lo F n0 bc bs (M) (pc) (lv) (.ref a :: st) := by
  intro p e R s m args below meth c H locs cells slots MC MS A ad ad0 ls G hP hD hS hl hr
  obtain ⟨hx, hb, hml, hown, hts, hlk, htb, hini, hrt, hfr, hlo, hMC, hMS, hA, hK, hX, hst⟩ := id G
  subst hs
  have he9 := k p e R s m args below meth c H locs cells slots MC MS A ad ad0 ls G hP hD hS hl hr
  rw [List.map_cons, jv_rf] at he9
  exact va_get hx hb hts hin hown hK hP a (jW_obj ha hk hc.2.2.1) hc.1 j hj (hts _ hw) (fun _ h => h) (jfv_r (by rw [hc.2.1]; exact hj) hf) hd he9
theorem J_puti {ci j idx a : Nat} {C ref : String} {T : u_T} {N : Nat} {x : Int32} {ty : Nat → FieldType} (hd : decode cc pc = .ok (.putfield idx, 3)) (hin : ∀ w ∈ u_ws C T N, w ∈ ws) (hc : jCs ci C T N) (hty : jTy ci T N ty) (hj : j < N) (hf : jfr ci j = false) (hw : Cond.fieldLink own idx ref (T j).2.1 (T j).2.2.1 ∈ ws) (hs : ref = (T j).1) (hfin : (T j).2.2.2 = false) (hnt : narrow (ty j) (.int x) = .int x ∧ fits (ty j) (.int x) = true) (ha : a < jn M) (hk : jk M a = ci) (k : J l D dA own cc ws nL ini rt hh fr lo F n0 bc bs (jSi M a j x) (pc + 3) (lv) (st)) : J l D dA own cc ws nL ini rt hh fr lo F n0 bc bs (M) (pc) (lv) (.int x :: .ref a :: st) := by
  intro p e R s m args below meth c H locs cells slots MC MS A ad ad0 ls G hP hD hS hl hr
  obtain ⟨hx, hb, hml, hown, hts, hlk, htb, hini, hrt, hfr, hlo, hMC, hMS, hA, hK, hX, hst⟩ := id G
  subst hs
  refine va_put (v := .int x) hx hb hts hin ty hty.1 hc.2.2.2 hown hK hP hD hS a (jW_obj ha hk hc.2.2.1) hc.1 j hj (hts _ hw) (fun _ h => h) hfin (hty.1 j hj) hnt.1 hnt.2 (by rw [jfs_len, hc.2.1]; exact hj) hd (fun H1 locs1 hP1 hD1 hS1 => ?_)
  have he9 : (jW ad dA M).set a (ad a, .inr (ci, (jfs ad M a ci).set j (.int x))) = jW ad dA (jSi M a j x) := jW_set rfl (by rw [jE_obj (show jk (jSi M a j x) a = ci from hk) hc.2.2.1, jfs_si hf]) (fun b hb2 => jE_si_ne hb2)
  rw [he9] at hP1 hD1
  exact k p e R s m args below meth c H1 locs1 cells slots MC MS A ad ad0 ls G hP1 hD1 hS1 hl hr
theorem J_putr {ci j idx a : Nat} {C ref : String} {T : u_T} {N : Nat} {r : Option Nat} {ty : Nat → FieldType} (hd : decode cc pc = .ok (.putfield idx, 3)) (hin : ∀ w ∈ u_ws C T N, w ∈ ws) (hc : jCs ci C T N) (hty : jTy ci T N ty) (hj : j < N) (hf : jfr ci j = true) (hw : Cond.fieldLink own idx ref (T j).2.1 (T j).2.2.1 ∈ ws) (hs : ref = (T j).1) (hfin : (T j).2.2.2 = false) (hnt : ∀ v : Option Nat, narrow (ty j) (va_rf v) = va_rf v ∧ fits (ty j) (va_rf v) = true) (ha : a < jn M) (hk : jk M a = ci) (k : J l D dA own cc ws nL ini rt hh fr lo F n0 bc bs (jSr M a j r) (pc + 3) (lv) (st)) : J l D dA own cc ws nL ini rt hh fr lo F n0 bc bs (M) (pc) (lv) (va_rf r :: .ref a :: st) := by
  intro p e R s m args below meth c H locs cells slots MC MS A ad ad0 ls G hP hD hS hl hr
  obtain ⟨hx, hb, hml, hown, hts, hlk, htb, hini, hrt, hfr, hlo, hMC, hMS, hA, hK, hX, hst⟩ := id G
  subst hs
  rw [List.map_cons, jv_rf]
  refine va_put (v := va_rf (r.map ad)) hx hb hts hin ty hty.1 hc.2.2.2 hown hK hP hD hS a (jW_obj ha hk hc.2.2.1) hc.1 j hj (hts _ hw) (fun _ h => h) hfin (hty.1 j hj) (hnt _).1 (hnt _).2 (by rw [jfs_len, hc.2.1]; exact hj) hd (fun H1 locs1 hP1 hD1 hS1 => ?_)
  have he9 : (jW ad dA M).set a (ad a, .inr (ci, (jfs ad M a ci).set j (va_rf (r.map ad)))) = jW ad dA (jSr M a j r) := jW_set rfl (by rw [jE_obj (show jk (jSr M a j r) a = ci from hk) hc.2.2.1, jfs_sr hf]) (fun b hb2 => jE_sr_ne hb2)
  rw [he9] at hP1 hD1
  exact k p e R s m args below meth c H1 locs1 cells slots MC MS A ad ad0 ls G hP1 hD1 hS1 hl hr
theorem J_putiF {ci j idx a : Nat} {C ref : String} {T : u_T} {N : Nat} {x : Int32} {ty : Nat → FieldType} (hd : decode cc pc = .ok (.putfield idx, 3)) (hin : ∀ w ∈ u_ws C T N, w ∈ ws) (hc : jCs ci C T N) (hty : jTy ci T N ty) (hj : j < N) (hf : jfr ci j = false) (hw : Cond.fieldLink own idx ref (T j).2.1 (T j).2.2.1 ∈ ws) (hs : ref = (T j).1) (hfin : (T j).2.2.2 = true) (hi : ini = true) (hdc : (T j).1 = own) (hnt : narrow (ty j) (.int x) = .int x ∧ fits (ty j) (.int x) = true) (ha : a < jn M) (hk : jk M a = ci) (k : J l D dA own cc ws nL ini rt hh fr lo F n0 bc bs (jSi M a j x) (pc + 3) (lv) (st)) : J l D dA own cc ws nL ini rt hh fr lo F n0 bc bs (M) (pc) (lv) (.int x :: .ref a :: st) := by
  intro p e R s m args below meth c H locs cells slots MC MS A ad ad0 ls G hP hD hS hl hr
  obtain ⟨hx, hb, hml, hown, hts, hlk, htb, hini, hrt, hfr, hlo, hMC, hMS, hA, hK, hX, hst⟩ := id G
  subst hs
  refine va_putF (v := .int x) hx hb hts hin ty hty.1 hc.2.2.2 hown hK hP hD hS a (jW_obj ha hk hc.2.2.1) hc.1 j hj (hts _ hw) (fun _ h => h) hfin (hini hi) hdc (hty.1 j hj) hnt.1 hnt.2 (by rw [jfs_len, hc.2.1]; exact hj) hd (fun H1 locs1 hP1 hD1 hS1 => ?_)
  have he9 : (jW ad dA M).set a (ad a, .inr (ci, (jfs ad M a ci).set j (.int x))) = jW ad dA (jSi M a j x) := jW_set rfl (by rw [jE_obj (show jk (jSi M a j x) a = ci from hk) hc.2.2.1, jfs_si hf]) (fun b hb2 => jE_si_ne hb2)
  rw [he9] at hP1 hD1
  exact k p e R s m args below meth c H1 locs1 cells slots MC MS A ad ad0 ls G hP1 hD1 hS1 hl hr
theorem J_putrF {ci j idx a : Nat} {C ref : String} {T : u_T} {N : Nat} {r : Option Nat} {ty : Nat → FieldType} (hd : decode cc pc = .ok (.putfield idx, 3)) (hin : ∀ w ∈ u_ws C T N, w ∈ ws) (hc : jCs ci C T N) (hty : jTy ci T N ty) (hj : j < N) (hf : jfr ci j = true) (hw : Cond.fieldLink own idx ref (T j).2.1 (T j).2.2.1 ∈ ws) (hs : ref = (T j).1) (hfin : (T j).2.2.2 = true) (hi : ini = true) (hdc : (T j).1 = own) (hnt : ∀ v : Option Nat, narrow (ty j) (va_rf v) = va_rf v ∧ fits (ty j) (va_rf v) = true) (ha : a < jn M) (hk : jk M a = ci) (k : J l D dA own cc ws nL ini rt hh fr lo F n0 bc bs (jSr M a j r) (pc + 3) (lv) (st)) : J l D dA own cc ws nL ini rt hh fr lo F n0 bc bs (M) (pc) (lv) (va_rf r :: .ref a :: st) := by
  intro p e R s m args below meth c H locs cells slots MC MS A ad ad0 ls G hP hD hS hl hr
  obtain ⟨hx, hb, hml, hown, hts, hlk, htb, hini, hrt, hfr, hlo, hMC, hMS, hA, hK, hX, hst⟩ := id G
  subst hs
  rw [List.map_cons, jv_rf]
  refine va_putF (v := va_rf (r.map ad)) hx hb hts hin ty hty.1 hc.2.2.2 hown hK hP hD hS a (jW_obj ha hk hc.2.2.1) hc.1 j hj (hts _ hw) (fun _ h => h) hfin (hini hi) hdc (hty.1 j hj) (hnt _).1 (hnt _).2 (by rw [jfs_len, hc.2.1]; exact hj) hd (fun H1 locs1 hP1 hD1 hS1 => ?_)
  have he9 : (jW ad dA M).set a (ad a, .inr (ci, (jfs ad M a ci).set j (va_rf (r.map ad)))) = jW ad dA (jSr M a j r) := jW_set rfl (by rw [jE_obj (show jk (jSr M a j r) a = ci from hk) hc.2.2.1, jfs_sr hf]) (fun b hb2 => jE_sr_ne hb2)
  rw [he9] at hP1 hD1
  exact k p e R s m args below meth c H1 locs1 cells slots MC MS A ad ad0 ls G hP1 hD1 hS1 hl hr
theorem J_iald {a : Nat} {i : Int32} (hd : decode cc pc = .ok (.iaload, 1)) (ha : a < jn M) (hk : jk M a = 22) (hi : vp_in i (jz M a)) (k : J l D dA own cc ws nL ini rt hh fr lo F n0 bc bs (M) (pc + 1) (lv) (.int (ji M a i.toNatClampNeg) :: st)) : J l D dA own cc ws nL ini rt hh fr lo F n0 bc bs (M) (pc) (lv) (.int i :: .ref a :: st) := by
  intro p e R s m args below meth c H locs cells slots MC MS A ad ad0 ls G hP hD hS hl hr
  obtain ⟨hx, hb, hml, hown, hts, hlk, htb, hini, hrt, hfr, hlo, hMC, hMS, hA, hK, hX, hst⟩ := id G
  exact va_iald hx hb hK hP a 2 (cA := dA 2) (jW_arr (t := 2) ha hk) rfl hi hd (k p e R s m args below meth c H locs cells slots MC MS A ad ad0 ls G hP hD hS hl hr)
theorem J_bald {a : Nat} {i : Int32} (hd : decode cc pc = .ok (.baload, 1)) (ha : a < jn M) (hk : jk M a = 20) (hi : vp_in i (jz M a)) (k : J l D dA own cc ws nL ini rt hh fr lo F n0 bc bs (M) (pc + 1) (lv) (.int (ji M a i.toNatClampNeg) :: st)) : J l D dA own cc ws nL ini rt hh fr lo F n0 bc bs (M) (pc) (lv) (.int i :: .ref a :: st) := by
  intro p e R s m args below meth c H locs cells slots MC MS A ad ad0 ls G hP hD hS hl hr
  obtain ⟨hx, hb, hml, hown, hts, hlk, htb, hini, hrt, hfr, hlo, hMC, hMS, hA, hK, hX, hst⟩ := id G
  exact va_bald hx hb hK hP a 0 (cA := dA 0) (jW_arr (t := 0) ha hk) rfl hi hd (k p e R s m args below meth c H locs cells slots MC MS A ad ad0 ls G hP hD hS hl hr)
theorem J_cald {a : Nat} {i : Int32} (hd : decode cc pc = .ok (.caload, 1)) (ha : a < jn M) (hk : jk M a = 21) (hi : vp_in i (jz M a)) (k : J l D dA own cc ws nL ini rt hh fr lo F n0 bc bs (M) (pc + 1) (lv) (.int (ji M a i.toNatClampNeg) :: st)) : J l D dA own cc ws nL ini rt hh fr lo F n0 bc bs (M) (pc) (lv) (.int i :: .ref a :: st) := by
  intro p e R s m args below meth c H locs cells slots MC MS A ad ad0 ls G hP hD hS hl hr
  obtain ⟨hx, hb, hml, hown, hts, hlk, htb, hini, hrt, hfr, hlo, hMC, hMS, hA, hK, hX, hst⟩ := id G
  exact va_cald hx hb hK hP a 1 (cA := dA 1) (jW_arr (t := 1) ha hk) rfl hi hd (k p e R s m args below meth c H locs cells slots MC MS A ad ad0 ls G hP hD hS hl hr)
theorem J_lald {a : Nat} {i : Int32} (hd : decode cc pc = .ok (.laload, 1)) (ha : a < jn M) (hk : jk M a = 25) (hi : vp_in i (jz M a)) (k : J l D dA own cc ws nL ini rt hh fr lo F n0 bc bs (M) (pc + 1) (lv) (.long (jl M a i.toNatClampNeg) :: st)) : J l D dA own cc ws nL ini rt hh fr lo F n0 bc bs (M) (pc) (lv) (.int i :: .ref a :: st) := by
  intro p e R s m args below meth c H locs cells slots MC MS A ad ad0 ls G hP hD hS hl hr
  obtain ⟨hx, hb, hml, hown, hts, hlk, htb, hini, hrt, hfr, hlo, hMC, hMS, hA, hK, hX, hst⟩ := id G
  exact va_lald hx hb hK hP a 5 (cA := dA 5) (jW_arr (t := 5) ha hk) rfl hi hd (k p e R s m args below meth c H locs cells slots MC MS A ad ad0 ls G hP hD hS hl hr)
theorem J_dald {a : Nat} {i : Int32} (hd : decode cc pc = .ok (.daload, 1)) (ha : a < jn M) (hk : jk M a = 26) (hi : vp_in i (jz M a)) (k : J l D dA own cc ws nL ini rt hh fr lo F n0 bc bs (M) (pc + 1) (lv) (.double (jd M a i.toNatClampNeg) :: st)) : J l D dA own cc ws nL ini rt hh fr lo F n0 bc bs (M) (pc) (lv) (.int i :: .ref a :: st) := by
  intro p e R s m args below meth c H locs cells slots MC MS A ad ad0 ls G hP hD hS hl hr
  obtain ⟨hx, hb, hml, hown, hts, hlk, htb, hini, hrt, hfr, hlo, hMC, hMS, hA, hK, hX, hst⟩ := id G
  exact va_dald hx hb hK hP a 6 (cA := dA 6) (jW_arr (t := 6) ha hk) rfl hi hd (k p e R s m args below meth c H locs cells slots MC MS A ad ad0 ls G hP hD hS hl hr)
theorem J_aald3 {a : Nat} {i : Int32} (hd : decode cc pc = .ok (.aaload, 1)) (ha : a < jn M) (hk : jk M a = 23) (hi : vp_in i (jz M a)) (k : J l D dA own cc ws nL ini rt hh fr lo F n0 bc bs (M) (pc + 1) (lv) (va_rf (jr M a i.toNatClampNeg) :: st)) : J l D dA own cc ws nL ini rt hh fr lo F n0 bc bs (M) (pc) (lv) (.int i :: .ref a :: st) := by
  intro p e R s m args below meth c H locs cells slots MC MS A ad ad0 ls G hP hD hS hl hr
  obtain ⟨hx, hb, hml, hown, hts, hlk, htb, hini, hrt, hfr, hlo, hMC, hMS, hA, hK, hX, hst⟩ := id G
  have he9 := k p e R s m args below meth c H locs cells slots MC MS A ad ad0 ls G hP hD hS hl hr
  rw [List.map_cons, jv_rf] at he9
  exact va_aldq hx hb hK hP a 3 (cA := dA 3) (C := RX3) (f := fun j => (jr M a j).map ad) (jW_arr (t := 3) ha hk) rfl hi hd he9
theorem J_aald4 {a : Nat} {i : Int32} (hd : decode cc pc = .ok (.aaload, 1)) (ha : a < jn M) (hk : jk M a = 24) (hi : vp_in i (jz M a)) (k : J l D dA own cc ws nL ini rt hh fr lo F n0 bc bs (M) (pc + 1) (lv) (va_rf (jr M a i.toNatClampNeg) :: st)) : J l D dA own cc ws nL ini rt hh fr lo F n0 bc bs (M) (pc) (lv) (.int i :: .ref a :: st) := by
  intro p e R s m args below meth c H locs cells slots MC MS A ad ad0 ls G hP hD hS hl hr
  obtain ⟨hx, hb, hml, hown, hts, hlk, htb, hini, hrt, hfr, hlo, hMC, hMS, hA, hK, hX, hst⟩ := id G
  have he9 := k p e R s m args below meth c H locs cells slots MC MS A ad ad0 ls G hP hD hS hl hr
  rw [List.map_cons, jv_rf] at he9
  exact va_aldq hx hb hK hP a 4 (cA := dA 4) (C := RX5) (f := fun j => (jr M a j).map ad) (jW_arr (t := 4) ha hk) rfl hi hd he9
theorem J_iast {a : Nat} {i x : Int32} (hd : decode cc pc = .ok (.iastore, 1)) (ha : a < jn M) (hk : jk M a = 22) (hi : vp_in i (jz M a)) (k : J l D dA own cc ws nL ini rt hh fr lo F n0 bc bs (jSi M a i.toNatClampNeg x) (pc + 1) (lv) (st)) : J l D dA own cc ws nL ini rt hh fr lo F n0 bc bs (M) (pc) (lv) (.int x :: .int i :: .ref a :: st) := by
  intro p e R s m args below meth c H locs cells slots MC MS A ad ad0 ls G hP hD hS hl hr
  obtain ⟨hx, hb, hml, hown, hts, hlk, htb, hini, hrt, hfr, hlo, hMC, hMS, hA, hK, hX, hst⟩ := id G
  refine va_iast hx hb hK hP hD hS a 2 (cA := dA 2) (jW_arr (t := 2) ha hk) rfl hi hd (fun H1 locs1 hP1 hD1 hS1 => ?_)
  have he9 : (jW ad dA M).set a (ad a, .inl (dA 2, jz M a, .inl (upd (ji M a) i.toNatClampNeg x))) = jW ad dA (jSi M a i.toNatClampNeg x) := jW_set rfl (by rw [jE_i (t := 2) (show jk (jSi M a i.toNatClampNeg x) a = 20 + 2 from hk) (by decide), show ji (jSi M a i.toNatClampNeg x) a = upd (ji M a) i.toNatClampNeg x from by funext j; simp [upd, ji_Si]]; rfl) (fun b hb2 => jE_si_ne hb2)
  rw [he9] at hP1 hD1
  exact k p e R s m args below meth c H1 locs1 cells slots MC MS A ad ad0 ls G hP1 hD1 hS1 hl hr
theorem J_bast {a : Nat} {i x : Int32} (hd : decode cc pc = .ok (.bastore, 1)) (ha : a < jn M) (hk : jk M a = 20) (hi : vp_in i (jz M a)) (k : J l D dA own cc ws nL ini rt hh fr lo F n0 bc bs (jSi M a i.toNatClampNeg (vp_nar .byte x)) (pc + 1) (lv) (st)) : J l D dA own cc ws nL ini rt hh fr lo F n0 bc bs (M) (pc) (lv) (.int x :: .int i :: .ref a :: st) := by
  intro p e R s m args below meth c H locs cells slots MC MS A ad ad0 ls G hP hD hS hl hr
  obtain ⟨hx, hb, hml, hown, hts, hlk, htb, hini, hrt, hfr, hlo, hMC, hMS, hA, hK, hX, hst⟩ := id G
  refine va_bast hx hb hK hP hD hS a 0 (cA := dA 0) (jW_arr (t := 0) ha hk) rfl hi hd (fun H1 locs1 hP1 hD1 hS1 => ?_)
  have he9 : (jW ad dA M).set a (ad a, .inl (dA 0, jz M a, .inl (upd (ji M a) i.toNatClampNeg (vp_nar .byte x)))) = jW ad dA (jSi M a i.toNatClampNeg (vp_nar .byte x)) := jW_set rfl (by rw [jE_i (t := 0) (show jk (jSi M a i.toNatClampNeg (vp_nar .byte x)) a = 20 + 0 from hk) (by decide), show ji (jSi M a i.toNatClampNeg (vp_nar .byte x)) a = upd (ji M a) i.toNatClampNeg (vp_nar .byte x) from by funext j; simp [upd, ji_Si]]; rfl) (fun b hb2 => jE_si_ne hb2)
  rw [he9] at hP1 hD1
  exact k p e R s m args below meth c H1 locs1 cells slots MC MS A ad ad0 ls G hP1 hD1 hS1 hl hr
theorem J_cast {a : Nat} {i x : Int32} (hd : decode cc pc = .ok (.castore, 1)) (ha : a < jn M) (hk : jk M a = 21) (hi : vp_in i (jz M a)) (k : J l D dA own cc ws nL ini rt hh fr lo F n0 bc bs (jSi M a i.toNatClampNeg (vp_nar .char x)) (pc + 1) (lv) (st)) : J l D dA own cc ws nL ini rt hh fr lo F n0 bc bs (M) (pc) (lv) (.int x :: .int i :: .ref a :: st) := by
  intro p e R s m args below meth c H locs cells slots MC MS A ad ad0 ls G hP hD hS hl hr
  obtain ⟨hx, hb, hml, hown, hts, hlk, htb, hini, hrt, hfr, hlo, hMC, hMS, hA, hK, hX, hst⟩ := id G
  refine va_cast hx hb hK hP hD hS a 1 (cA := dA 1) (jW_arr (t := 1) ha hk) rfl hi hd (fun H1 locs1 hP1 hD1 hS1 => ?_)
  have he9 : (jW ad dA M).set a (ad a, .inl (dA 1, jz M a, .inl (upd (ji M a) i.toNatClampNeg (vp_nar .char x)))) = jW ad dA (jSi M a i.toNatClampNeg (vp_nar .char x)) := jW_set rfl (by rw [jE_i (t := 1) (show jk (jSi M a i.toNatClampNeg (vp_nar .char x)) a = 20 + 1 from hk) (by decide), show ji (jSi M a i.toNatClampNeg (vp_nar .char x)) a = upd (ji M a) i.toNatClampNeg (vp_nar .char x) from by funext j; simp [upd, ji_Si]]; rfl) (fun b hb2 => jE_si_ne hb2)
  rw [he9] at hP1 hD1
  exact k p e R s m args below meth c H1 locs1 cells slots MC MS A ad ad0 ls G hP1 hD1 hS1 hl hr
theorem J_last {a : Nat} {i : Int32} {x : Int64} (hd : decode cc pc = .ok (.lastore, 1)) (ha : a < jn M) (hk : jk M a = 25) (hi : vp_in i (jz M a)) (k : J l D dA own cc ws nL ini rt hh fr lo F n0 bc bs (jSl M a i.toNatClampNeg x) (pc + 1) (lv) (st)) : J l D dA own cc ws nL ini rt hh fr lo F n0 bc bs (M) (pc) (lv) (.long x :: .int i :: .ref a :: st) := by
  intro p e R s m args below meth c H locs cells slots MC MS A ad ad0 ls G hP hD hS hl hr
  obtain ⟨hx, hb, hml, hown, hts, hlk, htb, hini, hrt, hfr, hlo, hMC, hMS, hA, hK, hX, hst⟩ := id G
  refine va_last hx hb hK hP hD hS a 5 (cA := dA 5) (jW_arr (t := 5) ha hk) rfl hi hd (fun H1 locs1 hP1 hD1 hS1 => ?_)
  have he9 : (jW ad dA M).set a (ad a, .inl (dA 5, jz M a, .inr (.inl (vp_updL (jl M a) i.toNatClampNeg x)))) = jW ad dA (jSl M a i.toNatClampNeg x) := jW_set rfl (by rw [jE_l (show jk (jSl M a i.toNatClampNeg x) a = 25 from hk), show jl (jSl M a i.toNatClampNeg x) a = vp_updL (jl M a) i.toNatClampNeg x from by funext j; simp [vp_updL, jl_Sl]]; rfl) (fun b hb2 => jE_sl_ne hb2)
  rw [he9] at hP1 hD1
  exact k p e R s m args below meth c H1 locs1 cells slots MC MS A ad ad0 ls G hP1 hD1 hS1 hl hr
theorem J_dast {a : Nat} {i : Int32} {x : UInt64} (hd : decode cc pc = .ok (.dastore, 1)) (ha : a < jn M) (hk : jk M a = 26) (hi : vp_in i (jz M a)) (k : J l D dA own cc ws nL ini rt hh fr lo F n0 bc bs (jSd M a i.toNatClampNeg x) (pc + 1) (lv) (st)) : J l D dA own cc ws nL ini rt hh fr lo F n0 bc bs (M) (pc) (lv) (.double x :: .int i :: .ref a :: st) := by
  intro p e R s m args below meth c H locs cells slots MC MS A ad ad0 ls G hP hD hS hl hr
  obtain ⟨hx, hb, hml, hown, hts, hlk, htb, hini, hrt, hfr, hlo, hMC, hMS, hA, hK, hX, hst⟩ := id G
  refine va_dast hx hb hK hP hD hS a 6 (cA := dA 6) (jW_arr (t := 6) ha hk) rfl hi hd (fun H1 locs1 hP1 hD1 hS1 => ?_)
  have he9 : (jW ad dA M).set a (ad a, .inl (dA 6, jz M a, .inr (.inr (.inr (.inl (vf_upd (jd M a) i.toNatClampNeg x)))))) = jW ad dA (jSd M a i.toNatClampNeg x) := jW_set rfl (by rw [jE_d (show jk (jSd M a i.toNatClampNeg x) a = 26 from hk), show jd (jSd M a i.toNatClampNeg x) a = vf_upd (jd M a) i.toNatClampNeg x from by funext j; simp [vf_upd, jd_Sd]]; rfl) (fun b hb2 => jE_sd_ne hb2)
  rw [he9] at hP1 hD1
  exact k p e R s m args below meth c H1 locs1 cells slots MC MS A ad ad0 ls G hP1 hD1 hS1 hl hr
theorem J_aast3 {a : Nat} {i : Int32} {r : Option Nat} (hd : decode cc pc = .ok (.aastore, 1)) (ha : a < jn M) (hk : jk M a = 23) (hi : vp_in i (jz M a)) (hq : ∀ q, r = some q → q < jn M ∧ jk M q = 7) (k : J l D dA own cc ws nL ini rt hh fr lo F n0 bc bs (jSr M a i.toNatClampNeg r) (pc + 1) (lv) (st)) : J l D dA own cc ws nL ini rt hh fr lo F n0 bc bs (M) (pc) (lv) (va_rf r :: .int i :: .ref a :: st) := by
  intro p e R s m args below meth c H locs cells slots MC MS A ad ad0 ls G hP hD hS hl hr
  obtain ⟨hx, hb, hml, hown, hts, hlk, htb, hini, hrt, hfr, hlo, hMC, hMS, hA, hK, hX, hst⟩ := id G
  rw [List.map_cons, jv_rf]
  have he9 : (jW ad dA M).set a (ad a, .inl (dA 3, jz M a, .inr (.inr (.inr (.inr (va_up (fun j => (jr M a j).map ad) i.toNatClampNeg (r.map ad))))))) = jW ad dA (jSr M a i.toNatClampNeg r) := jW_set rfl (by rw [jE_q (t := 3) (show jk (jSr M a i.toNatClampNeg r) a = 20 + 3 from hk) (by decide) (by decide), show (fun j => (jr (jSr M a i.toNatClampNeg r) a j).map ad) = va_up (fun j => (jr M a j).map ad) i.toNatClampNeg (r.map ad) from by funext j; simp only [va_up, jr_Sr]; by_cases h : j = i.toNatClampNeg <;> simp [h]]; rfl) (fun b hb2 => jE_sr_ne hb2)
  cases r with
  | none =>
    refine va_astqN hx hb hK hP hD hS a 3 (cA := dA 3) (C := RX3) (f := fun j => (jr M a j).map ad) (jW_arr (t := 3) ha hk) rfl hi hd (fun H1 locs1 hP1 hD1 hS1 => ?_)
    have hP1 := (show va_P D vwCl ((jW ad dA M).set a (ad a, .inl (dA 3, jz M a, .inr (.inr (.inr (.inr (va_up (fun j => (jr M a j).map ad) i.toNatClampNeg ((none : Option Nat).map ad)))))))) H1 from hP1)
    have hD1 := (show va_D A ((jW ad dA M).set a (ad a, .inl (dA 3, jz M a, .inr (.inr (.inr (.inr (va_up (fun j => (jr M a j).map ad) i.toNatClampNeg ((none : Option Nat).map ad)))))))) from hD1)
    rw [he9] at hP1 hD1
    exact k p e R s m args below meth c H1 locs1 cells slots MC MS A ad ad0 ls G hP1 hD1 hS1 hl hr
  | some q =>
    obtain ⟨hq1, hq2⟩ := hq q rfl
    refine va_astq hx hb hK hP hD hS a 3 q 7 (cA := dA 3) (r := (RX3, TX3, jfn 7)) (f := fun j => (jr M a j).map ad) (jW_arr (t := 3) ha hk) rfl (jW_obj hq1 hq2 (by decide)) rfl hi hd (fun H1 locs1 hP1 hD1 hS1 => ?_)
    have hP1 := (show va_P D vwCl ((jW ad dA M).set a (ad a, .inl (dA 3, jz M a, .inr (.inr (.inr (.inr (va_up (fun j => (jr M a j).map ad) i.toNatClampNeg ((some q : Option Nat).map ad)))))))) H1 from hP1)
    have hD1 := (show va_D A ((jW ad dA M).set a (ad a, .inl (dA 3, jz M a, .inr (.inr (.inr (.inr (va_up (fun j => (jr M a j).map ad) i.toNatClampNeg ((some q : Option Nat).map ad)))))))) from hD1)
    rw [he9] at hP1 hD1
    exact k p e R s m args below meth c H1 locs1 cells slots MC MS A ad ad0 ls G hP1 hD1 hS1 hl hr
theorem J_aast4 {a : Nat} {i : Int32} {r : Option Nat} (hd : decode cc pc = .ok (.aastore, 1)) (ha : a < jn M) (hk : jk M a = 24) (hi : vp_in i (jz M a)) (hq : ∀ q, r = some q → q < jn M ∧ jk M q = 9) (k : J l D dA own cc ws nL ini rt hh fr lo F n0 bc bs (jSr M a i.toNatClampNeg r) (pc + 1) (lv) (st)) : J l D dA own cc ws nL ini rt hh fr lo F n0 bc bs (M) (pc) (lv) (va_rf r :: .int i :: .ref a :: st) := by
  intro p e R s m args below meth c H locs cells slots MC MS A ad ad0 ls G hP hD hS hl hr
  obtain ⟨hx, hb, hml, hown, hts, hlk, htb, hini, hrt, hfr, hlo, hMC, hMS, hA, hK, hX, hst⟩ := id G
  rw [List.map_cons, jv_rf]
  have he9 : (jW ad dA M).set a (ad a, .inl (dA 4, jz M a, .inr (.inr (.inr (.inr (va_up (fun j => (jr M a j).map ad) i.toNatClampNeg (r.map ad))))))) = jW ad dA (jSr M a i.toNatClampNeg r) := jW_set rfl (by rw [jE_q (t := 4) (show jk (jSr M a i.toNatClampNeg r) a = 20 + 4 from hk) (by decide) (by decide), show (fun j => (jr (jSr M a i.toNatClampNeg r) a j).map ad) = va_up (fun j => (jr M a j).map ad) i.toNatClampNeg (r.map ad) from by funext j; simp only [va_up, jr_Sr]; by_cases h : j = i.toNatClampNeg <;> simp [h]]; rfl) (fun b hb2 => jE_sr_ne hb2)
  cases r with
  | none =>
    refine va_astqN hx hb hK hP hD hS a 4 (cA := dA 4) (C := RX5) (f := fun j => (jr M a j).map ad) (jW_arr (t := 4) ha hk) rfl hi hd (fun H1 locs1 hP1 hD1 hS1 => ?_)
    have hP1 := (show va_P D vwCl ((jW ad dA M).set a (ad a, .inl (dA 4, jz M a, .inr (.inr (.inr (.inr (va_up (fun j => (jr M a j).map ad) i.toNatClampNeg ((none : Option Nat).map ad)))))))) H1 from hP1)
    have hD1 := (show va_D A ((jW ad dA M).set a (ad a, .inl (dA 4, jz M a, .inr (.inr (.inr (.inr (va_up (fun j => (jr M a j).map ad) i.toNatClampNeg ((none : Option Nat).map ad)))))))) from hD1)
    rw [he9] at hP1 hD1
    exact k p e R s m args below meth c H1 locs1 cells slots MC MS A ad ad0 ls G hP1 hD1 hS1 hl hr
  | some q =>
    obtain ⟨hq1, hq2⟩ := hq q rfl
    refine va_astq hx hb hK hP hD hS a 4 q 9 (cA := dA 4) (r := (RX5, TX5, jfn 9)) (f := fun j => (jr M a j).map ad) (jW_arr (t := 4) ha hk) rfl (jW_obj hq1 hq2 (by decide)) rfl hi hd (fun H1 locs1 hP1 hD1 hS1 => ?_)
    have hP1 := (show va_P D vwCl ((jW ad dA M).set a (ad a, .inl (dA 4, jz M a, .inr (.inr (.inr (.inr (va_up (fun j => (jr M a j).map ad) i.toNatClampNeg ((some q : Option Nat).map ad)))))))) H1 from hP1)
    have hD1 := (show va_D A ((jW ad dA M).set a (ad a, .inl (dA 4, jz M a, .inr (.inr (.inr (.inr (va_up (fun j => (jr M a j).map ad) i.toNatClampNeg ((some q : Option Nat).map ad)))))))) from hD1)
    rw [he9] at hP1 hD1
    exact k p e R s m args below meth c H1 locs1 cells slots MC MS A ad ad0 ls G hP1 hD1 hS1 hl hr
theorem J_alen {a t : Nat} {ty : FieldType} (hd : decode cc pc = .ok (.arraylength, 1)) (ha : a < jn M) (hk : jk M a = 20 + t) (ht : (jT dA)[t]? = some (dA t, ty)) (k : J l D dA own cc ws nL ini rt hh fr lo F n0 bc bs (M) (pc + 1) (lv) (.int (nI (jz M a)) :: st)) : J l D dA own cc ws nL ini rt hh fr lo F n0 bc bs (M) (pc) (lv) (.ref a :: st) := by
  intro p e R s m args below meth c H locs cells slots MC MS A ad ad0 ls G hP hD hS hl hr
  obtain ⟨hx, hb, hml, hown, hts, hlk, htb, hini, hrt, hfr, hlo, hMC, hMS, hA, hK, hX, hst⟩ := id G
  exact va_alen hx hb hK hP a t (cA := dA t) (jW_arr (t := t) ha hk) ht rfl hd (k p e R s m args below meth c H locs cells slots MC MS A ad ad0 ls G hP hD hS hl hr)
theorem jW_push {ad : Nat → Nat} {q : Nat} {e : va_E} {kd len : Nat} (hcl : jCl M) (he : jE (va_up ad (jn M) q) dA (jNw M kd len) (jn M) = e) : jW ad dA M ++ [(q, e)] = jW (va_up ad (jn M) q) dA (jNw M kd len) := by
  have ha : jAg (jn M) ad (va_up ad (jn M) q) := fun i hi => va_up_ne _ _ (Nat.ne_of_lt hi)
  apply List.ext_getElem?
  intro i
  rcases Nat.lt_trichotomy i (jn M) with h | h | h
  · rw [List.getElem?_append_left (by rw [jW_len]; exact h), jW_at h, jW_at (show i < jn (jNw M kd len) from Nat.lt_succ_of_lt h), ha i h]
    congr 2
    rw [← jE_ad hcl ha h]
    have hne : i ≠ jn M := Nat.ne_of_lt h
    exact (jE_congr (by simp [jk_Nw, hne]) (by simp [jz_Nw, hne]) (by funext j; simp [ji_Nw, hne]) (by funext j; simp [jr_Nw, hne]) (by funext j; simp [jl_Nw, hne]) (by funext j; simp [jd_Nw, hne])).symm
  · subst h
    rw [List.getElem?_append_right (by rw [jW_len]; exact Nat.le_refl _), jW_len, Nat.sub_self, jW_at (show jn M < jn (jNw M kd len) from Nat.lt_succ_self _), va_up_self, he]
    rfl
  · rw [List.getElem?_eq_none (by simp [jW_len]; omega), List.getElem?_eq_none (by rw [jW_len]; show jn M + 1 ≤ i; omega)]
theorem jR_new {ad0 ad : Nat → Nat} {cells slots MC MS q kd len n : Nat} (h : jR n0 ad0 ad M cells slots bc bs MC MS) (h1 : 1 ≤ bc) (h2 : n ≤ bs) : jR n0 ad0 (va_up ad (jn M) q) (jNw M kd len) (cells + 1) (slots + n) (bc - 1) (bs - n) MC MS :=
  ⟨fun i hi => (va_up_ne _ _ (Nat.ne_of_lt (Nat.lt_of_lt_of_le hi h.2.1))).trans (h.1 i hi), Nat.le_succ_of_le h.2.1, by have := h.2.2.1; omega, by have := h.2.2.2.1; omega, Or.inr (Nat.lt_succ_of_le h.2.1)⟩

theorem J_new {ci idx : Nat} {C : String} {T : u_T} {N : Nat} {ty : Nat → FieldType} (hd : decode cc pc = .ok (.new idx, 3)) (hin : ∀ w ∈ u_ws C T N, w ∈ ws) (hc : jCs ci C T N) (hty : jTy ci T N ty) (hw : Cond.classLink own idx C ∈ ws) (hw2 : Cond.instantiable C N ∈ ws) (hw3 : Cond.initialized C ∈ ws) (h1 : 1 ≤ bc) (h2 : N ≤ bs) (hcl : jCl M) (hlv : jOk (jn M) lv) (hst2 : jOk (jn M) st) (k : J l D dA own cc ws nL ini rt hh fr lo F n0 (bc - 1) (bs - N) (jNw M ci 0) (pc + 3) (lv) (.ref (jn M) :: st)) : J l D dA own cc ws nL ini rt hh fr lo F n0 bc bs (M) (pc) (lv) (st) := by
  intro p e R s m args below meth c H locs cells slots MC MS A ad ad0 ls G hP hD hS hl hr
  obtain ⟨hx, hb, hml, hown, hts, hlk, htb, hini, hrt, hfr, hlo, hMC, hMS, hA, hK, hX, hst⟩ := id G
  refine va_new (ci := ci) (fs := (List.range N).map (fun j => if jfr ci j then Value.null else .int 0)) hx hb hts hin ty hty.1 hown (hts _ hw) (hts _ hw2) (hts _ hw3) hK hP hD hS hA hc.1 (fun j hj => ?_) (by have := hr.2.2.1; omega) (by have := hr.2.2.2.1; omega) hd (fun q H1 hP1 hD1 hS1 => ?_)
  · rw [hty.2 j hj]
    simp [vp_V, hj]
  · have he9 : jE (va_up ad (jn M) q) dA (jNw M ci 0) (jn M) = .inr (ci, (List.range N).map (fun j => if jfr ci j then Value.null else .int 0)) := by
      rw [jE_obj (show jk (jNw M ci 0) (jn M) = ci by simp [jk_Nw]) hc.2.2.1]
      congr 2
      rw [jfs, hc.2.1]
      apply List.map_congr_left
      intro j _
      simp [jfv, ji_Nw, jr_Nw, va_rf]
    rw [jW_push hcl he9] at hP1 hD1
    have hk2 := k p e R s m args below meth c H1 locs (cells + 1) (slots + N) MC MS A (va_up ad (jn M) q) ad0 ls G hP1 hD1 hS1 (hl.ag (fun i hi => va_up_ne _ _ (Nat.ne_of_lt hi)) hlv) (jR_new hr h1 h2)
    have em : st.map (jv dA (va_up ad (jn M) q)) = st.map (jv dA ad) := jmap_ag (fun i hi => va_up_ne _ _ (Nat.ne_of_lt hi)) hst2
    rw [List.map_cons, em] at hk2
    have e3 : jv dA (va_up ad (jn M) q) (.ref (jn M)) = .ref q := congrArg Value.ref (va_up_self _ _ _)
    rw [e3] at hk2
    exact hk2
theorem jT_uniq {s : State} {t : Nat} {cA : ClassId} {ty : FieldType} (hK : va_K D vwCl (jT dA) s) (ht : (jT dA)[t]? = some (dA t, ty)) (h : va_K D vwCl (jT dA ++ [(cA, ty)]) s) : cA = dA t := by
  have h1 := (hK.2 t _ ht).2
  have h2 := (h.2 (jT dA).length (cA, ty) (by simp)).2
  cases ty with
  | object C =>
    obtain ⟨_, _, _, _, _, a1⟩ := h1
    obtain ⟨_, _, _, _, _, a2⟩ := h2
    exact Option.some.inj (a2.symm.trans a1)
  | _ => exact Option.some.inj (h2.symm.trans h1)

theorem J_newa {t N' : Nat} {atype : ArrayType} {n : Int32} (hd : decode cc pc = .ok (.newarray atype, 2)) (ht3 : t < 3) (ht : (jT dA)[t]? = some (dA t, newarray.typeOf atype)) (hdf : defaultValue (newarray.typeOf atype) = .int 0) (hw : Cond.arrayClass (newarray.typeOf atype) ∈ ws) (hn : ¬ n < 0) (hN : n.toNatClampNeg = N') (hB : N' * componentBytes (newarray.typeOf atype) ≤ 536870912) (h1 : 1 ≤ bc) (h2 : N' ≤ bs) (hcl : jCl M) (hlv : jOk (jn M) lv) (hst2 : jOk (jn M) st) (k : J l D dA own cc ws nL ini rt hh fr lo F n0 (bc - 1) (bs - N') (jNw M (20 + t) N') (pc + 2) (lv) (.ref (jn M) :: st)) : J l D dA own cc ws nL ini rt hh fr lo F n0 bc bs (M) (pc) (lv) (.int n :: st) := by
  intro p e R s m args below meth c H locs cells slots MC MS A ad ad0 ls G hP hD hS hl hr
  obtain ⟨hx, hb, hml, hown, hts, hlk, htb, hini, hrt, hfr, hlo, hMC, hMS, hA, hK, hX, hst⟩ := id G
  refine va_newa (atype := atype) (a0 := (N', .inl (fun _ => 0))) hx hb (hts _ hw) rfl hK hP hD hS hA (fun cA => by rw [hdf]; rfl) hn hN hB (by have := hr.2.2.1; omega) (by have := hr.2.2.2.1; omega) hd (fun q cA H1 hK1 hP1 hD1 hS1 => ?_)
  have hcA := jT_uniq hK ht hK1
  subst hcA
  have he9 : jE (va_up ad (jn M) q) dA (jNw M (20 + t) N') (jn M) = .inl (dA t, (N', .inl (fun _ => 0))) := by
    rw [jE_arr (t := t) (show jk (jNw M (20 + t) N') (jn M) = 20 + t by simp [jk_Nw])]
    have e1 : ji (jNw M (20 + t) N') (jn M) = fun _ => 0 := by funext j; simp [ji_Nw]
    simp [jC, ht3, jz_Nw, e1]
  rw [jW_push hcl he9] at hP1 hD1
  have hk2 := k p e R s m args below meth c H1 locs (cells + 1) (slots + N') MC MS A (va_up ad (jn M) q) ad0 ls G hP1 hD1 hS1 (hl.ag (fun i hi => va_up_ne _ _ (Nat.ne_of_lt hi)) hlv) (jR_new hr h1 h2)
  have em : st.map (jv dA (va_up ad (jn M) q)) = st.map (jv dA ad) := jmap_ag (fun i hi => va_up_ne _ _ (Nat.ne_of_lt hi)) hst2
  rw [List.map_cons, em] at hk2
  have e3 : jv dA (va_up ad (jn M) q) (.ref (jn M)) = .ref q := congrArg Value.ref (va_up_self _ _ _)
  rw [e3] at hk2
  exact hk2
theorem J_newl {N' : Nat} {n : Int32} (hd : decode cc pc = .ok (.newarray .long, 2)) (hw : Cond.arrayClass (newarray.typeOf .long) ∈ ws) (hn : ¬ n < 0) (hN : n.toNatClampNeg = N') (hB : N' * componentBytes (newarray.typeOf .long) ≤ 536870912) (h1 : 1 ≤ bc) (h2 : N' ≤ bs) (hcl : jCl M) (hlv : jOk (jn M) lv) (hst2 : jOk (jn M) st) (k : J l D dA own cc ws nL ini rt hh fr lo F n0 (bc - 1) (bs - N') (jNw M 25 N') (pc + 2) (lv) (.ref (jn M) :: st)) : J l D dA own cc ws nL ini rt hh fr lo F n0 bc bs (M) (pc) (lv) (.int n :: st) := by
  intro p e R s m args below meth c H locs cells slots MC MS A ad ad0 ls G hP hD hS hl hr
  obtain ⟨hx, hb, hml, hown, hts, hlk, htb, hini, hrt, hfr, hlo, hMC, hMS, hA, hK, hX, hst⟩ := id G
  refine va_newa (atype := .long) (a0 := (N', .inr (.inl (fun _ => 0)))) hx hb (hts _ hw) rfl hK hP hD hS hA (fun cA => rfl) hn hN hB (by have := hr.2.2.1; omega) (by have := hr.2.2.2.1; omega) hd (fun q cA H1 hK1 hP1 hD1 hS1 => ?_)
  have hcA := jT_uniq (t := 5) hK rfl hK1
  subst hcA
  have he9 : jE (va_up ad (jn M) q) dA (jNw M 25 N') (jn M) = .inl (dA 5, (N', .inr (.inl (fun _ => 0)))) := by
    rw [jE_arr (t := 5) (show jk (jNw M 25 N') (jn M) = 20 + 5 by simp [jk_Nw])]
    have e1 : jl (jNw M 25 N') (jn M) = fun _ => 0 := by funext j; simp [jl_Nw]
    simp [jC, jz_Nw, e1]
  rw [jW_push hcl he9] at hP1 hD1
  have hk2 := k p e R s m args below meth c H1 locs (cells + 1) (slots + N') MC MS A (va_up ad (jn M) q) ad0 ls G hP1 hD1 hS1 (hl.ag (fun i hi => va_up_ne _ _ (Nat.ne_of_lt hi)) hlv) (jR_new hr h1 h2)
  have em : st.map (jv dA (va_up ad (jn M) q)) = st.map (jv dA ad) := jmap_ag (fun i hi => va_up_ne _ _ (Nat.ne_of_lt hi)) hst2
  rw [List.map_cons, em] at hk2
  have e3 : jv dA (va_up ad (jn M) q) (.ref (jn M)) = .ref q := congrArg Value.ref (va_up_self _ _ _)
  rw [e3] at hk2
  exact hk2
theorem J_newd {N' : Nat} {n : Int32} (hd : decode cc pc = .ok (.newarray .double, 2)) (hw : Cond.arrayClass (newarray.typeOf .double) ∈ ws) (hn : ¬ n < 0) (hN : n.toNatClampNeg = N') (hB : N' * componentBytes (newarray.typeOf .double) ≤ 536870912) (h1 : 1 ≤ bc) (h2 : N' ≤ bs) (hcl : jCl M) (hlv : jOk (jn M) lv) (hst2 : jOk (jn M) st) (k : J l D dA own cc ws nL ini rt hh fr lo F n0 (bc - 1) (bs - N') (jNw M 26 N') (pc + 2) (lv) (.ref (jn M) :: st)) : J l D dA own cc ws nL ini rt hh fr lo F n0 bc bs (M) (pc) (lv) (.int n :: st) := by
  intro p e R s m args below meth c H locs cells slots MC MS A ad ad0 ls G hP hD hS hl hr
  obtain ⟨hx, hb, hml, hown, hts, hlk, htb, hini, hrt, hfr, hlo, hMC, hMS, hA, hK, hX, hst⟩ := id G
  refine va_newa (atype := .double) (a0 := (N', .inr (.inr (.inr (.inl (fun _ => 0)))))) hx hb (hts _ hw) rfl hK hP hD hS hA (fun cA => rfl) hn hN hB (by have := hr.2.2.1; omega) (by have := hr.2.2.2.1; omega) hd (fun q cA H1 hK1 hP1 hD1 hS1 => ?_)
  have hcA := jT_uniq (t := 6) hK rfl hK1
  subst hcA
  have he9 : jE (va_up ad (jn M) q) dA (jNw M 26 N') (jn M) = .inl (dA 6, (N', .inr (.inr (.inr (.inl (fun _ => 0)))))) := by
    rw [jE_arr (t := 6) (show jk (jNw M 26 N') (jn M) = 20 + 6 by simp [jk_Nw])]
    have e1 : jd (jNw M 26 N') (jn M) = fun _ => 0 := by funext j; simp [jd_Nw]
    simp [jC, jz_Nw, e1]
  rw [jW_push hcl he9] at hP1 hD1
  have hk2 := k p e R s m args below meth c H1 locs (cells + 1) (slots + N') MC MS A (va_up ad (jn M) q) ad0 ls G hP1 hD1 hS1 (hl.ag (fun i hi => va_up_ne _ _ (Nat.ne_of_lt hi)) hlv) (jR_new hr h1 h2)
  have em : st.map (jv dA (va_up ad (jn M) q)) = st.map (jv dA ad) := jmap_ag (fun i hi => va_up_ne _ _ (Nat.ne_of_lt hi)) hst2
  rw [List.map_cons, em] at hk2
  have e3 : jv dA (va_up ad (jn M) q) (.ref (jn M)) = .ref q := congrArg Value.ref (va_up_self _ _ _)
  rw [e3] at hk2
  exact hk2
theorem J_newq3 {idx N' : Nat} {n : Int32} (hd : decode cc pc = .ok (.anewarray idx, 3)) (hw : Cond.classLink own idx RX3 ∈ ws) (hn : ¬ n < 0) (hN : n.toNatClampNeg = N') (hB : N' * 4 ≤ 536870912) (h1 : 1 ≤ bc) (h2 : N' ≤ bs) (hcl : jCl M) (hlv : jOk (jn M) lv) (hst2 : jOk (jn M) st) (k : J l D dA own cc ws nL ini rt hh fr lo F n0 (bc - 1) (bs - N') (jNw M 23 N') (pc + 3) (lv) (.ref (jn M) :: st)) : J l D dA own cc ws nL ini rt hh fr lo F n0 bc bs (M) (pc) (lv) (.int n :: st) := by
  intro p e R s m args below meth c H locs cells slots MC MS A ad ad0 ls G hP hD hS hl hr
  obtain ⟨hx, hb, hml, hown, hts, hlk, htb, hini, hrt, hfr, hlo, hMC, hMS, hA, hK, hX, hst⟩ := id G
  refine va_newq (C := RX3) hx hb hown (hts _ hw) hX.2.1 hK hP hD hS hA hn hN hB (by have := hr.2.2.1; omega) (by have := hr.2.2.2.1; omega) hd (fun q cA H1 hK1 hP1 hD1 hS1 => ?_)
  have hcA := jT_uniq (t := 3) hK rfl hK1
  subst hcA
  have he9 : jE (va_up ad (jn M) q) dA (jNw M 23 N') (jn M) = .inl (dA 3, (N', .inr (.inr (.inr (.inr (fun _ => none)))))) := by
    rw [jE_arr (t := 3) (show jk (jNw M 23 N') (jn M) = 20 + 3 by simp [jk_Nw])]
    simp [jC, jz_Nw, jr_Nw]
  rw [jW_push hcl he9] at hP1 hD1
  have hk2 := k p e R s m args below meth c H1 locs (cells + 1) (slots + N') MC MS A (va_up ad (jn M) q) ad0 ls G hP1 hD1 hS1 (hl.ag (fun i hi => va_up_ne _ _ (Nat.ne_of_lt hi)) hlv) (jR_new hr h1 h2)
  have em : st.map (jv dA (va_up ad (jn M) q)) = st.map (jv dA ad) := jmap_ag (fun i hi => va_up_ne _ _ (Nat.ne_of_lt hi)) hst2
  rw [List.map_cons, em] at hk2
  have e3 : jv dA (va_up ad (jn M) q) (.ref (jn M)) = .ref q := congrArg Value.ref (va_up_self _ _ _)
  rw [e3] at hk2
  exact hk2
theorem J_newq4 {idx N' : Nat} {n : Int32} (hd : decode cc pc = .ok (.anewarray idx, 3)) (hw : Cond.classLink own idx RX5 ∈ ws) (hn : ¬ n < 0) (hN : n.toNatClampNeg = N') (hB : N' * 4 ≤ 536870912) (h1 : 1 ≤ bc) (h2 : N' ≤ bs) (hcl : jCl M) (hlv : jOk (jn M) lv) (hst2 : jOk (jn M) st) (k : J l D dA own cc ws nL ini rt hh fr lo F n0 (bc - 1) (bs - N') (jNw M 24 N') (pc + 3) (lv) (.ref (jn M) :: st)) : J l D dA own cc ws nL ini rt hh fr lo F n0 bc bs (M) (pc) (lv) (.int n :: st) := by
  intro p e R s m args below meth c H locs cells slots MC MS A ad ad0 ls G hP hD hS hl hr
  obtain ⟨hx, hb, hml, hown, hts, hlk, htb, hini, hrt, hfr, hlo, hMC, hMS, hA, hK, hX, hst⟩ := id G
  refine va_newq (C := RX5) hx hb hown (hts _ hw) hX.2.2.1 hK hP hD hS hA hn hN hB (by have := hr.2.2.1; omega) (by have := hr.2.2.2.1; omega) hd (fun q cA H1 hK1 hP1 hD1 hS1 => ?_)
  have hcA := jT_uniq (t := 4) hK rfl hK1
  subst hcA
  have he9 : jE (va_up ad (jn M) q) dA (jNw M 24 N') (jn M) = .inl (dA 4, (N', .inr (.inr (.inr (.inr (fun _ => none)))))) := by
    rw [jE_arr (t := 4) (show jk (jNw M 24 N') (jn M) = 20 + 4 by simp [jk_Nw])]
    simp [jC, jz_Nw, jr_Nw]
  rw [jW_push hcl he9] at hP1 hD1
  have hk2 := k p e R s m args below meth c H1 locs (cells + 1) (slots + N') MC MS A (va_up ad (jn M) q) ad0 ls G hP1 hD1 hS1 (hl.ag (fun i hi => va_up_ne _ _ (Nat.ne_of_lt hi)) hlv) (jR_new hr h1 h2)
  have em : st.map (jv dA (va_up ad (jn M) q)) = st.map (jv dA ad) := jmap_ag (fun i hi => va_up_ne _ _ (Nat.ne_of_lt hi)) hst2
  rw [List.map_cons, em] at hk2
  have e3 : jv dA (va_up ad (jn M) q) (.ref (jn M)) = .ref q := congrArg Value.ref (va_up_self _ _ _)
  rw [e3] at hk2
  exact hk2
end Heap
section Ends
variable {l : Launch} {D : va_G} {dA : Nat → ClassId} {own : String} {cc : ByteArray} {ws : List Cond} {nL : Nat} {ini : Bool} {rt : Option FieldType} {hh : List (Nat × Nat × Nat × Nat)} {fr lo : Nat} {F : jFin} {n0 bc bs : Nat} {M : jM} {pc : Nat} {lv st : List Value} {P : jP}
theorem J_iret {ty : FieldType} {x : Int32} (hd : decode cc pc = .ok (.ireturn, 1)) (ht0 : rt = some ty) (hn : narrow ty (.int x) = .int x) (hp : P (.inl (some (.int x))) M) : J l D dA own cc ws nL ini rt hh fr lo (jF D dA n0 P 1) n0 bc bs (M) (pc) (lv) ([.int x]) := by
  intro p e R s m args below meth c H locs cells slots MC MS A ad ad0 ls G hP hD hS hl hr
  obtain ⟨hx, hb, hml, hown, hts, hlk, htb, hini, hrt, hfr, hlo, hMC, hMS, hA, hK, hX, hst⟩ := id G
  have hc2 : cells ≤ MC := by have := hr.2.2.1; omega
  have hs2 : slots ≤ MS := by have := hr.2.2.2.1; omega
  refine W.widen hc2 hs2 (vx_ret (W.zret hx hb (hrt.trans ht0) hn (fun t ht hW => ?_) hS.2.2 hd hlk))
  exact ⟨⟨x, (M, ad), rfl, hp, ⟨by rw [ht]; exact hP, hD, va_K.moved hW.alike hK, hr.1, hr.2.1, hr.2.2.2.2⟩⟩, hS.F ht⟩
theorem J_vret (hd : decode cc pc = .ok (.return_, 1)) (ht0 : rt = none) (hp : P (.inl none) M) : J l D dA own cc ws nL ini rt hh fr lo (jF D dA n0 P 0) n0 bc bs (M) (pc) (lv) ([]) := by
  intro p e R s m args below meth c H locs cells slots MC MS A ad ad0 ls G hP hD hS hl hr
  obtain ⟨hx, hb, hml, hown, hts, hlk, htb, hini, hrt, hfr, hlo, hMC, hMS, hA, hK, hX, hst⟩ := id G
  have hc2 : cells ≤ MC := by have := hr.2.2.1; omega
  have hs2 : slots ≤ MS := by have := hr.2.2.2.1; omega
  refine W.widen hc2 hs2 (vx_ret (W.vret hx hb (hrt.trans ht0) (fun t ht hW => ?_) hS.2.2 hd hlk))
  exact ⟨⟨(M, ad), rfl, hp, ⟨by rw [ht]; exact hP, hD, va_K.moved hW.alike hK, hr.1, hr.2.1, hr.2.2.2.2⟩⟩, hS.F ht⟩
theorem J_aret {ty : FieldType} {r : Option Nat} (hd : decode cc pc = .ok (.areturn, 1)) (ht0 : rt = some ty) (ht1 : (∃ n, ty = .object n) ∨ ∃ t, ty = .array t) (hp : P (.inl (some (va_rf r))) M) : J l D dA own cc ws nL ini rt hh fr lo (jF D dA n0 P 2) n0 bc bs (M) (pc) (lv) ([va_rf r]) := by
  intro p e R s m args below meth c H locs cells slots MC MS A ad ad0 ls G hP hD hS hl hr
  obtain ⟨hx, hb, hml, hown, hts, hlk, htb, hini, hrt, hfr, hlo, hMC, hMS, hA, hK, hX, hst⟩ := id G
  have hc2 : cells ≤ MC := by have := hr.2.2.1; omega
  have hs2 : slots ≤ MS := by have := hr.2.2.2.1; omega
  rw [List.map_cons, jv_rf]
  refine W.widen hc2 hs2 (vx_ret (W.aret hx hb (hrt.trans ht0) ht1 (by cases r <;> simp [va_rf]) (fun t ht hW => ?_) hS.2.2 hd hlk))
  exact ⟨⟨r.map ad, (M, ad), rfl, ⟨r, rfl, hp⟩, ⟨by rw [ht]; exact hP, hD, va_K.moved hW.alike hK, hr.1, hr.2.1, hr.2.2.2.2⟩⟩, hS.F ht⟩
theorem J_dret {x : UInt64} (hd : decode cc pc = .ok (.dreturn, 1)) (ht0 : rt = some .double) (hp : P (.inl (some (.double x))) M) : J l D dA own cc ws nL ini rt hh fr lo (jF D dA n0 P 3) n0 bc bs (M) (pc) (lv) ([.double x]) := by
  intro p e R s m args below meth c H locs cells slots MC MS A ad ad0 ls G hP hD hS hl hr
  obtain ⟨hx, hb, hml, hown, hts, hlk, htb, hini, hrt, hfr, hlo, hMC, hMS, hA, hK, hX, hst⟩ := id G
  have hc2 : cells ≤ MC := by have := hr.2.2.1; omega
  have hs2 : slots ≤ MS := by have := hr.2.2.2.1; omega
  refine W.widen hc2 hs2 (vx_ret (W.dret hx hb (hrt.trans ht0) (fun t ht hW => ?_) hS.2.2 hd hlk))
  exact ⟨⟨x, (M, ad), rfl, hp, ⟨by rw [ht]; exact hP, hD, va_K.moved hW.alike hK, hr.1, hr.2.1, hr.2.2.2.2⟩⟩, hS.F ht⟩
/-- the judgement of a frame through which an exception of class E goes -/
def JX (l : Launch) (D : va_G) (dA : Nat → ClassId) (own : String) (cc : ByteArray) (ws : List Cond) (nL : Nat) (ini : Bool) (rt : Option FieldType) (hh : List (Nat × Nat × Nat × Nat)) (fr lo : Nat) (F : jFin) (n0 bc bs : Nat) (E : String) (M : jM) (pc : Nat) (lv st : List Value) : Prop :=
  ∀ (p : Program) (e : Env) (R : Room) (s : State) (m : MethodId) (args : Array Value) (below : List Frame) (meth : Method) (c : Code) (H : Heap) (locs : List Loc) (cells slots MC MS : Nat) (A : Nat → Prop) (ad ad0 : Nat → Nat) (ls : Array Slot) (q9 : Addr) (ce : Cell),
    jG l D dA own cc ws nL ini rt hh fr lo p R s m args meth c A MC MS → va_P D vwCl (jW ad dA M) H → va_D A (jW ad dA M) → va_S A s.heap H locs → jLs dA ls nL ad lv → jR n0 ad0 ad M cells slots bc bs MC MS → H[q9]? = some ce → ce.vm = .none → s.vm.findClass E = some ce.cls →
    vx_W p l e R s m args below meth c H locs cells slots (F below args s A ad0 MC MS) (F0 m pc ls (st.map (jv dA ad))) q9
theorem JX_out {k : Nat} {E : String} (hh0 : hh = []) (hp : P (.inr E) M) : JX l D dA own cc ws nL ini rt hh fr lo (jF D dA n0 P k) n0 bc bs E M pc lv st := by
  intro p e R s m args below meth c H locs cells slots MC MS A ad ad0 ls q9 ce G hP hD hS hl hr h1 h2 h3
  obtain ⟨hx, hb, hml, hown, hts, hlk, htb, hini, hrt, hfr, hlo, hMC, hMS, hA, hK, hX, hst⟩ := id G
  subst hh0
  refine vx_out (fun x hx2 => ?_) hlk h1 h2 h3 (fun t ht hv => ?_) hS.2.2 (by have := hr.2.2.1; omega) (by have := hr.2.2.2.1; omega)
  · rw [htb] at hx2
    cases hx2
  · exact ⟨(M, ad), trivial, ⟨hp, by rw [ht]; exact hP, hD, va_K.moved hv hK, hr.1, hr.2.1, hr.2.2.2.2⟩, hS.F ht⟩
/-- a call, as J sees it -/
def jRun (l : Launch) (D : va_G) (dA : Nat → ClassId) (own : String) (cc : ByteArray) (ws : List Cond) (nL : Nat) (ini : Bool) (rt : Option FieldType) (hh : List (Nat × Nat × Nat × Nat)) (fr lo : Nat) (n0 bc bs mc ms k : Nat) (Pc : jP) (M : jM) (pc : Nat) (lv st0 st : List Value) : Prop :=
  ∀ (p : Program) (e : Env) (R : Room) (s : State) (m : MethodId) (args : Array Value) (below : List Frame) (meth : Method) (c : Code) (H : Heap) (locs : List Loc) (cells slots MC MS : Nat) (A : Nat → Prop) (ad ad0 : Nat → Nat) (ls : Array Slot),
    jG l D dA own cc ws nL ini rt hh fr lo p R s m args meth c A MC MS → va_P D vwCl (jW ad dA M) H → va_D A (jW ad dA M) → va_S A s.heap H locs → jLs dA ls nL ad lv → jR n0 ad0 ad M cells slots bc bs MC MS →
    ∃ a : Array Value, vx_Run p l e R s m args below meth c H locs cells slots mc ms (F0 m pc ls (st0.map (jv dA ad))) (st.map (jv dA ad)) (jQ D dA A (jn M) ad Pc k a) (jXq D dA A (jn M) ad Pc) A
theorem jPre_blind {A : Nat → Prop} {ad : Nat → Nat} {av : List Value} : FrameBlind (va_Pc av (jPre D dA A ad M)) := by
  intro a U g mk q
  obtain ⟨h0, h1, h2, h3, h4, h5⟩ := q
  exact ⟨h0, h1, h2, va_K.moved (u := U) (U := U.calling g mk a) (Vm.Alike.refl U.vm) h3, jX.same (s := U) (U := U.calling g mk a) rfl rfl h4, h5⟩
theorem jPre_go {A : Nat → Prop} {ad : Nat → Nat} {s U : State} {H : Heap} {locs : List Loc} (hA : ∀ q, s.heap.size ≤ q → A q) (hK : va_K D vwCl (jT dA) s) (hX : jX dA A s s.heap) (hP : va_P D vwCl (jW ad dA M) H) (hD : va_D A (jW ad dA M)) (hS : va_S A s.heap H locs) (hU : U.heap = H) (hW : s.WarmedH U.vm) : jPre D dA A ad M U :=
  ⟨by rw [hU]; exact hP, hD, va_K.moved hW.alike hK, jX.go hW (fun a h1 h2 => by rw [hU]; exact hS.2.1 a h1 h2) hX, fun q hq => hA q (Nat.le_trans hS.1 (by rw [← hU]; exact hq))⟩
/-- what a callee's name says -/
def jY (y : MethodName) (wy : List Cond) (bytes : ByteArray) (maxL : Nat) (ret : Option FieldType) (n : Nat) : Prop := (∃ w', wy = Cond.code y bytes maxL ret :: w') ∧ y.cls ≠ "java/lang/invoke/MethodHandle" ∧ y.cls ≠ "java/lang/invoke/VarHandle" ∧ (parseMethodDescriptor y.desc).map (fun d => d.parameters.length) = some n
theorem jStk {ad : Nat → Nat} {st0 As : List Value} {o : Value} (hs : st0 = As.reverse ++ o :: st) : st0.map (jv dA ad) = (As.map (jv dA ad)).reverse ++ jv dA ad o :: st.map (jv dA ad) := by rw [hs]; simp
theorem jStk0 {ad : Nat → Nat} {st0 As : List Value} (hs : st0 = As.reverse ++ st) : st0.map (jv dA ad) = (As.map (jv dA ad)).reverse ++ st.map (jv dA ad) := by rw [hs]; simp
theorem jCat {ad : Nat → Nat} (h : st.length ≤ 4) : ((st.map (jv dA ad)).map fun v => v.category).sum ≤ 8 := by
  have h2 : ∀ l : List Value, (l.map fun v => v.category).sum ≤ 2 * l.length := by
    intro l
    induction l with
    | nil => exact Nat.le_refl _
    | cons a l ih =>
      have : a.category ≤ 2 := by cases a <;> simp [Value.category]
      simp only [List.map_cons, List.sum_cons, List.length_cons]
      omega
  have := h2 (st.map (jv dA ad))
  rw [List.length_map] at this
  omega
theorem jRoom {m : MethodId} {ls : Array Slot} {st9 : List Value} {ad : Nat → Nat} (h : st.length ≤ 4) : 2 * (F0 m pc ls st9).monitorRoom + ((st.map (jv dA ad)).map fun v => v.category).sum ≤ 8 := lv_room (jCat h)
theorem jrunV {y : MethodName} {wy : List Cond} {bytes : ByteArray} {maxL n idx mc ms k fr' lo' : Nat} {ret : Option FieldType} {Pc : jP} {As st0 : List Value} {ci a : Nat} {C : String} {T : u_T} {N : Nat} (hct : jCT l D dA y wy fr' lo' mc ms k (.ref a :: As) M Pc) (hd : decode cc pc = .ok (.invokevirtual idx, 3)) (hY : jY y wy bytes maxL ret n) (hG : GoodIn ws (wsV own idx C y wy)) (hyC : y.cls = C) (hc : jCs ci C T N) (ha : a < jn M) (hk : jk M a = ci) (hs : st0 = As.reverse ++ .ref a :: st) (hR : fr' + 1 ≤ fr ∧ 8 + (maxL + 11) + lo' ≤ lo) (hb2 : mc ≤ bc ∧ ms ≤ bs) (hlen : As.length = n) (hst4 : st.length ≤ 4)  : jRun l D dA own cc ws nL ini rt hh fr lo n0 bc bs mc ms k Pc M pc lv st0 st := by
  intro p e R s m args below meth c H locs cells slots MC MS A ad ad0 ls G hP hD hS hl hr
  obtain ⟨hx, hb, hml, hown, hts, hlk, htb, hini, hrt, hfr, hlo, hMC, hMS, hA, hK, hX, hst⟩ := id G
  obtain ⟨⟨w', hw⟩, hy1, hy2, hy3⟩ := hY
  have hRR : fr' + 1 ≤ R.frames ∧ 8 + (maxL + 11) + lo' ≤ R.locals := ⟨Nat.le_trans hR.1 hfr, Nat.le_trans hR.2 hlo⟩
  have hff : cells + mc ≤ R.cells ∧ slots + ms ≤ R.slots := ⟨by have := hr.2.2.1; omega, by have := hr.2.2.2.1; omega⟩
  rw [jStk hs]
  exact ⟨_, vx_runV ⟨hx, hb, hml, hown, hts⟩ (hct A ad) (cwV n hts hG hw rfl rfl ⟨hyC, hy1, hy2, hy3⟩ hRR) ⟨jPre_blind, va_recv hK hP hc.1 (jW_obj ha hk hc.2.2.1), fun U hU hW => ⟨rfl, jPre_go hA hK hX hP hD hS hU hW⟩⟩ rfl (by rw [List.length_map]; exact hlen) hl.1 rfl (jRoom hst4) hd hff⟩
theorem jrunU {y : MethodName} {wy : List Cond} {bytes : ByteArray} {maxL n idx mc ms k fr' lo' : Nat} {ret : Option FieldType} {Pc : jP} {As st0 : List Value} {ci a : Nat} {C : String} {T : u_T} {N : Nat} {x : MethodName} {owner : String} (hct : jCT l D dA y wy fr' lo' mc ms k (.ref a :: As) M Pc) (hd : decode cc pc = .ok (.invokevirtual idx, 3)) (hY : jY y wy bytes maxL ret n) (hG : GoodIn ws (va_wsU own idx C owner x y wy)) (hyx : y = ⟨owner, x.name, x.desc⟩) (hc : jCs ci C T N) (ha : a < jn M) (hk : jk M a = ci) (hs : st0 = As.reverse ++ .ref a :: st) (hR : fr' + 1 ≤ fr ∧ 8 + (maxL + 11) + lo' ≤ lo) (hb2 : mc ≤ bc ∧ ms ≤ bs) (hlen : As.length = n) (hst4 : st.length ≤ 4)  : jRun l D dA own cc ws nL ini rt hh fr lo n0 bc bs mc ms k Pc M pc lv st0 st := by
  intro p e R s m args below meth c H locs cells slots MC MS A ad ad0 ls G hP hD hS hl hr
  obtain ⟨hx, hb, hml, hown, hts, hlk, htb, hini, hrt, hfr, hlo, hMC, hMS, hA, hK, hX, hst⟩ := id G
  obtain ⟨⟨w', hw⟩, hy1, hy2, hy3⟩ := hY
  have hRR : fr' + 1 ≤ R.frames ∧ 8 + (maxL + 11) + lo' ≤ R.locals := ⟨Nat.le_trans hR.1 hfr, Nat.le_trans hR.2 hlo⟩
  have hff : cells + mc ≤ R.cells ∧ slots + ms ≤ R.slots := ⟨by have := hr.2.2.1; omega, by have := hr.2.2.2.1; omega⟩
  rw [jStk hs]
  subst hyx
  exact ⟨_, vx_runU ⟨hx, hb, hml, hown, hts⟩ (hct A ad) (va_cwU n hts hG hw rfl rfl rfl ⟨hy1, hy2, hy3⟩ hRR) ⟨jPre_blind, va_recv hK hP hc.1 (jW_obj ha hk hc.2.2.1), fun U hU hW => ⟨rfl, jPre_go hA hK hX hP hD hS hU hW⟩⟩ rfl (by rw [List.length_map]; exact hlen) hl.1 rfl (jRoom hst4) hd hff⟩
theorem jrunS {y : MethodName} {wy : List Cond} {bytes : ByteArray} {maxL n idx mc ms k fr' lo' : Nat} {ret : Option FieldType} {Pc : jP} {As st0 : List Value} (hct : jCT l D dA y wy fr' lo' mc ms k As M Pc) (hd : decode cc pc = .ok (.invokestatic idx, 3)) (hY : jY y wy bytes maxL ret n) (hG : GoodIn ws (va_wsS own idx y wy)) (hs : st0 = As.reverse ++ st) (hR : fr' + 1 ≤ fr ∧ 8 + (maxL + 11) + lo' ≤ lo) (hb2 : mc ≤ bc ∧ ms ≤ bs) (hlen : As.length = n) (hst4 : st.length ≤ 4)  : jRun l D dA own cc ws nL ini rt hh fr lo n0 bc bs mc ms k Pc M pc lv st0 st := by
  intro p e R s m args below meth c H locs cells slots MC MS A ad ad0 ls G hP hD hS hl hr
  obtain ⟨hx, hb, hml, hown, hts, hlk, htb, hini, hrt, hfr, hlo, hMC, hMS, hA, hK, hX, hst⟩ := id G
  obtain ⟨⟨w', hw⟩, hy1, hy2, hy3⟩ := hY
  have hRR : fr' + 1 ≤ R.frames ∧ 8 + (maxL + 11) + lo' ≤ R.locals := ⟨Nat.le_trans hR.1 hfr, Nat.le_trans hR.2 hlo⟩
  have hff : cells + mc ≤ R.cells ∧ slots + ms ≤ R.slots := ⟨by have := hr.2.2.1; omega, by have := hr.2.2.2.1; omega⟩
  rw [jStk0 hs]
  exact ⟨_, vx_runS ⟨hx, hb, hml, hown, hts⟩ (hct A ad) (va_cwS n hts hG hw rfl rfl ⟨hy1, hy2, hy3⟩ hRR) ⟨jPre_blind, fun U hU hW => ⟨rfl, jPre_go hA hK hX hP hD hS hU hW⟩⟩ rfl (by rw [List.length_map]; exact hlen) hl.1 rfl (jRoom hst4) hd hff⟩
theorem jrunI {y : MethodName} {wy : List Cond} {bytes : ByteArray} {maxL n idx mc ms k fr' lo' : Nat} {ret : Option FieldType} {Pc : jP} {As st0 : List Value} {a : Nat} (hct : jCT l D dA y wy fr' lo' mc ms k (.ref a :: As) M Pc) (hd : decode cc pc = .ok (.invokespecial idx, 3)) (hY : jY y wy bytes maxL none n) (hG : GoodIn ws wy) (hyi : y.name = "<init>") (hw1 : Cond.initialized y.cls ∈ ws) (hw2 : Cond.methodLink own idx y ∈ ws) (hw3 : Cond.instanceMethod y ∈ ws) (hs : st0 = As.reverse ++ .ref a :: st) (hR : fr' + 1 ≤ fr ∧ 8 + (maxL + 11) + lo' ≤ lo) (hb2 : mc ≤ bc ∧ ms ≤ bs) (hlen : As.length = n) (hst4 : st.length ≤ 4)  : jRun l D dA own cc ws nL ini rt hh fr lo n0 bc bs mc ms k Pc M pc lv st0 st := by
  intro p e R s m args below meth c H locs cells slots MC MS A ad ad0 ls G hP hD hS hl hr
  obtain ⟨hx, hb, hml, hown, hts, hlk, htb, hini, hrt, hfr, hlo, hMC, hMS, hA, hK, hX, hst⟩ := id G
  obtain ⟨⟨w', hw⟩, hy1, hy2, hy3⟩ := hY
  have hRR : fr' + 1 ≤ R.frames ∧ 8 + (maxL + 11) + lo' ≤ R.locals := ⟨Nat.le_trans hR.1 hfr, Nat.le_trans hR.2 hlo⟩
  have hff : cells + mc ≤ R.cells ∧ slots + ms ≤ R.slots := ⟨by have := hr.2.2.1; omega, by have := hr.2.2.2.1; omega⟩
  rw [jStk hs]
  exact ⟨_, vx_runI ⟨hx, hb, hml, hown, hts⟩ (hct A ad) (cwI n hts hG hw rfl rfl (hts _ hw1) (hts _ hw2) (hts _ hw3) hyi ⟨hy1, hy2, hy3⟩ hRR) ⟨jPre_blind, fun U hU hW => ⟨rfl, jPre_go hA hK hX hP hD hS hU hW⟩⟩ rfl (by rw [List.length_map]; exact hlen) hl.1 rfl (jRoom hst4) hd hff⟩
theorem jrunIN {y : MethodName} {wy : List Cond} {bytes : ByteArray} {maxL n idx mc ms k fr' lo' : Nat} {ret : Option FieldType} {Pc : jP} {As st0 : List Value} {a : Nat} {host : String} (hct : jCT l D dA y wy fr' lo' mc ms k (.ref a :: As) M Pc) (hd : decode cc pc = .ok (.invokespecial idx, 3)) (hY : jY y wy bytes maxL none n) (hG : GoodIn ws wy) (hyi : y.name = "<init>") (hw1 : Cond.initialized y.cls ∈ ws) (hw2 : Cond.methodLinkNest own idx y host ∈ jNws) (hw3 : Cond.instanceMethod y ∈ ws) (hs : st0 = As.reverse ++ .ref a :: st) (hR : fr' + 1 ≤ fr ∧ 8 + (maxL + 11) + lo' ≤ lo) (hb2 : mc ≤ bc ∧ ms ≤ bs) (hlen : As.length = n) (hst4 : st.length ≤ 4)  : jRun l D dA own cc ws nL ini rt hh fr lo n0 bc bs mc ms k Pc M pc lv st0 st := by
  intro p e R s m args below meth c H locs cells slots MC MS A ad ad0 ls G hP hD hS hl hr
  obtain ⟨hx, hb, hml, hown, hts, hlk, htb, hini, hrt, hfr, hlo, hMC, hMS, hA, hK, hX, hst⟩ := id G
  obtain ⟨⟨w', hw⟩, hy1, hy2, hy3⟩ := hY
  have hRR : fr' + 1 ≤ R.frames ∧ 8 + (maxL + 11) + lo' ≤ R.locals := ⟨Nat.le_trans hR.1 hfr, Nat.le_trans hR.2 hlo⟩
  have hff : cells + mc ≤ R.cells ∧ slots + ms ≤ R.slots := ⟨by have := hr.2.2.1; omega, by have := hr.2.2.2.1; omega⟩
  rw [jStk hs]
  exact ⟨_, vx_runIN ⟨hx, hb, hml, hown, hts⟩ (hct A ad) ⟨va_cnB n hts hG hw rfl rfl (hX.1 _ hw2) (hts _ hw1) ⟨hy1, hy2, hy3⟩ hRR, hyi, hts _ hw3⟩ ⟨jPre_blind, fun U hU hW => ⟨rfl, jPre_go hA hK hX hP hD hS hU hW⟩⟩ rfl (by rw [List.length_map]; exact hlen) hl.1 rfl (jRoom hst4) hd hff⟩
theorem jrunSN {y : MethodName} {wy : List Cond} {bytes : ByteArray} {maxL n idx mc ms k fr' lo' : Nat} {ret : Option FieldType} {Pc : jP} {As st0 : List Value} {host : String} (hct : jCT l D dA y wy fr' lo' mc ms k As M Pc) (hd : decode cc pc = .ok (.invokestatic idx, 3)) (hY : jY y wy bytes maxL ret n) (hG : GoodIn ws wy) (hw1 : Cond.initialized y.cls ∈ ws) (hw2 : Cond.methodLinkNest own idx y host ∈ jNws) (hw3 : Cond.static y ∈ ws) (hs : st0 = As.reverse ++ st) (hR : fr' + 1 ≤ fr ∧ 8 + (maxL + 11) + lo' ≤ lo) (hb2 : mc ≤ bc ∧ ms ≤ bs) (hlen : As.length = n) (hst4 : st.length ≤ 4)  : jRun l D dA own cc ws nL ini rt hh fr lo n0 bc bs mc ms k Pc M pc lv st0 st := by
  intro p e R s m args below meth c H locs cells slots MC MS A ad ad0 ls G hP hD hS hl hr
  obtain ⟨hx, hb, hml, hown, hts, hlk, htb, hini, hrt, hfr, hlo, hMC, hMS, hA, hK, hX, hst⟩ := id G
  obtain ⟨⟨w', hw⟩, hy1, hy2, hy3⟩ := hY
  have hRR : fr' + 1 ≤ R.frames ∧ 8 + (maxL + 11) + lo' ≤ R.locals := ⟨Nat.le_trans hR.1 hfr, Nat.le_trans hR.2 hlo⟩
  have hff : cells + mc ≤ R.cells ∧ slots + ms ≤ R.slots := ⟨by have := hr.2.2.1; omega, by have := hr.2.2.2.1; omega⟩
  rw [jStk0 hs]
  exact ⟨_, vx_runSN ⟨hx, hb, hml, hown, hts⟩ (hct A ad) ⟨va_cnB n hts hG hw rfl rfl (hX.1 _ hw2) (hts _ hw1) ⟨hy1, hy2, hy3⟩ hRR, hts _ hw3, trivial⟩ ⟨jPre_blind, fun U hU hW => ⟨rfl, jPre_go hA hK hX hP hD hS hU hW⟩⟩ rfl (by rw [List.length_map]; exact hlen) hl.1 rfl (jRoom hst4) hd hff⟩
/-- behind a call: a callee that makes nothing leaves the address map; one that makes cells wants what refers to old cells alone -/
def jSame (M : jM) (Pc : jP) (lv st : List Value) : Prop := jOk (jn M) lv ∧ jOk (jn M) st
theorem jR_call {ad0 ad ad1 : Nat → Nat} {M1 : jM} {cells slots MC MS mc ms : Nat} (h : jR n0 ad0 ad M cells slots bc bs MC MS) (hb2 : mc ≤ bc ∧ ms ≤ bs) (ha : jAg (jn M) ad ad1) (hn : jn M ≤ jn M1) (h9 : ad1 = ad ∨ jn M < jn M1) : jR n0 ad0 ad1 M1 (cells + mc) (slots + ms) (bc - mc) (bs - ms) MC MS := by
  refine ⟨jAg.tr h.1 ha h.2.1, Nat.le_trans h.2.1 hn, by have := h.2.2.1; omega, by have := h.2.2.2.1; omega, ?_⟩
  rcases h9 with e | e
  · rcases h.2.2.2.2 with e2 | e2
    · exact Or.inl (e.trans e2)
    · exact Or.inr (Nat.lt_of_lt_of_le e2 hn)
  · exact Or.inr (Nat.lt_of_le_of_lt h.2.1 e)
theorem jMv {ad ad1 : Nat → Nat} {M1 : jM} {ls : Array Slot} (h9 : ad1 = ad ∨ jn M < jn M1) (ha : jAg (jn M) ad ad1) (hok : jn M1 = jn M ∨ (jOk (jn M) lv ∧ jOk (jn M) st)) (hl : jLs dA ls nL ad lv) : jLs dA ls nL ad1 lv ∧ st.map (jv dA ad1) = st.map (jv dA ad) := by
  rcases h9 with e | e
  · rw [e]; exact ⟨hl, rfl⟩
  · rcases hok with h | h
    · omega
    · exact ⟨hl.ag ha h.1, jmap_ag ha h.2⟩
theorem jK_back {s t : State} (hv : s.vm.Alike t.vm) (h : va_K D vwCl (jT dA) t) : va_K D vwCl (jT dA) s := va_K.moved hv.symm h
theorem J_callv {mc ms : Nat} {Pc : jP} {st0 : List Value} (hrun : jRun l D dA own cc ws nL ini rt hh fr lo n0 bc bs mc ms 0 Pc M pc lv st0 st) (hb2 : mc ≤ bc ∧ ms ≤ bs) (hok : (∀ o M1, Pc o M1 → jn M1 = jn M) ∨ (jOk (jn M) lv ∧ jOk (jn M) st)) (kx : ∀ (E : String) (M1 : jM), Pc (.inr E) M1 → jn M ≤ jn M1 → JX l D dA own cc ws nL ini rt hh fr lo F n0 (bc - mc) (bs - ms) E M1 pc lv st) (k : ∀ (M1 : jM), Pc (.inl none) M1 → jn M ≤ jn M1 → J l D dA own cc ws nL ini rt hh fr lo F n0 (bc - mc) (bs - ms) (M1) (pc + 3) (lv) (st)) : J l D dA own cc ws nL ini rt hh fr lo F n0 bc bs (M) (pc) (lv) (st0) := by
  intro p e R s m args below meth c H locs cells slots MC MS A ad ad0 ls G hP hD hS hl hr
  obtain ⟨a, hrn⟩ := hrun p e R s m args below meth c H locs cells slots MC MS A ad ad0 ls G hP hD hS hl hr
  refine vx_callv (a := a) hrn hS (fun q _ h => h) (fun q h => h) (fun q _ h => h) (fun E ce q9 u t H1 locs1 ht hv _ hB hz hkp hS1 c1 c2 c3 => by
    obtain ⟨hpx, b1, b2, b3, b4, b5, b6⟩ := hB
    rw [ht] at b1
    obtain ⟨hl2, hm2⟩ := jMv (st := st) b6 b4 (hok.imp (fun h => h _ _ hpx) id) hl
    have hk2 := kx E u.1 hpx b5 p e R s m args below meth c H1 locs1 (cells + mc) (slots + ms) MC MS A u.2 ad0 ls q9 ce G b1 b2 hS1 hl2 (jR_call hr hb2 b4 b5 b6) c1 c2 c3
    rw [hm2] at hk2
    exact hk2) (fun u t H1 locs1 ht hv hp hB hz hkp hS1 => ?_)
  · obtain ⟨b1, b2, b3, b4, b5, b6⟩ := hB
    rw [ht] at b1
    obtain ⟨hl2, hm2⟩ := jMv (st := st) b6 b4 (hok.imp (fun h => h _ _ hp) id) hl
    have hk2 := k u.1 hp b5 p e R s m args below meth c H1 locs1 (cells + mc) (slots + ms) MC MS A u.2 ad0 ls G b1 b2 hS1 hl2 (jR_call hr hb2 b4 b5 b6)
    rw [hm2] at hk2
    exact hk2
theorem J_calli {mc ms : Nat} {Pc : jP} {st0 : List Value} (hrun : jRun l D dA own cc ws nL ini rt hh fr lo n0 bc bs mc ms 1 Pc M pc lv st0 st) (hb2 : mc ≤ bc ∧ ms ≤ bs) (hok : (∀ o M1, Pc o M1 → jn M1 = jn M) ∨ (jOk (jn M) lv ∧ jOk (jn M) st)) (kx : ∀ (E : String) (M1 : jM), Pc (.inr E) M1 → jn M ≤ jn M1 → JX l D dA own cc ws nL ini rt hh fr lo F n0 (bc - mc) (bs - ms) E M1 pc lv st) (k : ∀ (x : Int32) (M1 : jM), Pc (.inl (some (.int x))) M1 → jn M ≤ jn M1 → J l D dA own cc ws nL ini rt hh fr lo F n0 (bc - mc) (bs - ms) (M1) (pc + 3) (lv) (.int x :: st)) : J l D dA own cc ws nL ini rt hh fr lo F n0 bc bs (M) (pc) (lv) (st0) := by
  intro p e R s m args below meth c H locs cells slots MC MS A ad ad0 ls G hP hD hS hl hr
  obtain ⟨a, hrn⟩ := hrun p e R s m args below meth c H locs cells slots MC MS A ad ad0 ls G hP hD hS hl hr
  refine vx_calli (a := a) hrn hS (fun q _ h => h) (fun q h => h) (fun q _ h => h) (fun E ce q9 u t H1 locs1 ht hv _ hB hz hkp hS1 c1 c2 c3 => by
    obtain ⟨hpx, b1, b2, b3, b4, b5, b6⟩ := hB
    rw [ht] at b1
    obtain ⟨hl2, hm2⟩ := jMv (st := st) b6 b4 (hok.imp (fun h => h _ _ hpx) id) hl
    have hk2 := kx E u.1 hpx b5 p e R s m args below meth c H1 locs1 (cells + mc) (slots + ms) MC MS A u.2 ad0 ls q9 ce G b1 b2 hS1 hl2 (jR_call hr hb2 b4 b5 b6) c1 c2 c3
    rw [hm2] at hk2
    exact hk2) (fun x u t H1 locs1 ht hv hp hB hz hkp hS1 => ?_)
  · obtain ⟨b1, b2, b3, b4, b5, b6⟩ := hB
    rw [ht] at b1
    obtain ⟨hl2, hm2⟩ := jMv (st := st) b6 b4 (hok.imp (fun h => h _ _ hp) id) hl
    have hk2 := k x u.1 hp b5 p e R s m args below meth c H1 locs1 (cells + mc) (slots + ms) MC MS A u.2 ad0 ls G b1 b2 hS1 hl2 (jR_call hr hb2 b4 b5 b6)
    rw [List.map_cons, hm2] at hk2
    exact hk2
theorem J_callq {mc ms : Nat} {Pc : jP} {st0 : List Value} (hrun : jRun l D dA own cc ws nL ini rt hh fr lo n0 bc bs mc ms 2 Pc M pc lv st0 st) (hb2 : mc ≤ bc ∧ ms ≤ bs) (hok : (∀ o M1, Pc o M1 → jn M1 = jn M) ∨ (jOk (jn M) lv ∧ jOk (jn M) st)) (kx : ∀ (E : String) (M1 : jM), Pc (.inr E) M1 → jn M ≤ jn M1 → JX l D dA own cc ws nL ini rt hh fr lo F n0 (bc - mc) (bs - ms) E M1 pc lv st) (k : ∀ (r : Option Nat) (M1 : jM), Pc (.inl (some (va_rf r))) M1 → jn M ≤ jn M1 → J l D dA own cc ws nL ini rt hh fr lo F n0 (bc - mc) (bs - ms) (M1) (pc + 3) (lv) (va_rf r :: st)) : J l D dA own cc ws nL ini rt hh fr lo F n0 bc bs (M) (pc) (lv) (st0) := by
  intro p e R s m args below meth c H locs cells slots MC MS A ad ad0 ls G hP hD hS hl hr
  obtain ⟨a, hrn⟩ := hrun p e R s m args below meth c H locs cells slots MC MS A ad ad0 ls G hP hD hS hl hr
  refine vx_callq (a := a) hrn hS (fun q _ h => h) (fun q h => h) (fun q _ h => h) (fun E ce q9 u t H1 locs1 ht hv _ hB hz hkp hS1 c1 c2 c3 => by
    obtain ⟨hpx, b1, b2, b3, b4, b5, b6⟩ := hB
    rw [ht] at b1
    obtain ⟨hl2, hm2⟩ := jMv (st := st) b6 b4 (hok.imp (fun h => h _ _ hpx) id) hl
    have hk2 := kx E u.1 hpx b5 p e R s m args below meth c H1 locs1 (cells + mc) (slots + ms) MC MS A u.2 ad0 ls q9 ce G b1 b2 hS1 hl2 (jR_call hr hb2 b4 b5 b6) c1 c2 c3
    rw [hm2] at hk2
    exact hk2) (fun r9 u t H1 locs1 ht hv hp hB hz hkp hS1 => ?_)
  · obtain ⟨b1, b2, b3, b4, b5, b6⟩ := hB
    obtain ⟨r, rfl, hp⟩ := hp
    rw [ht] at b1
    obtain ⟨hl2, hm2⟩ := jMv (st := st) b6 b4 (hok.imp (fun h => h _ _ hp) id) hl
    have hk2 := k r u.1 hp b5 p e R s m args below meth c H1 locs1 (cells + mc) (slots + ms) MC MS A u.2 ad0 ls G b1 b2 hS1 hl2 (jR_call hr hb2 b4 b5 b6)
    rw [List.map_cons, jv_rf, hm2] at hk2
    exact hk2
theorem J_calld {mc ms : Nat} {Pc : jP} {st0 : List Value} (hrun : jRun l D dA own cc ws nL ini rt hh fr lo n0 bc bs mc ms 3 Pc M pc lv st0 st) (hb2 : mc ≤ bc ∧ ms ≤ bs) (hok : (∀ o M1, Pc o M1 → jn M1 = jn M) ∨ (jOk (jn M) lv ∧ jOk (jn M) st)) (kx : ∀ (E : String) (M1 : jM), Pc (.inr E) M1 → jn M ≤ jn M1 → JX l D dA own cc ws nL ini rt hh fr lo F n0 (bc - mc) (bs - ms) E M1 pc lv st) (k : ∀ (x : UInt64) (M1 : jM), Pc (.inl (some (.double x))) M1 → jn M ≤ jn M1 → J l D dA own cc ws nL ini rt hh fr lo F n0 (bc - mc) (bs - ms) (M1) (pc + 3) (lv) (.double x :: st)) : J l D dA own cc ws nL ini rt hh fr lo F n0 bc bs (M) (pc) (lv) (st0) := by
  intro p e R s m args below meth c H locs cells slots MC MS A ad ad0 ls G hP hD hS hl hr
  obtain ⟨a, hrn⟩ := hrun p e R s m args below meth c H locs cells slots MC MS A ad ad0 ls G hP hD hS hl hr
  refine vx_calld (a := a) hrn hS (fun q _ h => h) (fun q h => h) (fun q _ h => h) (fun E ce q9 u t H1 locs1 ht hv _ hB hz hkp hS1 c1 c2 c3 => by
    obtain ⟨hpx, b1, b2, b3, b4, b5, b6⟩ := hB
    rw [ht] at b1
    obtain ⟨hl2, hm2⟩ := jMv (st := st) b6 b4 (hok.imp (fun h => h _ _ hpx) id) hl
    have hk2 := kx E u.1 hpx b5 p e R s m args below meth c H1 locs1 (cells + mc) (slots + ms) MC MS A u.2 ad0 ls q9 ce G b1 b2 hS1 hl2 (jR_call hr hb2 b4 b5 b6) c1 c2 c3
    rw [hm2] at hk2
    exact hk2) (fun x u t H1 locs1 ht hv hp hB hz hkp hS1 => ?_)
  · obtain ⟨b1, b2, b3, b4, b5, b6⟩ := hB
    rw [ht] at b1
    obtain ⟨hl2, hm2⟩ := jMv (st := st) b6 b4 (hok.imp (fun h => h _ _ hp) id) hl
    have hk2 := k x u.1 hp b5 p e R s m args below meth c H1 locs1 (cells + mc) (slots + ms) MC MS A u.2 ad0 ls G b1 b2 hS1 hl2 (jR_call hr hb2 b4 b5 b6)
    rw [List.map_cons, hm2] at hk2
    exact hk2
theorem J_objInit {idx a : Nat} (hd : decode cc pc = .ok (.invokespecial idx, 3)) (hw1 : Cond.methodLink own idx objectInit ∈ ws) (hw2 : Cond.instanceMethod objectInit ∈ ws) (hw3 : Cond.code objectInit ⟨#[0xb1]⟩ 1 none ∈ ws) (hst4 : st.length ≤ 4) (hfr9 : 1 ≤ fr) (hlo9 : 20 ≤ lo) (k : J l D dA own cc ws nL ini rt hh fr lo F n0 bc bs M (pc + 3) lv st) : J l D dA own cc ws nL ini rt hh fr lo F n0 bc bs M pc lv (.ref a :: st) := by
  intro p e R s m args below meth c H locs cells slots MC MS A ad ad0 ls G hP hD hS hl hr
  obtain ⟨hx, hb, hml, hown, hts, hlk, htb, hini, hrt, hfr, hlo, hMC, hMS, hA, hK, hX, hst⟩ := id G
  refine W.objInit hx hb hown (hts _ hw1) (hts _ hw2) (hts _ hw3) rfl (by rw [hml]; exact hl.1) rfl hd (Nat.le_trans hfr9 hfr) ?_ (k p e R s m args below meth c H locs cells slots MC MS A ad ad0 ls G hP hD hS hl hr)
  have := jCat (st := st) (dA := dA) (ad := ad) hst4
  show 2 * 0 + _ + 12 ≤ R.locals
  omega
theorem J_throwS {E text : String} {names : List String} {ik is ic k : Nat} (hfit : Bundle.fit E = true) (hnames : ∀ n ∈ names, Bundle.fit n = true)
    (d0 : decode cc pc = .ok (.new ik, 3)) (d3 : decode cc (pc + 3) = .ok (.dup, 1)) (d4 : decode cc (pc + 4) = .ok (.ldc is, 2)) (d6 : decode cc (pc + 6) = .ok (.invokespecial ic, 3)) (d9 : decode cc (pc + 9) = .ok (.athrow, 1))
    (hw1 : Cond.classLink own ik E ∈ ws) (hw2 : Cond.initialized E ∈ ws) (hs1 : (own, is, text) ∈ jStrs) (hat1 : ∀ w ∈ (vy_atS own ic E names).filter goodWord, w ∈ ws) (hat2 : ∀ w ∈ (vy_atS own ic E names).filter (fun w => !goodWord w), w ∈ jNws)
    (hgood : ∀ w ∈ Cond.classLink own ik E :: Cond.initialized E :: vy_atS own ic E names, vx_ot w = true) (hh0 : hh = []) (hst4 : st.length ≤ 4) (hf9 : names.length + 3 < fr) (hl9 : 8 + (13 * (names.length + 1) + 43) ≤ lo) (h1 : 1 ≤ bc) (h2 : 6 ≤ bs) (hp : P (.inr E) M) :
    J l D dA own cc ws nL ini rt hh fr lo (jF D dA n0 P k) n0 bc bs M pc lv st := by
  intro p e R s m args below meth c H locs cells slots MC MS A ad ad0 ls G hP hD hS hl hr
  obtain ⟨hx, hb, hml, hown, hts, hlk, htb, hini, hrt, hfr, hlo, hMC, hMS, hA, hK, hX, hst⟩ := id G
  subst hh0
  obtain ⟨sa, hsa⟩ := hX.2.2.2.2.2.1 _ hs1
  have hrm := jCat (st := st) (dA := dA) (ad := ad) hst4
  have hc1 := hr.2.2.1
  have hs9 := hr.2.2.2.1
  refine vy_throwS (text := text) (sa := sa) hx hb hst hown hfit hnames (hts _ hw1) (hts _ hw2) hsa (vx_hat (fun w hw => hts w (hat1 w hw)) (fun w hw => hat2 w hw) (fun w hw => jNw_use (List.mem_filter.mp hw).2 (hX.1 w hw))) hgood hX.2.2.2.1 hX.2.2.2.2.1 hS (by rw [hml]; exact hl.1) d0 d3 d4 d6 d9 (fun x hx2 => by rw [htb] at hx2; cases hx2) (by omega) (by omega) (by omega) (by omega) hlk (fun t hv hz hq => ?_) hS.2.2 (by omega) (by omega)
  have hS' : va_F A s t := ⟨Nat.le_trans hS.1 hz, fun q g1 g2 => (hq q (Nat.lt_of_lt_of_le g1 hS.1)).trans (hS.2.1 q g1 g2)⟩
  exact ⟨(M, ad), trivial, ⟨hp, hP.kept (fun kk q hk => hq q.1 ((hP kk q hk).lt)), hD, va_K.moved hv hK, hr.1, hr.2.1, hr.2.2.2.2⟩, hS'⟩
theorem J_mmax {idx : Nat} {x y : Int32} (hd : decode cc pc = .ok (.invokestatic idx, 3)) (hw1 : Cond.methodLink own idx Lib.Math.max.name ∈ ws) (hw2 : Cond.static Lib.Math.max.name ∈ ws) (hw3 : Cond.initialized "java/lang/Math" ∈ ws) (hw4 : Cond.code Lib.Math.max.name Lib.Math.max.code 2 (some .int) ∈ ws) (hst4 : st.length ≤ 4) (hfr9 : 1 ≤ fr) (hlo9 : 21 ≤ lo) (k : J l D dA own cc ws nL ini rt hh fr lo F n0 bc bs M (pc + 3) lv (.int (if x < y then y else x) :: st)) : J l D dA own cc ws nL ini rt hh fr lo F n0 bc bs M pc lv (.int y :: .int x :: st) := by
  intro p e R s m args below meth c H locs cells slots MC MS A ad ad0 ls G hP hD hS hl hr
  obtain ⟨hx, hb, hml, hown, hts, hlk, htb, hini, hrt, hfr, hlo, hMC, hMS, hA, hK, hX, hst⟩ := id G
  have hrm := jCat (st := st) (dA := dA) (ad := ad) hst4
  have hc1 := hr.2.2.1
  have hs9 := hr.2.2.2.1
  exact va_mmax hx hb (hml.trans hl.1.symm) hown (hts _ hw1) (hts _ hw2) (hts _ hw3) (hts _ hw4) (Nat.le_trans hfr9 hfr) (by omega) (by omega) (by omega) hd (k p e R s m args below meth c H locs cells slots MC MS A ad ad0 ls G hP hD hS hl hr)
theorem J_mmin {idx : Nat} {x y : Int32} (hd : decode cc pc = .ok (.invokestatic idx, 3)) (hw1 : Cond.methodLink own idx Lib.Math.min.name ∈ ws) (hw2 : Cond.static Lib.Math.min.name ∈ ws) (hw3 : Cond.initialized "java/lang/Math" ∈ ws) (hw4 : Cond.code Lib.Math.min.name Lib.Math.min.code 2 (some .int) ∈ ws) (hst4 : st.length ≤ 4) (hfr9 : 1 ≤ fr) (hlo9 : 21 ≤ lo) (k : J l D dA own cc ws nL ini rt hh fr lo F n0 bc bs M (pc + 3) lv (.int (if y < x then y else x) :: st)) : J l D dA own cc ws nL ini rt hh fr lo F n0 bc bs M pc lv (.int y :: .int x :: st) := by
  intro p e R s m args below meth c H locs cells slots MC MS A ad ad0 ls G hP hD hS hl hr
  obtain ⟨hx, hb, hml, hown, hts, hlk, htb, hini, hrt, hfr, hlo, hMC, hMS, hA, hK, hX, hst⟩ := id G
  have hrm := jCat (st := st) (dA := dA) (ad := ad) hst4
  have hc1 := hr.2.2.1
  have hs9 := hr.2.2.2.1
  exact va_mmin hx hb (hml.trans hl.1.symm) hown (hts _ hw1) (hts _ hw2) (hts _ hw3) (hts _ hw4) (Nat.le_trans hfr9 hfr) (by omega) (by omega) (by omega) hd (k p e R s m args below meth c H locs cells slots MC MS A ad ad0 ls G hP hD hS hl hr)
theorem lv_args1 (vs : List Value) (hc : ∀ v ∈ vs, v.category = 1) : ∀ (i j : Nat) (v : Value), vs[j]? = some v → (i + j, v) ∈ lv_args i vs := by
  induction vs with
  | nil => intro i j v h; simp at h
  | cons a l ih =>
    intro i j v h
    cases j with
    | zero =>
      simp at h
      subst h
      exact List.mem_cons_self
    | succ j =>
      have h2 : l[j]? = some v := by simpa using h
      have ha : a.category = 1 := hc a List.mem_cons_self
      refine List.mem_cons_of_mem _ ?_
      rw [if_neg (by omega)]
      have := ih (fun v hv => hc v (List.mem_cons_of_mem _ hv)) (i + 1) j v h2
      rw [show i + (j + 1) = i + 1 + j by omega]
      exact this
theorem lg_sl1 (vs : List Value) (hc : ∀ v ∈ vs, v.category = 1) : (lg_sl vs).length = vs.length := by
  induction vs with
  | nil => rfl
  | cons a l ih =>
    have ha : a.category = 1 := hc a List.mem_cons_self
    have h2 := ih (fun v hv => hc v (List.mem_cons_of_mem _ hv))
    simp only [lg_sl, List.flatMap_cons, List.length_append, List.length_cons] at h2 ⊢
    rw [if_neg (by omega)]
    simp only [List.length_cons, List.length_nil]
    omega
theorem jLs_entry {ad : Nat → Nat} {av : List Value} {ls : Array Slot} (hc : ∀ v ∈ av, v.category = 1) (h : lv_has ls nL (lv_args 0 (av.map (jv dA ad)))) : jLs dA ls nL ad (av ++ List.replicate (nL - av.length) (.float 0)) := by
  refine ⟨h.1, h.2.1, fun i v hi hu => ?_⟩
  by_cases hl : i < av.length
  · rw [List.getElem?_append_left hl] at hi
    have h1 : (av.map (jv dA ad))[i]? = some (jv dA ad v) := by simp [hi]
    have h2 := lv_args1 (av.map (jv dA ad)) (fun v hv => by obtain ⟨u, hu2, rfl⟩ := List.mem_map.mp hv; rw [jv_cat]; exact hc u hu2) 0 i _ h1
    rw [Nat.zero_add] at h2
    exact h.2.2 _ h2
  · rw [List.getElem?_append_right (by omega), List.getElem?_replicate] at hi
    split at hi
    · cases hi; cases hu
    · cases hi
theorem jBody {y : MethodName} {wy wy' : List Cond} {mc ms k : Nat} {av : List Value} (hy : plainName y.cls = true) (hw : wy = Cond.code y cc nL rt :: wy') (hst : l.stackTraces = false) (hlen : av.length ≤ nL) (hc : ∀ v ∈ av, v.category = 1) (hi : ini = true → y.name = "<init>")
    (h : J l D dA y.cls cc wy nL ini rt [] fr lo (jF D dA (jn M) P k) (jn M) mc ms M 0 (av ++ List.replicate (nL - av.length) (.float 0)) []) : jCT l D dA y wy fr lo mc ms k av M P := by
  intro A ad
  refine vx_ofW hy hw ?_
  intro p e s m args below meth c s₁ B hml ht hv
  obtain ⟨rfl, hP, hD, hK, hX, hA⟩ := hv
  have hlg : (lg_sl (av.map (jv dA ad))).length ≤ nL := by
    rw [lg_sl1 _ (fun v hv => by obtain ⟨u, hu2, rfl⟩ := List.mem_map.mp hv; rw [jv_cat]; exact hc u hu2), List.length_map]
    exact hlen
  have hl := lv_entry (av.map (jv dA ad)) (n := nL) hlg
  rw [lg_entry_eq]
  generalize (lg_sl (av.map (jv dA ad)) ++ List.replicate (nL - (lg_sl (av.map (jv dA ad))).length) Slot.unset).toArray = ls at hl ⊢
  have ht0 : c.exceptionTable.toList = tableOf [] := by
    show _ = []
    cases hq : c.exceptionTable.toList with
    | nil => rfl
    | cons x l9 => exact absurd (ht x (by rw [hq]; exact List.mem_cons_self)) id
  exact h p e (headSpec wy { frames := fr, cells := mc, slots := ms, locals := lo }).room s m _ below meth c s.heap [] 0 0 mc ms A ad ad ls
    ⟨B.exec, B.bytes, hml, findClass_of_methodNamed B.named, atoms_spec (ws := wy) B.pre, B.notSynchronized, ht0, fun hq => (name_of_methodNamed B.named B.method).1.trans (hi hq), B.returns, Nat.le_refl _, Nat.le_refl _, Nat.le_refl _, Nat.le_refl _, hA, hK, hX, hst⟩ hP hD va_S.rf (jLs_entry hc hl) ⟨jAg.rf, Nat.le_refl _, by omega, by omega, Or.inl rfl⟩
end Ends
