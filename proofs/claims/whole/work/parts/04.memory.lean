/-! THE LOGICAL MEMORY: cells are numbered in the order in which they are made (logical numbers); an address map says where each lies. -/
abbrev jM : Type := Nat × (Nat → Nat) × (Nat → Nat) × (Nat → Nat → Int32) × (Nat → Nat → Option Nat) × (Nat → Nat → Int64) × (Nat → Nat → UInt64)
/-- how many cells -/
def jn (M : jM) : Nat := M.1
/-- kinds: below 20 the class's number in vwCl, from 20 on an array -/
def jk (M : jM) : Nat → Nat := M.2.1
/-- lengths of arrays -/
def jz (M : jM) : Nat → Nat := M.2.2.1
def ji (M : jM) : Nat → Nat → Int32 := M.2.2.2.1
def jr (M : jM) : Nat → Nat → Option Nat := M.2.2.2.2.1
def jl (M : jM) : Nat → Nat → Int64 := M.2.2.2.2.2.1
def jd (M : jM) : Nat → Nat → UInt64 := M.2.2.2.2.2.2
def jU {α : Type} (f : Nat → Nat → α) (a k : Nat) (v : α) : Nat → Nat → α := fun b j => if b = a ∧ j = k then v else f b j
/-- a whole row anew -/
def jV {α : Type} (f : Nat → Nat → α) (a : Nat) (g : Nat → α) : Nat → Nat → α := fun b j => if b = a then g j else f b j
def jSi (M : jM) (a k : Nat) (v : Int32) : jM := (jn M, jk M, jz M, jU (ji M) a k v, jr M, jl M, jd M)
def jSr (M : jM) (a k : Nat) (v : Option Nat) : jM := (jn M, jk M, jz M, ji M, jU (jr M) a k v, jl M, jd M)
def jSl (M : jM) (a k : Nat) (v : Int64) : jM := (jn M, jk M, jz M, ji M, jr M, jU (jl M) a k v, jd M)
def jSd (M : jM) (a k : Nat) (v : UInt64) : jM := (jn M, jk M, jz M, ji M, jr M, jl M, jU (jd M) a k v)
def jSv (M : jM) (a : Nat) (g : Nat → Int32) : jM := (jn M, jk M, jz M, jV (ji M) a g, jr M, jl M, jd M)
/-- a new cell of a kind and a length, with nothing in it -/
def jNw (M : jM) (kd len : Nat) : jM := (jn M + 1, va_up (jk M) (jn M) kd, va_up (jz M) (jn M) len, jV (ji M) (jn M) (fun _ => 0), jV (jr M) (jn M) (fun _ => none), jV (jl M) (jn M) (fun _ => 0), jV (jd M) (jn M) (fun _ => 0))

theorem jn_Si (M : jM) (a k : Nat) (v : Int32) : jn (jSi M a k v) = jn M := rfl
theorem jk_Si (M : jM) (a k : Nat) (v : Int32) : jk (jSi M a k v) = jk M := rfl
theorem jz_Si (M : jM) (a k : Nat) (v : Int32) : jz (jSi M a k v) = jz M := rfl
theorem ji_Si (M : jM) (a k : Nat) (v : Int32) (b j : Nat) : ji (jSi M a k v) b j = if b = a ∧ j = k then v else ji M b j := rfl
theorem jr_Si (M : jM) (a k : Nat) (v : Int32) : jr (jSi M a k v) = jr M := rfl
theorem jl_Si (M : jM) (a k : Nat) (v : Int32) : jl (jSi M a k v) = jl M := rfl
theorem jd_Si (M : jM) (a k : Nat) (v : Int32) : jd (jSi M a k v) = jd M := rfl
theorem jn_Sr (M : jM) (a k : Nat) (v : Option Nat) : jn (jSr M a k v) = jn M := rfl
theorem jk_Sr (M : jM) (a k : Nat) (v : Option Nat) : jk (jSr M a k v) = jk M := rfl
theorem jz_Sr (M : jM) (a k : Nat) (v : Option Nat) : jz (jSr M a k v) = jz M := rfl
theorem ji_Sr (M : jM) (a k : Nat) (v : Option Nat) : ji (jSr M a k v) = ji M := rfl
theorem jr_Sr (M : jM) (a k : Nat) (v : Option Nat) (b j : Nat) : jr (jSr M a k v) b j = if b = a ∧ j = k then v else jr M b j := rfl
theorem jl_Sr (M : jM) (a k : Nat) (v : Option Nat) : jl (jSr M a k v) = jl M := rfl
theorem jd_Sr (M : jM) (a k : Nat) (v : Option Nat) : jd (jSr M a k v) = jd M := rfl
theorem jn_Sl (M : jM) (a k : Nat) (v : Int64) : jn (jSl M a k v) = jn M := rfl
theorem jk_Sl (M : jM) (a k : Nat) (v : Int64) : jk (jSl M a k v) = jk M := rfl
theorem jz_Sl (M : jM) (a k : Nat) (v : Int64) : jz (jSl M a k v) = jz M := rfl
theorem ji_Sl (M : jM) (a k : Nat) (v : Int64) : ji (jSl M a k v) = ji M := rfl
theorem jr_Sl (M : jM) (a k : Nat) (v : Int64) : jr (jSl M a k v) = jr M := rfl
theorem jl_Sl (M : jM) (a k : Nat) (v : Int64) (b j : Nat) : jl (jSl M a k v) b j = if b = a ∧ j = k then v else jl M b j := rfl
theorem jd_Sl (M : jM) (a k : Nat) (v : Int64) : jd (jSl M a k v) = jd M := rfl
theorem jn_Sd (M : jM) (a k : Nat) (v : UInt64) : jn (jSd M a k v) = jn M := rfl
theorem jk_Sd (M : jM) (a k : Nat) (v : UInt64) : jk (jSd M a k v) = jk M := rfl
theorem jz_Sd (M : jM) (a k : Nat) (v : UInt64) : jz (jSd M a k v) = jz M := rfl
theorem ji_Sd (M : jM) (a k : Nat) (v : UInt64) : ji (jSd M a k v) = ji M := rfl
theorem jr_Sd (M : jM) (a k : Nat) (v : UInt64) : jr (jSd M a k v) = jr M := rfl
theorem jl_Sd (M : jM) (a k : Nat) (v : UInt64) : jl (jSd M a k v) = jl M := rfl
theorem jd_Sd (M : jM) (a k : Nat) (v : UInt64) (b j : Nat) : jd (jSd M a k v) b j = if b = a ∧ j = k then v else jd M b j := rfl
theorem jn_Sv (M : jM) (a : Nat) (g : Nat → Int32) : jn (jSv M a g) = jn M := rfl
theorem jk_Sv (M : jM) (a : Nat) (g : Nat → Int32) : jk (jSv M a g) = jk M := rfl
theorem jz_Sv (M : jM) (a : Nat) (g : Nat → Int32) : jz (jSv M a g) = jz M := rfl
theorem ji_Sv (M : jM) (a : Nat) (g : Nat → Int32) (b j : Nat) : ji (jSv M a g) b j = if b = a then g j else ji M b j := rfl
theorem jr_Sv (M : jM) (a : Nat) (g : Nat → Int32) : jr (jSv M a g) = jr M := rfl
theorem jl_Sv (M : jM) (a : Nat) (g : Nat → Int32) : jl (jSv M a g) = jl M := rfl
theorem jd_Sv (M : jM) (a : Nat) (g : Nat → Int32) : jd (jSv M a g) = jd M := rfl
theorem jn_Nw (M : jM) (kd len : Nat) : jn (jNw M kd len) = jn M + 1 := rfl
theorem jk_Nw (M : jM) (kd len b : Nat) : jk (jNw M kd len) b = if b = jn M then kd else jk M b := rfl
theorem jz_Nw (M : jM) (kd len b : Nat) : jz (jNw M kd len) b = if b = jn M then len else jz M b := rfl
theorem ji_Nw (M : jM) (kd len b j : Nat) : ji (jNw M kd len) b j = if b = jn M then 0 else ji M b j := rfl
theorem jr_Nw (M : jM) (kd len b j : Nat) : jr (jNw M kd len) b j = if b = jn M then none else jr M b j := rfl
theorem jl_Nw (M : jM) (kd len b j : Nat) : jl (jNw M kd len) b j = if b = jn M then 0 else jl M b j := rfl
theorem jd_Nw (M : jM) (kd len b j : Nat) : jd (jNw M kd len) b j = if b = jn M then 0 else jd M b j := rfl
/-- which fields of a class are references -/
def jrt : List (List Bool) := [[true, false, false, false], [true, false, false, false], [true, true, true, true, false, true], [true, true, true, true, false, true], [true, true, true, false], [true, false, false, true, true, true, true, true, false, false], [true, false, false], [true], [true, false, false, true, false, false, false], [true, true, false], [true, false, false, false, true, true, true, false, true, true], [true, true, true, false, false, true, false, false, false, true, false, false, true, true, false, false, false, false, false, false, false, true, true, true, true, false, false, true, false, true, false]]
def jfn (c : Nat) : Nat := (jrt.getD c []).length
def jfr (c j : Nat) : Bool := (jrt.getD c []).getD j false

def jv (dA : Nat → ClassId) (ad : Nat → Nat) : Value → Value
  | .ref q => .ref (ad q)
  | .int x => .int x
  | .long x => .long x
  | .float x => .float x
  | .double x => .double x
  | .null => .null
  | .retAddr x => .ref (dA (100 + x))
theorem jv_rf (dA : Nat → ClassId) (ad : Nat → Nat) (r : Option Nat) : jv dA ad (va_rf r) = va_rf (r.map ad) := by cases r <;> rfl
theorem jv_cat (dA : Nat → ClassId) (ad : Nat → Nat) (v : Value) : (jv dA ad v).category = v.category := by cases v <;> rfl
theorem jv_cats (dA : Nat → ClassId) (ad : Nat → Nat) (st : List Value) : ((st.map (jv dA ad)).map fun v => v.category) = st.map fun v => v.category := by
  rw [List.map_map]
  exact List.map_congr_left (fun v _ => jv_cat dA ad v)
/-- a field's value -/
def jfv (ad : Nat → Nat) (M : jM) (a c j : Nat) : Value := if jfr c j then va_rf ((jr M a j).map ad) else .int (ji M a j)
def jfs (ad : Nat → Nat) (M : jM) (a c : Nat) : List Value := (List.range (jfn c)).map (jfv ad M a c)
/-- an array's contents: 0 byte, 1 char, 2 int, 3 and 4 references, 5 long, 6 double -/
def jC (ad : Nat → Nat) (M : jM) (a t : Nat) : (Nat → Int32) ⊕ (Nat → Int64) ⊕ (Nat → UInt32) ⊕ (Nat → UInt64) ⊕ (Nat → Option Nat) :=
  if t < 3 then .inl (ji M a) else if t < 5 then .inr (.inr (.inr (.inr (fun j => (jr M a j).map ad)))) else if t = 5 then .inr (.inl (jl M a)) else .inr (.inr (.inr (.inl (jd M a))))
def jE (ad : Nat → Nat) (dA : Nat → ClassId) (M : jM) (a : Nat) : va_E :=
  if jk M a < 20 then .inr (jk M a, jfs ad M a (jk M a)) else .inl (dA (jk M a - 20), (jz M a, jC ad M a (jk M a - 20)))
def jW (ad : Nat → Nat) (dA : Nat → ClassId) (M : jM) : va_W := (List.range (jn M)).map (fun i => (ad i, jE ad dA M i))
def jT (dA : Nat → ClassId) : List (ClassId × FieldType) := [(dA 0, .byte), (dA 1, .char), (dA 2, .int), (dA 3, .object RX3), (dA 4, .object RX5), (dA 5, .long), (dA 6, .double)]
theorem jW_at {ad : Nat → Nat} {dA : Nat → ClassId} {M : jM} {a : Nat} (h : a < jn M) : (jW ad dA M)[a]? = some (ad a, jE ad dA M a) := by
  simp [jW, List.getElem?_map, List.getElem?_range h]
theorem jW_len {ad : Nat → Nat} {dA : Nat → ClassId} {M : jM} : (jW ad dA M).length = jn M := by simp [jW]
theorem jE_obj {ad : Nat → Nat} {dA : Nat → ClassId} {M : jM} {a c : Nat} (h : jk M a = c) (hc : c < 20) : jE ad dA M a = .inr (c, jfs ad M a c) := by
  subst h
  simp [jE, hc]
theorem jE_arr {ad : Nat → Nat} {dA : Nat → ClassId} {M : jM} {a t : Nat} (h : jk M a = 20 + t) : jE ad dA M a = .inl (dA t, (jz M a, jC ad M a t)) := by
  simp [jE, h, Nat.add_sub_cancel_left]
theorem jfs_at {ad : Nat → Nat} {M : jM} {a c j : Nat} (h : j < jfn c) : (jfs ad M a c)[j]? = some (jfv ad M a c j) := by
  simp [jfs, List.getElem?_map, List.getElem?_range h]
theorem jfs_len {ad : Nat → Nat} {M : jM} {a c : Nat} : (jfs ad M a c).length = jfn c := by simp [jfs]
theorem jfs_si {ad : Nat → Nat} {M : jM} {a c j : Nat} {x : Int32} (hf : jfr c j = false) : (jfs ad M a c).set j (.int x) = jfs ad (jSi M a j x) a c := by
  apply List.ext_getElem?
  intro i
  by_cases hij : i = j
  · subst hij
    by_cases hl : i < jfn c
    · rw [List.getElem?_set_self (by rw [jfs_len]; exact hl), jfs_at hl]
      simp [jfv, hf, ji_Si]
    · rw [List.getElem?_eq_none (by rw [List.length_set, jfs_len]; omega), List.getElem?_eq_none (by rw [jfs_len]; omega)]
  · rw [List.getElem?_set_ne (Ne.symm hij)]
    by_cases hl : i < jfn c
    · rw [jfs_at hl, jfs_at hl]
      simp [jfv, ji_Si, jr_Si, hij]
    · rw [List.getElem?_eq_none (by rw [jfs_len]; omega), List.getElem?_eq_none (by rw [jfs_len]; omega)]
theorem jfs_sr {ad : Nat → Nat} {M : jM} {a c j : Nat} {r : Option Nat} (hf : jfr c j = true) : (jfs ad M a c).set j (va_rf (r.map ad)) = jfs ad (jSr M a j r) a c := by
  apply List.ext_getElem?
  intro i
  by_cases hij : i = j
  · subst hij
    by_cases hl : i < jfn c
    · rw [List.getElem?_set_self (by rw [jfs_len]; exact hl), jfs_at hl]
      simp [jfv, hf, jr_Sr]
    · rw [List.getElem?_eq_none (by rw [List.length_set, jfs_len]; omega), List.getElem?_eq_none (by rw [jfs_len]; omega)]
  · rw [List.getElem?_set_ne (Ne.symm hij)]
    by_cases hl : i < jfn c
    · rw [jfs_at hl, jfs_at hl]
      simp [jfv, ji_Sr, jr_Sr, hij]
    · rw [List.getElem?_eq_none (by rw [jfs_len]; omega), List.getElem?_eq_none (by rw [jfs_len]; omega)]
/-- one cell of the world anew: all the others are as they were -/
theorem jW_set {ad : Nat → Nat} {dA : Nat → ClassId} {M M' : jM} {a : Nat} {e : va_E} (hn : jn M' = jn M) (he : e = jE ad dA M' a) (ho : ∀ b, b ≠ a → jE ad dA M' b = jE ad dA M b) : (jW ad dA M).set a (ad a, e) = jW ad dA M' := by
  apply List.ext_getElem?
  intro i
  by_cases hl : i < jn M
  · by_cases hia : i = a
    · subst hia
      rw [List.getElem?_set_self (by rw [jW_len]; exact hl), jW_at (by rw [hn]; exact hl), he]
    · rw [List.getElem?_set_ne (Ne.symm hia), jW_at hl, jW_at (by rw [hn]; exact hl), ho i hia]
  · rw [List.getElem?_eq_none (by rw [List.length_set, jW_len]; omega), List.getElem?_eq_none (by rw [jW_len, hn]; omega)]
theorem jE_congr {ad : Nat → Nat} {dA : Nat → ClassId} {M M' : jM} {b : Nat} (hk : jk M' b = jk M b) (hz : jz M' b = jz M b) (hi : ji M' b = ji M b) (hr : jr M' b = jr M b) (hl : jl M' b = jl M b) (hd : jd M' b = jd M b) : jE ad dA M' b = jE ad dA M b := by
  have h1 : ∀ c, jfs ad M' b c = jfs ad M b c := fun c => by
    unfold jfs
    apply List.map_congr_left
    intro i _
    unfold jfv
    rw [hi, hr]
  have h2 : ∀ t, jC ad M' b t = jC ad M b t := fun t => by
    unfold jC
    rw [hi, hr, hl, hd]
  unfold jE
  rw [hk, hz, h1, h2]
theorem jE_si_ne {ad : Nat → Nat} {dA : Nat → ClassId} {M : jM} {a j b : Nat} {x : Int32} (h : b ≠ a) : jE ad dA (jSi M a j x) b = jE ad dA M b :=
  jE_congr rfl rfl (by funext i; simp [ji_Si, h]) rfl rfl rfl
theorem jE_sr_ne {ad : Nat → Nat} {dA : Nat → ClassId} {M : jM} {a j b : Nat} {x : Option Nat} (h : b ≠ a) : jE ad dA (jSr M a j x) b = jE ad dA M b :=
  jE_congr rfl rfl rfl (by funext i; simp [jr_Sr, h]) rfl rfl
theorem jE_sl_ne {ad : Nat → Nat} {dA : Nat → ClassId} {M : jM} {a j b : Nat} {x : Int64} (h : b ≠ a) : jE ad dA (jSl M a j x) b = jE ad dA M b :=
  jE_congr rfl rfl rfl rfl (by funext i; simp [jl_Sl, h]) rfl
theorem jE_sd_ne {ad : Nat → Nat} {dA : Nat → ClassId} {M : jM} {a j b : Nat} {x : UInt64} (h : b ≠ a) : jE ad dA (jSd M a j x) b = jE ad dA M b :=
  jE_congr rfl rfl rfl rfl rfl (by funext i; simp [jd_Sd, h])
theorem jE_sv_ne {ad : Nat → Nat} {dA : Nat → ClassId} {M : jM} {a b : Nat} {g : Nat → Int32} (h : b ≠ a) : jE ad dA (jSv M a g) b = jE ad dA M b :=
  jE_congr rfl rfl (by funext i; simp [ji_Sv, h]) rfl rfl rfl
/-- every reference in the memory is to a cell that is there -/
def jCl (M : jM) : Prop := ∀ (a j q : Nat), a < jn M → jr M a j = some q → q < jn M
/-- two address maps that agree on the cells that are there -/
def jAg (n : Nat) (ad ad' : Nat → Nat) : Prop := ∀ i, i < n → ad' i = ad i
theorem jAg.rf {n : Nat} {ad : Nat → Nat} : jAg n ad ad := fun _ _ => rfl
theorem jAg.tr {n m : Nat} {a b c : Nat → Nat} (h : jAg n a b) (h2 : jAg m b c) (hm : n ≤ m) : jAg n a c := fun i hi => (h2 i (Nat.lt_of_lt_of_le hi hm)).trans (h i hi)
theorem jAg_map {n : Nat} {ad ad' : Nat → Nat} (h : jAg n ad ad') {r : Option Nat} (hr : ∀ q, r = some q → q < n) : r.map ad' = r.map ad := by
  cases r with
  | none => rfl
  | some q => exact congrArg some (h q (hr q rfl))
theorem jE_ad {ad ad' : Nat → Nat} {dA : Nat → ClassId} {M : jM} {a : Nat} (hcl : jCl M) (h : jAg (jn M) ad ad') (ha : a < jn M) : jE ad' dA M a = jE ad dA M a := by
  have e : ∀ j, (jr M a j).map ad' = (jr M a j).map ad := fun j => jAg_map h (fun q hq => hcl a j q ha hq)
  have e2 : ∀ c, jfs ad' M a c = jfs ad M a c := fun c => by simp only [jfs]; apply List.map_congr_left; intro i _; simp [jfv, e]
  simp only [jE, jC, e, e2]
/-- values on the stack and in the locals that refer to cells that are there -/
def jVo (n : Nat) : List Value → Bool
  | [] => true
  | .ref q :: l => decide (q < n) && jVo n l
  | _ :: l => jVo n l
theorem jv_ag {dA : Nat → ClassId} {n : Nat} {ad ad' : Nat → Nat} (h : jAg n ad ad') {v : Value} (hv : ∀ q, v = .ref q → q < n) : jv dA ad' v = jv dA ad v := by
  cases v <;> first | rfl | exact congrArg Value.ref (h _ (hv _ rfl))
def jOk (n : Nat) (st : List Value) : Prop := ∀ q, Value.ref q ∈ st → q < n
theorem jOk.nil {n : Nat} : jOk n [] := fun _ h => absurd h List.not_mem_nil
theorem jOk.ref {n q : Nat} {st : List Value} (h : q < n) (hs : jOk n st) : jOk n (.ref q :: st) := fun z hz => (List.mem_cons.mp hz).elim (fun e => by cases e; exact h) (hs z)
theorem jOk.rf {n : Nat} {r : Option Nat} {st : List Value} (h : ∀ q, r = some q → q < n) (hs : jOk n st) : jOk n (va_rf r :: st) := by
  cases r with
  | none => exact fun z hz => (List.mem_cons.mp hz).elim (fun e => by cases e) (hs z)
  | some q => exact jOk.ref (h q rfl) hs
theorem jOk.int {n : Nat} {x : Int32} {st : List Value} (hs : jOk n st) : jOk n (.int x :: st) := fun z hz => (List.mem_cons.mp hz).elim (fun e => by cases e) (hs z)
theorem jOk.float {n : Nat} {x : UInt32} {st : List Value} (hs : jOk n st) : jOk n (.float x :: st) := fun z hz => (List.mem_cons.mp hz).elim (fun e => by cases e) (hs z)
theorem jOk.null {n : Nat} {st : List Value} (hs : jOk n st) : jOk n (.null :: st) := fun z hz => (List.mem_cons.mp hz).elim (fun e => by cases e) (hs z)
theorem jOk.dbl {n : Nat} {x : UInt64} {st : List Value} (hs : jOk n st) : jOk n (.double x :: st) := fun z hz => (List.mem_cons.mp hz).elim (fun e => by cases e) (hs z)
theorem jOk.up {n m : Nat} {st : List Value} (hs : jOk n st) (h : n ≤ m) : jOk m st := fun q hq => Nat.lt_of_lt_of_le (hs q hq) h
theorem jmap_ag {dA : Nat → ClassId} {n : Nat} {ad ad' : Nat → Nat} (h : jAg n ad ad') {st : List Value} (hs : jOk n st) : st.map (jv dA ad') = st.map (jv dA ad) :=
  List.map_congr_left (fun v hv => jv_ag h (fun q hq => hs q (hq ▸ hv)))
/-- the locals: a .float stands for what isn't known -/
def jun : Value → Bool
  | .float _ => true
  | _ => false
def jLs (dA : Nat → ClassId) (ls : Array Slot) (nL : Nat) (ad : Nat → Nat) (lv : List Value) : Prop := ls.size = nL ∧ lv_wf ls ∧ ∀ (i : Nat) (v : Value), lv[i]? = some v → jun v = false → ls[i]? = some (.val (jv dA ad v))
def jal (dA : Nat → ClassId) (ad : Nat → Nat) (lv : List Value) : List (Nat × Value) := (List.range lv.length).filterMap (fun i => match lv[i]? with
  | some v => if jun v then none else some (i, jv dA ad v)
  | none => none)
theorem jal_mem {dA : Nat → ClassId} {ad : Nat → Nat} {lv : List Value} {i : Nat} {v : Value} (h : lv[i]? = some v) (hu : jun v = false) : (i, jv dA ad v) ∈ jal dA ad lv := by
  refine List.mem_filterMap.mpr ⟨i, List.mem_range.mpr (List.getElem?_eq_some_iff.mp h).1, ?_⟩
  simp [h, hu]
theorem jLs.has {dA : Nat → ClassId} {ls : Array Slot} {nL : Nat} {ad : Nat → Nat} {lv : List Value} (h : jLs dA ls nL ad lv) : lv_has ls nL (jal dA ad lv) := by
  refine ⟨h.1, h.2.1, fun q hq => ?_⟩
  obtain ⟨i, -, hi⟩ := List.mem_filterMap.mp hq
  cases hv : lv[i]? with
  | none => rw [hv] at hi; cases hi
  | some v =>
    rw [hv] at hi
    cases hu : jun v with
    | true => simp [hu] at hi
    | false =>
      simp [hu] at hi
      subst hi
      exact h.2.2 i v hv hu
/-- no long or double lies just ahead -/
def jok (lv : List Value) (i : Nat) : Bool := match i with
  | 0 => true
  | k + 1 => match lv[k]? with
    | some v => v.category == 1
    | none => true
theorem jLs.set1 {dA : Nat → ClassId} {ls : Array Slot} {nL : Nat} {ad : Nat → Nat} {lv : List Value} {i : Nat} {v : Value} (hk : jok lv i = true)
    (h : lv_has ls nL ((i, jv dA ad v) :: (jal dA ad lv).filter (fun q => !(q.1 == i) && !(q.1 + 1 == i && q.2.category == 2)))) : jLs dA ls nL ad (lv.set i v) := by
  refine ⟨h.1, h.2.1, fun j u hj hu => ?_⟩
  by_cases hij : j = i
  · subst hij
    have hl : j < lv.length := by
      have := (List.getElem?_eq_some_iff.mp hj).1
      simpa using this
    rw [List.getElem?_set_self hl] at hj
    cases hj
    exact h.2.2 _ List.mem_cons_self
  · rw [List.getElem?_set_ne (Ne.symm hij)] at hj
    refine h.2.2 (j, jv dA ad u) (List.mem_cons_of_mem _ (List.mem_filter.mpr ⟨jal_mem hj hu, ?_⟩))
    have h1 : (j == i) = false := by simpa using hij
    simp only [h1, jv_cat, Bool.not_false, Bool.true_and, Bool.not_eq_true', Bool.and_eq_false_iff]
    by_cases h2 : j + 1 = i
    · right
      subst h2
      simp only [jok, hj] at hk
      have : u.category = 1 := by simpa using hk
      simp [this]
    · left
      simpa using h2
theorem jLs.set2 {dA : Nat → ClassId} {ls : Array Slot} {nL : Nat} {ad : Nat → Nat} {lv : List Value} {i : Nat} {v : Value} (hk : jok lv i = true)
    (h : lv_has ls nL ((i, jv dA ad v) :: (jal dA ad lv).filter (fun q => !(q.1 == i) && (!(q.1 == i + 1) && !(q.1 + 1 == i && q.2.category == 2))))) : jLs dA ls nL ad ((lv.set i v).set (i + 1) (.float 0)) := by
  refine ⟨h.1, h.2.1, fun j u hj hu => ?_⟩
  by_cases hij1 : j = i + 1
  · subst hij1
    have hl : i + 1 < lv.length := by
      have := (List.getElem?_eq_some_iff.mp hj).1
      simpa using this
    rw [List.getElem?_set_self (by simpa using hl)] at hj
    cases hj
    cases hu
  rw [List.getElem?_set_ne (Ne.symm hij1)] at hj
  by_cases hij : j = i
  · subst hij
    have hl : j < lv.length := by
      have := (List.getElem?_eq_some_iff.mp hj).1
      simpa using this
    rw [List.getElem?_set_self hl] at hj
    cases hj
    exact h.2.2 _ List.mem_cons_self
  · rw [List.getElem?_set_ne (Ne.symm hij)] at hj
    refine h.2.2 (j, jv dA ad u) (List.mem_cons_of_mem _ (List.mem_filter.mpr ⟨jal_mem hj hu, ?_⟩))
    have h1 : (j == i) = false := by simpa using hij
    have h3 : (j == i + 1) = false := by simpa using hij1
    simp only [h1, h3, jv_cat, Bool.not_false, Bool.true_and, Bool.not_eq_true', Bool.and_eq_false_iff]
    by_cases h2 : j + 1 = i
    · right
      subst h2
      simp only [jok, hj] at hk
      have : u.category = 1 := by simpa using hk
      simp [this]
    · left
      simpa using h2
theorem jLs.ag {dA : Nat → ClassId} {ls : Array Slot} {nL n : Nat} {ad ad' : Nat → Nat} {lv : List Value} (h : jLs dA ls nL ad lv) (ha : jAg n ad ad') (hs : jOk n lv) : jLs dA ls nL ad' lv :=
  ⟨h.1, h.2.1, fun i v hi hu => by rw [jv_ag ha (fun q hq => hs q (hq ▸ List.mem_of_getElem? hi))]; exact h.2.2 i v hi hu⟩
def jStrs : List (String × Nat × String) := [("VersionAlgebra", 57, "the text buffer is full"), ("VersionAlgebra", 283, "there is no such slot"), ("VersionAlgebra", 301, "the text has a fault"), ("VersionAlgebra", 293, "the call is refused"), ("VersionAlgebra", 287, "the number is no version"), ("VersionAlgebra", 124, "the last version is less than the first one"), ("VersionAlgebra", 289, "the slot is empty"), ("VersionAlgebra", 143, "there is no such span"), ("VersionAlgebra", 163, "the range has no version from there on"), ("VersionAlgebra", 172, "there is no such operation"), ("VersionAlgebra", 200, "there is no such index"), ("VersionAlgebra", 206, "no call was refused"), ("VersionAlgebra", 208, "no expression has failed"), ("VersionAlgebra", 210, "there is no such position"), ("VersionAlgebra", 229, "there is no such place"), ("VersionAlgebra", 238, "no published version belongs to the range"), ("VersionAlgebra", 245, "no version is published"), ("VersionAlgebra", 263, "there is no such account"), ("VersionAlgebra", 268, "no change is kept"), ("VersionAlgebra", 276, "there is no snapshot")]
def jNcs : List (String × String) := [("java/lang/IndexOutOfBoundsException", "java/lang/IllegalStateException"), ("java/lang/IllegalArgumentException", "java/lang/IllegalStateException"), ("java/lang/UnsupportedOperationException", "java/lang/IllegalStateException"), ("java/util/NoSuchElementException", "java/lang/IllegalStateException"), ("java/lang/ArithmeticException", "java/lang/IllegalStateException"), ("java/lang/IllegalStateException", "java/lang/IndexOutOfBoundsException"), ("java/lang/IllegalArgumentException", "java/lang/IndexOutOfBoundsException"), ("java/lang/UnsupportedOperationException", "java/lang/IndexOutOfBoundsException"), ("java/util/NoSuchElementException", "java/lang/IndexOutOfBoundsException"), ("java/lang/ArithmeticException", "java/lang/IndexOutOfBoundsException"), ("java/lang/IllegalStateException", "java/lang/IllegalArgumentException"), ("java/lang/IndexOutOfBoundsException", "java/lang/IllegalArgumentException"), ("java/lang/UnsupportedOperationException", "java/lang/IllegalArgumentException"), ("java/util/NoSuchElementException", "java/lang/IllegalArgumentException"), ("java/lang/ArithmeticException", "java/lang/IllegalArgumentException"), ("java/lang/IllegalStateException", "java/lang/UnsupportedOperationException"), ("java/lang/IndexOutOfBoundsException", "java/lang/UnsupportedOperationException"), ("java/lang/IllegalArgumentException", "java/lang/UnsupportedOperationException"), ("java/util/NoSuchElementException", "java/lang/UnsupportedOperationException"), ("java/lang/ArithmeticException", "java/lang/UnsupportedOperationException"), ("java/lang/IllegalStateException", "java/util/NoSuchElementException"), ("java/lang/IndexOutOfBoundsException", "java/util/NoSuchElementException"), ("java/lang/IllegalArgumentException", "java/util/NoSuchElementException"), ("java/lang/UnsupportedOperationException", "java/util/NoSuchElementException"), ("java/lang/ArithmeticException", "java/util/NoSuchElementException"), ("java/lang/IllegalStateException", "java/lang/ArithmeticException"), ("java/lang/IndexOutOfBoundsException", "java/lang/ArithmeticException"), ("java/lang/IllegalArgumentException", "java/lang/ArithmeticException"), ("java/lang/UnsupportedOperationException", "java/lang/ArithmeticException"), ("java/util/NoSuchElementException", "java/lang/ArithmeticException")]
theorem jNc_moved {C T : String} {u U : State} (hv : u.vm.Alike U.vm) (h : va_Nc C T u) : va_Nc C T U := by
  obtain ⟨c, t, h1, h2, h3⟩ := h
  exact ⟨c, t, by rw [hv.findClass]; exact h1, by rw [hv.findClass]; exact h2, by rw [hv.assignable]; exact h3⟩
def jisNw : Cond → Bool
  | .castable _ _ => true
  | .declares _ => true
  | .methodLinkNest _ _ _ _ => true
  | _ => false
/-- words that no word list may hold (they aren't good ones), carried with the world -/
def jNws : List Cond := lw_tbl.filter jisNw
/-- the constant texts and the statics that the JDK's code reads -/
def jXs (dA : Nat → ClassId) (A : Nat → Prop) (U : State) (H : Heap) : Prop :=
  vk_S 3 [4, 2, 2] [[110, 111, 110, 101], [62, 61], [60, 61]] (fun i => dA (100 + i)) (fun i => dA (110 + i)) A U H ∧ vk_R "VersionAlgebra" 310 "none" (dA 100) U ∧ vk_R "VersionAlgebraModel" 241 "none" (dA 100) U ∧ vk_R "VersionAlgebra" 329 ">=" (dA 101) U ∧ vk_R "VersionAlgebra" 331 "<=" (dA 102) U ∧
  va_Z "java/lang/String" "COMPACT_STRINGS" "Z" (.int 1) A U H ∧ (va_Z "java/lang/Integer" "DigitTens" "[B" (.ref (dA 106)) A U H ∧ va_T .byte (dA 106) 100 (fun j => .int (nI (48 + j / 10))) A U H) ∧ (va_Z "java/lang/Integer" "DigitOnes" "[B" (.ref (dA 107)) A U H ∧ va_T .byte (dA 107) 100 (fun j => .int (nI (48 + j % 10))) A U H) ∧
  (va_Z "jdk/internal/util/Preconditions" "SIOOBE_FORMATTER" "Ljava/util/function/BiFunction;" .null A U H ∨ va_Z "jdk/internal/util/Preconditions" "SIOOBE_FORMATTER" "Ljava/util/function/BiFunction;" (.ref (dA 103)) A U H) ∧
  va_X (dA 104) (dA 105) (fun j => Int32.ofNat (dA (200 + j))) U H ∧ dA 104 < H.size ∧ ¬ A (dA 104) ∧ dA 105 ≤ 2560
/-- what a walk needs of the start beside its world -/
def jX (dA : Nat → ClassId) (A : Nat → Prop) (U : State) (H : Heap) : Prop :=
  (∀ w ∈ jNws, va_Nw w U) ∧ va_AO RX3 U ∧ va_AO RX5 U ∧ vx_Zq Bundle.tN "UNASSIGNED_STACK" Bundle.steD A U H ∧ vx_Zq Bundle.tN "SUPPRESSED_SENTINEL" Bundle.listD A U H ∧ (∀ q ∈ jStrs, ∃ a, vk_R q.1 q.2.1 q.2.2 a U) ∧ (∀ q ∈ jNcs, va_Nc q.1 q.2 U) ∧ jXs dA A U H
theorem jNw_warm {s U : State} {w : Cond} (hw : jisNw w = true) (hW : s.WarmedH U.vm) (h : va_Nw w s) : va_Nw w U := by
  cases w <;> first | (cases hw; done) | exact va_Nw.warmC hW h | exact va_Nw.warmD hW h | exact va_Nw.warmM hW h
theorem jNw_use {s : State} {A : Array Value} {w : Cond} (hw : jisNw w = true) (h : va_Nw w s) : w.before A s = true := by
  cases w <;> first | (cases hw; done) | exact va_Nw.use rfl h
theorem jX.go {dA : Nat → ClassId} {A : Nat → Prop} {s U : State} (hW : s.WarmedH U.vm) (hq : ∀ a : Nat, a < s.heap.size → ¬ A a → U.heap[a]? = s.heap[a]?) (h : jX dA A s s.heap) : jX dA A U U.heap := by
  obtain ⟨h1, h2, h3, h4, h5, h6, h7, g1, g2, g3, g4, g5, g6, ⟨g7, g8⟩, ⟨g9, g10⟩, g11, g12, g13, g14, g15⟩ := h
  have hv := hW.alike
  have g16 : va_X (dA 104) (dA 105) (fun j => Int32.ofNat (dA (200 + j))) U U.heap := va_X.kept (va_X.moved hv g12) (hq _ g13 g14)
  refine ⟨fun w hw => jNw_warm (List.mem_filter.mp hw).2 hW (h1 w hw), va_AO.moved hv h2, va_AO.moved hv h3, (vx_Zq.moved hv h4).kept hq, (vx_Zq.moved hv h5).kept hq, fun q hq => ?_, fun q hq => jNc_moved hv (h7 q hq), (vk_S.moved hv g1).kept hq, vk_R.warm hW g2, vk_R.warm hW g3, vk_R.warm hW g4, vk_R.warm hW g5, (va_Z.moved hv g6).kept hq, ⟨(va_Z.moved hv g7).kept hq, (va_T.moved hv g8).kept hq⟩, ⟨(va_Z.moved hv g9).kept hq, (va_T.moved hv g10).kept hq⟩, g11.imp (fun z => (va_Z.moved hv z).kept hq) (fun z => (va_Z.moved hv z).kept hq), g16, ?_, g14, g15⟩
  · obtain ⟨a, ha⟩ := h6 q hq
    exact ⟨a, vk_R.warm hW ha⟩
  · obtain ⟨scr, h9, -⟩ := g16
    exact (Array.getElem?_eq_some_iff.mp h9).1
theorem jX.same {dA : Nat → ClassId} {A : Nat → Prop} {s U : State} (hv : s.vm = U.vm) (hh : U.heap = s.heap) (h : jX dA A s s.heap) : jX dA A U U.heap := by
  refine jX.go ?_ (fun a _ _ => by rw [hh]) h
  rw [← hv]
  exact State.WarmedH.refl _

/-! OUTCOMES, CONTRACTS, THE JUDGEMENT -/
abbrev jO : Type := Option Value ⊕ String
abbrev jP : Type := jO → jM → Prop
abbrev jS : Type := jM × (Nat → Nat)
def jEnd (D : va_G) (dA : Nat → ClassId) (A : Nat → Prop) (n0 : Nat) (ad0 : Nat → Nat) (u : jS) (t : State) : Prop :=
  va_P D vwCl (jW u.2 dA u.1) t.heap ∧ va_D A (jW u.2 dA u.1) ∧ va_K D vwCl (jT dA) t ∧ jAg n0 ad0 u.2 ∧ n0 ≤ jn u.1 ∧ (u.2 = ad0 ∨ n0 < jn u.1)
/-- what comes back: 0 nothing, 1 an int, 2 a reference, 3 a double -/
def jQ (D : va_G) (dA : Nat → ClassId) (A : Nat → Prop) (n0 : Nat) (ad0 : Nat → Nat) (P : jP) (k : Nat) : Array Value → State → Outcome → State → Prop := match k with
  | 0 => va_Qv (fun u : jS => P (.inl none) u.1) (jEnd D dA A n0 ad0) A
  | 1 => va_Qi (fun r (u : jS) => P (.inl (some (.int r))) u.1) (jEnd D dA A n0 ad0) A
  | 2 => va_Qq (fun r (u : jS) => ∃ r0 : Option Nat, r = r0.map u.2 ∧ P (.inl (some (va_rf r0))) u.1) (jEnd D dA A n0 ad0) A
  | _ => va_Qd (fun r (u : jS) => P (.inl (some (.double r))) u.1) (jEnd D dA A n0 ad0) A
def jXq (D : va_G) (dA : Nat → ClassId) (A : Nat → Prop) (n0 : Nat) (ad0 : Nat → Nat) (P : jP) : String → State → State → Prop :=
  vx_X (fun _ : jS => True) (fun E u t => P (.inr E) u.1 ∧ jEnd D dA A n0 ad0 u t) A
def jPre (D : va_G) (dA : Nat → ClassId) (A : Nat → Prop) (ad : Nat → Nat) (M : jM) (U : State) : Prop :=
  va_P D vwCl (jW ad dA M) U.heap ∧ va_D A (jW ad dA M) ∧ va_K D vwCl (jT dA) U ∧ jX dA A U U.heap ∧ ∀ q, U.heap.size ≤ q → A q
/-- THE CONTRACT of a method: from arguments av and the memory M it ends as P says -/
def jCT (l : Launch) (D : va_G) (dA : Nat → ClassId) (y : MethodName) (ws : List Cond) (fr lo mc ms k : Nat) (av : List Value) (M : jM) (P : jP) : Prop :=
  ∀ (A : Nat → Prop) (ad : Nat → Nat), vx_Met l y ws { frames := fr, cells := mc, slots := ms, locals := lo } (va_Pc (av.map (jv dA ad)) (jPre D dA A ad M)) (jQ D dA A (jn M) ad P k) (jXq D dA A (jn M) ad P) mc ms A
/-- what stays while a method runs -/
def jG (l : Launch) (D : va_G) (dA : Nat → ClassId) (own : String) (cc : ByteArray) (ws : List Cond) (nL : Nat) (ini : Bool) (rt : Option FieldType) (hh : List (Nat × Nat × Nat × Nat)) (fr lo : Nat)
    (p : Program) (R : Room) (s : State) (m : MethodId) (args : Array Value) (meth : Method) (c : Code) (A : Nat → Prop) (MC MS : Nat) : Prop :=
  p.tables.exec = Jvm.exec ∧ c.code = cc ∧ c.maxLocals = nL ∧ s.vm.findClass own = some m.cls ∧ (∀ w ∈ ws, w.before args s = true) ∧ meth.locks = false ∧ c.exceptionTable.toList = tableOf hh ∧ (ini = true → meth.name = "<init>") ∧ meth.sig.returnType = rt ∧
  fr ≤ R.frames ∧ lo ≤ R.locals ∧ MC ≤ R.cells ∧ MS ≤ R.slots ∧ (∀ q, s.heap.size ≤ q → A q) ∧ va_K D vwCl (jT dA) s ∧ jX dA A s s.heap ∧ l.stackTraces = false
/-- how a body ends: the predicate that its last states meet -/
abbrev jFin : Type := List Frame → Array Value → State → (Nat → Prop) → (Nat → Nat) → Nat → Nat → State → Prop
def jF (D : va_G) (dA : Nat → ClassId) (n0 : Nat) (P : jP) (k : Nat) : jFin := fun below args s A ad0 MC MS => vx_MQ below (jQ D dA A n0 ad0 P k) (jXq D dA A n0 ad0 P) args s MC MS A
def jR (n0 : Nat) (ad0 ad : Nat → Nat) (M : jM) (cells slots bc bs MC MS : Nat) : Prop := jAg n0 ad0 ad ∧ n0 ≤ jn M ∧ cells + bc ≤ MC ∧ slots + bs ≤ MS ∧ (ad = ad0 ∨ n0 < jn M)
/-- THE JUDGEMENT: at pc, with locals lv, stack st, memory M, and bc cells of bs slots still to be made, the body ends as F says -/
def J (l : Launch) (D : va_G) (dA : Nat → ClassId) (own : String) (cc : ByteArray) (ws : List Cond) (nL : Nat) (ini : Bool) (rt : Option FieldType) (hh : List (Nat × Nat × Nat × Nat)) (fr lo : Nat) (F : jFin) (n0 bc bs : Nat) (M : jM) (pc : Nat) (lv st : List Value) : Prop :=
  ∀ (p : Program) (e : Env) (R : Room) (s : State) (m : MethodId) (args : Array Value) (below : List Frame) (meth : Method) (c : Code) (H : Heap) (locs : List Loc) (cells slots MC MS : Nat) (A : Nat → Prop) (ad ad0 : Nat → Nat) (ls : Array Slot),
    jG l D dA own cc ws nL ini rt hh fr lo p R s m args meth c A MC MS → va_P D vwCl (jW ad dA M) H → va_D A (jW ad dA M) → va_S A s.heap H locs → jLs dA ls nL ad lv → jR n0 ad0 ad M cells slots bc bs MC MS →
    W p l e R s m args below meth c H locs cells slots (F below args s A ad0 MC MS) (F0 m pc ls (st.map (jv dA ad)))
section Rows
variable {l : Launch} {D : va_G} {dA : Nat → ClassId} {own : String} {cc : ByteArray} {ws : List Cond} {nL : Nat} {ini : Bool} {rt : Option FieldType} {hh : List (Nat × Nat × Nat × Nat)} {fr lo : Nat} {F : jFin} {n0 bc bs : Nat} {M : jM} {pc : Nat} {lv st : List Value}
theorem J_iconst {n : Int} {x : Int32} (hd : decode cc pc = .ok (.iconst n, 1)) (hv : Int32.ofInt n = x) (k : J l D dA own cc ws nL ini rt hh fr lo F n0 bc bs M (pc + 1) (lv) (.int x :: st)) : J l D dA own cc ws nL ini rt hh fr lo F n0 bc bs M (pc) (lv) (st) := by
  intro p e R s m args below meth c H locs cells slots MC MS A ad ad0 ls G hP hD hS hl hr
  exact lv_iconst G.1 G.2.1 hd hv (k p e R s m args below meth c H locs cells slots MC MS A ad ad0 ls G hP hD hS hl hr)
theorem J_bipush {n : Int} {x : Int32} (hd : decode cc pc = .ok (.bipush n, 2)) (hv : (Int8.ofInt n).toInt32 = x) (k : J l D dA own cc ws nL ini rt hh fr lo F n0 bc bs M (pc + 2) (lv) (.int x :: st)) : J l D dA own cc ws nL ini rt hh fr lo F n0 bc bs M (pc) (lv) (st) := by
  intro p e R s m args below meth c H locs cells slots MC MS A ad ad0 ls G hP hD hS hl hr
  exact lv_bipush G.1 G.2.1 hd hv (k p e R s m args below meth c H locs cells slots MC MS A ad ad0 ls G hP hD hS hl hr)
theorem J_sipush {n : Int} {x : Int32} (hd : decode cc pc = .ok (.sipush n, 3)) (hv : (Int16.ofInt n).toInt32 = x) (k : J l D dA own cc ws nL ini rt hh fr lo F n0 bc bs M (pc + 3) (lv) (.int x :: st)) : J l D dA own cc ws nL ini rt hh fr lo F n0 bc bs M (pc) (lv) (st) := by
  intro p e R s m args below meth c H locs cells slots MC MS A ad ad0 ls G hP hD hS hl hr
  exact lv_sipush G.1 G.2.1 hd hv (k p e R s m args below meth c H locs cells slots MC MS A ad ad0 ls G hP hD hS hl hr)
theorem J_lconst {n : Fin 2} {x : Int64} (hd : decode cc pc = .ok (.lconst n, 1)) (hv : Int64.ofNat (n : Nat) = x) (k : J l D dA own cc ws nL ini rt hh fr lo F n0 bc bs M (pc + 1) (lv) (.long x :: st)) : J l D dA own cc ws nL ini rt hh fr lo F n0 bc bs M (pc) (lv) (st) := by
  intro p e R s m args below meth c H locs cells slots MC MS A ad ad0 ls G hP hD hS hl hr
  exact lv_lconst G.1 G.2.1 hd hv (k p e R s m args below meth c H locs cells slots MC MS A ad ad0 ls G hP hD hS hl hr)
theorem J_null (hd : decode cc pc = .ok (.aconst_null, 1)) (k : J l D dA own cc ws nL ini rt hh fr lo F n0 bc bs M (pc + 1) (lv) (.null :: st)) : J l D dA own cc ws nL ini rt hh fr lo F n0 bc bs M (pc) (lv) (st) := by
  intro p e R s m args below meth c H locs cells slots MC MS A ad ad0 ls G hP hD hS hl hr
  exact lv_null G.1 G.2.1 hd (k p e R s m args below meth c H locs cells slots MC MS A ad ad0 ls G hP hD hS hl hr)
theorem J_dconst0 (hd : decode cc pc = .ok (.dconst 0, 1)) (k : J l D dA own cc ws nL ini rt hh fr lo F n0 bc bs M (pc + 1) (lv) (.double FP.dconst0 :: st)) : J l D dA own cc ws nL ini rt hh fr lo F n0 bc bs M (pc) (lv) (st) := by
  intro p e R s m args below meth c H locs cells slots MC MS A ad ad0 ls G hP hD hS hl hr
  exact lv_dconst0 G.1 G.2.1 hd (k p e R s m args below meth c H locs cells slots MC MS A ad ad0 ls G hP hD hS hl hr)
theorem J_ldc {i : Nat} {x : Int32} (hd : decode cc pc = .ok (.ldc i, 2)) (hw : Cond.constant own i x ∈ ws) (k : J l D dA own cc ws nL ini rt hh fr lo F n0 bc bs M (pc + 2) (lv) (.int x :: st)) : J l D dA own cc ws nL ini rt hh fr lo F n0 bc bs M (pc) (lv) (st) := by
  intro p e R s m args below meth c H locs cells slots MC MS A ad ad0 ls G hP hD hS hl hr
  exact lv_ldc G.1 G.2.1 G.2.2.2.1 (G.2.2.2.2.1 _ hw) hd (k p e R s m args below meth c H locs cells slots MC MS A ad ad0 ls G hP hD hS hl hr)
theorem J_ldcw {i : Nat} {x : Int32} (hd : decode cc pc = .ok (.ldc_w i, 3)) (hw : Cond.constant own i x ∈ ws) (k : J l D dA own cc ws nL ini rt hh fr lo F n0 bc bs M (pc + 3) (lv) (.int x :: st)) : J l D dA own cc ws nL ini rt hh fr lo F n0 bc bs M (pc) (lv) (st) := by
  intro p e R s m args below meth c H locs cells slots MC MS A ad ad0 ls G hP hD hS hl hr
  exact lv_ldcw G.1 G.2.1 G.2.2.2.1 (G.2.2.2.2.1 _ hw) hd (k p e R s m args below meth c H locs cells slots MC MS A ad ad0 ls G hP hD hS hl hr)
theorem J_iload_n {q : Fin 4} {i : Nat} {x : Int32} (hd : decode cc pc = .ok (.iload_n q, 1)) (hi : (q : Nat) = i) (hv : lv[i]? = some (.int x)) (k : J l D dA own cc ws nL ini rt hh fr lo F n0 bc bs M (pc + 1) (lv) (.int x :: st)) : J l D dA own cc ws nL ini rt hh fr lo F n0 bc bs M (pc) (lv) (st) := by
  intro p e R s m args below meth c H locs cells slots MC MS A ad ad0 ls G hP hD hS hl hr
  exact lv_iload_n G.1 G.2.1 hd hi (hl.2.2 i _ hv rfl) (k p e R s m args below meth c H locs cells slots MC MS A ad ad0 ls G hP hD hS hl hr)
theorem J_iload {i : Nat} {x : Int32} (hd : decode cc pc = .ok (.iload i, 2)) (hv : lv[i]? = some (.int x)) (k : J l D dA own cc ws nL ini rt hh fr lo F n0 bc bs M (pc + 2) (lv) (.int x :: st)) : J l D dA own cc ws nL ini rt hh fr lo F n0 bc bs M (pc) (lv) (st) := by
  intro p e R s m args below meth c H locs cells slots MC MS A ad ad0 ls G hP hD hS hl hr
  exact lv_iload G.1 G.2.1 hd (hl.2.2 i _ hv rfl) (k p e R s m args below meth c H locs cells slots MC MS A ad ad0 ls G hP hD hS hl hr)
theorem J_aload_n {q : Fin 4} {i : Nat} (x : Nat) (hd : decode cc pc = .ok (.aload_n q, 1)) (hi : (q : Nat) = i) (hv : lv[i]? = some (.ref x)) (k : J l D dA own cc ws nL ini rt hh fr lo F n0 bc bs M (pc + 1) (lv) (.ref x :: st)) : J l D dA own cc ws nL ini rt hh fr lo F n0 bc bs M (pc) (lv) (st) := by
  intro p e R s m args below meth c H locs cells slots MC MS A ad ad0 ls G hP hD hS hl hr
  exact lv_aload_n G.1 G.2.1 hd hi (hl.2.2 i _ hv rfl) (k p e R s m args below meth c H locs cells slots MC MS A ad ad0 ls G hP hD hS hl hr)
theorem J_aload_nq {q : Fin 4} {i : Nat} (r : Option Nat) (hd : decode cc pc = .ok (.aload_n q, 1)) (hi : (q : Nat) = i) (hv : lv[i]? = some (va_rf r)) (k : J l D dA own cc ws nL ini rt hh fr lo F n0 bc bs M (pc + 1) (lv) (va_rf r :: st)) : J l D dA own cc ws nL ini rt hh fr lo F n0 bc bs M (pc) (lv) (st) := by
  intro p e R s m args below meth c H locs cells slots MC MS A ad ad0 ls G hP hD hS hl hr
  cases r with
  | none => exact lv_aload_nN G.1 G.2.1 hd hi (hl.2.2 i _ hv rfl) (k p e R s m args below meth c H locs cells slots MC MS A ad ad0 ls G hP hD hS hl hr)
  | some x => exact lv_aload_n G.1 G.2.1 hd hi (hl.2.2 i _ hv rfl) (k p e R s m args below meth c H locs cells slots MC MS A ad ad0 ls G hP hD hS hl hr)
theorem J_aload {i : Nat} (x : Nat) (hd : decode cc pc = .ok (.aload i, 2)) (hv : lv[i]? = some (.ref x)) (k : J l D dA own cc ws nL ini rt hh fr lo F n0 bc bs M (pc + 2) (lv) (.ref x :: st)) : J l D dA own cc ws nL ini rt hh fr lo F n0 bc bs M (pc) (lv) (st) := by
  intro p e R s m args below meth c H locs cells slots MC MS A ad ad0 ls G hP hD hS hl hr
  exact lv_aload G.1 G.2.1 hd (hl.2.2 i _ hv rfl) (k p e R s m args below meth c H locs cells slots MC MS A ad ad0 ls G hP hD hS hl hr)
theorem J_aloadq {i : Nat} (r : Option Nat) (hd : decode cc pc = .ok (.aload i, 2)) (hv : lv[i]? = some (va_rf r)) (k : J l D dA own cc ws nL ini rt hh fr lo F n0 bc bs M (pc + 2) (lv) (va_rf r :: st)) : J l D dA own cc ws nL ini rt hh fr lo F n0 bc bs M (pc) (lv) (st) := by
  intro p e R s m args below meth c H locs cells slots MC MS A ad ad0 ls G hP hD hS hl hr
  cases r with
  | none => exact lv_aloadN G.1 G.2.1 hd (hl.2.2 i _ hv rfl) (k p e R s m args below meth c H locs cells slots MC MS A ad ad0 ls G hP hD hS hl hr)
  | some x => exact lv_aload G.1 G.2.1 hd (hl.2.2 i _ hv rfl) (k p e R s m args below meth c H locs cells slots MC MS A ad ad0 ls G hP hD hS hl hr)
theorem J_dload {i : Nat} {x : UInt64} (hd : decode cc pc = .ok (.dload i, 2)) (hv : lv[i]? = some (.double x)) (k : J l D dA own cc ws nL ini rt hh fr lo F n0 bc bs M (pc + 2) (lv) (.double x :: st)) : J l D dA own cc ws nL ini rt hh fr lo F n0 bc bs M (pc) (lv) (st) := by
  intro p e R s m args below meth c H locs cells slots MC MS A ad ad0 ls G hP hD hS hl hr
  exact lv_dload G.1 G.2.1 hd (hl.2.2 i _ hv rfl) (k p e R s m args below meth c H locs cells slots MC MS A ad ad0 ls G hP hD hS hl hr)
theorem J_istore_n {q : Fin 4} {i : Nat} {lv' : List Value} {x : Int32} (hd : decode cc pc = .ok (.istore_n q, 1)) (hi : (q : Nat) = i) (hn : i < nL) (hk : jok lv i = true) (hlv : lv.set i (.int x) = lv') (k : J l D dA own cc ws nL ini rt hh fr lo F n0 bc bs M (pc + 1) (lv') (st)) : J l D dA own cc ws nL ini rt hh fr lo F n0 bc bs M (pc) (lv) (.int x :: st) := by
  intro p e R s m args below meth c H locs cells slots MC MS A ad ad0 ls G hP hD hS hl hr
  subst hlv
  exact lv_istore_n G.1 G.2.1 hd hi hl.has hn rfl (fun ls2 h2 => k p e R s m args below meth c H locs cells slots MC MS A ad ad0 ls2 G hP hD hS (jLs.set1 hk h2) hr)
theorem J_istore {i : Nat} {lv' : List Value} {x : Int32} (hd : decode cc pc = .ok (.istore i, 2)) (hn : i < nL) (hk : jok lv i = true) (hlv : lv.set i (.int x) = lv') (k : J l D dA own cc ws nL ini rt hh fr lo F n0 bc bs M (pc + 2) (lv') (st)) : J l D dA own cc ws nL ini rt hh fr lo F n0 bc bs M (pc) (lv) (.int x :: st) := by
  intro p e R s m args below meth c H locs cells slots MC MS A ad ad0 ls G hP hD hS hl hr
  subst hlv
  exact lv_istore G.1 G.2.1 hd hl.has hn rfl (fun ls2 h2 => k p e R s m args below meth c H locs cells slots MC MS A ad ad0 ls2 G hP hD hS (jLs.set1 hk h2) hr)
theorem J_astore_n {q : Fin 4} {i : Nat} {lv' : List Value} {x : Nat} (hd : decode cc pc = .ok (.astore_n q, 1)) (hi : (q : Nat) = i) (hn : i < nL) (hk : jok lv i = true) (hlv : lv.set i (.ref x) = lv') (k : J l D dA own cc ws nL ini rt hh fr lo F n0 bc bs M (pc + 1) (lv') (st)) : J l D dA own cc ws nL ini rt hh fr lo F n0 bc bs M (pc) (lv) (.ref x :: st) := by
  intro p e R s m args below meth c H locs cells slots MC MS A ad ad0 ls G hP hD hS hl hr
  subst hlv
  exact lv_astore_n G.1 G.2.1 hd hi hl.has hn rfl (fun ls2 h2 => k p e R s m args below meth c H locs cells slots MC MS A ad ad0 ls2 G hP hD hS (jLs.set1 hk h2) hr)
theorem J_astore {i : Nat} {lv' : List Value} {x : Nat} (hd : decode cc pc = .ok (.astore i, 2)) (hn : i < nL) (hk : jok lv i = true) (hlv : lv.set i (.ref x) = lv') (k : J l D dA own cc ws nL ini rt hh fr lo F n0 bc bs M (pc + 2) (lv') (st)) : J l D dA own cc ws nL ini rt hh fr lo F n0 bc bs M (pc) (lv) (.ref x :: st) := by
  intro p e R s m args below meth c H locs cells slots MC MS A ad ad0 ls G hP hD hS hl hr
  subst hlv
  exact lv_astore G.1 G.2.1 hd hl.has hn rfl (fun ls2 h2 => k p e R s m args below meth c H locs cells slots MC MS A ad ad0 ls2 G hP hD hS (jLs.set1 hk h2) hr)
theorem J_dstore {i : Nat} {lv' : List Value} {x : UInt64} (hd : decode cc pc = .ok (.dstore i, 2)) (hn : i + 1 < nL) (hk : jok lv i = true) (hlv : (lv.set i (.double x)).set (i + 1) (.float 0) = lv') (k : J l D dA own cc ws nL ini rt hh fr lo F n0 bc bs M (pc + 2) (lv') (st)) : J l D dA own cc ws nL ini rt hh fr lo F n0 bc bs M (pc) (lv) (.double x :: st) := by
  intro p e R s m args below meth c H locs cells slots MC MS A ad ad0 ls G hP hD hS hl hr
  subst hlv
  exact lv_dstore G.1 G.2.1 hd hl.has hn rfl (fun ls2 h2 => k p e R s m args below meth c H locs cells slots MC MS A ad ad0 ls2 G hP hD hS (jLs.set2 hk h2) hr)
theorem J_astore_nq {q : Fin 4} {i : Nat} {lv' : List Value} {r : Option Nat} (hd : decode cc pc = .ok (.astore_n q, 1)) (hi : (q : Nat) = i) (hn : i < nL) (hk : jok lv i = true) (hlv : lv.set i (va_rf r) = lv') (k : J l D dA own cc ws nL ini rt hh fr lo F n0 bc bs M (pc + 1) (lv') (st)) : J l D dA own cc ws nL ini rt hh fr lo F n0 bc bs M (pc) (lv) (va_rf r :: st) := by
  intro p e R s m args below meth c H locs cells slots MC MS A ad ad0 ls G hP hD hS hl hr
  subst hlv
  cases r with
  | none => exact lv_astore_nN G.1 G.2.1 hd hi hl.has hn rfl (fun ls2 h2 => k p e R s m args below meth c H locs cells slots MC MS A ad ad0 ls2 G hP hD hS (jLs.set1 hk h2) hr)
  | some x => exact lv_astore_n G.1 G.2.1 hd hi hl.has hn rfl (fun ls2 h2 => k p e R s m args below meth c H locs cells slots MC MS A ad ad0 ls2 G hP hD hS (jLs.set1 hk h2) hr)
theorem J_astoreq {i : Nat} {lv' : List Value} {r : Option Nat} (hd : decode cc pc = .ok (.astore i, 2)) (hn : i < nL) (hk : jok lv i = true) (hlv : lv.set i (va_rf r) = lv') (k : J l D dA own cc ws nL ini rt hh fr lo F n0 bc bs M (pc + 2) (lv') (st)) : J l D dA own cc ws nL ini rt hh fr lo F n0 bc bs M (pc) (lv) (va_rf r :: st) := by
  intro p e R s m args below meth c H locs cells slots MC MS A ad ad0 ls G hP hD hS hl hr
  subst hlv
  cases r with
  | none => exact lv_astoreN G.1 G.2.1 hd hl.has hn rfl (fun ls2 h2 => k p e R s m args below meth c H locs cells slots MC MS A ad ad0 ls2 G hP hD hS (jLs.set1 hk h2) hr)
  | some x => exact lv_astore G.1 G.2.1 hd hl.has hn rfl (fun ls2 h2 => k p e R s m args below meth c H locs cells slots MC MS A ad ad0 ls2 G hP hD hS (jLs.set1 hk h2) hr)
theorem J_iinc {i : Nat} {n : Int} {x y : Int32} {lv' : List Value} (hd : decode cc pc = .ok (.iinc i n, 3)) (hx : lv[i]? = some (.int x)) (hy : x + Int32.ofInt n = y) (hn : i < nL) (hk : jok lv i = true) (hlv : lv.set i (.int y) = lv') (k : J l D dA own cc ws nL ini rt hh fr lo F n0 bc bs M (pc + 3) (lv') (st)) : J l D dA own cc ws nL ini rt hh fr lo F n0 bc bs M (pc) (lv) (st) := by
  intro p e R s m args below meth c H locs cells slots MC MS A ad ad0 ls G hP hD hS hl hr
  subst hlv
  obtain ⟨kk, hkk⟩ := List.getElem?_of_mem (jal_mem (dA := dA) (ad := ad) hx rfl)
  exact lv_iinc G.1 G.2.1 hd hl.has hkk hy hn rfl (fun ls2 h2 => k p e R s m args below meth c H locs cells slots MC MS A ad ad0 ls2 G hP hD hS (jLs.set1 hk h2) hr)
theorem J_iadd {x y : Int32} (hd : decode cc pc = .ok (.iadd, 1)) (k : J l D dA own cc ws nL ini rt hh fr lo F n0 bc bs M (pc + 1) (lv) (.int (x + y) :: st)) : J l D dA own cc ws nL ini rt hh fr lo F n0 bc bs M (pc) (lv) (.int y :: .int x :: st) := by
  intro p e R s m args below meth c H locs cells slots MC MS A ad ad0 ls G hP hD hS hl hr
  exact lv_iadd G.1 G.2.1 hd (k p e R s m args below meth c H locs cells slots MC MS A ad ad0 ls G hP hD hS hl hr)
theorem J_isub {x y : Int32} (hd : decode cc pc = .ok (.isub, 1)) (k : J l D dA own cc ws nL ini rt hh fr lo F n0 bc bs M (pc + 1) (lv) (.int (x - y) :: st)) : J l D dA own cc ws nL ini rt hh fr lo F n0 bc bs M (pc) (lv) (.int y :: .int x :: st) := by
  intro p e R s m args below meth c H locs cells slots MC MS A ad ad0 ls G hP hD hS hl hr
  exact lv_isub G.1 G.2.1 hd (k p e R s m args below meth c H locs cells slots MC MS A ad ad0 ls G hP hD hS hl hr)
theorem J_imul {x y : Int32} (hd : decode cc pc = .ok (.imul, 1)) (k : J l D dA own cc ws nL ini rt hh fr lo F n0 bc bs M (pc + 1) (lv) (.int (x * y) :: st)) : J l D dA own cc ws nL ini rt hh fr lo F n0 bc bs M (pc) (lv) (.int y :: .int x :: st) := by
  intro p e R s m args below meth c H locs cells slots MC MS A ad ad0 ls G hP hD hS hl hr
  exact lv_imul G.1 G.2.1 hd (k p e R s m args below meth c H locs cells slots MC MS A ad ad0 ls G hP hD hS hl hr)
theorem J_iand {x y : Int32} (hd : decode cc pc = .ok (.iand, 1)) (k : J l D dA own cc ws nL ini rt hh fr lo F n0 bc bs M (pc + 1) (lv) (.int (x &&& y) :: st)) : J l D dA own cc ws nL ini rt hh fr lo F n0 bc bs M (pc) (lv) (.int y :: .int x :: st) := by
  intro p e R s m args below meth c H locs cells slots MC MS A ad ad0 ls G hP hD hS hl hr
  exact lv_iand G.1 G.2.1 hd (k p e R s m args below meth c H locs cells slots MC MS A ad ad0 ls G hP hD hS hl hr)
theorem J_ior {x y : Int32} (hd : decode cc pc = .ok (.ior, 1)) (k : J l D dA own cc ws nL ini rt hh fr lo F n0 bc bs M (pc + 1) (lv) (.int (x ||| y) :: st)) : J l D dA own cc ws nL ini rt hh fr lo F n0 bc bs M (pc) (lv) (.int y :: .int x :: st) := by
  intro p e R s m args below meth c H locs cells slots MC MS A ad ad0 ls G hP hD hS hl hr
  exact lv_ior G.1 G.2.1 hd (k p e R s m args below meth c H locs cells slots MC MS A ad ad0 ls G hP hD hS hl hr)
theorem J_ixor {x y : Int32} (hd : decode cc pc = .ok (.ixor, 1)) (k : J l D dA own cc ws nL ini rt hh fr lo F n0 bc bs M (pc + 1) (lv) (.int (x ^^^ y) :: st)) : J l D dA own cc ws nL ini rt hh fr lo F n0 bc bs M (pc) (lv) (.int y :: .int x :: st) := by
  intro p e R s m args below meth c H locs cells slots MC MS A ad ad0 ls G hP hD hS hl hr
  exact lv_ixor G.1 G.2.1 hd (k p e R s m args below meth c H locs cells slots MC MS A ad ad0 ls G hP hD hS hl hr)
theorem J_idiv {x y : Int32} (hd : decode cc pc = .ok (.idiv, 1)) (hne : ¬ y = 0) (k : J l D dA own cc ws nL ini rt hh fr lo F n0 bc bs M (pc + 1) (lv) (.int (x / y) :: st)) : J l D dA own cc ws nL ini rt hh fr lo F n0 bc bs M (pc) (lv) (.int y :: .int x :: st) := by
  intro p e R s m args below meth c H locs cells slots MC MS A ad ad0 ls G hP hD hS hl hr
  exact lv_idiv G.1 G.2.1 hd hne (k p e R s m args below meth c H locs cells slots MC MS A ad ad0 ls G hP hD hS hl hr)
theorem J_irem {x y : Int32} (hd : decode cc pc = .ok (.irem, 1)) (hne : ¬ y = 0) (k : J l D dA own cc ws nL ini rt hh fr lo F n0 bc bs M (pc + 1) (lv) (.int (x - x / y * y) :: st)) : J l D dA own cc ws nL ini rt hh fr lo F n0 bc bs M (pc) (lv) (.int y :: .int x :: st) := by
  intro p e R s m args below meth c H locs cells slots MC MS A ad ad0 ls G hP hD hS hl hr
  exact lv_irem G.1 G.2.1 hd hne (k p e R s m args below meth c H locs cells slots MC MS A ad ad0 ls G hP hD hS hl hr)
theorem J_ineg {x : Int32} (hd : decode cc pc = .ok (.ineg, 1)) (k : J l D dA own cc ws nL ini rt hh fr lo F n0 bc bs M (pc + 1) (lv) (.int (-x) :: st)) : J l D dA own cc ws nL ini rt hh fr lo F n0 bc bs M (pc) (lv) (.int x :: st) := by
  intro p e R s m args below meth c H locs cells slots MC MS A ad ad0 ls G hP hD hS hl hr
  exact lv_ineg G.1 G.2.1 hd (k p e R s m args below meth c H locs cells slots MC MS A ad ad0 ls G hP hD hS hl hr)
theorem J_i2c {x : Int32} (hd : decode cc pc = .ok (.i2c, 1)) (k : J l D dA own cc ws nL ini rt hh fr lo F n0 bc bs M (pc + 1) (lv) (.int (x.toUInt32 % 65536).toInt32 :: st)) : J l D dA own cc ws nL ini rt hh fr lo F n0 bc bs M (pc) (lv) (.int x :: st) := by
  intro p e R s m args below meth c H locs cells slots MC MS A ad ad0 ls G hP hD hS hl hr
  exact lv_i2c G.1 G.2.1 hd rfl (k p e R s m args below meth c H locs cells slots MC MS A ad ad0 ls G hP hD hS hl hr)
theorem J_i2b {x : Int32} (hd : decode cc pc = .ok (.i2b, 1)) (k : J l D dA own cc ws nL ini rt hh fr lo F n0 bc bs M (pc + 1) (lv) (.int x.toInt8.toInt32 :: st)) : J l D dA own cc ws nL ini rt hh fr lo F n0 bc bs M (pc) (lv) (.int x :: st) := by
  intro p e R s m args below meth c H locs cells slots MC MS A ad ad0 ls G hP hD hS hl hr
  exact lv_i2b G.1 G.2.1 hd rfl (k p e R s m args below meth c H locs cells slots MC MS A ad ad0 ls G hP hD hS hl hr)
theorem J_i2l {x : Int32} (hd : decode cc pc = .ok (.i2l, 1)) (k : J l D dA own cc ws nL ini rt hh fr lo F n0 bc bs M (pc + 1) (lv) (.long x.toInt64 :: st)) : J l D dA own cc ws nL ini rt hh fr lo F n0 bc bs M (pc) (lv) (.int x :: st) := by
  intro p e R s m args below meth c H locs cells slots MC MS A ad ad0 ls G hP hD hS hl hr
  exact lv_i2l G.1 G.2.1 hd rfl (k p e R s m args below meth c H locs cells slots MC MS A ad ad0 ls G hP hD hS hl hr)
theorem J_i2d {x : Int32} (hd : decode cc pc = .ok (.i2d, 1)) (k : J l D dA own cc ws nL ini rt hh fr lo F n0 bc bs M (pc + 1) (lv) (.double (FP.i2d x) :: st)) : J l D dA own cc ws nL ini rt hh fr lo F n0 bc bs M (pc) (lv) (.int x :: st) := by
  intro p e R s m args below meth c H locs cells slots MC MS A ad ad0 ls G hP hD hS hl hr
  exact lv_i2d G.1 G.2.1 hd (k p e R s m args below meth c H locs cells slots MC MS A ad ad0 ls G hP hD hS hl hr)
theorem J_ddiv {x y : UInt64} (hd : decode cc pc = .ok (.ddiv, 1)) (hne : vf_n64 (FP.ddiv x y)) (k : J l D dA own cc ws nL ini rt hh fr lo F n0 bc bs M (pc + 1) (lv) (.double (FP.ddiv x y) :: st)) : J l D dA own cc ws nL ini rt hh fr lo F n0 bc bs M (pc) (lv) (.double y :: .double x :: st) := by
  intro p e R s m args below meth c H locs cells slots MC MS A ad ad0 ls G hP hD hS hl hr
  exact lv_ddiv G.1 G.2.1 hd hne (k p e R s m args below meth c H locs cells slots MC MS A ad ad0 ls G hP hD hS hl hr)
theorem J_dcmp {x y : UInt64} {op : CmpOp} (hd : decode cc pc = .ok (.dcmp op, 1)) (k : J l D dA own cc ws nL ini rt hh fr lo F n0 bc bs M (pc + 1) (lv) (.int (Op.cmpValue (FP.dcmp x y) op) :: st)) : J l D dA own cc ws nL ini rt hh fr lo F n0 bc bs M (pc) (lv) (.double y :: .double x :: st) := by
  intro p e R s m args below meth c H locs cells slots MC MS A ad ad0 ls G hP hD hS hl hr
  exact lv_dcmp G.1 G.2.1 hd (k p e R s m args below meth c H locs cells slots MC MS A ad ad0 ls G hP hD hS hl hr)
theorem J_lcmp {x y : Int64} (hd : decode cc pc = .ok (.lcmp, 1)) (k : J l D dA own cc ws nL ini rt hh fr lo F n0 bc bs M (pc + 1) (lv) (.int (lg_cmp x y) :: st)) : J l D dA own cc ws nL ini rt hh fr lo F n0 bc bs M (pc) (lv) (.long y :: .long x :: st) := by
  intro p e R s m args below meth c H locs cells slots MC MS A ad ad0 ls G hP hD hS hl hr
  exact W.lcmp G.1 G.2.1 hd (k p e R s m args below meth c H locs cells slots MC MS A ad ad0 ls G hP hD hS hl hr)
theorem J_dup {x : Value} (hd : decode cc pc = .ok (.dup, 1)) (hc : x.category = 1) (k : J l D dA own cc ws nL ini rt hh fr lo F n0 bc bs M (pc + 1) (lv) (x :: x :: st)) : J l D dA own cc ws nL ini rt hh fr lo F n0 bc bs M (pc) (lv) (x :: st) := by
  intro p e R s m args below meth c H locs cells slots MC MS A ad ad0 ls G hP hD hS hl hr
  exact lv_dup G.1 G.2.1 hd ((jv_cat dA ad x).trans hc) (k p e R s m args below meth c H locs cells slots MC MS A ad ad0 ls G hP hD hS hl hr)
theorem J_pop {x : Value} (hd : decode cc pc = .ok (.pop, 1)) (hc : x.category = 1) (k : J l D dA own cc ws nL ini rt hh fr lo F n0 bc bs M (pc + 1) (lv) (st)) : J l D dA own cc ws nL ini rt hh fr lo F n0 bc bs M (pc) (lv) (x :: st) := by
  intro p e R s m args below meth c H locs cells slots MC MS A ad ad0 ls G hP hD hS hl hr
  exact lv_pop G.1 G.2.1 hd ((jv_cat dA ad x).trans hc) (k p e R s m args below meth c H locs cells slots MC MS A ad ad0 ls G hP hD hS hl hr)
theorem J_dup_x1 {x y : Value} (hd : decode cc pc = .ok (.dup_x1, 1)) (hc : x.category = 1) (hc2 : y.category = 1) (k : J l D dA own cc ws nL ini rt hh fr lo F n0 bc bs M (pc + 1) (lv) (x :: y :: x :: st)) : J l D dA own cc ws nL ini rt hh fr lo F n0 bc bs M (pc) (lv) (x :: y :: st) := by
  intro p e R s m args below meth c H locs cells slots MC MS A ad ad0 ls G hP hD hS hl hr
  exact lv_dup_x1 G.1 G.2.1 hd ((jv_cat dA ad x).trans hc) ((jv_cat dA ad y).trans hc2) (k p e R s m args below meth c H locs cells slots MC MS A ad ad0 ls G hP hD hS hl hr)
theorem J_dup2 {x y : Value} (hd : decode cc pc = .ok (.dup2, 1)) (hc : x.category = 1) (hc2 : y.category = 1) (k : J l D dA own cc ws nL ini rt hh fr lo F n0 bc bs M (pc + 1) (lv) (x :: y :: x :: y :: st)) : J l D dA own cc ws nL ini rt hh fr lo F n0 bc bs M (pc) (lv) (x :: y :: st) := by
  intro p e R s m args below meth c H locs cells slots MC MS A ad ad0 ls G hP hD hS hl hr
  exact lv_dup2_11 G.1 G.2.1 hd ((jv_cat dA ad x).trans hc) ((jv_cat dA ad y).trans hc2) (k p e R s m args below meth c H locs cells slots MC MS A ad ad0 ls G hP hD hS hl hr)
theorem J_if_eq {x : Int32} {off : Int} {tgt : Nat} (hd : decode cc pc = .ok (.ifCond .eq off, 3)) (ht : (pc : Int) + off = (tgt : Int)) (kt : x = 0 → J l D dA own cc ws nL ini rt hh fr lo F n0 bc bs M (tgt) (lv) (st)) (kf : ¬ x = 0 → J l D dA own cc ws nL ini rt hh fr lo F n0 bc bs M (pc + 3) (lv) (st)) : J l D dA own cc ws nL ini rt hh fr lo F n0 bc bs M (pc) (lv) (.int x :: st) := by
  intro p e R s m args below meth c H locs cells slots MC MS A ad ad0 ls G hP hD hS hl hr
  exact lv_if_eq G.1 G.2.1 hd ht (fun h => kt h p e R s m args below meth c H locs cells slots MC MS A ad ad0 ls G hP hD hS hl hr) (fun h => kf h p e R s m args below meth c H locs cells slots MC MS A ad ad0 ls G hP hD hS hl hr)
theorem J_icmp_eq {x y : Int32} {off : Int} {tgt : Nat} (hd : decode cc pc = .ok (.if_icmp .eq off, 3)) (ht : (pc : Int) + off = (tgt : Int)) (kt : x = y → J l D dA own cc ws nL ini rt hh fr lo F n0 bc bs M (tgt) (lv) (st)) (kf : ¬ x = y → J l D dA own cc ws nL ini rt hh fr lo F n0 bc bs M (pc + 3) (lv) (st)) : J l D dA own cc ws nL ini rt hh fr lo F n0 bc bs M (pc) (lv) (.int y :: .int x :: st) := by
  intro p e R s m args below meth c H locs cells slots MC MS A ad ad0 ls G hP hD hS hl hr
  exact lv_icmp_eq G.1 G.2.1 hd ht (fun h => kt h p e R s m args below meth c H locs cells slots MC MS A ad ad0 ls G hP hD hS hl hr) (fun h => kf h p e R s m args below meth c H locs cells slots MC MS A ad ad0 ls G hP hD hS hl hr)
theorem J_if_ne {x : Int32} {off : Int} {tgt : Nat} (hd : decode cc pc = .ok (.ifCond .ne off, 3)) (ht : (pc : Int) + off = (tgt : Int)) (kt : ¬ x = 0 → J l D dA own cc ws nL ini rt hh fr lo F n0 bc bs M (tgt) (lv) (st)) (kf : x = 0 → J l D dA own cc ws nL ini rt hh fr lo F n0 bc bs M (pc + 3) (lv) (st)) : J l D dA own cc ws nL ini rt hh fr lo F n0 bc bs M (pc) (lv) (.int x :: st) := by
  intro p e R s m args below meth c H locs cells slots MC MS A ad ad0 ls G hP hD hS hl hr
  exact lv_if_ne G.1 G.2.1 hd ht (fun h => kt h p e R s m args below meth c H locs cells slots MC MS A ad ad0 ls G hP hD hS hl hr) (fun h => kf h p e R s m args below meth c H locs cells slots MC MS A ad ad0 ls G hP hD hS hl hr)
theorem J_icmp_ne {x y : Int32} {off : Int} {tgt : Nat} (hd : decode cc pc = .ok (.if_icmp .ne off, 3)) (ht : (pc : Int) + off = (tgt : Int)) (kt : ¬ x = y → J l D dA own cc ws nL ini rt hh fr lo F n0 bc bs M (tgt) (lv) (st)) (kf : x = y → J l D dA own cc ws nL ini rt hh fr lo F n0 bc bs M (pc + 3) (lv) (st)) : J l D dA own cc ws nL ini rt hh fr lo F n0 bc bs M (pc) (lv) (.int y :: .int x :: st) := by
  intro p e R s m args below meth c H locs cells slots MC MS A ad ad0 ls G hP hD hS hl hr
  exact lv_icmp_ne G.1 G.2.1 hd ht (fun h => kt h p e R s m args below meth c H locs cells slots MC MS A ad ad0 ls G hP hD hS hl hr) (fun h => kf h p e R s m args below meth c H locs cells slots MC MS A ad ad0 ls G hP hD hS hl hr)
theorem J_if_lt {x : Int32} {off : Int} {tgt : Nat} (hd : decode cc pc = .ok (.ifCond .lt off, 3)) (ht : (pc : Int) + off = (tgt : Int)) (kt : x < 0 → J l D dA own cc ws nL ini rt hh fr lo F n0 bc bs M (tgt) (lv) (st)) (kf : ¬ x < 0 → J l D dA own cc ws nL ini rt hh fr lo F n0 bc bs M (pc + 3) (lv) (st)) : J l D dA own cc ws nL ini rt hh fr lo F n0 bc bs M (pc) (lv) (.int x :: st) := by
  intro p e R s m args below meth c H locs cells slots MC MS A ad ad0 ls G hP hD hS hl hr
  exact lv_if_lt G.1 G.2.1 hd ht (fun h => kt h p e R s m args below meth c H locs cells slots MC MS A ad ad0 ls G hP hD hS hl hr) (fun h => kf h p e R s m args below meth c H locs cells slots MC MS A ad ad0 ls G hP hD hS hl hr)
theorem J_icmp_lt {x y : Int32} {off : Int} {tgt : Nat} (hd : decode cc pc = .ok (.if_icmp .lt off, 3)) (ht : (pc : Int) + off = (tgt : Int)) (kt : x < y → J l D dA own cc ws nL ini rt hh fr lo F n0 bc bs M (tgt) (lv) (st)) (kf : ¬ x < y → J l D dA own cc ws nL ini rt hh fr lo F n0 bc bs M (pc + 3) (lv) (st)) : J l D dA own cc ws nL ini rt hh fr lo F n0 bc bs M (pc) (lv) (.int y :: .int x :: st) := by
  intro p e R s m args below meth c H locs cells slots MC MS A ad ad0 ls G hP hD hS hl hr
  exact lv_icmp_lt G.1 G.2.1 hd ht (fun h => kt h p e R s m args below meth c H locs cells slots MC MS A ad ad0 ls G hP hD hS hl hr) (fun h => kf h p e R s m args below meth c H locs cells slots MC MS A ad ad0 ls G hP hD hS hl hr)
theorem J_if_ge {x : Int32} {off : Int} {tgt : Nat} (hd : decode cc pc = .ok (.ifCond .ge off, 3)) (ht : (pc : Int) + off = (tgt : Int)) (kt : 0 ≤ x → J l D dA own cc ws nL ini rt hh fr lo F n0 bc bs M (tgt) (lv) (st)) (kf : ¬ 0 ≤ x → J l D dA own cc ws nL ini rt hh fr lo F n0 bc bs M (pc + 3) (lv) (st)) : J l D dA own cc ws nL ini rt hh fr lo F n0 bc bs M (pc) (lv) (.int x :: st) := by
  intro p e R s m args below meth c H locs cells slots MC MS A ad ad0 ls G hP hD hS hl hr
  exact lv_if_ge G.1 G.2.1 hd ht (fun h => kt h p e R s m args below meth c H locs cells slots MC MS A ad ad0 ls G hP hD hS hl hr) (fun h => kf h p e R s m args below meth c H locs cells slots MC MS A ad ad0 ls G hP hD hS hl hr)
theorem J_icmp_ge {x y : Int32} {off : Int} {tgt : Nat} (hd : decode cc pc = .ok (.if_icmp .ge off, 3)) (ht : (pc : Int) + off = (tgt : Int)) (kt : y ≤ x → J l D dA own cc ws nL ini rt hh fr lo F n0 bc bs M (tgt) (lv) (st)) (kf : ¬ y ≤ x → J l D dA own cc ws nL ini rt hh fr lo F n0 bc bs M (pc + 3) (lv) (st)) : J l D dA own cc ws nL ini rt hh fr lo F n0 bc bs M (pc) (lv) (.int y :: .int x :: st) := by
  intro p e R s m args below meth c H locs cells slots MC MS A ad ad0 ls G hP hD hS hl hr
  exact lv_icmp_ge G.1 G.2.1 hd ht (fun h => kt h p e R s m args below meth c H locs cells slots MC MS A ad ad0 ls G hP hD hS hl hr) (fun h => kf h p e R s m args below meth c H locs cells slots MC MS A ad ad0 ls G hP hD hS hl hr)
theorem J_if_gt {x : Int32} {off : Int} {tgt : Nat} (hd : decode cc pc = .ok (.ifCond .gt off, 3)) (ht : (pc : Int) + off = (tgt : Int)) (kt : 0 < x → J l D dA own cc ws nL ini rt hh fr lo F n0 bc bs M (tgt) (lv) (st)) (kf : ¬ 0 < x → J l D dA own cc ws nL ini rt hh fr lo F n0 bc bs M (pc + 3) (lv) (st)) : J l D dA own cc ws nL ini rt hh fr lo F n0 bc bs M (pc) (lv) (.int x :: st) := by
  intro p e R s m args below meth c H locs cells slots MC MS A ad ad0 ls G hP hD hS hl hr
  exact lv_if_gt G.1 G.2.1 hd ht (fun h => kt h p e R s m args below meth c H locs cells slots MC MS A ad ad0 ls G hP hD hS hl hr) (fun h => kf h p e R s m args below meth c H locs cells slots MC MS A ad ad0 ls G hP hD hS hl hr)
theorem J_icmp_gt {x y : Int32} {off : Int} {tgt : Nat} (hd : decode cc pc = .ok (.if_icmp .gt off, 3)) (ht : (pc : Int) + off = (tgt : Int)) (kt : y < x → J l D dA own cc ws nL ini rt hh fr lo F n0 bc bs M (tgt) (lv) (st)) (kf : ¬ y < x → J l D dA own cc ws nL ini rt hh fr lo F n0 bc bs M (pc + 3) (lv) (st)) : J l D dA own cc ws nL ini rt hh fr lo F n0 bc bs M (pc) (lv) (.int y :: .int x :: st) := by
  intro p e R s m args below meth c H locs cells slots MC MS A ad ad0 ls G hP hD hS hl hr
  exact lv_icmp_gt G.1 G.2.1 hd ht (fun h => kt h p e R s m args below meth c H locs cells slots MC MS A ad ad0 ls G hP hD hS hl hr) (fun h => kf h p e R s m args below meth c H locs cells slots MC MS A ad ad0 ls G hP hD hS hl hr)
theorem J_if_le {x : Int32} {off : Int} {tgt : Nat} (hd : decode cc pc = .ok (.ifCond .le off, 3)) (ht : (pc : Int) + off = (tgt : Int)) (kt : x ≤ 0 → J l D dA own cc ws nL ini rt hh fr lo F n0 bc bs M (tgt) (lv) (st)) (kf : ¬ x ≤ 0 → J l D dA own cc ws nL ini rt hh fr lo F n0 bc bs M (pc + 3) (lv) (st)) : J l D dA own cc ws nL ini rt hh fr lo F n0 bc bs M (pc) (lv) (.int x :: st) := by
  intro p e R s m args below meth c H locs cells slots MC MS A ad ad0 ls G hP hD hS hl hr
  exact lv_if_le G.1 G.2.1 hd ht (fun h => kt h p e R s m args below meth c H locs cells slots MC MS A ad ad0 ls G hP hD hS hl hr) (fun h => kf h p e R s m args below meth c H locs cells slots MC MS A ad ad0 ls G hP hD hS hl hr)
theorem J_icmp_le {x y : Int32} {off : Int} {tgt : Nat} (hd : decode cc pc = .ok (.if_icmp .le off, 3)) (ht : (pc : Int) + off = (tgt : Int)) (kt : x ≤ y → J l D dA own cc ws nL ini rt hh fr lo F n0 bc bs M (tgt) (lv) (st)) (kf : ¬ x ≤ y → J l D dA own cc ws nL ini rt hh fr lo F n0 bc bs M (pc + 3) (lv) (st)) : J l D dA own cc ws nL ini rt hh fr lo F n0 bc bs M (pc) (lv) (.int y :: .int x :: st) := by
  intro p e R s m args below meth c H locs cells slots MC MS A ad ad0 ls G hP hD hS hl hr
  exact lv_icmp_le G.1 G.2.1 hd ht (fun h => kt h p e R s m args below meth c H locs cells slots MC MS A ad ad0 ls G hP hD hS hl hr) (fun h => kf h p e R s m args below meth c H locs cells slots MC MS A ad ad0 ls G hP hD hS hl hr)
theorem J_goto {off : Int} {tgt : Nat} (hd : decode cc pc = .ok (.goto off, 3)) (ht : (pc : Int) + off = (tgt : Int)) (k : J l D dA own cc ws nL ini rt hh fr lo F n0 bc bs M (tgt) (lv) (st)) : J l D dA own cc ws nL ini rt hh fr lo F n0 bc bs M (pc) (lv) (st) := by
  intro p e R s m args below meth c H locs cells slots MC MS A ad ad0 ls G hP hD hS hl hr
  exact lv_goto G.1 G.2.1 hd ht (k p e R s m args below meth c H locs cells slots MC MS A ad ad0 ls G hP hD hS hl hr)
theorem J_ifnull {r : Option Nat} {off : Int} {tgt : Nat} (hd : decode cc pc = .ok (.ifnull off, 3)) (ht : (pc : Int) + off = (tgt : Int)) (kt : r = none → J l D dA own cc ws nL ini rt hh fr lo F n0 bc bs M (tgt) (lv) (st)) (kf : ∀ x, r = some x → J l D dA own cc ws nL ini rt hh fr lo F n0 bc bs M (pc + 3) (lv) (st)) : J l D dA own cc ws nL ini rt hh fr lo F n0 bc bs M (pc) (lv) (va_rf r :: st) := by
  intro p e R s m args below meth c H locs cells slots MC MS A ad ad0 ls G hP hD hS hl hr
  cases r with
  | none => exact lv_ifnullN G.1 G.2.1 hd ht (kt rfl p e R s m args below meth c H locs cells slots MC MS A ad ad0 ls G hP hD hS hl hr)
  | some x => exact lv_ifnull G.1 G.2.1 hd (kf x rfl p e R s m args below meth c H locs cells slots MC MS A ad ad0 ls G hP hD hS hl hr)
theorem J_ifnonnull {r : Option Nat} {off : Int} {tgt : Nat} (hd : decode cc pc = .ok (.ifnonnull off, 3)) (ht : (pc : Int) + off = (tgt : Int)) (kt : ∀ x, r = some x → J l D dA own cc ws nL ini rt hh fr lo F n0 bc bs M (tgt) (lv) (st)) (kf : r = none → J l D dA own cc ws nL ini rt hh fr lo F n0 bc bs M (pc + 3) (lv) (st)) : J l D dA own cc ws nL ini rt hh fr lo F n0 bc bs M (pc) (lv) (va_rf r :: st) := by
  intro p e R s m args below meth c H locs cells slots MC MS A ad ad0 ls G hP hD hS hl hr
  cases r with
  | none => exact lv_ifnonnullN G.1 G.2.1 hd (kf rfl p e R s m args below meth c H locs cells slots MC MS A ad ad0 ls G hP hD hS hl hr)
  | some x => exact lv_ifnonnull G.1 G.2.1 hd ht (kt x rfl p e R s m args below meth c H locs cells slots MC MS A ad ad0 ls G hP hD hS hl hr)
theorem J_tableIn {dflt lo9 hi : Int} {offs : Array Int} {len : Nat} {x : Int32} {off : Int} {tgt : Nat} (hd : decode cc pc = .ok (.tableswitch dflt lo9 hi offs, len)) (h1 : ¬ x.toInt < lo9) (h2 : ¬ hi < x.toInt) (ho : offs[(x.toInt - lo9).toNat]? = some off) (ht : (pc : Int) + off = (tgt : Int)) (k : J l D dA own cc ws nL ini rt hh fr lo F n0 bc bs M (tgt) (lv) (st)) : J l D dA own cc ws nL ini rt hh fr lo F n0 bc bs M (pc) (lv) (.int x :: st) := by
  intro p e R s m args below meth c H locs cells slots MC MS A ad ad0 ls G hP hD hS hl hr
  exact lv_tableIn G.1 G.2.1 hd h1 h2 ho ht (k p e R s m args below meth c H locs cells slots MC MS A ad ad0 ls G hP hD hS hl hr)
theorem J_tableOut {dflt lo9 hi : Int} {offs : Array Int} {len : Nat} {x : Int32} {tgt : Nat} (hd : decode cc pc = .ok (.tableswitch dflt lo9 hi offs, len)) (h : x.toInt < lo9 ∨ hi < x.toInt) (ht : (pc : Int) + dflt = (tgt : Int)) (k : J l D dA own cc ws nL ini rt hh fr lo F n0 bc bs M (tgt) (lv) (st)) : J l D dA own cc ws nL ini rt hh fr lo F n0 bc bs M (pc) (lv) (.int x :: st) := by
  intro p e R s m args below meth c H locs cells slots MC MS A ad ad0 ls G hP hD hS hl hr
  exact lv_tableOut G.1 G.2.1 hd h ht (k p e R s m args below meth c H locs cells slots MC MS A ad ad0 ls G hP hD hS hl hr)
theorem J_lookup {dflt : Int} {ps : Array (Int × Int)} {len : Nat} {x : Int32} {off : Int} {tgt : Nat} (hd : decode cc pc = .ok (.lookupswitch dflt ps, len)) (hp : (ps.toList.zip (ps.toList.drop 1)).all (fun (a, next) => a.1 < next.1) = true) (ho : Op.lookupswitch.offset ps.toList dflt x.toInt = off) (ht : (pc : Int) + off = (tgt : Int)) (k : J l D dA own cc ws nL ini rt hh fr lo F n0 bc bs M (tgt) (lv) (st)) : J l D dA own cc ws nL ini rt hh fr lo F n0 bc bs M (pc) (lv) (.int x :: st) := by
  intro p e R s m args below meth c H locs cells slots MC MS A ad ad0 ls G hP hD hS hl hr
  exact lv_lookup G.1 G.2.1 hd hp ho ht (k p e R s m args below meth c H locs cells slots MC MS A ad ad0 ls G hP hD hS hl hr)
end Rows
