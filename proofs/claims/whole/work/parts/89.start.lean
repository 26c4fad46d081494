/-! THE START: the classes, the arrays' classes, the constant texts, the statics, out of the tables and of what is given -/
theorem st_f {args : Array Value} {s : State} (hs : ∀ w ∈ flatC (Jvm.Cond.and given_1 narrow_1), w.before args s = true) {k : Nat} {w : Cond} (h : (flatC (Jvm.Cond.and given_1 narrow_1))[k]? = some w) : w.before args s = true := hs _ (List.mem_of_getElem? h)
theorem st_arrP {args : Array Value} {s : State} {ty : FieldType} (h : (Cond.arrayClass ty).before args s = true) : ∃ c, ArrOfT s c ty ∧ s.vm.findClass ("[" ++ ty.toString) = some c := by
  obtain ⟨c, k, comp, h1, h2, h3⟩ := Cond.arrayClass_spec h
  exact ⟨c, fun N z => ⟨(fun k9 h9 => by cases h9), k, h2, comp, h3⟩, h1⟩
theorem st_arrO {args : Array Value} {s : State} {C : String} (h : (Cond.arrayOver (.object C)).before args s = true) : ∃ c, ArrOfT s c (.object C) ∧ va_RA s c (.object C) := by
  obtain ⟨comp, c, k, h1, -, h2, h3, h4⟩ := Cond.arrayOver_spec h
  exact ⟨c, fun N z => ⟨(fun k9 h9 => by cases h9), k, h2, comp, h3⟩, k, comp, h2, h3, h1, h4⟩
theorem st_i32 (x : Int32) : Int32.ofNat x.toUInt32.toNat = x := by
  obtain ⟨⟨b⟩⟩ := x
  show (⟨⟨BitVec.ofNat 32 b.toNat⟩⟩ : Int32) = ⟨⟨b⟩⟩
  rw [BitVec.ofNat_toNat, BitVec.setWidth_eq]
theorem st_OFv {o n d : String} {v w : Value} {a : Nat} {A : Nat → Prop} {U : State} {H : Heap} (h1 : va_OF o n d v a A U H) (h2 : va_OF o n d w a A U H) : v = w := by
  obtain ⟨cf, k, i, f, cell, p1, -, p3, -, p5, -⟩ := h1
  obtain ⟨cf', k', i', f', cell', q1, -, q3, -, q5, -⟩ := h2
  cases p1.symm.trans q1
  cases p3.symm.trans q3
  exact Option.some.inj (p5.symm.trans q5)
/-- a constant text's cells -/
theorem st_str {args : Array Value} {s : State} {A : Nat → Prop} (tm : Term) (N : Nat) (f : Nat → Int32) (hN : N < 2 ^ 31) (hex : (Cond.exactly tm "java/lang/String").before args s = true) (hco : (Cond.eq (.field tm "java/lang/String" "coder" "B") (.int 0)).before args s = true)
    (har : (Cond.arrayOf (.field tm "java/lang/String" "value" "[B") .byte).before args s = true) (hle : (Cond.eq (.length (.field tm "java/lang/String" "value" "[B")) (.int (Int32.ofNat N))).before args s = true)
    (hel : ∀ j, j < N → (Cond.eq (.elem (.field tm "java/lang/String" "value" "[B") (.int (Int32.ofNat j))) (.int (f j))).before args s = true) (hA : ∀ a : Nat, a < s.heap.size → ¬ A a) :
    ∃ a t : Nat, tm.eval args s none [] s = some (.ref a) ∧ va_O "java/lang/String" a A s s.heap ∧ va_OF "java/lang/String" "coder" "B" (.int 0) a A s s.heap ∧ va_OF "java/lang/String" "value" "[B" (.ref t) a A s s.heap ∧ va_T .byte t N (fun j => .int (f j)) A s s.heap := by
  obtain ⟨a, c, cA, kA, q1, q2, q3, -, q5, q6, -⟩ := Cond.exactly_spec hex
  obtain ⟨t, ht, hT⟩ := va_Tof (f := fun j => .int (f j)) (A := A) hN har (va_eqt hle) (fun j hj => va_eqt (hel j hj)) hA
  exact ⟨a, t, q1, ⟨cA, q3, q5, by rw [q6]; exact q2, hA a (Array.getElem?_eq_some_iff.mp q3).1⟩, vk_OFof q1 (va_eqt hco) hA, vk_OFof q1 ht hA, hT⟩
/-- tables of unlike lengths, or with an unlike first byte, aren't one -/
theorem st_Tn {t N N' : Nat} {f g : Nat → Value} {A : Nat → Prop} {U : State} {H : Heap} (h1 : va_T .byte t N f A U H) (h2 : va_T .byte t N' g A U H) (h0 : 0 < N) (h0' : 0 < N') : Int32.ofNat N = Int32.ofNat N' ∧ f 0 = g 0 := by
  obtain ⟨c, p1, -, -, -, p5, p6, -⟩ := h1
  obtain ⟨c', q1, -, -, -, q5, q6, -⟩ := h2
  cases p1.symm.trans q1
  exact ⟨p5.symm.trans q5, Option.some.inj ((p6 0 h0).symm.trans (q6 0 h0'))⟩
def st_dA (la lb : List Nat) (xs : Nat → Int32) : Nat → Nat := fun q => if q < 100 then la.getD q 0 else if q < 200 then lb.getD (q - 100) 0 else (xs (q - 200)).toUInt32.toNat
theorem st_dAs (la lb : List Nat) (xs : Nat → Int32) : (fun j => Int32.ofNat (st_dA la lb xs (200 + j))) = xs := funext fun j => by
  unfold st_dA
  rw [if_neg (by omega), if_neg (by omega), Nat.add_sub_cancel_left]
  exact st_i32 _
theorem st_cl : ∀ q ∈ vwCl, (∀ w ∈ u_ws q.1 q.2.1 q.2.2, w ∈ lw_tb2) ∧ ∃ n, Cond.instantiable q.1 n ∈ lw_tb2 :=
  List.forall_mem_cons.mpr ⟨⟨lwc_wsJ00, 4, (lw_atm (q := (2, 21)) (by decide +kernel))⟩,
    List.forall_mem_cons.mpr ⟨⟨lwc_wsJ40, 4, (lw_atm (q := (1, 81)) (by decide +kernel))⟩,
    List.forall_mem_cons.mpr ⟨⟨lwc_wsJx000600, 6, (lw_atm (q := (2, 3)) (by decide +kernel))⟩,
    List.forall_mem_cons.mpr ⟨⟨lwc_wsJx7c7330, 6, (lw_atm (q := (4, 138)) (by decide +kernel))⟩,
    List.forall_mem_cons.mpr ⟨⟨lwc_wsX00, 4, (lw_atm (q := (4, 63)) (by decide +kernel))⟩,
    List.forall_mem_cons.mpr ⟨⟨lwc_wsX10, 10, (lw_atm (q := (3, 60)) (by decide +kernel))⟩,
    List.forall_mem_cons.mpr ⟨⟨lwc_wsX20, 3, (lw_atm (q := (1, 62)) (by decide +kernel))⟩,
    List.forall_mem_cons.mpr ⟨⟨lwc_wsX30, 1, (lw_atm (q := (2, 67)) (by decide +kernel))⟩,
    List.forall_mem_cons.mpr ⟨⟨lwc_wsX40, 7, (lw_atm (q := (2, 49)) (by decide +kernel))⟩,
    List.forall_mem_cons.mpr ⟨⟨lwc_wsX50, 3, (lw_atm (q := (1, 42)) (by decide +kernel))⟩,
    List.forall_mem_cons.mpr ⟨⟨lwc_wsX70, 10, (lw_atm (q := (1, 34)) (by decide +kernel))⟩,
    List.forall_mem_cons.mpr ⟨⟨lwc_wsX80, 31, (lw_atm (q := (6, 128)) (by decide +kernel))⟩,
    fun _ h => absurd h List.not_mem_nil⟩⟩⟩⟩⟩⟩⟩⟩⟩⟩⟩⟩
theorem st_D {args : Array Value} {s : State} (hts : ∀ w ∈ lw_tb2, w.before args s = true) : ∃ D : va_G, ∀ (c : Nat) (q : vw_C), vwCl[c]? = some q → u_Kn s q.1 q.2.1 q.2.2 (D.1 c) (D.2 c) := by
  have h : ∀ c : Nat, ∃ z : ClassId × (Nat → Nat), ∀ q, vwCl[c]? = some q → u_Kn s q.1 q.2.1 q.2.2 z.1 z.2 := fun c => by
    cases hq : vwCl[c]? with
    | none => exact ⟨(0, fun _ => 0), fun q h9 => by cases h9⟩
    | some q0 =>
      obtain ⟨h1, n, h2⟩ := st_cl q0 (List.mem_of_getElem? hq)
      obtain ⟨cC, iS, hk⟩ := u_known hts h1 (hts _ h2)
      exact ⟨(cC, iS), fun q h9 => by cases h9; exact hk⟩
  obtain ⟨f, hf⟩ := Classical.axiomOfChoice h
  exact ⟨(fun c => (f c).1, fun c => (f c).2), fun c q hq => hf c q hq⟩
theorem st_ss : ∀ q ∈ jStrs, Cond.stringRef q.1 q.2.1 q.2.2 ∈ lw_tb2 ∧ Cond.exactly (.string q.1 q.2.1) "java/lang/String" ∈ flatC (Jvm.Cond.and given_1 narrow_1) :=
  List.forall_mem_cons.mpr ⟨⟨(lw_atm (q := (1, 213)) (by decide +kernel)), (List.mem_of_getElem? (i := 353) (by decide +kernel))⟩,
    List.forall_mem_cons.mpr ⟨⟨(lw_atm (q := (2, 44)) (by decide +kernel)), (List.mem_of_getElem? (i := 380) (by decide +kernel))⟩,
    List.forall_mem_cons.mpr ⟨⟨(lw_atm (q := (2, 235)) (by decide +kernel)), (List.mem_of_getElem? (i := 405) (by decide +kernel))⟩,
    List.forall_mem_cons.mpr ⟨⟨(lw_atm (q := (3, 19)) (by decide +kernel)), (List.mem_of_getElem? (i := 429) (by decide +kernel))⟩,
    List.forall_mem_cons.mpr ⟨⟨(lw_atm (q := (3, 181)) (by decide +kernel)), (List.mem_of_getElem? (i := 452) (by decide +kernel))⟩,
    List.forall_mem_cons.mpr ⟨⟨(lw_atm (q := (3, 182)) (by decide +kernel)), (List.mem_of_getElem? (i := 480) (by decide +kernel))⟩,
    List.forall_mem_cons.mpr ⟨⟨(lw_atm (q := (3, 224)) (by decide +kernel)), (List.mem_of_getElem? (i := 527) (by decide +kernel))⟩,
    List.forall_mem_cons.mpr ⟨⟨(lw_atm (q := (3, 238)) (by decide +kernel)), (List.mem_of_getElem? (i := 548) (by decide +kernel))⟩,
    List.forall_mem_cons.mpr ⟨⟨(lw_atm (q := (4, 41)) (by decide +kernel)), (List.mem_of_getElem? (i := 573) (by decide +kernel))⟩,
    List.forall_mem_cons.mpr ⟨⟨(lw_atm (q := (4, 61)) (by decide +kernel)), (List.mem_of_getElem? (i := 615) (by decide +kernel))⟩,
    List.forall_mem_cons.mpr ⟨⟨(lw_atm (q := (5, 185)) (by decide +kernel)), (List.mem_of_getElem? (i := 768) (by decide +kernel))⟩,
    List.forall_mem_cons.mpr ⟨⟨(lw_atm (q := (5, 203)) (by decide +kernel)), (List.mem_of_getElem? (i := 794) (by decide +kernel))⟩,
    List.forall_mem_cons.mpr ⟨⟨(lw_atm (q := (5, 211)) (by decide +kernel)), (List.mem_of_getElem? (i := 817) (by decide +kernel))⟩,
    List.forall_mem_cons.mpr ⟨⟨(lw_atm (q := (5, 212)) (by decide +kernel)), (List.mem_of_getElem? (i := 845) (by decide +kernel))⟩,
    List.forall_mem_cons.mpr ⟨⟨(lw_atm (q := (6, 12)) (by decide +kernel)), (List.mem_of_getElem? (i := 874) (by decide +kernel))⟩,
    List.forall_mem_cons.mpr ⟨⟨(lw_atm (q := (6, 26)) (by decide +kernel)), (List.mem_of_getElem? (i := 900) (by decide +kernel))⟩,
    List.forall_mem_cons.mpr ⟨⟨(lw_atm (q := (6, 60)) (by decide +kernel)), (List.mem_of_getElem? (i := 945) (by decide +kernel))⟩,
    List.forall_mem_cons.mpr ⟨⟨(lw_atm (q := (6, 98)) (by decide +kernel)), (List.mem_of_getElem? (i := 972) (by decide +kernel))⟩,
    List.forall_mem_cons.mpr ⟨⟨(lw_atm (q := (6, 110)) (by decide +kernel)), (List.mem_of_getElem? (i := 1000) (by decide +kernel))⟩,
    List.forall_mem_cons.mpr ⟨⟨(lw_atm (q := (6, 122)) (by decide +kernel)), (List.mem_of_getElem? (i := 1021) (by decide +kernel))⟩,
    fun _ h => absurd h List.not_mem_nil⟩⟩⟩⟩⟩⟩⟩⟩⟩⟩⟩⟩⟩⟩⟩⟩⟩⟩⟩⟩
theorem st_nc : ∀ q ∈ jNcs, Cond.not (.castable q.1 q.2) ∈ flatC (Jvm.Cond.and given_1 narrow_1) :=
  List.forall_mem_cons.mpr ⟨(List.mem_of_getElem? (i := 223) (by decide +kernel)),
    List.forall_mem_cons.mpr ⟨(List.mem_of_getElem? (i := 226) (by decide +kernel)),
    List.forall_mem_cons.mpr ⟨(List.mem_of_getElem? (i := 227) (by decide +kernel)),
    List.forall_mem_cons.mpr ⟨(List.mem_of_getElem? (i := 229) (by decide +kernel)),
    List.forall_mem_cons.mpr ⟨(List.mem_of_getElem? (i := 233) (by decide +kernel)),
    List.forall_mem_cons.mpr ⟨(List.mem_of_getElem? (i := 239) (by decide +kernel)),
    List.forall_mem_cons.mpr ⟨(List.mem_of_getElem? (i := 242) (by decide +kernel)),
    List.forall_mem_cons.mpr ⟨(List.mem_of_getElem? (i := 243) (by decide +kernel)),
    List.forall_mem_cons.mpr ⟨(List.mem_of_getElem? (i := 245) (by decide +kernel)),
    List.forall_mem_cons.mpr ⟨(List.mem_of_getElem? (i := 248) (by decide +kernel)),
    List.forall_mem_cons.mpr ⟨(List.mem_of_getElem? (i := 254) (by decide +kernel)),
    List.forall_mem_cons.mpr ⟨(List.mem_of_getElem? (i := 256) (by decide +kernel)),
    List.forall_mem_cons.mpr ⟨(List.mem_of_getElem? (i := 259) (by decide +kernel)),
    List.forall_mem_cons.mpr ⟨(List.mem_of_getElem? (i := 261) (by decide +kernel)),
    List.forall_mem_cons.mpr ⟨(List.mem_of_getElem? (i := 265) (by decide +kernel)),
    List.forall_mem_cons.mpr ⟨(List.mem_of_getElem? (i := 271) (by decide +kernel)),
    List.forall_mem_cons.mpr ⟨(List.mem_of_getElem? (i := 273) (by decide +kernel)),
    List.forall_mem_cons.mpr ⟨(List.mem_of_getElem? (i := 276) (by decide +kernel)),
    List.forall_mem_cons.mpr ⟨(List.mem_of_getElem? (i := 278) (by decide +kernel)),
    List.forall_mem_cons.mpr ⟨(List.mem_of_getElem? (i := 282) (by decide +kernel)),
    List.forall_mem_cons.mpr ⟨(List.mem_of_getElem? (i := 288) (by decide +kernel)),
    List.forall_mem_cons.mpr ⟨(List.mem_of_getElem? (i := 290) (by decide +kernel)),
    List.forall_mem_cons.mpr ⟨(List.mem_of_getElem? (i := 293) (by decide +kernel)),
    List.forall_mem_cons.mpr ⟨(List.mem_of_getElem? (i := 294) (by decide +kernel)),
    List.forall_mem_cons.mpr ⟨(List.mem_of_getElem? (i := 299) (by decide +kernel)),
    List.forall_mem_cons.mpr ⟨(List.mem_of_getElem? (i := 305) (by decide +kernel)),
    List.forall_mem_cons.mpr ⟨(List.mem_of_getElem? (i := 307) (by decide +kernel)),
    List.forall_mem_cons.mpr ⟨(List.mem_of_getElem? (i := 310) (by decide +kernel)),
    List.forall_mem_cons.mpr ⟨(List.mem_of_getElem? (i := 311) (by decide +kernel)),
    List.forall_mem_cons.mpr ⟨(List.mem_of_getElem? (i := 313) (by decide +kernel)),
    fun _ h => absurd h List.not_mem_nil⟩⟩⟩⟩⟩⟩⟩⟩⟩⟩⟩⟩⟩⟩⟩⟩⟩⟩⟩⟩⟩⟩⟩⟩⟩⟩⟩⟩⟩⟩
theorem st_dOnes : ∀ j, j < 100 → (flatC (Jvm.Cond.and given_1 narrow_1))[14 + j]? = some (Cond.eq (.elem (.static "java/lang/Integer" "DigitOnes" "[B") (.int (Int32.ofNat j))) (.int (nI (48 + j % 10)))) := by decide +kernel
theorem st_dTens : ∀ j, j < 100 → (flatC (Jvm.Cond.and given_1 narrow_1))[117 + j]? = some (Cond.eq (.elem (.static "java/lang/Integer" "DigitTens" "[B") (.int (Int32.ofNat j))) (.int (nI (48 + j / 10)))) := by decide +kernel
