/-- which exceptions a call may end with -/
def lIn (e : List String) (r : jO) : Prop := ∀ E, r = oX E → E ∈ e
theorem lIn.i {e : List String} {y : Int32} : lIn e (oI y) := fun _ h => nomatch h
theorem lIn.v {e : List String} : lIn e oV := fun _ h => nomatch h
theorem lIn.d {e : List String} {y : UInt64} : lIn e (oD y) := fun _ h => nomatch h
theorem lIn.x {e : List String} {E : String} (h : E ∈ e) : lIn e (oX E) := fun E2 h2 => by cases h2; exact h
theorem lIn.ite {e : List String} {c : Prop} [Decidable c] {a b : jO} (h1 : lIn e a) (h2 : lIn e b) : lIn e (if c then a else b) := by split; exact h1; exact h2
theorem lIn.itr {e : List String} {c : Prop} [Decidable c] {a b : cR} (h1 : lIn e a.1) (h2 : lIn e b.1) : lIn e (if c then a else b).1 := by split; exact h1; exact h2
theorem lIn.sl {e : List String} {x : Int32} {o : jO} (h : xIOOBE ∈ e) (h2 : lIn e o) : lIn e (oSl x o) := lIn.ite h2 (lIn.x h)
theorem lIn.ve {e : List String} {x : Int32} {o : jO} (h : xIAE ∈ e) (h2 : lIn e o) : lIn e (oVe x o) := lIn.ite h2 (lIn.x h)
theorem lIn.rn {e : List String} {A : cA} {x : Int32} {f : rVl → jO} (h : xNSE ∈ e) (h2 : ∀ w, lIn e (f w)) : lIn e (oRn A x f) := by
  unfold oRn
  split
  · exact lIn.x h
  · exact h2 _
theorem lIn.ssl {e : List String} {x : Int32} {A : cA} {R : cR} (h : xIOOBE ∈ e) (h2 : lIn e R.1) : lIn e (sSl x A R).1 := lIn.itr h2 (lIn.x h)
theorem lIn.sve {e : List String} {x : Int32} {A : cA} {R : cR} (h : xIAE ∈ e) (h2 : lIn e R.1) : lIn e (sVe x A R).1 := lIn.itr h2 (lIn.x h)
theorem lIn.srn {e : List String} {A : cA} {x : Int32} {f : rVl → cR} (h : xNSE ∈ e) (h2 : ∀ w, lIn e (f w).1) : lIn e (sRn A x f).1 := by
  unfold sRn
  split
  · exact lIn.x h
  · exact h2 _
theorem lIn_append {A : cA} {c : Int32} : lIn [xISE] (sApp A c).1 := lIn.itr (lIn.x (by simp)) lIn.v
theorem lIn_read {A : cA} {x : Int32} : lIn [xIOOBE, xIAE, xUOE] (sRead A x).1 := lIn.ssl (by simp) (lIn.itr (lIn.itr (lIn.x (by simp)) (lIn.itr (lIn.x (by simp)) lIn.i)) (lIn.x (by simp)))
theorem lIn_evaluate {A : cA} {x : Int32} : lIn [xIOOBE, xIAE, xUOE] (sEval A x).1 := lIn.ssl (by simp) (lIn.itr (by
  unfold sEvW
  split
  · exact lIn.x (by simp)
  · exact lIn.x (by simp)
  · exact lIn.i) (lIn.x (by simp)))
theorem lIn_put {A : cA} {x y z : Int32} : lIn [xIOOBE, xIAE] (sPut A x y z).1 := lIn.ssl (by simp) (lIn.sve (by simp) (lIn.sve (by simp) (lIn.itr (lIn.x (by simp)) lIn.i)))
theorem lIn_clear {A : cA} {x : Int32} : lIn [xIOOBE] (sClr A x).1 := lIn.ssl (by simp) lIn.i
theorem lIn_copy {A : cA} {x y : Int32} : lIn [xIOOBE] (sCpy A x y).1 := lIn.ssl (by simp) (lIn.ssl (by simp) lIn.i)
theorem lIn_spans {A : cA} {x : Int32} : lIn [xIOOBE, xNSE] (oSl x (oRn A x (fun w => oI (nI w.1)))) := lIn.sl (by simp) (lIn.rn (by simp) (fun _ => lIn.i))
theorem lIn_end {A : cA} {x y : Int32} {b : Bool} : lIn [xIOOBE, xNSE] (oSl x (oRn A x (fun w => oEnd w y b))) := lIn.sl (by simp) (lIn.rn (by simp) (fun _ => lIn.ite (lIn.x (by simp)) (lIn.ite lIn.i (lIn.x (by simp)))))
theorem lIn_size {A : cA} {x : Int32} : lIn [xIOOBE, xNSE] (oSl x (oRn A x (fun w => oI (rSize w.2 w.1 w.1)))) := lIn.sl (by simp) (lIn.rn (by simp) (fun _ => lIn.i))
theorem lIn_contains {A : cA} {x y : Int32} {b : Bool} : lIn [xIOOBE, xIAE, xNSE] (oSl x (oVe y (oRn A x (fun w => oI (jb (rHoldsFor w.2 w.1 b y)))))) := lIn.sl (by simp) (lIn.ve (by simp) (lIn.rn (by simp) (fun _ => lIn.i)))
theorem lIn_from {A : cA} {x y : Int32} : lIn [xIOOBE, xIAE, xNSE] (oSl x (oVe y (oRn A x (fun w => if rLeast w.2 w.1 y = -1 then oX xNSE else oI (rLeast w.2 w.1 y))))) := lIn.sl (by simp) (lIn.ve (by simp) (lIn.rn (by simp) (fun _ => lIn.ite (lIn.x (by simp)) lIn.i)))
theorem lIn_relation {A : cA} {x y : Int32} : lIn [xIOOBE, xNSE] (sRel A x y).1 := lIn.ssl (by simp) (lIn.ssl (by simp) (lIn.srn (by simp) (fun _ => lIn.srn (by simp) (fun _ => lIn.i))))
theorem lIn_agrees {A : cA} {x y z op : Int32} : lIn [xIOOBE, xIAE, xNSE] (sAgr A x y z op).1 := lIn.ssl (by simp) (lIn.ssl (by simp) (lIn.ssl (by simp) (lIn.itr (lIn.srn (by simp) (fun _ => lIn.srn (by simp) (fun _ => lIn.srn (by simp) (fun _ => lIn.i)))) (lIn.x (by simp)))))
theorem lIn_limit {y : Int32} {b : Bool} : lIn [xIAE] (oLm y b) := lIn.ve (by simp) lIn.i
theorem lIn_textLength {A : cA} {x : Int32} : lIn [xIOOBE, xNSE] (sTl A x).1 := lIn.ssl (by simp) (lIn.srn (by simp) (fun _ => lIn.i))
theorem lIn_text {A : cA} {x y : Int32} : lIn [xIOOBE, xNSE] (sTx A x y).1 := lIn.ssl (by simp) (lIn.srn (by simp) (fun _ => lIn.ite (lIn.x (by simp)) (lIn.ite lIn.i (lIn.x (by simp)))))
theorem lIn_refusal {A : cA} : lIn [xNSE] (oRf A) := lIn.ite (lIn.x (by simp)) lIn.i
theorem lIn_cause {A : cA} {y : Int32} : lIn [xISE, xNSE] (oCa A y) := by
  unfold oCa
  split
  · exact lIn.x (e := [xISE, xNSE]) (by simp)
  · exact lIn.ite (e := [xISE, xNSE]) lIn.i (lIn.ite (lIn.x (by simp)) (lIn.ite lIn.i (lIn.x (by simp))))
theorem lIn_publish {A : cA} {x : Int32} : lIn [xIAE, xUOE] (sPub A x).1 := lIn.sve (by simp) (lIn.itr (lIn.x (by simp)) (lIn.itr (lIn.x (by simp)) lIn.i))
theorem lIn_withdraw {A : cA} {x : Int32} : lIn [xIAE, xUOE] (sWdr A x).1 := lIn.sve (by simp) (lIn.itr lIn.i (lIn.x (by simp)))
theorem lIn_published {A : cA} {y : Int32} : lIn [xNSE] (oPb A y) := lIn.ite (lIn.x (by simp)) (lIn.ite lIn.i (lIn.x (by simp)))
theorem lIn_best {A : cA} {x : Int32} {b : Bool} : lIn [xIOOBE, xNSE] (oBe A x b) := lIn.sl (by simp) (lIn.rn (by simp) (fun _ => lIn.ite (lIn.x (by simp)) lIn.i))
theorem lIn_matching {A : cA} {x : Int32} {b : Bool} : lIn [xIOOBE, xNSE] (oMa A x b) := lIn.sl (by simp) (lIn.rn (by simp) (fun _ => lIn.i))
theorem lIn_share {A : cA} {x : Int32} : lIn [xIOOBE, xNSE, xAE] (oSh A x) := lIn.sl (by simp) (lIn.rn (by simp) (fun _ => lIn.ite (lIn.x (by simp)) lIn.d))
theorem lIn_account {A : cA} {y : Int32} : lIn [xIAE] (oAc A y) := lIn.ite lIn.i (lIn.ite lIn.i (lIn.ite lIn.i (lIn.ite lIn.i (lIn.ite lIn.i (lIn.ite lIn.i (lIn.ite lIn.i (lIn.ite lIn.i (lIn.x (by simp)))))))))
theorem lIn_undo {A : cA} : lIn [xISE] (sUnd A).1 := lIn.itr (lIn.x (by simp)) lIn.i
theorem lIn_restore {A : cA} : lIn [xISE] (sRes A).1 := lIn.itr lIn.v (lIn.x (by simp))
/-- what the law's call leaves: the class's memory K, and the number that the law keeps -/
def lPr (M : jM) (v : Nat) (A2 : cA) (r : jO) (e : List String) (g : jM → jM → jO → Prop) : jP := fun o M1 => ∃ K, jAb K v A2 ∧ jFv v M K ∧ ((o = oI 0 ∧ g K M1 r) ∨ ∃ k E, e[k]? = some E ∧ k < 3 ∧ r = oX E ∧ o = oI (nI (k + 1)) ∧ M1 = K)
def lgI (s : Nat) : jM → jM → jO → Prop := fun K M1 r => ∃ y : Int32, r = oI y ∧ M1 = jSl K s 0 y.toInt64
def lgZ (s : Nat) : jM → jM → jO → Prop := fun K M1 r => ∃ y : Int32, r = oI y ∧ M1 = jSl K s 0 (if y = 0 then 0 else 1)
def lgD (s : Nat) : jM → jM → jO → Prop := fun K M1 r => ∃ y : UInt64, r = oD y ∧ M1 = jSd K s 0 y
def lgV : jM → jM → jO → Prop := fun K M1 r => r = oV ∧ M1 = K
theorem lca_xIOOBE : Cond.castable xIOOBE "java/lang/IndexOutOfBoundsException" ∈ jNws := List.mem_filter.mpr ⟨by decide +kernel, rfl⟩
theorem lnc_xIOOBE_xIAE : (xIOOBE, "java/lang/IllegalArgumentException") ∈ jNcs := by decide +kernel
theorem lnc_xIOOBE_xISE : (xIOOBE, "java/lang/IllegalStateException") ∈ jNcs := by decide +kernel
theorem lnc_xIOOBE_xNSE : (xIOOBE, "java/util/NoSuchElementException") ∈ jNcs := by decide +kernel
theorem lnc_xIOOBE_xUOE : (xIOOBE, "java/lang/UnsupportedOperationException") ∈ jNcs := by decide +kernel
theorem lnc_xIOOBE_xAE : (xIOOBE, "java/lang/ArithmeticException") ∈ jNcs := by decide +kernel
theorem lca_xIAE : Cond.castable xIAE "java/lang/IllegalArgumentException" ∈ jNws := List.mem_filter.mpr ⟨by decide +kernel, rfl⟩
theorem lnc_xIAE_xIOOBE : (xIAE, "java/lang/IndexOutOfBoundsException") ∈ jNcs := by decide +kernel
theorem lnc_xIAE_xISE : (xIAE, "java/lang/IllegalStateException") ∈ jNcs := by decide +kernel
theorem lnc_xIAE_xNSE : (xIAE, "java/util/NoSuchElementException") ∈ jNcs := by decide +kernel
theorem lnc_xIAE_xUOE : (xIAE, "java/lang/UnsupportedOperationException") ∈ jNcs := by decide +kernel
theorem lnc_xIAE_xAE : (xIAE, "java/lang/ArithmeticException") ∈ jNcs := by decide +kernel
theorem lca_xISE : Cond.castable xISE "java/lang/IllegalStateException" ∈ jNws := List.mem_filter.mpr ⟨by decide +kernel, rfl⟩
theorem lnc_xISE_xIOOBE : (xISE, "java/lang/IndexOutOfBoundsException") ∈ jNcs := by decide +kernel
theorem lnc_xISE_xIAE : (xISE, "java/lang/IllegalArgumentException") ∈ jNcs := by decide +kernel
theorem lnc_xISE_xNSE : (xISE, "java/util/NoSuchElementException") ∈ jNcs := by decide +kernel
theorem lnc_xISE_xUOE : (xISE, "java/lang/UnsupportedOperationException") ∈ jNcs := by decide +kernel
theorem lnc_xISE_xAE : (xISE, "java/lang/ArithmeticException") ∈ jNcs := by decide +kernel
theorem lca_xNSE : Cond.castable xNSE "java/util/NoSuchElementException" ∈ jNws := List.mem_filter.mpr ⟨by decide +kernel, rfl⟩
theorem lnc_xNSE_xIOOBE : (xNSE, "java/lang/IndexOutOfBoundsException") ∈ jNcs := by decide +kernel
theorem lnc_xNSE_xIAE : (xNSE, "java/lang/IllegalArgumentException") ∈ jNcs := by decide +kernel
theorem lnc_xNSE_xISE : (xNSE, "java/lang/IllegalStateException") ∈ jNcs := by decide +kernel
theorem lnc_xNSE_xUOE : (xNSE, "java/lang/UnsupportedOperationException") ∈ jNcs := by decide +kernel
theorem lnc_xNSE_xAE : (xNSE, "java/lang/ArithmeticException") ∈ jNcs := by decide +kernel
theorem lca_xUOE : Cond.castable xUOE "java/lang/UnsupportedOperationException" ∈ jNws := List.mem_filter.mpr ⟨by decide +kernel, rfl⟩
theorem lnc_xUOE_xIOOBE : (xUOE, "java/lang/IndexOutOfBoundsException") ∈ jNcs := by decide +kernel
theorem lnc_xUOE_xIAE : (xUOE, "java/lang/IllegalArgumentException") ∈ jNcs := by decide +kernel
theorem lnc_xUOE_xISE : (xUOE, "java/lang/IllegalStateException") ∈ jNcs := by decide +kernel
theorem lnc_xUOE_xNSE : (xUOE, "java/util/NoSuchElementException") ∈ jNcs := by decide +kernel
theorem lnc_xUOE_xAE : (xUOE, "java/lang/ArithmeticException") ∈ jNcs := by decide +kernel
theorem lca_xAE : Cond.castable xAE "java/lang/ArithmeticException" ∈ jNws := List.mem_filter.mpr ⟨by decide +kernel, rfl⟩
theorem lnc_xAE_xIOOBE : (xAE, "java/lang/IndexOutOfBoundsException") ∈ jNcs := by decide +kernel
theorem lnc_xAE_xIAE : (xAE, "java/lang/IllegalArgumentException") ∈ jNcs := by decide +kernel
theorem lnc_xAE_xISE : (xAE, "java/lang/IllegalStateException") ∈ jNcs := by decide +kernel
theorem lnc_xAE_xNSE : (xAE, "java/util/NoSuchElementException") ∈ jNcs := by decide +kernel
theorem lnc_xAE_xUOE : (xAE, "java/lang/UnsupportedOperationException") ∈ jNcs := by decide +kernel
