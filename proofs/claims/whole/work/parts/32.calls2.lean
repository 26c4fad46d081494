def sPut (A : cA) (x y z : Int32) : cR := sSl x A (sVe y A (sVe z A (if z < y then (oX xIAE, A) else (oI (z - y + 1), cPut A x.toNatClampNeg (some (1, fun j => if j = 0 then y else z))))))
def sClr (A : cA) (x : Int32) : cR := sSl x A (oI (jb (cAt (cNw A) x).isSome), cPut A x.toNatClampNeg none)
def cFull (z : cSt) : Nat := jcnt (fun j => (z.1 j).isSome) 12
def sCpy (A : cA) (x y : Int32) : cR := sSl x A (sSl y A (oI (nI (cFull (cNw (cPut A y.toNatClampNeg (cAt (cNw A) x))))), cPut A y.toNatClampNeg (cAt (cNw A) x)))
def cIns (f : Nat → Int32) (p : Nat) (x : Int32) : Nat → Int32 := fun j => if j < p then f j else if j = p then x else f (j - 1)
def cDel (f : Nat → Int32) (p : Nat) : Nat → Int32 := fun j => if j < p then f j else f (j + 1)
def cIsP (z : cSt) (x : Int32) : Bool := decide (stAt z.2.2 z.2.1 (stPlace z.2.2 z.2.1 x) = x)
def cPub (A : cA) (x : Int32) : cA := cNwS (cKeep A) ((cNw A).1, (cNw A).2.1 + 1, cIns (cNw A).2.2 (stPlace (cNw A).2.2 (cNw A).2.1 x) x)
def cWdr (A : cA) (x : Int32) : cA := cNwS (cKeep A) ((cNw A).1, (cNw A).2.1 - 1, cDel (cNw A).2.2 (stPlace (cNw A).2.2 (cNw A).2.1 x))
def sPub (A : cA) (x : Int32) : cR := sVe x A (if 30 ≤ (cNw A).2.1 then (oX xUOE, cRef A 4) else if cIsP (cNw A) x then (oX xUOE, cRef A 5) else (oI (nI ((cNw A).2.1 + 1)), cPub A x))
def sWdr (A : cA) (x : Int32) : cR := sVe x A (if cIsP (cNw A) x then (oI (nI ((cNw A).2.1 - 1)), cWdr A x) else (oX xUOE, cRef A 5))
def sUnd (A : cA) : cR := if cKp A = 0 then (oX xISE, A) else (oI (nI (cKp A - 1)), cUnd A)
def sSav (A : cA) : cR := (oV, cSav A)
def sRes (A : cA) : cR := if cHs A then (oV, cRes A) else (oX xISE, A)
theorem stPlace_congr {f f' : Nat → Int32} {c : Nat} (h : ∀ j, j < c → f j = f' j) (x : Int32) : stPlace f c x = stPlace f' c x :=
  jfind_congr _ _ (fun j _ hj => by rw [h j (by omega)])
theorem cIsP_eq {M : jM} {s : Nat} {z : cSt} (h : jSt M s z) (x : Int32) : decide (stAt (ji M (s + 2)) z.2.1 (stPlace (ji M (s + 2)) z.2.1 x) = x) = cIsP z x := by
  unfold cIsP stAt
  rw [stPlace_congr h.2.2]
  by_cases hp : stPlace z.2.2 z.2.1 x < z.2.1
  · rw [if_pos hp, if_pos hp, h.2.2 _ hp]
  · rw [if_neg hp, if_neg hp]
theorem cIsP_lt {z : cSt} {x : Int32} (h : cIsP z x = true) (hx : okVer x = true) : stPlace z.2.2 z.2.1 x < z.2.1 := by
  unfold cIsP stAt at h
  by_cases hp : stPlace z.2.2 z.2.1 x < z.2.1
  · exact hp
  · rw [if_neg hp] at h
    have h2 := of_decide_eq_true h
    subst h2
    exact absurd hx (by decide)
/-- the published versions anew: the object's state otherwise as it was -/
theorem jAb.ver {M : jM} {v : Nat} {A : cA} {g : Nat → Int32} {n : Nat} {f : Nat → Int32} (h : jAb M v A) (hn : n ≤ 30) (hg : ∀ j, j < n → g j = f j) : jAb (jSi (jSv M (v + 2 + 2) g) (v + 2) 2 (nI n)) v (cNwS A ((cNw A).1, n, f)) ∧ jFv v M (jSi (jSv M (v + 2 + 2) g) (v + 2) 2 (nI n)) := by
  obtain ⟨g1, g2, g3, g4, g5, g6, ⟨nx, g7, g8⟩, g9⟩ := h
  have hrow : ∀ a, a ≠ v + 2 → a ≠ v + 2 + 2 → ji (jSi (jSv M (v + 2 + 2) g) (v + 2) 2 (nI n)) a = ji M a := fun a h1 h2 => funext fun j => by rw [ji_Si, if_neg (fun h => h1 h.1), ji_Sv, if_neg h2]
  have hf : jFv v M (jSi (jSv M (v + 2 + 2) g) (v + 2) 2 (nI n)) := ⟨Nat.le_refl _, fun _ _ => ⟨rfl, rfl⟩, fun a _ hv _ => ⟨hrow a (by omega) (by omega), rfl, rfl, rfl⟩, fun a _ hv _ h9 => h9.eq (hrow a (by omega) (by omega))⟩
  have rk := hf.rk g1
  have lt := Nat.le_trans (Nat.add_le_add_left (show 36 ≤ 52 by decide) _) g1.1
  refine ⟨⟨g1.fv hf, g2, g3.same rfl rfl rfl (hrow _ (by omega) (by omega)) (hrow _ (by omega) (by omega)), g4.fv hf rfl, ?_, g6.rk rk ⟨rfl, by rw [hrow _ (by omega) (by omega)]⟩ rfl (hrow _ (by omega) (by omega)), ⟨nx, g7.fv hf.1 hf.2.1 ⟨rfl, hrow _ (by omega) (by omega)⟩ rfl (fun j hj => ⟨rfl, hrow _ (by omega) (by omega)⟩), fun i hi => ?_⟩, g9.rk hf.1 hf.2.1 rfl (hrow _ (by omega) (by omega)) hf.sb⟩, hf⟩
  · obtain ⟨⟨a1, a2, a3, a4, a5, a6, a7, a8, a9, a10⟩, b, c⟩ := g5
    refine ⟨⟨a1, a2, a3, a4, a5, a6, a7, a8, ?_, hn⟩, fun j hj => ⟨(b j hj).1.rk rk, (b j hj).2⟩, fun j hj => ?_⟩
    · rw [ji_Si, if_pos ⟨rfl, rfl⟩]; rfl
    · rw [ji_Si, if_neg (fun h => by omega), ji_Sv, if_pos rfl]; exact hg j hj
  · exact (g8 i hi).rk rk ⟨rfl, by rw [hrow _ (by omega) (by omega)]⟩ rfl (hrow _ (by omega) (by omega))
theorem jAb.pub {M : jM} {v : Nat} {A : cA} {x : Int32} (h : jAb M v A) (hc : (cNw A).2.1 < 30) (z : cSt) (hz : z = ((cNw A).1, (cNw A).2.1 + 1, cIns (cNw A).2.2 (stPlace (cNw A).2.2 (cNw A).2.1 x) x)) (M1 : jM)
    (hM : M1 = if 30 ≤ (cNw A).2.1 then M else jSi (jSi (jSv M (v + 2 + 2) (va_cpy (ji M (v + 2 + 2)) (ji M (v + 2 + 2)) (stPlace (ji M (v + 2 + 2)) (cNw A).2.1 x) (stPlace (ji M (v + 2 + 2)) (cNw A).2.1 x + 1) ((cNw A).2.1 - stPlace (ji M (v + 2 + 2)) (cNw A).2.1 x))) (v + 2 + 2) (stPlace (ji M (v + 2 + 2)) (cNw A).2.1 x) x) (v + 2) 2 (nI ((cNw A).2.1 + 1))) : jAb M1 v (cNwS A z) ∧ jFv v M M1 := by
  have hp := stPlace_le (cNw A).2.2 (cNw A).2.1 x
  have hc2 := h.2.2.2.2.1.2.2
  rw [if_neg (by omega), stPlace_congr hc2, jSi_Sv] at hM
  subst hM hz
  refine h.ver (by omega) (fun j hj => ?_)
  unfold cIns va_cpy
  by_cases h1 : j = stPlace (cNw A).2.2 (cNw A).2.1 x
  · rw [if_pos h1, if_neg (by omega), if_pos h1]
  · rw [if_neg h1]
    by_cases h2 : j < stPlace (cNw A).2.2 (cNw A).2.1 x
    · rw [if_pos h2, if_neg (by omega)]; exact hc2 j (by omega)
    · rw [if_neg h2, if_neg h1, if_pos (by omega)]
      rw [show stPlace (cNw A).2.2 (cNw A).2.1 x + (j - (stPlace (cNw A).2.2 (cNw A).2.1 x + 1)) = j - 1 from by omega]
      exact hc2 (j - 1) (by omega)
theorem jAb.wdr {M : jM} {v : Nat} {A : cA} {x : Int32} (h : jAb M v A) (hp : stPlace (cNw A).2.2 (cNw A).2.1 x < (cNw A).2.1) (z : cSt) (hz : z = ((cNw A).1, (cNw A).2.1 - 1, cDel (cNw A).2.2 (stPlace (cNw A).2.2 (cNw A).2.1 x))) (M1 : jM)
    (hM : M1 = if (cNw A).2.1 ≤ stPlace (ji M (v + 2 + 2)) (cNw A).2.1 x then M else jSi (jSv M (v + 2 + 2) (va_cpy (ji M (v + 2 + 2)) (ji M (v + 2 + 2)) (stPlace (ji M (v + 2 + 2)) (cNw A).2.1 x + 1) (stPlace (ji M (v + 2 + 2)) (cNw A).2.1 x) ((cNw A).2.1 - stPlace (ji M (v + 2 + 2)) (cNw A).2.1 x - 1))) (v + 2) 2 (nI ((cNw A).2.1 - 1))) : jAb M1 v (cNwS A z) ∧ jFv v M M1 := by
  have hc2 := h.2.2.2.2.1.2.2
  have h30 := h.2.2.2.2.1.1.2.2.2.2.2.2.2.2.2
  rw [stPlace_congr hc2, if_neg (by omega)] at hM
  subst hM hz
  refine h.ver (by omega) (fun j hj => ?_)
  unfold cDel va_cpy
  by_cases h2 : j < stPlace (cNw A).2.2 (cNw A).2.1 x
  · rw [if_pos h2, if_neg (by omega)]; exact hc2 j (by omega)
  · rw [if_neg h2, if_pos (by omega)]
    rw [show stPlace (cNw A).2.2 (cNw A).2.1 x + 1 + (j - stPlace (cNw A).2.2 (cNw A).2.1 x) = j + 1 from by omega]
    exact hc2 (j + 1) (by omega)
theorem dX7_put_0 : decode cX7_put 0 = .ok (.iload_n 1, 1) := by decide +kernel
theorem dX7_put_1 : decode cX7_put 1 = .ok (.invokestatic 62, 3) := by decide +kernel
set_option maxRecDepth 20000 in
theorem ggX7_put_X7_checkSlot : GoodIn wsX7_put wsX7_checkSlot := goodIn_ca (goodIn_r _ [6, 7, 8] (by decide +kernel) (by decide +kernel)) (goodIn_sub (fun _ h => List.mem_cons_of_mem _ (List.mem_append_left _ (List.mem_append_right _ h))) (by decide +kernel))
set_option maxRecDepth 20000 in
theorem gX7_put_X7_checkSlot : GoodIn wsX7_put (va_wsS RX7 62 yX7_checkSlot wsX7_checkSlot) := goodIn_app (goodIn_of _ (by decide +kernel)) ggX7_put_X7_checkSlot
theorem dX7_put_4 : decode cX7_put 4 = .ok (.iload_n 2, 1) := by decide +kernel
theorem dX7_put_5 : decode cX7_put 5 = .ok (.invokestatic 119, 3) := by decide +kernel
set_option maxRecDepth 20000 in
theorem ggX7_put_X7_checkVersion : GoodIn wsX7_put wsX7_checkVersion := goodIn_ca (goodIn_r _ [11, 1, 2, 12] (by decide +kernel) (by decide +kernel)) (goodIn_sub (fun _ h => List.mem_cons_of_mem _ (List.mem_append_left _ (List.mem_append_left _ (List.mem_append_right _ h)))) (by decide +kernel))
set_option maxRecDepth 20000 in
theorem gX7_put_X7_checkVersion : GoodIn wsX7_put (va_wsS RX7 119 yX7_checkVersion wsX7_checkVersion) := goodIn_app (goodIn_of _ (by decide +kernel)) ggX7_put_X7_checkVersion
theorem dX7_put_8 : decode cX7_put 8 = .ok (.iload_n 3, 1) := by decide +kernel
theorem dX7_put_9 : decode cX7_put 9 = .ok (.invokestatic 119, 3) := by decide +kernel
theorem dX7_put_12 : decode cX7_put 12 = .ok (.iload_n 3, 1) := by decide +kernel
theorem dX7_put_13 : decode cX7_put 13 = .ok (.iload_n 2, 1) := by decide +kernel
theorem dX7_put_14 : decode cX7_put 14 = .ok (.if_icmp .ge 13, 3) := by decide +kernel
theorem dX7_put_27 : decode cX7_put 27 = .ok (.aload_n 0, 1) := by decide +kernel
theorem dX7_put_28 : decode cX7_put 28 = .ok (.iload_n 1, 1) := by decide +kernel
theorem dX7_put_29 : decode cX7_put 29 = .ok (.iload_n 2, 1) := by decide +kernel
theorem dX7_put_30 : decode cX7_put 30 = .ok (.iload_n 3, 1) := by decide +kernel
theorem dX7_put_31 : decode cX7_put 31 = .ok (.invokestatic 127, 3) := by decide +kernel
set_option maxRecDepth 20000 in
theorem ggX7_put_X3_ofSpan : GoodIn wsX7_put wsX3_ofSpan := goodIn_ca (goodIn_r _ [16, 17, 18, 15, 19, 20, 21, 22, 23, 24, 25, 26, 65] (by decide +kernel) (by decide +kernel)) (goodIn_sub (fun _ h => List.mem_cons_of_mem _ (List.mem_append_right _ h)) (by decide +kernel))
set_option maxRecDepth 20000 in
theorem gX7_put_X3_ofSpan : GoodIn wsX7_put (va_wsS RX7 127 yX3_ofSpan wsX3_ofSpan) := goodIn_app (goodIn_of _ (by decide +kernel)) ggX7_put_X3_ofSpan
theorem dX7_put_34 : decode cX7_put 34 = .ok (.invokevirtual 94, 3) := by decide +kernel
set_option maxRecDepth 20000 in
theorem ggX7_put_X7_change : GoodIn wsX7_put wsX7_change := goodIn_r _ [30, 31, 32, 33, 34, 35, 36, 37, 38, 39, 40, 41, 42, 43, 44, 45, 46, 47, 48, 49, 50, 51, 52, 53, 54, 55, 56, 57, 58, 59, 60, 61, 62, 63, 64, 66, 67, 68, 69, 70, 71, 72, 73, 74, 75, 76, 77, 78, 79, 80, 81] (by decide +kernel) (by decide +kernel)
set_option maxRecDepth 20000 in
theorem gX7_put_X7_change : GoodIn wsX7_put (wsV RX7 94 RX7 yX7_change wsX7_change) := goodIn_app (goodIn_of _ (by decide +kernel)) ggX7_put_X7_change
theorem yY_X7_change : jY yX7_change wsX7_change cX7_change 3 none 2 := ⟨⟨_, rfl⟩, by decide +kernel, by decide +kernel, by decide +kernel⟩
theorem dX7_put_37 : decode cX7_put 37 = .ok (.iload_n 3, 1) := by decide +kernel
theorem dX7_put_38 : decode cX7_put 38 = .ok (.iload_n 2, 1) := by decide +kernel
theorem dX7_put_39 : decode cX7_put 39 = .ok (.isub, 1) := by decide +kernel
theorem dX7_put_40 : decode cX7_put 40 = .ok (.iconst 1, 1) := by decide +kernel
theorem dX7_put_41 : decode cX7_put 41 = .ok (.iadd, 1) := by decide +kernel
theorem dX7_put_42 : decode cX7_put 42 = .ok (.ireturn, 1) := by decide +kernel
theorem dX7_put_17 : decode cX7_put 17 = .ok (.new 122, 3) := by decide +kernel
theorem thr_RX7_126_124_s : (RX7, 124, "the last version is less than the first one") ∈ jStrs := List.mem_of_getElem? (i := 5) rfl
theorem dX7_put_20 : decode cX7_put 20 = .ok (.dup, 1) := by decide +kernel
theorem dX7_put_21 : decode cX7_put 21 = .ok (.ldc 124, 2) := by decide +kernel
theorem dX7_put_23 : decode cX7_put 23 = .ok (.invokespecial 126, 3) := by decide +kernel
theorem dX7_put_26 : decode cX7_put 26 = .ok (.athrow, 1) := by decide +kernel
set_option maxHeartbeats 400000 in
set_option maxRecDepth 20000 in
theorem ct_X7_put (l : Launch) (D : va_G) (dA : Nat → ClassId) (hst : l.stackTraces = false) (M : jM) (v : Nat) (A : cA) (hA : jAb M v A) (x y z : Int32) : jCT l D dA yX7_put wsX7_put (25) (600) (8) (60) 1 [.ref (v), .int (x), .int (y), .int (z)] M (jPr M v (sPut A x y z)) := by
  refine jBody (cc := cX7_put) (nL := 4) (rt := (some .int)) (ini := false) (by decide) rfl hst (Nat.le_of_ble_eq_true rfl) (by simp [Value.category]) (by intro h9; first | exact absurd h9 (by decide) | rfl) ?_
  show J l D dA RX7 cX7_put wsX7_put 4 false (some .int) [] (25) (600) (jF D dA (jn M) (jPr M v (sPut A x y z)) 1) (jn M) (8) (60) (M) 0 [.ref (v), .int (x), .int (y), .int (z)] []
  obtain ⟨g1, g2, g3, g4, g5, g6, g7, g9⟩ := id hA
  obtain ⟨gx, gH, g8⟩ := id g7
  obtain ⟨ga1, ga2, ga3, ga4, ga5, ga6, ga7, ga8, ga9, ga10, ga11, ga12, ga13⟩ := id g3
  have gc30 := g5.1.2.2.2.2.2.2.2.2.2
  refine J_iload_n dX7_put_0 rfl rfl ?_
  rcases Bool.eq_false_or_eq_true (okSlot ((x))) with ok1 | ok1
  · refine J_callvB (jrunS (As := [.int (x)]) (ct_X7_checkSlot l D dA hst M ((x))) dX7_put_1 yY_X7_checkSlot gX7_put_X7_checkSlot rfl ⟨by omega, by omega⟩ ⟨by omega, by omega⟩ rfl (Nat.le_of_ble_eq_true rfl)) (if_pos ok1) (rfl) ⟨by omega, by omega⟩ ?_
    refine J_iload_n dX7_put_4 rfl rfl ?_
    rcases Bool.eq_false_or_eq_true (okVer ((y))) with ok5 | ok5
    · refine J_callvB (jrunS (As := [.int (y)]) (ct_X7_checkVersion l D dA hst M ((y))) dX7_put_5 yY_X7_checkVersion gX7_put_X7_checkVersion rfl ⟨by omega, by omega⟩ ⟨by omega, by omega⟩ rfl (Nat.le_of_ble_eq_true rfl)) (if_pos ok5) (rfl) ⟨by omega, by omega⟩ ?_
      refine J_iload_n dX7_put_8 rfl rfl ?_
      rcases Bool.eq_false_or_eq_true (okVer ((z))) with ok9 | ok9
      · refine J_callvB (jrunS (As := [.int (z)]) (ct_X7_checkVersion l D dA hst M ((z))) dX7_put_9 yY_X7_checkVersion gX7_put_X7_checkVersion rfl ⟨by omega, by omega⟩ ⟨by omega, by omega⟩ rfl (Nat.le_of_ble_eq_true rfl)) (if_pos ok9) (rfl) ⟨by omega, by omega⟩ ?_
        refine J_iload_n dX7_put_12 rfl rfl ?_
        refine J_iload_n dX7_put_13 rfl rfl ?_
        refine J_icmp_ge dX7_put_14 (tgt := 27) (by decide) (fun c14 => ?_) (fun c14 => ?_)
        · refine J_aload_n (v) dX7_put_27 rfl rfl ?_
          refine J_iload_n dX7_put_28 rfl rfl ?_
          refine J_iload_n dX7_put_29 rfl rfl ?_
          refine J_iload_n dX7_put_30 rfl rfl ?_
          refine J_callq (jrunS (As := [.int (y), .int (z)]) (ct_X3_ofSpan l D dA hst M g2 ((y)) ((z))) dX7_put_31 yY_X3_ofSpan gX7_put_X3_ofSpan rfl ⟨by omega, by omega⟩ ⟨by omega, by omega⟩ rfl (Nat.le_of_ble_eq_true rfl)) ⟨by omega, by omega⟩ (Or.inr ⟨(jOk.ref (show v < jn M from by have := g1.1; omega) (jOk.int (jOk.int (jOk.int jOk.nil)))), (jOk.int (jOk.ref (show v < jn M from by have := g1.1; omega) jOk.nil))⟩) (fun E M9 hp _ => by obtain ⟨_, h1, _⟩ := hp; cases h1) (fun x9 M2 hp31 hle31 => ?_)
          obtain ⟨t2, h31, hO2⟩ := hp31
          have hx9 := jR_inj h31
          subst hx9
          rw [if_pos (show (y) ≤ (z) from c14)] at hO2
          have hAM2 := hA.ext hO2.1 hO2.2.1
          obtain ⟨m1, m2, m3, m4, m5, m6, m7, m9⟩ := id hAM2
          obtain ⟨mx, mH, m8⟩ := id m7
          obtain ⟨ma1, ma2, ma3, ma4, ma5, ma6, ma7, ma8, ma9, ma10, ma11, ma12, ma13⟩ := id m3
          have mc30 := m5.1.2.2.2.2.2.2.2.2.2
          have h1n : 1 ≤ 16 := by decide
          have hV2 : jVa M2 (some t2) (some ((1, fun j => if j = 0 then (y) else (z)) : rVl)) := ⟨hO2.2.2.1, hO2.2.2.2.2⟩
          refine J_callv (jrunV (As := [.int (x), .ref (t2)]) (ct_X7_change l D dA hst M2 v A hAM2 ((x)) ok1 (some t2) (some ((1, fun j => if j = 0 then y else z) : rVl)) hV2 (fun w hw => by cases hw; exact Nat.le_of_ble_eq_true rfl)) dX7_put_34 yY_X7_change gX7_put_X7_change rfl cs10 (show v < jn M2 from by have := m1.1; omega) m1.2.1 rfl ⟨by omega, by omega⟩ ⟨Nat.zero_le _, Nat.zero_le _⟩ rfl (Nat.le_of_ble_eq_true rfl)) ⟨Nat.zero_le _, Nat.zero_le _⟩ (Or.inr ⟨(jOk.ref (show v < jn M2 from by have := m1.1; omega) (jOk.int (jOk.int (jOk.int jOk.nil)))), jOk.nil⟩) (fun E M9 hp _ => by cases hp.1) (fun K hp34 hle34 => ?_)
          obtain ⟨-, hAK, hfK⟩ := hp34
          obtain ⟨k1, k2, k3, k4, k5, k6, k7, k9⟩ := id hAK
          obtain ⟨kx, kH, k8⟩ := id k7
          obtain ⟨ka1, ka2, ka3, ka4, ka5, ka6, ka7, ka8, ka9, ka10, ka11, ka12, ka13⟩ := id k3
          have kc30 := k5.1.2.2.2.2.2.2.2.2.2
          refine J_iload_n dX7_put_37 rfl rfl ?_
          refine J_iload_n dX7_put_38 rfl rfl ?_
          refine J_isub dX7_put_39 ?_
          refine J_iconst (x := 1) dX7_put_40 (by decide) ?_
          refine J_iadd dX7_put_41 ?_
          exact J_iret (ty := .int) dX7_put_42 rfl (rfl) (by first | (unfold sPut; rw [sSl_t ok1, sVe_t ok5, sVe_t ok9]; rw [if_pos (Int32.not_le.mp c14)]; exact ⟨rfl, hAK, (hO2.1.fv).tr hfK⟩) | (unfold sPut; rw [sSl_t ok1, sVe_t ok5, sVe_t ok9]; rw [if_neg (Int32.not_lt.mpr c14)]; exact ⟨rfl, hAK, (hO2.1.fv).tr hfK⟩) | (unfold sPut; rw [sSl_t ok1, sVe_t ok5, sVe_t ok9]; exact ⟨rfl, hAK, (hO2.1.fv).tr hfK⟩) | fail "leaf")
        · exact J_throwS (E := "java/lang/IllegalArgumentException") (text := "the last version is less than the first one") (names := ["java/lang/RuntimeException", "java/lang/Exception"]) (by decide) (by decide) dX7_put_17 dX7_put_20 dX7_put_21 dX7_put_23 dX7_put_26 (List.mem_of_getElem? (i := 1) rfl) (List.mem_of_getElem? (i := 2) rfl) thr_RX7_126_124_s (fun _ h => List.mem_cons_of_mem _ (List.mem_append_left _ (List.mem_append_left _ (List.mem_append_right _ (h))))) thr_RX7_126 thr_RX7_126_g rfl (Nat.le_of_ble_eq_true rfl) (by first | decide | (simp only [List.length_cons, List.length_nil]; omega)) (by first | decide | (simp only [List.length_cons, List.length_nil]; omega)) (by omega) (by omega) (by first | (unfold sPut; rw [sSl_t ok1, sVe_t ok5, sVe_t ok9]; rw [if_pos (Int32.not_le.mp c14)]; exact ⟨rfl, hA, jFv.rf⟩) | (unfold sPut; rw [sSl_t ok1, sVe_t ok5, sVe_t ok9]; rw [if_neg (Int32.not_lt.mpr c14)]; exact ⟨rfl, hA, jFv.rf⟩) | (unfold sPut; rw [sSl_t ok1, sVe_t ok5, sVe_t ok9]; exact ⟨rfl, hA, jFv.rf⟩) | fail "leaf")
      · refine J_callvX (jrunS (As := [.int (z)]) (ct_X7_checkVersion l D dA hst M ((z))) dX7_put_9 yY_X7_checkVersion gX7_put_X7_checkVersion rfl ⟨by omega, by omega⟩ ⟨by omega, by omega⟩ rfl (Nat.le_of_ble_eq_true rfl)) (if_neg (by rw [ok9]; decide)) ⟨by omega, by omega⟩ (Or.inl rfl) ?_
        exact JX_out rfl (by first | (unfold sPut; rw [sSl_t ok1, sVe_t ok5, sVe_f ok9]; rw [if_pos (Int32.not_le.mp c14)]; exact ⟨rfl, hA, jFv.rf⟩) | (unfold sPut; rw [sSl_t ok1, sVe_t ok5, sVe_f ok9]; rw [if_neg (Int32.not_lt.mpr c14)]; exact ⟨rfl, hA, jFv.rf⟩) | (unfold sPut; rw [sSl_t ok1, sVe_t ok5, sVe_f ok9]; exact ⟨rfl, hA, jFv.rf⟩) | fail "leaf")
    · refine J_callvX (jrunS (As := [.int (y)]) (ct_X7_checkVersion l D dA hst M ((y))) dX7_put_5 yY_X7_checkVersion gX7_put_X7_checkVersion rfl ⟨by omega, by omega⟩ ⟨by omega, by omega⟩ rfl (Nat.le_of_ble_eq_true rfl)) (if_neg (by rw [ok5]; decide)) ⟨by omega, by omega⟩ (Or.inl rfl) ?_
      exact JX_out rfl (by first | (unfold sPut; rw [sSl_t ok1, sVe_f ok5]; rw [if_pos (Int32.not_le.mp c14)]; exact ⟨rfl, hA, jFv.rf⟩) | (unfold sPut; rw [sSl_t ok1, sVe_f ok5]; rw [if_neg (Int32.not_lt.mpr c14)]; exact ⟨rfl, hA, jFv.rf⟩) | (unfold sPut; rw [sSl_t ok1, sVe_f ok5]; exact ⟨rfl, hA, jFv.rf⟩) | fail "leaf")
  · refine J_callvX (jrunS (As := [.int (x)]) (ct_X7_checkSlot l D dA hst M ((x))) dX7_put_1 yY_X7_checkSlot gX7_put_X7_checkSlot rfl ⟨by omega, by omega⟩ ⟨by omega, by omega⟩ rfl (Nat.le_of_ble_eq_true rfl)) (if_neg (by rw [ok1]; decide)) ⟨by omega, by omega⟩ (Or.inl rfl) ?_
    exact JX_out rfl (by first | (unfold sPut; rw [sSl_f ok1]; rw [if_pos (Int32.not_le.mp c14)]; exact ⟨rfl, hA, jFv.rf⟩) | (unfold sPut; rw [sSl_f ok1]; rw [if_neg (Int32.not_lt.mpr c14)]; exact ⟨rfl, hA, jFv.rf⟩) | (unfold sPut; rw [sSl_f ok1]; exact ⟨rfl, hA, jFv.rf⟩) | fail "leaf")

theorem dX7_clear_0 : decode cX7_clear 0 = .ok (.iload_n 1, 1) := by decide +kernel
theorem dX7_clear_1 : decode cX7_clear 1 = .ok (.invokestatic 62, 3) := by decide +kernel
set_option maxRecDepth 20000 in
theorem ggX7_clear_X7_checkSlot : GoodIn wsX7_clear wsX7_checkSlot := goodIn_ca (goodIn_r _ [5, 6, 7] (by decide +kernel) (by decide +kernel)) (goodIn_sub (fun _ h => List.mem_cons_of_mem _ (List.mem_append_right _ h)) (by decide +kernel))
set_option maxRecDepth 20000 in
theorem gX7_clear_X7_checkSlot : GoodIn wsX7_clear (va_wsS RX7 62 yX7_checkSlot wsX7_checkSlot) := goodIn_app (goodIn_of _ (by decide +kernel)) ggX7_clear_X7_checkSlot
theorem dX7_clear_4 : decode cX7_clear 4 = .ok (.aload_n 0, 1) := by decide +kernel
theorem dX7_clear_5 : decode cX7_clear 5 = .ok (.getfield 30, 3) := by decide +kernel
theorem dX7_clear_8 : decode cX7_clear 8 = .ok (.iload_n 1, 1) := by decide +kernel
theorem dX7_clear_9 : decode cX7_clear 9 = .ok (.invokevirtual 131, 3) := by decide +kernel
set_option maxRecDepth 20000 in
theorem ggX7_clear_X5_rangeIn : GoodIn wsX7_clear wsX5_rangeIn := goodIn_r _ [12, 13, 59, 60, 61] (by decide +kernel) (by decide +kernel)
set_option maxRecDepth 20000 in
theorem gX7_clear_X5_rangeIn : GoodIn wsX7_clear (wsV RX7 131 RX5 yX5_rangeIn wsX5_rangeIn) := goodIn_app (goodIn_of _ (by decide +kernel)) ggX7_clear_X5_rangeIn
theorem dX7_clear_12 : decode cX7_clear 12 = .ok (.ifnull 7, 3) := by decide +kernel
theorem dX7_clear_19 : decode cX7_clear 19 = .ok (.iconst 0, 1) := by decide +kernel
theorem dX7_clear_20 : decode cX7_clear 20 = .ok (.istore_n 2, 1) := by decide +kernel
theorem dX7_clear_21 : decode cX7_clear 21 = .ok (.aload_n 0, 1) := by decide +kernel
theorem dX7_clear_22 : decode cX7_clear 22 = .ok (.iload_n 1, 1) := by decide +kernel
theorem dX7_clear_23 : decode cX7_clear 23 = .ok (.aconst_null, 1) := by decide +kernel
theorem dX7_clear_24 : decode cX7_clear 24 = .ok (.invokevirtual 94, 3) := by decide +kernel
set_option maxRecDepth 20000 in
theorem ggX7_clear_X7_change : GoodIn wsX7_clear wsX7_change := goodIn_r _ [17, 18, 1, 19, 20, 21, 22, 23, 24, 25, 26, 27, 28, 29, 30, 31, 32, 33, 11, 34, 13, 35, 36, 37, 38, 39, 40, 41, 42, 43, 44, 45, 46, 47, 48, 49, 50, 51, 52, 53, 54, 55, 56, 57, 58, 62, 63, 64, 59, 60, 61] (by decide +kernel) (by decide +kernel)
set_option maxRecDepth 20000 in
theorem gX7_clear_X7_change : GoodIn wsX7_clear (wsV RX7 94 RX7 yX7_change wsX7_change) := goodIn_app (goodIn_of _ (by decide +kernel)) ggX7_clear_X7_change
theorem dX7_clear_27 : decode cX7_clear 27 = .ok (.iload_n 2, 1) := by decide +kernel
theorem dX7_clear_28 : decode cX7_clear 28 = .ok (.ireturn, 1) := by decide +kernel
theorem dX7_clear_15 : decode cX7_clear 15 = .ok (.iconst 1, 1) := by decide +kernel
theorem dX7_clear_16 : decode cX7_clear 16 = .ok (.goto 4, 3) := by decide +kernel
set_option maxHeartbeats 400000 in
set_option maxRecDepth 20000 in
theorem ct_X7_clear (l : Launch) (D : va_G) (dA : Nat → ClassId) (hst : l.stackTraces = false) (M : jM) (v : Nat) (A : cA) (hA : jAb M v A) (x : Int32) : jCT l D dA yX7_clear wsX7_clear (25) (600) (6) (40) 1 [.ref (v), .int (x)] M (jPr M v (sClr A x)) := by
  refine jBody (cc := cX7_clear) (nL := 3) (rt := (some .boolean)) (ini := false) (by decide) rfl hst (Nat.le_of_ble_eq_true rfl) (by simp [Value.category]) (by intro h9; first | exact absurd h9 (by decide) | rfl) ?_
  show J l D dA RX7 cX7_clear wsX7_clear 3 false (some .boolean) [] (25) (600) (jF D dA (jn M) (jPr M v (sClr A x)) 1) (jn M) (6) (40) (M) 0 [.ref (v), .int (x), .float 0] []
  obtain ⟨g1, g2, g3, g4, g5, g6, g7, g9⟩ := id hA
  obtain ⟨gx, gH, g8⟩ := id g7
  obtain ⟨ga1, ga2, ga3, ga4, ga5, ga6, ga7, ga8, ga9, ga10, ga11, ga12, ga13⟩ := id g3
  have gc30 := g5.1.2.2.2.2.2.2.2.2.2
  refine J_iload_n dX7_clear_0 rfl rfl ?_
  rcases Bool.eq_false_or_eq_true (okSlot ((x))) with ok1 | ok1
  · refine J_callvB (jrunS (As := [.int (x)]) (ct_X7_checkSlot l D dA hst M ((x))) dX7_clear_1 yY_X7_checkSlot gX7_clear_X7_checkSlot rfl ⟨by omega, by omega⟩ ⟨by omega, by omega⟩ rfl (Nat.le_of_ble_eq_true rfl)) (if_pos ok1) (rfl) ⟨by omega, by omega⟩ ?_
    refine J_aload_n (v) dX7_clear_4 rfl rfl ?_
    refine J_getrs (q := v + 2) ga2 dX7_clear_5 (fun _ h => List.mem_cons_of_mem _ (List.mem_append_left _ (List.mem_append_left _ (List.mem_append_left _ (List.mem_append_right _ (h)))))) cs10 (by decide) rfl (List.mem_of_getElem? (i := 1) rfl) rfl (show v < jn M from by have := g1.1; omega) g1.2.1 ?_
    refine J_iload_n dX7_clear_8 rfl rfl ?_
    refine J_callq0 (jrunV (As := [.int (x)]) (ct_X5_rangeIn l D dA hst M (v + 2) (cNw A).2.1 g5.1 ((x))) dX7_clear_9 yY_X5_rangeIn gX7_clear_X5_rangeIn rfl cs9 (show v + 2 < jn M from by have := g1.1; omega) g5.1.2.1 rfl ⟨by omega, by omega⟩ ⟨Nat.zero_le _, Nat.zero_le _⟩ rfl (Nat.le_of_ble_eq_true rfl)) (rfl) (rfl) ?_
    refine J_ifnull dX7_clear_12 (tgt := 19) (by decide) (fun c12 => ?_) (fun r12 c12 => ?_)
    · have hj9 := (jVa_cAt g5 x).1
      rw [c12] at hj9
      have hsm : (cAt (cNw A) x).isSome = false := by rw [hj9.none]; rfl
      refine J_iconst (x := 0) dX7_clear_19 (by decide) ?_
      refine J_istore_n (lv' := [.ref (v), .int (x), .int (0)]) dX7_clear_20 rfl (by decide) rfl rfl ?_
      refine J_aload_n (v) dX7_clear_21 rfl rfl ?_
      refine J_iload_n dX7_clear_22 rfl rfl ?_
      refine J_null dX7_clear_23 ?_
      refine J_callv (jrunV (As := [.int (x), .null]) (ct_X7_change l D dA hst M v A hA ((x)) ok1 none none trivial (fun w hw => by cases hw)) dX7_clear_24 yY_X7_change gX7_clear_X7_change rfl cs10 (show v < jn M from by have := g1.1; omega) g1.2.1 rfl ⟨by omega, by omega⟩ ⟨Nat.zero_le _, Nat.zero_le _⟩ rfl (Nat.le_of_ble_eq_true rfl)) ⟨Nat.zero_le _, Nat.zero_le _⟩ (Or.inr ⟨(jOk.ref (show v < jn M from by have := g1.1; omega) (jOk.int (jOk.int jOk.nil))), jOk.nil⟩) (fun E M9 hp _ => by cases hp.1) (fun K hp24 hle24 => ?_)
      obtain ⟨-, hAK, hfK⟩ := hp24
      obtain ⟨k1, k2, k3, k4, k5, k6, k7, k9⟩ := id hAK
      obtain ⟨kx, kH, k8⟩ := id k7
      obtain ⟨ka1, ka2, ka3, ka4, ka5, ka6, ka7, ka8, ka9, ka10, ka11, ka12, ka13⟩ := id k3
      have kc30 := k5.1.2.2.2.2.2.2.2.2.2
      refine J_iload_n dX7_clear_27 rfl rfl ?_
      exact J_iret (ty := .boolean) dX7_clear_28 rfl (by rfl) (by first | (unfold sClr; rw [sSl_t ok1]; rw [hsm]; exact ⟨rfl, hAK, (jFv.rf).tr hfK⟩) | (unfold sClr; rw [sSl_t ok1]; exact ⟨rfl, hAK, (jFv.rf).tr hfK⟩) | fail "leaf")
    · have hj9 := (jVa_cAt g5 x).1
      rw [c12] at hj9
      obtain ⟨w9, hw9, -, -⟩ := hj9.some
      have hsm : (cAt (cNw A) x).isSome = true := by rw [hw9]; rfl
      refine J_iconst (x := 1) dX7_clear_15 (by decide) ?_
      refine J_goto (tgt := 20) dX7_clear_16 (by decide) ?_
      refine J_istore_n (lv' := [.ref (v), .int (x), .int (1)]) dX7_clear_20 rfl (by decide) rfl rfl ?_
      refine J_aload_n (v) dX7_clear_21 rfl rfl ?_
      refine J_iload_n dX7_clear_22 rfl rfl ?_
      refine J_null dX7_clear_23 ?_
      refine J_callv (jrunV (As := [.int (x), .null]) (ct_X7_change l D dA hst M v A hA ((x)) ok1 none none trivial (fun w hw => by cases hw)) dX7_clear_24 yY_X7_change gX7_clear_X7_change rfl cs10 (show v < jn M from by have := g1.1; omega) g1.2.1 rfl ⟨by omega, by omega⟩ ⟨Nat.zero_le _, Nat.zero_le _⟩ rfl (Nat.le_of_ble_eq_true rfl)) ⟨Nat.zero_le _, Nat.zero_le _⟩ (Or.inr ⟨(jOk.ref (show v < jn M from by have := g1.1; omega) (jOk.int (jOk.int jOk.nil))), jOk.nil⟩) (fun E M9 hp _ => by cases hp.1) (fun K hp24 hle24 => ?_)
      obtain ⟨-, hAK, hfK⟩ := hp24
      obtain ⟨k1, k2, k3, k4, k5, k6, k7, k9⟩ := id hAK
      obtain ⟨kx, kH, k8⟩ := id k7
      obtain ⟨ka1, ka2, ka3, ka4, ka5, ka6, ka7, ka8, ka9, ka10, ka11, ka12, ka13⟩ := id k3
      have kc30 := k5.1.2.2.2.2.2.2.2.2.2
      refine J_iload_n dX7_clear_27 rfl rfl ?_
      exact J_iret (ty := .boolean) dX7_clear_28 rfl (by rfl) (by first | (unfold sClr; rw [sSl_t ok1]; rw [hsm]; exact ⟨rfl, hAK, (jFv.rf).tr hfK⟩) | (unfold sClr; rw [sSl_t ok1]; exact ⟨rfl, hAK, (jFv.rf).tr hfK⟩) | fail "leaf")
  · refine J_callvX (jrunS (As := [.int (x)]) (ct_X7_checkSlot l D dA hst M ((x))) dX7_clear_1 yY_X7_checkSlot gX7_clear_X7_checkSlot rfl ⟨by omega, by omega⟩ ⟨by omega, by omega⟩ rfl (Nat.le_of_ble_eq_true rfl)) (if_neg (by rw [ok1]; decide)) ⟨by omega, by omega⟩ (Or.inl rfl) ?_
    exact JX_out rfl (by first | (unfold sClr; rw [sSl_f ok1]; rw [hsm]; exact ⟨rfl, hA, jFv.rf⟩) | (unfold sClr; rw [sSl_f ok1]; exact ⟨rfl, hA, jFv.rf⟩) | fail "leaf")

theorem dX7_copy_0 : decode cX7_copy 0 = .ok (.iload_n 1, 1) := by decide +kernel
theorem dX7_copy_1 : decode cX7_copy 1 = .ok (.invokestatic 62, 3) := by decide +kernel
set_option maxRecDepth 20000 in
theorem ggX7_copy_X7_checkSlot : GoodIn wsX7_copy wsX7_checkSlot := goodIn_ca (goodIn_r _ [5, 6, 7] (by decide +kernel) (by decide +kernel)) (goodIn_sub (fun _ h => List.mem_cons_of_mem _ (List.mem_append_right _ h)) (by decide +kernel))
set_option maxRecDepth 20000 in
theorem gX7_copy_X7_checkSlot : GoodIn wsX7_copy (va_wsS RX7 62 yX7_checkSlot wsX7_checkSlot) := goodIn_app (goodIn_of _ (by decide +kernel)) ggX7_copy_X7_checkSlot
theorem dX7_copy_4 : decode cX7_copy 4 = .ok (.iload_n 2, 1) := by decide +kernel
theorem dX7_copy_5 : decode cX7_copy 5 = .ok (.invokestatic 62, 3) := by decide +kernel
theorem dX7_copy_8 : decode cX7_copy 8 = .ok (.aload_n 0, 1) := by decide +kernel
theorem dX7_copy_9 : decode cX7_copy 9 = .ok (.iload_n 2, 1) := by decide +kernel
theorem dX7_copy_10 : decode cX7_copy 10 = .ok (.aload_n 0, 1) := by decide +kernel
theorem dX7_copy_11 : decode cX7_copy 11 = .ok (.getfield 30, 3) := by decide +kernel
theorem dX7_copy_14 : decode cX7_copy 14 = .ok (.iload_n 1, 1) := by decide +kernel
theorem dX7_copy_15 : decode cX7_copy 15 = .ok (.invokevirtual 131, 3) := by decide +kernel
set_option maxRecDepth 20000 in
theorem ggX7_copy_X5_rangeIn : GoodIn wsX7_copy wsX5_rangeIn := goodIn_r _ [12, 13, 63, 64, 65] (by decide +kernel) (by decide +kernel)
set_option maxRecDepth 20000 in
theorem gX7_copy_X5_rangeIn : GoodIn wsX7_copy (wsV RX7 131 RX5 yX5_rangeIn wsX5_rangeIn) := goodIn_app (goodIn_of _ (by decide +kernel)) ggX7_copy_X5_rangeIn
theorem dX7_copy_18 : decode cX7_copy 18 = .ok (.invokevirtual 94, 3) := by decide +kernel
set_option maxRecDepth 20000 in
theorem ggX7_copy_X7_change : GoodIn wsX7_copy wsX7_change := goodIn_r _ [17, 18, 1, 19, 20, 21, 22, 23, 24, 25, 26, 27, 28, 29, 30, 31, 32, 33, 11, 34, 13, 35, 36, 37, 38, 39, 40, 41, 42, 43, 44, 45, 46, 47, 48, 53, 54, 55, 56, 57, 58, 59, 60, 61, 62, 66, 67, 68, 63, 64, 65] (by decide +kernel) (by decide +kernel)
set_option maxRecDepth 20000 in
theorem gX7_copy_X7_change : GoodIn wsX7_copy (wsV RX7 94 RX7 yX7_change wsX7_change) := goodIn_app (goodIn_of _ (by decide +kernel)) ggX7_copy_X7_change
theorem dX7_copy_21 : decode cX7_copy 21 = .ok (.aload_n 0, 1) := by decide +kernel
theorem dX7_copy_22 : decode cX7_copy 22 = .ok (.getfield 30, 3) := by decide +kernel
theorem dX7_copy_25 : decode cX7_copy 25 = .ok (.invokevirtual 135, 3) := by decide +kernel
set_option maxRecDepth 20000 in
theorem ggX7_copy_X5_rangeCount : GoodIn wsX7_copy wsX5_rangeCount := goodIn_r _ [52, 13, 63, 64, 65] (by decide +kernel) (by decide +kernel)
set_option maxRecDepth 20000 in
theorem gX7_copy_X5_rangeCount : GoodIn wsX7_copy (wsV RX7 135 RX5 yX5_rangeCount wsX5_rangeCount) := goodIn_app (goodIn_of _ (by decide +kernel)) ggX7_copy_X5_rangeCount
theorem dX7_copy_28 : decode cX7_copy 28 = .ok (.ireturn, 1) := by decide +kernel
set_option maxHeartbeats 400000 in
set_option maxRecDepth 20000 in
theorem ct_X7_copy (l : Launch) (D : va_G) (dA : Nat → ClassId) (hst : l.stackTraces = false) (M : jM) (v : Nat) (A : cA) (hA : jAb M v A) (x y : Int32) : jCT l D dA yX7_copy wsX7_copy (25) (600) (6) (40) 1 [.ref (v), .int (x), .int (y)] M (jPr M v (sCpy A x y)) := by
  refine jBody (cc := cX7_copy) (nL := 3) (rt := (some .int)) (ini := false) (by decide) rfl hst (Nat.le_of_ble_eq_true rfl) (by simp [Value.category]) (by intro h9; first | exact absurd h9 (by decide) | rfl) ?_
  show J l D dA RX7 cX7_copy wsX7_copy 3 false (some .int) [] (25) (600) (jF D dA (jn M) (jPr M v (sCpy A x y)) 1) (jn M) (6) (40) (M) 0 [.ref (v), .int (x), .int (y)] []
  obtain ⟨g1, g2, g3, g4, g5, g6, g7, g9⟩ := id hA
  obtain ⟨gx, gH, g8⟩ := id g7
  obtain ⟨ga1, ga2, ga3, ga4, ga5, ga6, ga7, ga8, ga9, ga10, ga11, ga12, ga13⟩ := id g3
  have gc30 := g5.1.2.2.2.2.2.2.2.2.2
  refine J_iload_n dX7_copy_0 rfl rfl ?_
  rcases Bool.eq_false_or_eq_true (okSlot ((x))) with ok1 | ok1
  · refine J_callvB (jrunS (As := [.int (x)]) (ct_X7_checkSlot l D dA hst M ((x))) dX7_copy_1 yY_X7_checkSlot gX7_copy_X7_checkSlot rfl ⟨by omega, by omega⟩ ⟨by omega, by omega⟩ rfl (Nat.le_of_ble_eq_true rfl)) (if_pos ok1) (rfl) ⟨by omega, by omega⟩ ?_
    refine J_iload_n dX7_copy_4 rfl rfl ?_
    rcases Bool.eq_false_or_eq_true (okSlot ((y))) with ok5 | ok5
    · refine J_callvB (jrunS (As := [.int (y)]) (ct_X7_checkSlot l D dA hst M ((y))) dX7_copy_5 yY_X7_checkSlot gX7_copy_X7_checkSlot rfl ⟨by omega, by omega⟩ ⟨by omega, by omega⟩ rfl (Nat.le_of_ble_eq_true rfl)) (if_pos ok5) (rfl) ⟨by omega, by omega⟩ ?_
      have hj9 := jVa_cAt g5 x
      refine J_aload_n (v) dX7_copy_8 rfl rfl ?_
      refine J_iload_n dX7_copy_9 rfl rfl ?_
      refine J_aload_n (v) dX7_copy_10 rfl rfl ?_
      refine J_getrs (q := v + 2) ga2 dX7_copy_11 (fun _ h => List.mem_cons_of_mem _ (List.mem_append_left _ (List.mem_append_left _ (List.mem_append_left _ (List.mem_append_right _ (h)))))) cs10 (by decide) rfl (List.mem_of_getElem? (i := 1) rfl) rfl (show v < jn M from by have := g1.1; omega) g1.2.1 ?_
      refine J_iload_n dX7_copy_14 rfl rfl ?_
      refine J_callq0 (jrunV (As := [.int (x)]) (ct_X5_rangeIn l D dA hst M (v + 2) (cNw A).2.1 g5.1 ((x))) dX7_copy_15 yY_X5_rangeIn gX7_copy_X5_rangeIn rfl cs9 (show v + 2 < jn M from by have := g1.1; omega) g5.1.2.1 rfl ⟨by omega, by omega⟩ ⟨Nat.zero_le _, Nat.zero_le _⟩ rfl (Nat.le_of_ble_eq_true rfl)) (rfl) (rfl) ?_
      refine J_callv (jrunV (As := [.int (y), va_rf (stRange M (v + 2) ((x)))]) (ct_X7_change l D dA hst M v A hA ((y)) ok5 (stRange M (v + 2) x) (cAt (cNw A) x) hj9.1 hj9.2) dX7_copy_18 yY_X7_change gX7_copy_X7_change rfl cs10 (show v < jn M from by have := g1.1; omega) g1.2.1 rfl ⟨by omega, by omega⟩ ⟨Nat.zero_le _, Nat.zero_le _⟩ rfl (Nat.le_of_ble_eq_true rfl)) ⟨Nat.zero_le _, Nat.zero_le _⟩ (Or.inr ⟨(jOk.ref (show v < jn M from by have := g1.1; omega) (jOk.int (jOk.int jOk.nil))), jOk.nil⟩) (fun E M9 hp _ => by cases hp.1) (fun K hp18 hle18 => ?_)
      obtain ⟨-, hAK, hfK⟩ := hp18
      obtain ⟨k1, k2, k3, k4, k5, k6, k7, k9⟩ := id hAK
      obtain ⟨kx, kH, k8⟩ := id k7
      obtain ⟨ka1, ka2, ka3, ka4, ka5, ka6, ka7, ka8, ka9, ka10, ka11, ka12, ka13⟩ := id k3
      have kc30 := k5.1.2.2.2.2.2.2.2.2.2
      refine J_aload_n (v) dX7_copy_21 rfl rfl ?_
      refine J_getrs (q := v + 2) ka2 dX7_copy_22 (fun _ h => List.mem_cons_of_mem _ (List.mem_append_left _ (List.mem_append_left _ (List.mem_append_left _ (List.mem_append_right _ (h)))))) cs10 (by decide) rfl (List.mem_of_getElem? (i := 1) rfl) rfl (show v < jn K from by have := k1.1; omega) k1.2.1 ?_
      refine J_calli0 (jrunV (As := []) (ct_X5_rangeCount l D dA hst K (v + 2) ((cNw (cPut A y.toNatClampNeg (cAt (cNw A) x))).2.1) (k5.1)) dX7_copy_25 yY_X5_rangeCount gX7_copy_X5_rangeCount rfl cs9 (show v + 2 < jn K from by have := k1.1; omega) k5.1.2.1 rfl ⟨by omega, by omega⟩ ⟨Nat.zero_le _, Nat.zero_le _⟩ rfl (Nat.le_of_ble_eq_true rfl)) (rfl) (rfl) ?_
      refine J_topi (y := nI (cFull (cNw (cPut A y.toNatClampNeg (cAt (cNw A) x))))) (by exact congrArg nI (jcnt_congr _ (fun j hj => slI_eq k5 hj))) ?_
      exact J_iret (ty := .int) dX7_copy_28 rfl (rfl) (by first | (unfold sCpy; rw [sSl_t ok1, sSl_t ok5]; exact ⟨rfl, hAK, (jFv.rf).tr hfK⟩) | fail "leaf")
    · refine J_callvX (jrunS (As := [.int (y)]) (ct_X7_checkSlot l D dA hst M ((y))) dX7_copy_5 yY_X7_checkSlot gX7_copy_X7_checkSlot rfl ⟨by omega, by omega⟩ ⟨by omega, by omega⟩ rfl (Nat.le_of_ble_eq_true rfl)) (if_neg (by rw [ok5]; decide)) ⟨by omega, by omega⟩ (Or.inl rfl) ?_
      exact JX_out rfl (by first | (unfold sCpy; rw [sSl_t ok1, sSl_f ok5]; exact ⟨rfl, hA, jFv.rf⟩) | fail "leaf")
  · refine J_callvX (jrunS (As := [.int (x)]) (ct_X7_checkSlot l D dA hst M ((x))) dX7_copy_1 yY_X7_checkSlot gX7_copy_X7_checkSlot rfl ⟨by omega, by omega⟩ ⟨by omega, by omega⟩ rfl (Nat.le_of_ble_eq_true rfl)) (if_neg (by rw [ok1]; decide)) ⟨by omega, by omega⟩ (Or.inl rfl) ?_
    exact JX_out rfl (by first | (unfold sCpy; rw [sSl_f ok1]; exact ⟨rfl, hA, jFv.rf⟩) | fail "leaf")

theorem dX7_publish_0 : decode cX7_publish 0 = .ok (.iload_n 1, 1) := by decide +kernel
theorem dX7_publish_1 : decode cX7_publish 1 = .ok (.invokestatic 119, 3) := by decide +kernel
set_option maxRecDepth 20000 in
theorem ggX7_publish_X7_checkVersion : GoodIn wsX7_publish wsX7_checkVersion := goodIn_ca (goodIn_r _ [6, 7, 8, 9] (by decide +kernel) (by decide +kernel)) (goodIn_sub (fun _ h => List.mem_cons_of_mem _ (List.mem_append_left _ (List.mem_append_left _ (List.mem_append_right _ h)))) (by decide +kernel))
set_option maxRecDepth 20000 in
theorem gX7_publish_X7_checkVersion : GoodIn wsX7_publish (va_wsS RX7 119 yX7_checkVersion wsX7_checkVersion) := goodIn_app (goodIn_of _ (by decide +kernel)) ggX7_publish_X7_checkVersion
theorem dX7_publish_4 : decode cX7_publish 4 = .ok (.aload_n 0, 1) := by decide +kernel
theorem dX7_publish_5 : decode cX7_publish 5 = .ok (.getfield 30, 3) := by decide +kernel
theorem dX7_publish_8 : decode cX7_publish 8 = .ok (.invokevirtual 212, 3) := by decide +kernel
set_option maxRecDepth 20000 in
theorem ggX7_publish_X5_publishedCount : GoodIn wsX7_publish wsX5_publishedCount := goodIn_r _ [14, 15, 75, 76, 77] (by decide +kernel) (by decide +kernel)
set_option maxRecDepth 20000 in
theorem gX7_publish_X5_publishedCount : GoodIn wsX7_publish (wsV RX7 212 RX5 yX5_publishedCount wsX5_publishedCount) := goodIn_app (goodIn_of _ (by decide +kernel)) ggX7_publish_X5_publishedCount
theorem dX7_publish_11 : decode cX7_publish 11 = .ok (.bipush 30, 2) := by decide +kernel
theorem dX7_publish_13 : decode cX7_publish 13 = .ok (.if_icmp .lt 8, 3) := by decide +kernel
theorem dX7_publish_21 : decode cX7_publish 21 = .ok (.aload_n 0, 1) := by decide +kernel
theorem dX7_publish_22 : decode cX7_publish 22 = .ok (.getfield 30, 3) := by decide +kernel
theorem dX7_publish_25 : decode cX7_publish 25 = .ok (.iload_n 1, 1) := by decide +kernel
theorem dX7_publish_26 : decode cX7_publish 26 = .ok (.invokevirtual 215, 3) := by decide +kernel
set_option maxRecDepth 20000 in
theorem ggX7_publish_X5_isPublished : GoodIn wsX7_publish wsX5_isPublished := goodIn_ca (goodIn_r _ [26, 27, 28, 29, 13, 30, 15, 31, 32, 33, 34, 35, 75, 76, 77] (by decide +kernel) (by decide +kernel)) (goodIn_sub (fun _ h => List.mem_cons_of_mem _ (List.mem_append_right _ h)) (by decide +kernel))
set_option maxRecDepth 20000 in
theorem gX7_publish_X5_isPublished : GoodIn wsX7_publish (wsV RX7 215 RX5 yX5_isPublished wsX5_isPublished) := goodIn_app (goodIn_of _ (by decide +kernel)) ggX7_publish_X5_isPublished
theorem yY_X5_isPublished : jY yX5_isPublished wsX5_isPublished cX5_isPublished 2 (some .boolean) 1 := ⟨⟨_, rfl⟩, by decide +kernel, by decide +kernel, by decide +kernel⟩
theorem dX7_publish_29 : decode cX7_publish 29 = .ok (.ifCond .eq 8, 3) := by decide +kernel
theorem dX7_publish_37 : decode cX7_publish 37 = .ok (.aload_n 0, 1) := by decide +kernel
theorem dX7_publish_38 : decode cX7_publish 38 = .ok (.getfield 44, 3) := by decide +kernel
theorem dX7_publish_41 : decode cX7_publish 41 = .ok (.aload_n 0, 1) := by decide +kernel
theorem dX7_publish_42 : decode cX7_publish 42 = .ok (.getfield 30, 3) := by decide +kernel
theorem dX7_publish_45 : decode cX7_publish 45 = .ok (.invokevirtual 219, 3) := by decide +kernel
set_option maxRecDepth 20000 in
theorem ggX7_publish_X2_keep : GoodIn wsX7_publish wsX2_keep := goodIn_r _ [40, 41, 42, 43, 44, 45, 46, 47, 48, 49, 50, 13, 51, 52, 35, 53, 54, 55, 56, 15, 57, 58, 59, 60, 78, 79, 80, 75, 76, 77] (by decide +kernel) (by decide +kernel)
set_option maxRecDepth 20000 in
theorem gX7_publish_X2_keep : GoodIn wsX7_publish (wsV RX7 219 RX2 yX2_keep wsX2_keep) := goodIn_app (goodIn_of _ (by decide +kernel)) ggX7_publish_X2_keep
theorem dX7_publish_48 : decode cX7_publish 48 = .ok (.aload_n 0, 1) := by decide +kernel
theorem dX7_publish_49 : decode cX7_publish 49 = .ok (.getfield 30, 3) := by decide +kernel
theorem dX7_publish_52 : decode cX7_publish 52 = .ok (.iload_n 1, 1) := by decide +kernel
theorem dX7_publish_53 : decode cX7_publish 53 = .ok (.invokevirtual 223, 3) := by decide +kernel
set_option maxRecDepth 20000 in
theorem ggX7_publish_X5_addPublished : GoodIn wsX7_publish wsX5_addPublished := goodIn_ca (goodIn_r _ [64, 15, 35, 53, 54, 55, 56, 27, 28, 29, 13, 30, 31, 32, 33, 34, 75, 76, 77] (by decide +kernel) (by decide +kernel)) (goodIn_sub (fun _ h => List.mem_cons_of_mem _ (List.mem_append_right _ h)) (by decide +kernel))
set_option maxRecDepth 20000 in
theorem gX7_publish_X5_addPublished : GoodIn wsX7_publish (wsV RX7 223 RX5 yX5_addPublished wsX5_addPublished) := goodIn_app (goodIn_of _ (by decide +kernel)) ggX7_publish_X5_addPublished
theorem yY_X5_addPublished : jY yX5_addPublished wsX5_addPublished cX5_addPublished 3 none 1 := ⟨⟨_, rfl⟩, by decide +kernel, by decide +kernel, by decide +kernel⟩
theorem dX7_publish_56 : decode cX7_publish 56 = .ok (.aload_n 0, 1) := by decide +kernel
theorem dX7_publish_57 : decode cX7_publish 57 = .ok (.getfield 30, 3) := by decide +kernel
theorem dX7_publish_60 : decode cX7_publish 60 = .ok (.invokevirtual 212, 3) := by decide +kernel
theorem dX7_publish_63 : decode cX7_publish 63 = .ok (.ireturn, 1) := by decide +kernel
theorem dX7_publish_32 : decode cX7_publish 32 = .ok (.aload_n 0, 1) := by decide +kernel
theorem dX7_publish_33 : decode cX7_publish 33 = .ok (.iconst 5, 1) := by decide +kernel
theorem dX7_publish_34 : decode cX7_publish 34 = .ok (.invokevirtual 82, 3) := by decide +kernel
set_option maxRecDepth 20000 in
theorem ggX7_publish_X7_refuse : GoodIn wsX7_publish wsX7_refuse := goodIn_ca (goodIn_r _ [19, 20, 21, 22, 65, 66, 67, 68, 69, 70, 71, 72, 73, 74] (by decide +kernel) (by decide +kernel)) (goodIn_sub (fun _ h => List.mem_cons_of_mem _ (List.mem_append_left _ (List.mem_append_right _ h))) (by decide +kernel))
set_option maxRecDepth 20000 in
theorem gX7_publish_X7_refuse : GoodIn wsX7_publish (wsV RX7 82 RX7 yX7_refuse wsX7_refuse) := goodIn_app (goodIn_of _ (by decide +kernel)) ggX7_publish_X7_refuse
theorem yY_X7_refuse : jY yX7_refuse wsX7_refuse cX7_refuse 2 none 1 := ⟨⟨_, rfl⟩, by decide +kernel, by decide +kernel, by decide +kernel⟩
theorem dX7_publish_16 : decode cX7_publish 16 = .ok (.aload_n 0, 1) := by decide +kernel
theorem dX7_publish_17 : decode cX7_publish 17 = .ok (.iconst 4, 1) := by decide +kernel
theorem dX7_publish_18 : decode cX7_publish 18 = .ok (.invokevirtual 82, 3) := by decide +kernel
set_option maxHeartbeats 400000 in
set_option maxRecDepth 20000 in
theorem ct_X7_publish (l : Launch) (D : va_G) (dA : Nat → ClassId) (hst : l.stackTraces = false) (M : jM) (v : Nat) (A : cA) (hA : jAb M v A) (x : Int32) : jCT l D dA yX7_publish wsX7_publish (25) (600) (6) (40) 1 [.ref (v), .int (x)] M (jPr M v (sPub A x)) := by
  refine jBody (cc := cX7_publish) (nL := 2) (rt := (some .int)) (ini := false) (by decide) rfl hst (Nat.le_of_ble_eq_true rfl) (by simp [Value.category]) (by intro h9; first | exact absurd h9 (by decide) | rfl) ?_
  show J l D dA RX7 cX7_publish wsX7_publish 2 false (some .int) [] (25) (600) (jF D dA (jn M) (jPr M v (sPub A x)) 1) (jn M) (6) (40) (M) 0 [.ref (v), .int (x)] []
  obtain ⟨g1, g2, g3, g4, g5, g6, g7, g9⟩ := id hA
  obtain ⟨gx, gH, g8⟩ := id g7
  obtain ⟨ga1, ga2, ga3, ga4, ga5, ga6, ga7, ga8, ga9, ga10, ga11, ga12, ga13⟩ := id g3
  have gc30 := g5.1.2.2.2.2.2.2.2.2.2
  refine J_iload_n dX7_publish_0 rfl rfl ?_
  rcases Bool.eq_false_or_eq_true (okVer ((x))) with ok1 | ok1
  · refine J_callvB (jrunS (As := [.int (x)]) (ct_X7_checkVersion l D dA hst M ((x))) dX7_publish_1 yY_X7_checkVersion gX7_publish_X7_checkVersion rfl ⟨by omega, by omega⟩ ⟨by omega, by omega⟩ rfl (Nat.le_of_ble_eq_true rfl)) (if_pos ok1) (rfl) ⟨by omega, by omega⟩ ?_
    refine J_aload_n (v) dX7_publish_4 rfl rfl ?_
    refine J_getrs (q := v + 2) ga2 dX7_publish_5 (fun _ h => List.mem_cons_of_mem _ (List.mem_append_left _ (List.mem_append_left _ (List.mem_append_left _ (List.mem_append_left _ (List.mem_append_left _ (List.mem_append_right _ (h)))))))) cs10 (by decide) rfl (List.mem_of_getElem? (i := 1) rfl) rfl (show v < jn M from by have := g1.1; omega) g1.2.1 ?_
    refine J_calli0 (jrunV (As := []) (ct_X5_publishedCount l D dA hst M (v + 2) ((cNw A).2.1) (g5.1)) dX7_publish_8 yY_X5_publishedCount gX7_publish_X5_publishedCount rfl cs9 (show v + 2 < jn M from by have := g1.1; omega) g5.1.2.1 rfl ⟨by omega, by omega⟩ ⟨Nat.zero_le _, Nat.zero_le _⟩ rfl (Nat.le_of_ble_eq_true rfl)) (rfl) (rfl) ?_
    refine J_bipush (x := 30) dX7_publish_11 (by decide) ?_
    refine J_icmp_lt dX7_publish_13 (tgt := 21) (by decide) (fun c13 => ?_) (fun c13 => ?_)
    · have c13 := jltT (a := (cNw A).2.1) (b := 30) (by omega) (by omega) c13
      refine J_aload_n (v) dX7_publish_21 rfl rfl ?_
      refine J_getrs (q := v + 2) ga2 dX7_publish_22 (fun _ h => List.mem_cons_of_mem _ (List.mem_append_left _ (List.mem_append_left _ (List.mem_append_left _ (List.mem_append_left _ (List.mem_append_left _ (List.mem_append_right _ (h)))))))) cs10 (by decide) rfl (List.mem_of_getElem? (i := 1) rfl) rfl (show v < jn M from by have := g1.1; omega) g1.2.1 ?_
      refine J_iload_n dX7_publish_25 rfl rfl ?_
      refine J_calli0 (jrunV (As := [.int (x)]) (ct_X5_isPublished l D dA hst M (v + 2) (cNw A).2.1 g5.1 x) dX7_publish_26 yY_X5_isPublished gX7_publish_X5_isPublished rfl cs9 (show v + 2 < jn M from by have := g1.1; omega) g5.1.2.1 rfl ⟨by omega, by omega⟩ ⟨Nat.zero_le _, Nat.zero_le _⟩ rfl (Nat.le_of_ble_eq_true rfl)) (rfl) (rfl) ?_
      refine J_topi (y := jb (cIsP (cNw A) x)) (by rw [cIsP_eq g5]) ?_
      refine J_if_eq dX7_publish_29 (tgt := 37) (by decide) (fun c29 => ?_) (fun c29 => ?_)
      · have c29 := jb0T c29
        refine J_aload_n (v) dX7_publish_37 rfl rfl ?_
        refine J_getrs (q := v + 8) ga4 dX7_publish_38 (fun _ h => List.mem_cons_of_mem _ (List.mem_append_left _ (List.mem_append_left _ (List.mem_append_left _ (List.mem_append_left _ (List.mem_append_left _ (List.mem_append_right _ (h)))))))) cs10 (by decide) rfl (List.mem_of_getElem? (i := 2) rfl) rfl (show v < jn M from by have := g1.1; omega) g1.2.1 ?_
        refine J_aload_n (v) dX7_publish_41 rfl rfl ?_
        refine J_getrs (q := v + 2) ga2 dX7_publish_42 (fun _ h => List.mem_cons_of_mem _ (List.mem_append_left _ (List.mem_append_left _ (List.mem_append_left _ (List.mem_append_left _ (List.mem_append_left _ (List.mem_append_right _ (h)))))))) cs10 (by decide) rfl (List.mem_of_getElem? (i := 1) rfl) rfl (show v < jn M from by have := g1.1; omega) g1.2.1 ?_
        refine J_callv0 (jrunV (As := [.ref (v + 2)]) (ct_X2_keep l D dA hst M (v + 8) gx (cKp A) gH (v + 2) (cNw A).2.1 g5.1 g5.slots (by omega)) dX7_publish_45 yY_X2_keep gX7_publish_X2_keep rfl cs6 (show v + 8 < jn M from by have := g1.1; omega) gH.2.1 rfl ⟨by omega, by omega⟩ ⟨Nat.zero_le _, Nat.zero_le _⟩ rfl (Nat.le_of_ble_eq_true rfl)) (rfl) (rfl) ?_
        obtain ⟨K, hK⟩ : ∃ Kz9, Kz9 = jKM M v gx (cKp A) := ⟨_, rfl⟩
        have hAK : jAb K v (cKeep A) := by rw [hK]; exact hA.keep gH g8 (jKM_f M v gx (cKp A))
        have hfK : jFv v M K := by rw [hK]; exact (jFv.rf).tr ((jKM_f M v gx (cKp A)).fv gH.2.2.2.2.2.2.2.2.2.1)
        refine J_mem (M' := K) hK.symm ?_
        obtain ⟨k1, k2, k3, k4, k5, k6, k7, k9⟩ := id hAK
        obtain ⟨kx, kH, k8⟩ := id k7
        obtain ⟨ka1, ka2, ka3, ka4, ka5, ka6, ka7, ka8, ka9, ka10, ka11, ka12, ka13⟩ := id k3
        have kc30 := k5.1.2.2.2.2.2.2.2.2.2
        refine J_aload_n (v) dX7_publish_48 rfl rfl ?_
        refine J_getrs (q := v + 2) ka2 dX7_publish_49 (fun _ h => List.mem_cons_of_mem _ (List.mem_append_left _ (List.mem_append_left _ (List.mem_append_left _ (List.mem_append_left _ (List.mem_append_left _ (List.mem_append_right _ (h)))))))) cs10 (by decide) rfl (List.mem_of_getElem? (i := 1) rfl) rfl (show v < jn K from by have := k1.1; omega) k1.2.1 ?_
        refine J_iload_n dX7_publish_52 rfl rfl ?_
        refine J_callv0 (jrunV (As := [.int (x)]) (ct_X5_addPublished l D dA hst K (v + 2) (cNw A).2.1 k5.1 x) dX7_publish_53 yY_X5_addPublished gX7_publish_X5_addPublished rfl cs9 (show v + 2 < jn K from by have := k1.1; omega) k5.1.2.1 rfl ⟨by omega, by omega⟩ ⟨Nat.zero_le _, Nat.zero_le _⟩ rfl (Nat.le_of_ble_eq_true rfl)) (rfl) ((by split <;> rfl)) ?_
        obtain ⟨K2, hK2⟩ : ∃ Kz9, Kz9 = if 30 ≤ (cNw A).2.1 then K else jSi (jSi (jSv K (v + 2 + 2) (va_cpy (ji K (v + 2 + 2)) (ji K (v + 2 + 2)) (stPlace (ji K (v + 2 + 2)) (cNw A).2.1 x) ((stPlace (ji K (v + 2 + 2)) (cNw A).2.1 x) + 1) ((cNw A).2.1 - (stPlace (ji K (v + 2 + 2)) (cNw A).2.1 x)))) (v + 2 + 2) (stPlace (ji K (v + 2 + 2)) (cNw A).2.1 x) x) (v + 2) 2 (nI ((cNw A).2.1 + 1)) := ⟨_, rfl⟩
        have hAK2 : jAb K2 v (cPub A x) := by rw [hK2]; exact (hAK.pub (A := cKeep A) (x := x) (by show (cNw A).2.1 < 30; omega) _ rfl _ rfl).1
        have hfK2 : jFv v M K2 := by rw [hK2]; exact hfK.tr (hAK.pub (A := cKeep A) (x := x) (by show (cNw A).2.1 < 30; omega) _ rfl _ rfl).2
        refine J_mem (M' := K2) hK2.symm ?_
        obtain ⟨n1, n2, n3, n4, n5, n6, n7, n9⟩ := id hAK2
        obtain ⟨nx, nH, n8⟩ := id n7
        obtain ⟨na1, na2, na3, na4, na5, na6, na7, na8, na9, na10, na11, na12, na13⟩ := id n3
        have nc30 := n5.1.2.2.2.2.2.2.2.2.2
        refine J_aload_n (v) dX7_publish_56 rfl rfl ?_
        refine J_getrs (q := v + 2) na2 dX7_publish_57 (fun _ h => List.mem_cons_of_mem _ (List.mem_append_left _ (List.mem_append_left _ (List.mem_append_left _ (List.mem_append_left _ (List.mem_append_left _ (List.mem_append_right _ (h)))))))) cs10 (by decide) rfl (List.mem_of_getElem? (i := 1) rfl) rfl (show v < jn K2 from by have := n1.1; omega) n1.2.1 ?_
        refine J_calli0 (jrunV (As := []) (ct_X5_publishedCount l D dA hst K2 (v + 2) ((cNw (cPub A x)).2.1) (n5.1)) dX7_publish_60 yY_X5_publishedCount gX7_publish_X5_publishedCount rfl cs9 (show v + 2 < jn K2 from by have := n1.1; omega) n5.1.2.1 rfl ⟨by omega, by omega⟩ ⟨Nat.zero_le _, Nat.zero_le _⟩ rfl (Nat.le_of_ble_eq_true rfl)) (rfl) (rfl) ?_
        exact J_iret (ty := .int) dX7_publish_63 rfl (rfl) (by first | (unfold sPub; rw [sVe_t ok1]; rw [if_neg (by omega), if_neg (by rw [c29]; decide)]; exact ⟨rfl, hAK2, hfK2⟩) | (unfold sPub; rw [sVe_t ok1]; exact ⟨rfl, hAK2, hfK2⟩) | fail "leaf")
      · have c29 := jb0F c29
        refine J_aload_n (v) dX7_publish_32 rfl rfl ?_
        refine J_iconst (x := 5) dX7_publish_33 (by decide) ?_
        exact J_callv (jrunV (As := [.int (5)]) (ct_X7_refuse l D dA hst M v A hA ((5))) dX7_publish_34 yY_X7_refuse gX7_publish_X7_refuse rfl cs10 (show v < jn M from by have := g1.1; omega) g1.2.1 rfl ⟨by omega, by omega⟩ ⟨by omega, by omega⟩ rfl (Nat.le_of_ble_eq_true rfl)) ⟨by omega, by omega⟩ (Or.inr ⟨(jOk.ref (show v < jn M from by have := g1.1; omega) (jOk.int jOk.nil)), jOk.nil⟩) (fun E9 M9 hp9 _ => by obtain ⟨h1, h2, h3⟩ := hp9; cases h1; exact JX_out rfl (by unfold sPub; rw [sVe_t ok1]; rw [if_neg (by omega), if_pos c29]; exact ⟨rfl, h2, h3⟩)) (fun M9 hp9 _ => by cases hp9.1)
    · have c13 := jltF (a := (cNw A).2.1) (b := 30) (by omega) (by omega) c13
      refine J_aload_n (v) dX7_publish_16 rfl rfl ?_
      refine J_iconst (x := 4) dX7_publish_17 (by decide) ?_
      exact J_callv (jrunV (As := [.int (4)]) (ct_X7_refuse l D dA hst M v A hA ((4))) dX7_publish_18 yY_X7_refuse gX7_publish_X7_refuse rfl cs10 (show v < jn M from by have := g1.1; omega) g1.2.1 rfl ⟨by omega, by omega⟩ ⟨by omega, by omega⟩ rfl (Nat.le_of_ble_eq_true rfl)) ⟨by omega, by omega⟩ (Or.inr ⟨(jOk.ref (show v < jn M from by have := g1.1; omega) (jOk.int jOk.nil)), jOk.nil⟩) (fun E9 M9 hp9 _ => by obtain ⟨h1, h2, h3⟩ := hp9; cases h1; exact JX_out rfl (by unfold sPub; rw [sVe_t ok1]; rw [if_pos (by omega)]; exact ⟨rfl, h2, h3⟩)) (fun M9 hp9 _ => by cases hp9.1)
  · refine J_callvX (jrunS (As := [.int (x)]) (ct_X7_checkVersion l D dA hst M ((x))) dX7_publish_1 yY_X7_checkVersion gX7_publish_X7_checkVersion rfl ⟨by omega, by omega⟩ ⟨by omega, by omega⟩ rfl (Nat.le_of_ble_eq_true rfl)) (if_neg (by rw [ok1]; decide)) ⟨by omega, by omega⟩ (Or.inl rfl) ?_
    exact JX_out rfl (by first | (unfold sPub; rw [sVe_f ok1]; rw [if_neg (by omega), if_neg (by rw [c29]; decide)]; exact ⟨rfl, hA, jFv.rf⟩) | (unfold sPub; rw [sVe_f ok1]; exact ⟨rfl, hA, jFv.rf⟩) | fail "leaf")

theorem dX7_withdraw_0 : decode cX7_withdraw 0 = .ok (.iload_n 1, 1) := by decide +kernel
theorem dX7_withdraw_1 : decode cX7_withdraw 1 = .ok (.invokestatic 119, 3) := by decide +kernel
set_option maxRecDepth 20000 in
theorem ggX7_withdraw_X7_checkVersion : GoodIn wsX7_withdraw wsX7_checkVersion := goodIn_ca (goodIn_r _ [6, 7, 8, 9] (by decide +kernel) (by decide +kernel)) (goodIn_sub (fun _ h => List.mem_cons_of_mem _ (List.mem_append_left _ (List.mem_append_left _ (List.mem_append_right _ h)))) (by decide +kernel))
set_option maxRecDepth 20000 in
theorem gX7_withdraw_X7_checkVersion : GoodIn wsX7_withdraw (va_wsS RX7 119 yX7_checkVersion wsX7_checkVersion) := goodIn_app (goodIn_of _ (by decide +kernel)) ggX7_withdraw_X7_checkVersion
theorem dX7_withdraw_4 : decode cX7_withdraw 4 = .ok (.aload_n 0, 1) := by decide +kernel
theorem dX7_withdraw_5 : decode cX7_withdraw 5 = .ok (.getfield 30, 3) := by decide +kernel
theorem dX7_withdraw_8 : decode cX7_withdraw 8 = .ok (.iload_n 1, 1) := by decide +kernel
theorem dX7_withdraw_9 : decode cX7_withdraw 9 = .ok (.invokevirtual 215, 3) := by decide +kernel
set_option maxRecDepth 20000 in
theorem ggX7_withdraw_X5_isPublished : GoodIn wsX7_withdraw wsX5_isPublished := goodIn_ca (goodIn_r _ [14, 15, 16, 17, 13, 18, 19, 20, 21, 22, 23, 24, 75, 76, 77] (by decide +kernel) (by decide +kernel)) (goodIn_sub (fun _ h => List.mem_cons_of_mem _ (List.mem_append_left _ (List.mem_append_right _ h))) (by decide +kernel))
set_option maxRecDepth 20000 in
theorem gX7_withdraw_X5_isPublished : GoodIn wsX7_withdraw (wsV RX7 215 RX5 yX5_isPublished wsX5_isPublished) := goodIn_app (goodIn_of _ (by decide +kernel)) ggX7_withdraw_X5_isPublished
theorem dX7_withdraw_12 : decode cX7_withdraw 12 = .ok (.ifCond .ne 8, 3) := by decide +kernel
theorem dX7_withdraw_20 : decode cX7_withdraw 20 = .ok (.aload_n 0, 1) := by decide +kernel
theorem dX7_withdraw_21 : decode cX7_withdraw 21 = .ok (.getfield 44, 3) := by decide +kernel
theorem dX7_withdraw_24 : decode cX7_withdraw 24 = .ok (.aload_n 0, 1) := by decide +kernel
theorem dX7_withdraw_25 : decode cX7_withdraw 25 = .ok (.getfield 30, 3) := by decide +kernel
theorem dX7_withdraw_28 : decode cX7_withdraw 28 = .ok (.invokevirtual 219, 3) := by decide +kernel
set_option maxRecDepth 20000 in
theorem ggX7_withdraw_X2_keep : GoodIn wsX7_withdraw wsX2_keep := goodIn_r _ [36, 37, 38, 39, 40, 41, 42, 43, 44, 45, 46, 13, 47, 48, 24, 49, 50, 51, 52, 19, 53, 54, 55, 56, 78, 79, 80, 75, 76, 77] (by decide +kernel) (by decide +kernel)
set_option maxRecDepth 20000 in
theorem gX7_withdraw_X2_keep : GoodIn wsX7_withdraw (wsV RX7 219 RX2 yX2_keep wsX2_keep) := goodIn_app (goodIn_of _ (by decide +kernel)) ggX7_withdraw_X2_keep
theorem dX7_withdraw_31 : decode cX7_withdraw 31 = .ok (.aload_n 0, 1) := by decide +kernel
theorem dX7_withdraw_32 : decode cX7_withdraw 32 = .ok (.getfield 30, 3) := by decide +kernel
theorem dX7_withdraw_35 : decode cX7_withdraw 35 = .ok (.iload_n 1, 1) := by decide +kernel
theorem dX7_withdraw_36 : decode cX7_withdraw 36 = .ok (.invokevirtual 226, 3) := by decide +kernel
set_option maxRecDepth 20000 in
theorem ggX7_withdraw_X5_removePublished : GoodIn wsX7_withdraw wsX5_removePublished := goodIn_ca (goodIn_r _ [60, 19, 24, 49, 50, 51, 52, 15, 16, 17, 13, 18, 20, 21, 22, 23, 75, 76, 77] (by decide +kernel) (by decide +kernel)) (goodIn_sub (fun _ h => List.mem_cons_of_mem _ (List.mem_append_left _ (List.mem_append_right _ h))) (by decide +kernel))
set_option maxRecDepth 20000 in
theorem gX7_withdraw_X5_removePublished : GoodIn wsX7_withdraw (wsV RX7 226 RX5 yX5_removePublished wsX5_removePublished) := goodIn_app (goodIn_of _ (by decide +kernel)) ggX7_withdraw_X5_removePublished
theorem yY_X5_removePublished : jY yX5_removePublished wsX5_removePublished cX5_removePublished 3 none 1 := ⟨⟨_, rfl⟩, by decide +kernel, by decide +kernel, by decide +kernel⟩
theorem dX7_withdraw_39 : decode cX7_withdraw 39 = .ok (.aload_n 0, 1) := by decide +kernel
theorem dX7_withdraw_40 : decode cX7_withdraw 40 = .ok (.getfield 30, 3) := by decide +kernel
theorem dX7_withdraw_43 : decode cX7_withdraw 43 = .ok (.invokevirtual 212, 3) := by decide +kernel
set_option maxRecDepth 20000 in
theorem ggX7_withdraw_X5_publishedCount : GoodIn wsX7_withdraw wsX5_publishedCount := goodIn_r _ [64, 19, 75, 76, 77] (by decide +kernel) (by decide +kernel)
set_option maxRecDepth 20000 in
theorem gX7_withdraw_X5_publishedCount : GoodIn wsX7_withdraw (wsV RX7 212 RX5 yX5_publishedCount wsX5_publishedCount) := goodIn_app (goodIn_of _ (by decide +kernel)) ggX7_withdraw_X5_publishedCount
theorem dX7_withdraw_46 : decode cX7_withdraw 46 = .ok (.ireturn, 1) := by decide +kernel
theorem dX7_withdraw_15 : decode cX7_withdraw 15 = .ok (.aload_n 0, 1) := by decide +kernel
theorem dX7_withdraw_16 : decode cX7_withdraw 16 = .ok (.iconst 5, 1) := by decide +kernel
theorem dX7_withdraw_17 : decode cX7_withdraw 17 = .ok (.invokevirtual 82, 3) := by decide +kernel
set_option maxRecDepth 20000 in
theorem ggX7_withdraw_X7_refuse : GoodIn wsX7_withdraw wsX7_refuse := goodIn_ca (goodIn_r _ [28, 29, 30, 31, 65, 66, 67, 68, 69, 70, 71, 72, 73, 74] (by decide +kernel) (by decide +kernel)) (goodIn_sub (fun _ h => List.mem_cons_of_mem _ (List.mem_append_right _ h)) (by decide +kernel))
set_option maxRecDepth 20000 in
theorem gX7_withdraw_X7_refuse : GoodIn wsX7_withdraw (wsV RX7 82 RX7 yX7_refuse wsX7_refuse) := goodIn_app (goodIn_of _ (by decide +kernel)) ggX7_withdraw_X7_refuse
set_option maxHeartbeats 400000 in
set_option maxRecDepth 20000 in
theorem ct_X7_withdraw (l : Launch) (D : va_G) (dA : Nat → ClassId) (hst : l.stackTraces = false) (M : jM) (v : Nat) (A : cA) (hA : jAb M v A) (x : Int32) : jCT l D dA yX7_withdraw wsX7_withdraw (25) (600) (6) (40) 1 [.ref (v), .int (x)] M (jPr M v (sWdr A x)) := by
  refine jBody (cc := cX7_withdraw) (nL := 2) (rt := (some .int)) (ini := false) (by decide) rfl hst (Nat.le_of_ble_eq_true rfl) (by simp [Value.category]) (by intro h9; first | exact absurd h9 (by decide) | rfl) ?_
  show J l D dA RX7 cX7_withdraw wsX7_withdraw 2 false (some .int) [] (25) (600) (jF D dA (jn M) (jPr M v (sWdr A x)) 1) (jn M) (6) (40) (M) 0 [.ref (v), .int (x)] []
  obtain ⟨g1, g2, g3, g4, g5, g6, g7, g9⟩ := id hA
  obtain ⟨gx, gH, g8⟩ := id g7
  obtain ⟨ga1, ga2, ga3, ga4, ga5, ga6, ga7, ga8, ga9, ga10, ga11, ga12, ga13⟩ := id g3
  have gc30 := g5.1.2.2.2.2.2.2.2.2.2
  refine J_iload_n dX7_withdraw_0 rfl rfl ?_
  rcases Bool.eq_false_or_eq_true (okVer ((x))) with ok1 | ok1
  · refine J_callvB (jrunS (As := [.int (x)]) (ct_X7_checkVersion l D dA hst M ((x))) dX7_withdraw_1 yY_X7_checkVersion gX7_withdraw_X7_checkVersion rfl ⟨by omega, by omega⟩ ⟨by omega, by omega⟩ rfl (Nat.le_of_ble_eq_true rfl)) (if_pos ok1) (rfl) ⟨by omega, by omega⟩ ?_
    refine J_aload_n (v) dX7_withdraw_4 rfl rfl ?_
    refine J_getrs (q := v + 2) ga2 dX7_withdraw_5 (fun _ h => List.mem_cons_of_mem _ (List.mem_append_left _ (List.mem_append_left _ (List.mem_append_left _ (List.mem_append_left _ (List.mem_append_left _ (List.mem_append_right _ (h)))))))) cs10 (by decide) rfl (List.mem_of_getElem? (i := 1) rfl) rfl (show v < jn M from by have := g1.1; omega) g1.2.1 ?_
    refine J_iload_n dX7_withdraw_8 rfl rfl ?_
    refine J_calli0 (jrunV (As := [.int (x)]) (ct_X5_isPublished l D dA hst M (v + 2) (cNw A).2.1 g5.1 x) dX7_withdraw_9 yY_X5_isPublished gX7_withdraw_X5_isPublished rfl cs9 (show v + 2 < jn M from by have := g1.1; omega) g5.1.2.1 rfl ⟨by omega, by omega⟩ ⟨Nat.zero_le _, Nat.zero_le _⟩ rfl (Nat.le_of_ble_eq_true rfl)) (rfl) (rfl) ?_
    refine J_topi (y := jb (cIsP (cNw A) x)) (by rw [cIsP_eq g5]) ?_
    refine J_if_ne dX7_withdraw_12 (tgt := 20) (by decide) (fun c12 => ?_) (fun c12 => ?_)
    · have c12 := jb0F c12
      refine J_aload_n (v) dX7_withdraw_20 rfl rfl ?_
      refine J_getrs (q := v + 8) ga4 dX7_withdraw_21 (fun _ h => List.mem_cons_of_mem _ (List.mem_append_left _ (List.mem_append_left _ (List.mem_append_left _ (List.mem_append_left _ (List.mem_append_left _ (List.mem_append_right _ (h)))))))) cs10 (by decide) rfl (List.mem_of_getElem? (i := 2) rfl) rfl (show v < jn M from by have := g1.1; omega) g1.2.1 ?_
      refine J_aload_n (v) dX7_withdraw_24 rfl rfl ?_
      refine J_getrs (q := v + 2) ga2 dX7_withdraw_25 (fun _ h => List.mem_cons_of_mem _ (List.mem_append_left _ (List.mem_append_left _ (List.mem_append_left _ (List.mem_append_left _ (List.mem_append_left _ (List.mem_append_right _ (h)))))))) cs10 (by decide) rfl (List.mem_of_getElem? (i := 1) rfl) rfl (show v < jn M from by have := g1.1; omega) g1.2.1 ?_
      refine J_callv0 (jrunV (As := [.ref (v + 2)]) (ct_X2_keep l D dA hst M (v + 8) gx (cKp A) gH (v + 2) (cNw A).2.1 g5.1 g5.slots (by omega)) dX7_withdraw_28 yY_X2_keep gX7_withdraw_X2_keep rfl cs6 (show v + 8 < jn M from by have := g1.1; omega) gH.2.1 rfl ⟨by omega, by omega⟩ ⟨Nat.zero_le _, Nat.zero_le _⟩ rfl (Nat.le_of_ble_eq_true rfl)) (rfl) (rfl) ?_
      obtain ⟨K, hK⟩ : ∃ Kz9, Kz9 = jKM M v gx (cKp A) := ⟨_, rfl⟩
      have hAK : jAb K v (cKeep A) := by rw [hK]; exact hA.keep gH g8 (jKM_f M v gx (cKp A))
      have hfK : jFv v M K := by rw [hK]; exact (jFv.rf).tr ((jKM_f M v gx (cKp A)).fv gH.2.2.2.2.2.2.2.2.2.1)
      refine J_mem (M' := K) hK.symm ?_
      obtain ⟨k1, k2, k3, k4, k5, k6, k7, k9⟩ := id hAK
      obtain ⟨kx, kH, k8⟩ := id k7
      obtain ⟨ka1, ka2, ka3, ka4, ka5, ka6, ka7, ka8, ka9, ka10, ka11, ka12, ka13⟩ := id k3
      have kc30 := k5.1.2.2.2.2.2.2.2.2.2
      refine J_aload_n (v) dX7_withdraw_31 rfl rfl ?_
      refine J_getrs (q := v + 2) ka2 dX7_withdraw_32 (fun _ h => List.mem_cons_of_mem _ (List.mem_append_left _ (List.mem_append_left _ (List.mem_append_left _ (List.mem_append_left _ (List.mem_append_left _ (List.mem_append_right _ (h)))))))) cs10 (by decide) rfl (List.mem_of_getElem? (i := 1) rfl) rfl (show v < jn K from by have := k1.1; omega) k1.2.1 ?_
      refine J_iload_n dX7_withdraw_35 rfl rfl ?_
      refine J_callv0 (jrunV (As := [.int (x)]) (ct_X5_removePublished l D dA hst K (v + 2) (cNw A).2.1 k5.1 x) dX7_withdraw_36 yY_X5_removePublished gX7_withdraw_X5_removePublished rfl cs9 (show v + 2 < jn K from by have := k1.1; omega) k5.1.2.1 rfl ⟨by omega, by omega⟩ ⟨Nat.zero_le _, Nat.zero_le _⟩ rfl (Nat.le_of_ble_eq_true rfl)) (rfl) ((by split <;> rfl)) ?_
      obtain ⟨K2, hK2⟩ : ∃ Kz9, Kz9 = if (cNw A).2.1 ≤ (stPlace (ji K (v + 2 + 2)) (cNw A).2.1 x) then K else jSi (jSv K (v + 2 + 2) (va_cpy (ji K (v + 2 + 2)) (ji K (v + 2 + 2)) ((stPlace (ji K (v + 2 + 2)) (cNw A).2.1 x) + 1) (stPlace (ji K (v + 2 + 2)) (cNw A).2.1 x) ((cNw A).2.1 - (stPlace (ji K (v + 2 + 2)) (cNw A).2.1 x) - 1))) (v + 2) 2 (nI ((cNw A).2.1 - 1)) := ⟨_, rfl⟩
      have hAK2 : jAb K2 v (cWdr A x) := by rw [hK2]; exact (hAK.wdr (A := cKeep A) (x := x) (by exact cIsP_lt c12 ok1) _ rfl _ rfl).1
      have hfK2 : jFv v M K2 := by rw [hK2]; exact hfK.tr (hAK.wdr (A := cKeep A) (x := x) (by exact cIsP_lt c12 ok1) _ rfl _ rfl).2
      refine J_mem (M' := K2) hK2.symm ?_
      obtain ⟨n1, n2, n3, n4, n5, n6, n7, n9⟩ := id hAK2
      obtain ⟨nx, nH, n8⟩ := id n7
      obtain ⟨na1, na2, na3, na4, na5, na6, na7, na8, na9, na10, na11, na12, na13⟩ := id n3
      have nc30 := n5.1.2.2.2.2.2.2.2.2.2
      refine J_aload_n (v) dX7_withdraw_39 rfl rfl ?_
      refine J_getrs (q := v + 2) na2 dX7_withdraw_40 (fun _ h => List.mem_cons_of_mem _ (List.mem_append_left _ (List.mem_append_left _ (List.mem_append_left _ (List.mem_append_left _ (List.mem_append_left _ (List.mem_append_right _ (h)))))))) cs10 (by decide) rfl (List.mem_of_getElem? (i := 1) rfl) rfl (show v < jn K2 from by have := n1.1; omega) n1.2.1 ?_
      refine J_calli0 (jrunV (As := []) (ct_X5_publishedCount l D dA hst K2 (v + 2) ((cNw (cWdr A x)).2.1) (n5.1)) dX7_withdraw_43 yY_X5_publishedCount gX7_withdraw_X5_publishedCount rfl cs9 (show v + 2 < jn K2 from by have := n1.1; omega) n5.1.2.1 rfl ⟨by omega, by omega⟩ ⟨Nat.zero_le _, Nat.zero_le _⟩ rfl (Nat.le_of_ble_eq_true rfl)) (rfl) (rfl) ?_
      exact J_iret (ty := .int) dX7_withdraw_46 rfl (rfl) (by first | (unfold sWdr; rw [sVe_t ok1]; rw [if_pos c12]; exact ⟨rfl, hAK2, hfK2⟩) | (unfold sWdr; rw [sVe_t ok1]; exact ⟨rfl, hAK2, hfK2⟩) | fail "leaf")
    · have c12 := jb0T c12
      refine J_aload_n (v) dX7_withdraw_15 rfl rfl ?_
      refine J_iconst (x := 5) dX7_withdraw_16 (by decide) ?_
      exact J_callv (jrunV (As := [.int (5)]) (ct_X7_refuse l D dA hst M v A hA ((5))) dX7_withdraw_17 yY_X7_refuse gX7_withdraw_X7_refuse rfl cs10 (show v < jn M from by have := g1.1; omega) g1.2.1 rfl ⟨by omega, by omega⟩ ⟨by omega, by omega⟩ rfl (Nat.le_of_ble_eq_true rfl)) ⟨by omega, by omega⟩ (Or.inr ⟨(jOk.ref (show v < jn M from by have := g1.1; omega) (jOk.int jOk.nil)), jOk.nil⟩) (fun E9 M9 hp9 _ => by obtain ⟨h1, h2, h3⟩ := hp9; cases h1; exact JX_out rfl (by unfold sWdr; rw [sVe_t ok1]; rw [if_neg (by rw [c12]; decide)]; exact ⟨rfl, h2, h3⟩)) (fun M9 hp9 _ => by cases hp9.1)
  · refine J_callvX (jrunS (As := [.int (x)]) (ct_X7_checkVersion l D dA hst M ((x))) dX7_withdraw_1 yY_X7_checkVersion gX7_withdraw_X7_checkVersion rfl ⟨by omega, by omega⟩ ⟨by omega, by omega⟩ rfl (Nat.le_of_ble_eq_true rfl)) (if_neg (by rw [ok1]; decide)) ⟨by omega, by omega⟩ (Or.inl rfl) ?_
    exact JX_out rfl (by first | (unfold sWdr; rw [sVe_f ok1]; rw [if_pos c12]; exact ⟨rfl, hA, jFv.rf⟩) | (unfold sWdr; rw [sVe_f ok1]; exact ⟨rfl, hA, jFv.rf⟩) | fail "leaf")

theorem dX7_undo_0 : decode cX7_undo 0 = .ok (.aload_n 0, 1) := by decide +kernel
theorem dX7_undo_1 : decode cX7_undo 1 = .ok (.getfield 44, 3) := by decide +kernel
theorem dX7_undo_4 : decode cX7_undo 4 = .ok (.invokevirtual 265, 3) := by decide +kernel
set_option maxRecDepth 20000 in
theorem ggX7_undo_X2_count : GoodIn wsX7_undo wsX2_count := goodIn_r _ [9, 10, 43, 44, 45] (by decide +kernel) (by decide +kernel)
set_option maxRecDepth 20000 in
theorem gX7_undo_X2_count : GoodIn wsX7_undo (wsV RX7 265 RX2 yX2_count wsX2_count) := goodIn_app (goodIn_of _ (by decide +kernel)) ggX7_undo_X2_count
theorem yY_X2_count : jY yX2_count wsX2_count cX2_count 1 (some .int) 0 := ⟨⟨_, rfl⟩, by decide +kernel, by decide +kernel, by decide +kernel⟩
theorem dX7_undo_7 : decode cX7_undo 7 = .ok (.ifCond .ne 14, 3) := by decide +kernel
theorem dX7_undo_21 : decode cX7_undo 21 = .ok (.aload_n 0, 1) := by decide +kernel
theorem dX7_undo_22 : decode cX7_undo 22 = .ok (.getfield 44, 3) := by decide +kernel
theorem dX7_undo_25 : decode cX7_undo 25 = .ok (.aload_n 0, 1) := by decide +kernel
theorem dX7_undo_26 : decode cX7_undo 26 = .ok (.getfield 30, 3) := by decide +kernel
theorem dX7_undo_29 : decode cX7_undo 29 = .ok (.invokevirtual 270, 3) := by decide +kernel
set_option maxRecDepth 20000 in
theorem ggX7_undo_X2_takeBack : GoodIn wsX7_undo wsX2_takeBack := goodIn_r _ [14, 10, 15, 16, 17, 18, 19, 20, 21, 22, 23, 24, 25, 26, 27, 28, 29, 30, 31, 32, 43, 44, 45, 46, 47, 48] (by decide +kernel) (by decide +kernel)
set_option maxRecDepth 20000 in
theorem gX7_undo_X2_takeBack : GoodIn wsX7_undo (wsV RX7 270 RX2 yX2_takeBack wsX2_takeBack) := goodIn_app (goodIn_of _ (by decide +kernel)) ggX7_undo_X2_takeBack
theorem yY_X2_takeBack : jY yX2_takeBack wsX2_takeBack cX2_takeBack 2 none 1 := ⟨⟨_, rfl⟩, by decide +kernel, by decide +kernel, by decide +kernel⟩
theorem dX7_undo_32 : decode cX7_undo 32 = .ok (.aload_n 0, 1) := by decide +kernel
theorem dX7_undo_33 : decode cX7_undo 33 = .ok (.getfield 44, 3) := by decide +kernel
theorem dX7_undo_36 : decode cX7_undo 36 = .ok (.invokevirtual 265, 3) := by decide +kernel
theorem dX7_undo_39 : decode cX7_undo 39 = .ok (.ireturn, 1) := by decide +kernel
theorem dX7_undo_10 : decode cX7_undo 10 = .ok (.new 55, 3) := by decide +kernel
theorem thr_RX7_59_268_s : (RX7, 268, "no change is kept") ∈ jStrs := List.mem_of_getElem? (i := 18) rfl
theorem dX7_undo_13 : decode cX7_undo 13 = .ok (.dup, 1) := by decide +kernel
theorem dX7_undo_14 : decode cX7_undo 14 = .ok (.ldc_w 268, 3) := by decide +kernel
theorem dX7_undo_17 : decode cX7_undo 17 = .ok (.invokespecial 59, 3) := by decide +kernel
theorem dX7_undo_20 : decode cX7_undo 20 = .ok (.athrow, 1) := by decide +kernel
set_option maxHeartbeats 400000 in
set_option maxRecDepth 20000 in
theorem ct_X7_undo (l : Launch) (D : va_G) (dA : Nat → ClassId) (hst : l.stackTraces = false) (M : jM) (v : Nat) (A : cA) (hA : jAb M v A) : jCT l D dA yX7_undo wsX7_undo (24) (540) (6) (40) 1 [.ref (v)] M (jPr M v (sUnd A)) := by
  refine jBody (cc := cX7_undo) (nL := 1) (rt := (some .int)) (ini := false) (by decide) rfl hst (Nat.le_of_ble_eq_true rfl) (by simp [Value.category]) (by intro h9; first | exact absurd h9 (by decide) | rfl) ?_
  show J l D dA RX7 cX7_undo wsX7_undo 1 false (some .int) [] (24) (540) (jF D dA (jn M) (jPr M v (sUnd A)) 1) (jn M) (6) (40) (M) 0 [.ref (v)] []
  obtain ⟨g1, g2, g3, g4, g5, g6, g7, g9⟩ := id hA
  obtain ⟨gx, gH, g8⟩ := id g7
  obtain ⟨ga1, ga2, ga3, ga4, ga5, ga6, ga7, ga8, ga9, ga10, ga11, ga12, ga13⟩ := id g3
  have gc30 := g5.1.2.2.2.2.2.2.2.2.2
  have gk8 := gH.2.2.2.2.2.2.2.2.2.2
  refine J_aload_n (v) dX7_undo_0 rfl rfl ?_
  refine J_getrs (q := v + 8) ga4 dX7_undo_1 (fun _ h => List.mem_cons_of_mem _ (List.mem_append_left _ (List.mem_append_left _ (List.mem_append_left _ (List.mem_append_right _ (h)))))) cs10 (by decide) rfl (List.mem_of_getElem? (i := 3) rfl) rfl (show v < jn M from by have := g1.1; omega) g1.2.1 ?_
  refine J_calli0 (jrunV (As := []) (ct_X2_count l D dA hst M (v + 8) gx (cKp A) gH) dX7_undo_4 yY_X2_count gX7_undo_X2_count rfl cs6 (show v + 8 < jn M from by have := g1.1; omega) gH.2.1 rfl ⟨by omega, by omega⟩ ⟨Nat.zero_le _, Nat.zero_le _⟩ rfl (Nat.le_of_ble_eq_true rfl)) (rfl) (rfl) ?_
  refine J_if_ne dX7_undo_7 (tgt := 21) (by decide) (fun c7 => ?_) (fun c7 => ?_)
  · have c7 := jeqF (a := cKp A) (b := 0) (by omega) (by omega) c7
    have hu9 := g8 (cKp A - 1) (by omega)
    rw [show (gx + 8 - cKp A + (cKp A - 1)) % 8 = (gx + 7) % 8 from by omega] at hu9
    refine J_aload_n (v) dX7_undo_21 rfl rfl ?_
    refine J_getrs (q := v + 8) ga4 dX7_undo_22 (fun _ h => List.mem_cons_of_mem _ (List.mem_append_left _ (List.mem_append_left _ (List.mem_append_left _ (List.mem_append_right _ (h)))))) cs10 (by decide) rfl (List.mem_of_getElem? (i := 3) rfl) rfl (show v < jn M from by have := g1.1; omega) g1.2.1 ?_
    refine J_aload_n (v) dX7_undo_25 rfl rfl ?_
    refine J_getrs (q := v + 2) ga2 dX7_undo_26 (fun _ h => List.mem_cons_of_mem _ (List.mem_append_left _ (List.mem_append_left _ (List.mem_append_left _ (List.mem_append_right _ (h)))))) cs10 (by decide) rfl (List.mem_of_getElem? (i := 4) rfl) rfl (show v < jn M from by have := g1.1; omega) g1.2.1 ?_
    refine J_callv0 (jrunV (As := [.ref (v + 2)]) (ct_X2_takeBack l D dA hst M (v + 8) gx (cKp A) gH (v + 2) (cNw A).2.1 g5.1 (hu9.slots) (by omega)) dX7_undo_29 yY_X2_takeBack gX7_undo_X2_takeBack rfl cs6 (show v + 8 < jn M from by have := g1.1; omega) gH.2.1 rfl ⟨by omega, by omega⟩ ⟨Nat.zero_le _, Nat.zero_le _⟩ rfl (Nat.le_of_ble_eq_true rfl)) (rfl) ((by split <;> rfl)) ?_
    refine J_mem (M' := jBL (jSi (jSi M (v + 8) 1 (nI ((gx + 7) % 8))) (v + 8) 2 (nI (cKp A - 1))) (v + 2) (v + 8 + 2 + 3 * ((gx + 7) % 8))) (if_neg c7) ?_
    obtain ⟨K2, hK2⟩ : ∃ Kz9, Kz9 = jBL (jSi (jSi M (v + 8) 1 (nI ((gx + 7) % 8))) (v + 8) 2 (nI (cKp A - 1))) (v + 2) (v + 8 + 2 + 3 * ((gx + 7) % 8)) := ⟨_, rfl⟩
    have hAK2 : jAb K2 v (cUnd A) := by rw [hK2]; exact (hA.undo gH g8 c7).1
    have hfK2 : jFv v M K2 := by rw [hK2]; exact (hA.undo gH g8 c7).2
    refine J_mem (M' := K2) hK2.symm ?_
    obtain ⟨n1, n2, n3, n4, n5, n6, n7, n9⟩ := id hAK2
    obtain ⟨nx, nH, n8⟩ := id n7
    obtain ⟨na1, na2, na3, na4, na5, na6, na7, na8, na9, na10, na11, na12, na13⟩ := id n3
    have nc30 := n5.1.2.2.2.2.2.2.2.2.2
    refine J_aload_n (v) dX7_undo_32 rfl rfl ?_
    refine J_getrs (q := v + 8) na4 dX7_undo_33 (fun _ h => List.mem_cons_of_mem _ (List.mem_append_left _ (List.mem_append_left _ (List.mem_append_left _ (List.mem_append_right _ (h)))))) cs10 (by decide) rfl (List.mem_of_getElem? (i := 3) rfl) rfl (show v < jn K2 from by have := n1.1; omega) n1.2.1 ?_
    refine J_calli0 (jrunV (As := []) (ct_X2_count l D dA hst K2 (v + 8) nx (cKp (cUnd A)) nH) dX7_undo_36 yY_X2_count gX7_undo_X2_count rfl cs6 (show v + 8 < jn K2 from by have := n1.1; omega) nH.2.1 rfl ⟨by omega, by omega⟩ ⟨Nat.zero_le _, Nat.zero_le _⟩ rfl (Nat.le_of_ble_eq_true rfl)) (rfl) (rfl) ?_
    exact J_iret (ty := .int) dX7_undo_39 rfl (rfl) (by first | (unfold sUnd; rw [if_pos c7]; exact ⟨rfl, hAK2, hfK2⟩) | (unfold sUnd; rw [if_neg c7]; exact ⟨rfl, hAK2, hfK2⟩) | (unfold sUnd; exact ⟨rfl, hAK2, hfK2⟩) | fail "leaf")
  · have c7 := jeqT (a := cKp A) (b := 0) (by omega) (by omega) c7
    exact J_throwSW (E := "java/lang/IllegalStateException") (text := "no change is kept") (names := ["java/lang/RuntimeException", "java/lang/Exception"]) (by decide) (by decide) dX7_undo_10 dX7_undo_13 dX7_undo_14 dX7_undo_17 dX7_undo_20 (List.mem_of_getElem? (i := 1) rfl) (List.mem_of_getElem? (i := 2) rfl) thr_RX7_59_268_s (fun _ h => List.mem_cons_of_mem _ (List.mem_append_right _ (h))) thr_RX7_59 thr_RX7_59_g rfl (Nat.le_of_ble_eq_true rfl) (by first | decide | (simp only [List.length_cons, List.length_nil]; omega)) (by first | decide | (simp only [List.length_cons, List.length_nil]; omega)) (by omega) (by omega) (by first | (unfold sUnd; rw [if_pos c7]; exact ⟨rfl, hA, jFv.rf⟩) | (unfold sUnd; rw [if_neg c7]; exact ⟨rfl, hA, jFv.rf⟩) | (unfold sUnd; exact ⟨rfl, hA, jFv.rf⟩) | fail "leaf")

theorem dX7_save_0 : decode cX7_save 0 = .ok (.aload_n 0, 1) := by decide +kernel
theorem dX7_save_1 : decode cX7_save 1 = .ok (.getfield 34, 3) := by decide +kernel
theorem dX7_save_4 : decode cX7_save 4 = .ok (.aload_n 0, 1) := by decide +kernel
theorem dX7_save_5 : decode cX7_save 5 = .ok (.getfield 30, 3) := by decide +kernel
theorem dX7_save_8 : decode cX7_save 8 = .ok (.invokevirtual 273, 3) := by decide +kernel
set_option maxRecDepth 20000 in
theorem ggX7_save_X5_becomeLike : GoodIn wsX7_save wsX5_becomeLike := goodIn_r _ [8, 9, 10, 11, 12, 13, 14, 15, 26, 27, 28] (by decide +kernel) (by decide +kernel)
set_option maxRecDepth 20000 in
theorem gX7_save_X5_becomeLike : GoodIn wsX7_save (wsV RX7 273 RX5 yX5_becomeLike wsX5_becomeLike) := goodIn_app (goodIn_of _ (by decide +kernel)) ggX7_save_X5_becomeLike
theorem dX7_save_11 : decode cX7_save 11 = .ok (.aload_n 0, 1) := by decide +kernel
theorem dX7_save_12 : decode cX7_save 12 = .ok (.iconst 1, 1) := by decide +kernel
theorem dX7_save_13 : decode cX7_save 13 = .ok (.putfield 37, 3) := by decide +kernel
theorem dX7_save_16 : decode cX7_save 16 = .ok (.return_, 1) := by decide +kernel
set_option maxHeartbeats 400000 in
set_option maxRecDepth 20000 in
theorem ct_X7_save (l : Launch) (D : va_G) (dA : Nat → ClassId) (hst : l.stackTraces = false) (M : jM) (v : Nat) (A : cA) (hA : jAb M v A) : jCT l D dA yX7_save wsX7_save (22) (420) (6) (40) 0 [.ref (v)] M (jPr M v (sSav A)) := by
  refine jBody (cc := cX7_save) (nL := 1) (rt := none) (ini := false) (by decide) rfl hst (Nat.le_of_ble_eq_true rfl) (by simp [Value.category]) (by intro h9; first | exact absurd h9 (by decide) | rfl) ?_
  show J l D dA RX7 cX7_save wsX7_save 1 false none [] (22) (420) (jF D dA (jn M) (jPr M v (sSav A)) 0) (jn M) (6) (40) (M) 0 [.ref (v)] []
  obtain ⟨g1, g2, g3, g4, g5, g6, g7, g9⟩ := id hA
  obtain ⟨gx, gH, g8⟩ := id g7
  obtain ⟨ga1, ga2, ga3, ga4, ga5, ga6, ga7, ga8, ga9, ga10, ga11, ga12, ga13⟩ := id g3
  have gc30 := g5.1.2.2.2.2.2.2.2.2.2
  refine J_aload_n (v) dX7_save_0 rfl rfl ?_
  refine J_getrs (q := v + 5) ga3 dX7_save_1 (fun _ h => List.mem_cons_of_mem _ (List.mem_append_left _ (List.mem_append_right _ (h)))) cs10 (by decide) rfl (List.mem_of_getElem? (i := 1) rfl) rfl (show v < jn M from by have := g1.1; omega) g1.2.1 ?_
  refine J_aload_n (v) dX7_save_4 rfl rfl ?_
  refine J_getrs (q := v + 2) ga2 dX7_save_5 (fun _ h => List.mem_cons_of_mem _ (List.mem_append_left _ (List.mem_append_right _ (h)))) cs10 (by decide) rfl (List.mem_of_getElem? (i := 2) rfl) rfl (show v < jn M from by have := g1.1; omega) g1.2.1 ?_
  refine J_callv0 (jrunV (As := [.ref (v + 2)]) (ct_X5_becomeLike l D dA hst M (v + 5) (cSn A).2.1 g6.1 (v + 2) (cNw A).2.1 g5.1 (by omega) g5.slots) dX7_save_8 yY_X5_becomeLike gX7_save_X5_becomeLike rfl cs9 (show v + 5 < jn M from by have := g1.1; omega) g6.1.2.1 rfl ⟨by omega, by omega⟩ ⟨Nat.zero_le _, Nat.zero_le _⟩ rfl (Nat.le_of_ble_eq_true rfl)) (rfl) (rfl) ?_
  refine J_aload_n (v) dX7_save_11 rfl rfl ?_
  refine J_iconst (x := 1) dX7_save_12 (by decide) ?_
  refine J_puti (j := 7) (x := (1)) dX7_save_13 (fun _ h => List.mem_cons_of_mem _ (List.mem_append_left _ (List.mem_append_right _ (h)))) cs10 cty10 (by decide) rfl (List.mem_of_getElem? (i := 3) rfl) rfl rfl ⟨rfl, rfl⟩ (show v < jn M from by have := g1.1; omega) g1.2.1 ?_
  exact J_vret dX7_save_16 rfl (by exact ⟨rfl, hA.sav⟩)

theorem jHis.bl {M : jM} {v nx kp : Nat} (h : jHis M (v + 8) nx kp) : jHis (jBL M (v + 2) (v + 5)) (v + 8) nx kp := by
  have e1 := h.1
  exact h.fv (Nat.le_refl _) (fun _ _ => ⟨rfl, rfl⟩) ⟨funext fun j => jBL_r (by omega), funext fun j => jBL_i (by omega) (by omega)⟩ (funext fun j => jBL_r (by omega)) (fun j hj => ⟨funext fun i => jBL_r (by omega), funext fun i => jBL_i (by omega) (by omega)⟩)
theorem dX7_restore_0 : decode cX7_restore 0 = .ok (.aload_n 0, 1) := by decide +kernel
theorem dX7_restore_1 : decode cX7_restore 1 = .ok (.getfield 37, 3) := by decide +kernel
theorem dX7_restore_4 : decode cX7_restore 4 = .ok (.ifCond .ne 14, 3) := by decide +kernel
theorem dX7_restore_18 : decode cX7_restore 18 = .ok (.aload_n 0, 1) := by decide +kernel
theorem dX7_restore_19 : decode cX7_restore 19 = .ok (.getfield 30, 3) := by decide +kernel
theorem dX7_restore_22 : decode cX7_restore 22 = .ok (.aload_n 0, 1) := by decide +kernel
theorem dX7_restore_23 : decode cX7_restore 23 = .ok (.getfield 34, 3) := by decide +kernel
theorem dX7_restore_26 : decode cX7_restore 26 = .ok (.invokevirtual 273, 3) := by decide +kernel
set_option maxRecDepth 20000 in
theorem ggX7_restore_X5_becomeLike : GoodIn wsX7_restore wsX5_becomeLike := goodIn_r _ [11, 12, 13, 14, 15, 16, 17, 18, 35, 36, 37] (by decide +kernel) (by decide +kernel)
set_option maxRecDepth 20000 in
theorem gX7_restore_X5_becomeLike : GoodIn wsX7_restore (wsV RX7 273 RX5 yX5_becomeLike wsX5_becomeLike) := goodIn_app (goodIn_of _ (by decide +kernel)) ggX7_restore_X5_becomeLike
theorem dX7_restore_29 : decode cX7_restore 29 = .ok (.aload_n 0, 1) := by decide +kernel
theorem dX7_restore_30 : decode cX7_restore 30 = .ok (.getfield 44, 3) := by decide +kernel
theorem dX7_restore_33 : decode cX7_restore 33 = .ok (.invokevirtual 278, 3) := by decide +kernel
set_option maxRecDepth 20000 in
theorem ggX7_restore_X2_forget : GoodIn wsX7_restore wsX2_forget := goodIn_r _ [23, 24, 38, 39, 40] (by decide +kernel) (by decide +kernel)
set_option maxRecDepth 20000 in
theorem gX7_restore_X2_forget : GoodIn wsX7_restore (wsV RX7 278 RX2 yX2_forget wsX2_forget) := goodIn_app (goodIn_of _ (by decide +kernel)) ggX7_restore_X2_forget
theorem yY_X2_forget : jY yX2_forget wsX2_forget cX2_forget 1 none 0 := ⟨⟨_, rfl⟩, by decide +kernel, by decide +kernel, by decide +kernel⟩
theorem dX7_restore_36 : decode cX7_restore 36 = .ok (.return_, 1) := by decide +kernel
theorem dX7_restore_7 : decode cX7_restore 7 = .ok (.new 55, 3) := by decide +kernel
theorem thr_RX7_59_276_s : (RX7, 276, "there is no snapshot") ∈ jStrs := List.mem_of_getElem? (i := 19) rfl
theorem dX7_restore_10 : decode cX7_restore 10 = .ok (.dup, 1) := by decide +kernel
theorem dX7_restore_11 : decode cX7_restore 11 = .ok (.ldc_w 276, 3) := by decide +kernel
theorem dX7_restore_14 : decode cX7_restore 14 = .ok (.invokespecial 59, 3) := by decide +kernel
theorem dX7_restore_17 : decode cX7_restore 17 = .ok (.athrow, 1) := by decide +kernel
set_option maxHeartbeats 400000 in
set_option maxRecDepth 20000 in
theorem ct_X7_restore (l : Launch) (D : va_G) (dA : Nat → ClassId) (hst : l.stackTraces = false) (M : jM) (v : Nat) (A : cA) (hA : jAb M v A) : jCT l D dA yX7_restore wsX7_restore (22) (420) (6) (40) 0 [.ref (v)] M (jPr M v (sRes A)) := by
  refine jBody (cc := cX7_restore) (nL := 1) (rt := none) (ini := false) (by decide) rfl hst (Nat.le_of_ble_eq_true rfl) (by simp [Value.category]) (by intro h9; first | exact absurd h9 (by decide) | rfl) ?_
  show J l D dA RX7 cX7_restore wsX7_restore 1 false none [] (22) (420) (jF D dA (jn M) (jPr M v (sRes A)) 0) (jn M) (6) (40) (M) 0 [.ref (v)] []
  obtain ⟨g1, g2, g3, g4, g5, g6, g7, g9⟩ := id hA
  obtain ⟨gx, gH, g8⟩ := id g7
  obtain ⟨ga1, ga2, ga3, ga4, ga5, ga6, ga7, ga8, ga9, ga10, ga11, ga12, ga13⟩ := id g3
  have gc30 := g5.1.2.2.2.2.2.2.2.2.2
  refine J_aload_n (v) dX7_restore_0 rfl rfl ?_
  refine J_geti (j := 7) dX7_restore_1 (fun _ h => List.mem_cons_of_mem _ (List.mem_append_left _ (List.mem_append_left _ (List.mem_append_left _ (List.mem_append_right _ (h)))))) cs10 (by decide) rfl (List.mem_of_getElem? (i := 3) rfl) rfl (show v < jn M from by have := g1.1; omega) g1.2.1 ?_
  refine J_topi (y := jb (cHs A)) (ga13) ?_
  refine J_if_ne dX7_restore_4 (tgt := 18) (by decide) (fun c4 => ?_) (fun c4 => ?_)
  · have c4 := jb0F c4
    refine J_aload_n (v) dX7_restore_18 rfl rfl ?_
    refine J_getrs (q := v + 2) ga2 dX7_restore_19 (fun _ h => List.mem_cons_of_mem _ (List.mem_append_left _ (List.mem_append_left _ (List.mem_append_left _ (List.mem_append_right _ (h)))))) cs10 (by decide) rfl (List.mem_of_getElem? (i := 4) rfl) rfl (show v < jn M from by have := g1.1; omega) g1.2.1 ?_
    refine J_aload_n (v) dX7_restore_22 rfl rfl ?_
    refine J_getrs (q := v + 5) ga3 dX7_restore_23 (fun _ h => List.mem_cons_of_mem _ (List.mem_append_left _ (List.mem_append_left _ (List.mem_append_left _ (List.mem_append_right _ (h)))))) cs10 (by decide) rfl (List.mem_of_getElem? (i := 5) rfl) rfl (show v < jn M from by have := g1.1; omega) g1.2.1 ?_
    refine J_callv0 (jrunV (As := [.ref (v + 5)]) (ct_X5_becomeLike l D dA hst M (v + 2) (cNw A).2.1 g5.1 (v + 5) (cSn A).2.1 g6.1 (by omega) g6.slots) dX7_restore_26 yY_X5_becomeLike gX7_restore_X5_becomeLike rfl cs9 (show v + 2 < jn M from by have := g1.1; omega) g5.1.2.1 rfl ⟨by omega, by omega⟩ ⟨Nat.zero_le _, Nat.zero_le _⟩ rfl (Nat.le_of_ble_eq_true rfl)) (rfl) (rfl) ?_
    have hH2 := gH.bl
    refine J_aload_n (v) dX7_restore_29 rfl rfl ?_
    refine J_getrs (q := v + 8) ((jBL_r (by omega)).trans ga4) dX7_restore_30 (fun _ h => List.mem_cons_of_mem _ (List.mem_append_left _ (List.mem_append_left _ (List.mem_append_left _ (List.mem_append_right _ (h)))))) cs10 (by decide) rfl (List.mem_of_getElem? (i := 6) rfl) rfl (show v < jn M from by have := g1.1; omega) g1.2.1 ?_
    refine J_callv0 (jrunV (As := []) (ct_X2_forget l D dA hst (jBL M (v + 2) (v + 5)) (v + 8) gx (cKp A) hH2) dX7_restore_33 yY_X2_forget gX7_restore_X2_forget rfl cs6 (show v + 8 < jn M from by have := g1.1; omega) gH.2.1 rfl ⟨by omega, by omega⟩ ⟨Nat.zero_le _, Nat.zero_le _⟩ rfl (Nat.le_of_ble_eq_true rfl)) (rfl) (rfl) ?_
    exact J_vret dX7_restore_36 rfl (by first | (unfold sRes; rw [if_neg (by rw [c4]; decide)]; exact ⟨rfl, hA, jFv.rf⟩) | (unfold sRes; rw [if_pos c4]; exact ⟨rfl, hA.res⟩))
  · have c4 := jb0T c4
    exact J_throwSW (E := "java/lang/IllegalStateException") (text := "there is no snapshot") (names := ["java/lang/RuntimeException", "java/lang/Exception"]) (by decide) (by decide) dX7_restore_7 dX7_restore_10 dX7_restore_11 dX7_restore_14 dX7_restore_17 (List.mem_of_getElem? (i := 1) rfl) (List.mem_of_getElem? (i := 2) rfl) thr_RX7_59_276_s (fun _ h => List.mem_cons_of_mem _ (List.mem_append_right _ (h))) thr_RX7_59 thr_RX7_59_g rfl (Nat.le_of_ble_eq_true rfl) (by first | decide | (simp only [List.length_cons, List.length_nil]; omega)) (by first | decide | (simp only [List.length_cons, List.length_nil]; omega)) (by omega) (by omega) (by first | (unfold sRes; rw [if_neg (by rw [c4]; decide)]; exact ⟨rfl, hA, jFv.rf⟩) | (unfold sRes; rw [if_pos c4]; exact ⟨rfl, hA.res⟩))

