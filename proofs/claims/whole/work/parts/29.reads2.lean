def oEnd (w : rVl) (y : Int32) (b : Bool) : jO := if y < 0 then oX xNSE else if y < nI w.1 then oI (if b then rLast w.2 w.1 y.toNatClampNeg else rFirst w.2 w.1 y.toNatClampNeg) else oX xNSE
def oPb (A : cA) (y : Int32) : jO := if y < 0 then oX xNSE else if y < nI (cNw A).2.1 then oI ((cNw A).2.2 y.toNatClampNeg) else oX xNSE
def oCaS (w : rVl) (y : Int32) : jO := if y = -1 then oI (nI w.1) else if y < 0 then oX xNSE else if y < nI w.1 then oI (w.2 y.toNatClampNeg) else oX xNSE
def oCa (A : cA) (y : Int32) : jO := match cCh A with
  | none => oX xISE
  | some w => oCaS w y
def oRf (A : cA) : jO := if cRs A = -1 then oX xNSE else oI (cRs A)
def oLm (y : Int32) (b : Bool) : jO := oVe y (oI (if b then vCaret y else vTilde y))
def oBe (A : cA) (x : Int32) (b : Bool) : jO := oSl x (oRn A x (fun w => if cGrt A w b = -1 then oX xNSE else oI (cGrt A w b)))
def oMa (A : cA) (x : Int32) (b : Bool) : jO := oSl x (oRn A x (fun w => oI (nI (cCnt A w b))))
def cQuo (k n : Nat) : UInt64 := FP.ddiv (FP.i2d (nI k)) (FP.i2d (nI n))
def oSh (A : cA) (x : Int32) : jO := oSl x (oRn A x (fun w => if (cNw A).2.1 = 0 then oX xAE else oD (cQuo (cCnt A w false) (cNw A).2.1)))
theorem cQuo_n : ∀ n k : Nat, n < 31 → k ≤ n → n ≠ 0 → vf_n64 (cQuo k n) := by
  have h : ∀ n : Nat, n < 31 → ∀ k : Nat, k < n + 1 → n ≠ 0 → vf_n64 (cQuo k n) := by
    show ∀ n : Nat, n < 31 → ∀ k : Nat, k < n + 1 → n ≠ 0 → (cQuo k n) &&& 0x7fffffffffffffff ≤ 0x7ff0000000000000
    decide +kernel
  intro n k h1 h2 h3
  exact h n h1 k (by omega) h3
/-- the sums over the slots -/
def slW (z : cSt) (p : rVl → Bool) (j : Nat) : Bool := match z.1 j with
  | some w => p w
  | none => false
def slK (z : cSt) (j : Nat) : Nat := match z.1 j with
  | some w => w.1
  | none => 0
def cIn (z : cSt) (x : Int32) : Bool := jany (slW z (fun w => rHolds w.2 w.1 x)) 12
def oAc (A : cA) (y : Int32) : jO :=
  if y = 0 then oI (nI (jcnt (fun j => ((cNw A).1 j).isSome) 12)) else if y = 1 then oI (nI (jsum (slK (cNw A)) 12)) else if y = 2 then oI (nI (jmax (slK (cNw A)) 12)) else if y = 3 then oI (nI (cNw A).2.1)
  else if y = 4 then oI (nI (jcnt (fun p => vPre ((cNw A).2.2 p)) (cNw A).2.1)) else if y = 5 then oI (nI (jcnt (fun p => !cIn (cNw A) ((cNw A).2.2 p)) (cNw A).2.1))
  else if y = 6 then oI (nI (jcnt (slW (cNw A) (fun w => decide (w.1 = 0))) 12)) else if y = 7 then oI (nI (cL A)) else oX xIAE
theorem slB_eq {M : jM} {s : Nat} {z : cSt} {p : Nat → Bool} {q : rVl → Bool} (h : jSt M s z) (hp : ∀ t w, jRg M t w.1 → (∀ j, j < 2 * w.1 → ji M (t + 1) j = w.2 j) → p t = q w) {j : Nat} (hj : j < 12) : slB M s p j = slW z q j := by
  have h1 := (h.2.1 j hj).1
  unfold slB slW
  cases hr : jr M (s + 1) j with
  | none => rw [hr] at h1; rw [h1.none]
  | some t =>
    rw [hr] at h1
    obtain ⟨w, hw, hg, hi⟩ := h1.some
    rw [hw]
    exact hp t w hg hi
theorem slN_eq {M : jM} {s : Nat} {z : cSt} (h : jSt M s z) {j : Nat} (hj : j < 12) : slN M s j = slK z j := by
  have h1 := (h.2.1 j hj).1
  unfold slN slK
  cases hr : jr M (s + 1) j with
  | none => rw [hr] at h1; rw [h1.none]
  | some t =>
    rw [hr] at h1
    obtain ⟨w, hw, hg, hi⟩ := h1.some
    rw [hw]
    exact hg.rn
theorem slI_eq {M : jM} {s : Nat} {z : cSt} (h : jSt M s z) {j : Nat} (hj : j < 12) : (jr M (s + 1) j).isSome = (z.1 j).isSome := by
  have h1 := (h.2.1 j hj).1
  cases hr : jr M (s + 1) j with
  | none => rw [hr] at h1; rw [h1.none]; rfl
  | some t =>
    rw [hr] at h1
    obtain ⟨w, hw, hg, hi⟩ := h1.some
    rw [hw]; rfl
theorem inSome_eq {M : jM} {s : Nat} {z : cSt} (h : jSt M s z) (x : Int32) : inSome M s x = cIn z x :=
  jany_congr _ (fun j hj => slB_eq h (fun t w hg hi => by rw [hg.rn]; exact rHolds_congr hi x) hj)
theorem dX7_end_0 : decode cX7_end 0 = .ok (.aload_n 0, 1) := by decide +kernel
theorem dX7_end_1 : decode cX7_end 1 = .ok (.iload_n 1, 1) := by decide +kernel
theorem dX7_end_2 : decode cX7_end 2 = .ok (.invokevirtual 138, 3) := by decide +kernel
set_option maxRecDepth 20000 in
theorem ggX7_end_X7_rangeOf : GoodIn wsX7_end wsX7_rangeOf := goodIn_ca (goodIn_ca (goodIn_r _ [7, 1, 2, 8, 9, 10, 6, 11, 12, 13, 14, 15, 16, 17, 18, 19, 35, 36, 37, 38, 39, 40, 41, 42, 43, 44, 45, 46, 47] (by decide +kernel) (by decide +kernel)) (goodIn_sub (fun _ h => List.mem_cons_of_mem _ (List.mem_append_left _ (List.mem_append_left _ (List.mem_append_right _ h)))) (by decide +kernel))) (goodIn_sub (fun _ h => List.mem_cons_of_mem _ (List.mem_append_left _ (List.mem_append_right _ h))) (by decide +kernel))
set_option maxRecDepth 20000 in
theorem gX7_end_X7_rangeOf : GoodIn wsX7_end (wsV RX7 138 RX7 yX7_rangeOf wsX7_rangeOf) := goodIn_app (goodIn_of _ (by decide +kernel)) ggX7_end_X7_rangeOf
theorem dX7_end_5 : decode cX7_end 5 = .ok (.astore 4, 2) := by decide +kernel
theorem dX7_end_7 : decode cX7_end 7 = .ok (.iload_n 2, 1) := by decide +kernel
theorem dX7_end_8 : decode cX7_end 8 = .ok (.ifCond .lt 12, 3) := by decide +kernel
theorem dX7_end_20 : decode cX7_end 20 = .ok (.new 141, 3) := by decide +kernel
theorem thr_RX7_145_143_s : (RX7, 143, "there is no such span") ∈ jStrs := List.mem_of_getElem? (i := 7) rfl
theorem dX7_end_23 : decode cX7_end 23 = .ok (.dup, 1) := by decide +kernel
theorem dX7_end_24 : decode cX7_end 24 = .ok (.ldc 143, 2) := by decide +kernel
theorem dX7_end_26 : decode cX7_end 26 = .ok (.invokespecial 145, 3) := by decide +kernel
theorem dX7_end_29 : decode cX7_end 29 = .ok (.athrow, 1) := by decide +kernel
theorem dX7_end_11 : decode cX7_end 11 = .ok (.iload_n 2, 1) := by decide +kernel
theorem dX7_end_12 : decode cX7_end 12 = .ok (.aload 4, 2) := by decide +kernel
theorem dX7_end_14 : decode cX7_end 14 = .ok (.invokevirtual 98, 3) := by decide +kernel
set_option maxRecDepth 20000 in
theorem ggX7_end_X3_spanCount : GoodIn wsX7_end wsX3_spanCount := goodIn_r _ [24, 25, 48] (by decide +kernel) (by decide +kernel)
set_option maxRecDepth 20000 in
theorem gX7_end_X3_spanCount : GoodIn wsX7_end (wsV RX7 98 RX3 yX3_spanCount wsX3_spanCount) := goodIn_app (goodIn_of _ (by decide +kernel)) ggX7_end_X3_spanCount
theorem dX7_end_17 : decode cX7_end 17 = .ok (.if_icmp .lt 13, 3) := by decide +kernel
theorem dX7_end_30 : decode cX7_end 30 = .ok (.iload_n 3, 1) := by decide +kernel
theorem dX7_end_31 : decode cX7_end 31 = .ok (.ifCond .eq 12, 3) := by decide +kernel
theorem dX7_end_43 : decode cX7_end 43 = .ok (.aload 4, 2) := by decide +kernel
theorem dX7_end_45 : decode cX7_end 45 = .ok (.iload_n 2, 1) := by decide +kernel
theorem dX7_end_46 : decode cX7_end 46 = .ok (.invokevirtual 150, 3) := by decide +kernel
set_option maxRecDepth 20000 in
theorem ggX7_end_X3_firstOf : GoodIn wsX7_end wsX3_firstOf := goodIn_ca (goodIn_r _ [34, 25, 30, 21, 22, 23, 24, 48] (by decide +kernel) (by decide +kernel)) (goodIn_sub (fun _ h => List.mem_cons_of_mem _ (List.mem_append_right _ h)) (by decide +kernel))
set_option maxRecDepth 20000 in
theorem gX7_end_X3_firstOf : GoodIn wsX7_end (wsV RX7 150 RX3 yX3_firstOf wsX3_firstOf) := goodIn_app (goodIn_of _ (by decide +kernel)) ggX7_end_X3_firstOf
theorem dX7_end_49 : decode cX7_end 49 = .ok (.ireturn, 1) := by decide +kernel
theorem dX7_end_34 : decode cX7_end 34 = .ok (.aload 4, 2) := by decide +kernel
theorem dX7_end_36 : decode cX7_end 36 = .ok (.iload_n 2, 1) := by decide +kernel
theorem dX7_end_37 : decode cX7_end 37 = .ok (.invokevirtual 146, 3) := by decide +kernel
set_option maxRecDepth 20000 in
theorem ggX7_end_X3_lastOf : GoodIn wsX7_end wsX3_lastOf := goodIn_ca (goodIn_r _ [29, 25, 30, 21, 22, 23, 24, 48] (by decide +kernel) (by decide +kernel)) (goodIn_sub (fun _ h => List.mem_cons_of_mem _ (List.mem_append_right _ h)) (by decide +kernel))
set_option maxRecDepth 20000 in
theorem gX7_end_X3_lastOf : GoodIn wsX7_end (wsV RX7 146 RX3 yX3_lastOf wsX3_lastOf) := goodIn_app (goodIn_of _ (by decide +kernel)) ggX7_end_X3_lastOf
theorem dX7_end_40 : decode cX7_end 40 = .ok (.goto 9, 3) := by decide +kernel
set_option maxHeartbeats 400000 in
set_option maxRecDepth 20000 in
theorem ct_X7_end (l : Launch) (D : va_G) (dA : Nat → ClassId) (hst : l.stackTraces = false) (M : jM) (v : Nat) (A : cA) (hA : jAb M v A) (x y : Int32) (b : Bool) : jCT l D dA yX7_end wsX7_end (26) (660) (6) (40) 1 [.ref (v), .int (x), .int (y), .int (jb (b))] M (jPo (oSl x (oRn A x (fun w => oEnd w y b))) (M)) := by
  refine jBody (cc := cX7_end) (nL := 5) (rt := (some .int)) (ini := false) (by decide) rfl hst (Nat.le_of_ble_eq_true rfl) (by simp [Value.category]) (by intro h9; first | exact absurd h9 (by decide) | rfl) ?_
  show J l D dA RX7 cX7_end wsX7_end 5 false (some .int) [] (26) (660) (jF D dA (jn M) (jPo (oSl x (oRn A x (fun w => oEnd w y b))) (M)) 1) (jn M) (6) (40) (M) 0 [.ref (v), .int (x), .int (y), .int (jb (b)), .float 0] []
  obtain ⟨g1, g2, g3, g4, g5, g6, g7, g9⟩ := id hA
  obtain ⟨a1, a2, a3, a4, a5, a6, a7, a8, a9, a10, a11, a12, a13⟩ := id g3
  have lt := Nat.le_trans (Nat.add_le_add_left (show 36 ≤ 52 by decide) _) g1.1
  have c30 := g5.1.2.2.2.2.2.2.2.2.2
  refine J_aload_n (v) dX7_end_0 rfl rfl ?_
  refine J_iload_n dX7_end_1 rfl rfl ?_
  rcases Bool.eq_false_or_eq_true (okSlot ((x))) with ok2 | ok2
  · rcases hs2 : stRange M (v + 2) ((x)) with _ | t2
    · have hj2 := (jVa_cAt g5 ((x))).1
      rw [hs2] at hj2
      have hw2 := hj2.none
      refine J_callqX (jrunV (As := [.int (x)]) (ct_X7_rangeOf l D dA hst M v A hA ((x))) dX7_end_2 yY_X7_rangeOf gX7_end_X7_rangeOf rfl cs10 (show v < jn M from by have := lt; omega) g1.2.1 rfl ⟨by omega, by omega⟩ ⟨by omega, by omega⟩ rfl (Nat.le_of_ble_eq_true rfl)) ((by unfold oRg; rw [if_pos ok2, hs2])) ⟨by omega, by omega⟩ (Or.inl rfl) ?_
      exact JX_out rfl ⟨(by first | (rw [oSl_t ok2, oRn_n hw2]; done) | (rw [oSl_t ok2, oRn_n hw2]; unfold oEnd; rw [if_pos c8]; first | done | rfl) | (rw [oSl_t ok2, oRn_n hw2]; unfold oEnd; rw [if_neg (nI_pos (by omega)), if_neg (nI_nlt (by omega) (by omega))]; first | done | rfl) | (rw [oSl_t ok2, oRn_n hw2]; unfold oEnd; rw [if_neg (nI_pos (by omega)), if_pos (nI_lt (by omega) (by omega)), c31, nI_clamp (by omega)]; simp only [Bool.false_eq_true, reduceIte]; first | rw [rFirst_congr hi2] | rw [rLast_congr hi2]; first | done | rfl) | (rw [oSl_t ok2, oRn_n hw2]; with_reducible rfl) | (rw [oSl_t ok2, oRn_n hw2]; rfl) | fail "leaf"), (by rfl)⟩
    · have hj2 := jVa_cAt g5 ((x))
      rw [hs2] at hj2
      obtain ⟨⟨w2, hw2, hg2, hi2⟩, hl2⟩ := And.imp_left jVa.some hj2
      have h16_2 := hl2 w2 hw2
      refine J_callqB (jrunV (As := [.int (x)]) (ct_X7_rangeOf l D dA hst M v A hA ((x))) dX7_end_2 yY_X7_rangeOf gX7_end_X7_rangeOf rfl cs10 (show v < jn M from by have := lt; omega) g1.2.1 rfl ⟨by omega, by omega⟩ ⟨by omega, by omega⟩ rfl (Nat.le_of_ble_eq_true rfl)) ((by unfold oRg; rw [if_pos ok2, hs2])) (rfl) ⟨by omega, by omega⟩ ?_
      refine J_astore (x := t2) (lv' := [.ref (v), .int (x), .int (y), .int (jb (b)), .ref (t2)]) dX7_end_5 (by decide) rfl rfl ?_
      refine J_iload_n dX7_end_7 rfl rfl ?_
      refine J_if_lt dX7_end_8 (tgt := 20) (by decide) (fun c8 => ?_) (fun c8 => ?_)
      · exact J_throwS (E := "java/util/NoSuchElementException") (text := "there is no such span") (names := ["java/lang/RuntimeException", "java/lang/Exception"]) (by decide) (by decide) dX7_end_20 dX7_end_23 dX7_end_24 dX7_end_26 dX7_end_29 (List.mem_of_getElem? (i := 1) rfl) (List.mem_of_getElem? (i := 2) rfl) thr_RX7_145_143_s (fun _ h => List.mem_cons_of_mem _ (List.mem_append_left _ (List.mem_append_left _ (List.mem_append_right _ (h))))) thr_RX7_145 thr_RX7_145_g rfl (Nat.le_of_ble_eq_true rfl) (by first | decide | (simp only [List.length_cons, List.length_nil]; omega)) (by first | decide | (simp only [List.length_cons, List.length_nil]; omega)) (by omega) (by omega) ⟨(by first | (rw [oSl_t ok2, oRn_s hw2]; done) | (rw [oSl_t ok2, oRn_s hw2]; unfold oEnd; rw [if_pos c8]; first | done | rfl) | (rw [oSl_t ok2, oRn_s hw2]; unfold oEnd; rw [if_neg (nI_pos (by omega)), if_neg (nI_nlt (by omega) (by omega))]; first | done | rfl) | (rw [oSl_t ok2, oRn_s hw2]; unfold oEnd; rw [if_neg (nI_pos (by omega)), if_pos (nI_lt (by omega) (by omega)), c31, nI_clamp (by omega)]; simp only [Bool.false_eq_true, reduceIte]; first | rw [rFirst_congr hi2] | rw [rLast_congr hi2]; first | done | rfl) | (rw [oSl_t ok2, oRn_s hw2]; with_reducible rfl) | (rw [oSl_t ok2, oRn_s hw2]; rfl) | fail "leaf"), (by rfl)⟩
      · obtain ⟨k, hk31, rfl⟩ := nI_of c8
        refine J_iload_n dX7_end_11 rfl rfl ?_
        refine J_aload (t2) dX7_end_12 rfl ?_
        refine J_calli0 (jrunV (As := []) (ct_X3_spanCount l D dA hst M t2 w2.1 hg2) dX7_end_14 yY_X3_spanCount gX7_end_X3_spanCount rfl cs7 (Nat.lt_of_succ_lt hg2.1) hg2.2.1 rfl ⟨by omega, by omega⟩ ⟨Nat.zero_le _, Nat.zero_le _⟩ rfl (Nat.le_of_ble_eq_true rfl)) (rfl) (rfl) ?_
        refine J_icmp_lt dX7_end_17 (tgt := 30) (by decide) (fun c17 => ?_) (fun c17 => ?_)
        · have c17 := jltT (a := k) (b := w2.1) (by omega) (by omega) c17
          refine J_iload_n dX7_end_30 rfl rfl ?_
          refine J_if_eq dX7_end_31 (tgt := 43) (by decide) (fun c31 => ?_) (fun c31 => ?_)
          · have c31 := jb0T c31
            refine J_aload (t2) dX7_end_43 rfl ?_
            refine J_iload_n dX7_end_45 rfl rfl ?_
            refine J_calli0 (jrunV (As := [.int (nI (k))]) (ct_X3_firstOf l D dA hst M t2 w2.1 hg2 (k) (by omega)) dX7_end_46 yY_X3_firstOf gX7_end_X3_firstOf rfl cs7 (Nat.lt_of_succ_lt hg2.1) hg2.2.1 rfl ⟨by omega, by omega⟩ ⟨Nat.zero_le _, Nat.zero_le _⟩ rfl (Nat.le_of_ble_eq_true rfl)) (rfl) (rfl) ?_
            exact J_iret (ty := .int) dX7_end_49 rfl (rfl) ⟨(by first | (rw [oSl_t ok2, oRn_s hw2]; done) | (rw [oSl_t ok2, oRn_s hw2]; unfold oEnd; rw [if_pos c8]; first | done | rfl) | (rw [oSl_t ok2, oRn_s hw2]; unfold oEnd; rw [if_neg (nI_pos (by omega)), if_neg (nI_nlt (by omega) (by omega))]; first | done | rfl) | (rw [oSl_t ok2, oRn_s hw2]; unfold oEnd; rw [if_neg (nI_pos (by omega)), if_pos (nI_lt (by omega) (by omega)), c31, nI_clamp (by omega)]; simp only [Bool.false_eq_true, reduceIte]; first | rw [rFirst_congr hi2] | rw [rLast_congr hi2]; first | done | rfl) | (rw [oSl_t ok2, oRn_s hw2]; with_reducible rfl) | (rw [oSl_t ok2, oRn_s hw2]; rfl) | fail "leaf"), (by rfl)⟩
          · have c31 := jb0F c31
            refine J_aload (t2) dX7_end_34 rfl ?_
            refine J_iload_n dX7_end_36 rfl rfl ?_
            refine J_calli0 (jrunV (As := [.int (nI (k))]) (ct_X3_lastOf l D dA hst M t2 w2.1 hg2 (k) (by omega)) dX7_end_37 yY_X3_lastOf gX7_end_X3_lastOf rfl cs7 (Nat.lt_of_succ_lt hg2.1) hg2.2.1 rfl ⟨by omega, by omega⟩ ⟨Nat.zero_le _, Nat.zero_le _⟩ rfl (Nat.le_of_ble_eq_true rfl)) (rfl) (rfl) ?_
            refine J_goto (tgt := 49) dX7_end_40 (by decide) ?_
            exact J_iret (ty := .int) dX7_end_49 rfl (rfl) ⟨(by first | (rw [oSl_t ok2, oRn_s hw2]; done) | (rw [oSl_t ok2, oRn_s hw2]; unfold oEnd; rw [if_pos c8]; first | done | rfl) | (rw [oSl_t ok2, oRn_s hw2]; unfold oEnd; rw [if_neg (nI_pos (by omega)), if_neg (nI_nlt (by omega) (by omega))]; first | done | rfl) | (rw [oSl_t ok2, oRn_s hw2]; unfold oEnd; rw [if_neg (nI_pos (by omega)), if_pos (nI_lt (by omega) (by omega)), c31, nI_clamp (by omega)]; simp only [Bool.false_eq_true, reduceIte]; first | rw [rFirst_congr hi2] | rw [rLast_congr hi2]; first | done | rfl) | (rw [oSl_t ok2, oRn_s hw2]; with_reducible rfl) | (rw [oSl_t ok2, oRn_s hw2]; rfl) | fail "leaf"), (by rfl)⟩
        · have c17 := jltF (a := k) (b := w2.1) (by omega) (by omega) c17
          exact J_throwS (E := "java/util/NoSuchElementException") (text := "there is no such span") (names := ["java/lang/RuntimeException", "java/lang/Exception"]) (by decide) (by decide) dX7_end_20 dX7_end_23 dX7_end_24 dX7_end_26 dX7_end_29 (List.mem_of_getElem? (i := 1) rfl) (List.mem_of_getElem? (i := 2) rfl) thr_RX7_145_143_s (fun _ h => List.mem_cons_of_mem _ (List.mem_append_left _ (List.mem_append_left _ (List.mem_append_right _ (h))))) thr_RX7_145 thr_RX7_145_g rfl (Nat.le_of_ble_eq_true rfl) (by first | decide | (simp only [List.length_cons, List.length_nil]; omega)) (by first | decide | (simp only [List.length_cons, List.length_nil]; omega)) (by omega) (by omega) ⟨(by first | (rw [oSl_t ok2, oRn_s hw2]; done) | (rw [oSl_t ok2, oRn_s hw2]; unfold oEnd; rw [if_pos c8]; first | done | rfl) | (rw [oSl_t ok2, oRn_s hw2]; unfold oEnd; rw [if_neg (nI_pos (by omega)), if_neg (nI_nlt (by omega) (by omega))]; first | done | rfl) | (rw [oSl_t ok2, oRn_s hw2]; unfold oEnd; rw [if_neg (nI_pos (by omega)), if_pos (nI_lt (by omega) (by omega)), c31, nI_clamp (by omega)]; simp only [Bool.false_eq_true, reduceIte]; first | rw [rFirst_congr hi2] | rw [rLast_congr hi2]; first | done | rfl) | (rw [oSl_t ok2, oRn_s hw2]; with_reducible rfl) | (rw [oSl_t ok2, oRn_s hw2]; rfl) | fail "leaf"), (by rfl)⟩
  · refine J_callqX (jrunV (As := [.int (x)]) (ct_X7_rangeOf l D dA hst M v A hA ((x))) dX7_end_2 yY_X7_rangeOf gX7_end_X7_rangeOf rfl cs10 (show v < jn M from by have := lt; omega) g1.2.1 rfl ⟨by omega, by omega⟩ ⟨by omega, by omega⟩ rfl (Nat.le_of_ble_eq_true rfl)) ((by unfold oRg; rw [if_neg (by rw [ok2]; decide)])) ⟨by omega, by omega⟩ (Or.inl rfl) ?_
    exact JX_out rfl ⟨(by first | (rw [oSl_f ok2]; done) | (rw [oSl_f ok2]; unfold oEnd; rw [if_pos c8]; first | done | rfl) | (rw [oSl_f ok2]; unfold oEnd; rw [if_neg (nI_pos (by omega)), if_neg (nI_nlt (by omega) (by omega))]; first | done | rfl) | (rw [oSl_f ok2]; unfold oEnd; rw [if_neg (nI_pos (by omega)), if_pos (nI_lt (by omega) (by omega)), c31, nI_clamp (by omega)]; simp only [Bool.false_eq_true, reduceIte]; first | rw [rFirst_congr hi2] | rw [rLast_congr hi2]; first | done | rfl) | (rw [oSl_f ok2]; with_reducible rfl) | (rw [oSl_f ok2]; rfl) | fail "leaf"), (by rfl)⟩

theorem dX7_limit_0 : decode cX7_limit 0 = .ok (.iload_n 1, 1) := by decide +kernel
theorem dX7_limit_1 : decode cX7_limit 1 = .ok (.invokestatic 119, 3) := by decide +kernel
set_option maxRecDepth 20000 in
theorem ggX7_limit_X7_checkVersion : GoodIn wsX7_limit wsX7_checkVersion := goodIn_ca (goodIn_r _ [4, 5, 6, 7] (by decide +kernel) (by decide +kernel)) (goodIn_sub (fun _ h => List.mem_cons_of_mem _ (List.mem_append_right _ h)) (by decide +kernel))
set_option maxRecDepth 20000 in
theorem gX7_limit_X7_checkVersion : GoodIn wsX7_limit (va_wsS RX7 119 yX7_checkVersion wsX7_checkVersion) := goodIn_app (goodIn_of _ (by decide +kernel)) ggX7_limit_X7_checkVersion
theorem dX7_limit_4 : decode cX7_limit 4 = .ok (.iload_n 2, 1) := by decide +kernel
theorem dX7_limit_5 : decode cX7_limit 5 = .ok (.ifCond .eq 10, 3) := by decide +kernel
theorem dX7_limit_15 : decode cX7_limit 15 = .ok (.iload_n 1, 1) := by decide +kernel
theorem dX7_limit_16 : decode cX7_limit 16 = .ok (.invokestatic 190, 3) := by decide +kernel
set_option maxRecDepth 20000 in
theorem ggX7_limit_X7_lastOfTilde : GoodIn wsX7_limit wsX7_lastOfTilde := goodIn_r _ [14] (by decide +kernel) (by decide +kernel)
set_option maxRecDepth 20000 in
theorem gX7_limit_X7_lastOfTilde : GoodIn wsX7_limit (va_wsS RX7 190 yX7_lastOfTilde wsX7_lastOfTilde) := goodIn_app (goodIn_of _ (by decide +kernel)) ggX7_limit_X7_lastOfTilde
theorem dX7_limit_19 : decode cX7_limit 19 = .ok (.ireturn, 1) := by decide +kernel
theorem dX7_limit_8 : decode cX7_limit 8 = .ok (.iload_n 1, 1) := by decide +kernel
theorem dX7_limit_9 : decode cX7_limit 9 = .ok (.invokestatic 187, 3) := by decide +kernel
set_option maxRecDepth 20000 in
theorem ggX7_limit_X7_lastOfCaret : GoodIn wsX7_limit wsX7_lastOfCaret := goodIn_r _ [10, 11] (by decide +kernel) (by decide +kernel)
set_option maxRecDepth 20000 in
theorem gX7_limit_X7_lastOfCaret : GoodIn wsX7_limit (va_wsS RX7 187 yX7_lastOfCaret wsX7_lastOfCaret) := goodIn_app (goodIn_of _ (by decide +kernel)) ggX7_limit_X7_lastOfCaret
theorem dX7_limit_12 : decode cX7_limit 12 = .ok (.goto 7, 3) := by decide +kernel
set_option maxHeartbeats 400000 in
set_option maxRecDepth 20000 in
theorem ct_X7_limit (l : Launch) (D : va_G) (dA : Nat → ClassId) (hst : l.stackTraces = false) (M : jM) (v : Nat) (A : cA) (hA : jAb M v A) (y : Int32) (b : Bool) : jCT l D dA yX7_limit wsX7_limit (22) (420) (6) (40) 1 [.ref (v), .int (y), .int (jb (b))] M (jPo (oLm y b) (M)) := by
  refine jBody (cc := cX7_limit) (nL := 3) (rt := (some .int)) (ini := false) (by decide) rfl hst (Nat.le_of_ble_eq_true rfl) (by simp [Value.category]) (by intro h9; first | exact absurd h9 (by decide) | rfl) ?_
  show J l D dA RX7 cX7_limit wsX7_limit 3 false (some .int) [] (22) (420) (jF D dA (jn M) (jPo (oLm y b) (M)) 1) (jn M) (6) (40) (M) 0 [.ref (v), .int (y), .int (jb (b))] []
  obtain ⟨g1, g2, g3, g4, g5, g6, g7, g9⟩ := id hA
  obtain ⟨a1, a2, a3, a4, a5, a6, a7, a8, a9, a10, a11, a12, a13⟩ := id g3
  have lt := Nat.le_trans (Nat.add_le_add_left (show 36 ≤ 52 by decide) _) g1.1
  have c30 := g5.1.2.2.2.2.2.2.2.2.2
  refine J_iload_n dX7_limit_0 rfl rfl ?_
  rcases Bool.eq_false_or_eq_true (okVer ((y))) with ok1 | ok1
  · refine J_callvB (jrunS (As := [.int (y)]) (ct_X7_checkVersion l D dA hst M ((y))) dX7_limit_1 yY_X7_checkVersion gX7_limit_X7_checkVersion rfl ⟨by omega, by omega⟩ ⟨by omega, by omega⟩ rfl (Nat.le_of_ble_eq_true rfl)) (if_pos ok1) (rfl) ⟨by omega, by omega⟩ ?_
    refine J_iload_n dX7_limit_4 rfl rfl ?_
    refine J_if_eq dX7_limit_5 (tgt := 15) (by decide) (fun c5 => ?_) (fun c5 => ?_)
    · have c5 := jb0T c5
      refine J_iload_n dX7_limit_15 rfl rfl ?_
      refine J_calli0 (jrunS (As := [.int (y)]) (ct_X7_lastOfTilde l D dA hst M ((y))) dX7_limit_16 yY_X7_lastOfTilde gX7_limit_X7_lastOfTilde rfl ⟨by omega, by omega⟩ ⟨Nat.zero_le _, Nat.zero_le _⟩ rfl (Nat.le_of_ble_eq_true rfl)) (rfl) (rfl) ?_
      exact J_iret (ty := .int) dX7_limit_19 rfl (rfl) ⟨(by first | (unfold oLm; rw [oVe_t ok1]; done) | (unfold oLm; rw [oVe_t ok1]; rw [c5]; rfl; first | done | rfl) | (unfold oLm; rw [oVe_t ok1]; with_reducible rfl) | (unfold oLm; rw [oVe_t ok1]; rfl) | fail "leaf"), (by rfl)⟩
    · have c5 := jb0F c5
      refine J_iload_n dX7_limit_8 rfl rfl ?_
      refine J_calli0 (jrunS (As := [.int (y)]) (ct_X7_lastOfCaret l D dA hst M ((y))) dX7_limit_9 yY_X7_lastOfCaret gX7_limit_X7_lastOfCaret rfl ⟨by omega, by omega⟩ ⟨Nat.zero_le _, Nat.zero_le _⟩ rfl (Nat.le_of_ble_eq_true rfl)) (rfl) (rfl) ?_
      refine J_goto (tgt := 19) dX7_limit_12 (by decide) ?_
      exact J_iret (ty := .int) dX7_limit_19 rfl (rfl) ⟨(by first | (unfold oLm; rw [oVe_t ok1]; done) | (unfold oLm; rw [oVe_t ok1]; rw [c5]; rfl; first | done | rfl) | (unfold oLm; rw [oVe_t ok1]; with_reducible rfl) | (unfold oLm; rw [oVe_t ok1]; rfl) | fail "leaf"), (by rfl)⟩
  · refine J_callvX (jrunS (As := [.int (y)]) (ct_X7_checkVersion l D dA hst M ((y))) dX7_limit_1 yY_X7_checkVersion gX7_limit_X7_checkVersion rfl ⟨by omega, by omega⟩ ⟨by omega, by omega⟩ rfl (Nat.le_of_ble_eq_true rfl)) (if_neg (by rw [ok1]; decide)) ⟨by omega, by omega⟩ (Or.inl rfl) ?_
    exact JX_out rfl ⟨(by first | (unfold oLm; rw [oVe_f ok1]; done) | (unfold oLm; rw [oVe_f ok1]; rw [c5]; rfl; first | done | rfl) | (unfold oLm; rw [oVe_f ok1]; with_reducible rfl) | (unfold oLm; rw [oVe_f ok1]; rfl) | fail "leaf"), (by rfl)⟩

theorem dX7_faultPosition_0 : decode cX7_faultPosition 0 = .ok (.aload_n 0, 1) := by decide +kernel
theorem dX7_faultPosition_1 : decode cX7_faultPosition 1 = .ok (.getfield 17, 3) := by decide +kernel
theorem dX7_faultPosition_4 : decode cX7_faultPosition 4 = .ok (.ireturn, 1) := by decide +kernel
set_option maxHeartbeats 400000 in
set_option maxRecDepth 20000 in
theorem ct_X7_faultPosition (l : Launch) (D : va_G) (dA : Nat → ClassId) (hst : l.stackTraces = false) (M : jM) (v : Nat) (A : cA) (hA : jAb M v A) : jCT l D dA yX7_faultPosition wsX7_faultPosition (20) (300) (6) (40) 1 [.ref (v)] M (jPo (oI (cFl A)) (M)) := by
  refine jBody (cc := cX7_faultPosition) (nL := 1) (rt := (some .int)) (ini := false) (by decide) rfl hst (Nat.le_of_ble_eq_true rfl) (by simp [Value.category]) (by intro h9; first | exact absurd h9 (by decide) | rfl) ?_
  show J l D dA RX7 cX7_faultPosition wsX7_faultPosition 1 false (some .int) [] (20) (300) (jF D dA (jn M) (jPo (oI (cFl A)) (M)) 1) (jn M) (6) (40) (M) 0 [.ref (v)] []
  obtain ⟨g1, g2, g3, g4, g5, g6, g7, g9⟩ := id hA
  obtain ⟨a1, a2, a3, a4, a5, a6, a7, a8, a9, a10, a11, a12, a13⟩ := id g3
  have lt := Nat.le_trans (Nat.add_le_add_left (show 36 ≤ 52 by decide) _) g1.1
  have c30 := g5.1.2.2.2.2.2.2.2.2.2
  refine J_aload_n (v) dX7_faultPosition_0 rfl rfl ?_
  refine J_geti (j := 2) dX7_faultPosition_1 (fun _ h => List.mem_cons_of_mem _ (List.mem_append_right _ (h))) cs10 (by decide) rfl (List.mem_of_getElem? (i := 1) rfl) rfl (show v < jn M from by have := lt; omega) g1.2.1 ?_
  refine J_topi (y := (cFl A)) (a11) ?_
  exact J_iret (ty := .int) dX7_faultPosition_4 rfl (rfl) ⟨(by first | (skip; done) | (skip; with_reducible rfl) | (skip; rfl) | fail "leaf"), (by rfl)⟩

theorem dX7_refusal_0 : decode cX7_refusal 0 = .ok (.aload_n 0, 1) := by decide +kernel
theorem dX7_refusal_1 : decode cX7_refusal 1 = .ok (.getfield 20, 3) := by decide +kernel
theorem dX7_refusal_4 : decode cX7_refusal 4 = .ok (.iconst (-1), 1) := by decide +kernel
theorem dX7_refusal_5 : decode cX7_refusal 5 = .ok (.if_icmp .ne 13, 3) := by decide +kernel
theorem dX7_refusal_18 : decode cX7_refusal 18 = .ok (.aload_n 0, 1) := by decide +kernel
theorem dX7_refusal_19 : decode cX7_refusal 19 = .ok (.getfield 20, 3) := by decide +kernel
theorem dX7_refusal_22 : decode cX7_refusal 22 = .ok (.ireturn, 1) := by decide +kernel
theorem dX7_refusal_8 : decode cX7_refusal 8 = .ok (.new 141, 3) := by decide +kernel
theorem thr_RX7_145_206_s : (RX7, 206, "no call was refused") ∈ jStrs := List.mem_of_getElem? (i := 11) rfl
theorem dX7_refusal_11 : decode cX7_refusal 11 = .ok (.dup, 1) := by decide +kernel
theorem dX7_refusal_12 : decode cX7_refusal 12 = .ok (.ldc 206, 2) := by decide +kernel
theorem dX7_refusal_14 : decode cX7_refusal 14 = .ok (.invokespecial 145, 3) := by decide +kernel
theorem dX7_refusal_17 : decode cX7_refusal 17 = .ok (.athrow, 1) := by decide +kernel
set_option maxHeartbeats 400000 in
set_option maxRecDepth 20000 in
theorem ct_X7_refusal (l : Launch) (D : va_G) (dA : Nat → ClassId) (hst : l.stackTraces = false) (M : jM) (v : Nat) (A : cA) (hA : jAb M v A) : jCT l D dA yX7_refusal wsX7_refusal (20) (300) (6) (40) 1 [.ref (v)] M (jPo (oRf A) (M)) := by
  refine jBody (cc := cX7_refusal) (nL := 1) (rt := (some .int)) (ini := false) (by decide) rfl hst (Nat.le_of_ble_eq_true rfl) (by simp [Value.category]) (by intro h9; first | exact absurd h9 (by decide) | rfl) ?_
  show J l D dA RX7 cX7_refusal wsX7_refusal 1 false (some .int) [] (20) (300) (jF D dA (jn M) (jPo (oRf A) (M)) 1) (jn M) (6) (40) (M) 0 [.ref (v)] []
  obtain ⟨g1, g2, g3, g4, g5, g6, g7, g9⟩ := id hA
  obtain ⟨a1, a2, a3, a4, a5, a6, a7, a8, a9, a10, a11, a12, a13⟩ := id g3
  have lt := Nat.le_trans (Nat.add_le_add_left (show 36 ≤ 52 by decide) _) g1.1
  have c30 := g5.1.2.2.2.2.2.2.2.2.2
  refine J_aload_n (v) dX7_refusal_0 rfl rfl ?_
  refine J_geti (j := 3) dX7_refusal_1 (fun _ h => List.mem_cons_of_mem _ (List.mem_append_left _ (List.mem_append_right _ (h)))) cs10 (by decide) rfl (List.mem_of_getElem? (i := 3) rfl) rfl (show v < jn M from by have := lt; omega) g1.2.1 ?_
  refine J_topi (y := (cRs A)) (a12) ?_
  refine J_iconst (x := (-1)) dX7_refusal_4 (by decide) ?_
  refine J_icmp_ne dX7_refusal_5 (tgt := 18) (by decide) (fun c5 => ?_) (fun c5 => ?_)
  · refine J_aload_n (v) dX7_refusal_18 rfl rfl ?_
    refine J_geti (j := 3) dX7_refusal_19 (fun _ h => List.mem_cons_of_mem _ (List.mem_append_left _ (List.mem_append_right _ (h)))) cs10 (by decide) rfl (List.mem_of_getElem? (i := 3) rfl) rfl (show v < jn M from by have := lt; omega) g1.2.1 ?_
    refine J_topi (y := (cRs A)) (a12) ?_
    exact J_iret (ty := .int) dX7_refusal_22 rfl (rfl) ⟨(by first | (skip; done) | (skip; unfold oRf; rw [if_pos c5]; first | done | rfl) | (skip; unfold oRf; rw [if_neg c5]; first | done | rfl) | (skip; with_reducible rfl) | (skip; rfl) | fail "leaf"), (by rfl)⟩
  · exact J_throwS (E := "java/util/NoSuchElementException") (text := "no call was refused") (names := ["java/lang/RuntimeException", "java/lang/Exception"]) (by decide) (by decide) dX7_refusal_8 dX7_refusal_11 dX7_refusal_12 dX7_refusal_14 dX7_refusal_17 (List.mem_of_getElem? (i := 1) rfl) (List.mem_of_getElem? (i := 2) rfl) thr_RX7_145_206_s (fun _ h => List.mem_cons_of_mem _ (List.mem_append_right _ (h))) thr_RX7_145 thr_RX7_145_g rfl (Nat.le_of_ble_eq_true rfl) (by first | decide | (simp only [List.length_cons, List.length_nil]; omega)) (by first | decide | (simp only [List.length_cons, List.length_nil]; omega)) (by omega) (by omega) ⟨(by first | (skip; done) | (skip; unfold oRf; rw [if_pos c5]; first | done | rfl) | (skip; unfold oRf; rw [if_neg c5]; first | done | rfl) | (skip; with_reducible rfl) | (skip; rfl) | fail "leaf"), (by rfl)⟩

theorem dX7_published_0 : decode cX7_published 0 = .ok (.iload_n 1, 1) := by decide +kernel
theorem dX7_published_1 : decode cX7_published 1 = .ok (.ifCond .lt 14, 3) := by decide +kernel
theorem dX7_published_15 : decode cX7_published 15 = .ok (.new 141, 3) := by decide +kernel
theorem thr_RX7_145_229_s : (RX7, 229, "there is no such place") ∈ jStrs := List.mem_of_getElem? (i := 14) rfl
theorem dX7_published_18 : decode cX7_published 18 = .ok (.dup, 1) := by decide +kernel
theorem dX7_published_19 : decode cX7_published 19 = .ok (.ldc 229, 2) := by decide +kernel
theorem dX7_published_21 : decode cX7_published 21 = .ok (.invokespecial 145, 3) := by decide +kernel
theorem dX7_published_24 : decode cX7_published 24 = .ok (.athrow, 1) := by decide +kernel
theorem dX7_published_4 : decode cX7_published 4 = .ok (.iload_n 1, 1) := by decide +kernel
theorem dX7_published_5 : decode cX7_published 5 = .ok (.aload_n 0, 1) := by decide +kernel
theorem dX7_published_6 : decode cX7_published 6 = .ok (.getfield 30, 3) := by decide +kernel
theorem dX7_published_9 : decode cX7_published 9 = .ok (.invokevirtual 212, 3) := by decide +kernel
set_option maxRecDepth 20000 in
theorem ggX7_published_X5_publishedCount : GoodIn wsX7_published wsX5_publishedCount := goodIn_r _ [8, 9, 25, 26, 27] (by decide +kernel) (by decide +kernel)
set_option maxRecDepth 20000 in
theorem gX7_published_X5_publishedCount : GoodIn wsX7_published (wsV RX7 212 RX5 yX5_publishedCount wsX5_publishedCount) := goodIn_app (goodIn_of _ (by decide +kernel)) ggX7_published_X5_publishedCount
theorem dX7_published_12 : decode cX7_published 12 = .ok (.if_icmp .lt 13, 3) := by decide +kernel
theorem dX7_published_25 : decode cX7_published 25 = .ok (.aload_n 0, 1) := by decide +kernel
theorem dX7_published_26 : decode cX7_published 26 = .ok (.getfield 30, 3) := by decide +kernel
theorem dX7_published_29 : decode cX7_published 29 = .ok (.iload_n 1, 1) := by decide +kernel
theorem dX7_published_30 : decode cX7_published 30 = .ok (.invokevirtual 231, 3) := by decide +kernel
set_option maxRecDepth 20000 in
theorem ggX7_published_X5_publishedAt : GoodIn wsX7_published wsX5_publishedAt := goodIn_ca (goodIn_r _ [13, 9, 14, 25, 26, 27] (by decide +kernel) (by decide +kernel)) (goodIn_sub (fun _ h => List.mem_cons_of_mem _ (List.mem_append_right _ h)) (by decide +kernel))
set_option maxRecDepth 20000 in
theorem gX7_published_X5_publishedAt : GoodIn wsX7_published (wsV RX7 231 RX5 yX5_publishedAt wsX5_publishedAt) := goodIn_app (goodIn_of _ (by decide +kernel)) ggX7_published_X5_publishedAt
theorem dX7_published_33 : decode cX7_published 33 = .ok (.ireturn, 1) := by decide +kernel
set_option maxHeartbeats 400000 in
set_option maxRecDepth 20000 in
theorem ct_X7_published (l : Launch) (D : va_G) (dA : Nat → ClassId) (hst : l.stackTraces = false) (M : jM) (v : Nat) (A : cA) (hA : jAb M v A) (y : Int32) : jCT l D dA yX7_published wsX7_published (22) (420) (6) (40) 1 [.ref (v), .int (y)] M (jPo (oPb A y) (M)) := by
  refine jBody (cc := cX7_published) (nL := 2) (rt := (some .int)) (ini := false) (by decide) rfl hst (Nat.le_of_ble_eq_true rfl) (by simp [Value.category]) (by intro h9; first | exact absurd h9 (by decide) | rfl) ?_
  show J l D dA RX7 cX7_published wsX7_published 2 false (some .int) [] (22) (420) (jF D dA (jn M) (jPo (oPb A y) (M)) 1) (jn M) (6) (40) (M) 0 [.ref (v), .int (y)] []
  obtain ⟨g1, g2, g3, g4, g5, g6, g7, g9⟩ := id hA
  obtain ⟨a1, a2, a3, a4, a5, a6, a7, a8, a9, a10, a11, a12, a13⟩ := id g3
  have lt := Nat.le_trans (Nat.add_le_add_left (show 36 ≤ 52 by decide) _) g1.1
  have c30 := g5.1.2.2.2.2.2.2.2.2.2
  refine J_iload_n dX7_published_0 rfl rfl ?_
  refine J_if_lt dX7_published_1 (tgt := 15) (by decide) (fun c1 => ?_) (fun c1 => ?_)
  · exact J_throwS (E := "java/util/NoSuchElementException") (text := "there is no such place") (names := ["java/lang/RuntimeException", "java/lang/Exception"]) (by decide) (by decide) dX7_published_15 dX7_published_18 dX7_published_19 dX7_published_21 dX7_published_24 (List.mem_of_getElem? (i := 1) rfl) (List.mem_of_getElem? (i := 2) rfl) thr_RX7_145_229_s (fun _ h => List.mem_cons_of_mem _ (List.mem_append_left _ (List.mem_append_right _ (h)))) thr_RX7_145 thr_RX7_145_g rfl (Nat.le_of_ble_eq_true rfl) (by first | decide | (simp only [List.length_cons, List.length_nil]; omega)) (by first | decide | (simp only [List.length_cons, List.length_nil]; omega)) (by omega) (by omega) ⟨(by first | (skip; done) | (skip; unfold oPb; rw [if_pos c1]; first | done | rfl) | (skip; unfold oPb; rw [if_neg (nI_pos (by omega)), if_neg (nI_nlt (by omega) (by omega))]; first | done | rfl) | (skip; unfold oPb; rw [if_neg (nI_pos (by omega)), if_pos (nI_lt (by omega) (by omega)), nI_clamp (by omega), g5.2.2 k (by omega)]; first | done | rfl) | (skip; with_reducible rfl) | (skip; rfl) | fail "leaf"), (by rfl)⟩
  · obtain ⟨k, hk31, rfl⟩ := nI_of c1
    refine J_iload_n dX7_published_4 rfl rfl ?_
    refine J_aload_n (v) dX7_published_5 rfl rfl ?_
    refine J_getrs (q := v + 2) a2 dX7_published_6 (fun _ h => List.mem_cons_of_mem _ (List.mem_append_left _ (List.mem_append_left _ (List.mem_append_left _ (List.mem_append_right _ (h)))))) cs10 (by decide) rfl (List.mem_of_getElem? (i := 3) rfl) rfl (show v < jn M from by have := lt; omega) g1.2.1 ?_
    refine J_calli0 (jrunV (As := []) (ct_X5_publishedCount l D dA hst M (v + 2) ((cNw A).2.1) (g5.1)) dX7_published_9 yY_X5_publishedCount gX7_published_X5_publishedCount rfl cs9 (show v + 2 < jn M from by have := lt; omega) g5.1.2.1 rfl ⟨by omega, by omega⟩ ⟨Nat.zero_le _, Nat.zero_le _⟩ rfl (Nat.le_of_ble_eq_true rfl)) (rfl) (rfl) ?_
    refine J_icmp_lt dX7_published_12 (tgt := 25) (by decide) (fun c12 => ?_) (fun c12 => ?_)
    · have c12 := jltT (a := k) (b := (cNw A).2.1) (by omega) (by omega) c12
      refine J_aload_n (v) dX7_published_25 rfl rfl ?_
      refine J_getrs (q := v + 2) a2 dX7_published_26 (fun _ h => List.mem_cons_of_mem _ (List.mem_append_left _ (List.mem_append_left _ (List.mem_append_left _ (List.mem_append_right _ (h)))))) cs10 (by decide) rfl (List.mem_of_getElem? (i := 3) rfl) rfl (show v < jn M from by have := lt; omega) g1.2.1 ?_
      refine J_iload_n dX7_published_29 rfl rfl ?_
      refine J_calli0 (jrunV (As := [.int (nI (k))]) (ct_X5_publishedAt l D dA hst M (v + 2) ((cNw A).2.1) (g5.1) (k) (by omega)) dX7_published_30 yY_X5_publishedAt gX7_published_X5_publishedAt rfl cs9 (show v + 2 < jn M from by have := lt; omega) g5.1.2.1 rfl ⟨by omega, by omega⟩ ⟨Nat.zero_le _, Nat.zero_le _⟩ rfl (Nat.le_of_ble_eq_true rfl)) (congrArg (fun z => oI z) (if_pos (by omega))) (rfl) ?_
      exact J_iret (ty := .int) dX7_published_33 rfl (rfl) ⟨(by first | (skip; done) | (skip; unfold oPb; rw [if_pos c1]; first | done | rfl) | (skip; unfold oPb; rw [if_neg (nI_pos (by omega)), if_neg (nI_nlt (by omega) (by omega))]; first | done | rfl) | (skip; unfold oPb; rw [if_neg (nI_pos (by omega)), if_pos (nI_lt (by omega) (by omega)), nI_clamp (by omega), g5.2.2 k (by omega)]; first | done | rfl) | (skip; with_reducible rfl) | (skip; rfl) | fail "leaf"), (by rfl)⟩
    · have c12 := jltF (a := k) (b := (cNw A).2.1) (by omega) (by omega) c12
      exact J_throwS (E := "java/util/NoSuchElementException") (text := "there is no such place") (names := ["java/lang/RuntimeException", "java/lang/Exception"]) (by decide) (by decide) dX7_published_15 dX7_published_18 dX7_published_19 dX7_published_21 dX7_published_24 (List.mem_of_getElem? (i := 1) rfl) (List.mem_of_getElem? (i := 2) rfl) thr_RX7_145_229_s (fun _ h => List.mem_cons_of_mem _ (List.mem_append_left _ (List.mem_append_right _ (h)))) thr_RX7_145 thr_RX7_145_g rfl (Nat.le_of_ble_eq_true rfl) (by first | decide | (simp only [List.length_cons, List.length_nil]; omega)) (by first | decide | (simp only [List.length_cons, List.length_nil]; omega)) (by omega) (by omega) ⟨(by first | (skip; done) | (skip; unfold oPb; rw [if_pos c1]; first | done | rfl) | (skip; unfold oPb; rw [if_neg (nI_pos (by omega)), if_neg (nI_nlt (by omega) (by omega))]; first | done | rfl) | (skip; unfold oPb; rw [if_neg (nI_pos (by omega)), if_pos (nI_lt (by omega) (by omega)), nI_clamp (by omega), g5.2.2 k (by omega)]; first | done | rfl) | (skip; with_reducible rfl) | (skip; rfl) | fail "leaf"), (by rfl)⟩

theorem dX7_best_0 : decode cX7_best 0 = .ok (.aload_n 0, 1) := by decide +kernel
theorem dX7_best_1 : decode cX7_best 1 = .ok (.getfield 30, 3) := by decide +kernel
theorem dX7_best_4 : decode cX7_best 4 = .ok (.aload_n 0, 1) := by decide +kernel
theorem dX7_best_5 : decode cX7_best 5 = .ok (.iload_n 1, 1) := by decide +kernel
theorem dX7_best_6 : decode cX7_best 6 = .ok (.invokevirtual 138, 3) := by decide +kernel
set_option maxRecDepth 20000 in
theorem ggX7_best_X7_rangeOf : GoodIn wsX7_best wsX7_rangeOf := goodIn_ca (goodIn_ca (goodIn_r _ [8, 1, 2, 3, 9, 10, 7, 11, 12, 13, 14, 15, 16, 17, 18, 19, 61, 62, 63, 64, 65, 66, 67, 68, 69, 70, 71, 72, 73] (by decide +kernel) (by decide +kernel)) (goodIn_sub (fun _ h => List.mem_cons_of_mem _ (List.mem_append_left _ (List.mem_append_left _ (List.mem_append_right _ h)))) (by decide +kernel))) (goodIn_sub (fun _ h => List.mem_cons_of_mem _ (List.mem_append_left _ (List.mem_append_right _ h))) (by decide +kernel))
set_option maxRecDepth 20000 in
theorem gX7_best_X7_rangeOf : GoodIn wsX7_best (wsV RX7 138 RX7 yX7_rangeOf wsX7_rangeOf) := goodIn_app (goodIn_of _ (by decide +kernel)) ggX7_best_X7_rangeOf
theorem dX7_best_9 : decode cX7_best 9 = .ok (.iload_n 2, 1) := by decide +kernel
theorem dX7_best_10 : decode cX7_best 10 = .ok (.invokevirtual 234, 3) := by decide +kernel
set_option maxRecDepth 20000 in
theorem ggX7_best_X5_greatestPublishedIn : GoodIn wsX7_best wsX5_greatestPublishedIn := goodIn_ca (goodIn_r _ [23, 24, 25, 26, 27, 17, 28, 29, 30, 31, 32, 33, 34, 35, 36, 37, 38, 39, 40, 41, 42, 43, 44, 45, 46, 47, 48, 49, 50, 51, 52, 7, 53, 54, 55, 56, 57, 58, 59, 60, 71, 72, 73, 74] (by decide +kernel) (by decide +kernel)) (goodIn_sub (fun _ h => List.mem_cons_of_mem _ (List.mem_append_right _ h)) (by decide +kernel))
set_option maxRecDepth 20000 in
theorem gX7_best_X5_greatestPublishedIn : GoodIn wsX7_best (wsV RX7 234 RX5 yX5_greatestPublishedIn wsX5_greatestPublishedIn) := goodIn_app (goodIn_of _ (by decide +kernel)) ggX7_best_X5_greatestPublishedIn
theorem yY_X5_greatestPublishedIn : jY yX5_greatestPublishedIn wsX5_greatestPublishedIn cX5_greatestPublishedIn 4 (some .int) 2 := ⟨⟨_, rfl⟩, by decide +kernel, by decide +kernel, by decide +kernel⟩
theorem dX7_best_13 : decode cX7_best 13 = .ok (.istore_n 3, 1) := by decide +kernel
theorem dX7_best_14 : decode cX7_best 14 = .ok (.iload_n 3, 1) := by decide +kernel
theorem dX7_best_15 : decode cX7_best 15 = .ok (.iconst (-1), 1) := by decide +kernel
theorem dX7_best_16 : decode cX7_best 16 = .ok (.if_icmp .ne 13, 3) := by decide +kernel
theorem dX7_best_29 : decode cX7_best 29 = .ok (.iload_n 3, 1) := by decide +kernel
theorem dX7_best_30 : decode cX7_best 30 = .ok (.ireturn, 1) := by decide +kernel
theorem dX7_best_19 : decode cX7_best 19 = .ok (.new 141, 3) := by decide +kernel
theorem thr_RX7_145_238_s : (RX7, 238, "no published version belongs to the range") ∈ jStrs := List.mem_of_getElem? (i := 15) rfl
theorem dX7_best_22 : decode cX7_best 22 = .ok (.dup, 1) := by decide +kernel
theorem dX7_best_23 : decode cX7_best 23 = .ok (.ldc 238, 2) := by decide +kernel
theorem dX7_best_25 : decode cX7_best 25 = .ok (.invokespecial 145, 3) := by decide +kernel
theorem dX7_best_28 : decode cX7_best 28 = .ok (.athrow, 1) := by decide +kernel
set_option maxHeartbeats 400000 in
set_option maxRecDepth 20000 in
theorem ct_X7_best (l : Launch) (D : va_G) (dA : Nat → ClassId) (hst : l.stackTraces = false) (M : jM) (v : Nat) (A : cA) (hA : jAb M v A) (x : Int32) (b : Bool) : jCT l D dA yX7_best wsX7_best (26) (660) (6) (40) 1 [.ref (v), .int (x), .int (jb (b))] M (jPo (oBe A x b) (M)) := by
  refine jBody (cc := cX7_best) (nL := 4) (rt := (some .int)) (ini := false) (by decide) rfl hst (Nat.le_of_ble_eq_true rfl) (by simp [Value.category]) (by intro h9; first | exact absurd h9 (by decide) | rfl) ?_
  show J l D dA RX7 cX7_best wsX7_best 4 false (some .int) [] (26) (660) (jF D dA (jn M) (jPo (oBe A x b) (M)) 1) (jn M) (6) (40) (M) 0 [.ref (v), .int (x), .int (jb (b)), .float 0] []
  obtain ⟨g1, g2, g3, g4, g5, g6, g7, g9⟩ := id hA
  obtain ⟨a1, a2, a3, a4, a5, a6, a7, a8, a9, a10, a11, a12, a13⟩ := id g3
  have lt := Nat.le_trans (Nat.add_le_add_left (show 36 ≤ 52 by decide) _) g1.1
  have c30 := g5.1.2.2.2.2.2.2.2.2.2
  refine J_aload_n (v) dX7_best_0 rfl rfl ?_
  refine J_getrs (q := v + 2) a2 dX7_best_1 (fun _ h => List.mem_cons_of_mem _ (List.mem_append_left _ (List.mem_append_left _ (List.mem_append_left _ (List.mem_append_left _ (List.mem_append_left _ (List.mem_append_right _ (h)))))))) cs10 (by decide) rfl (List.mem_of_getElem? (i := 3) rfl) rfl (show v < jn M from by have := lt; omega) g1.2.1 ?_
  refine J_aload_n (v) dX7_best_4 rfl rfl ?_
  refine J_iload_n dX7_best_5 rfl rfl ?_
  rcases Bool.eq_false_or_eq_true (okSlot ((x))) with ok6 | ok6
  · rcases hs6 : stRange M (v + 2) ((x)) with _ | t6
    · have hj6 := (jVa_cAt g5 ((x))).1
      rw [hs6] at hj6
      have hw6 := hj6.none
      refine J_callqX (jrunV (As := [.int (x)]) (ct_X7_rangeOf l D dA hst M v A hA ((x))) dX7_best_6 yY_X7_rangeOf gX7_best_X7_rangeOf rfl cs10 (show v < jn M from by have := lt; omega) g1.2.1 rfl ⟨by omega, by omega⟩ ⟨by omega, by omega⟩ rfl (Nat.le_of_ble_eq_true rfl)) ((by unfold oRg; rw [if_pos ok6, hs6])) ⟨by omega, by omega⟩ (Or.inl rfl) ?_
      exact JX_out rfl ⟨(by first | (unfold oBe; rw [oSl_t ok6, oRn_n hw6]; done) | (unfold oBe; rw [oSl_t ok6, oRn_n hw6]; rw [if_pos c16]; first | done | rfl) | (unfold oBe; rw [oSl_t ok6, oRn_n hw6]; rw [if_neg c16]; first | done | rfl) | (unfold oBe; rw [oSl_t ok6, oRn_n hw6]; with_reducible rfl) | (unfold oBe; rw [oSl_t ok6, oRn_n hw6]; rfl) | fail "leaf"), (by rfl)⟩
    · have hj6 := jVa_cAt g5 ((x))
      rw [hs6] at hj6
      obtain ⟨⟨w6, hw6, hg6, hi6⟩, hl6⟩ := And.imp_left jVa.some hj6
      have h16_6 := hl6 w6 hw6
      refine J_callqB (jrunV (As := [.int (x)]) (ct_X7_rangeOf l D dA hst M v A hA ((x))) dX7_best_6 yY_X7_rangeOf gX7_best_X7_rangeOf rfl cs10 (show v < jn M from by have := lt; omega) g1.2.1 rfl ⟨by omega, by omega⟩ ⟨by omega, by omega⟩ rfl (Nat.le_of_ble_eq_true rfl)) ((by unfold oRg; rw [if_pos ok6, hs6])) (rfl) ⟨by omega, by omega⟩ ?_
      refine J_iload_n dX7_best_9 rfl rfl ?_
      refine J_calli0 (jrunV (As := [.ref (t6), .int (jb (b))]) (ct_X5_greatestPublishedIn l D dA hst M (v + 2) ((cNw A).2.1) (g5.1) t6 w6.1 hg6 (b)) dX7_best_10 yY_X5_greatestPublishedIn gX7_best_X5_greatestPublishedIn rfl cs9 (show v + 2 < jn M from by have := lt; omega) g5.1.2.1 rfl ⟨by omega, by omega⟩ ⟨Nat.zero_le _, Nat.zero_le _⟩ rfl (Nat.le_of_ble_eq_true rfl)) (rfl) (rfl) ?_
      refine J_topi (y := (cGrt A w6 b)) (by exact cGrt_eq g5 hi6) ?_
      refine J_istore_n (lv' := [.ref (v), .int (x), .int (jb (b)), .int (cGrt A w6 b)]) dX7_best_13 rfl (by decide) rfl rfl ?_
      refine J_iload_n dX7_best_14 rfl rfl ?_
      refine J_iconst (x := (-1)) dX7_best_15 (by decide) ?_
      refine J_icmp_ne dX7_best_16 (tgt := 29) (by decide) (fun c16 => ?_) (fun c16 => ?_)
      · refine J_iload_n dX7_best_29 rfl rfl ?_
        exact J_iret (ty := .int) dX7_best_30 rfl (rfl) ⟨(by first | (unfold oBe; rw [oSl_t ok6, oRn_s hw6]; done) | (unfold oBe; rw [oSl_t ok6, oRn_s hw6]; rw [if_pos c16]; first | done | rfl) | (unfold oBe; rw [oSl_t ok6, oRn_s hw6]; rw [if_neg c16]; first | done | rfl) | (unfold oBe; rw [oSl_t ok6, oRn_s hw6]; with_reducible rfl) | (unfold oBe; rw [oSl_t ok6, oRn_s hw6]; rfl) | fail "leaf"), (by rfl)⟩
      · exact J_throwS (E := "java/util/NoSuchElementException") (text := "no published version belongs to the range") (names := ["java/lang/RuntimeException", "java/lang/Exception"]) (by decide) (by decide) dX7_best_19 dX7_best_22 dX7_best_23 dX7_best_25 dX7_best_28 (List.mem_of_getElem? (i := 1) rfl) (List.mem_of_getElem? (i := 2) rfl) thr_RX7_145_238_s (fun _ h => List.mem_cons_of_mem _ (List.mem_append_left _ (List.mem_append_left _ (List.mem_append_right _ (h))))) thr_RX7_145 thr_RX7_145_g rfl (Nat.le_of_ble_eq_true rfl) (by first | decide | (simp only [List.length_cons, List.length_nil]; omega)) (by first | decide | (simp only [List.length_cons, List.length_nil]; omega)) (by omega) (by omega) ⟨(by first | (unfold oBe; rw [oSl_t ok6, oRn_s hw6]; done) | (unfold oBe; rw [oSl_t ok6, oRn_s hw6]; rw [if_pos c16]; first | done | rfl) | (unfold oBe; rw [oSl_t ok6, oRn_s hw6]; rw [if_neg c16]; first | done | rfl) | (unfold oBe; rw [oSl_t ok6, oRn_s hw6]; with_reducible rfl) | (unfold oBe; rw [oSl_t ok6, oRn_s hw6]; rfl) | fail "leaf"), (by rfl)⟩
  · refine J_callqX (jrunV (As := [.int (x)]) (ct_X7_rangeOf l D dA hst M v A hA ((x))) dX7_best_6 yY_X7_rangeOf gX7_best_X7_rangeOf rfl cs10 (show v < jn M from by have := lt; omega) g1.2.1 rfl ⟨by omega, by omega⟩ ⟨by omega, by omega⟩ rfl (Nat.le_of_ble_eq_true rfl)) ((by unfold oRg; rw [if_neg (by rw [ok6]; decide)])) ⟨by omega, by omega⟩ (Or.inl rfl) ?_
    exact JX_out rfl ⟨(by first | (unfold oBe; rw [oSl_f ok6]; done) | (unfold oBe; rw [oSl_f ok6]; rw [if_pos c16]; first | done | rfl) | (unfold oBe; rw [oSl_f ok6]; rw [if_neg c16]; first | done | rfl) | (unfold oBe; rw [oSl_f ok6]; with_reducible rfl) | (unfold oBe; rw [oSl_f ok6]; rfl) | fail "leaf"), (by rfl)⟩

theorem dX7_matching_0 : decode cX7_matching 0 = .ok (.aload_n 0, 1) := by decide +kernel
theorem dX7_matching_1 : decode cX7_matching 1 = .ok (.getfield 30, 3) := by decide +kernel
theorem dX7_matching_4 : decode cX7_matching 4 = .ok (.aload_n 0, 1) := by decide +kernel
theorem dX7_matching_5 : decode cX7_matching 5 = .ok (.iload_n 1, 1) := by decide +kernel
theorem dX7_matching_6 : decode cX7_matching 6 = .ok (.invokevirtual 138, 3) := by decide +kernel
set_option maxRecDepth 20000 in
theorem ggX7_matching_X7_rangeOf : GoodIn wsX7_matching wsX7_rangeOf := goodIn_ca (goodIn_ca (goodIn_r _ [6, 7, 8, 1, 9, 10, 5, 11, 12, 13, 14, 15, 16, 17, 18, 19, 61, 62, 63, 64, 65, 66, 67, 68, 69, 70, 71, 72, 73] (by decide +kernel) (by decide +kernel)) (goodIn_sub (fun _ h => List.mem_cons_of_mem _ (List.mem_append_left _ (List.mem_append_left _ (List.mem_append_right _ h)))) (by decide +kernel))) (goodIn_sub (fun _ h => List.mem_cons_of_mem _ (List.mem_append_left _ (List.mem_append_right _ h))) (by decide +kernel))
set_option maxRecDepth 20000 in
theorem gX7_matching_X7_rangeOf : GoodIn wsX7_matching (wsV RX7 138 RX7 yX7_rangeOf wsX7_rangeOf) := goodIn_app (goodIn_of _ (by decide +kernel)) ggX7_matching_X7_rangeOf
theorem dX7_matching_9 : decode cX7_matching 9 = .ok (.iload_n 2, 1) := by decide +kernel
theorem dX7_matching_10 : decode cX7_matching 10 = .ok (.invokevirtual 240, 3) := by decide +kernel
set_option maxRecDepth 20000 in
theorem ggX7_matching_X5_countPublishedIn : GoodIn wsX7_matching wsX5_countPublishedIn := goodIn_ca (goodIn_r _ [23, 24, 25, 26, 27, 17, 28, 29, 30, 31, 32, 33, 34, 35, 36, 37, 38, 39, 40, 41, 42, 43, 44, 45, 46, 47, 48, 49, 50, 51, 52, 5, 53, 54, 55, 56, 57, 58, 59, 60, 71, 72, 73, 74] (by decide +kernel) (by decide +kernel)) (goodIn_sub (fun _ h => List.mem_cons_of_mem _ (List.mem_append_right _ h)) (by decide +kernel))
set_option maxRecDepth 20000 in
theorem gX7_matching_X5_countPublishedIn : GoodIn wsX7_matching (wsV RX7 240 RX5 yX5_countPublishedIn wsX5_countPublishedIn) := goodIn_app (goodIn_of _ (by decide +kernel)) ggX7_matching_X5_countPublishedIn
theorem yY_X5_countPublishedIn : jY yX5_countPublishedIn wsX5_countPublishedIn cX5_countPublishedIn 5 (some .int) 2 := ⟨⟨_, rfl⟩, by decide +kernel, by decide +kernel, by decide +kernel⟩
theorem dX7_matching_13 : decode cX7_matching 13 = .ok (.ireturn, 1) := by decide +kernel
set_option maxHeartbeats 400000 in
set_option maxRecDepth 20000 in
theorem ct_X7_matching (l : Launch) (D : va_G) (dA : Nat → ClassId) (hst : l.stackTraces = false) (M : jM) (v : Nat) (A : cA) (hA : jAb M v A) (x : Int32) (b : Bool) : jCT l D dA yX7_matching wsX7_matching (26) (660) (6) (40) 1 [.ref (v), .int (x), .int (jb (b))] M (jPo (oMa A x b) (M)) := by
  refine jBody (cc := cX7_matching) (nL := 3) (rt := (some .int)) (ini := false) (by decide) rfl hst (Nat.le_of_ble_eq_true rfl) (by simp [Value.category]) (by intro h9; first | exact absurd h9 (by decide) | rfl) ?_
  show J l D dA RX7 cX7_matching wsX7_matching 3 false (some .int) [] (26) (660) (jF D dA (jn M) (jPo (oMa A x b) (M)) 1) (jn M) (6) (40) (M) 0 [.ref (v), .int (x), .int (jb (b))] []
  obtain ⟨g1, g2, g3, g4, g5, g6, g7, g9⟩ := id hA
  obtain ⟨a1, a2, a3, a4, a5, a6, a7, a8, a9, a10, a11, a12, a13⟩ := id g3
  have lt := Nat.le_trans (Nat.add_le_add_left (show 36 ≤ 52 by decide) _) g1.1
  have c30 := g5.1.2.2.2.2.2.2.2.2.2
  refine J_aload_n (v) dX7_matching_0 rfl rfl ?_
  refine J_getrs (q := v + 2) a2 dX7_matching_1 (fun _ h => List.mem_cons_of_mem _ (List.mem_append_left _ (List.mem_append_left _ (List.mem_append_left _ (List.mem_append_left _ (List.mem_append_left _ (List.mem_append_right _ (h)))))))) cs10 (by decide) rfl (List.mem_of_getElem? (i := 1) rfl) rfl (show v < jn M from by have := lt; omega) g1.2.1 ?_
  refine J_aload_n (v) dX7_matching_4 rfl rfl ?_
  refine J_iload_n dX7_matching_5 rfl rfl ?_
  rcases Bool.eq_false_or_eq_true (okSlot ((x))) with ok6 | ok6
  · rcases hs6 : stRange M (v + 2) ((x)) with _ | t6
    · have hj6 := (jVa_cAt g5 ((x))).1
      rw [hs6] at hj6
      have hw6 := hj6.none
      refine J_callqX (jrunV (As := [.int (x)]) (ct_X7_rangeOf l D dA hst M v A hA ((x))) dX7_matching_6 yY_X7_rangeOf gX7_matching_X7_rangeOf rfl cs10 (show v < jn M from by have := lt; omega) g1.2.1 rfl ⟨by omega, by omega⟩ ⟨by omega, by omega⟩ rfl (Nat.le_of_ble_eq_true rfl)) ((by unfold oRg; rw [if_pos ok6, hs6])) ⟨by omega, by omega⟩ (Or.inl rfl) ?_
      exact JX_out rfl ⟨(by first | (unfold oMa; rw [oSl_t ok6, oRn_n hw6]; done) | (unfold oMa; rw [oSl_t ok6, oRn_n hw6]; with_reducible rfl) | (unfold oMa; rw [oSl_t ok6, oRn_n hw6]; rfl) | fail "leaf"), (by rfl)⟩
    · have hj6 := jVa_cAt g5 ((x))
      rw [hs6] at hj6
      obtain ⟨⟨w6, hw6, hg6, hi6⟩, hl6⟩ := And.imp_left jVa.some hj6
      have h16_6 := hl6 w6 hw6
      refine J_callqB (jrunV (As := [.int (x)]) (ct_X7_rangeOf l D dA hst M v A hA ((x))) dX7_matching_6 yY_X7_rangeOf gX7_matching_X7_rangeOf rfl cs10 (show v < jn M from by have := lt; omega) g1.2.1 rfl ⟨by omega, by omega⟩ ⟨by omega, by omega⟩ rfl (Nat.le_of_ble_eq_true rfl)) ((by unfold oRg; rw [if_pos ok6, hs6])) (rfl) ⟨by omega, by omega⟩ ?_
      refine J_iload_n dX7_matching_9 rfl rfl ?_
      refine J_calli0 (jrunV (As := [.ref (t6), .int (jb (b))]) (ct_X5_countPublishedIn l D dA hst M (v + 2) ((cNw A).2.1) (g5.1) t6 w6.1 hg6 (b)) dX7_matching_10 yY_X5_countPublishedIn gX7_matching_X5_countPublishedIn rfl cs9 (show v + 2 < jn M from by have := lt; omega) g5.1.2.1 rfl ⟨by omega, by omega⟩ ⟨Nat.zero_le _, Nat.zero_le _⟩ rfl (Nat.le_of_ble_eq_true rfl)) (rfl) (rfl) ?_
      refine J_topi (y := nI (cCnt A w6 b)) (by exact congrArg nI (cCnt_eq g5 hi6)) ?_
      exact J_iret (ty := .int) dX7_matching_13 rfl (rfl) ⟨(by first | (unfold oMa; rw [oSl_t ok6, oRn_s hw6]; done) | (unfold oMa; rw [oSl_t ok6, oRn_s hw6]; with_reducible rfl) | (unfold oMa; rw [oSl_t ok6, oRn_s hw6]; rfl) | fail "leaf"), (by rfl)⟩
  · refine J_callqX (jrunV (As := [.int (x)]) (ct_X7_rangeOf l D dA hst M v A hA ((x))) dX7_matching_6 yY_X7_rangeOf gX7_matching_X7_rangeOf rfl cs10 (show v < jn M from by have := lt; omega) g1.2.1 rfl ⟨by omega, by omega⟩ ⟨by omega, by omega⟩ rfl (Nat.le_of_ble_eq_true rfl)) ((by unfold oRg; rw [if_neg (by rw [ok6]; decide)])) ⟨by omega, by omega⟩ (Or.inl rfl) ?_
    exact JX_out rfl ⟨(by first | (unfold oMa; rw [oSl_f ok6]; done) | (unfold oMa; rw [oSl_f ok6]; with_reducible rfl) | (unfold oMa; rw [oSl_f ok6]; rfl) | fail "leaf"), (by rfl)⟩

theorem dX7_share_0 : decode cX7_share 0 = .ok (.aload_n 0, 1) := by decide +kernel
theorem dX7_share_1 : decode cX7_share 1 = .ok (.iload_n 1, 1) := by decide +kernel
theorem dX7_share_2 : decode cX7_share 2 = .ok (.invokevirtual 138, 3) := by decide +kernel
set_option maxRecDepth 20000 in
theorem ggX7_share_X7_rangeOf : GoodIn wsX7_share wsX7_rangeOf := goodIn_ca (goodIn_ca (goodIn_r _ [8, 9, 10, 3, 11, 12, 7, 13, 14, 15, 16, 17, 18, 19, 20, 21, 67, 68, 69, 70, 71, 72, 73, 74, 75, 76, 77, 78, 79] (by decide +kernel) (by decide +kernel)) (goodIn_sub (fun _ h => List.mem_cons_of_mem _ (List.mem_append_left _ (List.mem_append_left _ (List.mem_append_right _ h)))) (by decide +kernel))) (goodIn_sub (fun _ h => List.mem_cons_of_mem _ (List.mem_append_left _ (List.mem_append_right _ h))) (by decide +kernel))
set_option maxRecDepth 20000 in
theorem gX7_share_X7_rangeOf : GoodIn wsX7_share (wsV RX7 138 RX7 yX7_rangeOf wsX7_rangeOf) := goodIn_app (goodIn_of _ (by decide +kernel)) ggX7_share_X7_rangeOf
theorem dX7_share_5 : decode cX7_share 5 = .ok (.astore_n 2, 1) := by decide +kernel
theorem dX7_share_6 : decode cX7_share 6 = .ok (.aload_n 0, 1) := by decide +kernel
theorem dX7_share_7 : decode cX7_share 7 = .ok (.getfield 30, 3) := by decide +kernel
theorem dX7_share_10 : decode cX7_share 10 = .ok (.invokevirtual 212, 3) := by decide +kernel
set_option maxRecDepth 20000 in
theorem ggX7_share_X5_publishedCount : GoodIn wsX7_share wsX5_publishedCount := goodIn_r _ [25, 26, 77, 78, 79] (by decide +kernel) (by decide +kernel)
set_option maxRecDepth 20000 in
theorem gX7_share_X5_publishedCount : GoodIn wsX7_share (wsV RX7 212 RX5 yX5_publishedCount wsX5_publishedCount) := goodIn_app (goodIn_of _ (by decide +kernel)) ggX7_share_X5_publishedCount
theorem dX7_share_13 : decode cX7_share 13 = .ok (.istore_n 3, 1) := by decide +kernel
theorem dX7_share_14 : decode cX7_share 14 = .ok (.iload_n 3, 1) := by decide +kernel
theorem dX7_share_15 : decode cX7_share 15 = .ok (.ifCond .ne 13, 3) := by decide +kernel
theorem dX7_share_28 : decode cX7_share 28 = .ok (.aload_n 0, 1) := by decide +kernel
theorem dX7_share_29 : decode cX7_share 29 = .ok (.getfield 30, 3) := by decide +kernel
theorem dX7_share_32 : decode cX7_share 32 = .ok (.aload_n 2, 1) := by decide +kernel
theorem dX7_share_33 : decode cX7_share 33 = .ok (.iconst 0, 1) := by decide +kernel
theorem dX7_share_34 : decode cX7_share 34 = .ok (.invokevirtual 240, 3) := by decide +kernel
set_option maxRecDepth 20000 in
theorem ggX7_share_X5_countPublishedIn : GoodIn wsX7_share wsX5_countPublishedIn := goodIn_ca (goodIn_r _ [30, 26, 31, 32, 33, 19, 34, 35, 36, 37, 38, 39, 40, 41, 42, 43, 44, 45, 46, 47, 48, 49, 50, 51, 52, 53, 54, 55, 56, 57, 58, 7, 59, 60, 61, 62, 63, 64, 65, 66, 77, 78, 79, 80] (by decide +kernel) (by decide +kernel)) (goodIn_sub (fun _ h => List.mem_cons_of_mem _ (List.mem_append_right _ h)) (by decide +kernel))
set_option maxRecDepth 20000 in
theorem gX7_share_X5_countPublishedIn : GoodIn wsX7_share (wsV RX7 240 RX5 yX5_countPublishedIn wsX5_countPublishedIn) := goodIn_app (goodIn_of _ (by decide +kernel)) ggX7_share_X5_countPublishedIn
theorem dX7_share_37 : decode cX7_share 37 = .ok (.i2d, 1) := by decide +kernel
theorem dX7_share_38 : decode cX7_share 38 = .ok (.iload_n 3, 1) := by decide +kernel
theorem dX7_share_39 : decode cX7_share 39 = .ok (.i2d, 1) := by decide +kernel
theorem dX7_share_40 : decode cX7_share 40 = .ok (.ddiv, 1) := by decide +kernel
theorem dX7_share_41 : decode cX7_share 41 = .ok (.dreturn, 1) := by decide +kernel
theorem dX7_share_18 : decode cX7_share 18 = .ok (.new 243, 3) := by decide +kernel
theorem thr_RX7_247 : ∀ w ∈ (vy_atS RX7 247 "java/lang/ArithmeticException" ["java/lang/RuntimeException", "java/lang/Exception"]).filter (fun w => !goodWord w), w ∈ jNws := by decide +kernel
theorem thr_RX7_247_g : ∀ w ∈ Cond.classLink RX7 243 "java/lang/ArithmeticException" :: Cond.initialized "java/lang/ArithmeticException" :: vy_atS RX7 247 "java/lang/ArithmeticException" ["java/lang/RuntimeException", "java/lang/Exception"], vx_ot w = true := by decide +kernel
theorem thr_RX7_247_s : (RX7, 245, "no version is published") ∈ jStrs := List.mem_of_getElem? (i := 16) rfl
theorem dX7_share_21 : decode cX7_share 21 = .ok (.dup, 1) := by decide +kernel
theorem dX7_share_22 : decode cX7_share 22 = .ok (.ldc 245, 2) := by decide +kernel
theorem dX7_share_24 : decode cX7_share 24 = .ok (.invokespecial 247, 3) := by decide +kernel
theorem dX7_share_27 : decode cX7_share 27 = .ok (.athrow, 1) := by decide +kernel
set_option maxHeartbeats 400000 in
set_option maxRecDepth 20000 in
theorem ct_X7_share (l : Launch) (D : va_G) (dA : Nat → ClassId) (hst : l.stackTraces = false) (M : jM) (v : Nat) (A : cA) (hA : jAb M v A) (x : Int32) : jCT l D dA yX7_share wsX7_share (26) (660) (6) (40) 3 [.ref (v), .int (x)] M (jPo (oSh A x) (M)) := by
  refine jBody (cc := cX7_share) (nL := 4) (rt := (some .double)) (ini := false) (by decide) rfl hst (Nat.le_of_ble_eq_true rfl) (by simp [Value.category]) (by intro h9; first | exact absurd h9 (by decide) | rfl) ?_
  show J l D dA RX7 cX7_share wsX7_share 4 false (some .double) [] (26) (660) (jF D dA (jn M) (jPo (oSh A x) (M)) 3) (jn M) (6) (40) (M) 0 [.ref (v), .int (x), .float 0, .float 0] []
  obtain ⟨g1, g2, g3, g4, g5, g6, g7, g9⟩ := id hA
  obtain ⟨a1, a2, a3, a4, a5, a6, a7, a8, a9, a10, a11, a12, a13⟩ := id g3
  have lt := Nat.le_trans (Nat.add_le_add_left (show 36 ≤ 52 by decide) _) g1.1
  have c30 := g5.1.2.2.2.2.2.2.2.2.2
  refine J_aload_n (v) dX7_share_0 rfl rfl ?_
  refine J_iload_n dX7_share_1 rfl rfl ?_
  rcases Bool.eq_false_or_eq_true (okSlot ((x))) with ok2 | ok2
  · rcases hs2 : stRange M (v + 2) ((x)) with _ | t2
    · have hj2 := (jVa_cAt g5 ((x))).1
      rw [hs2] at hj2
      have hw2 := hj2.none
      refine J_callqX (jrunV (As := [.int (x)]) (ct_X7_rangeOf l D dA hst M v A hA ((x))) dX7_share_2 yY_X7_rangeOf gX7_share_X7_rangeOf rfl cs10 (show v < jn M from by have := lt; omega) g1.2.1 rfl ⟨by omega, by omega⟩ ⟨by omega, by omega⟩ rfl (Nat.le_of_ble_eq_true rfl)) ((by unfold oRg; rw [if_pos ok2, hs2])) ⟨by omega, by omega⟩ (Or.inl rfl) ?_
      exact JX_out rfl ⟨(by first | (unfold oSh; rw [oSl_t ok2, oRn_n hw2]; done) | (unfold oSh; rw [oSl_t ok2, oRn_n hw2]; rw [if_pos c15]; first | done | rfl) | (unfold oSh; rw [oSl_t ok2, oRn_n hw2]; rw [if_neg c15]; first | done | rfl) | (unfold oSh; rw [oSl_t ok2, oRn_n hw2]; with_reducible rfl) | (unfold oSh; rw [oSl_t ok2, oRn_n hw2]; rfl) | fail "leaf"), (by rfl)⟩
    · have hj2 := jVa_cAt g5 ((x))
      rw [hs2] at hj2
      obtain ⟨⟨w2, hw2, hg2, hi2⟩, hl2⟩ := And.imp_left jVa.some hj2
      have h16_2 := hl2 w2 hw2
      refine J_callqB (jrunV (As := [.int (x)]) (ct_X7_rangeOf l D dA hst M v A hA ((x))) dX7_share_2 yY_X7_rangeOf gX7_share_X7_rangeOf rfl cs10 (show v < jn M from by have := lt; omega) g1.2.1 rfl ⟨by omega, by omega⟩ ⟨by omega, by omega⟩ rfl (Nat.le_of_ble_eq_true rfl)) ((by unfold oRg; rw [if_pos ok2, hs2])) (rfl) ⟨by omega, by omega⟩ ?_
      refine J_astore_n (x := t2) (lv' := [.ref (v), .int (x), .ref (t2), .float 0]) dX7_share_5 rfl (by decide) rfl rfl ?_
      refine J_aload_n (v) dX7_share_6 rfl rfl ?_
      refine J_getrs (q := v + 2) a2 dX7_share_7 (fun _ h => List.mem_cons_of_mem _ (List.mem_append_left _ (List.mem_append_left _ (List.mem_append_left _ (List.mem_append_left _ (List.mem_append_left _ (List.mem_append_left _ (List.mem_append_right _ (h))))))))) cs10 (by decide) rfl (List.mem_of_getElem? (i := 3) rfl) rfl (show v < jn M from by have := lt; omega) g1.2.1 ?_
      refine J_calli0 (jrunV (As := []) (ct_X5_publishedCount l D dA hst M (v + 2) ((cNw A).2.1) (g5.1)) dX7_share_10 yY_X5_publishedCount gX7_share_X5_publishedCount rfl cs9 (show v + 2 < jn M from by have := lt; omega) g5.1.2.1 rfl ⟨by omega, by omega⟩ ⟨Nat.zero_le _, Nat.zero_le _⟩ rfl (Nat.le_of_ble_eq_true rfl)) (rfl) (rfl) ?_
      refine J_istore_n (lv' := [.ref (v), .int (x), .ref (t2), .int (nI ((cNw A).2.1))]) dX7_share_13 rfl (by decide) rfl rfl ?_
      refine J_iload_n dX7_share_14 rfl rfl ?_
      refine J_if_ne dX7_share_15 (tgt := 28) (by decide) (fun c15 => ?_) (fun c15 => ?_)
      · have c15 := jeqF (a := (cNw A).2.1) (b := 0) (by omega) (by omega) c15
        refine J_aload_n (v) dX7_share_28 rfl rfl ?_
        refine J_getrs (q := v + 2) a2 dX7_share_29 (fun _ h => List.mem_cons_of_mem _ (List.mem_append_left _ (List.mem_append_left _ (List.mem_append_left _ (List.mem_append_left _ (List.mem_append_left _ (List.mem_append_left _ (List.mem_append_right _ (h))))))))) cs10 (by decide) rfl (List.mem_of_getElem? (i := 3) rfl) rfl (show v < jn M from by have := lt; omega) g1.2.1 ?_
        refine J_aload_n (t2) dX7_share_32 rfl rfl ?_
        refine J_iconst (x := 0) dX7_share_33 (by decide) ?_
        refine J_calli0 (jrunV (As := [.ref (t2), .int (0)]) (ct_X5_countPublishedIn l D dA hst M (v + 2) ((cNw A).2.1) (g5.1) t2 w2.1 hg2 false) dX7_share_34 yY_X5_countPublishedIn gX7_share_X5_countPublishedIn rfl cs9 (show v + 2 < jn M from by have := lt; omega) g5.1.2.1 rfl ⟨by omega, by omega⟩ ⟨Nat.zero_le _, Nat.zero_le _⟩ rfl (Nat.le_of_ble_eq_true rfl)) (rfl) (rfl) ?_
        refine J_topi (y := nI (cCnt A w2 false)) (by exact congrArg nI (cCnt_eq g5 hi2)) ?_
        refine J_i2d dX7_share_37 ?_
        refine J_iload_n dX7_share_38 rfl rfl ?_
        refine J_i2d dX7_share_39 ?_
        refine J_ddiv dX7_share_40 (by exact cQuo_n (cNw A).2.1 (cCnt A w2 false) (by omega) (jcnt_le _ _) (by omega)) ?_
        exact J_dret dX7_share_41 rfl ⟨(by first | (unfold oSh; rw [oSl_t ok2, oRn_s hw2]; done) | (unfold oSh; rw [oSl_t ok2, oRn_s hw2]; rw [if_pos c15]; first | done | rfl) | (unfold oSh; rw [oSl_t ok2, oRn_s hw2]; rw [if_neg c15]; first | done | rfl) | (unfold oSh; rw [oSl_t ok2, oRn_s hw2]; with_reducible rfl) | (unfold oSh; rw [oSl_t ok2, oRn_s hw2]; rfl) | fail "leaf"), (by rfl)⟩
      · have c15 := jeqT (a := (cNw A).2.1) (b := 0) (by omega) (by omega) c15
        exact J_throwS (E := "java/lang/ArithmeticException") (text := "no version is published") (names := ["java/lang/RuntimeException", "java/lang/Exception"]) (by decide) (by decide) dX7_share_18 dX7_share_21 dX7_share_22 dX7_share_24 dX7_share_27 (List.mem_of_getElem? (i := 1) rfl) (List.mem_of_getElem? (i := 2) rfl) thr_RX7_247_s (fun _ h => List.mem_cons_of_mem _ (List.mem_append_left _ (List.mem_append_left _ (List.mem_append_left _ (List.mem_append_right _ (h)))))) thr_RX7_247 thr_RX7_247_g rfl (Nat.le_of_ble_eq_true rfl) (by first | decide | (simp only [List.length_cons, List.length_nil]; omega)) (by first | decide | (simp only [List.length_cons, List.length_nil]; omega)) (by omega) (by omega) ⟨(by first | (unfold oSh; rw [oSl_t ok2, oRn_s hw2]; done) | (unfold oSh; rw [oSl_t ok2, oRn_s hw2]; rw [if_pos c15]; first | done | rfl) | (unfold oSh; rw [oSl_t ok2, oRn_s hw2]; rw [if_neg c15]; first | done | rfl) | (unfold oSh; rw [oSl_t ok2, oRn_s hw2]; with_reducible rfl) | (unfold oSh; rw [oSl_t ok2, oRn_s hw2]; rfl) | fail "leaf"), (by rfl)⟩
  · refine J_callqX (jrunV (As := [.int (x)]) (ct_X7_rangeOf l D dA hst M v A hA ((x))) dX7_share_2 yY_X7_rangeOf gX7_share_X7_rangeOf rfl cs10 (show v < jn M from by have := lt; omega) g1.2.1 rfl ⟨by omega, by omega⟩ ⟨by omega, by omega⟩ rfl (Nat.le_of_ble_eq_true rfl)) ((by unfold oRg; rw [if_neg (by rw [ok2]; decide)])) ⟨by omega, by omega⟩ (Or.inl rfl) ?_
    exact JX_out rfl ⟨(by first | (unfold oSh; rw [oSl_f ok2]; done) | (unfold oSh; rw [oSl_f ok2]; rw [if_pos c15]; first | done | rfl) | (unfold oSh; rw [oSl_f ok2]; rw [if_neg c15]; first | done | rfl) | (unfold oSh; rw [oSl_f ok2]; with_reducible rfl) | (unfold oSh; rw [oSl_f ok2]; rfl) | fail "leaf"), (by rfl)⟩

theorem dX7_account_0 : decode cX7_account 0 = .ok (.iload_n 1, 1) := by decide +kernel
theorem dX7_account_1 : decode cX7_account 1 = .ok (.tableswitch 108 0 7 #[47, 55, 63, 71, 79, 87, 95, 103], 47) := by decide +kernel
theorem dX7_account_48 : decode cX7_account 48 = .ok (.aload_n 0, 1) := by decide +kernel
theorem dX7_account_49 : decode cX7_account 49 = .ok (.getfield 30, 3) := by decide +kernel
theorem dX7_account_52 : decode cX7_account 52 = .ok (.invokevirtual 135, 3) := by decide +kernel
set_option maxRecDepth 20000 in
theorem ggX7_account_X5_rangeCount : GoodIn wsX7_account wsX5_rangeCount := goodIn_r _ [9, 10, 85, 86, 87] (by decide +kernel) (by decide +kernel)
set_option maxRecDepth 20000 in
theorem gX7_account_X5_rangeCount : GoodIn wsX7_account (wsV RX7 135 RX5 yX5_rangeCount wsX5_rangeCount) := goodIn_app (goodIn_of _ (by decide +kernel)) ggX7_account_X5_rangeCount
theorem yY_X5_rangeCount : jY yX5_rangeCount wsX5_rangeCount cX5_rangeCount 6 (some .int) 0 := ⟨⟨_, rfl⟩, by decide +kernel, by decide +kernel, by decide +kernel⟩
theorem dX7_account_55 : decode cX7_account 55 = .ok (.ireturn, 1) := by decide +kernel
theorem dX7_account_56 : decode cX7_account 56 = .ok (.aload_n 0, 1) := by decide +kernel
theorem dX7_account_57 : decode cX7_account 57 = .ok (.getfield 30, 3) := by decide +kernel
theorem dX7_account_60 : decode cX7_account 60 = .ok (.invokevirtual 248, 3) := by decide +kernel
set_option maxRecDepth 20000 in
theorem ggX7_account_X5_spanSum : GoodIn wsX7_account wsX5_spanSum := goodIn_r _ [14, 10, 15, 16, 17, 18, 19, 20, 85, 86, 87, 88] (by decide +kernel) (by decide +kernel)
set_option maxRecDepth 20000 in
theorem gX7_account_X5_spanSum : GoodIn wsX7_account (wsV RX7 248 RX5 yX5_spanSum wsX5_spanSum) := goodIn_app (goodIn_of _ (by decide +kernel)) ggX7_account_X5_spanSum
theorem yY_X5_spanSum : jY yX5_spanSum wsX5_spanSum cX5_spanSum 6 (some .int) 0 := ⟨⟨_, rfl⟩, by decide +kernel, by decide +kernel, by decide +kernel⟩
theorem dX7_account_63 : decode cX7_account 63 = .ok (.ireturn, 1) := by decide +kernel
theorem dX7_account_64 : decode cX7_account 64 = .ok (.aload_n 0, 1) := by decide +kernel
theorem dX7_account_65 : decode cX7_account 65 = .ok (.getfield 30, 3) := by decide +kernel
theorem dX7_account_68 : decode cX7_account 68 = .ok (.invokevirtual 251, 3) := by decide +kernel
set_option maxRecDepth 20000 in
theorem ggX7_account_X5_mostSpans : GoodIn wsX7_account wsX5_mostSpans := goodIn_r _ [24, 10, 25, 26, 27, 28, 15, 16, 17, 18, 19, 20, 85, 86, 87, 88] (by decide +kernel) (by decide +kernel)
set_option maxRecDepth 20000 in
theorem gX7_account_X5_mostSpans : GoodIn wsX7_account (wsV RX7 251 RX5 yX5_mostSpans wsX5_mostSpans) := goodIn_app (goodIn_of _ (by decide +kernel)) ggX7_account_X5_mostSpans
theorem yY_X5_mostSpans : jY yX5_mostSpans wsX5_mostSpans cX5_mostSpans 6 (some .int) 0 := ⟨⟨_, rfl⟩, by decide +kernel, by decide +kernel, by decide +kernel⟩
theorem dX7_account_71 : decode cX7_account 71 = .ok (.ireturn, 1) := by decide +kernel
theorem dX7_account_72 : decode cX7_account 72 = .ok (.aload_n 0, 1) := by decide +kernel
theorem dX7_account_73 : decode cX7_account 73 = .ok (.getfield 30, 3) := by decide +kernel
theorem dX7_account_76 : decode cX7_account 76 = .ok (.invokevirtual 212, 3) := by decide +kernel
set_option maxRecDepth 20000 in
theorem ggX7_account_X5_publishedCount : GoodIn wsX7_account wsX5_publishedCount := goodIn_r _ [32, 33, 85, 86, 87] (by decide +kernel) (by decide +kernel)
set_option maxRecDepth 20000 in
theorem gX7_account_X5_publishedCount : GoodIn wsX7_account (wsV RX7 212 RX5 yX5_publishedCount wsX5_publishedCount) := goodIn_app (goodIn_of _ (by decide +kernel)) ggX7_account_X5_publishedCount
theorem dX7_account_79 : decode cX7_account 79 = .ok (.ireturn, 1) := by decide +kernel
theorem dX7_account_80 : decode cX7_account 80 = .ok (.aload_n 0, 1) := by decide +kernel
theorem dX7_account_81 : decode cX7_account 81 = .ok (.getfield 30, 3) := by decide +kernel
theorem dX7_account_84 : decode cX7_account 84 = .ok (.invokevirtual 254, 3) := by decide +kernel
set_option maxRecDepth 20000 in
theorem ggX7_account_X5_publishedPrereleaseCount : GoodIn wsX7_account wsX5_publishedPrereleaseCount := goodIn_ca (goodIn_r _ [37, 33, 38, 39, 40, 8, 41, 42, 43, 44, 45, 85, 86, 87] (by decide +kernel) (by decide +kernel)) (goodIn_sub (fun _ h => List.mem_cons_of_mem _ (List.mem_append_right _ h)) (by decide +kernel))
set_option maxRecDepth 20000 in
theorem gX7_account_X5_publishedPrereleaseCount : GoodIn wsX7_account (wsV RX7 254 RX5 yX5_publishedPrereleaseCount wsX5_publishedPrereleaseCount) := goodIn_app (goodIn_of _ (by decide +kernel)) ggX7_account_X5_publishedPrereleaseCount
theorem yY_X5_publishedPrereleaseCount : jY yX5_publishedPrereleaseCount wsX5_publishedPrereleaseCount cX5_publishedPrereleaseCount 3 (some .int) 0 := ⟨⟨_, rfl⟩, by decide +kernel, by decide +kernel, by decide +kernel⟩
theorem dX7_account_87 : decode cX7_account 87 = .ok (.ireturn, 1) := by decide +kernel
theorem dX7_account_88 : decode cX7_account 88 = .ok (.aload_n 0, 1) := by decide +kernel
theorem dX7_account_89 : decode cX7_account 89 = .ok (.getfield 30, 3) := by decide +kernel
theorem dX7_account_92 : decode cX7_account 92 = .ok (.invokevirtual 257, 3) := by decide +kernel
set_option maxRecDepth 20000 in
theorem ggX7_account_X5_publishedInNoRangeCount : GoodIn wsX7_account wsX5_publishedInNoRangeCount := goodIn_ca (goodIn_r _ [49, 33, 38, 39, 40, 8, 41, 42, 50, 51, 52, 53, 10, 54, 55, 56, 18, 57, 58, 59, 60, 61, 20, 62, 16, 17, 19, 63, 64, 65, 66, 85, 86, 87, 88] (by decide +kernel) (by decide +kernel)) (goodIn_sub (fun _ h => List.mem_cons_of_mem _ (List.mem_append_right _ h)) (by decide +kernel))
set_option maxRecDepth 20000 in
theorem gX7_account_X5_publishedInNoRangeCount : GoodIn wsX7_account (wsV RX7 257 RX5 yX5_publishedInNoRangeCount wsX5_publishedInNoRangeCount) := goodIn_app (goodIn_of _ (by decide +kernel)) ggX7_account_X5_publishedInNoRangeCount
theorem yY_X5_publishedInNoRangeCount : jY yX5_publishedInNoRangeCount wsX5_publishedInNoRangeCount cX5_publishedInNoRangeCount 3 (some .int) 0 := ⟨⟨_, rfl⟩, by decide +kernel, by decide +kernel, by decide +kernel⟩
theorem dX7_account_95 : decode cX7_account 95 = .ok (.ireturn, 1) := by decide +kernel
theorem dX7_account_96 : decode cX7_account 96 = .ok (.aload_n 0, 1) := by decide +kernel
theorem dX7_account_97 : decode cX7_account 97 = .ok (.getfield 30, 3) := by decide +kernel
theorem dX7_account_100 : decode cX7_account 100 = .ok (.invokevirtual 260, 3) := by decide +kernel
set_option maxRecDepth 20000 in
theorem ggX7_account_X5_emptyRangeCount : GoodIn wsX7_account wsX5_emptyRangeCount := goodIn_r _ [70, 10, 71, 72, 73, 18, 74, 20, 85, 86, 87, 88] (by decide +kernel) (by decide +kernel)
set_option maxRecDepth 20000 in
theorem gX7_account_X5_emptyRangeCount : GoodIn wsX7_account (wsV RX7 260 RX5 yX5_emptyRangeCount wsX5_emptyRangeCount) := goodIn_app (goodIn_of _ (by decide +kernel)) ggX7_account_X5_emptyRangeCount
theorem yY_X5_emptyRangeCount : jY yX5_emptyRangeCount wsX5_emptyRangeCount cX5_emptyRangeCount 6 (some .int) 0 := ⟨⟨_, rfl⟩, by decide +kernel, by decide +kernel, by decide +kernel⟩
theorem dX7_account_103 : decode cX7_account 103 = .ok (.ireturn, 1) := by decide +kernel
theorem dX7_account_104 : decode cX7_account 104 = .ok (.aload_n 0, 1) := by decide +kernel
theorem dX7_account_105 : decode cX7_account 105 = .ok (.getfield 13, 3) := by decide +kernel
theorem dX7_account_108 : decode cX7_account 108 = .ok (.ireturn, 1) := by decide +kernel
theorem dX7_account_109 : decode cX7_account 109 = .ok (.new 122, 3) := by decide +kernel
theorem thr_RX7_126_263_s : (RX7, 263, "there is no such account") ∈ jStrs := List.mem_of_getElem? (i := 17) rfl
theorem dX7_account_112 : decode cX7_account 112 = .ok (.dup, 1) := by decide +kernel
theorem dX7_account_113 : decode cX7_account 113 = .ok (.ldc_w 263, 3) := by decide +kernel
theorem dX7_account_116 : decode cX7_account 116 = .ok (.invokespecial 126, 3) := by decide +kernel
theorem dX7_account_119 : decode cX7_account 119 = .ok (.athrow, 1) := by decide +kernel
set_option maxHeartbeats 400000 in
set_option maxRecDepth 20000 in
theorem ct_X7_account (l : Launch) (D : va_G) (dA : Nat → ClassId) (hst : l.stackTraces = false) (M : jM) (v : Nat) (A : cA) (hA : jAb M v A) (y : Int32) : jCT l D dA yX7_account wsX7_account (26) (660) (6) (40) 1 [.ref (v), .int (y)] M (jPo (oAc A y) (M)) := by
  refine jBody (cc := cX7_account) (nL := 2) (rt := (some .int)) (ini := false) (by decide) rfl hst (Nat.le_of_ble_eq_true rfl) (by simp [Value.category]) (by intro h9; first | exact absurd h9 (by decide) | rfl) ?_
  show J l D dA RX7 cX7_account wsX7_account 2 false (some .int) [] (26) (660) (jF D dA (jn M) (jPo (oAc A y) (M)) 1) (jn M) (6) (40) (M) 0 [.ref (v), .int (y)] []
  obtain ⟨g1, g2, g3, g4, g5, g6, g7, g9⟩ := id hA
  obtain ⟨a1, a2, a3, a4, a5, a6, a7, a8, a9, a10, a11, a12, a13⟩ := id g3
  have lt := Nat.le_trans (Nat.add_le_add_left (show 36 ≤ 52 by decide) _) g1.1
  have c30 := g5.1.2.2.2.2.2.2.2.2.2
  refine J_iload_n dX7_account_0 rfl rfl ?_
  by_cases s1_0 : ((y)) = 0
  · refine J_tableIn (off := 47) (tgt := 48) dX7_account_1 (by rw [s1_0]; decide) (by rw [s1_0]; decide) (by rw [s1_0]; rfl) (by decide) ?_
    refine J_aload_n (v) dX7_account_48 rfl rfl ?_
    refine J_getrs (q := v + 2) a2 dX7_account_49 (fun _ h => List.mem_cons_of_mem _ (List.mem_append_left _ (List.mem_append_left _ (List.mem_append_left _ (List.mem_append_left _ (List.mem_append_right _ (h))))))) cs10 (by decide) rfl (List.mem_of_getElem? (i := 3) rfl) rfl (show v < jn M from by have := lt; omega) g1.2.1 ?_
    refine J_calli0 (jrunV (As := []) (ct_X5_rangeCount l D dA hst M (v + 2) ((cNw A).2.1) (g5.1)) dX7_account_52 yY_X5_rangeCount gX7_account_X5_rangeCount rfl cs9 (show v + 2 < jn M from by have := lt; omega) g5.1.2.1 rfl ⟨by omega, by omega⟩ ⟨Nat.zero_le _, Nat.zero_le _⟩ rfl (Nat.le_of_ble_eq_true rfl)) (rfl) (rfl) ?_
    refine J_topi (y := nI (jcnt (fun j => ((cNw A).1 j).isSome) 12)) (by exact congrArg nI (jcnt_congr _ (fun j hj => slI_eq g5 hj))) ?_
    exact J_iret (ty := .int) dX7_account_55 rfl (rfl) ⟨(by unfold oAc; rw [if_pos s1_0]), (by rfl)⟩
  by_cases s1_1 : ((y)) = 1
  · refine J_tableIn (off := 55) (tgt := 56) dX7_account_1 (by rw [s1_1]; decide) (by rw [s1_1]; decide) (by rw [s1_1]; rfl) (by decide) ?_
    refine J_aload_n (v) dX7_account_56 rfl rfl ?_
    refine J_getrs (q := v + 2) a2 dX7_account_57 (fun _ h => List.mem_cons_of_mem _ (List.mem_append_left _ (List.mem_append_left _ (List.mem_append_left _ (List.mem_append_left _ (List.mem_append_right _ (h))))))) cs10 (by decide) rfl (List.mem_of_getElem? (i := 3) rfl) rfl (show v < jn M from by have := lt; omega) g1.2.1 ?_
    refine J_calli0 (jrunV (As := []) (ct_X5_spanSum l D dA hst M (v + 2) ((cNw A).2.1) (g5.1) g5.slots) dX7_account_60 yY_X5_spanSum gX7_account_X5_spanSum rfl cs9 (show v + 2 < jn M from by have := lt; omega) g5.1.2.1 rfl ⟨by omega, by omega⟩ ⟨Nat.zero_le _, Nat.zero_le _⟩ rfl (Nat.le_of_ble_eq_true rfl)) (rfl) (rfl) ?_
    refine J_topi (y := nI (jsum (slK (cNw A)) 12)) (by exact congrArg nI (jsum_congr _ (fun j hj => slN_eq g5 hj))) ?_
    exact J_iret (ty := .int) dX7_account_63 rfl (rfl) ⟨(by unfold oAc; rw [if_neg s1_0, if_pos s1_1]), (by rfl)⟩
  by_cases s1_2 : ((y)) = 2
  · refine J_tableIn (off := 63) (tgt := 64) dX7_account_1 (by rw [s1_2]; decide) (by rw [s1_2]; decide) (by rw [s1_2]; rfl) (by decide) ?_
    refine J_aload_n (v) dX7_account_64 rfl rfl ?_
    refine J_getrs (q := v + 2) a2 dX7_account_65 (fun _ h => List.mem_cons_of_mem _ (List.mem_append_left _ (List.mem_append_left _ (List.mem_append_left _ (List.mem_append_left _ (List.mem_append_right _ (h))))))) cs10 (by decide) rfl (List.mem_of_getElem? (i := 3) rfl) rfl (show v < jn M from by have := lt; omega) g1.2.1 ?_
    refine J_calli0 (jrunV (As := []) (ct_X5_mostSpans l D dA hst M (v + 2) ((cNw A).2.1) (g5.1) g5.slots) dX7_account_68 yY_X5_mostSpans gX7_account_X5_mostSpans rfl cs9 (show v + 2 < jn M from by have := lt; omega) g5.1.2.1 rfl ⟨by omega, by omega⟩ ⟨Nat.zero_le _, Nat.zero_le _⟩ rfl (Nat.le_of_ble_eq_true rfl)) (rfl) (rfl) ?_
    refine J_topi (y := nI (jmax (slK (cNw A)) 12)) (by exact congrArg nI (jmax_congr _ (fun j hj => slN_eq g5 hj))) ?_
    exact J_iret (ty := .int) dX7_account_71 rfl (rfl) ⟨(by unfold oAc; rw [if_neg s1_0, if_neg s1_1, if_pos s1_2]), (by rfl)⟩
  by_cases s1_3 : ((y)) = 3
  · refine J_tableIn (off := 71) (tgt := 72) dX7_account_1 (by rw [s1_3]; decide) (by rw [s1_3]; decide) (by rw [s1_3]; rfl) (by decide) ?_
    refine J_aload_n (v) dX7_account_72 rfl rfl ?_
    refine J_getrs (q := v + 2) a2 dX7_account_73 (fun _ h => List.mem_cons_of_mem _ (List.mem_append_left _ (List.mem_append_left _ (List.mem_append_left _ (List.mem_append_left _ (List.mem_append_right _ (h))))))) cs10 (by decide) rfl (List.mem_of_getElem? (i := 3) rfl) rfl (show v < jn M from by have := lt; omega) g1.2.1 ?_
    refine J_calli0 (jrunV (As := []) (ct_X5_publishedCount l D dA hst M (v + 2) ((cNw A).2.1) (g5.1)) dX7_account_76 yY_X5_publishedCount gX7_account_X5_publishedCount rfl cs9 (show v + 2 < jn M from by have := lt; omega) g5.1.2.1 rfl ⟨by omega, by omega⟩ ⟨Nat.zero_le _, Nat.zero_le _⟩ rfl (Nat.le_of_ble_eq_true rfl)) (rfl) (rfl) ?_
    exact J_iret (ty := .int) dX7_account_79 rfl (rfl) ⟨(by unfold oAc; rw [if_neg s1_0, if_neg s1_1, if_neg s1_2, if_pos s1_3]), (by rfl)⟩
  by_cases s1_4 : ((y)) = 4
  · refine J_tableIn (off := 79) (tgt := 80) dX7_account_1 (by rw [s1_4]; decide) (by rw [s1_4]; decide) (by rw [s1_4]; rfl) (by decide) ?_
    refine J_aload_n (v) dX7_account_80 rfl rfl ?_
    refine J_getrs (q := v + 2) a2 dX7_account_81 (fun _ h => List.mem_cons_of_mem _ (List.mem_append_left _ (List.mem_append_left _ (List.mem_append_left _ (List.mem_append_left _ (List.mem_append_right _ (h))))))) cs10 (by decide) rfl (List.mem_of_getElem? (i := 3) rfl) rfl (show v < jn M from by have := lt; omega) g1.2.1 ?_
    refine J_calli0 (jrunV (As := []) (ct_X5_publishedPrereleaseCount l D dA hst M (v + 2) ((cNw A).2.1) (g5.1)) dX7_account_84 yY_X5_publishedPrereleaseCount gX7_account_X5_publishedPrereleaseCount rfl cs9 (show v + 2 < jn M from by have := lt; omega) g5.1.2.1 rfl ⟨by omega, by omega⟩ ⟨Nat.zero_le _, Nat.zero_le _⟩ rfl (Nat.le_of_ble_eq_true rfl)) (rfl) (rfl) ?_
    refine J_topi (y := nI (jcnt (fun p => vPre ((cNw A).2.2 p)) (cNw A).2.1)) (by exact congrArg nI (jcnt_congr _ (fun j hj => congrArg vPre (g5.2.2 j hj)))) ?_
    exact J_iret (ty := .int) dX7_account_87 rfl (rfl) ⟨(by unfold oAc; rw [if_neg s1_0, if_neg s1_1, if_neg s1_2, if_neg s1_3, if_pos s1_4]), (by rfl)⟩
  by_cases s1_5 : ((y)) = 5
  · refine J_tableIn (off := 87) (tgt := 88) dX7_account_1 (by rw [s1_5]; decide) (by rw [s1_5]; decide) (by rw [s1_5]; rfl) (by decide) ?_
    refine J_aload_n (v) dX7_account_88 rfl rfl ?_
    refine J_getrs (q := v + 2) a2 dX7_account_89 (fun _ h => List.mem_cons_of_mem _ (List.mem_append_left _ (List.mem_append_left _ (List.mem_append_left _ (List.mem_append_left _ (List.mem_append_right _ (h))))))) cs10 (by decide) rfl (List.mem_of_getElem? (i := 3) rfl) rfl (show v < jn M from by have := lt; omega) g1.2.1 ?_
    refine J_calli0 (jrunV (As := []) (ct_X5_publishedInNoRangeCount l D dA hst M (v + 2) ((cNw A).2.1) (g5.1) g5.slots) dX7_account_92 yY_X5_publishedInNoRangeCount gX7_account_X5_publishedInNoRangeCount rfl cs9 (show v + 2 < jn M from by have := lt; omega) g5.1.2.1 rfl ⟨by omega, by omega⟩ ⟨Nat.zero_le _, Nat.zero_le _⟩ rfl (Nat.le_of_ble_eq_true rfl)) (rfl) (rfl) ?_
    refine J_topi (y := nI (jcnt (fun p => !cIn (cNw A) ((cNw A).2.2 p)) (cNw A).2.1)) (by exact congrArg nI (jcnt_congr _ (fun j hj => congrArg not ((inSome_eq g5 _).trans (congrArg (cIn (cNw A)) (g5.2.2 j hj)))))) ?_
    exact J_iret (ty := .int) dX7_account_95 rfl (rfl) ⟨(by unfold oAc; rw [if_neg s1_0, if_neg s1_1, if_neg s1_2, if_neg s1_3, if_neg s1_4, if_pos s1_5]), (by rfl)⟩
  by_cases s1_6 : ((y)) = 6
  · refine J_tableIn (off := 95) (tgt := 96) dX7_account_1 (by rw [s1_6]; decide) (by rw [s1_6]; decide) (by rw [s1_6]; rfl) (by decide) ?_
    refine J_aload_n (v) dX7_account_96 rfl rfl ?_
    refine J_getrs (q := v + 2) a2 dX7_account_97 (fun _ h => List.mem_cons_of_mem _ (List.mem_append_left _ (List.mem_append_left _ (List.mem_append_left _ (List.mem_append_left _ (List.mem_append_right _ (h))))))) cs10 (by decide) rfl (List.mem_of_getElem? (i := 3) rfl) rfl (show v < jn M from by have := lt; omega) g1.2.1 ?_
    refine J_calli0 (jrunV (As := []) (ct_X5_emptyRangeCount l D dA hst M (v + 2) ((cNw A).2.1) (g5.1) g5.slots) dX7_account_100 yY_X5_emptyRangeCount gX7_account_X5_emptyRangeCount rfl cs9 (show v + 2 < jn M from by have := lt; omega) g5.1.2.1 rfl ⟨by omega, by omega⟩ ⟨Nat.zero_le _, Nat.zero_le _⟩ rfl (Nat.le_of_ble_eq_true rfl)) (rfl) (rfl) ?_
    refine J_topi (y := nI (jcnt (slW (cNw A) (fun w => decide (w.1 = 0))) 12)) (by exact congrArg nI (jcnt_congr _ (fun j hj => slB_eq g5 (fun t w hg hi => by rw [hg.rn]) hj))) ?_
    exact J_iret (ty := .int) dX7_account_103 rfl (rfl) ⟨(by unfold oAc; rw [if_neg s1_0, if_neg s1_1, if_neg s1_2, if_neg s1_3, if_neg s1_4, if_neg s1_5, if_pos s1_6]), (by rfl)⟩
  by_cases s1_7 : ((y)) = 7
  · refine J_tableIn (off := 103) (tgt := 104) dX7_account_1 (by rw [s1_7]; decide) (by rw [s1_7]; decide) (by rw [s1_7]; rfl) (by decide) ?_
    refine J_aload_n (v) dX7_account_104 rfl rfl ?_
    refine J_geti (j := 1) dX7_account_105 (fun _ h => List.mem_cons_of_mem _ (List.mem_append_left _ (List.mem_append_left _ (List.mem_append_left _ (List.mem_append_left _ (List.mem_append_right _ (h))))))) cs10 (by decide) rfl (List.mem_of_getElem? (i := 4) rfl) rfl (show v < jn M from by have := lt; omega) g1.2.1 ?_
    refine J_topi (y := nI (cL A)) (a8) ?_
    exact J_iret (ty := .int) dX7_account_108 rfl (rfl) ⟨(by unfold oAc; rw [if_neg s1_0, if_neg s1_1, if_neg s1_2, if_neg s1_3, if_neg s1_4, if_neg s1_5, if_neg s1_6, if_pos s1_7]), (by rfl)⟩
  refine J_tableOut (tgt := 109) dX7_account_1 (by have : (((y))).toInt ≠ 0 := fun h9 => s1_0 (Int32.toInt_inj.mp (h9.trans (show (0 : Int) = (0 : Int32).toInt by decide))); have : (((y))).toInt ≠ 1 := fun h9 => s1_1 (Int32.toInt_inj.mp (h9.trans (show (1 : Int) = (1 : Int32).toInt by decide))); have : (((y))).toInt ≠ 2 := fun h9 => s1_2 (Int32.toInt_inj.mp (h9.trans (show (2 : Int) = (2 : Int32).toInt by decide))); have : (((y))).toInt ≠ 3 := fun h9 => s1_3 (Int32.toInt_inj.mp (h9.trans (show (3 : Int) = (3 : Int32).toInt by decide))); have : (((y))).toInt ≠ 4 := fun h9 => s1_4 (Int32.toInt_inj.mp (h9.trans (show (4 : Int) = (4 : Int32).toInt by decide))); have : (((y))).toInt ≠ 5 := fun h9 => s1_5 (Int32.toInt_inj.mp (h9.trans (show (5 : Int) = (5 : Int32).toInt by decide))); have : (((y))).toInt ≠ 6 := fun h9 => s1_6 (Int32.toInt_inj.mp (h9.trans (show (6 : Int) = (6 : Int32).toInt by decide))); have : (((y))).toInt ≠ 7 := fun h9 => s1_7 (Int32.toInt_inj.mp (h9.trans (show (7 : Int) = (7 : Int32).toInt by decide))); omega) (by decide) ?_
  exact J_throwSW (E := "java/lang/IllegalArgumentException") (text := "there is no such account") (names := ["java/lang/RuntimeException", "java/lang/Exception"]) (by decide) (by decide) dX7_account_109 dX7_account_112 dX7_account_113 dX7_account_116 dX7_account_119 (List.mem_of_getElem? (i := 1) rfl) (List.mem_of_getElem? (i := 2) rfl) thr_RX7_126_263_s (fun _ h => List.mem_cons_of_mem _ (List.mem_append_left _ (List.mem_append_right _ (h)))) thr_RX7_126 thr_RX7_126_g rfl (Nat.le_of_ble_eq_true rfl) (by first | decide | (simp only [List.length_cons, List.length_nil]; omega)) (by first | decide | (simp only [List.length_cons, List.length_nil]; omega)) (by omega) (by omega) ⟨(by unfold oAc; rw [if_neg s1_0, if_neg s1_1, if_neg s1_2, if_neg s1_3, if_neg s1_4, if_neg s1_5, if_neg s1_6, if_neg s1_7]; rfl), (by rfl)⟩

theorem oCa_s {A : cA} {w : rVl} {y : Int32} (h : cCh A = some w) : oCa A y = oCaS w y := by unfold oCa; rw [h]
theorem oCa_n {A : cA} {y : Int32} (h : cCh A = none) : oCa A y = oX xISE := by unfold oCa; rw [h]
theorem dX7_cause_0 : decode cX7_cause 0 = .ok (.aload_n 0, 1) := by decide +kernel
theorem dX7_cause_1 : decode cX7_cause 1 = .ok (.getfield 23, 3) := by decide +kernel
theorem dX7_cause_4 : decode cX7_cause 4 = .ok (.ifnonnull 13, 3) := by decide +kernel
theorem dX7_cause_7 : decode cX7_cause 7 = .ok (.new 55, 3) := by decide +kernel
theorem thr_RX7_59 : ∀ w ∈ (vy_atS RX7 59 "java/lang/IllegalStateException" ["java/lang/RuntimeException", "java/lang/Exception"]).filter (fun w => !goodWord w), w ∈ jNws := by decide +kernel
theorem thr_RX7_59_g : ∀ w ∈ Cond.classLink RX7 55 "java/lang/IllegalStateException" :: Cond.initialized "java/lang/IllegalStateException" :: vy_atS RX7 59 "java/lang/IllegalStateException" ["java/lang/RuntimeException", "java/lang/Exception"], vx_ot w = true := by decide +kernel
theorem thr_RX7_59_s : (RX7, 208, "no expression has failed") ∈ jStrs := List.mem_of_getElem? (i := 12) rfl
theorem dX7_cause_10 : decode cX7_cause 10 = .ok (.dup, 1) := by decide +kernel
theorem dX7_cause_11 : decode cX7_cause 11 = .ok (.ldc 208, 2) := by decide +kernel
theorem dX7_cause_13 : decode cX7_cause 13 = .ok (.invokespecial 59, 3) := by decide +kernel
theorem dX7_cause_16 : decode cX7_cause 16 = .ok (.athrow, 1) := by decide +kernel
set_option maxHeartbeats 400000 in
set_option maxRecDepth 20000 in
theorem ct_X7_cause_n (l : Launch) (D : va_G) (dA : Nat → ClassId) (hst : l.stackTraces = false) (M : jM) (v : Nat) (A : cA) (hA : jAb M v A) (y : Int32) (hch : cCh A = none) : jCT l D dA yX7_cause wsX7_cause (20) (300) (6) (40) 1 [.ref (v), .int (y)] M (jPo (oCa A y) (M)) := by
  refine jBody (cc := cX7_cause) (nL := 2) (rt := (some .int)) (ini := false) (by decide) rfl hst (Nat.le_of_ble_eq_true rfl) (by simp [Value.category]) (by intro h9; first | exact absurd h9 (by decide) | rfl) ?_
  show J l D dA RX7 cX7_cause wsX7_cause 2 false (some .int) [] (20) (300) (jF D dA (jn M) (jPo (oCa A y) (M)) 1) (jn M) (6) (40) (M) 0 [.ref (v), .int (y)] []
  obtain ⟨g1, g2, g3, g4, g5, g6, g7, g9⟩ := id hA
  obtain ⟨a1, a2, a3, a4, a5, a6, a7, a8, a9, a10, a11, a12, a13⟩ := id g3
  have lt := Nat.le_trans (Nat.add_le_add_left (show 36 ≤ 52 by decide) _) g1.1
  have c30 := g5.1.2.2.2.2.2.2.2.2.2
  rw [hch] at g4
  replace g4 : jr M v 4 = none := g4
  refine J_aload_n (v) dX7_cause_0 rfl rfl ?_
  refine J_getr (j := 4) dX7_cause_1 (fun _ h => List.mem_cons_of_mem _ (List.mem_append_left _ (List.mem_append_left _ (List.mem_append_left _ (List.mem_append_right _ (h)))))) cs10 (by decide) rfl (List.mem_of_getElem? (i := 5) rfl) rfl (show v < jn M from by have := lt; omega) g1.2.1 ?_
  refine J_topr (y := none) (g4) ?_
  refine J_ifnonnull (r := none) dX7_cause_4 (tgt := 17) (by decide) (fun r4 c4 => ?_) (fun c4 => ?_)
  · cases c4
  · exact J_throwS (E := "java/lang/IllegalStateException") (text := "no expression has failed") (names := ["java/lang/RuntimeException", "java/lang/Exception"]) (by decide) (by decide) dX7_cause_7 dX7_cause_10 dX7_cause_11 dX7_cause_13 dX7_cause_16 (List.mem_of_getElem? (i := 1) rfl) (List.mem_of_getElem? (i := 2) rfl) thr_RX7_59_s (fun _ h => List.mem_cons_of_mem _ (List.mem_append_left _ (List.mem_append_left _ (List.mem_append_right _ (h))))) thr_RX7_59 thr_RX7_59_g rfl (Nat.le_of_ble_eq_true rfl) (by first | decide | (simp only [List.length_cons, List.length_nil]; omega)) (by first | decide | (simp only [List.length_cons, List.length_nil]; omega)) (by omega) (by omega) ⟨(by first | (rw [oCa_n hch]; done) | (rw [oCa_n hch]; with_reducible rfl) | (rw [oCa_n hch]; rfl) | fail "leaf"), (by rfl)⟩

theorem dX7_cause_17 : decode cX7_cause 17 = .ok (.iload_n 1, 1) := by decide +kernel
theorem dX7_cause_18 : decode cX7_cause 18 = .ok (.iconst (-1), 1) := by decide +kernel
theorem dX7_cause_19 : decode cX7_cause 19 = .ok (.if_icmp .ne 9, 3) := by decide +kernel
theorem dX7_cause_28 : decode cX7_cause 28 = .ok (.iload_n 1, 1) := by decide +kernel
theorem dX7_cause_29 : decode cX7_cause 29 = .ok (.ifCond .lt 12, 3) := by decide +kernel
theorem dX7_cause_41 : decode cX7_cause 41 = .ok (.new 141, 3) := by decide +kernel
theorem thr_RX7_145_210_s : (RX7, 210, "there is no such position") ∈ jStrs := List.mem_of_getElem? (i := 13) rfl
theorem dX7_cause_44 : decode cX7_cause 44 = .ok (.dup, 1) := by decide +kernel
theorem dX7_cause_45 : decode cX7_cause 45 = .ok (.ldc 210, 2) := by decide +kernel
theorem dX7_cause_47 : decode cX7_cause 47 = .ok (.invokespecial 145, 3) := by decide +kernel
theorem dX7_cause_50 : decode cX7_cause 50 = .ok (.athrow, 1) := by decide +kernel
theorem dX7_cause_32 : decode cX7_cause 32 = .ok (.iload_n 1, 1) := by decide +kernel
theorem dX7_cause_33 : decode cX7_cause 33 = .ok (.aload_n 0, 1) := by decide +kernel
theorem dX7_cause_34 : decode cX7_cause 34 = .ok (.getfield 23, 3) := by decide +kernel
theorem dX7_cause_37 : decode cX7_cause 37 = .ok (.arraylength, 1) := by decide +kernel
theorem dX7_cause_38 : decode cX7_cause 38 = .ok (.if_icmp .lt 13, 3) := by decide +kernel
theorem dX7_cause_51 : decode cX7_cause 51 = .ok (.aload_n 0, 1) := by decide +kernel
theorem dX7_cause_52 : decode cX7_cause 52 = .ok (.getfield 23, 3) := by decide +kernel
theorem dX7_cause_55 : decode cX7_cause 55 = .ok (.iload_n 1, 1) := by decide +kernel
theorem dX7_cause_56 : decode cX7_cause 56 = .ok (.iaload, 1) := by decide +kernel
theorem dX7_cause_57 : decode cX7_cause 57 = .ok (.ireturn, 1) := by decide +kernel
theorem dX7_cause_22 : decode cX7_cause 22 = .ok (.aload_n 0, 1) := by decide +kernel
theorem dX7_cause_23 : decode cX7_cause 23 = .ok (.getfield 23, 3) := by decide +kernel
theorem dX7_cause_26 : decode cX7_cause 26 = .ok (.arraylength, 1) := by decide +kernel
theorem dX7_cause_27 : decode cX7_cause 27 = .ok (.ireturn, 1) := by decide +kernel
set_option maxHeartbeats 400000 in
set_option maxRecDepth 20000 in
theorem ct_X7_cause_s (l : Launch) (D : va_G) (dA : Nat → ClassId) (hst : l.stackTraces = false) (M : jM) (v : Nat) (A : cA) (hA : jAb M v A) (y : Int32) (w : rVl) (hch : cCh A = some w) : jCT l D dA yX7_cause wsX7_cause (20) (300) (6) (40) 1 [.ref (v), .int (y)] M (jPo (oCa A y) (M)) := by
  refine jBody (cc := cX7_cause) (nL := 2) (rt := (some .int)) (ini := false) (by decide) rfl hst (Nat.le_of_ble_eq_true rfl) (by simp [Value.category]) (by intro h9; first | exact absurd h9 (by decide) | rfl) ?_
  show J l D dA RX7 cX7_cause wsX7_cause 2 false (some .int) [] (20) (300) (jF D dA (jn M) (jPo (oCa A y) (M)) 1) (jn M) (6) (40) (M) 0 [.ref (v), .int (y)] []
  obtain ⟨g1, g2, g3, g4, g5, g6, g7, g9⟩ := id hA
  obtain ⟨a1, a2, a3, a4, a5, a6, a7, a8, a9, a10, a11, a12, a13⟩ := id g3
  have lt := Nat.le_trans (Nat.add_le_add_left (show 36 ≤ 52 by decide) _) g1.1
  have c30 := g5.1.2.2.2.2.2.2.2.2.2
  rw [hch] at g4
  obtain ⟨a, q1, q2, q3, q4, q5, q6, q7⟩ := g4
  refine J_aload_n (v) dX7_cause_0 rfl rfl ?_
  refine J_getrs (q := a) q1 dX7_cause_1 (fun _ h => List.mem_cons_of_mem _ (List.mem_append_left _ (List.mem_append_left _ (List.mem_append_left _ (List.mem_append_right _ (h)))))) cs10 (by decide) rfl (List.mem_of_getElem? (i := 5) rfl) rfl (show v < jn M from by have := lt; omega) g1.2.1 ?_
  refine J_ifnonnull (r := some (a)) dX7_cause_4 (tgt := 17) (by decide) (fun r4 c4 => ?_) (fun c4 => ?_)
  · clear c4
    refine J_iload_n dX7_cause_17 rfl rfl ?_
    refine J_iconst (x := (-1)) dX7_cause_18 (by decide) ?_
    refine J_icmp_ne dX7_cause_19 (tgt := 28) (by decide) (fun c19 => ?_) (fun c19 => ?_)
    · refine J_iload_n dX7_cause_28 rfl rfl ?_
      refine J_if_lt dX7_cause_29 (tgt := 41) (by decide) (fun c29 => ?_) (fun c29 => ?_)
      · exact J_throwS (E := "java/util/NoSuchElementException") (text := "there is no such position") (names := ["java/lang/RuntimeException", "java/lang/Exception"]) (by decide) (by decide) dX7_cause_41 dX7_cause_44 dX7_cause_45 dX7_cause_47 dX7_cause_50 (List.mem_of_getElem? (i := 3) rfl) (List.mem_of_getElem? (i := 4) rfl) thr_RX7_145_210_s (fun _ h => List.mem_cons_of_mem _ (List.mem_append_left _ (List.mem_append_right _ (h)))) thr_RX7_145 thr_RX7_145_g rfl (Nat.le_of_ble_eq_true rfl) (by first | decide | (simp only [List.length_cons, List.length_nil]; omega)) (by first | decide | (simp only [List.length_cons, List.length_nil]; omega)) (by omega) (by omega) ⟨(by first | (rw [oCa_s hch]; done) | (rw [oCa_s hch]; unfold oCaS; rw [if_pos c19]; first | done | rfl) | (rw [oCa_s hch]; unfold oCaS; rw [if_neg c19, if_pos c29]; first | done | rfl) | (rw [oCa_s hch]; unfold oCaS; rw [if_neg c19, if_neg (nI_pos (by omega)), if_neg (nI_nlt (by omega) (by omega))]; first | done | rfl) | (rw [oCa_s hch]; unfold oCaS; rw [if_neg c19, if_neg (nI_pos (by omega)), if_pos (nI_lt (by omega) (by omega)), nI_clamp (by omega), q7 k (by omega)]; first | done | rfl) | (rw [oCa_s hch]; with_reducible rfl) | (rw [oCa_s hch]; rfl) | fail "leaf"), (by rfl)⟩
      · obtain ⟨k, hk31, rfl⟩ := nI_of c29
        refine J_iload_n dX7_cause_32 rfl rfl ?_
        refine J_aload_n (v) dX7_cause_33 rfl rfl ?_
        refine J_getrs (q := a) q1 dX7_cause_34 (fun _ h => List.mem_cons_of_mem _ (List.mem_append_left _ (List.mem_append_left _ (List.mem_append_left _ (List.mem_append_right _ (h)))))) cs10 (by decide) rfl (List.mem_of_getElem? (i := 5) rfl) rfl (show v < jn M from by have := lt; omega) g1.2.1 ?_
        refine J_alen (t := 2) dX7_cause_37 q2 q4 rfl ?_
        refine J_topi (y := nI (w.1)) (congrArg nI q5) ?_
        refine J_icmp_lt dX7_cause_38 (tgt := 51) (by decide) (fun c38 => ?_) (fun c38 => ?_)
        · have c38 := jltT (a := k) (b := w.1) (by omega) (by omega) c38
          refine J_aload_n (v) dX7_cause_51 rfl rfl ?_
          refine J_getrs (q := a) q1 dX7_cause_52 (fun _ h => List.mem_cons_of_mem _ (List.mem_append_left _ (List.mem_append_left _ (List.mem_append_left _ (List.mem_append_right _ (h)))))) cs10 (by decide) rfl (List.mem_of_getElem? (i := 5) rfl) rfl (show v < jn M from by have := lt; omega) g1.2.1 ?_
          refine J_iload_n dX7_cause_55 rfl rfl ?_
          refine J_ialdN (k := k) dX7_cause_56 q2 q4 (by exact Nat.lt_of_lt_of_eq (show _ < w.1 by omega) (Eq.symm q5)) (by exact Nat.lt_of_le_of_lt (Nat.le_of_eq q5) (show w.1 < 2 ^ 31 by omega)) ?_
          exact J_iret (ty := .int) dX7_cause_57 rfl (rfl) ⟨(by first | (rw [oCa_s hch]; done) | (rw [oCa_s hch]; unfold oCaS; rw [if_pos c19]; first | done | rfl) | (rw [oCa_s hch]; unfold oCaS; rw [if_neg c19, if_pos c29]; first | done | rfl) | (rw [oCa_s hch]; unfold oCaS; rw [if_neg c19, if_neg (nI_pos (by omega)), if_neg (nI_nlt (by omega) (by omega))]; first | done | rfl) | (rw [oCa_s hch]; unfold oCaS; rw [if_neg c19, if_neg (nI_pos (by omega)), if_pos (nI_lt (by omega) (by omega)), nI_clamp (by omega), q7 k (by omega)]; first | done | rfl) | (rw [oCa_s hch]; with_reducible rfl) | (rw [oCa_s hch]; rfl) | fail "leaf"), (by rfl)⟩
        · have c38 := jltF (a := k) (b := w.1) (by omega) (by omega) c38
          exact J_throwS (E := "java/util/NoSuchElementException") (text := "there is no such position") (names := ["java/lang/RuntimeException", "java/lang/Exception"]) (by decide) (by decide) dX7_cause_41 dX7_cause_44 dX7_cause_45 dX7_cause_47 dX7_cause_50 (List.mem_of_getElem? (i := 3) rfl) (List.mem_of_getElem? (i := 4) rfl) thr_RX7_145_210_s (fun _ h => List.mem_cons_of_mem _ (List.mem_append_left _ (List.mem_append_right _ (h)))) thr_RX7_145 thr_RX7_145_g rfl (Nat.le_of_ble_eq_true rfl) (by first | decide | (simp only [List.length_cons, List.length_nil]; omega)) (by first | decide | (simp only [List.length_cons, List.length_nil]; omega)) (by omega) (by omega) ⟨(by first | (rw [oCa_s hch]; done) | (rw [oCa_s hch]; unfold oCaS; rw [if_pos c19]; first | done | rfl) | (rw [oCa_s hch]; unfold oCaS; rw [if_neg c19, if_pos c29]; first | done | rfl) | (rw [oCa_s hch]; unfold oCaS; rw [if_neg c19, if_neg (nI_pos (by omega)), if_neg (nI_nlt (by omega) (by omega))]; first | done | rfl) | (rw [oCa_s hch]; unfold oCaS; rw [if_neg c19, if_neg (nI_pos (by omega)), if_pos (nI_lt (by omega) (by omega)), nI_clamp (by omega), q7 k (by omega)]; first | done | rfl) | (rw [oCa_s hch]; with_reducible rfl) | (rw [oCa_s hch]; rfl) | fail "leaf"), (by rfl)⟩
    · refine J_aload_n (v) dX7_cause_22 rfl rfl ?_
      refine J_getrs (q := a) q1 dX7_cause_23 (fun _ h => List.mem_cons_of_mem _ (List.mem_append_left _ (List.mem_append_left _ (List.mem_append_left _ (List.mem_append_right _ (h)))))) cs10 (by decide) rfl (List.mem_of_getElem? (i := 5) rfl) rfl (show v < jn M from by have := lt; omega) g1.2.1 ?_
      refine J_alen (t := 2) dX7_cause_26 q2 q4 rfl ?_
      refine J_topi (y := nI (w.1)) (congrArg nI q5) ?_
      exact J_iret (ty := .int) dX7_cause_27 rfl (rfl) ⟨(by first | (rw [oCa_s hch]; done) | (rw [oCa_s hch]; unfold oCaS; rw [if_pos c19]; first | done | rfl) | (rw [oCa_s hch]; unfold oCaS; rw [if_neg c19, if_pos c29]; first | done | rfl) | (rw [oCa_s hch]; unfold oCaS; rw [if_neg c19, if_neg (nI_pos (by omega)), if_neg (nI_nlt (by omega) (by omega))]; first | done | rfl) | (rw [oCa_s hch]; unfold oCaS; rw [if_neg c19, if_neg (nI_pos (by omega)), if_pos (nI_lt (by omega) (by omega)), nI_clamp (by omega), q7 k (by omega)]; first | done | rfl) | (rw [oCa_s hch]; with_reducible rfl) | (rw [oCa_s hch]; rfl) | fail "leaf"), (by rfl)⟩
  · cases c4

theorem ct_X7_cause (l : Launch) (D : va_G) (dA : Nat → ClassId) (hst : l.stackTraces = false) (M : jM) (v : Nat) (A : cA) (hA : jAb M v A) (y : Int32) : jCT l D dA yX7_cause wsX7_cause 20 300 6 40 1 [.ref v, .int y] M (jPo (oCa A y) M) := by
  rcases hch : cCh A with _ | w
  · exact ct_X7_cause_n l D dA hst M v A hA y hch
  · exact ct_X7_cause_s l D dA hst M v A hA y w hch
