def cAt (z : cSt) (x : Int32) : Option rVl := if okSlot x then z.1 x.toNatClampNeg else none
theorem jVa_cAt {M : jM} {s : Nat} {z : cSt} (h : jSt M s z) (x : Int32) : jVa M (stRange M s x) (cAt z x) ∧ v16 (cAt z x) := by
  unfold stRange cAt
  by_cases hx : okSlot x = true
  · obtain ⟨k, hk, rfl⟩ := okSlot_of hx
    rw [if_pos hx, if_pos hx, nI_clamp (by omega)]
    exact h.2.1 k hk
  · rw [if_neg hx, if_neg hx]
    exact ⟨trivial, fun w hw => by cases hw⟩
def oSl (x : Int32) (o : jO) : jO := if okSlot x then o else oX xIOOBE
def oVe (x : Int32) (o : jO) : jO := if okVer x then o else oX xIAE
def oRn (A : cA) (x : Int32) (f : rVl → jO) : jO := match cAt (cNw A) x with
  | none => oX xNSE
  | some w => f w
theorem oSl_t {x : Int32} {o : jO} (h : okSlot x = true) : oSl x o = o := if_pos h
theorem oSl_f {x : Int32} {o : jO} (h : okSlot x = false) : oSl x o = oX xIOOBE := if_neg (by rw [h]; decide)
theorem oVe_t {x : Int32} {o : jO} (h : okVer x = true) : oVe x o = o := if_pos h
theorem oVe_f {x : Int32} {o : jO} (h : okVer x = false) : oVe x o = oX xIAE := if_neg (by rw [h]; decide)
theorem oRn_n {A : cA} {x : Int32} {f : rVl → jO} (h : cAt (cNw A) x = none) : oRn A x f = oX xNSE := by unfold oRn; rw [h]
theorem oRn_s {A : cA} {x : Int32} {f : rVl → jO} {w : rVl} (h : cAt (cNw A) x = some w) : oRn A x f = f w := by unfold oRn; rw [h]
/-- what rangeOf answers, by the reference that lies in the slot -/
def oRg (x : Int32) (r : Option Nat) : jO := if okSlot x then (match r with
  | none => oX xNSE
  | some t => oR (some t)) else oX xIOOBE
theorem rHoldsFor_congr {e e' : Nat → Int32} {n : Nat} (h : ∀ j, j < 2 * n → e j = e' j) (b : Bool) (x : Int32) : rHoldsFor e n b x = rHoldsFor e' n b x := by
  unfold rHoldsFor; rw [rHolds_congr h, rsf_congr h, rFirst_congr h, rLast_congr h]
theorem rLeast_congr {e e' : Nat → Int32} {n : Nat} (h : ∀ j, j < 2 * n → e j = e' j) (x : Int32) : rLeast e n x = rLeast e' n x := by
  unfold rLeast; rw [rsf_congr h, rFirst_congr h]
theorem rSize_congr {e e' : Nat → Int32} {n : Nat} (h : ∀ j, j < 2 * n → e j = e' j) : ∀ k, rSize e n k = rSize e' n k := by
  intro k
  induction k with
  | zero => rfl
  | succ k ih => unfold rSize; rw [ih, rFirst_congr h, rLast_congr h]
theorem rWhole_congr {e e' : Nat → Int32} {n : Nat} (h : ∀ j, j < 2 * n → e j = e' j) : rWhole e n = rWhole e' n := by
  unfold rWhole; rw [rFirst_congr h, rLast_congr h]
theorem jcnt_congr {p p' : Nat → Bool} : ∀ k, (∀ j, j < k → p j = p' j) → jcnt p k = jcnt p' k := by
  intro k
  induction k with
  | zero => intro _; rfl
  | succ k ih => intro h; unfold jcnt; rw [ih (fun j hj => h j (by omega)), h k (by omega)]
theorem jsum_congr {p p' : Nat → Nat} : ∀ k, (∀ j, j < k → p j = p' j) → jsum p k = jsum p' k := by
  intro k
  induction k with
  | zero => intro _; rfl
  | succ k ih => intro h; unfold jsum; rw [ih (fun j hj => h j (by omega)), h k (by omega)]
theorem jmax_congr {p p' : Nat → Nat} : ∀ k, (∀ j, j < k → p j = p' j) → jmax p k = jmax p' k := by
  intro k
  induction k with
  | zero => intro _; rfl
  | succ k ih => intro h; unfold jmax; rw [ih (fun j hj => h j (by omega)), h k (by omega)]
theorem jany_congr {p p' : Nat → Bool} : ∀ k, (∀ j, j < k → p j = p' j) → jany p k = jany p' k := by
  intro k
  induction k with
  | zero => intro _; rfl
  | succ k ih => intro h; unfold jany; rw [ih (fun j hj => h j (by omega)), h k (by omega)]
theorem jall_congr {p p' : Nat → Bool} : ∀ k, (∀ j, j < k → p j = p' j) → jall p k = jall p' k := by
  intro k
  induction k with
  | zero => intro _; rfl
  | succ k ih => intro h; unfold jall; rw [ih (fun j hj => h j (by omega)), h k (by omega)]
theorem jgrt_congr {p p' : Nat → Bool} {f f' : Nat → Int32} : ∀ k, (∀ j, j < k → p j = p' j ∧ f j = f' j) → jgrt p f k = jgrt p' f' k := by
  intro k
  induction k with
  | zero => intro _; rfl
  | succ k ih => intro h; unfold jgrt; rw [ih (fun j hj => h j (by omega)), (h k (by omega)).1, (h k (by omega)).2]
/-- how many of the published versions belong to a range -/
def cCnt (A : cA) (w : rVl) (b : Bool) : Nat := jcnt (fun p => rHoldsFor w.2 w.1 b ((cNw A).2.2 p)) (cNw A).2.1
def cGrt (A : cA) (w : rVl) (b : Bool) : Int32 := jgrt (fun p => rHoldsFor w.2 w.1 b ((cNw A).2.2 p)) (cNw A).2.2 (cNw A).2.1
theorem cCnt_eq {M : jM} {s t : Nat} {A : cA} {w : rVl} {b : Bool} (h : jSt M s (cNw A)) (hi : ∀ j, j < 2 * w.1 → ji M (t + 1) j = w.2 j) : jcnt (fun p => rHoldsFor (ji M (t + 1)) w.1 b (ji M (s + 2) p)) (cNw A).2.1 = cCnt A w b :=
  jcnt_congr _ (fun j hj => by rw [h.2.2 j hj, rHoldsFor_congr hi])
theorem cGrt_eq {M : jM} {s t : Nat} {A : cA} {w : rVl} {b : Bool} (h : jSt M s (cNw A)) (hi : ∀ j, j < 2 * w.1 → ji M (t + 1) j = w.2 j) : jgrt (fun p => rHoldsFor (ji M (t + 1)) w.1 b (ji M (s + 2) p)) (ji M (s + 2)) (cNw A).2.1 = cGrt A w b :=
  jgrt_congr _ (fun j hj => ⟨by rw [h.2.2 j hj, rHoldsFor_congr hi], h.2.2 j hj⟩)
theorem dX7_rangeOf_0 : decode cX7_rangeOf 0 = .ok (.iload_n 1, 1) := by decide +kernel
theorem dX7_rangeOf_1 : decode cX7_rangeOf 1 = .ok (.invokestatic 62, 3) := by decide +kernel
set_option maxRecDepth 20000 in
theorem ggX7_rangeOf_X7_checkSlot : GoodIn wsX7_rangeOf wsX7_checkSlot := goodIn_ca (goodIn_r _ [7, 8, 9] (by decide +kernel) (by decide +kernel)) (goodIn_sub (fun _ h => List.mem_cons_of_mem _ (List.mem_append_right _ h)) (by decide +kernel))
set_option maxRecDepth 20000 in
theorem gX7_rangeOf_X7_checkSlot : GoodIn wsX7_rangeOf (va_wsS RX7 62 yX7_checkSlot wsX7_checkSlot) := goodIn_app (goodIn_of _ (by decide +kernel)) ggX7_rangeOf_X7_checkSlot
theorem yY_X7_checkSlot : jY yX7_checkSlot wsX7_checkSlot cX7_checkSlot 1 none 1 := ⟨⟨_, rfl⟩, by decide +kernel, by decide +kernel, by decide +kernel⟩
theorem dX7_rangeOf_4 : decode cX7_rangeOf 4 = .ok (.aload_n 0, 1) := by decide +kernel
theorem dX7_rangeOf_5 : decode cX7_rangeOf 5 = .ok (.getfield 30, 3) := by decide +kernel
theorem dX7_rangeOf_8 : decode cX7_rangeOf 8 = .ok (.iload_n 1, 1) := by decide +kernel
theorem dX7_rangeOf_9 : decode cX7_rangeOf 9 = .ok (.invokevirtual 131, 3) := by decide +kernel
set_option maxRecDepth 20000 in
theorem ggX7_rangeOf_X5_rangeIn : GoodIn wsX7_rangeOf wsX5_rangeIn := goodIn_r _ [14, 15, 26, 27, 28] (by decide +kernel) (by decide +kernel)
set_option maxRecDepth 20000 in
theorem gX7_rangeOf_X5_rangeIn : GoodIn wsX7_rangeOf (wsV RX7 131 RX5 yX5_rangeIn wsX5_rangeIn) := goodIn_app (goodIn_of _ (by decide +kernel)) ggX7_rangeOf_X5_rangeIn
theorem dX7_rangeOf_12 : decode cX7_rangeOf 12 = .ok (.astore_n 2, 1) := by decide +kernel
theorem dX7_rangeOf_13 : decode cX7_rangeOf 13 = .ok (.aload_n 2, 1) := by decide +kernel
theorem dX7_rangeOf_14 : decode cX7_rangeOf 14 = .ok (.ifnonnull 14, 3) := by decide +kernel
theorem dX7_rangeOf_28 : decode cX7_rangeOf 28 = .ok (.aload_n 2, 1) := by decide +kernel
theorem dX7_rangeOf_29 : decode cX7_rangeOf 29 = .ok (.areturn, 1) := by decide +kernel
theorem dX7_rangeOf_17 : decode cX7_rangeOf 17 = .ok (.new 141, 3) := by decide +kernel
theorem thr_RX7_145 : ∀ w ∈ (vy_atS RX7 145 "java/util/NoSuchElementException" ["java/lang/RuntimeException", "java/lang/Exception"]).filter (fun w => !goodWord w), w ∈ jNws := by decide +kernel
theorem thr_RX7_145_g : ∀ w ∈ Cond.classLink RX7 141 "java/util/NoSuchElementException" :: Cond.initialized "java/util/NoSuchElementException" :: vy_atS RX7 145 "java/util/NoSuchElementException" ["java/lang/RuntimeException", "java/lang/Exception"], vx_ot w = true := by decide +kernel
theorem thr_RX7_145_s : (RX7, 289, "the slot is empty") ∈ jStrs := List.mem_of_getElem? (i := 6) rfl
theorem dX7_rangeOf_20 : decode cX7_rangeOf 20 = .ok (.dup, 1) := by decide +kernel
theorem dX7_rangeOf_21 : decode cX7_rangeOf 21 = .ok (.ldc_w 289, 3) := by decide +kernel
theorem dX7_rangeOf_24 : decode cX7_rangeOf 24 = .ok (.invokespecial 145, 3) := by decide +kernel
theorem dX7_rangeOf_27 : decode cX7_rangeOf 27 = .ok (.athrow, 1) := by decide +kernel
set_option maxHeartbeats 400000 in
set_option maxRecDepth 20000 in
theorem ct_X7_rangeOf (l : Launch) (D : va_G) (dA : Nat → ClassId) (hst : l.stackTraces = false) (M : jM) (v : Nat) (A : cA) (hA : jAb M v A) (x : Int32) : jCT l D dA yX7_rangeOf wsX7_rangeOf (21) (360) (2) (12) 2 [.ref (v), .int (x)] M (jPo (oRg x (stRange M (v + 2) x)) (M)) := by
  refine jBody (cc := cX7_rangeOf) (nL := 3) (rt := (some (.object "VersionAlgebra$Range"))) (ini := false) (by decide) rfl hst (Nat.le_of_ble_eq_true rfl) (by simp [Value.category]) (by intro h9; first | exact absurd h9 (by decide) | rfl) ?_
  show J l D dA RX7 cX7_rangeOf wsX7_rangeOf 3 false (some (.object "VersionAlgebra$Range")) [] (21) (360) (jF D dA (jn M) (jPo (oRg x (stRange M (v + 2) x)) (M)) 2) (jn M) (2) (12) (M) 0 [.ref (v), .int (x), .float 0] []
  obtain ⟨g1, g2, g3, g4, g5, g6, g7, g9⟩ := id hA
  obtain ⟨a1, a2, a3, a4, a5, a6, a7, a8, a9, a10, a11, a12, a13⟩ := id g3
  have lt := Nat.le_trans (Nat.add_le_add_left (show 36 ≤ 52 by decide) _) g1.1
  refine J_iload_n dX7_rangeOf_0 rfl rfl ?_
  rcases Bool.eq_false_or_eq_true (okSlot ((x))) with ok1 | ok1
  · refine J_callvB (jrunS (As := [.int (x)]) (ct_X7_checkSlot l D dA hst M ((x))) dX7_rangeOf_1 yY_X7_checkSlot gX7_rangeOf_X7_checkSlot rfl ⟨by omega, by omega⟩ ⟨by omega, by omega⟩ rfl (Nat.le_of_ble_eq_true rfl)) (if_pos ok1) (rfl) ⟨by omega, by omega⟩ ?_
    refine J_aload_n (v) dX7_rangeOf_4 rfl rfl ?_
    refine J_getrs (q := v + 2) a2 dX7_rangeOf_5 (fun _ h => List.mem_cons_of_mem _ (List.mem_append_left _ (List.mem_append_left _ (List.mem_append_left _ (List.mem_append_right _ (h)))))) cs10 (by decide) rfl (List.mem_of_getElem? (i := 3) rfl) rfl (show v < jn M from by have := lt; omega) g1.2.1 ?_
    refine J_iload_n dX7_rangeOf_8 rfl rfl ?_
    refine J_callq0 (jrunV (As := [.int (x)]) (ct_X5_rangeIn l D dA hst M (v + 2) ((cNw A).2.1) (g5.1) ((x))) dX7_rangeOf_9 yY_X5_rangeIn gX7_rangeOf_X5_rangeIn rfl cs9 (show v + 2 < jn M from by have := lt; omega) g5.1.2.1 rfl ⟨by omega, by omega⟩ ⟨Nat.zero_le _, Nat.zero_le _⟩ rfl (Nat.le_of_ble_eq_true rfl)) (rfl) (rfl) ?_
    refine J_astore_nq (r := stRange M (v + 2) ((x))) (lv' := [.ref (v), .int (x), va_rf (stRange M (v + 2) ((x)))]) dX7_rangeOf_12 rfl (by decide) rfl rfl ?_
    refine J_aload_nq (stRange M (v + 2) ((x))) dX7_rangeOf_13 rfl rfl ?_
    refine J_ifnonnull dX7_rangeOf_14 (tgt := 28) (by decide) (fun r14 c14 => ?_) (fun c14 => ?_)
    · refine J_conv (M' := M) (lv' := [.ref (v), .int (x), .ref (r14)]) (st' := []) rfl (by rw [c14]; rfl) rfl ?_
      refine J_aload_n (r14) dX7_rangeOf_28 rfl rfl ?_
      exact J_aret (r := some (r14)) dX7_rangeOf_29 rfl (Or.inl ⟨_, rfl⟩) ⟨(by first | (unfold oRg; rw [if_neg (by rw [ok1]; decide)]; done) | (unfold oRg; rw [if_pos ok1, c14]; done) | (unfold oRg; rw [if_pos ok1, c14]; rfl) | fail "r"), (by rfl)⟩
    · exact J_throwSW (E := "java/util/NoSuchElementException") (text := "the slot is empty") (names := ["java/lang/RuntimeException", "java/lang/Exception"]) (by decide) (by decide) dX7_rangeOf_17 dX7_rangeOf_20 dX7_rangeOf_21 dX7_rangeOf_24 dX7_rangeOf_27 (List.mem_of_getElem? (i := 1) rfl) (List.mem_of_getElem? (i := 2) rfl) thr_RX7_145_s (fun _ h => List.mem_cons_of_mem _ (List.mem_append_left _ (List.mem_append_right _ (h)))) thr_RX7_145 thr_RX7_145_g rfl (Nat.le_of_ble_eq_true rfl) (by first | decide | (simp only [List.length_cons, List.length_nil]; omega)) (by first | decide | (simp only [List.length_cons, List.length_nil]; omega)) (by omega) (by omega) ⟨(by first | (unfold oRg; rw [if_neg (by rw [ok1]; decide)]; done) | (unfold oRg; rw [if_pos ok1, c14]; done) | (unfold oRg; rw [if_pos ok1, c14]; rfl) | fail "r"), (by rfl)⟩
  · refine J_callvX (jrunS (As := [.int (x)]) (ct_X7_checkSlot l D dA hst M ((x))) dX7_rangeOf_1 yY_X7_checkSlot gX7_rangeOf_X7_checkSlot rfl ⟨by omega, by omega⟩ ⟨by omega, by omega⟩ rfl (Nat.le_of_ble_eq_true rfl)) (if_neg (by rw [ok1]; decide)) ⟨by omega, by omega⟩ (Or.inl rfl) ?_
    exact JX_out rfl ⟨(by first | (unfold oRg; rw [if_neg (by rw [ok1]; decide)]; done) | (unfold oRg; rw [if_pos ok1, c14]; done) | (unfold oRg; rw [if_pos ok1, c14]; rfl) | fail "r"), (by rfl)⟩

theorem dX7_spans_0 : decode cX7_spans 0 = .ok (.aload_n 0, 1) := by decide +kernel
theorem dX7_spans_1 : decode cX7_spans 1 = .ok (.iload_n 1, 1) := by decide +kernel
theorem dX7_spans_2 : decode cX7_spans 2 = .ok (.invokevirtual 138, 3) := by decide +kernel
set_option maxRecDepth 20000 in
theorem ggX7_spans_X7_rangeOf : GoodIn wsX7_spans wsX7_rangeOf := goodIn_ca (goodIn_ca (goodIn_r _ [5, 6, 7, 8, 9, 10, 4, 11, 12, 13, 14, 15, 16, 17, 18, 19, 26, 27, 28, 29, 30, 31, 32, 33, 34, 35, 36, 37, 38] (by decide +kernel) (by decide +kernel)) (goodIn_sub (fun _ h => List.mem_cons_of_mem _ (List.mem_append_left _ (List.mem_append_right _ h))) (by decide +kernel))) (goodIn_sub (fun _ h => List.mem_cons_of_mem _ (List.mem_append_right _ h)) (by decide +kernel))
set_option maxRecDepth 20000 in
theorem gX7_spans_X7_rangeOf : GoodIn wsX7_spans (wsV RX7 138 RX7 yX7_rangeOf wsX7_rangeOf) := goodIn_app (goodIn_of _ (by decide +kernel)) ggX7_spans_X7_rangeOf
theorem yY_X7_rangeOf : jY yX7_rangeOf wsX7_rangeOf cX7_rangeOf 3 (some (.object "VersionAlgebra$Range")) 1 := ⟨⟨_, rfl⟩, by decide +kernel, by decide +kernel, by decide +kernel⟩
theorem dX7_spans_5 : decode cX7_spans 5 = .ok (.invokevirtual 98, 3) := by decide +kernel
set_option maxRecDepth 20000 in
theorem ggX7_spans_X3_spanCount : GoodIn wsX7_spans wsX3_spanCount := goodIn_r _ [24, 25, 39] (by decide +kernel) (by decide +kernel)
set_option maxRecDepth 20000 in
theorem gX7_spans_X3_spanCount : GoodIn wsX7_spans (wsV RX7 98 RX3 yX3_spanCount wsX3_spanCount) := goodIn_app (goodIn_of _ (by decide +kernel)) ggX7_spans_X3_spanCount
theorem dX7_spans_8 : decode cX7_spans 8 = .ok (.ireturn, 1) := by decide +kernel
set_option maxHeartbeats 400000 in
set_option maxRecDepth 20000 in
theorem ct_X7_spans (l : Launch) (D : va_G) (dA : Nat → ClassId) (hst : l.stackTraces = false) (M : jM) (v : Nat) (A : cA) (hA : jAb M v A) (x : Int32) : jCT l D dA yX7_spans wsX7_spans (26) (660) (6) (40) 1 [.ref (v), .int (x)] M (jPo (oSl x (oRn A x (fun w => oI (nI w.1)))) (M)) := by
  refine jBody (cc := cX7_spans) (nL := 2) (rt := (some .int)) (ini := false) (by decide) rfl hst (Nat.le_of_ble_eq_true rfl) (by simp [Value.category]) (by intro h9; first | exact absurd h9 (by decide) | rfl) ?_
  show J l D dA RX7 cX7_spans wsX7_spans 2 false (some .int) [] (26) (660) (jF D dA (jn M) (jPo (oSl x (oRn A x (fun w => oI (nI w.1)))) (M)) 1) (jn M) (6) (40) (M) 0 [.ref (v), .int (x)] []
  obtain ⟨g1, g2, g3, g4, g5, g6, g7, g9⟩ := id hA
  obtain ⟨a1, a2, a3, a4, a5, a6, a7, a8, a9, a10, a11, a12, a13⟩ := id g3
  have lt := Nat.le_trans (Nat.add_le_add_left (show 36 ≤ 52 by decide) _) g1.1
  refine J_aload_n (v) dX7_spans_0 rfl rfl ?_
  refine J_iload_n dX7_spans_1 rfl rfl ?_
  rcases Bool.eq_false_or_eq_true (okSlot ((x))) with ok2 | ok2
  · rcases hs2 : stRange M (v + 2) ((x)) with _ | t2
    · have hj2 := (jVa_cAt g5 ((x))).1
      rw [hs2] at hj2
      have hw2 := hj2.none
      refine J_callqX (jrunV (As := [.int (x)]) (ct_X7_rangeOf l D dA hst M v A hA ((x))) dX7_spans_2 yY_X7_rangeOf gX7_spans_X7_rangeOf rfl cs10 (show v < jn M from by have := lt; omega) g1.2.1 rfl ⟨by omega, by omega⟩ ⟨by omega, by omega⟩ rfl (Nat.le_of_ble_eq_true rfl)) ((by unfold oRg; rw [if_pos ok2, hs2])) ⟨by omega, by omega⟩ (Or.inl rfl) ?_
      exact JX_out rfl ⟨(by first | (rw [oSl_t ok2, oRn_n hw2]; done) | (rw [oSl_t ok2, oRn_n hw2]; with_reducible rfl) | (rw [oSl_t ok2, oRn_n hw2]; rfl) | fail "leaf"), (by rfl)⟩
    · have hj2 := jVa_cAt g5 ((x))
      rw [hs2] at hj2
      obtain ⟨⟨w2, hw2, hg2, hi2⟩, hl2⟩ := And.imp_left jVa.some hj2
      have h16_2 := hl2 w2 hw2
      refine J_callqB (jrunV (As := [.int (x)]) (ct_X7_rangeOf l D dA hst M v A hA ((x))) dX7_spans_2 yY_X7_rangeOf gX7_spans_X7_rangeOf rfl cs10 (show v < jn M from by have := lt; omega) g1.2.1 rfl ⟨by omega, by omega⟩ ⟨by omega, by omega⟩ rfl (Nat.le_of_ble_eq_true rfl)) ((by unfold oRg; rw [if_pos ok2, hs2])) (rfl) ⟨by omega, by omega⟩ ?_
      refine J_calli0 (jrunV (As := []) (ct_X3_spanCount l D dA hst M t2 w2.1 hg2) dX7_spans_5 yY_X3_spanCount gX7_spans_X3_spanCount rfl cs7 (Nat.lt_of_succ_lt hg2.1) hg2.2.1 rfl ⟨by omega, by omega⟩ ⟨Nat.zero_le _, Nat.zero_le _⟩ rfl (Nat.le_of_ble_eq_true rfl)) (rfl) (rfl) ?_
      exact J_iret (ty := .int) dX7_spans_8 rfl (rfl) ⟨(by first | (rw [oSl_t ok2, oRn_s hw2]; done) | (rw [oSl_t ok2, oRn_s hw2]; with_reducible rfl) | (rw [oSl_t ok2, oRn_s hw2]; rfl) | fail "leaf"), (by rfl)⟩
  · refine J_callqX (jrunV (As := [.int (x)]) (ct_X7_rangeOf l D dA hst M v A hA ((x))) dX7_spans_2 yY_X7_rangeOf gX7_spans_X7_rangeOf rfl cs10 (show v < jn M from by have := lt; omega) g1.2.1 rfl ⟨by omega, by omega⟩ ⟨by omega, by omega⟩ rfl (Nat.le_of_ble_eq_true rfl)) ((by unfold oRg; rw [if_neg (by rw [ok2]; decide)])) ⟨by omega, by omega⟩ (Or.inl rfl) ?_
    exact JX_out rfl ⟨(by first | (rw [oSl_f ok2]; done) | (rw [oSl_f ok2]; with_reducible rfl) | (rw [oSl_f ok2]; rfl) | fail "leaf"), (by rfl)⟩

theorem dX7_size_0 : decode cX7_size 0 = .ok (.aload_n 0, 1) := by decide +kernel
theorem dX7_size_1 : decode cX7_size 1 = .ok (.iload_n 1, 1) := by decide +kernel
theorem dX7_size_2 : decode cX7_size 2 = .ok (.invokevirtual 138, 3) := by decide +kernel
set_option maxRecDepth 20000 in
theorem ggX7_size_X7_rangeOf : GoodIn wsX7_size wsX7_rangeOf := goodIn_ca (goodIn_ca (goodIn_r _ [5, 6, 7, 8, 9, 10, 4, 11, 12, 13, 14, 15, 16, 17, 18, 19, 38, 39, 40, 41, 42, 43, 44, 45, 46, 47, 48, 49, 50] (by decide +kernel) (by decide +kernel)) (goodIn_sub (fun _ h => List.mem_cons_of_mem _ (List.mem_append_left _ (List.mem_append_left _ (List.mem_append_right _ h)))) (by decide +kernel))) (goodIn_sub (fun _ h => List.mem_cons_of_mem _ (List.mem_append_left _ (List.mem_append_right _ h))) (by decide +kernel))
set_option maxRecDepth 20000 in
theorem gX7_size_X7_rangeOf : GoodIn wsX7_size (wsV RX7 138 RX7 yX7_rangeOf wsX7_rangeOf) := goodIn_app (goodIn_of _ (by decide +kernel)) ggX7_size_X7_rangeOf
theorem dX7_size_5 : decode cX7_size 5 = .ok (.invokevirtual 153, 3) := by decide +kernel
set_option maxRecDepth 20000 in
theorem ggX7_size_X3_versionCount : GoodIn wsX7_size wsX3_versionCount := goodIn_ca (goodIn_r _ [24, 25, 26, 27, 23, 28, 29, 30, 31, 32, 33, 34, 35, 36, 37, 51] (by decide +kernel) (by decide +kernel)) (goodIn_sub (fun _ h => List.mem_cons_of_mem _ (List.mem_append_right _ h)) (by decide +kernel))
set_option maxRecDepth 20000 in
theorem gX7_size_X3_versionCount : GoodIn wsX7_size (wsV RX7 153 RX3 yX3_versionCount wsX3_versionCount) := goodIn_app (goodIn_of _ (by decide +kernel)) ggX7_size_X3_versionCount
theorem yY_X3_versionCount : jY yX3_versionCount wsX3_versionCount cX3_versionCount 3 (some .int) 0 := ⟨⟨_, rfl⟩, by decide +kernel, by decide +kernel, by decide +kernel⟩
theorem dX7_size_8 : decode cX7_size 8 = .ok (.ireturn, 1) := by decide +kernel
set_option maxHeartbeats 400000 in
set_option maxRecDepth 20000 in
theorem ct_X7_size (l : Launch) (D : va_G) (dA : Nat → ClassId) (hst : l.stackTraces = false) (M : jM) (v : Nat) (A : cA) (hA : jAb M v A) (x : Int32) : jCT l D dA yX7_size wsX7_size (26) (660) (6) (40) 1 [.ref (v), .int (x)] M (jPo (oSl x (oRn A x (fun w => oI (rSize w.2 w.1 w.1)))) (M)) := by
  refine jBody (cc := cX7_size) (nL := 2) (rt := (some .int)) (ini := false) (by decide) rfl hst (Nat.le_of_ble_eq_true rfl) (by simp [Value.category]) (by intro h9; first | exact absurd h9 (by decide) | rfl) ?_
  show J l D dA RX7 cX7_size wsX7_size 2 false (some .int) [] (26) (660) (jF D dA (jn M) (jPo (oSl x (oRn A x (fun w => oI (rSize w.2 w.1 w.1)))) (M)) 1) (jn M) (6) (40) (M) 0 [.ref (v), .int (x)] []
  obtain ⟨g1, g2, g3, g4, g5, g6, g7, g9⟩ := id hA
  obtain ⟨a1, a2, a3, a4, a5, a6, a7, a8, a9, a10, a11, a12, a13⟩ := id g3
  have lt := Nat.le_trans (Nat.add_le_add_left (show 36 ≤ 52 by decide) _) g1.1
  refine J_aload_n (v) dX7_size_0 rfl rfl ?_
  refine J_iload_n dX7_size_1 rfl rfl ?_
  rcases Bool.eq_false_or_eq_true (okSlot ((x))) with ok2 | ok2
  · rcases hs2 : stRange M (v + 2) ((x)) with _ | t2
    · have hj2 := (jVa_cAt g5 ((x))).1
      rw [hs2] at hj2
      have hw2 := hj2.none
      refine J_callqX (jrunV (As := [.int (x)]) (ct_X7_rangeOf l D dA hst M v A hA ((x))) dX7_size_2 yY_X7_rangeOf gX7_size_X7_rangeOf rfl cs10 (show v < jn M from by have := lt; omega) g1.2.1 rfl ⟨by omega, by omega⟩ ⟨by omega, by omega⟩ rfl (Nat.le_of_ble_eq_true rfl)) ((by unfold oRg; rw [if_pos ok2, hs2])) ⟨by omega, by omega⟩ (Or.inl rfl) ?_
      exact JX_out rfl ⟨(by first | (rw [oSl_t ok2, oRn_n hw2]; done) | (rw [oSl_t ok2, oRn_n hw2]; rw [rSize_congr hi2]; first | done | rfl) | (rw [oSl_t ok2, oRn_n hw2]; with_reducible rfl) | (rw [oSl_t ok2, oRn_n hw2]; rfl) | fail "leaf"), (by rfl)⟩
    · have hj2 := jVa_cAt g5 ((x))
      rw [hs2] at hj2
      obtain ⟨⟨w2, hw2, hg2, hi2⟩, hl2⟩ := And.imp_left jVa.some hj2
      have h16_2 := hl2 w2 hw2
      refine J_callqB (jrunV (As := [.int (x)]) (ct_X7_rangeOf l D dA hst M v A hA ((x))) dX7_size_2 yY_X7_rangeOf gX7_size_X7_rangeOf rfl cs10 (show v < jn M from by have := lt; omega) g1.2.1 rfl ⟨by omega, by omega⟩ ⟨by omega, by omega⟩ rfl (Nat.le_of_ble_eq_true rfl)) ((by unfold oRg; rw [if_pos ok2, hs2])) (rfl) ⟨by omega, by omega⟩ ?_
      refine J_calli0 (jrunV (As := []) (ct_X3_versionCount l D dA hst M t2 w2.1 hg2) dX7_size_5 yY_X3_versionCount gX7_size_X3_versionCount rfl cs7 (Nat.lt_of_succ_lt hg2.1) hg2.2.1 rfl ⟨by omega, by omega⟩ ⟨Nat.zero_le _, Nat.zero_le _⟩ rfl (Nat.le_of_ble_eq_true rfl)) (rfl) (rfl) ?_
      exact J_iret (ty := .int) dX7_size_8 rfl (rfl) ⟨(by first | (rw [oSl_t ok2, oRn_s hw2]; done) | (rw [oSl_t ok2, oRn_s hw2]; rw [rSize_congr hi2]; first | done | rfl) | (rw [oSl_t ok2, oRn_s hw2]; with_reducible rfl) | (rw [oSl_t ok2, oRn_s hw2]; rfl) | fail "leaf"), (by rfl)⟩
  · refine J_callqX (jrunV (As := [.int (x)]) (ct_X7_rangeOf l D dA hst M v A hA ((x))) dX7_size_2 yY_X7_rangeOf gX7_size_X7_rangeOf rfl cs10 (show v < jn M from by have := lt; omega) g1.2.1 rfl ⟨by omega, by omega⟩ ⟨by omega, by omega⟩ rfl (Nat.le_of_ble_eq_true rfl)) ((by unfold oRg; rw [if_neg (by rw [ok2]; decide)])) ⟨by omega, by omega⟩ (Or.inl rfl) ?_
    exact JX_out rfl ⟨(by first | (rw [oSl_f ok2]; done) | (rw [oSl_f ok2]; rw [rSize_congr hi2]; first | done | rfl) | (rw [oSl_f ok2]; with_reducible rfl) | (rw [oSl_f ok2]; rfl) | fail "leaf"), (by rfl)⟩

theorem dX7_contains_0 : decode cX7_contains 0 = .ok (.iload_n 1, 1) := by decide +kernel
theorem dX7_contains_1 : decode cX7_contains 1 = .ok (.invokestatic 62, 3) := by decide +kernel
set_option maxRecDepth 20000 in
theorem ggX7_contains_X7_checkSlot : GoodIn wsX7_contains wsX7_checkSlot := goodIn_ca (goodIn_r _ [4, 5, 6] (by decide +kernel) (by decide +kernel)) (goodIn_sub (fun _ h => List.mem_cons_of_mem _ (List.mem_append_left _ (List.mem_append_left _ (List.mem_append_left _ (List.mem_append_right _ h))))) (by decide +kernel))
set_option maxRecDepth 20000 in
theorem gX7_contains_X7_checkSlot : GoodIn wsX7_contains (va_wsS RX7 62 yX7_checkSlot wsX7_checkSlot) := goodIn_app (goodIn_of _ (by decide +kernel)) ggX7_contains_X7_checkSlot
theorem dX7_contains_4 : decode cX7_contains 4 = .ok (.iload_n 2, 1) := by decide +kernel
theorem dX7_contains_5 : decode cX7_contains 5 = .ok (.invokestatic 119, 3) := by decide +kernel
set_option maxRecDepth 20000 in
theorem ggX7_contains_X7_checkVersion : GoodIn wsX7_contains wsX7_checkVersion := goodIn_ca (goodIn_r _ [9, 10, 11, 12] (by decide +kernel) (by decide +kernel)) (goodIn_sub (fun _ h => List.mem_cons_of_mem _ (List.mem_append_left _ (List.mem_append_left _ (List.mem_append_right _ h)))) (by decide +kernel))
set_option maxRecDepth 20000 in
theorem gX7_contains_X7_checkVersion : GoodIn wsX7_contains (va_wsS RX7 119 yX7_checkVersion wsX7_checkVersion) := goodIn_app (goodIn_of _ (by decide +kernel)) ggX7_contains_X7_checkVersion
theorem yY_X7_checkVersion : jY yX7_checkVersion wsX7_checkVersion cX7_checkVersion 1 none 1 := ⟨⟨_, rfl⟩, by decide +kernel, by decide +kernel, by decide +kernel⟩
theorem dX7_contains_8 : decode cX7_contains 8 = .ok (.aload_n 0, 1) := by decide +kernel
theorem dX7_contains_9 : decode cX7_contains 9 = .ok (.iload_n 1, 1) := by decide +kernel
theorem dX7_contains_10 : decode cX7_contains 10 = .ok (.invokevirtual 138, 3) := by decide +kernel
set_option maxRecDepth 20000 in
theorem ggX7_contains_X7_rangeOf : GoodIn wsX7_contains wsX7_rangeOf := goodIn_ca (goodIn_ca (goodIn_r _ [16, 17, 18, 19, 1, 2, 3, 4, 5, 6, 20, 21, 22, 23, 24, 25, 57, 58, 59, 60, 61, 62, 63, 64, 65, 66, 67, 68, 69] (by decide +kernel) (by decide +kernel)) (goodIn_sub (fun _ h => List.mem_cons_of_mem _ (List.mem_append_left _ (List.mem_append_right _ h))) (by decide +kernel))) (goodIn_sub (fun _ h => List.mem_cons_of_mem _ (List.mem_append_left _ (List.mem_append_left _ (List.mem_append_left _ (List.mem_append_right _ h))))) (by decide +kernel))
set_option maxRecDepth 20000 in
theorem gX7_contains_X7_rangeOf : GoodIn wsX7_contains (wsV RX7 138 RX7 yX7_rangeOf wsX7_rangeOf) := goodIn_app (goodIn_of _ (by decide +kernel)) ggX7_contains_X7_rangeOf
theorem dX7_contains_13 : decode cX7_contains 13 = .ok (.iload_n 3, 1) := by decide +kernel
theorem dX7_contains_14 : decode cX7_contains 14 = .ok (.iload_n 2, 1) := by decide +kernel
theorem dX7_contains_15 : decode cX7_contains 15 = .ok (.invokevirtual 156, 3) := by decide +kernel
set_option maxRecDepth 20000 in
theorem ggX7_contains_X3_holdsFor : GoodIn wsX7_contains wsX3_holdsFor := goodIn_ca (goodIn_r _ [30, 31, 32, 33, 29, 34, 35, 36, 37, 38, 39, 40, 41, 42, 43, 44, 45, 46, 47, 48, 3, 49, 50, 51, 52, 53, 54, 55, 56, 70] (by decide +kernel) (by decide +kernel)) (goodIn_sub (fun _ h => List.mem_cons_of_mem _ (List.mem_append_right _ h)) (by decide +kernel))
set_option maxRecDepth 20000 in
theorem gX7_contains_X3_holdsFor : GoodIn wsX7_contains (wsV RX7 156 RX3 yX3_holdsFor wsX3_holdsFor) := goodIn_app (goodIn_of _ (by decide +kernel)) ggX7_contains_X3_holdsFor
theorem dX7_contains_18 : decode cX7_contains 18 = .ok (.ireturn, 1) := by decide +kernel
set_option maxHeartbeats 400000 in
set_option maxRecDepth 20000 in
theorem ct_X7_contains (l : Launch) (D : va_G) (dA : Nat → ClassId) (hst : l.stackTraces = false) (M : jM) (v : Nat) (A : cA) (hA : jAb M v A) (x y : Int32) (b : Bool) : jCT l D dA yX7_contains wsX7_contains (26) (660) (6) (40) 1 [.ref (v), .int (x), .int (y), .int (jb (b))] M (jPo (oSl x (oVe y (oRn A x (fun w => oI (jb (rHoldsFor w.2 w.1 b y)))))) (M)) := by
  refine jBody (cc := cX7_contains) (nL := 4) (rt := (some .boolean)) (ini := false) (by decide) rfl hst (Nat.le_of_ble_eq_true rfl) (by simp [Value.category]) (by intro h9; first | exact absurd h9 (by decide) | rfl) ?_
  show J l D dA RX7 cX7_contains wsX7_contains 4 false (some .boolean) [] (26) (660) (jF D dA (jn M) (jPo (oSl x (oVe y (oRn A x (fun w => oI (jb (rHoldsFor w.2 w.1 b y)))))) (M)) 1) (jn M) (6) (40) (M) 0 [.ref (v), .int (x), .int (y), .int (jb (b))] []
  obtain ⟨g1, g2, g3, g4, g5, g6, g7, g9⟩ := id hA
  obtain ⟨a1, a2, a3, a4, a5, a6, a7, a8, a9, a10, a11, a12, a13⟩ := id g3
  have lt := Nat.le_trans (Nat.add_le_add_left (show 36 ≤ 52 by decide) _) g1.1
  refine J_iload_n dX7_contains_0 rfl rfl ?_
  rcases Bool.eq_false_or_eq_true (okSlot ((x))) with ok1 | ok1
  · refine J_callvB (jrunS (As := [.int (x)]) (ct_X7_checkSlot l D dA hst M ((x))) dX7_contains_1 yY_X7_checkSlot gX7_contains_X7_checkSlot rfl ⟨by omega, by omega⟩ ⟨by omega, by omega⟩ rfl (Nat.le_of_ble_eq_true rfl)) (if_pos ok1) (rfl) ⟨by omega, by omega⟩ ?_
    refine J_iload_n dX7_contains_4 rfl rfl ?_
    rcases Bool.eq_false_or_eq_true (okVer ((y))) with ok5 | ok5
    · refine J_callvB (jrunS (As := [.int (y)]) (ct_X7_checkVersion l D dA hst M ((y))) dX7_contains_5 yY_X7_checkVersion gX7_contains_X7_checkVersion rfl ⟨by omega, by omega⟩ ⟨by omega, by omega⟩ rfl (Nat.le_of_ble_eq_true rfl)) (if_pos ok5) (rfl) ⟨by omega, by omega⟩ ?_
      refine J_aload_n (v) dX7_contains_8 rfl rfl ?_
      refine J_iload_n dX7_contains_9 rfl rfl ?_
      rcases hs10 : stRange M (v + 2) ((x)) with _ | t10
      · have hj10 := (jVa_cAt g5 ((x))).1
        rw [hs10] at hj10
        have hw10 := hj10.none
        refine J_callqX (jrunV (As := [.int (x)]) (ct_X7_rangeOf l D dA hst M v A hA ((x))) dX7_contains_10 yY_X7_rangeOf gX7_contains_X7_rangeOf rfl cs10 (show v < jn M from by have := lt; omega) g1.2.1 rfl ⟨by omega, by omega⟩ ⟨by omega, by omega⟩ rfl (Nat.le_of_ble_eq_true rfl)) ((by unfold oRg; rw [if_pos ok1, hs10])) ⟨by omega, by omega⟩ (Or.inl rfl) ?_
        exact JX_out rfl ⟨(by first | (rw [oSl_t ok1, oVe_t ok5, oRn_n hw10]; done) | (rw [oSl_t ok1, oVe_t ok5, oRn_n hw10]; rw [rHoldsFor_congr hi10]; first | done | rfl) | (rw [oSl_t ok1, oVe_t ok5, oRn_n hw10]; with_reducible rfl) | (rw [oSl_t ok1, oVe_t ok5, oRn_n hw10]; rfl) | fail "leaf"), (by rfl)⟩
      · have hj10 := jVa_cAt g5 ((x))
        rw [hs10] at hj10
        obtain ⟨⟨w10, hw10, hg10, hi10⟩, hl10⟩ := And.imp_left jVa.some hj10
        have h16_10 := hl10 w10 hw10
        refine J_callqB (jrunV (As := [.int (x)]) (ct_X7_rangeOf l D dA hst M v A hA ((x))) dX7_contains_10 yY_X7_rangeOf gX7_contains_X7_rangeOf rfl cs10 (show v < jn M from by have := lt; omega) g1.2.1 rfl ⟨by omega, by omega⟩ ⟨by omega, by omega⟩ rfl (Nat.le_of_ble_eq_true rfl)) ((by unfold oRg; rw [if_pos ok1, hs10])) (rfl) ⟨by omega, by omega⟩ ?_
        refine J_iload_n dX7_contains_13 rfl rfl ?_
        refine J_iload_n dX7_contains_14 rfl rfl ?_
        refine J_calli0 (jrunV (As := [.int (jb (b)), .int (y)]) (ct_X3_holdsFor l D dA hst M t10 w10.1 hg10 (b) ((y))) dX7_contains_15 yY_X3_holdsFor gX7_contains_X3_holdsFor rfl cs7 (Nat.lt_of_succ_lt hg10.1) hg10.2.1 rfl ⟨by omega, by omega⟩ ⟨Nat.zero_le _, Nat.zero_le _⟩ rfl (Nat.le_of_ble_eq_true rfl)) (rfl) (rfl) ?_
        exact J_iret (ty := .boolean) dX7_contains_18 rfl (jb_n _) ⟨(by first | (rw [oSl_t ok1, oVe_t ok5, oRn_s hw10]; done) | (rw [oSl_t ok1, oVe_t ok5, oRn_s hw10]; rw [rHoldsFor_congr hi10]; first | done | rfl) | (rw [oSl_t ok1, oVe_t ok5, oRn_s hw10]; with_reducible rfl) | (rw [oSl_t ok1, oVe_t ok5, oRn_s hw10]; rfl) | fail "leaf"), (by rfl)⟩
    · refine J_callvX (jrunS (As := [.int (y)]) (ct_X7_checkVersion l D dA hst M ((y))) dX7_contains_5 yY_X7_checkVersion gX7_contains_X7_checkVersion rfl ⟨by omega, by omega⟩ ⟨by omega, by omega⟩ rfl (Nat.le_of_ble_eq_true rfl)) (if_neg (by rw [ok5]; decide)) ⟨by omega, by omega⟩ (Or.inl rfl) ?_
      exact JX_out rfl ⟨(by first | (rw [oSl_t ok1, oVe_f ok5]; done) | (rw [oSl_t ok1, oVe_f ok5]; rw [rHoldsFor_congr hi10]; first | done | rfl) | (rw [oSl_t ok1, oVe_f ok5]; with_reducible rfl) | (rw [oSl_t ok1, oVe_f ok5]; rfl) | fail "leaf"), (by rfl)⟩
  · refine J_callvX (jrunS (As := [.int (x)]) (ct_X7_checkSlot l D dA hst M ((x))) dX7_contains_1 yY_X7_checkSlot gX7_contains_X7_checkSlot rfl ⟨by omega, by omega⟩ ⟨by omega, by omega⟩ rfl (Nat.le_of_ble_eq_true rfl)) (if_neg (by rw [ok1]; decide)) ⟨by omega, by omega⟩ (Or.inl rfl) ?_
    exact JX_out rfl ⟨(by first | (rw [oSl_f ok1]; done) | (rw [oSl_f ok1]; rw [rHoldsFor_congr hi10]; first | done | rfl) | (rw [oSl_f ok1]; with_reducible rfl) | (rw [oSl_f ok1]; rfl) | fail "leaf"), (by rfl)⟩

theorem dX7_from_0 : decode cX7_from 0 = .ok (.iload_n 1, 1) := by decide +kernel
theorem dX7_from_1 : decode cX7_from 1 = .ok (.invokestatic 62, 3) := by decide +kernel
set_option maxRecDepth 20000 in
theorem ggX7_from_X7_checkSlot : GoodIn wsX7_from wsX7_checkSlot := goodIn_ca (goodIn_r _ [6, 7, 8] (by decide +kernel) (by decide +kernel)) (goodIn_sub (fun _ h => List.mem_cons_of_mem _ (List.mem_append_left _ (List.mem_append_left _ (List.mem_append_right _ h)))) (by decide +kernel))
set_option maxRecDepth 20000 in
theorem gX7_from_X7_checkSlot : GoodIn wsX7_from (va_wsS RX7 62 yX7_checkSlot wsX7_checkSlot) := goodIn_app (goodIn_of _ (by decide +kernel)) ggX7_from_X7_checkSlot
theorem dX7_from_4 : decode cX7_from 4 = .ok (.iload_n 2, 1) := by decide +kernel
theorem dX7_from_5 : decode cX7_from 5 = .ok (.invokestatic 119, 3) := by decide +kernel
set_option maxRecDepth 20000 in
theorem ggX7_from_X7_checkVersion : GoodIn wsX7_from wsX7_checkVersion := goodIn_ca (goodIn_r _ [11, 12, 13, 14] (by decide +kernel) (by decide +kernel)) (goodIn_sub (fun _ h => List.mem_cons_of_mem _ (List.mem_append_left _ (List.mem_append_right _ h))) (by decide +kernel))
set_option maxRecDepth 20000 in
theorem gX7_from_X7_checkVersion : GoodIn wsX7_from (va_wsS RX7 119 yX7_checkVersion wsX7_checkVersion) := goodIn_app (goodIn_of _ (by decide +kernel)) ggX7_from_X7_checkVersion
theorem dX7_from_8 : decode cX7_from 8 = .ok (.aload_n 0, 1) := by decide +kernel
theorem dX7_from_9 : decode cX7_from 9 = .ok (.iload_n 1, 1) := by decide +kernel
theorem dX7_from_10 : decode cX7_from 10 = .ok (.invokevirtual 138, 3) := by decide +kernel
set_option maxRecDepth 20000 in
theorem ggX7_from_X7_rangeOf : GoodIn wsX7_from wsX7_rangeOf := goodIn_ca (goodIn_ca (goodIn_r _ [18, 1, 2, 19, 3, 4, 5, 6, 7, 8, 20, 21, 22, 23, 24, 25, 48, 49, 50, 51, 52, 53, 54, 55, 56, 57, 58, 59, 60] (by decide +kernel) (by decide +kernel)) (goodIn_sub (fun _ h => List.mem_cons_of_mem _ (List.mem_append_left _ (List.mem_append_left _ (List.mem_append_left _ (List.mem_append_right _ h))))) (by decide +kernel))) (goodIn_sub (fun _ h => List.mem_cons_of_mem _ (List.mem_append_left _ (List.mem_append_left _ (List.mem_append_right _ h)))) (by decide +kernel))
set_option maxRecDepth 20000 in
theorem gX7_from_X7_rangeOf : GoodIn wsX7_from (wsV RX7 138 RX7 yX7_rangeOf wsX7_rangeOf) := goodIn_app (goodIn_of _ (by decide +kernel)) ggX7_from_X7_rangeOf
theorem dX7_from_13 : decode cX7_from 13 = .ok (.iload_n 2, 1) := by decide +kernel
theorem dX7_from_14 : decode cX7_from 14 = .ok (.invokevirtual 160, 3) := by decide +kernel
set_option maxRecDepth 20000 in
theorem ggX7_from_X3_leastFrom : GoodIn wsX7_from wsX3_leastFrom := goodIn_ca (goodIn_r _ [30, 31, 32, 33, 34, 35, 36, 37, 29, 38, 39, 40, 41, 42, 43, 44, 45, 46, 47, 61] (by decide +kernel) (by decide +kernel)) (goodIn_sub (fun _ h => List.mem_cons_of_mem _ (List.mem_append_right _ h)) (by decide +kernel))
set_option maxRecDepth 20000 in
theorem gX7_from_X3_leastFrom : GoodIn wsX7_from (wsV RX7 160 RX3 yX3_leastFrom wsX3_leastFrom) := goodIn_app (goodIn_of _ (by decide +kernel)) ggX7_from_X3_leastFrom
theorem yY_X3_leastFrom : jY yX3_leastFrom wsX3_leastFrom cX3_leastFrom 3 (some .int) 1 := ⟨⟨_, rfl⟩, by decide +kernel, by decide +kernel, by decide +kernel⟩
theorem dX7_from_17 : decode cX7_from 17 = .ok (.istore_n 3, 1) := by decide +kernel
theorem dX7_from_18 : decode cX7_from 18 = .ok (.iload_n 3, 1) := by decide +kernel
theorem dX7_from_19 : decode cX7_from 19 = .ok (.iconst (-1), 1) := by decide +kernel
theorem dX7_from_20 : decode cX7_from 20 = .ok (.if_icmp .ne 13, 3) := by decide +kernel
theorem dX7_from_33 : decode cX7_from 33 = .ok (.iload_n 3, 1) := by decide +kernel
theorem dX7_from_34 : decode cX7_from 34 = .ok (.ireturn, 1) := by decide +kernel
theorem dX7_from_23 : decode cX7_from 23 = .ok (.new 141, 3) := by decide +kernel
theorem thr_RX7_145_163_s : (RX7, 163, "the range has no version from there on") ∈ jStrs := List.mem_of_getElem? (i := 8) rfl
theorem dX7_from_26 : decode cX7_from 26 = .ok (.dup, 1) := by decide +kernel
theorem dX7_from_27 : decode cX7_from 27 = .ok (.ldc 163, 2) := by decide +kernel
theorem dX7_from_29 : decode cX7_from 29 = .ok (.invokespecial 145, 3) := by decide +kernel
theorem dX7_from_32 : decode cX7_from 32 = .ok (.athrow, 1) := by decide +kernel
set_option maxHeartbeats 400000 in
set_option maxRecDepth 20000 in
theorem ct_X7_from (l : Launch) (D : va_G) (dA : Nat → ClassId) (hst : l.stackTraces = false) (M : jM) (v : Nat) (A : cA) (hA : jAb M v A) (x y : Int32) : jCT l D dA yX7_from wsX7_from (26) (660) (6) (40) 1 [.ref (v), .int (x), .int (y)] M (jPo (oSl x (oVe y (oRn A x (fun w => if rLeast w.2 w.1 y = -1 then oX xNSE else oI (rLeast w.2 w.1 y))))) (M)) := by
  refine jBody (cc := cX7_from) (nL := 4) (rt := (some .int)) (ini := false) (by decide) rfl hst (Nat.le_of_ble_eq_true rfl) (by simp [Value.category]) (by intro h9; first | exact absurd h9 (by decide) | rfl) ?_
  show J l D dA RX7 cX7_from wsX7_from 4 false (some .int) [] (26) (660) (jF D dA (jn M) (jPo (oSl x (oVe y (oRn A x (fun w => if rLeast w.2 w.1 y = -1 then oX xNSE else oI (rLeast w.2 w.1 y))))) (M)) 1) (jn M) (6) (40) (M) 0 [.ref (v), .int (x), .int (y), .float 0] []
  obtain ⟨g1, g2, g3, g4, g5, g6, g7, g9⟩ := id hA
  obtain ⟨a1, a2, a3, a4, a5, a6, a7, a8, a9, a10, a11, a12, a13⟩ := id g3
  have lt := Nat.le_trans (Nat.add_le_add_left (show 36 ≤ 52 by decide) _) g1.1
  refine J_iload_n dX7_from_0 rfl rfl ?_
  rcases Bool.eq_false_or_eq_true (okSlot ((x))) with ok1 | ok1
  · refine J_callvB (jrunS (As := [.int (x)]) (ct_X7_checkSlot l D dA hst M ((x))) dX7_from_1 yY_X7_checkSlot gX7_from_X7_checkSlot rfl ⟨by omega, by omega⟩ ⟨by omega, by omega⟩ rfl (Nat.le_of_ble_eq_true rfl)) (if_pos ok1) (rfl) ⟨by omega, by omega⟩ ?_
    refine J_iload_n dX7_from_4 rfl rfl ?_
    rcases Bool.eq_false_or_eq_true (okVer ((y))) with ok5 | ok5
    · refine J_callvB (jrunS (As := [.int (y)]) (ct_X7_checkVersion l D dA hst M ((y))) dX7_from_5 yY_X7_checkVersion gX7_from_X7_checkVersion rfl ⟨by omega, by omega⟩ ⟨by omega, by omega⟩ rfl (Nat.le_of_ble_eq_true rfl)) (if_pos ok5) (rfl) ⟨by omega, by omega⟩ ?_
      refine J_aload_n (v) dX7_from_8 rfl rfl ?_
      refine J_iload_n dX7_from_9 rfl rfl ?_
      rcases hs10 : stRange M (v + 2) ((x)) with _ | t10
      · have hj10 := (jVa_cAt g5 ((x))).1
        rw [hs10] at hj10
        have hw10 := hj10.none
        refine J_callqX (jrunV (As := [.int (x)]) (ct_X7_rangeOf l D dA hst M v A hA ((x))) dX7_from_10 yY_X7_rangeOf gX7_from_X7_rangeOf rfl cs10 (show v < jn M from by have := lt; omega) g1.2.1 rfl ⟨by omega, by omega⟩ ⟨by omega, by omega⟩ rfl (Nat.le_of_ble_eq_true rfl)) ((by unfold oRg; rw [if_pos ok1, hs10])) ⟨by omega, by omega⟩ (Or.inl rfl) ?_
        exact JX_out rfl ⟨(by first | (rw [oSl_t ok1, oVe_t ok5, oRn_n hw10]; done) | (rw [oSl_t ok1, oVe_t ok5, oRn_n hw10]; rw [rLeast_congr hi10] at c20; rw [if_pos c20]; first | done | rfl) | (rw [oSl_t ok1, oVe_t ok5, oRn_n hw10]; rw [rLeast_congr hi10] at c20; rw [rLeast_congr hi10, if_neg c20]; first | done | rfl) | (rw [oSl_t ok1, oVe_t ok5, oRn_n hw10]; with_reducible rfl) | (rw [oSl_t ok1, oVe_t ok5, oRn_n hw10]; rfl) | fail "leaf"), (by rfl)⟩
      · have hj10 := jVa_cAt g5 ((x))
        rw [hs10] at hj10
        obtain ⟨⟨w10, hw10, hg10, hi10⟩, hl10⟩ := And.imp_left jVa.some hj10
        have h16_10 := hl10 w10 hw10
        refine J_callqB (jrunV (As := [.int (x)]) (ct_X7_rangeOf l D dA hst M v A hA ((x))) dX7_from_10 yY_X7_rangeOf gX7_from_X7_rangeOf rfl cs10 (show v < jn M from by have := lt; omega) g1.2.1 rfl ⟨by omega, by omega⟩ ⟨by omega, by omega⟩ rfl (Nat.le_of_ble_eq_true rfl)) ((by unfold oRg; rw [if_pos ok1, hs10])) (rfl) ⟨by omega, by omega⟩ ?_
        refine J_iload_n dX7_from_13 rfl rfl ?_
        refine J_calli0 (jrunV (As := [.int (y)]) (ct_X3_leastFrom l D dA hst M t10 w10.1 hg10 ((y))) dX7_from_14 yY_X3_leastFrom gX7_from_X3_leastFrom rfl cs7 (Nat.lt_of_succ_lt hg10.1) hg10.2.1 rfl ⟨by omega, by omega⟩ ⟨Nat.zero_le _, Nat.zero_le _⟩ rfl (Nat.le_of_ble_eq_true rfl)) (rfl) (rfl) ?_
        refine J_istore_n (lv' := [.ref (v), .int (x), .int (y), .int (rLeast (ji M (t10 + 1)) w10.1 ((y)))]) dX7_from_17 rfl (by decide) rfl rfl ?_
        refine J_iload_n dX7_from_18 rfl rfl ?_
        refine J_iconst (x := (-1)) dX7_from_19 (by decide) ?_
        refine J_icmp_ne dX7_from_20 (tgt := 33) (by decide) (fun c20 => ?_) (fun c20 => ?_)
        · refine J_iload_n dX7_from_33 rfl rfl ?_
          exact J_iret (ty := .int) dX7_from_34 rfl (rfl) ⟨(by first | (rw [oSl_t ok1, oVe_t ok5, oRn_s hw10]; done) | (rw [oSl_t ok1, oVe_t ok5, oRn_s hw10]; rw [rLeast_congr hi10] at c20; rw [if_pos c20]; first | done | rfl) | (rw [oSl_t ok1, oVe_t ok5, oRn_s hw10]; rw [rLeast_congr hi10] at c20; rw [rLeast_congr hi10, if_neg c20]; first | done | rfl) | (rw [oSl_t ok1, oVe_t ok5, oRn_s hw10]; with_reducible rfl) | (rw [oSl_t ok1, oVe_t ok5, oRn_s hw10]; rfl) | fail "leaf"), (by rfl)⟩
        · exact J_throwS (E := "java/util/NoSuchElementException") (text := "the range has no version from there on") (names := ["java/lang/RuntimeException", "java/lang/Exception"]) (by decide) (by decide) dX7_from_23 dX7_from_26 dX7_from_27 dX7_from_29 dX7_from_32 (List.mem_of_getElem? (i := 1) rfl) (List.mem_of_getElem? (i := 2) rfl) thr_RX7_145_163_s (fun _ h => List.mem_cons_of_mem _ (List.mem_append_left _ (List.mem_append_left _ (List.mem_append_left _ (List.mem_append_right _ (h)))))) thr_RX7_145 thr_RX7_145_g rfl (Nat.le_of_ble_eq_true rfl) (by first | decide | (simp only [List.length_cons, List.length_nil]; omega)) (by first | decide | (simp only [List.length_cons, List.length_nil]; omega)) (by omega) (by omega) ⟨(by first | (rw [oSl_t ok1, oVe_t ok5, oRn_s hw10]; done) | (rw [oSl_t ok1, oVe_t ok5, oRn_s hw10]; rw [rLeast_congr hi10] at c20; rw [if_pos c20]; first | done | rfl) | (rw [oSl_t ok1, oVe_t ok5, oRn_s hw10]; rw [rLeast_congr hi10] at c20; rw [rLeast_congr hi10, if_neg c20]; first | done | rfl) | (rw [oSl_t ok1, oVe_t ok5, oRn_s hw10]; with_reducible rfl) | (rw [oSl_t ok1, oVe_t ok5, oRn_s hw10]; rfl) | fail "leaf"), (by rfl)⟩
    · refine J_callvX (jrunS (As := [.int (y)]) (ct_X7_checkVersion l D dA hst M ((y))) dX7_from_5 yY_X7_checkVersion gX7_from_X7_checkVersion rfl ⟨by omega, by omega⟩ ⟨by omega, by omega⟩ rfl (Nat.le_of_ble_eq_true rfl)) (if_neg (by rw [ok5]; decide)) ⟨by omega, by omega⟩ (Or.inl rfl) ?_
      exact JX_out rfl ⟨(by first | (rw [oSl_t ok1, oVe_f ok5]; done) | (rw [oSl_t ok1, oVe_f ok5]; rw [rLeast_congr hi10] at c20; rw [if_pos c20]; first | done | rfl) | (rw [oSl_t ok1, oVe_f ok5]; rw [rLeast_congr hi10] at c20; rw [rLeast_congr hi10, if_neg c20]; first | done | rfl) | (rw [oSl_t ok1, oVe_f ok5]; with_reducible rfl) | (rw [oSl_t ok1, oVe_f ok5]; rfl) | fail "leaf"), (by rfl)⟩
  · refine J_callvX (jrunS (As := [.int (x)]) (ct_X7_checkSlot l D dA hst M ((x))) dX7_from_1 yY_X7_checkSlot gX7_from_X7_checkSlot rfl ⟨by omega, by omega⟩ ⟨by omega, by omega⟩ rfl (Nat.le_of_ble_eq_true rfl)) (if_neg (by rw [ok1]; decide)) ⟨by omega, by omega⟩ (Or.inl rfl) ?_
    exact JX_out rfl ⟨(by first | (rw [oSl_f ok1]; done) | (rw [oSl_f ok1]; rw [rLeast_congr hi10] at c20; rw [if_pos c20]; first | done | rfl) | (rw [oSl_f ok1]; rw [rLeast_congr hi10] at c20; rw [rLeast_congr hi10, if_neg c20]; first | done | rfl) | (rw [oSl_f ok1]; with_reducible rfl) | (rw [oSl_f ok1]; rfl) | fail "leaf"), (by rfl)⟩

