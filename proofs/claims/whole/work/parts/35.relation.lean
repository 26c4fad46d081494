def sRn (A : cA) (x : Int32) (f : rVl → cR) : cR := match cAt (cNw A) x with
  | none => (oX xNSE, A)
  | some w => f w
theorem sRn_n {A : cA} {x : Int32} {f : rVl → cR} (h : cAt (cNw A) x = none) : sRn A x f = (oX xNSE, A) := by unfold sRn; rw [h]
theorem sRn_s {A : cA} {x : Int32} {f : rVl → cR} {w : rVl} (h : cAt (cNw A) x = some w) : sRn A x f = f w := by unfold sRn; rw [h]
def relV (a b : rVl) : Int32 := (bif decide ((vComb 1 a b).1 = 0) then 1 else 0) + (bif decide ((vComb 2 a b).1 = 0) then 2 else 0) + (bif decide ((vComb 2 b a).1 = 0) then 4 else 0)
def sRel (A : cA) (x y : Int32) : cR := sSl x A (sSl y A (sRn A x (fun a => sRn A y (fun b => (oI (relV a b), A)))))
def okOp (op : Int32) : Bool := decide (op = 0) || decide (op = 1) || decide (op = 2)
def agE (F : Int32 → Bool) (w : rVl) : Bool := jall (fun k => cRound F (rFirst w.2 w.1 k) && cRound F (rLast w.2 w.1 k)) w.1
def agP (F : Int32 → Bool) (z : cSt) : Bool := jall (fun k => F (z.2.2 k)) z.2.1
def agV (z : cSt) (op : Int32) (a b c : rVl) : Bool := agE (cF op a b c) a && (agE (cF op a b c) b && (agE (cF op a b c) c && agP (cF op a b c) z))
def sAgr (A : cA) (x y z op : Int32) : cR := sSl x A (sSl y A (sSl z A (if okOp op then sRn A x (fun a => sRn A y (fun b => sRn A z (fun c => (oI (jb (agV (cNw A) op a b c)), A)))) else (oX xIAE, A))))
theorem agE_eq {M : jM} {t : Nat} {F : Int32 → Bool} {w : rVl} (h : ∀ j, j < 2 * w.1 → ji M (t + 1) j = w.2 j) : jall (fun k => cRound F (rFirst (ji M (t + 1)) w.1 k) && cRound F (rLast (ji M (t + 1)) w.1 k)) w.1 = agE F w :=
  jall_congr _ (fun j _ => by rw [rFirst_congr h, rLast_congr h])
theorem agP_eq {M : jM} {s : Nat} {F : Int32 → Bool} {z : cSt} (h : jSt M s z) : jall (fun k => F (stAt (ji M (s + 2)) z.2.1 k)) z.2.1 = agP F z :=
  jall_congr _ (fun j hj => by unfold stAt; rw [if_pos hj, h.2.2 j hj])
theorem dX7_relation_0 : decode cX7_relation 0 = .ok (.iload_n 1, 1) := by decide +kernel
theorem dX7_relation_1 : decode cX7_relation 1 = .ok (.invokestatic 62, 3) := by decide +kernel
set_option maxRecDepth 20000 in
theorem ggX7_relation_X7_checkSlot : GoodIn wsX7_relation wsX7_checkSlot := goodIn_ca (goodIn_r _ [4, 5, 6] (by decide +kernel) (by decide +kernel)) (goodIn_sub (fun _ h => List.mem_cons_of_mem _ (List.mem_append_left _ (List.mem_append_left _ (List.mem_append_right _ h)))) (by decide +kernel))
set_option maxRecDepth 20000 in
theorem gX7_relation_X7_checkSlot : GoodIn wsX7_relation (va_wsS RX7 62 yX7_checkSlot wsX7_checkSlot) := goodIn_app (goodIn_of _ (by decide +kernel)) ggX7_relation_X7_checkSlot
theorem dX7_relation_4 : decode cX7_relation 4 = .ok (.iload_n 2, 1) := by decide +kernel
theorem dX7_relation_5 : decode cX7_relation 5 = .ok (.invokestatic 62, 3) := by decide +kernel
theorem dX7_relation_8 : decode cX7_relation 8 = .ok (.aload_n 0, 1) := by decide +kernel
theorem dX7_relation_9 : decode cX7_relation 9 = .ok (.iload_n 1, 1) := by decide +kernel
theorem dX7_relation_10 : decode cX7_relation 10 = .ok (.invokevirtual 138, 3) := by decide +kernel
set_option maxRecDepth 20000 in
theorem ggX7_relation_X7_rangeOf : GoodIn wsX7_relation wsX7_rangeOf := goodIn_ca (goodIn_ca (goodIn_r _ [10, 11, 12, 13, 1, 2, 3, 4, 5, 6, 14, 15, 16, 17, 18, 19, 85, 86, 87, 88, 89, 90, 91, 92, 93, 94, 95, 96, 97] (by decide +kernel) (by decide +kernel)) (goodIn_sub (fun _ h => List.mem_cons_of_mem _ (List.mem_append_left _ (List.mem_append_right _ h))) (by decide +kernel))) (goodIn_sub (fun _ h => List.mem_cons_of_mem _ (List.mem_append_left _ (List.mem_append_left _ (List.mem_append_right _ h)))) (by decide +kernel))
set_option maxRecDepth 20000 in
theorem gX7_relation_X7_rangeOf : GoodIn wsX7_relation (wsV RX7 138 RX7 yX7_rangeOf wsX7_rangeOf) := goodIn_app (goodIn_of _ (by decide +kernel)) ggX7_relation_X7_rangeOf
theorem dX7_relation_13 : decode cX7_relation 13 = .ok (.astore_n 3, 1) := by decide +kernel
theorem dX7_relation_14 : decode cX7_relation 14 = .ok (.aload_n 0, 1) := by decide +kernel
theorem dX7_relation_15 : decode cX7_relation 15 = .ok (.iload_n 2, 1) := by decide +kernel
theorem dX7_relation_16 : decode cX7_relation 16 = .ok (.invokevirtual 138, 3) := by decide +kernel
theorem dX7_relation_19 : decode cX7_relation 19 = .ok (.astore 4, 2) := by decide +kernel
theorem dX7_relation_21 : decode cX7_relation 21 = .ok (.iconst 1, 1) := by decide +kernel
theorem dX7_relation_22 : decode cX7_relation 22 = .ok (.aload_n 3, 1) := by decide +kernel
theorem dX7_relation_23 : decode cX7_relation 23 = .ok (.aload 4, 2) := by decide +kernel
theorem dX7_relation_25 : decode cX7_relation 25 = .ok (.invokestatic 165, 3) := by decide +kernel
set_option maxRecDepth 20000 in
theorem ggX7_relation_X3_combined : GoodIn wsX7_relation wsX3_combined := goodIn_ca (goodIn_r _ [23, 24, 25, 26, 27, 28, 29, 30, 31, 22, 32, 33, 34, 35, 36, 37, 38, 39, 40, 41, 42, 43, 44, 45, 46, 47, 48, 49, 50, 51, 52, 53, 54, 55, 56, 57, 58, 3, 59, 60, 61, 62, 63, 64, 65, 66, 67, 68, 69, 70, 71, 72, 73, 74, 75, 76, 77, 78, 79, 80, 98] (by decide +kernel) (by decide +kernel)) (goodIn_sub (fun _ h => List.mem_cons_of_mem _ (List.mem_append_right _ h)) (by decide +kernel))
set_option maxRecDepth 20000 in
theorem gX7_relation_X3_combined : GoodIn wsX7_relation (va_wsS RX7 165 yX3_combined wsX3_combined) := goodIn_app (goodIn_of _ (by decide +kernel)) ggX7_relation_X3_combined
theorem dX7_relation_28 : decode cX7_relation 28 = .ok (.invokevirtual 169, 3) := by decide +kernel
set_option maxRecDepth 20000 in
theorem ggX7_relation_X3_isEmpty : GoodIn wsX7_relation wsX3_isEmpty := goodIn_r _ [84, 36, 98] (by decide +kernel) (by decide +kernel)
set_option maxRecDepth 20000 in
theorem gX7_relation_X3_isEmpty : GoodIn wsX7_relation (wsV RX7 169 RX3 yX3_isEmpty wsX3_isEmpty) := goodIn_app (goodIn_of _ (by decide +kernel)) ggX7_relation_X3_isEmpty
theorem dX7_relation_31 : decode cX7_relation 31 = .ok (.ifCond .eq 7, 3) := by decide +kernel
theorem dX7_relation_38 : decode cX7_relation 38 = .ok (.iconst 0, 1) := by decide +kernel
theorem dX7_relation_39 : decode cX7_relation 39 = .ok (.istore 5, 2) := by decide +kernel
theorem dX7_relation_41 : decode cX7_relation 41 = .ok (.iload 5, 2) := by decide +kernel
theorem dX7_relation_43 : decode cX7_relation 43 = .ok (.iconst 2, 1) := by decide +kernel
theorem dX7_relation_44 : decode cX7_relation 44 = .ok (.aload_n 3, 1) := by decide +kernel
theorem dX7_relation_45 : decode cX7_relation 45 = .ok (.aload 4, 2) := by decide +kernel
theorem dX7_relation_47 : decode cX7_relation 47 = .ok (.invokestatic 165, 3) := by decide +kernel
theorem dX7_relation_50 : decode cX7_relation 50 = .ok (.invokevirtual 169, 3) := by decide +kernel
theorem dX7_relation_53 : decode cX7_relation 53 = .ok (.ifCond .eq 7, 3) := by decide +kernel
theorem dX7_relation_60 : decode cX7_relation 60 = .ok (.iconst 0, 1) := by decide +kernel
theorem dX7_relation_61 : decode cX7_relation 61 = .ok (.iadd, 1) := by decide +kernel
theorem dX7_relation_62 : decode cX7_relation 62 = .ok (.istore 5, 2) := by decide +kernel
theorem dX7_relation_64 : decode cX7_relation 64 = .ok (.iload 5, 2) := by decide +kernel
theorem dX7_relation_66 : decode cX7_relation 66 = .ok (.iconst 2, 1) := by decide +kernel
theorem dX7_relation_67 : decode cX7_relation 67 = .ok (.aload 4, 2) := by decide +kernel
theorem dX7_relation_69 : decode cX7_relation 69 = .ok (.aload_n 3, 1) := by decide +kernel
theorem dX7_relation_70 : decode cX7_relation 70 = .ok (.invokestatic 165, 3) := by decide +kernel
theorem dX7_relation_73 : decode cX7_relation 73 = .ok (.invokevirtual 169, 3) := by decide +kernel
theorem dX7_relation_76 : decode cX7_relation 76 = .ok (.ifCond .eq 7, 3) := by decide +kernel
theorem dX7_relation_83 : decode cX7_relation 83 = .ok (.iconst 0, 1) := by decide +kernel
theorem dX7_relation_84 : decode cX7_relation 84 = .ok (.iadd, 1) := by decide +kernel
theorem dX7_relation_85 : decode cX7_relation 85 = .ok (.istore 5, 2) := by decide +kernel
theorem dX7_relation_87 : decode cX7_relation 87 = .ok (.iload 5, 2) := by decide +kernel
theorem dX7_relation_89 : decode cX7_relation 89 = .ok (.ireturn, 1) := by decide +kernel
theorem dX7_relation_79 : decode cX7_relation 79 = .ok (.iconst 4, 1) := by decide +kernel
theorem dX7_relation_80 : decode cX7_relation 80 = .ok (.goto 4, 3) := by decide +kernel
theorem dX7_relation_56 : decode cX7_relation 56 = .ok (.iconst 2, 1) := by decide +kernel
theorem dX7_relation_57 : decode cX7_relation 57 = .ok (.goto 4, 3) := by decide +kernel
theorem dX7_relation_34 : decode cX7_relation 34 = .ok (.iconst 1, 1) := by decide +kernel
theorem dX7_relation_35 : decode cX7_relation 35 = .ok (.goto 4, 3) := by decide +kernel
set_option maxHeartbeats 400000 in
set_option maxRecDepth 20000 in
theorem ct_X7_relation (l : Launch) (D : va_G) (dA : Nat → ClassId) (hst : l.stackTraces = false) (M : jM) (v : Nat) (A : cA) (hA : jAb M v A) (x y : Int32) : jCT l D dA yX7_relation wsX7_relation (26) (660) (20) (600) 1 [.ref (v), .int (x), .int (y)] M (jPr M v (sRel A x y)) := by
  refine jBody (cc := cX7_relation) (nL := 6) (rt := (some .int)) (ini := false) (by decide) rfl hst (Nat.le_of_ble_eq_true rfl) (by simp [Value.category]) (by intro h9; first | exact absurd h9 (by decide) | rfl) ?_
  show J l D dA RX7 cX7_relation wsX7_relation 6 false (some .int) [] (26) (660) (jF D dA (jn M) (jPr M v (sRel A x y)) 1) (jn M) (20) (600) (M) 0 [.ref (v), .int (x), .int (y), .float 0, .float 0, .float 0] []
  obtain ⟨g1, g2, g3, g4, g5, g6, g7, g9⟩ := id hA
  obtain ⟨gx, gH, g8⟩ := id g7
  obtain ⟨ga1, ga2, ga3, ga4, ga5, ga6, ga7, ga8, ga9, ga10, ga11, ga12, ga13⟩ := id g3
  have gc30 := g5.1.2.2.2.2.2.2.2.2.2
  refine J_iload_n dX7_relation_0 rfl rfl ?_
  rcases Bool.eq_false_or_eq_true (okSlot ((x))) with ok1 | ok1
  · refine J_callvB (jrunS (As := [.int (x)]) (ct_X7_checkSlot l D dA hst M ((x))) dX7_relation_1 yY_X7_checkSlot gX7_relation_X7_checkSlot rfl ⟨by omega, by omega⟩ ⟨by omega, by omega⟩ rfl (Nat.le_of_ble_eq_true rfl)) (if_pos ok1) (rfl) ⟨by omega, by omega⟩ ?_
    refine J_iload_n dX7_relation_4 rfl rfl ?_
    rcases Bool.eq_false_or_eq_true (okSlot ((y))) with ok5 | ok5
    · refine J_callvB (jrunS (As := [.int (y)]) (ct_X7_checkSlot l D dA hst M ((y))) dX7_relation_5 yY_X7_checkSlot gX7_relation_X7_checkSlot rfl ⟨by omega, by omega⟩ ⟨by omega, by omega⟩ rfl (Nat.le_of_ble_eq_true rfl)) (if_pos ok5) (rfl) ⟨by omega, by omega⟩ ?_
      refine J_aload_n (v) dX7_relation_8 rfl rfl ?_
      refine J_iload_n dX7_relation_9 rfl rfl ?_
      rcases hs10 : stRange M (v + 2) ((x)) with _ | t10
      · have hj10 := (jVa_cAt g5 ((x))).1
        rw [hs10] at hj10
        have hw10 := hj10.none
        refine J_callqX (jrunV (As := [.int (x)]) (ct_X7_rangeOf l D dA hst M v A hA ((x))) dX7_relation_10 yY_X7_rangeOf gX7_relation_X7_rangeOf rfl cs10 (show v < jn M from by have := g1.1; omega) g1.2.1 rfl ⟨by omega, by omega⟩ ⟨by omega, by omega⟩ rfl (Nat.le_of_ble_eq_true rfl)) ((by unfold oRg; rw [if_pos ok1, hs10])) ⟨by omega, by omega⟩ (Or.inl rfl) ?_
        exact JX_out rfl (by unfold sRel; rw [sSl_t ok1, sSl_t ok5, sRn_n hw10]; exact ⟨rfl, hA, jFv.rf⟩)
      · have hj10 := jVa_cAt g5 ((x))
        rw [hs10] at hj10
        obtain ⟨⟨w10, hw10, hg10, hi10⟩, hl10⟩ := And.imp_left jVa.some hj10
        have h16_10 := hl10 w10 hw10
        refine J_callqB (jrunV (As := [.int (x)]) (ct_X7_rangeOf l D dA hst M v A hA ((x))) dX7_relation_10 yY_X7_rangeOf gX7_relation_X7_rangeOf rfl cs10 (show v < jn M from by have := g1.1; omega) g1.2.1 rfl ⟨by omega, by omega⟩ ⟨by omega, by omega⟩ rfl (Nat.le_of_ble_eq_true rfl)) ((by unfold oRg; rw [if_pos ok1, hs10])) (rfl) ⟨by omega, by omega⟩ ?_
        refine J_astore_n (x := t10) (lv' := [.ref (v), .int (x), .int (y), .ref (t10), .float 0, .float 0]) dX7_relation_13 rfl (by decide) rfl rfl ?_
        refine J_aload_n (v) dX7_relation_14 rfl rfl ?_
        refine J_iload_n dX7_relation_15 rfl rfl ?_
        rcases hs16 : stRange M (v + 2) ((y)) with _ | t16
        · have hj16 := (jVa_cAt g5 ((y))).1
          rw [hs16] at hj16
          have hw16 := hj16.none
          refine J_callqX (jrunV (As := [.int (y)]) (ct_X7_rangeOf l D dA hst M v A hA ((y))) dX7_relation_16 yY_X7_rangeOf gX7_relation_X7_rangeOf rfl cs10 (show v < jn M from by have := g1.1; omega) g1.2.1 rfl ⟨by omega, by omega⟩ ⟨by omega, by omega⟩ rfl (Nat.le_of_ble_eq_true rfl)) ((by unfold oRg; rw [if_pos ok5, hs16])) ⟨by omega, by omega⟩ (Or.inl rfl) ?_
          exact JX_out rfl (by unfold sRel; rw [sSl_t ok1, sSl_t ok5, sRn_s hw10, sRn_n hw16]; exact ⟨rfl, hA, jFv.rf⟩)
        · have hj16 := jVa_cAt g5 ((y))
          rw [hs16] at hj16
          obtain ⟨⟨w16, hw16, hg16, hi16⟩, hl16⟩ := And.imp_left jVa.some hj16
          have h16_16 := hl16 w16 hw16
          refine J_callqB (jrunV (As := [.int (y)]) (ct_X7_rangeOf l D dA hst M v A hA ((y))) dX7_relation_16 yY_X7_rangeOf gX7_relation_X7_rangeOf rfl cs10 (show v < jn M from by have := g1.1; omega) g1.2.1 rfl ⟨by omega, by omega⟩ ⟨by omega, by omega⟩ rfl (Nat.le_of_ble_eq_true rfl)) ((by unfold oRg; rw [if_pos ok5, hs16])) (rfl) ⟨by omega, by omega⟩ ?_
          refine J_astore (x := t16) (lv' := [.ref (v), .int (x), .int (y), .ref (t10), .ref (t16), .float 0]) dX7_relation_19 (by decide) rfl rfl ?_
          refine J_iconst (x := 1) dX7_relation_21 (by decide) ?_
          refine J_aload_n (t10) dX7_relation_22 rfl rfl ?_
          refine J_aload (t16) dX7_relation_23 rfl ?_
          refine J_callq (jrunS (As := [.int (1), .ref (t10), .ref (t16)]) (ct_X3_combined l D dA hst M (g2) 1 t10 w10.1 hg10 t16 w16.1 hg16 (by omega)) dX7_relation_25 yY_X3_combined gX7_relation_X3_combined rfl ⟨by omega, by omega⟩ ⟨by omega, by omega⟩ rfl (Nat.le_of_ble_eq_true rfl)) ⟨by omega, by omega⟩ (Or.inr ⟨(jOk.ref (show v < jn M from by have := g1.1; omega) (jOk.int (jOk.int (jOk.ref (Nat.lt_of_succ_lt hg10.1) (jOk.ref (Nat.lt_of_succ_lt hg16.1) (jOk.float jOk.nil)))))), jOk.nil⟩) (fun E M9 hp _ => by obtain ⟨_, h1, _⟩ := hp; cases h1) (fun x9 M2 hp25 hle25 => ?_)
          obtain ⟨tc1, h25, hO1⟩ := hp25
          have hx9 := jR_inj h25
          subst hx9
          rw [rComb_congr hi10 hi16] at hO1
          have hE1 : jExt M M2 := (jExt.rf).tr hO1.1
          have hg10_1 := hg10.ext hE1
          have hi10_1 : ∀ j, j < 2 * w10.1 → ji M2 (t10 + 1) j = w10.2 j := fun j hj => by rw [hg10.ints hE1]; exact hi10 j hj
          have hg16_1 := hg16.ext hE1
          have hi16_1 : ∀ j, j < 2 * w16.1 → ji M2 (t16 + 1) j = w16.2 j := fun j hj => by rw [hg16.ints hE1]; exact hi16 j hj
          refine J_calli0 (jrunV (As := []) (ct_X3_isEmpty l D dA hst M2 tc1 (vComb 1 w10 w16).1 hO1.2.2.1) dX7_relation_28 yY_X3_isEmpty gX7_relation_X3_isEmpty rfl cs7 (Nat.lt_of_succ_lt hO1.2.2.1.1) hO1.2.2.1.2.1 rfl ⟨by omega, by omega⟩ ⟨Nat.zero_le _, Nat.zero_le _⟩ rfl (Nat.le_of_ble_eq_true rfl)) (rfl) (rfl) ?_
          refine J_if_eq dX7_relation_31 (tgt := 38) (by decide) (fun c31 => ?_) (fun c31 => ?_)
          · have c31 := jb0T c31
            refine J_iconst (x := 0) dX7_relation_38 (by decide) ?_
            refine J_istore (lv' := [.ref (v), .int (x), .int (y), .ref (t10), .ref (t16), .int (0)]) dX7_relation_39 (by decide) rfl rfl ?_
            refine J_iload dX7_relation_41 rfl ?_
            refine J_iconst (x := 2) dX7_relation_43 (by decide) ?_
            refine J_aload_n (t10) dX7_relation_44 rfl rfl ?_
            refine J_aload (t16) dX7_relation_45 rfl ?_
            refine J_callq (jrunS (As := [.int (2), .ref (t10), .ref (t16)]) (ct_X3_combined l D dA hst M2 (hO1.2.1) 2 t10 w10.1 hg10_1 t16 w16.1 hg16_1 (by omega)) dX7_relation_47 yY_X3_combined gX7_relation_X3_combined rfl ⟨by omega, by omega⟩ ⟨by omega, by omega⟩ rfl (Nat.le_of_ble_eq_true rfl)) ⟨by omega, by omega⟩ (Or.inr ⟨(jOk.ref (show v < jn M2 from by have h8 := g1.1; have h9 := hE1.1; omega) (jOk.int (jOk.int (jOk.ref (Nat.lt_of_succ_lt hg10_1.1) (jOk.ref (Nat.lt_of_succ_lt hg16_1.1) (jOk.int jOk.nil)))))), (jOk.int jOk.nil)⟩) (fun E M9 hp _ => by obtain ⟨_, h1, _⟩ := hp; cases h1) (fun x9 M3 hp47 hle47 => ?_)
            obtain ⟨tc2, h47, hO2⟩ := hp47
            have hx9 := jR_inj h47
            subst hx9
            rw [rComb_congr hi10_1 hi16_1] at hO2
            have hE2 : jExt M M3 := (hE1).tr hO2.1
            have hg10_2 := hg10.ext hE2
            have hi10_2 : ∀ j, j < 2 * w10.1 → ji M3 (t10 + 1) j = w10.2 j := fun j hj => by rw [hg10.ints hE2]; exact hi10 j hj
            have hg16_2 := hg16.ext hE2
            have hi16_2 : ∀ j, j < 2 * w16.1 → ji M3 (t16 + 1) j = w16.2 j := fun j hj => by rw [hg16.ints hE2]; exact hi16 j hj
            refine J_calli0 (jrunV (As := []) (ct_X3_isEmpty l D dA hst M3 tc2 (vComb 2 w10 w16).1 hO2.2.2.1) dX7_relation_50 yY_X3_isEmpty gX7_relation_X3_isEmpty rfl cs7 (Nat.lt_of_succ_lt hO2.2.2.1.1) hO2.2.2.1.2.1 rfl ⟨by omega, by omega⟩ ⟨Nat.zero_le _, Nat.zero_le _⟩ rfl (Nat.le_of_ble_eq_true rfl)) (rfl) (rfl) ?_
            refine J_if_eq dX7_relation_53 (tgt := 60) (by decide) (fun c53 => ?_) (fun c53 => ?_)
            · have c53 := jb0T c53
              refine J_iconst (x := 0) dX7_relation_60 (by decide) ?_
              refine J_iadd dX7_relation_61 ?_
              refine J_topi (y := 0) (by decide) ?_
              refine J_istore (lv' := [.ref (v), .int (x), .int (y), .ref (t10), .ref (t16), .int (0)]) dX7_relation_62 (by decide) rfl rfl ?_
              refine J_iload dX7_relation_64 rfl ?_
              refine J_iconst (x := 2) dX7_relation_66 (by decide) ?_
              refine J_aload (t16) dX7_relation_67 rfl ?_
              refine J_aload_n (t10) dX7_relation_69 rfl rfl ?_
              refine J_callq (jrunS (As := [.int (2), .ref (t16), .ref (t10)]) (ct_X3_combined l D dA hst M3 (hO2.2.1) 2 t16 w16.1 hg16_2 t10 w10.1 hg10_2 (by omega)) dX7_relation_70 yY_X3_combined gX7_relation_X3_combined rfl ⟨by omega, by omega⟩ ⟨by omega, by omega⟩ rfl (Nat.le_of_ble_eq_true rfl)) ⟨by omega, by omega⟩ (Or.inr ⟨(jOk.ref (show v < jn M3 from by have h8 := g1.1; have h9 := hE2.1; omega) (jOk.int (jOk.int (jOk.ref (Nat.lt_of_succ_lt hg10_2.1) (jOk.ref (Nat.lt_of_succ_lt hg16_2.1) (jOk.int jOk.nil)))))), (jOk.int jOk.nil)⟩) (fun E M9 hp _ => by obtain ⟨_, h1, _⟩ := hp; cases h1) (fun x9 M4 hp70 hle70 => ?_)
              obtain ⟨tc3, h70, hO3⟩ := hp70
              have hx9 := jR_inj h70
              subst hx9
              rw [rComb_congr hi16_2 hi10_2] at hO3
              have hE3 : jExt M M4 := (hE2).tr hO3.1
              have hg10_3 := hg10.ext hE3
              have hi10_3 : ∀ j, j < 2 * w10.1 → ji M4 (t10 + 1) j = w10.2 j := fun j hj => by rw [hg10.ints hE3]; exact hi10 j hj
              have hg16_3 := hg16.ext hE3
              have hi16_3 : ∀ j, j < 2 * w16.1 → ji M4 (t16 + 1) j = w16.2 j := fun j hj => by rw [hg16.ints hE3]; exact hi16 j hj
              refine J_calli0 (jrunV (As := []) (ct_X3_isEmpty l D dA hst M4 tc3 (vComb 2 w16 w10).1 hO3.2.2.1) dX7_relation_73 yY_X3_isEmpty gX7_relation_X3_isEmpty rfl cs7 (Nat.lt_of_succ_lt hO3.2.2.1.1) hO3.2.2.1.2.1 rfl ⟨by omega, by omega⟩ ⟨Nat.zero_le _, Nat.zero_le _⟩ rfl (Nat.le_of_ble_eq_true rfl)) (rfl) (rfl) ?_
              refine J_if_eq dX7_relation_76 (tgt := 83) (by decide) (fun c76 => ?_) (fun c76 => ?_)
              · have c76 := jb0T c76
                refine J_iconst (x := 0) dX7_relation_83 (by decide) ?_
                refine J_iadd dX7_relation_84 ?_
                refine J_topi (y := 0) (by decide) ?_
                refine J_istore (lv' := [.ref (v), .int (x), .int (y), .ref (t10), .ref (t16), .int (0)]) dX7_relation_85 (by decide) rfl rfl ?_
                refine J_iload dX7_relation_87 rfl ?_
                exact J_iret (ty := .int) dX7_relation_89 rfl (rfl) (by unfold sRel; rw [sSl_t ok1, sSl_t ok5, sRn_s hw10, sRn_s hw16]; unfold relV; rw [c31, c53, c76]; exact ⟨rfl, hA.ext hE3 hO3.2.1, hE3.fv⟩)
              · have c76 := jb0F c76
                refine J_iconst (x := 4) dX7_relation_79 (by decide) ?_
                refine J_goto (tgt := 84) dX7_relation_80 (by decide) ?_
                refine J_iadd dX7_relation_84 ?_
                refine J_topi (y := 4) (by decide) ?_
                refine J_istore (lv' := [.ref (v), .int (x), .int (y), .ref (t10), .ref (t16), .int (4)]) dX7_relation_85 (by decide) rfl rfl ?_
                refine J_iload dX7_relation_87 rfl ?_
                exact J_iret (ty := .int) dX7_relation_89 rfl (rfl) (by unfold sRel; rw [sSl_t ok1, sSl_t ok5, sRn_s hw10, sRn_s hw16]; unfold relV; rw [c31, c53, c76]; exact ⟨rfl, hA.ext hE3 hO3.2.1, hE3.fv⟩)
            · have c53 := jb0F c53
              refine J_iconst (x := 2) dX7_relation_56 (by decide) ?_
              refine J_goto (tgt := 61) dX7_relation_57 (by decide) ?_
              refine J_iadd dX7_relation_61 ?_
              refine J_topi (y := 2) (by decide) ?_
              refine J_istore (lv' := [.ref (v), .int (x), .int (y), .ref (t10), .ref (t16), .int (2)]) dX7_relation_62 (by decide) rfl rfl ?_
              refine J_iload dX7_relation_64 rfl ?_
              refine J_iconst (x := 2) dX7_relation_66 (by decide) ?_
              refine J_aload (t16) dX7_relation_67 rfl ?_
              refine J_aload_n (t10) dX7_relation_69 rfl rfl ?_
              refine J_callq (jrunS (As := [.int (2), .ref (t16), .ref (t10)]) (ct_X3_combined l D dA hst M3 (hO2.2.1) 2 t16 w16.1 hg16_2 t10 w10.1 hg10_2 (by omega)) dX7_relation_70 yY_X3_combined gX7_relation_X3_combined rfl ⟨by omega, by omega⟩ ⟨by omega, by omega⟩ rfl (Nat.le_of_ble_eq_true rfl)) ⟨by omega, by omega⟩ (Or.inr ⟨(jOk.ref (show v < jn M3 from by have h8 := g1.1; have h9 := hE2.1; omega) (jOk.int (jOk.int (jOk.ref (Nat.lt_of_succ_lt hg10_2.1) (jOk.ref (Nat.lt_of_succ_lt hg16_2.1) (jOk.int jOk.nil)))))), (jOk.int jOk.nil)⟩) (fun E M9 hp _ => by obtain ⟨_, h1, _⟩ := hp; cases h1) (fun x9 M4 hp70 hle70 => ?_)
              obtain ⟨tc3, h70, hO3⟩ := hp70
              have hx9 := jR_inj h70
              subst hx9
              rw [rComb_congr hi16_2 hi10_2] at hO3
              have hE3 : jExt M M4 := (hE2).tr hO3.1
              have hg10_3 := hg10.ext hE3
              have hi10_3 : ∀ j, j < 2 * w10.1 → ji M4 (t10 + 1) j = w10.2 j := fun j hj => by rw [hg10.ints hE3]; exact hi10 j hj
              have hg16_3 := hg16.ext hE3
              have hi16_3 : ∀ j, j < 2 * w16.1 → ji M4 (t16 + 1) j = w16.2 j := fun j hj => by rw [hg16.ints hE3]; exact hi16 j hj
              refine J_calli0 (jrunV (As := []) (ct_X3_isEmpty l D dA hst M4 tc3 (vComb 2 w16 w10).1 hO3.2.2.1) dX7_relation_73 yY_X3_isEmpty gX7_relation_X3_isEmpty rfl cs7 (Nat.lt_of_succ_lt hO3.2.2.1.1) hO3.2.2.1.2.1 rfl ⟨by omega, by omega⟩ ⟨Nat.zero_le _, Nat.zero_le _⟩ rfl (Nat.le_of_ble_eq_true rfl)) (rfl) (rfl) ?_
              refine J_if_eq dX7_relation_76 (tgt := 83) (by decide) (fun c76 => ?_) (fun c76 => ?_)
              · have c76 := jb0T c76
                refine J_iconst (x := 0) dX7_relation_83 (by decide) ?_
                refine J_iadd dX7_relation_84 ?_
                refine J_topi (y := 2) (by decide) ?_
                refine J_istore (lv' := [.ref (v), .int (x), .int (y), .ref (t10), .ref (t16), .int (2)]) dX7_relation_85 (by decide) rfl rfl ?_
                refine J_iload dX7_relation_87 rfl ?_
                exact J_iret (ty := .int) dX7_relation_89 rfl (rfl) (by unfold sRel; rw [sSl_t ok1, sSl_t ok5, sRn_s hw10, sRn_s hw16]; unfold relV; rw [c31, c53, c76]; exact ⟨rfl, hA.ext hE3 hO3.2.1, hE3.fv⟩)
              · have c76 := jb0F c76
                refine J_iconst (x := 4) dX7_relation_79 (by decide) ?_
                refine J_goto (tgt := 84) dX7_relation_80 (by decide) ?_
                refine J_iadd dX7_relation_84 ?_
                refine J_topi (y := 6) (by decide) ?_
                refine J_istore (lv' := [.ref (v), .int (x), .int (y), .ref (t10), .ref (t16), .int (6)]) dX7_relation_85 (by decide) rfl rfl ?_
                refine J_iload dX7_relation_87 rfl ?_
                exact J_iret (ty := .int) dX7_relation_89 rfl (rfl) (by unfold sRel; rw [sSl_t ok1, sSl_t ok5, sRn_s hw10, sRn_s hw16]; unfold relV; rw [c31, c53, c76]; exact ⟨rfl, hA.ext hE3 hO3.2.1, hE3.fv⟩)
          · have c31 := jb0F c31
            refine J_iconst (x := 1) dX7_relation_34 (by decide) ?_
            refine J_goto (tgt := 39) dX7_relation_35 (by decide) ?_
            refine J_istore (lv' := [.ref (v), .int (x), .int (y), .ref (t10), .ref (t16), .int (1)]) dX7_relation_39 (by decide) rfl rfl ?_
            refine J_iload dX7_relation_41 rfl ?_
            refine J_iconst (x := 2) dX7_relation_43 (by decide) ?_
            refine J_aload_n (t10) dX7_relation_44 rfl rfl ?_
            refine J_aload (t16) dX7_relation_45 rfl ?_
            refine J_callq (jrunS (As := [.int (2), .ref (t10), .ref (t16)]) (ct_X3_combined l D dA hst M2 (hO1.2.1) 2 t10 w10.1 hg10_1 t16 w16.1 hg16_1 (by omega)) dX7_relation_47 yY_X3_combined gX7_relation_X3_combined rfl ⟨by omega, by omega⟩ ⟨by omega, by omega⟩ rfl (Nat.le_of_ble_eq_true rfl)) ⟨by omega, by omega⟩ (Or.inr ⟨(jOk.ref (show v < jn M2 from by have h8 := g1.1; have h9 := hE1.1; omega) (jOk.int (jOk.int (jOk.ref (Nat.lt_of_succ_lt hg10_1.1) (jOk.ref (Nat.lt_of_succ_lt hg16_1.1) (jOk.int jOk.nil)))))), (jOk.int jOk.nil)⟩) (fun E M9 hp _ => by obtain ⟨_, h1, _⟩ := hp; cases h1) (fun x9 M3 hp47 hle47 => ?_)
            obtain ⟨tc2, h47, hO2⟩ := hp47
            have hx9 := jR_inj h47
            subst hx9
            rw [rComb_congr hi10_1 hi16_1] at hO2
            have hE2 : jExt M M3 := (hE1).tr hO2.1
            have hg10_2 := hg10.ext hE2
            have hi10_2 : ∀ j, j < 2 * w10.1 → ji M3 (t10 + 1) j = w10.2 j := fun j hj => by rw [hg10.ints hE2]; exact hi10 j hj
            have hg16_2 := hg16.ext hE2
            have hi16_2 : ∀ j, j < 2 * w16.1 → ji M3 (t16 + 1) j = w16.2 j := fun j hj => by rw [hg16.ints hE2]; exact hi16 j hj
            refine J_calli0 (jrunV (As := []) (ct_X3_isEmpty l D dA hst M3 tc2 (vComb 2 w10 w16).1 hO2.2.2.1) dX7_relation_50 yY_X3_isEmpty gX7_relation_X3_isEmpty rfl cs7 (Nat.lt_of_succ_lt hO2.2.2.1.1) hO2.2.2.1.2.1 rfl ⟨by omega, by omega⟩ ⟨Nat.zero_le _, Nat.zero_le _⟩ rfl (Nat.le_of_ble_eq_true rfl)) (rfl) (rfl) ?_
            refine J_if_eq dX7_relation_53 (tgt := 60) (by decide) (fun c53 => ?_) (fun c53 => ?_)
            · have c53 := jb0T c53
              refine J_iconst (x := 0) dX7_relation_60 (by decide) ?_
              refine J_iadd dX7_relation_61 ?_
              refine J_topi (y := 1) (by decide) ?_
              refine J_istore (lv' := [.ref (v), .int (x), .int (y), .ref (t10), .ref (t16), .int (1)]) dX7_relation_62 (by decide) rfl rfl ?_
              refine J_iload dX7_relation_64 rfl ?_
              refine J_iconst (x := 2) dX7_relation_66 (by decide) ?_
              refine J_aload (t16) dX7_relation_67 rfl ?_
              refine J_aload_n (t10) dX7_relation_69 rfl rfl ?_
              refine J_callq (jrunS (As := [.int (2), .ref (t16), .ref (t10)]) (ct_X3_combined l D dA hst M3 (hO2.2.1) 2 t16 w16.1 hg16_2 t10 w10.1 hg10_2 (by omega)) dX7_relation_70 yY_X3_combined gX7_relation_X3_combined rfl ⟨by omega, by omega⟩ ⟨by omega, by omega⟩ rfl (Nat.le_of_ble_eq_true rfl)) ⟨by omega, by omega⟩ (Or.inr ⟨(jOk.ref (show v < jn M3 from by have h8 := g1.1; have h9 := hE2.1; omega) (jOk.int (jOk.int (jOk.ref (Nat.lt_of_succ_lt hg10_2.1) (jOk.ref (Nat.lt_of_succ_lt hg16_2.1) (jOk.int jOk.nil)))))), (jOk.int jOk.nil)⟩) (fun E M9 hp _ => by obtain ⟨_, h1, _⟩ := hp; cases h1) (fun x9 M4 hp70 hle70 => ?_)
              obtain ⟨tc3, h70, hO3⟩ := hp70
              have hx9 := jR_inj h70
              subst hx9
              rw [rComb_congr hi16_2 hi10_2] at hO3
              have hE3 : jExt M M4 := (hE2).tr hO3.1
              have hg10_3 := hg10.ext hE3
              have hi10_3 : ∀ j, j < 2 * w10.1 → ji M4 (t10 + 1) j = w10.2 j := fun j hj => by rw [hg10.ints hE3]; exact hi10 j hj
              have hg16_3 := hg16.ext hE3
              have hi16_3 : ∀ j, j < 2 * w16.1 → ji M4 (t16 + 1) j = w16.2 j := fun j hj => by rw [hg16.ints hE3]; exact hi16 j hj
              refine J_calli0 (jrunV (As := []) (ct_X3_isEmpty l D dA hst M4 tc3 (vComb 2 w16 w10).1 hO3.2.2.1) dX7_relation_73 yY_X3_isEmpty gX7_relation_X3_isEmpty rfl cs7 (Nat.lt_of_succ_lt hO3.2.2.1.1) hO3.2.2.1.2.1 rfl ⟨by omega, by omega⟩ ⟨Nat.zero_le _, Nat.zero_le _⟩ rfl (Nat.le_of_ble_eq_true rfl)) (rfl) (rfl) ?_
              refine J_if_eq dX7_relation_76 (tgt := 83) (by decide) (fun c76 => ?_) (fun c76 => ?_)
              · have c76 := jb0T c76
                refine J_iconst (x := 0) dX7_relation_83 (by decide) ?_
                refine J_iadd dX7_relation_84 ?_
                refine J_topi (y := 1) (by decide) ?_
                refine J_istore (lv' := [.ref (v), .int (x), .int (y), .ref (t10), .ref (t16), .int (1)]) dX7_relation_85 (by decide) rfl rfl ?_
                refine J_iload dX7_relation_87 rfl ?_
                exact J_iret (ty := .int) dX7_relation_89 rfl (rfl) (by unfold sRel; rw [sSl_t ok1, sSl_t ok5, sRn_s hw10, sRn_s hw16]; unfold relV; rw [c31, c53, c76]; exact ⟨rfl, hA.ext hE3 hO3.2.1, hE3.fv⟩)
              · have c76 := jb0F c76
                refine J_iconst (x := 4) dX7_relation_79 (by decide) ?_
                refine J_goto (tgt := 84) dX7_relation_80 (by decide) ?_
                refine J_iadd dX7_relation_84 ?_
                refine J_topi (y := 5) (by decide) ?_
                refine J_istore (lv' := [.ref (v), .int (x), .int (y), .ref (t10), .ref (t16), .int (5)]) dX7_relation_85 (by decide) rfl rfl ?_
                refine J_iload dX7_relation_87 rfl ?_
                exact J_iret (ty := .int) dX7_relation_89 rfl (rfl) (by unfold sRel; rw [sSl_t ok1, sSl_t ok5, sRn_s hw10, sRn_s hw16]; unfold relV; rw [c31, c53, c76]; exact ⟨rfl, hA.ext hE3 hO3.2.1, hE3.fv⟩)
            · have c53 := jb0F c53
              refine J_iconst (x := 2) dX7_relation_56 (by decide) ?_
              refine J_goto (tgt := 61) dX7_relation_57 (by decide) ?_
              refine J_iadd dX7_relation_61 ?_
              refine J_topi (y := 3) (by decide) ?_
              refine J_istore (lv' := [.ref (v), .int (x), .int (y), .ref (t10), .ref (t16), .int (3)]) dX7_relation_62 (by decide) rfl rfl ?_
              refine J_iload dX7_relation_64 rfl ?_
              refine J_iconst (x := 2) dX7_relation_66 (by decide) ?_
              refine J_aload (t16) dX7_relation_67 rfl ?_
              refine J_aload_n (t10) dX7_relation_69 rfl rfl ?_
              refine J_callq (jrunS (As := [.int (2), .ref (t16), .ref (t10)]) (ct_X3_combined l D dA hst M3 (hO2.2.1) 2 t16 w16.1 hg16_2 t10 w10.1 hg10_2 (by omega)) dX7_relation_70 yY_X3_combined gX7_relation_X3_combined rfl ⟨by omega, by omega⟩ ⟨by omega, by omega⟩ rfl (Nat.le_of_ble_eq_true rfl)) ⟨by omega, by omega⟩ (Or.inr ⟨(jOk.ref (show v < jn M3 from by have h8 := g1.1; have h9 := hE2.1; omega) (jOk.int (jOk.int (jOk.ref (Nat.lt_of_succ_lt hg10_2.1) (jOk.ref (Nat.lt_of_succ_lt hg16_2.1) (jOk.int jOk.nil)))))), (jOk.int jOk.nil)⟩) (fun E M9 hp _ => by obtain ⟨_, h1, _⟩ := hp; cases h1) (fun x9 M4 hp70 hle70 => ?_)
              obtain ⟨tc3, h70, hO3⟩ := hp70
              have hx9 := jR_inj h70
              subst hx9
              rw [rComb_congr hi16_2 hi10_2] at hO3
              have hE3 : jExt M M4 := (hE2).tr hO3.1
              have hg10_3 := hg10.ext hE3
              have hi10_3 : ∀ j, j < 2 * w10.1 → ji M4 (t10 + 1) j = w10.2 j := fun j hj => by rw [hg10.ints hE3]; exact hi10 j hj
              have hg16_3 := hg16.ext hE3
              have hi16_3 : ∀ j, j < 2 * w16.1 → ji M4 (t16 + 1) j = w16.2 j := fun j hj => by rw [hg16.ints hE3]; exact hi16 j hj
              refine J_calli0 (jrunV (As := []) (ct_X3_isEmpty l D dA hst M4 tc3 (vComb 2 w16 w10).1 hO3.2.2.1) dX7_relation_73 yY_X3_isEmpty gX7_relation_X3_isEmpty rfl cs7 (Nat.lt_of_succ_lt hO3.2.2.1.1) hO3.2.2.1.2.1 rfl ⟨by omega, by omega⟩ ⟨Nat.zero_le _, Nat.zero_le _⟩ rfl (Nat.le_of_ble_eq_true rfl)) (rfl) (rfl) ?_
              refine J_if_eq dX7_relation_76 (tgt := 83) (by decide) (fun c76 => ?_) (fun c76 => ?_)
              · have c76 := jb0T c76
                refine J_iconst (x := 0) dX7_relation_83 (by decide) ?_
                refine J_iadd dX7_relation_84 ?_
                refine J_topi (y := 3) (by decide) ?_
                refine J_istore (lv' := [.ref (v), .int (x), .int (y), .ref (t10), .ref (t16), .int (3)]) dX7_relation_85 (by decide) rfl rfl ?_
                refine J_iload dX7_relation_87 rfl ?_
                exact J_iret (ty := .int) dX7_relation_89 rfl (rfl) (by unfold sRel; rw [sSl_t ok1, sSl_t ok5, sRn_s hw10, sRn_s hw16]; unfold relV; rw [c31, c53, c76]; exact ⟨rfl, hA.ext hE3 hO3.2.1, hE3.fv⟩)
              · have c76 := jb0F c76
                refine J_iconst (x := 4) dX7_relation_79 (by decide) ?_
                refine J_goto (tgt := 84) dX7_relation_80 (by decide) ?_
                refine J_iadd dX7_relation_84 ?_
                refine J_topi (y := 7) (by decide) ?_
                refine J_istore (lv' := [.ref (v), .int (x), .int (y), .ref (t10), .ref (t16), .int (7)]) dX7_relation_85 (by decide) rfl rfl ?_
                refine J_iload dX7_relation_87 rfl ?_
                exact J_iret (ty := .int) dX7_relation_89 rfl (rfl) (by unfold sRel; rw [sSl_t ok1, sSl_t ok5, sRn_s hw10, sRn_s hw16]; unfold relV; rw [c31, c53, c76]; exact ⟨rfl, hA.ext hE3 hO3.2.1, hE3.fv⟩)
    · refine J_callvX (jrunS (As := [.int (y)]) (ct_X7_checkSlot l D dA hst M ((y))) dX7_relation_5 yY_X7_checkSlot gX7_relation_X7_checkSlot rfl ⟨by omega, by omega⟩ ⟨by omega, by omega⟩ rfl (Nat.le_of_ble_eq_true rfl)) (if_neg (by rw [ok5]; decide)) ⟨by omega, by omega⟩ (Or.inl rfl) ?_
      exact JX_out rfl (by unfold sRel; rw [sSl_t ok1, sSl_f ok5]; exact ⟨rfl, hA, jFv.rf⟩)
  · refine J_callvX (jrunS (As := [.int (x)]) (ct_X7_checkSlot l D dA hst M ((x))) dX7_relation_1 yY_X7_checkSlot gX7_relation_X7_checkSlot rfl ⟨by omega, by omega⟩ ⟨by omega, by omega⟩ rfl (Nat.le_of_ble_eq_true rfl)) (if_neg (by rw [ok1]; decide)) ⟨by omega, by omega⟩ (Or.inl rfl) ?_
    exact JX_out rfl (by unfold sRel; rw [sSl_f ok1]; exact ⟨rfl, hA, jFv.rf⟩)

theorem dX7_agrees_0 : decode cX7_agrees 0 = .ok (.iload_n 1, 1) := by decide +kernel
theorem dX7_agrees_1 : decode cX7_agrees 1 = .ok (.invokestatic 62, 3) := by decide +kernel
set_option maxRecDepth 20000 in
theorem ggX7_agrees_X7_checkSlot : GoodIn wsX7_agrees wsX7_checkSlot := goodIn_ca (goodIn_r _ [10, 11, 12] (by decide +kernel) (by decide +kernel)) (goodIn_sub (fun _ h => List.mem_cons_of_mem _ (List.mem_append_left _ (List.mem_append_left _ (List.mem_append_right _ h)))) (by decide +kernel))
set_option maxRecDepth 20000 in
theorem gX7_agrees_X7_checkSlot : GoodIn wsX7_agrees (va_wsS RX7 62 yX7_checkSlot wsX7_checkSlot) := goodIn_app (goodIn_of _ (by decide +kernel)) ggX7_agrees_X7_checkSlot
theorem dX7_agrees_4 : decode cX7_agrees 4 = .ok (.iload_n 2, 1) := by decide +kernel
theorem dX7_agrees_5 : decode cX7_agrees 5 = .ok (.invokestatic 62, 3) := by decide +kernel
theorem dX7_agrees_8 : decode cX7_agrees 8 = .ok (.iload_n 3, 1) := by decide +kernel
theorem dX7_agrees_9 : decode cX7_agrees 9 = .ok (.invokestatic 62, 3) := by decide +kernel
theorem dX7_agrees_39 : decode cX7_agrees 39 = .ok (.aload_n 0, 1) := by decide +kernel
theorem dX7_agrees_40 : decode cX7_agrees 40 = .ok (.iload_n 1, 1) := by decide +kernel
theorem dX7_agrees_41 : decode cX7_agrees 41 = .ok (.invokevirtual 138, 3) := by decide +kernel
set_option maxRecDepth 20000 in
theorem ggX7_agrees_X7_rangeOf : GoodIn wsX7_agrees wsX7_rangeOf := goodIn_ca (goodIn_ca (goodIn_r _ [16, 17, 18, 6, 7, 8, 9, 10, 11, 12, 19, 20, 21, 22, 23, 24, 91, 92, 93, 94, 95, 96, 97, 98, 99, 100, 101, 102, 103] (by decide +kernel) (by decide +kernel)) (goodIn_sub (fun _ h => List.mem_cons_of_mem _ (List.mem_append_left _ (List.mem_append_right _ h))) (by decide +kernel))) (goodIn_sub (fun _ h => List.mem_cons_of_mem _ (List.mem_append_left _ (List.mem_append_left _ (List.mem_append_right _ h)))) (by decide +kernel))
set_option maxRecDepth 20000 in
theorem gX7_agrees_X7_rangeOf : GoodIn wsX7_agrees (wsV RX7 138 RX7 yX7_rangeOf wsX7_rangeOf) := goodIn_app (goodIn_of _ (by decide +kernel)) ggX7_agrees_X7_rangeOf
theorem dX7_agrees_44 : decode cX7_agrees 44 = .ok (.astore 5, 2) := by decide +kernel
theorem dX7_agrees_46 : decode cX7_agrees 46 = .ok (.aload_n 0, 1) := by decide +kernel
theorem dX7_agrees_47 : decode cX7_agrees 47 = .ok (.iload_n 2, 1) := by decide +kernel
theorem dX7_agrees_48 : decode cX7_agrees 48 = .ok (.invokevirtual 138, 3) := by decide +kernel
theorem dX7_agrees_51 : decode cX7_agrees 51 = .ok (.astore 6, 2) := by decide +kernel
theorem dX7_agrees_53 : decode cX7_agrees 53 = .ok (.aload_n 0, 1) := by decide +kernel
theorem dX7_agrees_54 : decode cX7_agrees 54 = .ok (.iload_n 3, 1) := by decide +kernel
theorem dX7_agrees_55 : decode cX7_agrees 55 = .ok (.invokevirtual 138, 3) := by decide +kernel
theorem dX7_agrees_58 : decode cX7_agrees 58 = .ok (.astore 7, 2) := by decide +kernel
theorem dX7_agrees_60 : decode cX7_agrees 60 = .ok (.new 174, 3) := by decide +kernel
theorem dX7_agrees_63 : decode cX7_agrees 63 = .ok (.dup, 1) := by decide +kernel
theorem dX7_agrees_64 : decode cX7_agrees 64 = .ok (.aload 5, 2) := by decide +kernel
theorem dX7_agrees_66 : decode cX7_agrees 66 = .ok (.aload 6, 2) := by decide +kernel
theorem dX7_agrees_68 : decode cX7_agrees 68 = .ok (.aload 7, 2) := by decide +kernel
theorem dX7_agrees_70 : decode cX7_agrees 70 = .ok (.iload 4, 2) := by decide +kernel
theorem dX7_agrees_72 : decode cX7_agrees 72 = .ok (.invokespecial 176, 3) := by decide +kernel
set_option maxRecDepth 20000 in
theorem ggX7_agrees_X0_init : GoodIn wsX7_agrees wsX0_init := goodIn_r _ [27, 28, 29, 30, 31, 32, 33, 34, 87, 88, 89, 90] (by decide +kernel) (by decide +kernel)
set_option maxRecDepth 20000 in
theorem gX7_agrees_X0_init : GoodIn wsX7_agrees (wsX0_init) := ggX7_agrees_X0_init
theorem yY_X0_init : jY yX0_init wsX0_init cX0_init 5 none 4 := ⟨⟨_, rfl⟩, by decide +kernel, by decide +kernel, by decide +kernel⟩
theorem dX7_agrees_75 : decode cX7_agrees 75 = .ok (.astore 8, 2) := by decide +kernel
theorem dX7_agrees_77 : decode cX7_agrees 77 = .ok (.aload 8, 2) := by decide +kernel
theorem dX7_agrees_79 : decode cX7_agrees 79 = .ok (.aload 5, 2) := by decide +kernel
theorem dX7_agrees_81 : decode cX7_agrees 81 = .ok (.invokevirtual 179, 3) := by decide +kernel
set_option maxRecDepth 20000 in
theorem ggX7_agrees_X0_isTrueRoundEndsOf : GoodIn wsX7_agrees wsX0_isTrueRoundEndsOf := goodIn_ca (goodIn_r _ [38, 39, 40, 41, 42, 43, 44, 45, 46, 47, 48, 49, 50, 51, 52, 5, 53, 54, 55, 56, 57, 31, 34, 32, 33, 58, 59, 60, 61, 62, 63, 64, 65, 66, 67, 9, 68, 69, 70, 71, 72, 104, 87, 88, 89, 90] (by decide +kernel) (by decide +kernel)) (goodIn_sub (fun _ h => List.mem_cons_of_mem _ (List.mem_append_right _ h)) (by decide +kernel))
set_option maxRecDepth 20000 in
theorem gX7_agrees_X0_isTrueRoundEndsOf : GoodIn wsX7_agrees (wsV RX7 179 RX0 yX0_isTrueRoundEndsOf wsX0_isTrueRoundEndsOf) := goodIn_app (goodIn_of _ (by decide +kernel)) ggX7_agrees_X0_isTrueRoundEndsOf
theorem yY_X0_isTrueRoundEndsOf : jY yX0_isTrueRoundEndsOf wsX0_isTrueRoundEndsOf cX0_isTrueRoundEndsOf 3 (some .boolean) 1 := ⟨⟨_, rfl⟩, by decide +kernel, by decide +kernel, by decide +kernel⟩
theorem dX7_agrees_84 : decode cX7_agrees 84 = .ok (.ifCond .eq 39, 3) := by decide +kernel
theorem dX7_agrees_123 : decode cX7_agrees 123 = .ok (.iconst 0, 1) := by decide +kernel
theorem dX7_agrees_124 : decode cX7_agrees 124 = .ok (.ireturn, 1) := by decide +kernel
theorem dX7_agrees_87 : decode cX7_agrees 87 = .ok (.aload 8, 2) := by decide +kernel
theorem dX7_agrees_89 : decode cX7_agrees 89 = .ok (.aload 6, 2) := by decide +kernel
theorem dX7_agrees_91 : decode cX7_agrees 91 = .ok (.invokevirtual 179, 3) := by decide +kernel
theorem dX7_agrees_94 : decode cX7_agrees 94 = .ok (.ifCond .eq 29, 3) := by decide +kernel
theorem dX7_agrees_97 : decode cX7_agrees 97 = .ok (.aload 8, 2) := by decide +kernel
theorem dX7_agrees_99 : decode cX7_agrees 99 = .ok (.aload 7, 2) := by decide +kernel
theorem dX7_agrees_101 : decode cX7_agrees 101 = .ok (.invokevirtual 179, 3) := by decide +kernel
theorem dX7_agrees_104 : decode cX7_agrees 104 = .ok (.ifCond .eq 19, 3) := by decide +kernel
theorem dX7_agrees_107 : decode cX7_agrees 107 = .ok (.aload 8, 2) := by decide +kernel
theorem dX7_agrees_109 : decode cX7_agrees 109 = .ok (.aload_n 0, 1) := by decide +kernel
theorem dX7_agrees_110 : decode cX7_agrees 110 = .ok (.getfield 30, 3) := by decide +kernel
theorem dX7_agrees_113 : decode cX7_agrees 113 = .ok (.invokevirtual 183, 3) := by decide +kernel
set_option maxRecDepth 20000 in
theorem ggX7_agrees_X0_isTrueForPublished : GoodIn wsX7_agrees wsX0_isTrueForPublished := goodIn_ca (goodIn_r _ [76, 77, 78, 79, 22, 80, 81, 82, 83, 84, 85, 86, 54, 55, 56, 5, 57, 31, 34, 32, 33, 58, 59, 60, 42, 61, 62, 63, 64, 65, 44, 49, 40, 41, 43, 66, 46, 47, 48, 67, 9, 68, 101, 102, 103, 87, 88, 89, 90, 104] (by decide +kernel) (by decide +kernel)) (goodIn_sub (fun _ h => List.mem_cons_of_mem _ (List.mem_append_right _ h)) (by decide +kernel))
set_option maxRecDepth 20000 in
theorem gX7_agrees_X0_isTrueForPublished : GoodIn wsX7_agrees (wsV RX7 183 RX0 yX0_isTrueForPublished wsX0_isTrueForPublished) := goodIn_app (goodIn_of _ (by decide +kernel)) ggX7_agrees_X0_isTrueForPublished
theorem yY_X0_isTrueForPublished : jY yX0_isTrueForPublished wsX0_isTrueForPublished cX0_isTrueForPublished 3 (some .boolean) 1 := ⟨⟨_, rfl⟩, by decide +kernel, by decide +kernel, by decide +kernel⟩
theorem dX7_agrees_116 : decode cX7_agrees 116 = .ok (.ifCond .eq 7, 3) := by decide +kernel
theorem dX7_agrees_119 : decode cX7_agrees 119 = .ok (.iconst 1, 1) := by decide +kernel
theorem dX7_agrees_120 : decode cX7_agrees 120 = .ok (.goto 4, 3) := by decide +kernel
theorem dX7_agrees_12 : decode cX7_agrees 12 = .ok (.iload 4, 2) := by decide +kernel
theorem dX7_agrees_14 : decode cX7_agrees 14 = .ok (.ifCond .eq 25, 3) := by decide +kernel
theorem dX7_agrees_17 : decode cX7_agrees 17 = .ok (.iload 4, 2) := by decide +kernel
theorem dX7_agrees_19 : decode cX7_agrees 19 = .ok (.iconst 1, 1) := by decide +kernel
theorem dX7_agrees_20 : decode cX7_agrees 20 = .ok (.if_icmp .eq 19, 3) := by decide +kernel
theorem dX7_agrees_23 : decode cX7_agrees 23 = .ok (.iload 4, 2) := by decide +kernel
theorem dX7_agrees_25 : decode cX7_agrees 25 = .ok (.iconst 2, 1) := by decide +kernel
theorem dX7_agrees_26 : decode cX7_agrees 26 = .ok (.if_icmp .eq 13, 3) := by decide +kernel
theorem dX7_agrees_29 : decode cX7_agrees 29 = .ok (.new 122, 3) := by decide +kernel
theorem thr_RX7_126_172_s : (RX7, 172, "there is no such operation") ∈ jStrs := List.mem_of_getElem? (i := 9) rfl
theorem dX7_agrees_32 : decode cX7_agrees 32 = .ok (.dup, 1) := by decide +kernel
theorem dX7_agrees_33 : decode cX7_agrees 33 = .ok (.ldc 172, 2) := by decide +kernel
theorem dX7_agrees_35 : decode cX7_agrees 35 = .ok (.invokespecial 126, 3) := by decide +kernel
theorem dX7_agrees_38 : decode cX7_agrees 38 = .ok (.athrow, 1) := by decide +kernel
set_option maxHeartbeats 400000 in
set_option maxRecDepth 20000 in
theorem ct_X7_agrees (l : Launch) (D : va_G) (dA : Nat → ClassId) (hst : l.stackTraces = false) (M : jM) (v : Nat) (A : cA) (hA : jAb M v A) (x y z op : Int32) : jCT l D dA yX7_agrees wsX7_agrees (28) (780) (12) (80) 1 [.ref (v), .int (x), .int (y), .int (z), .int (op)] M (jPr M v (sAgr A x y z op)) := by
  refine jBody (cc := cX7_agrees) (nL := 9) (rt := (some .boolean)) (ini := false) (by decide) rfl hst (Nat.le_of_ble_eq_true rfl) (by simp [Value.category]) (by intro h9; first | exact absurd h9 (by decide) | rfl) ?_
  show J l D dA RX7 cX7_agrees wsX7_agrees 9 false (some .boolean) [] (28) (780) (jF D dA (jn M) (jPr M v (sAgr A x y z op)) 1) (jn M) (12) (80) (M) 0 [.ref (v), .int (x), .int (y), .int (z), .int (op), .float 0, .float 0, .float 0, .float 0] []
  obtain ⟨g1, g2, g3, g4, g5, g6, g7, g9⟩ := id hA
  obtain ⟨gx, gH, g8⟩ := id g7
  obtain ⟨ga1, ga2, ga3, ga4, ga5, ga6, ga7, ga8, ga9, ga10, ga11, ga12, ga13⟩ := id g3
  have gc30 := g5.1.2.2.2.2.2.2.2.2.2
  refine J_iload_n dX7_agrees_0 rfl rfl ?_
  rcases Bool.eq_false_or_eq_true (okSlot ((x))) with ok1 | ok1
  · refine J_callvB (jrunS (As := [.int (x)]) (ct_X7_checkSlot l D dA hst M ((x))) dX7_agrees_1 yY_X7_checkSlot gX7_agrees_X7_checkSlot rfl ⟨by omega, by omega⟩ ⟨by omega, by omega⟩ rfl (Nat.le_of_ble_eq_true rfl)) (if_pos ok1) (rfl) ⟨by omega, by omega⟩ ?_
    refine J_iload_n dX7_agrees_4 rfl rfl ?_
    rcases Bool.eq_false_or_eq_true (okSlot ((y))) with ok5 | ok5
    · refine J_callvB (jrunS (As := [.int (y)]) (ct_X7_checkSlot l D dA hst M ((y))) dX7_agrees_5 yY_X7_checkSlot gX7_agrees_X7_checkSlot rfl ⟨by omega, by omega⟩ ⟨by omega, by omega⟩ rfl (Nat.le_of_ble_eq_true rfl)) (if_pos ok5) (rfl) ⟨by omega, by omega⟩ ?_
      refine J_iload_n dX7_agrees_8 rfl rfl ?_
      rcases Bool.eq_false_or_eq_true (okSlot ((z))) with ok9 | ok9
      · refine J_callvB (jrunS (As := [.int (z)]) (ct_X7_checkSlot l D dA hst M ((z))) dX7_agrees_9 yY_X7_checkSlot gX7_agrees_X7_checkSlot rfl ⟨by omega, by omega⟩ ⟨by omega, by omega⟩ rfl (Nat.le_of_ble_eq_true rfl)) (if_pos ok9) (rfl) ⟨by omega, by omega⟩ ?_
        have L39 : ∀  (hop : okOp op = true), J l D dA RX7 cX7_agrees wsX7_agrees 9 false (some .boolean) [] (28) (780) (jF D dA (jn M) (jPr M v (sAgr A x y z op)) 1) (jn M) (12 - 1 - 1 - 1) (80 - 6 - 6 - 6) (M) 39 [.ref (v), .int (x), .int (y), .int (z), .int (op), .float 0, .float 0, .float 0, .float 0] [] := by
          intro hop
          refine J_aload_n (v) dX7_agrees_39 rfl rfl ?_
          refine J_iload_n dX7_agrees_40 rfl rfl ?_
          rcases hs41 : stRange M (v + 2) ((x)) with _ | t41
          · have hj41 := (jVa_cAt g5 ((x))).1
            rw [hs41] at hj41
            have hw41 := hj41.none
            refine J_callqX (jrunV (As := [.int (x)]) (ct_X7_rangeOf l D dA hst M v A hA ((x))) dX7_agrees_41 yY_X7_rangeOf gX7_agrees_X7_rangeOf rfl cs10 (show v < jn M from by have := g1.1; omega) g1.2.1 rfl ⟨by omega, by omega⟩ ⟨by omega, by omega⟩ rfl (Nat.le_of_ble_eq_true rfl)) ((by unfold oRg; rw [if_pos ok1, hs41])) ⟨by omega, by omega⟩ (Or.inl rfl) ?_
            exact JX_out rfl (by unfold sAgr; rw [sSl_t ok1, sSl_t ok5, sSl_t ok9, if_pos hop, sRn_n hw41]; exact ⟨rfl, hA, jFv.rf⟩)
          · have hj41 := jVa_cAt g5 ((x))
            rw [hs41] at hj41
            obtain ⟨⟨w41, hw41, hg41, hi41⟩, hl41⟩ := And.imp_left jVa.some hj41
            have h16_41 := hl41 w41 hw41
            refine J_callqB (jrunV (As := [.int (x)]) (ct_X7_rangeOf l D dA hst M v A hA ((x))) dX7_agrees_41 yY_X7_rangeOf gX7_agrees_X7_rangeOf rfl cs10 (show v < jn M from by have := g1.1; omega) g1.2.1 rfl ⟨by omega, by omega⟩ ⟨by omega, by omega⟩ rfl (Nat.le_of_ble_eq_true rfl)) ((by unfold oRg; rw [if_pos ok1, hs41])) (rfl) ⟨by omega, by omega⟩ ?_
            refine J_astore (x := t41) (lv' := [.ref (v), .int (x), .int (y), .int (z), .int (op), .ref (t41), .float 0, .float 0, .float 0]) dX7_agrees_44 (by decide) rfl rfl ?_
            refine J_aload_n (v) dX7_agrees_46 rfl rfl ?_
            refine J_iload_n dX7_agrees_47 rfl rfl ?_
            rcases hs48 : stRange M (v + 2) ((y)) with _ | t48
            · have hj48 := (jVa_cAt g5 ((y))).1
              rw [hs48] at hj48
              have hw48 := hj48.none
              refine J_callqX (jrunV (As := [.int (y)]) (ct_X7_rangeOf l D dA hst M v A hA ((y))) dX7_agrees_48 yY_X7_rangeOf gX7_agrees_X7_rangeOf rfl cs10 (show v < jn M from by have := g1.1; omega) g1.2.1 rfl ⟨by omega, by omega⟩ ⟨by omega, by omega⟩ rfl (Nat.le_of_ble_eq_true rfl)) ((by unfold oRg; rw [if_pos ok5, hs48])) ⟨by omega, by omega⟩ (Or.inl rfl) ?_
              exact JX_out rfl (by unfold sAgr; rw [sSl_t ok1, sSl_t ok5, sSl_t ok9, if_pos hop, sRn_s hw41, sRn_n hw48]; exact ⟨rfl, hA, jFv.rf⟩)
            · have hj48 := jVa_cAt g5 ((y))
              rw [hs48] at hj48
              obtain ⟨⟨w48, hw48, hg48, hi48⟩, hl48⟩ := And.imp_left jVa.some hj48
              have h16_48 := hl48 w48 hw48
              refine J_callqB (jrunV (As := [.int (y)]) (ct_X7_rangeOf l D dA hst M v A hA ((y))) dX7_agrees_48 yY_X7_rangeOf gX7_agrees_X7_rangeOf rfl cs10 (show v < jn M from by have := g1.1; omega) g1.2.1 rfl ⟨by omega, by omega⟩ ⟨by omega, by omega⟩ rfl (Nat.le_of_ble_eq_true rfl)) ((by unfold oRg; rw [if_pos ok5, hs48])) (rfl) ⟨by omega, by omega⟩ ?_
              refine J_astore (x := t48) (lv' := [.ref (v), .int (x), .int (y), .int (z), .int (op), .ref (t41), .ref (t48), .float 0, .float 0]) dX7_agrees_51 (by decide) rfl rfl ?_
              refine J_aload_n (v) dX7_agrees_53 rfl rfl ?_
              refine J_iload_n dX7_agrees_54 rfl rfl ?_
              rcases hs55 : stRange M (v + 2) ((z)) with _ | t55
              · have hj55 := (jVa_cAt g5 ((z))).1
                rw [hs55] at hj55
                have hw55 := hj55.none
                refine J_callqX (jrunV (As := [.int (z)]) (ct_X7_rangeOf l D dA hst M v A hA ((z))) dX7_agrees_55 yY_X7_rangeOf gX7_agrees_X7_rangeOf rfl cs10 (show v < jn M from by have := g1.1; omega) g1.2.1 rfl ⟨by omega, by omega⟩ ⟨by omega, by omega⟩ rfl (Nat.le_of_ble_eq_true rfl)) ((by unfold oRg; rw [if_pos ok9, hs55])) ⟨by omega, by omega⟩ (Or.inl rfl) ?_
                exact JX_out rfl (by unfold sAgr; rw [sSl_t ok1, sSl_t ok5, sSl_t ok9, if_pos hop, sRn_s hw41, sRn_s hw48, sRn_n hw55]; exact ⟨rfl, hA, jFv.rf⟩)
              · have hj55 := jVa_cAt g5 ((z))
                rw [hs55] at hj55
                obtain ⟨⟨w55, hw55, hg55, hi55⟩, hl55⟩ := And.imp_left jVa.some hj55
                have h16_55 := hl55 w55 hw55
                refine J_callqB (jrunV (As := [.int (z)]) (ct_X7_rangeOf l D dA hst M v A hA ((z))) dX7_agrees_55 yY_X7_rangeOf gX7_agrees_X7_rangeOf rfl cs10 (show v < jn M from by have := g1.1; omega) g1.2.1 rfl ⟨by omega, by omega⟩ ⟨by omega, by omega⟩ rfl (Nat.le_of_ble_eq_true rfl)) ((by unfold oRg; rw [if_pos ok9, hs55])) (rfl) ⟨by omega, by omega⟩ ?_
                refine J_astore (x := t55) (lv' := [.ref (v), .int (x), .int (y), .int (z), .int (op), .ref (t41), .ref (t48), .ref (t55), .float 0]) dX7_agrees_58 (by decide) rfl rfl ?_
                refine J_new (ci := 4) dX7_agrees_60 (fun _ h => List.mem_cons_of_mem _ (List.mem_append_left _ (List.mem_append_left _ (List.mem_append_left _ (List.mem_append_left _ (List.mem_append_left _ (List.mem_append_left _ (List.mem_append_left _ (List.mem_append_right _ (h)))))))))) cs4 cty4 (List.mem_of_getElem? (i := 3) rfl) (List.mem_of_getElem? (i := 4) rfl) (List.mem_of_getElem? (i := 5) rfl) (by omega) (by omega) (g2) (jOk.ref (show v < jn M from by have := g1.1; omega) (jOk.int (jOk.int (jOk.int (jOk.int (jOk.ref (Nat.lt_of_succ_lt hg41.1) (jOk.ref (Nat.lt_of_succ_lt hg48.1) (jOk.ref (Nat.lt_of_succ_lt hg55.1) (jOk.float jOk.nil))))))))) jOk.nil ?_
                refine J_dup dX7_agrees_63 rfl ?_
                refine J_aload (t41) dX7_agrees_64 rfl ?_
                refine J_aload (t48) dX7_agrees_66 rfl ?_
                refine J_aload (t55) dX7_agrees_68 rfl ?_
                refine J_iload dX7_agrees_70 rfl ?_
                refine J_callv0 (jrunI (ret := none) (As := [.ref (t41), .ref (t48), .ref (t55), .int (op)]) (ct_X0_init l D dA hst (jNw M 4 0) (jn M) t41 t48 t55 op (Nat.lt_succ_self _) (by simp [jk_Nw])) dX7_agrees_72 yY_X0_init gX7_agrees_X0_init rfl (List.mem_of_getElem? (i := 5) rfl) (List.mem_of_getElem? (i := 25) rfl) (List.mem_of_getElem? (i := 26) rfl) rfl ⟨by omega, by omega⟩ ⟨Nat.zero_le _, Nat.zero_le _⟩ rfl (Nat.le_of_ble_eq_true rfl)) (rfl) (rfl) ?_
                obtain ⟨M2, hM2⟩ : ∃ Mz, Mz = jSi (jSr (jSr (jSr (jNw M 4 0) (jn M) 0 (some t41)) (jn M) 1 (some t48)) (jn M) 2 (some t55)) (jn M) 3 op := ⟨_, rfl⟩
                refine J_mem (M' := M2) hM2.symm ?_
                have hE2 : jExt M M2 := by rw [hM2]; exact (((jExt.nw.sr (Nat.le_refl _)).sr (Nat.le_refl _)).sr (Nat.le_refl _)).si (Nat.le_refl _)
                have hg41b := hg41.ext hE2
                have hi41b : ∀ j, j < 2 * w41.1 → ji M2 (t41 + 1) j = w41.2 j := fun j hj => by rw [hg41.ints hE2]; exact hi41 j hj
                have hg48b := hg48.ext hE2
                have hi48b : ∀ j, j < 2 * w48.1 → ji M2 (t48 + 1) j = w48.2 j := fun j hj => by rw [hg48.ints hE2]; exact hi48 j hj
                have hg55b := hg55.ext hE2
                have hi55b : ∀ j, j < 2 * w55.1 → ji M2 (t55 + 1) j = w55.2 j := fun j hj => by rw [hg55.ints hE2]; exact hi55 j hj
                have hC2 : jCl M2 := by rw [hM2]; exact jCl_Si (jCl_Sr (jCl_Sr (jCl_Sr (jCl_Nw g2) (fun q h => by cases h; exact Nat.lt_succ_of_lt (Nat.lt_of_succ_lt hg41.1))) (fun q h => by cases h; exact Nat.lt_succ_of_lt (Nat.lt_of_succ_lt hg48.1))) (fun q h => by cases h; exact Nat.lt_succ_of_lt (Nat.lt_of_succ_lt hg55.1)))
                have hcm : jCm M2 (jn M) (cF op w41 w48 w55) := by
                  refine ⟨t41, w41.1, t48, w48.1, t55, w55.1, op, by rw [hM2]; exact Nat.lt_succ_self _, by rw [hM2]; simp [jk_Si, jk_Sr, jk_Nw], by rw [hM2]; simp [jr_Si, jr_Sr], by rw [hM2]; simp [jr_Si, jr_Sr], by rw [hM2]; simp [jr_Si, jr_Sr], by rw [hM2]; simp [ji_Si], hg41b, hg48b, hg55b, ?_⟩
                  funext x9; unfold cF; rw [rHolds_congr hi41b, rHolds_congr hi48b, rHolds_congr hi55b]
                have hA2 := hA.ext hE2 hC2
                obtain ⟨m1, m2, m3, m4, m5, m6, m7, m9⟩ := id hA2
                obtain ⟨mx, mH, m8⟩ := id m7
                obtain ⟨ma1, ma2, ma3, ma4, ma5, ma6, ma7, ma8, ma9, ma10, ma11, ma12, ma13⟩ := id m3
                have mc30 := m5.1.2.2.2.2.2.2.2.2.2
                refine J_astore (x := jn M) (lv' := [.ref (v), .int (x), .int (y), .int (z), .int (op), .ref (t41), .ref (t48), .ref (t55), .ref (jn M)]) dX7_agrees_75 (by decide) rfl rfl ?_
                refine J_aload (jn M) dX7_agrees_77 rfl ?_
                refine J_aload (t41) dX7_agrees_79 rfl ?_
                refine J_calli0 (jrunV (As := [.ref (t41)]) (ct_X0_isTrueRoundEndsOf l D dA hst M2 (jn M) (cF op w41 w48 w55) hcm t41 w41.1 hg41b) dX7_agrees_81 yY_X0_isTrueRoundEndsOf gX7_agrees_X0_isTrueRoundEndsOf rfl cs4 (by rw [hM2]; exact Nat.lt_succ_self _) (by rw [hM2]; simp [jk_Si, jk_Sr, jk_Nw]) rfl ⟨by omega, by omega⟩ ⟨Nat.zero_le _, Nat.zero_le _⟩ rfl (Nat.le_of_ble_eq_true rfl)) (rfl) (rfl) ?_
                refine J_topi (y := jb (agE (cF op w41 w48 w55) w41)) (by rw [agE_eq hi41b]) ?_
                refine J_if_eq dX7_agrees_84 (tgt := 123) (by decide) (fun c84 => ?_) (fun c84 => ?_)
                · have c84 := jb0T c84
                  refine J_iconst (x := 0) dX7_agrees_123 (by decide) ?_
                  exact J_iret (ty := .boolean) dX7_agrees_124 rfl (by rfl) (by first | (unfold sAgr; rw [sSl_t ok1, sSl_t ok5, sSl_t ok9, if_pos hop, sRn_s hw41, sRn_s hw48, sRn_s hw55]; unfold agV; rw [c84]; exact ⟨rfl, hA2, hE2.fv⟩) | (unfold sAgr; rw [sSl_t ok1, sSl_t ok5, sSl_t ok9, if_pos hop, sRn_s hw41, sRn_s hw48, sRn_s hw55]; unfold agV; rw [c84, c94]; exact ⟨rfl, hA2, hE2.fv⟩) | (unfold sAgr; rw [sSl_t ok1, sSl_t ok5, sSl_t ok9, if_pos hop, sRn_s hw41, sRn_s hw48, sRn_s hw55]; unfold agV; rw [c84, c94, c104]; exact ⟨rfl, hA2, hE2.fv⟩) | (unfold sAgr; rw [sSl_t ok1, sSl_t ok5, sSl_t ok9, if_pos hop, sRn_s hw41, sRn_s hw48, sRn_s hw55]; unfold agV; rw [c84, c94, c104, c116]; exact ⟨rfl, hA2, hE2.fv⟩) | fail "ag")
                · have c84 := jb0F c84
                  refine J_aload (jn M) dX7_agrees_87 rfl ?_
                  refine J_aload (t48) dX7_agrees_89 rfl ?_
                  refine J_calli0 (jrunV (As := [.ref (t48)]) (ct_X0_isTrueRoundEndsOf l D dA hst M2 (jn M) (cF op w41 w48 w55) hcm t48 w48.1 hg48b) dX7_agrees_91 yY_X0_isTrueRoundEndsOf gX7_agrees_X0_isTrueRoundEndsOf rfl cs4 (by rw [hM2]; exact Nat.lt_succ_self _) (by rw [hM2]; simp [jk_Si, jk_Sr, jk_Nw]) rfl ⟨by omega, by omega⟩ ⟨Nat.zero_le _, Nat.zero_le _⟩ rfl (Nat.le_of_ble_eq_true rfl)) (rfl) (rfl) ?_
                  refine J_topi (y := jb (agE (cF op w41 w48 w55) w48)) (by rw [agE_eq hi48b]) ?_
                  refine J_if_eq dX7_agrees_94 (tgt := 123) (by decide) (fun c94 => ?_) (fun c94 => ?_)
                  · have c94 := jb0T c94
                    refine J_iconst (x := 0) dX7_agrees_123 (by decide) ?_
                    exact J_iret (ty := .boolean) dX7_agrees_124 rfl (by rfl) (by first | (unfold sAgr; rw [sSl_t ok1, sSl_t ok5, sSl_t ok9, if_pos hop, sRn_s hw41, sRn_s hw48, sRn_s hw55]; unfold agV; rw [c84]; exact ⟨rfl, hA2, hE2.fv⟩) | (unfold sAgr; rw [sSl_t ok1, sSl_t ok5, sSl_t ok9, if_pos hop, sRn_s hw41, sRn_s hw48, sRn_s hw55]; unfold agV; rw [c84, c94]; exact ⟨rfl, hA2, hE2.fv⟩) | (unfold sAgr; rw [sSl_t ok1, sSl_t ok5, sSl_t ok9, if_pos hop, sRn_s hw41, sRn_s hw48, sRn_s hw55]; unfold agV; rw [c84, c94, c104]; exact ⟨rfl, hA2, hE2.fv⟩) | (unfold sAgr; rw [sSl_t ok1, sSl_t ok5, sSl_t ok9, if_pos hop, sRn_s hw41, sRn_s hw48, sRn_s hw55]; unfold agV; rw [c84, c94, c104, c116]; exact ⟨rfl, hA2, hE2.fv⟩) | fail "ag")
                  · have c94 := jb0F c94
                    refine J_aload (jn M) dX7_agrees_97 rfl ?_
                    refine J_aload (t55) dX7_agrees_99 rfl ?_
                    refine J_calli0 (jrunV (As := [.ref (t55)]) (ct_X0_isTrueRoundEndsOf l D dA hst M2 (jn M) (cF op w41 w48 w55) hcm t55 w55.1 hg55b) dX7_agrees_101 yY_X0_isTrueRoundEndsOf gX7_agrees_X0_isTrueRoundEndsOf rfl cs4 (by rw [hM2]; exact Nat.lt_succ_self _) (by rw [hM2]; simp [jk_Si, jk_Sr, jk_Nw]) rfl ⟨by omega, by omega⟩ ⟨Nat.zero_le _, Nat.zero_le _⟩ rfl (Nat.le_of_ble_eq_true rfl)) (rfl) (rfl) ?_
                    refine J_topi (y := jb (agE (cF op w41 w48 w55) w55)) (by rw [agE_eq hi55b]) ?_
                    refine J_if_eq dX7_agrees_104 (tgt := 123) (by decide) (fun c104 => ?_) (fun c104 => ?_)
                    · have c104 := jb0T c104
                      refine J_iconst (x := 0) dX7_agrees_123 (by decide) ?_
                      exact J_iret (ty := .boolean) dX7_agrees_124 rfl (by rfl) (by first | (unfold sAgr; rw [sSl_t ok1, sSl_t ok5, sSl_t ok9, if_pos hop, sRn_s hw41, sRn_s hw48, sRn_s hw55]; unfold agV; rw [c84]; exact ⟨rfl, hA2, hE2.fv⟩) | (unfold sAgr; rw [sSl_t ok1, sSl_t ok5, sSl_t ok9, if_pos hop, sRn_s hw41, sRn_s hw48, sRn_s hw55]; unfold agV; rw [c84, c94]; exact ⟨rfl, hA2, hE2.fv⟩) | (unfold sAgr; rw [sSl_t ok1, sSl_t ok5, sSl_t ok9, if_pos hop, sRn_s hw41, sRn_s hw48, sRn_s hw55]; unfold agV; rw [c84, c94, c104]; exact ⟨rfl, hA2, hE2.fv⟩) | (unfold sAgr; rw [sSl_t ok1, sSl_t ok5, sSl_t ok9, if_pos hop, sRn_s hw41, sRn_s hw48, sRn_s hw55]; unfold agV; rw [c84, c94, c104, c116]; exact ⟨rfl, hA2, hE2.fv⟩) | fail "ag")
                    · have c104 := jb0F c104
                      refine J_aload (jn M) dX7_agrees_107 rfl ?_
                      refine J_aload_n (v) dX7_agrees_109 rfl rfl ?_
                      refine J_getrs (q := v + 2) ma2 dX7_agrees_110 (fun _ h => List.mem_cons_of_mem _ (List.mem_append_left _ (List.mem_append_left _ (List.mem_append_left _ (List.mem_append_left _ (List.mem_append_left _ (List.mem_append_left _ (List.mem_append_right _ (h))))))))) cs10 (by decide) rfl (List.mem_of_getElem? (i := 6) rfl) rfl (show v < jn M2 from by have := m1.1; omega) m1.2.1 ?_
                      refine J_calli0 (jrunV (As := [.ref (v + 2)]) (ct_X0_isTrueForPublished l D dA hst M2 (jn M) (cF op w41 w48 w55) hcm (v + 2) (cNw A).2.1 m5.1) dX7_agrees_113 yY_X0_isTrueForPublished gX7_agrees_X0_isTrueForPublished rfl cs4 (by rw [hM2]; exact Nat.lt_succ_self _) (by rw [hM2]; simp [jk_Si, jk_Sr, jk_Nw]) rfl ⟨by omega, by omega⟩ ⟨Nat.zero_le _, Nat.zero_le _⟩ rfl (Nat.le_of_ble_eq_true rfl)) (rfl) (rfl) ?_
                      refine J_topi (y := jb (agP (cF op w41 w48 w55) (cNw A))) (by rw [agP_eq m5]) ?_
                      refine J_if_eq dX7_agrees_116 (tgt := 123) (by decide) (fun c116 => ?_) (fun c116 => ?_)
                      · have c116 := jb0T c116
                        refine J_iconst (x := 0) dX7_agrees_123 (by decide) ?_
                        exact J_iret (ty := .boolean) dX7_agrees_124 rfl (by rfl) (by first | (unfold sAgr; rw [sSl_t ok1, sSl_t ok5, sSl_t ok9, if_pos hop, sRn_s hw41, sRn_s hw48, sRn_s hw55]; unfold agV; rw [c84]; exact ⟨rfl, hA2, hE2.fv⟩) | (unfold sAgr; rw [sSl_t ok1, sSl_t ok5, sSl_t ok9, if_pos hop, sRn_s hw41, sRn_s hw48, sRn_s hw55]; unfold agV; rw [c84, c94]; exact ⟨rfl, hA2, hE2.fv⟩) | (unfold sAgr; rw [sSl_t ok1, sSl_t ok5, sSl_t ok9, if_pos hop, sRn_s hw41, sRn_s hw48, sRn_s hw55]; unfold agV; rw [c84, c94, c104]; exact ⟨rfl, hA2, hE2.fv⟩) | (unfold sAgr; rw [sSl_t ok1, sSl_t ok5, sSl_t ok9, if_pos hop, sRn_s hw41, sRn_s hw48, sRn_s hw55]; unfold agV; rw [c84, c94, c104, c116]; exact ⟨rfl, hA2, hE2.fv⟩) | fail "ag")
                      · have c116 := jb0F c116
                        refine J_iconst (x := 1) dX7_agrees_119 (by decide) ?_
                        refine J_goto (tgt := 124) dX7_agrees_120 (by decide) ?_
                        exact J_iret (ty := .boolean) dX7_agrees_124 rfl (by rfl) (by first | (unfold sAgr; rw [sSl_t ok1, sSl_t ok5, sSl_t ok9, if_pos hop, sRn_s hw41, sRn_s hw48, sRn_s hw55]; unfold agV; rw [c84]; exact ⟨rfl, hA2, hE2.fv⟩) | (unfold sAgr; rw [sSl_t ok1, sSl_t ok5, sSl_t ok9, if_pos hop, sRn_s hw41, sRn_s hw48, sRn_s hw55]; unfold agV; rw [c84, c94]; exact ⟨rfl, hA2, hE2.fv⟩) | (unfold sAgr; rw [sSl_t ok1, sSl_t ok5, sSl_t ok9, if_pos hop, sRn_s hw41, sRn_s hw48, sRn_s hw55]; unfold agV; rw [c84, c94, c104]; exact ⟨rfl, hA2, hE2.fv⟩) | (unfold sAgr; rw [sSl_t ok1, sSl_t ok5, sSl_t ok9, if_pos hop, sRn_s hw41, sRn_s hw48, sRn_s hw55]; unfold agV; rw [c84, c94, c104, c116]; exact ⟨rfl, hA2, hE2.fv⟩) | fail "ag")
        refine J_iload dX7_agrees_12 rfl ?_
        refine J_if_eq dX7_agrees_14 (tgt := 39) (by decide) (fun c14 => ?_) (fun c14 => ?_)
        · exact L39  (by simp [okOp, *])
        · refine J_iload dX7_agrees_17 rfl ?_
          refine J_iconst (x := 1) dX7_agrees_19 (by decide) ?_
          refine J_icmp_eq dX7_agrees_20 (tgt := 39) (by decide) (fun c20 => ?_) (fun c20 => ?_)
          · exact L39  (by simp [okOp, *])
          · refine J_iload dX7_agrees_23 rfl ?_
            refine J_iconst (x := 2) dX7_agrees_25 (by decide) ?_
            refine J_icmp_eq dX7_agrees_26 (tgt := 39) (by decide) (fun c26 => ?_) (fun c26 => ?_)
            · exact L39  (by simp [okOp, *])
            · exact J_throwS (E := "java/lang/IllegalArgumentException") (text := "there is no such operation") (names := ["java/lang/RuntimeException", "java/lang/Exception"]) (by decide) (by decide) dX7_agrees_29 dX7_agrees_32 dX7_agrees_33 dX7_agrees_35 dX7_agrees_38 (List.mem_of_getElem? (i := 1) rfl) (List.mem_of_getElem? (i := 2) rfl) thr_RX7_126_172_s (fun _ h => List.mem_cons_of_mem _ (List.mem_append_left _ (List.mem_append_left _ (List.mem_append_left _ (List.mem_append_right _ (h)))))) thr_RX7_126 thr_RX7_126_g rfl (Nat.le_of_ble_eq_true rfl) (by first | decide | (simp only [List.length_cons, List.length_nil]; omega)) (by first | decide | (simp only [List.length_cons, List.length_nil]; omega)) (by omega) (by omega) (by unfold sAgr; rw [sSl_t ok1, sSl_t ok5, sSl_t ok9]; rw [if_neg (by simp [okOp, *])]; exact ⟨rfl, hA, jFv.rf⟩)
      · refine J_callvX (jrunS (As := [.int (z)]) (ct_X7_checkSlot l D dA hst M ((z))) dX7_agrees_9 yY_X7_checkSlot gX7_agrees_X7_checkSlot rfl ⟨by omega, by omega⟩ ⟨by omega, by omega⟩ rfl (Nat.le_of_ble_eq_true rfl)) (if_neg (by rw [ok9]; decide)) ⟨by omega, by omega⟩ (Or.inl rfl) ?_
        exact JX_out rfl (by unfold sAgr; rw [sSl_t ok1, sSl_t ok5, sSl_f ok9]; exact ⟨rfl, hA, jFv.rf⟩)
    · refine J_callvX (jrunS (As := [.int (y)]) (ct_X7_checkSlot l D dA hst M ((y))) dX7_agrees_5 yY_X7_checkSlot gX7_agrees_X7_checkSlot rfl ⟨by omega, by omega⟩ ⟨by omega, by omega⟩ rfl (Nat.le_of_ble_eq_true rfl)) (if_neg (by rw [ok5]; decide)) ⟨by omega, by omega⟩ (Or.inl rfl) ?_
      exact JX_out rfl (by unfold sAgr; rw [sSl_t ok1, sSl_f ok5]; exact ⟨rfl, hA, jFv.rf⟩)
  · refine J_callvX (jrunS (As := [.int (x)]) (ct_X7_checkSlot l D dA hst M ((x))) dX7_agrees_1 yY_X7_checkSlot gX7_agrees_X7_checkSlot rfl ⟨by omega, by omega⟩ ⟨by omega, by omega⟩ rfl (Nat.le_of_ble_eq_true rfl)) (if_neg (by rw [ok1]; decide)) ⟨by omega, by omega⟩ (Or.inl rfl) ?_
    exact JX_out rfl (by unfold sAgr; rw [sSl_f ok1]; exact ⟨rfl, hA, jFv.rf⟩)

