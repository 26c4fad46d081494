theorem jXo.e0 {M M2 : jM} {kd len : Nat} (h : jXo (jn M) (jNw M kd len) M2) : jExt M M2 := by
  have h1 : jn M + 1 ≤ jn M2 := h.1
  refine ⟨by omega, fun a ha => ?_⟩
  obtain ⟨a1, a2, a3, a4, a5, a6⟩ := h.2 a (by show a < jn M + 1; omega) (by omega)
  obtain ⟨b1, b2, b3, b4, b5, b6⟩ := (jExt.nw (M := M) (kd := kd) (len := len)).2 a ha
  exact ⟨a1.trans b1, a2.trans b2, a3.trans b3, a4.trans b4, a5.trans b5, a6.trans b6⟩
theorem jExt.xt2 {M M2 M3 : jM} (e : jExt M M2) (h : jXt (jn M) M2 M3) : jExt M M3 := by
  refine ⟨Nat.le_trans e.1 h.1, fun a ha => ?_⟩
  obtain ⟨a1, a2, a3, a4, a5, a6⟩ := h.xo.2 a (Nat.lt_of_lt_of_le ha e.1) (by omega)
  obtain ⟨b1, b2, b3, b4, b5, b6⟩ := e.2 a ha
  exact ⟨a1.trans b1, a2.trans b2, a3.trans b3, a4.trans b4, a5.trans b5, a6.trans b6⟩
theorem jRd.fv {M M1 : jM} {v t k : Nat} {c : Nat → Int32} {L p : Nat} (h : jRd M t k (v + 1) c L p) (hf : jFv v M M1) (ht : v + 36 ≤ t) (hc : ji M1 (v + 1) = c) (h20 : k ≠ 20) : jRd M1 t k (v + 1) c L p := by
  obtain ⟨f1, f2, f3, f4, f5, f6, f7, f8, f9, f10, f11, f12⟩ := h
  obtain ⟨a1, a2⟩ := hf.2.1 t f1
  obtain ⟨b1, b2⟩ := hf.2.1 (v + 1) f4
  obtain ⟨c1, c2, c3, c4⟩ := hf.2.2.1 t f1 (Or.inr ht) (by rw [f2]; exact h20)
  exact ⟨Nat.lt_of_lt_of_le f1 hf.1, a1.trans f2, by rw [c2]; exact f3, Nat.lt_of_lt_of_le f4 hf.1, b1.trans f5, b2.trans f6, hc, by rw [c1]; exact f8, f9, by rw [c1]; exact f10, f11, f12⟩
theorem jRr.fv {M M1 : jM} {v t : Nat} {c : Nat → Int32} {L p : Nat} {lo hi : Int32} {b : Bool} (h : jRr M t (v + 1) c L p lo hi b) (hf : jFv v M M1) (ht : v + 36 ≤ t) (hc : ji M1 (v + 1) = c) : jRr M1 t (v + 1) c L p lo hi b := by
  obtain ⟨h1, h2, h3, h4⟩ := h
  obtain ⟨c1, c2, c3, c4⟩ := hf.2.2.1 t h1.1 (Or.inr ht) (by rw [h1.2.1]; decide)
  exact ⟨h1.fv hf ht hc (by decide), by rw [c1]; exact h2, by rw [c1]; exact h3, by rw [c1]; exact h4⟩
abbrev rZ : Type := rSt × Nat × (Nat → Int32)
def rdZ (A : cA) : rZ := rRs (cC A) (cL A) (cL A + 1) 0 0 99999999 false 0 (fun _ => 0)
def sRdZ (A : cA) (x : Int32) (z : rZ) : cR :=
  if z.1.1 then (if z.1.2.2.2.2 then (oX xUOE, cRef (cFin A (-1)) 2) else if 16 < z.2.1 then (oX xUOE, cRef (cFin A (-1)) 3) else (oI (nI z.2.1), cPut (cFin A (-1)) x.toNatClampNeg (some z.2))) else (oX xIAE, cFin A (nI z.1.2.1))
def sRead (A : cA) (x : Int32) : cR := sSl x A (sRdZ A x (rdZ A))
theorem dX7_read_0 : decode cX7_read 0 = .ok (.iload_n 1, 1) := by decide +kernel
theorem dX7_read_1 : decode cX7_read 1 = .ok (.invokestatic 62, 3) := by decide +kernel
set_option maxRecDepth 20000 in
theorem ggX7_read_X7_checkSlot : GoodIn wsX7_read wsX7_checkSlot := goodIn_ca (goodIn_r _ [9, 10, 11] (by decide +kernel) (by decide +kernel)) (goodIn_sub (fun _ h => List.mem_cons_of_mem _ (List.mem_append_left _ (List.mem_append_left _ (List.mem_append_left _ (List.mem_append_right _ h))))) (by decide +kernel))
set_option maxRecDepth 20000 in
theorem gX7_read_X7_checkSlot : GoodIn wsX7_read (va_wsS RX7 62 yX7_checkSlot wsX7_checkSlot) := goodIn_app (goodIn_of _ (by decide +kernel)) ggX7_read_X7_checkSlot
theorem dX7_read_4 : decode cX7_read 4 = .ok (.new 66, 3) := by decide +kernel
theorem dX7_read_7 : decode cX7_read 7 = .ok (.dup, 1) := by decide +kernel
theorem dX7_read_8 : decode cX7_read 8 = .ok (.aload_n 0, 1) := by decide +kernel
theorem dX7_read_9 : decode cX7_read 9 = .ok (.getfield 9, 3) := by decide +kernel
theorem dX7_read_12 : decode cX7_read 12 = .ok (.aload_n 0, 1) := by decide +kernel
theorem dX7_read_13 : decode cX7_read 13 = .ok (.getfield 13, 3) := by decide +kernel
theorem dX7_read_16 : decode cX7_read 16 = .ok (.invokespecial 68, 3) := by decide +kernel
set_option maxRecDepth 20000 in
theorem ggX7_read_X4_init : GoodIn wsX7_read wsX4_init := goodIn_ca (goodIn_r _ [14, 15, 16, 17, 18, 19, 20, 21, 22, 23, 24, 25, 26, 27, 28, 29, 30, 31, 32, 33, 34, 35, 36, 37, 38, 39, 40, 41, 42, 43, 44, 45, 46, 47, 48, 229, 230, 231, 232, 233, 234, 235, 246, 247, 248, 249, 250, 251, 252, 253, 254, 255, 256] (by decide +kernel) (by decide +kernel)) (goodIn_sub (fun _ h => List.mem_cons_of_mem _ (List.mem_append_left _ (List.mem_append_left _ (List.mem_append_right _ h)))) (by decide +kernel))
set_option maxRecDepth 20000 in
theorem gX7_read_X4_init : GoodIn wsX7_read (wsX4_init) := ggX7_read_X4_init
theorem yY_X4_init : jY yX4_init wsX4_init cX4_init 3 none 2 := ⟨⟨_, rfl⟩, by decide +kernel, by decide +kernel, by decide +kernel⟩
theorem dX7_read_19 : decode cX7_read 19 = .ok (.astore_n 2, 1) := by decide +kernel
theorem dX7_read_20 : decode cX7_read 20 = .ok (.aload_n 0, 1) := by decide +kernel
theorem dX7_read_21 : decode cX7_read 21 = .ok (.aload_n 2, 1) := by decide +kernel
theorem dX7_read_22 : decode cX7_read 22 = .ok (.aload_n 2, 1) := by decide +kernel
theorem dX7_read_23 : decode cX7_read 23 = .ok (.invokevirtual 71, 3) := by decide +kernel
set_option maxRecDepth 20000 in
theorem ggX7_read_X4_readRows : GoodIn wsX7_read wsX4_readRows := goodIn_ca (goodIn_r _ [52, 15, 16, 18, 53, 54, 55, 56, 22, 57, 36, 58, 59, 60, 3, 61, 17, 62, 63, 64, 65, 66, 67, 68, 69, 70, 71, 27, 72, 73, 74, 75, 76, 28, 77, 78, 79, 80, 81, 82, 83, 84, 85, 86, 87, 88, 89, 90, 91, 92, 93, 94, 95, 96, 97, 34, 31, 35, 98, 30, 32, 99, 100, 101, 102, 19, 103, 104, 105, 106, 107, 8, 108, 109, 110, 111, 37, 38, 39, 40, 41, 42, 43, 44, 45, 46, 47, 25, 26, 48, 112, 113, 114, 115, 116, 117, 118, 119, 120, 121, 122, 123, 124, 125, 126, 127, 128, 129, 130, 131, 132, 133, 134, 135, 136, 137, 138, 139, 140, 141, 142, 143, 144, 145, 146, 147, 148, 149, 150, 151, 152, 153, 154, 155, 156, 157, 158, 159, 160, 161, 162, 163, 229, 230, 231, 232, 233, 234, 235, 246, 247, 248, 249, 250, 251, 252, 253, 254, 255, 256] (by decide +kernel) (by decide +kernel)) (goodIn_sub (fun _ h => List.mem_cons_of_mem _ (List.mem_append_left _ (List.mem_append_left _ (List.mem_append_right _ h)))) (by decide +kernel))
set_option maxRecDepth 20000 in
theorem gX7_read_X4_readRows : GoodIn wsX7_read (wsV RX7 71 RX4 yX4_readRows wsX4_readRows) := goodIn_app (goodIn_of _ (by decide +kernel)) ggX7_read_X4_readRows
theorem yY_X4_readRows : jY yX4_readRows wsX4_readRows cX4_readRows 2 (some .boolean) 0 := ⟨⟨_, rfl⟩, by decide +kernel, by decide +kernel, by decide +kernel⟩
theorem dX7_read_26 : decode cX7_read 26 = .ok (.invokevirtual 75, 3) := by decide +kernel
set_option maxRecDepth 20000 in
theorem ggX7_read_X7_finishReading : GoodIn wsX7_read wsX7_finishReading := goodIn_ca (goodIn_r _ [167, 168, 169, 5, 170, 171, 172, 173, 174, 22, 175, 27, 176, 236, 237, 238, 239, 240, 241, 242, 243, 244, 245, 246, 247, 248, 249, 250, 251, 252, 253, 254, 255, 229, 230, 231, 232, 233, 234, 235] (by decide +kernel) (by decide +kernel)) (goodIn_sub (fun _ h => List.mem_cons_of_mem _ (List.mem_append_left _ (List.mem_append_right _ h))) (by decide +kernel))
set_option maxRecDepth 20000 in
theorem gX7_read_X7_finishReading : GoodIn wsX7_read (wsV RX7 75 RX7 yX7_finishReading wsX7_finishReading) := goodIn_app (goodIn_of _ (by decide +kernel)) ggX7_read_X7_finishReading
theorem yY_X7_finishReading : jY yX7_finishReading wsX7_finishReading cX7_finishReading 3 none 2 := ⟨⟨_, rfl⟩, by decide +kernel, by decide +kernel, by decide +kernel⟩
theorem dX7_read_29 : decode cX7_read 29 = .ok (.aload_n 2, 1) := by decide +kernel
theorem dX7_read_30 : decode cX7_read 30 = .ok (.invokevirtual 79, 3) := by decide +kernel
set_option maxRecDepth 20000 in
theorem ggX7_read_X4_hasPrerelease99 : GoodIn wsX7_read wsX4_hasPrerelease99 := goodIn_r _ [180, 19, 229, 230, 231, 232, 233, 234, 235] (by decide +kernel) (by decide +kernel)
set_option maxRecDepth 20000 in
theorem gX7_read_X4_hasPrerelease99 : GoodIn wsX7_read (wsV RX7 79 RX4 yX4_hasPrerelease99 wsX4_hasPrerelease99) := goodIn_app (goodIn_of _ (by decide +kernel)) ggX7_read_X4_hasPrerelease99
theorem yY_X4_hasPrerelease99 : jY yX4_hasPrerelease99 wsX4_hasPrerelease99 cX4_hasPrerelease99 1 (some .boolean) 0 := ⟨⟨_, rfl⟩, by decide +kernel, by decide +kernel, by decide +kernel⟩
theorem dX7_read_33 : decode cX7_read 33 = .ok (.ifCond .eq 8, 3) := by decide +kernel
theorem dX7_read_41 : decode cX7_read 41 = .ok (.aload_n 2, 1) := by decide +kernel
theorem dX7_read_42 : decode cX7_read 42 = .ok (.invokevirtual 85, 3) := by decide +kernel
set_option maxRecDepth 20000 in
theorem ggX7_read_X4_range : GoodIn wsX7_read wsX4_range := goodIn_r _ [191, 15, 229, 230, 231, 232, 233, 234, 235] (by decide +kernel) (by decide +kernel)
set_option maxRecDepth 20000 in
theorem gX7_read_X4_range : GoodIn wsX7_read (wsV RX7 85 RX4 yX4_range wsX4_range) := goodIn_app (goodIn_of _ (by decide +kernel)) ggX7_read_X4_range
theorem yY_X4_range : jY yX4_range wsX4_range cX4_range 1 (some (.object "VersionAlgebra$Range")) 0 := ⟨⟨_, rfl⟩, by decide +kernel, by decide +kernel, by decide +kernel⟩
theorem dX7_read_45 : decode cX7_read 45 = .ok (.astore_n 3, 1) := by decide +kernel
theorem dX7_read_46 : decode cX7_read 46 = .ok (.aload_n 3, 1) := by decide +kernel
theorem dX7_read_47 : decode cX7_read 47 = .ok (.invokevirtual 89, 3) := by decide +kernel
set_option maxRecDepth 20000 in
theorem ggX7_read_X3_isTooLong : GoodIn wsX7_read wsX3_isTooLong := goodIn_r _ [195, 117, 118, 119, 39, 120, 48, 256] (by decide +kernel) (by decide +kernel)
set_option maxRecDepth 20000 in
theorem gX7_read_X3_isTooLong : GoodIn wsX7_read (wsV RX7 89 RX3 yX3_isTooLong wsX3_isTooLong) := goodIn_app (goodIn_of _ (by decide +kernel)) ggX7_read_X3_isTooLong
theorem dX7_read_50 : decode cX7_read 50 = .ok (.ifCond .eq 8, 3) := by decide +kernel
theorem dX7_read_58 : decode cX7_read 58 = .ok (.aload_n 0, 1) := by decide +kernel
theorem dX7_read_59 : decode cX7_read 59 = .ok (.iload_n 1, 1) := by decide +kernel
theorem dX7_read_60 : decode cX7_read 60 = .ok (.aload_n 3, 1) := by decide +kernel
theorem dX7_read_61 : decode cX7_read 61 = .ok (.invokevirtual 94, 3) := by decide +kernel
set_option maxRecDepth 20000 in
theorem ggX7_read_X7_change : GoodIn wsX7_read wsX7_change := goodIn_r _ [199, 200, 201, 202, 203, 204, 205, 206, 207, 208, 209, 210, 30, 31, 32, 211, 212, 213, 214, 215, 216, 217, 218, 156, 157, 158, 219, 220, 221, 222, 223, 224, 225, 226, 227, 236, 237, 238, 239, 240, 241, 242, 243, 244, 245, 257, 258, 259, 260, 261, 262] (by decide +kernel) (by decide +kernel)
set_option maxRecDepth 20000 in
theorem gX7_read_X7_change : GoodIn wsX7_read (wsV RX7 94 RX7 yX7_change wsX7_change) := goodIn_app (goodIn_of _ (by decide +kernel)) ggX7_read_X7_change
theorem dX7_read_64 : decode cX7_read 64 = .ok (.aload_n 3, 1) := by decide +kernel
theorem dX7_read_65 : decode cX7_read 65 = .ok (.invokevirtual 98, 3) := by decide +kernel
set_option maxRecDepth 20000 in
theorem ggX7_read_X3_spanCount : GoodIn wsX7_read wsX3_spanCount := goodIn_r _ [120, 48, 256] (by decide +kernel) (by decide +kernel)
set_option maxRecDepth 20000 in
theorem gX7_read_X3_spanCount : GoodIn wsX7_read (wsV RX7 98 RX3 yX3_spanCount wsX3_spanCount) := goodIn_app (goodIn_of _ (by decide +kernel)) ggX7_read_X3_spanCount
theorem dX7_read_68 : decode cX7_read 68 = .ok (.ireturn, 1) := by decide +kernel
theorem dX7_read_53 : decode cX7_read 53 = .ok (.aload_n 0, 1) := by decide +kernel
theorem dX7_read_54 : decode cX7_read 54 = .ok (.iconst 3, 1) := by decide +kernel
theorem dX7_read_55 : decode cX7_read 55 = .ok (.invokevirtual 82, 3) := by decide +kernel
set_option maxRecDepth 20000 in
theorem ggX7_read_X7_refuse : GoodIn wsX7_read wsX7_refuse := goodIn_ca (goodIn_r _ [184, 185, 186, 187, 236, 237, 238, 239, 240, 241, 242, 243, 244, 245] (by decide +kernel) (by decide +kernel)) (goodIn_sub (fun _ h => List.mem_cons_of_mem _ (List.mem_append_right _ h)) (by decide +kernel))
set_option maxRecDepth 20000 in
theorem gX7_read_X7_refuse : GoodIn wsX7_read (wsV RX7 82 RX7 yX7_refuse wsX7_refuse) := goodIn_app (goodIn_of _ (by decide +kernel)) ggX7_read_X7_refuse
theorem dX7_read_36 : decode cX7_read 36 = .ok (.aload_n 0, 1) := by decide +kernel
theorem dX7_read_37 : decode cX7_read 37 = .ok (.iconst 2, 1) := by decide +kernel
theorem dX7_read_38 : decode cX7_read 38 = .ok (.invokevirtual 82, 3) := by decide +kernel
set_option maxHeartbeats 400000 in
set_option maxRecDepth 20000 in
theorem ct_X7_read (l : Launch) (D : va_G) (dA : Nat → ClassId) (hst : l.stackTraces = false) (M : jM) (v : Nat) (A : cA) (hA : jAb M v A) (x : Int32) : jCT l D dA yX7_read wsX7_read (28) (780) (20 + 5 * (cL A + 1)) (80 + 1000 * (cL A + 1)) 1 [.ref (v), .int (x)] M (jPr M v (sRead A x)) := by
  refine jBody (cc := cX7_read) (nL := 4) (rt := (some .int)) (ini := false) (by decide) rfl hst (Nat.le_of_ble_eq_true rfl) (by simp [Value.category]) (by intro h9; first | exact absurd h9 (by decide) | rfl) ?_
  show J l D dA RX7 cX7_read wsX7_read 4 false (some .int) [] (28) (780) (jF D dA (jn M) (jPr M v (sRead A x)) 1) (jn M) (20 + 5 * (cL A + 1)) (80 + 1000 * (cL A + 1)) (M) 0 [.ref (v), .int (x), .float 0, .float 0] []
  obtain ⟨g1, g2, g3, g4, g5, g6, g7, g9⟩ := id hA
  obtain ⟨gx, gH, g8⟩ := id g7
  obtain ⟨ga1, ga2, ga3, ga4, ga5, ga6, ga7, ga8, ga9, ga10, ga11, ga12, ga13⟩ := id g3
  have gc30 := g5.1.2.2.2.2.2.2.2.2.2
  refine J_iload_n dX7_read_0 rfl rfl ?_
  rcases Bool.eq_false_or_eq_true (okSlot ((x))) with ok1 | ok1
  · refine J_callvB (jrunS (As := [.int (x)]) (ct_X7_checkSlot l D dA hst M ((x))) dX7_read_1 yY_X7_checkSlot gX7_read_X7_checkSlot rfl ⟨by omega, by omega⟩ ⟨by omega, by omega⟩ rfl (Nat.le_of_ble_eq_true rfl)) (if_pos ok1) (rfl) ⟨by omega, by omega⟩ ?_
    refine J_new (ci := 8) dX7_read_4 (fun _ h => List.mem_cons_of_mem _ (List.mem_append_left _ (List.mem_append_left _ (List.mem_append_left _ (List.mem_append_left _ (List.mem_append_left _ (List.mem_append_left _ (List.mem_append_left _ (List.mem_append_left _ (List.mem_append_left _ (List.mem_append_right _ (h)))))))))))) cs8 cty8 (List.mem_of_getElem? (i := 1) rfl) (List.mem_of_getElem? (i := 2) rfl) (List.mem_of_getElem? (i := 3) rfl) (by omega) (by omega) (g2) (jOk.ref (show v < jn M from by have := g1.1; omega) (jOk.int (jOk.float (jOk.float jOk.nil)))) jOk.nil ?_
    refine J_dup dX7_read_7 rfl ?_
    refine J_aload_n (v) dX7_read_8 rfl rfl ?_
    refine J_getrs (q := v + 1) (jr_new (M := M) (kd := 8) (len := 0) (by have h9 := (show v < jn M from by have := g1.1; omega); first | exact h9 | (simp only [jn_Nw, jn_Si, jn_Sr, jn_Sv, jn_Sq]; omega)) ga1) dX7_read_9 (fun _ h => List.mem_cons_of_mem _ (List.mem_append_left _ (List.mem_append_left _ (List.mem_append_left _ (List.mem_append_left _ (List.mem_append_left _ (List.mem_append_left _ (List.mem_append_left _ (List.mem_append_left _ (List.mem_append_right _ (h))))))))))) cs10 (by decide) rfl (List.mem_of_getElem? (i := 4) rfl) rfl (by have h9 := (show v < jn M from by have := g1.1; omega); first | exact h9 | (simp only [jn_Nw, jn_Si, jn_Sr, jn_Sv, jn_Sq]; omega)) (jk_new (M := M) (kd := 8) (len := 0) (by have h9 := (show v < jn M from by have := g1.1; omega); first | exact h9 | (simp only [jn_Nw, jn_Si, jn_Sr, jn_Sv, jn_Sq]; omega)) g1.2.1) ?_
    refine J_aload_n (v) dX7_read_12 rfl rfl ?_
    refine J_geti (j := 1) dX7_read_13 (fun _ h => List.mem_cons_of_mem _ (List.mem_append_left _ (List.mem_append_left _ (List.mem_append_left _ (List.mem_append_left _ (List.mem_append_left _ (List.mem_append_left _ (List.mem_append_left _ (List.mem_append_left _ (List.mem_append_right _ (h))))))))))) cs10 (by decide) rfl (List.mem_of_getElem? (i := 5) rfl) rfl (by have h9 := (show v < jn M from by have := g1.1; omega); first | exact h9 | (simp only [jn_Nw, jn_Si, jn_Sr, jn_Sv, jn_Sq]; omega)) (jk_new (M := M) (kd := 8) (len := 0) (by have h9 := (show v < jn M from by have := g1.1; omega); first | exact h9 | (simp only [jn_Nw, jn_Si, jn_Sr, jn_Sv, jn_Sq]; omega)) g1.2.1) ?_
    refine J_topi (y := nI (cL A)) ((ji_new (M := M) (kd := 8) (len := 0) (by have h9 := (show v < jn M from by have := g1.1; omega); first | exact h9 | (simp only [jn_Nw, jn_Si, jn_Sr, jn_Sv, jn_Sq]; omega)) ga8)) ?_
    refine J_callv (jrunI (ret := none) (As := [.ref (v + 1), .int (nI (cL A))]) (ct_X4_init l D dA hst (jNw M 8 0) (jCl_Nw (g2)) (jn M) (Nat.lt_succ_self _) (by simp [jk_Nw]) (v + 1) (cL A) (by have h9 := g1.1; show v + 1 < jn M + 1; omega) (jk_new (by have h9 := g1.1; omega) ga6) (jz_new (by have h9 := g1.1; omega) ga7) ga9) dX7_read_16 yY_X4_init gX7_read_X4_init rfl (List.mem_of_getElem? (i := 3) rfl) (List.mem_of_getElem? (i := 12) rfl) (List.mem_of_getElem? (i := 13) rfl) rfl ⟨by omega, by omega⟩ ⟨by omega, by omega⟩ rfl (Nat.le_of_ble_eq_true rfl)) ⟨by omega, by omega⟩ (Or.inr ⟨(jOk.ref (by have h9 := (show v < jn M from by have := g1.1; omega); first | exact h9 | (simp only [jn_Nw, jn_Si, jn_Sr, jn_Sv, jn_Sq]; omega)) (jOk.int (jOk.float (jOk.float jOk.nil)))), (jOk.ref (by simp [jn_Nw, jn_Si, jn_Sr, jn_Sv] <;> omega) jOk.nil)⟩) (fun E M9 hp _ => by cases hp.1) (fun M2 hp16 hle16 => ?_)
    obtain ⟨-, t9, hX2, hC2, hR2, hr2, hg2⟩ := hp16
    have hE2 : jExt M M2 := jXo.e0 hX2
    have hc9 : ji (jNw M 8 0) (v + 1) = cC A := by funext j; rw [ji_Nw, if_neg (by have h9 := g1.1; omega)]; exact congrFun ga10 j
    rw [hc9] at hR2
    have hA2 := hA.ext hE2 hC2
    obtain ⟨m1, m2, m3, m4, m5, m6, m7, m9⟩ := id hA2
    obtain ⟨mx, mH, m8⟩ := id m7
    obtain ⟨ma1, ma2, ma3, ma4, ma5, ma6, ma7, ma8, ma9, ma10, ma11, ma12, ma13⟩ := id m3
    have mc30 := m5.1.2.2.2.2.2.2.2.2.2
    refine J_astore_n (x := jn M) (lv' := [.ref (v), .int (x), .ref (jn M), .float 0]) dX7_read_19 rfl (by decide) rfl rfl ?_
    refine J_aload_n (v) dX7_read_20 rfl rfl ?_
    refine J_aload_n (jn M) dX7_read_21 rfl rfl ?_
    refine J_aload_n (jn M) dX7_read_22 rfl rfl ?_
    refine J_calli (jrunV (As := []) (ct_X4_readRows l D dA hst M2 (jn M) (v + 1) (cC A) (cL A) 0 0 99999999 false hR2 hC2 t9 0 (fun _ => 0) ⟨jXt.rf, hC2, hR2, hr2, hg2, fun j hj => by omega⟩ rfl) dX7_read_23 yY_X4_readRows gX7_read_X4_readRows rfl cs8 hR2.1.1 hR2.1.2.1 rfl ⟨by omega, by omega⟩ ⟨by omega, by omega⟩ rfl (Nat.le_of_ble_eq_true rfl)) ⟨by omega, by omega⟩ (Or.inr ⟨(jOk.ref (show v < jn M2 from by have := m1.1; omega) (jOk.int (jOk.ref hR2.1.1 (jOk.float jOk.nil)))), (jOk.ref hR2.1.1 (jOk.ref (show v < jn M2 from by have := m1.1; omega) jOk.nil))⟩) (fun E M9 hp _ => by obtain ⟨_, h1, _⟩ := hp; cases h1) (fun x9 M3 hp23 hle23 => ?_)
    obtain ⟨t8, hx8, hW3⟩ := hp23
    obtain ⟨z, hz⟩ : ∃ z, z = rdZ A := ⟨_, rfl⟩
    rw [show rRs (cC A) (cL A) (cL A + 1) 0 0 99999999 false 0 (fun _ => 0) = z from hz.symm] at hx8 hW3
    cases hx8
    obtain ⟨w1, w2, w3, w4, w5, w6⟩ := id hW3
    have hE3 : jExt M M3 := hE2.xt2 w1
    have hA3 := hA.ext hE3 w2
    obtain ⟨n1, n2, n3, n4, n5, n6, n7, n9⟩ := id hA3
    obtain ⟨nx, nH, n8⟩ := id n7
    obtain ⟨na1, na2, na3, na4, na5, na6, na7, na8, na9, na10, na11, na12, na13⟩ := id n3
    have nc30 := n5.1.2.2.2.2.2.2.2.2.2
    refine J_callv (jrunV (As := [.ref (jn M), .int (jb (z.1.1))]) (ct_X7_finishReading_8 l D dA hst M3 v A hA3 (jn M) (v + 1) (cC A) (cL A) z.1.2.1 w3.1 z.1.1) dX7_read_26 yY_X7_finishReading gX7_read_X7_finishReading rfl cs10 (show v < jn M3 from by have := n1.1; omega) n1.2.1 rfl ⟨by omega, by omega⟩ ⟨by omega, by omega⟩ rfl (Nat.le_of_ble_eq_true rfl)) ⟨by omega, by omega⟩ (Or.inr ⟨(jOk.ref (show v < jn M3 from by have := n1.1; omega) (jOk.int (jOk.ref w3.1.1 (jOk.float jOk.nil)))), jOk.nil⟩) (fun E9 M9 hp9 _ => by
        rcases hz1 : z.1.1 with _ | _
        · rw [hz1] at hp9; obtain ⟨h1, h2, h3⟩ := hp9; cases h1; exact JX_out rfl (by unfold sRead; rw [sSl_t ok1, ← hz]; unfold sRdZ; rw [if_neg (by rw [hz1]; decide)]; exact ⟨rfl, h2, hE3.fv.tr h3⟩)
        · rw [hz1] at hp9; cases hp9.1) (fun M4 hp26 hle26 => ?_)
    have hz1 : z.1.1 = true := by
        rcases hz1 : z.1.1 with _ | _
        · rw [hz1] at hp26; cases hp26.1
        · rfl
    rw [hz1] at hp26
    have hA4 : jAb M4 v (cFin A (-1)) := hp26.2.1
    have hf4 : jFv v M3 M4 := hp26.2.2
    obtain ⟨o1, o2, o3, o4, o5, o6, o7, o9⟩ := id hA4
    obtain ⟨ox, oH, o8⟩ := id o7
    obtain ⟨oa1, oa2, oa3, oa4, oa5, oa6, oa7, oa8, oa9, oa10, oa11, oa12, oa13⟩ := id o3
    have oc30 := o5.1.2.2.2.2.2.2.2.2.2
    have hv9 := hA.1.1
    have hR4 := w3.fv hf4 (by omega) oa10
    have hk4 := hf4.rk n1
    have hr4 : jr M4 (jn M) 3 = some t8 := by rw [(hf4.2.2.1 (jn M) w3.1.1 (Or.inr (by omega)) (by rw [w3.1.2.1]; decide)).2.1]; exact w4
    have hg4 := w5.rk hk4
    have hi4 : ∀ j, j < 2 * z.2.1 → ji M4 (t8 + 1) j = z.2.2 j := fun j hj => by rw [(hk4.2.2 t8 _ w5).2]; exact w6 j hj
    refine J_aload_n (jn M) dX7_read_29 rfl rfl ?_
    refine J_calli0 (jrunV (As := []) (ct_X4_hasPrerelease99 l D dA hst M4 (jn M) (v + 1) (cC A) (cL A) z.1.2.1 z.1.2.2.1 z.1.2.2.2.1 z.1.2.2.2.2 hR4) dX7_read_30 yY_X4_hasPrerelease99 gX7_read_X4_hasPrerelease99 rfl cs8 hR4.1.1 hR4.1.2.1 rfl ⟨by omega, by omega⟩ ⟨Nat.zero_le _, Nat.zero_le _⟩ rfl (Nat.le_of_ble_eq_true rfl)) (rfl) (jn_RS _ _ _ _ _ _) ?_
    refine J_mem (M' := M4) hR4.self.symm ?_
    refine J_if_eq dX7_read_33 (tgt := 41) (by decide) (fun c33 => ?_) (fun c33 => ?_)
    · have c33 := jb0T c33
      refine J_aload_n (jn M) dX7_read_41 rfl rfl ?_
      refine J_callq0 (jrunV (As := []) (ct_X4_range l D dA hst M4 (jn M) t8 hR4.1.1 hR4.1.2.1 hr4) dX7_read_42 yY_X4_range gX7_read_X4_range rfl cs8 hR4.1.1 hR4.1.2.1 rfl ⟨by omega, by omega⟩ ⟨Nat.zero_le _, Nat.zero_le _⟩ rfl (Nat.le_of_ble_eq_true rfl)) (rfl) (rfl) ?_
      refine J_astore_n (x := t8) (lv' := [.ref (v), .int (x), .ref (jn M), .ref (t8)]) dX7_read_45 rfl (by decide) rfl rfl ?_
      refine J_aload_n (t8) dX7_read_46 rfl rfl ?_
      refine J_calli0 (jrunV (As := []) (ct_X3_isTooLong l D dA hst M4 t8 z.2.1 hg4) dX7_read_47 yY_X3_isTooLong gX7_read_X3_isTooLong rfl cs7 (Nat.lt_of_succ_lt hg4.1) hg4.2.1 rfl ⟨by omega, by omega⟩ ⟨Nat.zero_le _, Nat.zero_le _⟩ rfl (Nat.le_of_ble_eq_true rfl)) (rfl) (rfl) ?_
      refine J_if_eq dX7_read_50 (tgt := 58) (by decide) (fun c50 => ?_) (fun c50 => ?_)
      · have c50 := jb0T c50
        refine J_aload_n (v) dX7_read_58 rfl rfl ?_
        refine J_iload_n dX7_read_59 rfl rfl ?_
        refine J_aload_n (t8) dX7_read_60 rfl rfl ?_
        refine J_callv (jrunV (As := [.int (x), .ref (t8)]) (ct_X7_change l D dA hst M4 v ((cFin A (-1))) hA4 ((x)) ok1 (some t8) (some z.2) ⟨hg4, hi4⟩ (fun w hw => by cases hw; exact Nat.not_lt.mp (of_decide_eq_false c50))) dX7_read_61 yY_X7_change gX7_read_X7_change rfl cs10 (show v < jn M4 from by have := o1.1; omega) o1.2.1 rfl ⟨by omega, by omega⟩ ⟨Nat.zero_le _, Nat.zero_le _⟩ rfl (Nat.le_of_ble_eq_true rfl)) ⟨Nat.zero_le _, Nat.zero_le _⟩ (Or.inr ⟨(jOk.ref (show v < jn M4 from by have := o1.1; omega) (jOk.int (jOk.ref hR4.1.1 (jOk.ref (Nat.lt_of_succ_lt hg4.1) jOk.nil)))), jOk.nil⟩) (fun E M9 hp _ => by cases hp.1) (fun K hp61 hle61 => ?_)
        obtain ⟨-, hAK, hfK⟩ := hp61
        obtain ⟨k1, k2, k3, k4, k5, k6, k7, k9⟩ := id hAK
        obtain ⟨kx, kH, k8⟩ := id k7
        obtain ⟨ka1, ka2, ka3, ka4, ka5, ka6, ka7, ka8, ka9, ka10, ka11, ka12, ka13⟩ := id k3
        have kc30 := k5.1.2.2.2.2.2.2.2.2.2
        refine J_aload_n (t8) dX7_read_64 rfl rfl ?_
        refine J_calli0 (jrunV (As := []) (ct_X3_spanCount l D dA hst K t8 z.2.1 (hg4.rk (hfK.rk o1))) dX7_read_65 yY_X3_spanCount gX7_read_X3_spanCount rfl cs7 (Nat.lt_of_succ_lt (hg4.rk (hfK.rk o1)).1) (hg4.rk (hfK.rk o1)).2.1 rfl ⟨by omega, by omega⟩ ⟨Nat.zero_le _, Nat.zero_le _⟩ rfl (Nat.le_of_ble_eq_true rfl)) (rfl) (rfl) ?_
        exact J_iret (ty := .int) dX7_read_68 rfl (rfl) (by unfold sRead; rw [sSl_t ok1, ← hz]; unfold sRdZ; rw [if_pos hz1, if_neg (by rw [c33]; decide), if_neg (of_decide_eq_false c50)]; exact ⟨rfl, hAK, (hE3.fv.tr hf4).tr hfK⟩)
      · have c50 := jb0F c50
        refine J_aload_n (v) dX7_read_53 rfl rfl ?_
        refine J_iconst (x := 3) dX7_read_54 (by decide) ?_
        exact J_callv (jrunV (As := [.int (3)]) (ct_X7_refuse l D dA hst M4 v (cFin A (-1)) hA4 ((3))) dX7_read_55 yY_X7_refuse gX7_read_X7_refuse rfl cs10 (show v < jn M4 from by have := o1.1; omega) o1.2.1 rfl ⟨by omega, by omega⟩ ⟨by omega, by omega⟩ rfl (Nat.le_of_ble_eq_true rfl)) ⟨by omega, by omega⟩ (Or.inr ⟨(jOk.ref (show v < jn M4 from by have := o1.1; omega) (jOk.int (jOk.ref hR4.1.1 (jOk.ref (Nat.lt_of_succ_lt hg4.1) jOk.nil)))), jOk.nil⟩) (fun E9 M9 hp9 _ => by obtain ⟨h1, h2, h3⟩ := hp9; cases h1; exact JX_out rfl (by unfold sRead; rw [sSl_t ok1, ← hz]; unfold sRdZ; rw [if_pos hz1, if_neg (by rw [c33]; decide), if_pos (of_decide_eq_true c50)]; exact ⟨rfl, h2, (hE3.fv.tr hf4).tr h3⟩)) (fun M9 hp9 _ => by cases hp9.1)
    · have c33 := jb0F c33
      refine J_aload_n (v) dX7_read_36 rfl rfl ?_
      refine J_iconst (x := 2) dX7_read_37 (by decide) ?_
      exact J_callv (jrunV (As := [.int (2)]) (ct_X7_refuse l D dA hst M4 v (cFin A (-1)) hA4 ((2))) dX7_read_38 yY_X7_refuse gX7_read_X7_refuse rfl cs10 (show v < jn M4 from by have := o1.1; omega) o1.2.1 rfl ⟨by omega, by omega⟩ ⟨by omega, by omega⟩ rfl (Nat.le_of_ble_eq_true rfl)) ⟨by omega, by omega⟩ (Or.inr ⟨(jOk.ref (show v < jn M4 from by have := o1.1; omega) (jOk.int (jOk.ref hR4.1.1 (jOk.float jOk.nil)))), jOk.nil⟩) (fun E9 M9 hp9 _ => by obtain ⟨h1, h2, h3⟩ := hp9; cases h1; exact JX_out rfl (by unfold sRead; rw [sSl_t ok1, ← hz]; unfold sRdZ; rw [if_pos hz1, if_pos c33]; exact ⟨rfl, h2, (hE3.fv.tr hf4).tr h3⟩)) (fun M9 hp9 _ => by cases hp9.1)
  · refine J_callvX (jrunS (As := [.int (x)]) (ct_X7_checkSlot l D dA hst M ((x))) dX7_read_1 yY_X7_checkSlot gX7_read_X7_checkSlot rfl ⟨by omega, by omega⟩ ⟨by omega, by omega⟩ rfl (Nat.le_of_ble_eq_true rfl)) (if_neg (by rw [ok1]; decide)) ⟨by omega, by omega⟩ (Or.inl rfl) ?_
    exact JX_out rfl (by unfold sRead; rw [sSl_f ok1]; exact ⟨rfl, hA, jFv.rf⟩)

