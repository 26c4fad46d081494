def sApp (A : cA) (c : Int32) : cR := if 60 ≤ cL A then (oX xISE, A) else (oV, cApp A c)
def sFin (A : cA) (w : Bool) (p : Nat) : cR := (if w then oV else oX xIAE, cFin A (if w then -1 else nI p))
theorem jRd.fin {M : jM} {t k sg : Nat} {c : Nat → Int32} {L p v j : Nat} {x : Int32} (h : jRd M t k sg c L p) (hk : jk M v = 10) (h8 : k ≠ 10) : jRd (jSi M v j x) t k sg c L p := by
  obtain ⟨f1, f2, f3, f4, f5, f6, f7, f8, f9, f10, f11, f12⟩ := h
  have e1 : t ≠ v := fun e => by rw [e, hk] at f2; exact h8 f2.symm
  have e2 : sg ≠ v := fun e => by rw [e, hk] at f5; exact absurd f5 (by decide)
  refine ⟨f1, f2, f3, f4, f5, f6, ?_, ?_, f9, ?_, f11, f12⟩
  · funext i; rw [ji_Si, if_neg (fun h => e2 h.1)]; exact congrFun f7 i
  · rw [ji_Si, if_neg (fun h => e1 h.1)]; exact f8
  · rw [ji_Si, if_neg (fun h => e1 h.1)]; exact f10
theorem dX7_append_0 : decode cX7_append 0 = .ok (.aload_n 0, 1) := by decide +kernel
theorem dX7_append_1 : decode cX7_append 1 = .ok (.getfield 13, 3) := by decide +kernel
theorem dX7_append_4 : decode cX7_append 4 = .ok (.bipush 60, 2) := by decide +kernel
theorem dX7_append_6 : decode cX7_append 6 = .ok (.if_icmp .lt 13, 3) := by decide +kernel
theorem dX7_append_19 : decode cX7_append 19 = .ok (.aload_n 0, 1) := by decide +kernel
theorem dX7_append_20 : decode cX7_append 20 = .ok (.getfield 9, 3) := by decide +kernel
theorem dX7_append_23 : decode cX7_append 23 = .ok (.aload_n 0, 1) := by decide +kernel
theorem dX7_append_24 : decode cX7_append 24 = .ok (.getfield 13, 3) := by decide +kernel
theorem dX7_append_27 : decode cX7_append 27 = .ok (.iload_n 1, 1) := by decide +kernel
theorem dX7_append_28 : decode cX7_append 28 = .ok (.castore, 1) := by decide +kernel
theorem dX7_append_29 : decode cX7_append 29 = .ok (.aload_n 0, 1) := by decide +kernel
theorem dX7_append_30 : decode cX7_append 30 = .ok (.dup, 1) := by decide +kernel
theorem dX7_append_31 : decode cX7_append 31 = .ok (.getfield 13, 3) := by decide +kernel
theorem dX7_append_34 : decode cX7_append 34 = .ok (.iconst 1, 1) := by decide +kernel
theorem dX7_append_35 : decode cX7_append 35 = .ok (.iadd, 1) := by decide +kernel
theorem dX7_append_36 : decode cX7_append 36 = .ok (.putfield 13, 3) := by decide +kernel
theorem dX7_append_39 : decode cX7_append 39 = .ok (.return_, 1) := by decide +kernel
theorem dX7_append_9 : decode cX7_append 9 = .ok (.new 55, 3) := by decide +kernel
theorem thr_RX7_59_57_s : (RX7, 57, "the text buffer is full") ∈ jStrs := List.mem_of_getElem? (i := 0) rfl
theorem dX7_append_12 : decode cX7_append 12 = .ok (.dup, 1) := by decide +kernel
theorem dX7_append_13 : decode cX7_append 13 = .ok (.ldc 57, 2) := by decide +kernel
theorem dX7_append_15 : decode cX7_append 15 = .ok (.invokespecial 59, 3) := by decide +kernel
theorem dX7_append_18 : decode cX7_append 18 = .ok (.athrow, 1) := by decide +kernel
set_option maxHeartbeats 400000 in
set_option maxRecDepth 20000 in
theorem ct_X7_append (l : Launch) (D : va_G) (dA : Nat → ClassId) (hst : l.stackTraces = false) (M : jM) (v : Nat) (A : cA) (hA : jAb M v A) (c : Int32) (hc : vp_nar .char c = c) : jCT l D dA yX7_append wsX7_append (20) (300) (1) (6) 0 [.ref (v), .int (c)] M (jPr M v (sApp A c)) := by
  refine jBody (cc := cX7_append) (nL := 2) (rt := none) (ini := false) (by decide) rfl hst (Nat.le_of_ble_eq_true rfl) (by simp [Value.category]) (by intro h9; first | exact absurd h9 (by decide) | rfl) ?_
  show J l D dA RX7 cX7_append wsX7_append 2 false none [] (20) (300) (jF D dA (jn M) (jPr M v (sApp A c)) 0) (jn M) (1) (6) (M) 0 [.ref (v), .int (c)] []
  obtain ⟨g1, g2, g3, g4, g5, g6, g7, g9⟩ := id hA
  obtain ⟨gx, gH, g8⟩ := id g7
  obtain ⟨ga1, ga2, ga3, ga4, ga5, ga6, ga7, ga8, ga9, ga10, ga11, ga12, ga13⟩ := id g3
  have gc30 := g5.1.2.2.2.2.2.2.2.2.2
  refine J_aload_n (v) dX7_append_0 rfl rfl ?_
  refine J_geti (j := 1) dX7_append_1 (fun _ h => List.mem_cons_of_mem _ (List.mem_append_left _ (List.mem_append_left _ (List.mem_append_right _ (h))))) cs10 (by decide) rfl (List.mem_of_getElem? (i := 3) rfl) rfl (show v < jn M from by have := g1.1; omega) g1.2.1 ?_
  refine J_topi (y := nI (cL A)) (ga8) ?_
  refine J_bipush (x := 60) dX7_append_4 (by decide) ?_
  refine J_icmp_lt dX7_append_6 (tgt := 19) (by decide) (fun c6 => ?_) (fun c6 => ?_)
  · have c6 := jltT (a := cL A) (b := 60) (by omega) (by omega) c6
    refine J_aload_n (v) dX7_append_19 rfl rfl ?_
    refine J_getrs (q := v + 1) ga1 dX7_append_20 (fun _ h => List.mem_cons_of_mem _ (List.mem_append_left _ (List.mem_append_left _ (List.mem_append_right _ (h))))) cs10 (by decide) rfl (List.mem_of_getElem? (i := 4) rfl) rfl (show v < jn M from by have := g1.1; omega) g1.2.1 ?_
    refine J_aload_n (v) dX7_append_23 rfl rfl ?_
    refine J_geti (j := 1) dX7_append_24 (fun _ h => List.mem_cons_of_mem _ (List.mem_append_left _ (List.mem_append_left _ (List.mem_append_right _ (h))))) cs10 (by decide) rfl (List.mem_of_getElem? (i := 3) rfl) rfl (show v < jn M from by have := g1.1; omega) g1.2.1 ?_
    refine J_topi (y := nI (cL A)) (ga8) ?_
    refine J_iload_n dX7_append_27 rfl rfl ?_
    refine J_castN (k := cL A) (y := c)  dX7_append_28 (show v + 1 < jn M from by have := g1.1; omega) ga6 (by exact Nat.lt_of_lt_of_eq (show _ < 60 by omega) (Eq.symm ga7)) (by exact Nat.lt_of_le_of_lt (Nat.le_of_eq ga7) (show 60 < 2 ^ 31 by omega)) (by exact hc) ?_
    refine J_aload_n (v) dX7_append_29 rfl rfl ?_
    refine J_dup dX7_append_30 rfl ?_
    refine J_geti (j := 1) dX7_append_31 (fun _ h => List.mem_cons_of_mem _ (List.mem_append_left _ (List.mem_append_left _ (List.mem_append_right _ (h))))) cs10 (by decide) rfl (List.mem_of_getElem? (i := 3) rfl) rfl (show v < jn M from by have := g1.1; omega) g1.2.1 ?_
    refine J_topi (y := nI (cL A)) ((ji_ne_i (by omega) ga8)) ?_
    refine J_iconst (x := 1) dX7_append_34 (by decide) ?_
    refine J_iadd dX7_append_35 ?_
    refine J_topi (y := nI (cL A + 1)) (nI_add (cL A) (1)) ?_
    refine J_puti (j := 1) (x := nI (cL A + 1)) dX7_append_36 (fun _ h => List.mem_cons_of_mem _ (List.mem_append_left _ (List.mem_append_left _ (List.mem_append_right _ (h))))) cs10 cty10 (by decide) rfl (List.mem_of_getElem? (i := 3) rfl) rfl rfl ⟨rfl, rfl⟩ (show v < jn M from by have := g1.1; omega) g1.2.1 ?_
    exact J_vret dX7_append_39 rfl (by unfold sApp; rw [if_neg (by omega)]; exact ⟨rfl, hA.app (by omega), (jSi_fv (by omega) (by omega)).tr (jSi_fv (Nat.le_refl _) (by omega))⟩)
  · have c6 := jltF (a := cL A) (b := 60) (by omega) (by omega) c6
    exact J_throwS (E := "java/lang/IllegalStateException") (text := "the text buffer is full") (names := ["java/lang/RuntimeException", "java/lang/Exception"]) (by decide) (by decide) dX7_append_9 dX7_append_12 dX7_append_13 dX7_append_15 dX7_append_18 (List.mem_of_getElem? (i := 1) rfl) (List.mem_of_getElem? (i := 2) rfl) thr_RX7_59_57_s (fun _ h => List.mem_cons_of_mem _ (List.mem_append_left _ (List.mem_append_right _ (h)))) thr_RX7_59 thr_RX7_59_g rfl (Nat.le_of_ble_eq_true rfl) (by first | decide | (simp only [List.length_cons, List.length_nil]; omega)) (by first | decide | (simp only [List.length_cons, List.length_nil]; omega)) (by omega) (by omega) (by unfold sApp; rw [if_pos (by omega)]; exact ⟨rfl, hA, jFv.rf⟩)

theorem dX7_refuse_0 : decode cX7_refuse 0 = .ok (.aload_n 0, 1) := by decide +kernel
theorem dX7_refuse_1 : decode cX7_refuse 1 = .ok (.iload_n 1, 1) := by decide +kernel
theorem dX7_refuse_2 : decode cX7_refuse 2 = .ok (.putfield 20, 3) := by decide +kernel
theorem dX7_refuse_5 : decode cX7_refuse 5 = .ok (.new 291, 3) := by decide +kernel
theorem thr_RX7_295 : ∀ w ∈ (vy_atS RX7 295 "java/lang/UnsupportedOperationException" ["java/lang/RuntimeException", "java/lang/Exception"]).filter (fun w => !goodWord w), w ∈ jNws := by decide +kernel
theorem thr_RX7_295_g : ∀ w ∈ Cond.classLink RX7 291 "java/lang/UnsupportedOperationException" :: Cond.initialized "java/lang/UnsupportedOperationException" :: vy_atS RX7 295 "java/lang/UnsupportedOperationException" ["java/lang/RuntimeException", "java/lang/Exception"], vx_ot w = true := by decide +kernel
theorem thr_RX7_295_s : (RX7, 293, "the call is refused") ∈ jStrs := List.mem_of_getElem? (i := 3) rfl
theorem dX7_refuse_8 : decode cX7_refuse 8 = .ok (.dup, 1) := by decide +kernel
theorem dX7_refuse_9 : decode cX7_refuse 9 = .ok (.ldc_w 293, 3) := by decide +kernel
theorem dX7_refuse_12 : decode cX7_refuse 12 = .ok (.invokespecial 295, 3) := by decide +kernel
theorem dX7_refuse_15 : decode cX7_refuse 15 = .ok (.athrow, 1) := by decide +kernel
set_option maxHeartbeats 400000 in
set_option maxRecDepth 20000 in
theorem ct_X7_refuse (l : Launch) (D : va_G) (dA : Nat → ClassId) (hst : l.stackTraces = false) (M : jM) (v : Nat) (A : cA) (hA : jAb M v A) (k : Int32) : jCT l D dA yX7_refuse wsX7_refuse (20) (300) (1) (6) 0 [.ref (v), .int (k)] M (jPr M v ((oX xUOE, cRef A k))) := by
  refine jBody (cc := cX7_refuse) (nL := 2) (rt := none) (ini := false) (by decide) rfl hst (Nat.le_of_ble_eq_true rfl) (by simp [Value.category]) (by intro h9; first | exact absurd h9 (by decide) | rfl) ?_
  show J l D dA RX7 cX7_refuse wsX7_refuse 2 false none [] (20) (300) (jF D dA (jn M) (jPr M v ((oX xUOE, cRef A k))) 0) (jn M) (1) (6) (M) 0 [.ref (v), .int (k)] []
  obtain ⟨g1, g2, g3, g4, g5, g6, g7, g9⟩ := id hA
  obtain ⟨gx, gH, g8⟩ := id g7
  obtain ⟨ga1, ga2, ga3, ga4, ga5, ga6, ga7, ga8, ga9, ga10, ga11, ga12, ga13⟩ := id g3
  have gc30 := g5.1.2.2.2.2.2.2.2.2.2
  refine J_aload_n (v) dX7_refuse_0 rfl rfl ?_
  refine J_iload_n dX7_refuse_1 rfl rfl ?_
  refine J_puti (j := 3) (x := (k)) dX7_refuse_2 (fun _ h => List.mem_cons_of_mem _ (List.mem_append_left _ (List.mem_append_right _ (h)))) cs10 cty10 (by decide) rfl (List.mem_of_getElem? (i := 3) rfl) rfl rfl ⟨rfl, rfl⟩ (show v < jn M from by have := g1.1; omega) g1.2.1 ?_
  exact J_throwSW (E := "java/lang/UnsupportedOperationException") (text := "the call is refused") (names := ["java/lang/RuntimeException", "java/lang/Exception"]) (by decide) (by decide) dX7_refuse_5 dX7_refuse_8 dX7_refuse_9 dX7_refuse_12 dX7_refuse_15 (List.mem_of_getElem? (i := 1) rfl) (List.mem_of_getElem? (i := 2) rfl) thr_RX7_295_s (fun _ h => List.mem_cons_of_mem _ (List.mem_append_right _ (h))) thr_RX7_295 thr_RX7_295_g rfl (Nat.le_of_ble_eq_true rfl) (by first | decide | (simp only [List.length_cons, List.length_nil]; omega)) (by first | decide | (simp only [List.length_cons, List.length_nil]; omega)) (by omega) (by omega) (by exact ⟨rfl, hA.ref, jSi_fv (Nat.le_refl _) (by omega)⟩)

theorem dX7_finishReading_0 : decode cX7_finishReading 0 = .ok (.aload_n 0, 1) := by decide +kernel
theorem dX7_finishReading_1 : decode cX7_finishReading 1 = .ok (.iconst 0, 1) := by decide +kernel
theorem dX7_finishReading_2 : decode cX7_finishReading 2 = .ok (.putfield 13, 3) := by decide +kernel
theorem dX7_finishReading_5 : decode cX7_finishReading 5 = .ok (.aload_n 0, 1) := by decide +kernel
theorem dX7_finishReading_6 : decode cX7_finishReading 6 = .ok (.iload_n 2, 1) := by decide +kernel
theorem dX7_finishReading_7 : decode cX7_finishReading 7 = .ok (.ifCond .eq 7, 3) := by decide +kernel
theorem dX7_finishReading_14 : decode cX7_finishReading 14 = .ok (.aload_n 1, 1) := by decide +kernel
theorem dX7_finishReading_15 : decode cX7_finishReading 15 = .ok (.invokevirtual 296, 3) := by decide +kernel
set_option maxRecDepth 20000 in
theorem ggX7_finishReading_X6_position : GoodIn wsX7_finishReading wsX6_position := goodIn_r _ [10, 11, 23, 24, 25, 26, 27, 28, 29, 30, 31, 32, 33, 34, 35, 36, 37, 38, 39] (by decide +kernel) (by decide +kernel)
set_option maxRecDepth 20000 in
theorem gX7_finishReading_X6_position_u296X4 : GoodIn wsX7_finishReading (va_wsU RX7 296 RX4 "VersionAlgebra$TextReader" ⟨"VersionAlgebra$TextReader", "position", "()I"⟩ yX6_position wsX6_position) := goodIn_app (goodIn_of _ (by decide +kernel)) ggX7_finishReading_X6_position
theorem dX7_finishReading_18 : decode cX7_finishReading 18 = .ok (.putfield 17, 3) := by decide +kernel
theorem dX7_finishReading_21 : decode cX7_finishReading 21 = .ok (.iload_n 2, 1) := by decide +kernel
theorem dX7_finishReading_22 : decode cX7_finishReading 22 = .ok (.ifCond .ne 14, 3) := by decide +kernel
theorem dX7_finishReading_36 : decode cX7_finishReading 36 = .ok (.return_, 1) := by decide +kernel
theorem dX7_finishReading_25 : decode cX7_finishReading 25 = .ok (.new 122, 3) := by decide +kernel
theorem thr_RX7_126_301_s : (RX7, 301, "the text has a fault") ∈ jStrs := List.mem_of_getElem? (i := 2) rfl
theorem dX7_finishReading_28 : decode cX7_finishReading 28 = .ok (.dup, 1) := by decide +kernel
theorem dX7_finishReading_29 : decode cX7_finishReading 29 = .ok (.ldc_w 301, 3) := by decide +kernel
theorem dX7_finishReading_32 : decode cX7_finishReading 32 = .ok (.invokespecial 126, 3) := by decide +kernel
theorem dX7_finishReading_35 : decode cX7_finishReading 35 = .ok (.athrow, 1) := by decide +kernel
theorem dX7_finishReading_10 : decode cX7_finishReading 10 = .ok (.iconst (-1), 1) := by decide +kernel
theorem dX7_finishReading_11 : decode cX7_finishReading 11 = .ok (.goto 7, 3) := by decide +kernel
set_option maxHeartbeats 400000 in
set_option maxRecDepth 20000 in
theorem ct_X7_finishReading_8 (l : Launch) (D : va_G) (dA : Nat → ClassId) (hst : l.stackTraces = false) (M : jM) (v : Nat) (A : cA) (hA : jAb M v A) (t sg : Nat) (c : Nat → Int32) (L p : Nat) (hR : jRd M t 8 sg c L p) (b : Bool) : jCT l D dA yX7_finishReading wsX7_finishReading (22) (420) (1) (6) 0 [.ref (v), .ref (t), .int (jb (b))] M (jPr M v (sFin A b p)) := by
  refine jBody (cc := cX7_finishReading) (nL := 3) (rt := none) (ini := false) (by decide) rfl hst (Nat.le_of_ble_eq_true rfl) (by simp [Value.category]) (by intro h9; first | exact absurd h9 (by decide) | rfl) ?_
  show J l D dA RX7 cX7_finishReading wsX7_finishReading 3 false none [] (22) (420) (jF D dA (jn M) (jPr M v (sFin A b p)) 0) (jn M) (1) (6) (M) 0 [.ref (v), .ref (t), .int (jb (b))] []
  obtain ⟨g1, g2, g3, g4, g5, g6, g7, g9⟩ := id hA
  obtain ⟨gx, gH, g8⟩ := id g7
  obtain ⟨ga1, ga2, ga3, ga4, ga5, ga6, ga7, ga8, ga9, ga10, ga11, ga12, ga13⟩ := id g3
  have gc30 := g5.1.2.2.2.2.2.2.2.2.2
  refine J_aload_n (v) dX7_finishReading_0 rfl rfl ?_
  refine J_iconst (x := 0) dX7_finishReading_1 (by decide) ?_
  refine J_puti (j := 1) (x := (0)) dX7_finishReading_2 (fun _ h => List.mem_cons_of_mem _ (List.mem_append_left _ (List.mem_append_left _ (List.mem_append_left _ (List.mem_append_right _ (h)))))) cs10 cty10 (by decide) rfl (List.mem_of_getElem? (i := 3) rfl) rfl rfl ⟨rfl, rfl⟩ (show v < jn M from by have := g1.1; omega) g1.2.1 ?_
  refine J_aload_n (v) dX7_finishReading_5 rfl rfl ?_
  refine J_iload_n dX7_finishReading_6 rfl rfl ?_
  refine J_if_eq dX7_finishReading_7 (tgt := 14) (by decide) (fun c7 => ?_) (fun c7 => ?_)
  · have c7 := jb0T c7
    refine J_aload_n (t) dX7_finishReading_14 rfl rfl ?_
    refine J_calli0 (jrunU (As := []) (ct_X6_position_8 l D dA hst (jSi M v 1 ((0))) t sg c L p (hR.fin g1.2.1 (by decide))) dX7_finishReading_15 yY_X6_position gX7_finishReading_X6_position_u296X4 rfl cs8 hR.1 hR.2.1 rfl ⟨by omega, by omega⟩ ⟨Nat.zero_le _, Nat.zero_le _⟩ rfl (Nat.le_of_ble_eq_true rfl)) (rfl) (rfl) ?_
    refine J_puti (j := 2) (x := nI (p)) dX7_finishReading_18 (fun _ h => List.mem_cons_of_mem _ (List.mem_append_left _ (List.mem_append_left _ (List.mem_append_left _ (List.mem_append_right _ (h)))))) cs10 cty10 (by decide) rfl (List.mem_of_getElem? (i := 4) rfl) rfl rfl ⟨rfl, rfl⟩ (show v < jn M from by have := g1.1; omega) g1.2.1 ?_
    refine J_iload_n dX7_finishReading_21 rfl rfl ?_
    refine J_if_ne dX7_finishReading_22 (tgt := 36) (by decide) (fun c22 => ?_) (fun c22 => ?_)
    · have c22 := jb0F c22
      exact J_vret dX7_finishReading_36 rfl (by first | (exact absurd (c7.symm.trans c22) (by decide)) | (unfold sFin; rw [c7]; exact ⟨rfl, hA.fin⟩) | fail "fin")
    · have c22 := jb0T c22
      exact J_throwSW (E := "java/lang/IllegalArgumentException") (text := "the text has a fault") (names := ["java/lang/RuntimeException", "java/lang/Exception"]) (by decide) (by decide) dX7_finishReading_25 dX7_finishReading_28 dX7_finishReading_29 dX7_finishReading_32 dX7_finishReading_35 (List.mem_of_getElem? (i := 1) rfl) (List.mem_of_getElem? (i := 2) rfl) thr_RX7_126_301_s (fun _ h => List.mem_cons_of_mem _ (List.mem_append_right _ (h))) thr_RX7_126 thr_RX7_126_g rfl (Nat.le_of_ble_eq_true rfl) (by first | decide | (simp only [List.length_cons, List.length_nil]; omega)) (by first | decide | (simp only [List.length_cons, List.length_nil]; omega)) (by omega) (by omega) (by first | (exact absurd (c7.symm.trans c22) (by decide)) | (unfold sFin; rw [c7]; exact ⟨rfl, hA.fin⟩) | fail "fin")
  · have c7 := jb0F c7
    refine J_iconst (x := (-1)) dX7_finishReading_10 (by decide) ?_
    refine J_goto (tgt := 18) dX7_finishReading_11 (by decide) ?_
    refine J_puti (j := 2) (x := (-1)) dX7_finishReading_18 (fun _ h => List.mem_cons_of_mem _ (List.mem_append_left _ (List.mem_append_left _ (List.mem_append_left _ (List.mem_append_right _ (h)))))) cs10 cty10 (by decide) rfl (List.mem_of_getElem? (i := 4) rfl) rfl rfl ⟨rfl, rfl⟩ (show v < jn M from by have := g1.1; omega) g1.2.1 ?_
    refine J_iload_n dX7_finishReading_21 rfl rfl ?_
    refine J_if_ne dX7_finishReading_22 (tgt := 36) (by decide) (fun c22 => ?_) (fun c22 => ?_)
    · have c22 := jb0F c22
      exact J_vret dX7_finishReading_36 rfl (by first | (exact absurd (c7.symm.trans c22) (by decide)) | (unfold sFin; rw [c7]; exact ⟨rfl, hA.fin⟩) | fail "fin")
    · have c22 := jb0T c22
      exact J_throwSW (E := "java/lang/IllegalArgumentException") (text := "the text has a fault") (names := ["java/lang/RuntimeException", "java/lang/Exception"]) (by decide) (by decide) dX7_finishReading_25 dX7_finishReading_28 dX7_finishReading_29 dX7_finishReading_32 dX7_finishReading_35 (List.mem_of_getElem? (i := 1) rfl) (List.mem_of_getElem? (i := 2) rfl) thr_RX7_126_301_s (fun _ h => List.mem_cons_of_mem _ (List.mem_append_right _ (h))) thr_RX7_126 thr_RX7_126_g rfl (Nat.le_of_ble_eq_true rfl) (by first | decide | (simp only [List.length_cons, List.length_nil]; omega)) (by first | decide | (simp only [List.length_cons, List.length_nil]; omega)) (by omega) (by omega) (by first | (exact absurd (c7.symm.trans c22) (by decide)) | (unfold sFin; rw [c7]; exact ⟨rfl, hA.fin⟩) | fail "fin")

set_option maxRecDepth 20000 in
theorem gX7_finishReading_X6_position_u296X1 : GoodIn wsX7_finishReading (va_wsU RX7 296 RX1 "VersionAlgebra$TextReader" ⟨"VersionAlgebra$TextReader", "position", "()I"⟩ yX6_position wsX6_position) := goodIn_app (goodIn_of _ (by decide +kernel)) ggX7_finishReading_X6_position
set_option maxHeartbeats 400000 in
set_option maxRecDepth 20000 in
theorem ct_X7_finishReading_5 (l : Launch) (D : va_G) (dA : Nat → ClassId) (hst : l.stackTraces = false) (M : jM) (v : Nat) (A : cA) (hA : jAb M v A) (t sg : Nat) (c : Nat → Int32) (L p : Nat) (hR : jRd M t 5 sg c L p) (b : Bool) : jCT l D dA yX7_finishReading wsX7_finishReading (22) (420) (1) (6) 0 [.ref (v), .ref (t), .int (jb (b))] M (jPr M v (sFin A b p)) := by
  refine jBody (cc := cX7_finishReading) (nL := 3) (rt := none) (ini := false) (by decide) rfl hst (Nat.le_of_ble_eq_true rfl) (by simp [Value.category]) (by intro h9; first | exact absurd h9 (by decide) | rfl) ?_
  show J l D dA RX7 cX7_finishReading wsX7_finishReading 3 false none [] (22) (420) (jF D dA (jn M) (jPr M v (sFin A b p)) 0) (jn M) (1) (6) (M) 0 [.ref (v), .ref (t), .int (jb (b))] []
  obtain ⟨g1, g2, g3, g4, g5, g6, g7, g9⟩ := id hA
  obtain ⟨gx, gH, g8⟩ := id g7
  obtain ⟨ga1, ga2, ga3, ga4, ga5, ga6, ga7, ga8, ga9, ga10, ga11, ga12, ga13⟩ := id g3
  have gc30 := g5.1.2.2.2.2.2.2.2.2.2
  refine J_aload_n (v) dX7_finishReading_0 rfl rfl ?_
  refine J_iconst (x := 0) dX7_finishReading_1 (by decide) ?_
  refine J_puti (j := 1) (x := (0)) dX7_finishReading_2 (fun _ h => List.mem_cons_of_mem _ (List.mem_append_left _ (List.mem_append_left _ (List.mem_append_left _ (List.mem_append_right _ (h)))))) cs10 cty10 (by decide) rfl (List.mem_of_getElem? (i := 3) rfl) rfl rfl ⟨rfl, rfl⟩ (show v < jn M from by have := g1.1; omega) g1.2.1 ?_
  refine J_aload_n (v) dX7_finishReading_5 rfl rfl ?_
  refine J_iload_n dX7_finishReading_6 rfl rfl ?_
  refine J_if_eq dX7_finishReading_7 (tgt := 14) (by decide) (fun c7 => ?_) (fun c7 => ?_)
  · have c7 := jb0T c7
    refine J_aload_n (t) dX7_finishReading_14 rfl rfl ?_
    refine J_calli0 (jrunU (As := []) (ct_X6_position_5 l D dA hst (jSi M v 1 ((0))) t sg c L p (hR.fin g1.2.1 (by decide))) dX7_finishReading_15 yY_X6_position gX7_finishReading_X6_position_u296X1 rfl cs5 hR.1 hR.2.1 rfl ⟨by omega, by omega⟩ ⟨Nat.zero_le _, Nat.zero_le _⟩ rfl (Nat.le_of_ble_eq_true rfl)) (rfl) (rfl) ?_
    refine J_puti (j := 2) (x := nI (p)) dX7_finishReading_18 (fun _ h => List.mem_cons_of_mem _ (List.mem_append_left _ (List.mem_append_left _ (List.mem_append_left _ (List.mem_append_right _ (h)))))) cs10 cty10 (by decide) rfl (List.mem_of_getElem? (i := 4) rfl) rfl rfl ⟨rfl, rfl⟩ (show v < jn M from by have := g1.1; omega) g1.2.1 ?_
    refine J_iload_n dX7_finishReading_21 rfl rfl ?_
    refine J_if_ne dX7_finishReading_22 (tgt := 36) (by decide) (fun c22 => ?_) (fun c22 => ?_)
    · have c22 := jb0F c22
      exact J_vret dX7_finishReading_36 rfl (by first | (exact absurd (c7.symm.trans c22) (by decide)) | (unfold sFin; rw [c7]; exact ⟨rfl, hA.fin⟩) | fail "fin")
    · have c22 := jb0T c22
      exact J_throwSW (E := "java/lang/IllegalArgumentException") (text := "the text has a fault") (names := ["java/lang/RuntimeException", "java/lang/Exception"]) (by decide) (by decide) dX7_finishReading_25 dX7_finishReading_28 dX7_finishReading_29 dX7_finishReading_32 dX7_finishReading_35 (List.mem_of_getElem? (i := 1) rfl) (List.mem_of_getElem? (i := 2) rfl) thr_RX7_126_301_s (fun _ h => List.mem_cons_of_mem _ (List.mem_append_right _ (h))) thr_RX7_126 thr_RX7_126_g rfl (Nat.le_of_ble_eq_true rfl) (by first | decide | (simp only [List.length_cons, List.length_nil]; omega)) (by first | decide | (simp only [List.length_cons, List.length_nil]; omega)) (by omega) (by omega) (by first | (exact absurd (c7.symm.trans c22) (by decide)) | (unfold sFin; rw [c7]; exact ⟨rfl, hA.fin⟩) | fail "fin")
  · have c7 := jb0F c7
    refine J_iconst (x := (-1)) dX7_finishReading_10 (by decide) ?_
    refine J_goto (tgt := 18) dX7_finishReading_11 (by decide) ?_
    refine J_puti (j := 2) (x := (-1)) dX7_finishReading_18 (fun _ h => List.mem_cons_of_mem _ (List.mem_append_left _ (List.mem_append_left _ (List.mem_append_left _ (List.mem_append_right _ (h)))))) cs10 cty10 (by decide) rfl (List.mem_of_getElem? (i := 4) rfl) rfl rfl ⟨rfl, rfl⟩ (show v < jn M from by have := g1.1; omega) g1.2.1 ?_
    refine J_iload_n dX7_finishReading_21 rfl rfl ?_
    refine J_if_ne dX7_finishReading_22 (tgt := 36) (by decide) (fun c22 => ?_) (fun c22 => ?_)
    · have c22 := jb0F c22
      exact J_vret dX7_finishReading_36 rfl (by first | (exact absurd (c7.symm.trans c22) (by decide)) | (unfold sFin; rw [c7]; exact ⟨rfl, hA.fin⟩) | fail "fin")
    · have c22 := jb0T c22
      exact J_throwSW (E := "java/lang/IllegalArgumentException") (text := "the text has a fault") (names := ["java/lang/RuntimeException", "java/lang/Exception"]) (by decide) (by decide) dX7_finishReading_25 dX7_finishReading_28 dX7_finishReading_29 dX7_finishReading_32 dX7_finishReading_35 (List.mem_of_getElem? (i := 1) rfl) (List.mem_of_getElem? (i := 2) rfl) thr_RX7_126_301_s (fun _ h => List.mem_cons_of_mem _ (List.mem_append_right _ (h))) thr_RX7_126 thr_RX7_126_g rfl (Nat.le_of_ble_eq_true rfl) (by first | decide | (simp only [List.length_cons, List.length_nil]; omega)) (by first | decide | (simp only [List.length_cons, List.length_nil]; omega)) (by omega) (by omega) (by first | (exact absurd (c7.symm.trans c22) (by decide)) | (unfold sFin; rw [c7]; exact ⟨rfl, hA.fin⟩) | fail "fin")

theorem dX7_change_0 : decode cX7_change 0 = .ok (.aload_n 0, 1) := by decide +kernel
theorem dX7_change_1 : decode cX7_change 1 = .ok (.getfield 44, 3) := by decide +kernel
theorem dX7_change_4 : decode cX7_change 4 = .ok (.aload_n 0, 1) := by decide +kernel
theorem dX7_change_5 : decode cX7_change 5 = .ok (.getfield 30, 3) := by decide +kernel
theorem dX7_change_8 : decode cX7_change 8 = .ok (.invokevirtual 219, 3) := by decide +kernel
set_option maxRecDepth 20000 in
theorem ggX7_change_X2_keep : GoodIn wsX7_change wsX2_keep := goodIn_r _ [7, 8, 9, 10, 11, 12, 13, 14, 15, 16, 17, 18, 19, 20, 21, 22, 23, 24, 25, 26, 27, 28, 29, 30, 45, 46, 47, 48, 49, 50] (by decide +kernel) (by decide +kernel)
set_option maxRecDepth 20000 in
theorem gX7_change_X2_keep : GoodIn wsX7_change (wsV RX7 219 RX2 yX2_keep wsX2_keep) := goodIn_app (goodIn_of _ (by decide +kernel)) ggX7_change_X2_keep
theorem yY_X2_keep : jY yX2_keep wsX2_keep cX2_keep 2 none 1 := ⟨⟨_, rfl⟩, by decide +kernel, by decide +kernel, by decide +kernel⟩
theorem dX7_change_11 : decode cX7_change 11 = .ok (.aload_n 0, 1) := by decide +kernel
theorem dX7_change_12 : decode cX7_change 12 = .ok (.getfield 30, 3) := by decide +kernel
theorem dX7_change_15 : decode cX7_change 15 = .ok (.iload_n 1, 1) := by decide +kernel
theorem dX7_change_16 : decode cX7_change 16 = .ok (.aload_n 2, 1) := by decide +kernel
theorem dX7_change_17 : decode cX7_change 17 = .ok (.invokevirtual 303, 3) := by decide +kernel
set_option maxRecDepth 20000 in
theorem ggX7_change_X5_setRange : GoodIn wsX7_change wsX5_setRange := goodIn_r _ [34, 20, 48, 49, 50] (by decide +kernel) (by decide +kernel)
set_option maxRecDepth 20000 in
theorem gX7_change_X5_setRange : GoodIn wsX7_change (wsV RX7 303 RX5 yX5_setRange wsX5_setRange) := goodIn_app (goodIn_of _ (by decide +kernel)) ggX7_change_X5_setRange
theorem yY_X5_setRange : jY yX5_setRange wsX5_setRange cX5_setRange 3 none 2 := ⟨⟨_, rfl⟩, by decide +kernel, by decide +kernel, by decide +kernel⟩
theorem dX7_change_20 : decode cX7_change 20 = .ok (.return_, 1) := by decide +kernel
set_option maxHeartbeats 400000 in
set_option maxRecDepth 20000 in
theorem ct_X7_change (l : Launch) (D : va_G) (dA : Nat → ClassId) (hst : l.stackTraces = false) (M : jM) (v : Nat) (A : cA) (hA : jAb M v A) (x : Int32) (hx : okSlot x = true) (r9 : Option Nat) (x9 : Option rVl) (hr : jVa M r9 x9) (h16 : v16 x9) : jCT l D dA yX7_change wsX7_change (24) (540) (0) (0) 0 [.ref (v), .int (x), va_rf (r9)] M (jPr M v ((oV, cPut A x.toNatClampNeg x9))) := by
  refine jBody (cc := cX7_change) (nL := 3) (rt := none) (ini := false) (by decide) rfl hst (Nat.le_of_ble_eq_true rfl) (by simp only [List.forall_mem_cons, jcat_rf]; simp [Value.category]) (by intro h9; first | exact absurd h9 (by decide) | rfl) ?_
  show J l D dA RX7 cX7_change wsX7_change 3 false none [] (24) (540) (jF D dA (jn M) (jPr M v ((oV, cPut A x.toNatClampNeg x9))) 0) (jn M) (0) (0) (M) 0 [.ref (v), .int (x), va_rf (r9)] []
  obtain ⟨g1, g2, g3, g4, g5, g6, g7, g9⟩ := id hA
  obtain ⟨gx, gH, g8⟩ := id g7
  obtain ⟨ga1, ga2, ga3, ga4, ga5, ga6, ga7, ga8, ga9, ga10, ga11, ga12, ga13⟩ := id g3
  have gc30 := g5.1.2.2.2.2.2.2.2.2.2
  refine J_aload_n (v) dX7_change_0 rfl rfl ?_
  refine J_getrs (q := v + 8) ga4 dX7_change_1 (fun _ h => List.mem_cons_of_mem _ (List.mem_append_left _ (List.mem_append_left _ (List.mem_append_right _ (h))))) cs10 (by decide) rfl (List.mem_of_getElem? (i := 1) rfl) rfl (show v < jn M from by have := g1.1; omega) g1.2.1 ?_
  refine J_aload_n (v) dX7_change_4 rfl rfl ?_
  refine J_getrs (q := v + 2) ga2 dX7_change_5 (fun _ h => List.mem_cons_of_mem _ (List.mem_append_left _ (List.mem_append_left _ (List.mem_append_right _ (h))))) cs10 (by decide) rfl (List.mem_of_getElem? (i := 2) rfl) rfl (show v < jn M from by have := g1.1; omega) g1.2.1 ?_
  refine J_callv0 (jrunV (As := [.ref (v + 2)]) (ct_X2_keep l D dA hst M (v + 8) gx (cKp A) gH (v + 2) (cNw A).2.1 g5.1 g5.slots (by omega)) dX7_change_8 yY_X2_keep gX7_change_X2_keep rfl cs6 (show v + 8 < jn M from by have := g1.1; omega) gH.2.1 rfl ⟨by omega, by omega⟩ ⟨Nat.zero_le _, Nat.zero_le _⟩ rfl (Nat.le_of_ble_eq_true rfl)) (rfl) (rfl) ?_
  obtain ⟨K, hK⟩ : ∃ Kz9, Kz9 = jKM M v gx (cKp A) := ⟨_, rfl⟩
  have hAK : jAb K v (cKeep A) := by rw [hK]; exact hA.keep gH g8 (jKM_f M v gx (cKp A))
  have hfK : jFv v M K := by rw [hK]; exact (jFv.rf).tr ((jKM_f M v gx (cKp A)).fv gH.2.2.2.2.2.2.2.2.2.1)
  refine J_mem (M' := K) hK.symm ?_
  obtain ⟨k1, k2, k3, k4, k5, k6, k7, k9⟩ := id hAK
  obtain ⟨kx, kH, k8⟩ := id k7
  obtain ⟨ka1, ka2, ka3, ka4, ka5, ka6, ka7, ka8, ka9, ka10, ka11, ka12, ka13⟩ := id k3
  have kc30 := k5.1.2.2.2.2.2.2.2.2.2
  refine J_aload_n (v) dX7_change_11 rfl rfl ?_
  refine J_getrs (q := v + 2) ka2 dX7_change_12 (fun _ h => List.mem_cons_of_mem _ (List.mem_append_left _ (List.mem_append_left _ (List.mem_append_right _ (h))))) cs10 (by decide) rfl (List.mem_of_getElem? (i := 2) rfl) rfl (show v < jn K from by have := k1.1; omega) k1.2.1 ?_
  refine J_iload_n dX7_change_15 rfl rfl ?_
  refine J_aload_nq (r9) dX7_change_16 rfl rfl ?_
  refine J_callv0 (jrunV (As := [.int (x), va_rf (r9)]) (ct_X5_setRange l D dA hst K (v + 2) (cNw (cKeep A)).2.1 k5.1 ((x)) r9 (jVa_k (hr.rk (hfK.rk g1)))) dX7_change_17 yY_X5_setRange gX7_change_X5_setRange rfl cs9 (show v + 2 < jn K from by have := k1.1; omega) k5.1.2.1 rfl ⟨by omega, by omega⟩ ⟨Nat.zero_le _, Nat.zero_le _⟩ rfl (Nat.le_of_ble_eq_true rfl)) (rfl) ((by rw [if_pos hx]; rfl)) ?_
  exact J_vret dX7_change_20 rfl (by rw [if_pos hx]; obtain ⟨k9, hk9, rfl⟩ := okSlot_of hx; rw [nI_clamp (by omega)]; exact ⟨rfl, hAK.set hk9 (hr.rk (hfK.rk g1)) h16, hfK.tr jSet_fv⟩)

