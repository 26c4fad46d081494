theorem mSt.si {M : jM} {a m k p : Nat} {x : Int32} {z : cSt} (h : mSt (ji M a) p z) (hne : a ≠ m) : mSt (ji (jSi M m k x) a) p z := by
  have e : ji (jSi M m k x) a = ji M a := funext fun j => ji_Sin hne
  rw [e]; exact h
theorem dX8_matching_0 : decode cX8_matching 0 = .ok (.aload_n 0, 1) := by decide +kernel
theorem dX8_matching_1 : decode cX8_matching 1 = .ok (.iload_n 1, 1) := by decide +kernel
theorem dX8_matching_2 : decode cX8_matching 2 = .ok (.invokevirtual 208, 3) := by decide +kernel
set_option maxRecDepth 20000 in
theorem ggX8_matching_X8_fails1 : GoodIn wsX8_matching wsX8_fails1 := goodIn_ca (goodIn_r _ [5, 6, 7, 4, 8, 9, 10, 11, 12, 13, 14, 15, 16, 17, 18, 35, 36, 37, 38, 39, 40, 41, 42, 43, 44, 45, 46, 47, 48, 49, 50, 51, 52, 53, 54, 55, 56, 57, 58, 59, 60, 61, 62, 63, 64, 65] (by decide +kernel) (by decide +kernel)) (goodIn_sub (fun _ h => List.mem_cons_of_mem _ (List.mem_append_right _ h)) (by decide +kernel))
set_option maxRecDepth 20000 in
theorem gX8_matching_X8_fails1 : GoodIn wsX8_matching (wsV RX8 208 RX8 yX8_fails1 wsX8_fails1) := goodIn_app (goodIn_of _ (by decide +kernel)) ggX8_matching_X8_fails1
theorem dX8_matching_5 : decode cX8_matching 5 = .ok (.ifCond .eq 7, 3) := by decide +kernel
theorem dX8_matching_12 : decode cX8_matching 12 = .ok (.aload_n 0, 1) := by decide +kernel
theorem dX8_matching_13 : decode cX8_matching 13 = .ok (.iload_n 1, 1) := by decide +kernel
theorem dX8_matching_14 : decode cX8_matching 14 = .ok (.iload_n 2, 1) := by decide +kernel
theorem dX8_matching_15 : decode cX8_matching 15 = .ok (.invokevirtual 261, 3) := by decide +kernel
set_option maxRecDepth 20000 in
theorem ggX8_matching_X8_matches : GoodIn wsX8_matching wsX8_matches := goodIn_ca (goodIn_r _ [22, 13, 23, 24, 25, 4, 26, 27, 28, 29, 30, 31, 32, 33, 34, 35, 36, 37, 38, 39, 40, 41, 42, 43, 44, 45, 46, 47, 48, 49, 50, 51, 52, 53, 54, 55, 56, 57, 58, 59, 60, 61, 62, 63, 64, 65] (by decide +kernel) (by decide +kernel)) (goodIn_sub (fun _ h => List.mem_cons_of_mem _ (List.mem_append_right _ h)) (by decide +kernel))
set_option maxRecDepth 20000 in
theorem gX8_matching_X8_matches : GoodIn wsX8_matching (wsV RX8 261 RX8 yX8_matches wsX8_matches) := goodIn_app (goodIn_of _ (by decide +kernel)) ggX8_matching_X8_matches
theorem yY_X8_matches : jY yX8_matches wsX8_matches cX8_matches 5 (some .int) 2 := ⟨⟨_, rfl⟩, by decide +kernel, by decide +kernel, by decide +kernel⟩
theorem dX8_matching_18 : decode cX8_matching 18 = .ok (.ireturn, 1) := by decide +kernel
theorem dX8_matching_8 : decode cX8_matching 8 = .ok (.iconst 0, 1) := by decide +kernel
theorem dX8_matching_9 : decode cX8_matching 9 = .ok (.goto 9, 3) := by decide +kernel
set_option maxHeartbeats 400000 in
set_option maxRecDepth 20000 in
theorem ct_X8_matching (l : Launch) (D : va_G) (dA : Nat → ClassId) (hst : l.stackTraces = false) (M : jM) (m : Nat) (A : cA) (hA : mAb M m A) (hW : zWf (cNw A))(s : Int32) (b : Bool) : jCT l D dA yX8_matching wsX8_matching (24) (540) (0) (0) 1 [.ref (m), .int (s), .int (jb (b))] M (mRl M m [xIOOBE, xNSE] (oMa A s b) A) := by
  refine jBody (cc := cX8_matching) (nL := 3) (rt := (some .int)) (ini := false) (by decide) rfl hst (Nat.le_of_ble_eq_true rfl) (by simp [Value.category]) (by intro h9; first | exact absurd h9 (by decide) | rfl) ?_
  show J l D dA RX8 cX8_matching wsX8_matching 3 false (some .int) [] (24) (540) (jF D dA (jn M) (mRl M m [xIOOBE, xNSE] (oMa A s b) A) 1) (jn M) (0) (0) (M) 0 [.ref (m), .int (s), .int (jb (b))] []
  obtain ⟨hM, hz, ⟨hKn, hK8, hKs⟩, ⟨hHs, hHz⟩, ⟨hLn, hL6, hLc⟩, hFl, ⟨hRs, hRp⟩, hCh⟩ := id hA
  obtain ⟨m1, m2, ⟨r1, r2, r3, r4, r5, r6, r7, r8, r9, r10, r11, r12, r13⟩, ⟨k1, k2, k3, k4, k5, k6, k7, k8, k9, k10, k11, k12, k13⟩, z1, z2, z3, z4, z5, z6, z7, z8, z9, z10, z11, z12, z13⟩ := id hM
  refine J_aload_n (m) dX8_matching_0 rfl rfl ?_
  refine J_iload_n dX8_matching_1 rfl rfl ?_
  refine J_calli0 (jrunV (As := [.int (s)]) (ct_X8_fails1 l D dA hst M m hM (cNw A) hz ((s))) dX8_matching_2 yY_X8_fails1 gX8_matching_X8_fails1 rfl cs11 (show m < jn M from by omega) m2 rfl ⟨by omega, by omega⟩ ⟨Nat.zero_le _, Nat.zero_le _⟩ rfl (Nat.le_of_ble_eq_true rfl)) (rfl) (rfl) ?_
  refine J_if_eq dX8_matching_5 (tgt := 12) (by decide) (fun c5 => ?_) (fun c5 => ?_)
  · have c5 := jb0T c5
    obtain ⟨hf0, hs0, k, w, hk, rfl, hzk, hat⟩ := mF1_ok (of_decide_eq_false c5)
    have hx := hz.at0 hk; rw [hzk] at hx
    have h16 := hx.2.1
    have hw := hW.1 _ _ hzk
    refine J_mem (M' := jSi M m 11 0) (by rw [hf0]) ?_
    refine J_aload_n (m) dX8_matching_12 rfl rfl ?_
    refine J_iload_n dX8_matching_13 rfl rfl ?_
    refine J_iload_n dX8_matching_14 rfl rfl ?_
    refine J_calli (jrunV (As := [.int (nI (k)), .int (jb (b))]) (ct_X8_matches l D dA hst ((jSi M m 11 (0))) m hM (cNw A) ((hz).si (by omega)) k hk w hw ((hx).si (by omega)) (b)) dX8_matching_15 yY_X8_matches gX8_matching_X8_matches rfl cs11 (show m < jn M from by omega) m2 rfl ⟨by omega, by omega⟩ ⟨Nat.zero_le _, Nat.zero_le _⟩ rfl (Nat.le_of_ble_eq_true rfl)) ⟨Nat.zero_le _, Nat.zero_le _⟩ (Or.inr ⟨(jOk.ref (show m < jn M from by omega) (jOk.int (jOk.int jOk.nil))), jOk.nil⟩) (fun E M9 hp _ => by obtain ⟨_, h1, _⟩ := hp; cases h1) (fun x9 M1 hp15 hle15 => ?_)
    obtain ⟨xm15, he, rfl⟩ := hp15
    cases he
    exact J_iret (ty := .int) dX8_matching_18 rfl (rfl) (by refine ⟨?_, ((hA).si rfl).si rfl, ((mFr.rf).si ⟨by omega, by omega⟩).si ⟨by omega, by omega⟩, _, rfl⟩; simp only [ji_Si, and_self, if_true, reduceIte, reduceCtorEq, and_false, if_false, Nat.reduceEqDiff]; first | exact mF1_x (of_decide_eq_true c5) | (refine Or.inl ⟨rfl, ?_⟩; unfold oMa; rw [oSl_t hs0, oRn_s hat]; rfl) | fail "rl")
  · have c5 := jb0F c5
    refine J_iconst (x := 0) dX8_matching_8 (by decide) ?_
    refine J_goto (tgt := 18) dX8_matching_9 (by decide) ?_
    exact J_iret (ty := .int) dX8_matching_18 rfl (rfl) (by refine ⟨?_, (hA).si rfl, (mFr.rf).si ⟨by omega, by omega⟩, _, rfl⟩; simp only [ji_Si, and_self, if_true, reduceIte, reduceCtorEq, and_false, if_false, Nat.reduceEqDiff]; first | exact mF1_x (of_decide_eq_true c5) | (refine Or.inl ⟨rfl, ?_⟩; unfold oMa; rw [oSl_t hs0, oRn_s hat]; rfl) | fail "rl")

theorem dX8_cause_0 : decode cX8_cause 0 = .ok (.aload_n 0, 1) := by decide +kernel
theorem dX8_cause_1 : decode cX8_cause 1 = .ok (.aload_n 0, 1) := by decide +kernel
theorem dX8_cause_2 : decode cX8_cause 2 = .ok (.getfield 29, 3) := by decide +kernel
theorem dX8_cause_5 : decode cX8_cause 5 = .ok (.ifCond .ge 7, 3) := by decide +kernel
theorem dX8_cause_8 : decode cX8_cause 8 = .ok (.iconst 1, 1) := by decide +kernel
theorem dX8_cause_9 : decode cX8_cause 9 = .ok (.goto 25, 3) := by decide +kernel
theorem dX8_cause_34 : decode cX8_cause 34 = .ok (.invokevirtual 148, 3) := by decide +kernel
set_option maxRecDepth 20000 in
theorem ggX8_cause_X8_fails : GoodIn wsX8_cause wsX8_fails := goodIn_r _ [7, 8, 9, 10, 11, 12, 13, 14, 15, 16, 17, 18, 19, 20, 21, 22, 23, 24, 25, 26, 27, 28, 29, 30, 31, 32, 33, 34, 35, 36, 37, 38, 39] (by decide +kernel) (by decide +kernel)
set_option maxRecDepth 20000 in
theorem gX8_cause_X8_fails : GoodIn wsX8_cause (wsV RX8 148 RX8 yX8_fails wsX8_fails) := goodIn_app (goodIn_of _ (by decide +kernel)) ggX8_cause_X8_fails
theorem dX8_cause_37 : decode cX8_cause 37 = .ok (.ifCond .eq 5, 3) := by decide +kernel
theorem dX8_cause_40 : decode cX8_cause 40 = .ok (.iconst 0, 1) := by decide +kernel
theorem dX8_cause_41 : decode cX8_cause 41 = .ok (.ireturn, 1) := by decide +kernel
theorem dX8_cause_12 : decode cX8_cause 12 = .ok (.iload_n 1, 1) := by decide +kernel
theorem dX8_cause_13 : decode cX8_cause 13 = .ok (.iconst (-1), 1) := by decide +kernel
theorem dX8_cause_14 : decode cX8_cause 14 = .ok (.if_icmp .eq 19, 3) := by decide +kernel
theorem dX8_cause_33 : decode cX8_cause 33 = .ok (.iconst 0, 1) := by decide +kernel
theorem dX8_cause_42 : decode cX8_cause 42 = .ok (.iload_n 1, 1) := by decide +kernel
theorem dX8_cause_43 : decode cX8_cause 43 = .ok (.ifCond .ge 10, 3) := by decide +kernel
theorem dX8_cause_46 : decode cX8_cause 46 = .ok (.aload_n 0, 1) := by decide +kernel
theorem dX8_cause_47 : decode cX8_cause 47 = .ok (.getfield 29, 3) := by decide +kernel
theorem dX8_cause_50 : decode cX8_cause 50 = .ok (.goto 9, 3) := by decide +kernel
theorem dX8_cause_59 : decode cX8_cause 59 = .ok (.ireturn, 1) := by decide +kernel
theorem dX8_cause_17 : decode cX8_cause 17 = .ok (.iload_n 1, 1) := by decide +kernel
theorem dX8_cause_18 : decode cX8_cause 18 = .ok (.ifCond .lt 11, 3) := by decide +kernel
theorem dX8_cause_29 : decode cX8_cause 29 = .ok (.iconst 2, 1) := by decide +kernel
theorem dX8_cause_30 : decode cX8_cause 30 = .ok (.goto 4, 3) := by decide +kernel
theorem dX8_cause_21 : decode cX8_cause 21 = .ok (.iload_n 1, 1) := by decide +kernel
theorem dX8_cause_22 : decode cX8_cause 22 = .ok (.aload_n 0, 1) := by decide +kernel
theorem dX8_cause_23 : decode cX8_cause 23 = .ok (.getfield 29, 3) := by decide +kernel
theorem dX8_cause_26 : decode cX8_cause 26 = .ok (.if_icmp .lt 7, 3) := by decide +kernel
theorem dX8_cause_53 : decode cX8_cause 53 = .ok (.aload_n 0, 1) := by decide +kernel
theorem dX8_cause_54 : decode cX8_cause 54 = .ok (.getfield 26, 3) := by decide +kernel
theorem dX8_cause_57 : decode cX8_cause 57 = .ok (.iload_n 1, 1) := by decide +kernel
theorem dX8_cause_58 : decode cX8_cause 58 = .ok (.iaload, 1) := by decide +kernel
set_option maxHeartbeats 400000 in
set_option maxRecDepth 20000 in
theorem ct_X8_cause (l : Launch) (D : va_G) (dA : Nat → ClassId) (hst : l.stackTraces = false) (M : jM) (m : Nat) (A : cA) (hA : mAb M m A) (hW : zWf (cNw A))(y : Int32) : jCT l D dA yX8_cause wsX8_cause (22) (420) (0) (0) 1 [.ref (m), .int (y)] M (mRl M m [xISE, xNSE] (oCa A y) A) := by
  refine jBody (cc := cX8_cause) (nL := 2) (rt := (some .int)) (ini := false) (by decide) rfl hst (Nat.le_of_ble_eq_true rfl) (by simp [Value.category]) (by intro h9; first | exact absurd h9 (by decide) | rfl) ?_
  show J l D dA RX8 cX8_cause wsX8_cause 2 false (some .int) [] (22) (420) (jF D dA (jn M) (mRl M m [xISE, xNSE] (oCa A y) A) 1) (jn M) (0) (0) (M) 0 [.ref (m), .int (y)] []
  obtain ⟨hM, hz, ⟨hKn, hK8, hKs⟩, ⟨hHs, hHz⟩, ⟨hLn, hL6, hLc⟩, hFl, ⟨hRs, hRp⟩, hCh⟩ := id hA
  obtain ⟨m1, m2, ⟨r1, r2, r3, r4, r5, r6, r7, r8, r9, r10, r11, r12, r13⟩, ⟨k1, k2, k3, k4, k5, k6, k7, k8, k9, k10, k11, k12, k13⟩, z1, z2, z3, z4, z5, z6, z7, z8, z9, z10, z11, z12, z13⟩ := id hM
  rcases hcc : cCh A with _ | w
  · rw [hcc] at hCh
    have h10 : ji M m 10 = -1 := hCh
    refine J_aload_n (m) dX8_cause_0 rfl rfl ?_
    refine J_aload_n (m) dX8_cause_1 rfl rfl ?_
    refine J_geti (j := 10) dX8_cause_2 (fun _ h => List.mem_cons_of_mem _ (List.mem_append_left _ (List.mem_append_right _ (h)))) cs11 (by decide) rfl (List.mem_of_getElem? (i := 1) rfl) rfl (show m < jn M from by omega) m2 ?_
    refine J_topi (y := (-1)) (h10) ?_
    refine J_if_ge dX8_cause_5 (tgt := 12) (by decide) (fun c5 => ?_) (fun c5 => ?_)
    · exact absurd c5 (by decide)
    · refine J_iconst (x := 1) dX8_cause_8 (by decide) ?_
      refine J_goto (tgt := 34) dX8_cause_9 (by decide) ?_
      refine J_calli0 (jrunV (As := [.int (1)]) (ct_X8_fails l D dA hst M m hM ((1))) dX8_cause_34 yY_X8_fails gX8_cause_X8_fails rfl cs11 (show m < jn M from by omega) m2 rfl ⟨by omega, by omega⟩ ⟨Nat.zero_le _, Nat.zero_le _⟩ rfl (Nat.le_of_ble_eq_true rfl)) (rfl) (rfl) ?_
      refine J_if_eq dX8_cause_37 (tgt := 42) (by decide) (fun c37 => ?_) (fun c37 => ?_)
      · exact absurd c37 (by decide)
      · have c37 := jeqF (a := 1) (b := 0) (by omega) (by omega) c37
        refine J_iconst (x := 0) dX8_cause_40 (by decide) ?_
        exact J_iret (ty := .int) dX8_cause_41 rfl (rfl) (by refine ⟨?_, (hA).si rfl, (mFr.rf).si ⟨by omega, by omega⟩, _, rfl⟩; simp only [ji_Si, and_self, if_true, reduceIte, reduceCtorEq, and_false, if_false, Nat.reduceEqDiff]; first | exact mAg.x 0 xISE rfl (by decide) rfl (by unfold oCa; rw [hcc]; rfl) | (exact mAg.x 0 xISE rfl (by decide) rfl (by unfold oCa; rw [hcc])) | exact mAg.x 1 xNSE rfl (by decide) rfl (by unfold oCa; rw [hcc]; show oCaS w y = _; unfold oCaS; rw [if_neg c14, if_pos c18]) | exact mAg.x 1 xNSE rfl (by decide) rfl (by unfold oCa; rw [hcc]; show oCaS w _ = _; unfold oCaS; rw [if_neg c14, if_neg (nI_pos (by omega)), if_neg (nI_nlt (by omega) (by omega))]) | (refine Or.inl ⟨rfl, ?_⟩; unfold oCa; rw [hcc]; show oCaS w _ = _; unfold oCaS; rw [if_pos c14]) | (refine Or.inl ⟨rfl, ?_⟩; unfold oCa; rw [hcc]; show oCaS w _ = _; unfold oCaS; rw [if_neg c14, if_neg (nI_pos (by omega)), if_pos (nI_lt (by omega) (by omega)), nI_clamp (by omega)]) | fail "rl")
  · rw [hcc] at hCh
    obtain ⟨h10, hc60, hcs⟩ := hCh
    refine J_aload_n (m) dX8_cause_0 rfl rfl ?_
    refine J_aload_n (m) dX8_cause_1 rfl rfl ?_
    refine J_geti (j := 10) dX8_cause_2 (fun _ h => List.mem_cons_of_mem _ (List.mem_append_left _ (List.mem_append_right _ (h)))) cs11 (by decide) rfl (List.mem_of_getElem? (i := 1) rfl) rfl (show m < jn M from by omega) m2 ?_
    refine J_topi (y := nI (w.1)) (h10) ?_
    refine J_if_ge dX8_cause_5 (tgt := 12) (by decide) (fun c5 => ?_) (fun c5 => ?_)
    · have c5 := jleT (a := 0) (b := w.1) (by omega) (by omega) c5
      refine J_iload_n dX8_cause_12 rfl rfl ?_
      refine J_iconst (x := (-1)) dX8_cause_13 (by decide) ?_
      refine J_icmp_eq dX8_cause_14 (tgt := 33) (by decide) (fun c14 => ?_) (fun c14 => ?_)
      · refine J_iconst (x := 0) dX8_cause_33 (by decide) ?_
        refine J_calli0 (jrunV (As := [.int (0)]) (ct_X8_fails l D dA hst M m hM ((0))) dX8_cause_34 yY_X8_fails gX8_cause_X8_fails rfl cs11 (show m < jn M from by omega) m2 rfl ⟨by omega, by omega⟩ ⟨Nat.zero_le _, Nat.zero_le _⟩ rfl (Nat.le_of_ble_eq_true rfl)) (rfl) (rfl) ?_
        refine J_if_eq dX8_cause_37 (tgt := 42) (by decide) (fun c37 => ?_) (fun c37 => ?_)
        · have c37 := jeqT (a := 0) (b := 0) (by omega) (by omega) c37
          refine J_iload_n dX8_cause_42 rfl rfl ?_
          refine J_if_ge dX8_cause_43 (tgt := 53) (by decide) (fun c43 => ?_) (fun c43 => ?_)
          · rw [c14] at c43; exact absurd c43 (by decide)
          · refine J_aload_n (m) dX8_cause_46 rfl rfl ?_
            refine J_geti (j := 10) dX8_cause_47 (fun _ h => List.mem_cons_of_mem _ (List.mem_append_left _ (List.mem_append_right _ (h)))) cs11 (by decide) rfl (List.mem_of_getElem? (i := 1) rfl) rfl (show m < jn M from by omega) m2 ?_
            refine J_topi (y := nI (w.1)) (((ji_Sik (show 10 ≠ 11 by decide)).trans h10)) ?_
            refine J_goto (tgt := 59) dX8_cause_50 (by decide) ?_
            exact J_iret (ty := .int) dX8_cause_59 rfl (rfl) (by refine ⟨?_, (hA).si rfl, (mFr.rf).si ⟨by omega, by omega⟩, _, rfl⟩; simp only [ji_Si, and_self, if_true, reduceIte, reduceCtorEq, and_false, if_false, Nat.reduceEqDiff]; first | exact mAg.x 0 xISE rfl (by decide) rfl (by unfold oCa; rw [hcc]; rfl) | (exact mAg.x 0 xISE rfl (by decide) rfl (by unfold oCa; rw [hcc])) | exact mAg.x 1 xNSE rfl (by decide) rfl (by unfold oCa; rw [hcc]; show oCaS w y = _; unfold oCaS; rw [if_neg c14, if_pos c18]) | exact mAg.x 1 xNSE rfl (by decide) rfl (by unfold oCa; rw [hcc]; show oCaS w _ = _; unfold oCaS; rw [if_neg c14, if_neg (nI_pos (by omega)), if_neg (nI_nlt (by omega) (by omega))]) | (refine Or.inl ⟨rfl, ?_⟩; unfold oCa; rw [hcc]; show oCaS w _ = _; unfold oCaS; rw [if_pos c14]) | (refine Or.inl ⟨rfl, ?_⟩; unfold oCa; rw [hcc]; show oCaS w _ = _; unfold oCaS; rw [if_neg c14, if_neg (nI_pos (by omega)), if_pos (nI_lt (by omega) (by omega)), nI_clamp (by omega)]) | fail "rl")
        · exact absurd c37 (by decide)
      · refine J_iload_n dX8_cause_17 rfl rfl ?_
        refine J_if_lt dX8_cause_18 (tgt := 29) (by decide) (fun c18 => ?_) (fun c18 => ?_)
        · refine J_iconst (x := 2) dX8_cause_29 (by decide) ?_
          refine J_goto (tgt := 34) dX8_cause_30 (by decide) ?_
          refine J_calli0 (jrunV (As := [.int (2)]) (ct_X8_fails l D dA hst M m hM ((2))) dX8_cause_34 yY_X8_fails gX8_cause_X8_fails rfl cs11 (show m < jn M from by omega) m2 rfl ⟨by omega, by omega⟩ ⟨Nat.zero_le _, Nat.zero_le _⟩ rfl (Nat.le_of_ble_eq_true rfl)) (rfl) (rfl) ?_
          refine J_if_eq dX8_cause_37 (tgt := 42) (by decide) (fun c37 => ?_) (fun c37 => ?_)
          · exact absurd c37 (by decide)
          · have c37 := jeqF (a := 1) (b := 0) (by omega) (by omega) c37
            refine J_iconst (x := 0) dX8_cause_40 (by decide) ?_
            exact J_iret (ty := .int) dX8_cause_41 rfl (rfl) (by refine ⟨?_, (hA).si rfl, (mFr.rf).si ⟨by omega, by omega⟩, _, rfl⟩; simp only [ji_Si, and_self, if_true, reduceIte, reduceCtorEq, and_false, if_false, Nat.reduceEqDiff]; first | exact mAg.x 0 xISE rfl (by decide) rfl (by unfold oCa; rw [hcc]; rfl) | (exact mAg.x 0 xISE rfl (by decide) rfl (by unfold oCa; rw [hcc])) | exact mAg.x 1 xNSE rfl (by decide) rfl (by unfold oCa; rw [hcc]; show oCaS w y = _; unfold oCaS; rw [if_neg c14, if_pos c18]) | exact mAg.x 1 xNSE rfl (by decide) rfl (by unfold oCa; rw [hcc]; show oCaS w _ = _; unfold oCaS; rw [if_neg c14, if_neg (nI_pos (by omega)), if_neg (nI_nlt (by omega) (by omega))]) | (refine Or.inl ⟨rfl, ?_⟩; unfold oCa; rw [hcc]; show oCaS w _ = _; unfold oCaS; rw [if_pos c14]) | (refine Or.inl ⟨rfl, ?_⟩; unfold oCa; rw [hcc]; show oCaS w _ = _; unfold oCaS; rw [if_neg c14, if_neg (nI_pos (by omega)), if_pos (nI_lt (by omega) (by omega)), nI_clamp (by omega)]) | fail "rl")
        · obtain ⟨q, hq31, rfl⟩ := nI_of c18
          refine J_iload_n dX8_cause_21 rfl rfl ?_
          refine J_aload_n (m) dX8_cause_22 rfl rfl ?_
          refine J_geti (j := 10) dX8_cause_23 (fun _ h => List.mem_cons_of_mem _ (List.mem_append_left _ (List.mem_append_right _ (h)))) cs11 (by decide) rfl (List.mem_of_getElem? (i := 1) rfl) rfl (show m < jn M from by omega) m2 ?_
          refine J_topi (y := nI (w.1)) (h10) ?_
          refine J_icmp_lt dX8_cause_26 (tgt := 33) (by decide) (fun c26 => ?_) (fun c26 => ?_)
          · have c26 := jltT (a := q) (b := w.1) (by omega) (by omega) c26
            refine J_iconst (x := 0) dX8_cause_33 (by decide) ?_
            refine J_calli0 (jrunV (As := [.int (0)]) (ct_X8_fails l D dA hst M m hM ((0))) dX8_cause_34 yY_X8_fails gX8_cause_X8_fails rfl cs11 (show m < jn M from by omega) m2 rfl ⟨by omega, by omega⟩ ⟨Nat.zero_le _, Nat.zero_le _⟩ rfl (Nat.le_of_ble_eq_true rfl)) (rfl) (rfl) ?_
            refine J_if_eq dX8_cause_37 (tgt := 42) (by decide) (fun c37 => ?_) (fun c37 => ?_)
            · have c37 := jeqT (a := 0) (b := 0) (by omega) (by omega) c37
              refine J_iload_n dX8_cause_42 rfl rfl ?_
              refine J_if_ge dX8_cause_43 (tgt := 53) (by decide) (fun c43 => ?_) (fun c43 => ?_)
              · have c43 := jleT (a := 0) (b := q) (by omega) (by omega) c43
                refine J_aload_n (m) dX8_cause_53 rfl rfl ?_
                refine J_getrs (q := m + 5) r5 dX8_cause_54 (fun _ h => List.mem_cons_of_mem _ (List.mem_append_left _ (List.mem_append_right _ (h)))) cs11 (by decide) rfl (List.mem_of_getElem? (i := 2) rfl) rfl (show m < jn M from by omega) m2 ?_
                refine J_iload_n dX8_cause_57 rfl rfl ?_
                refine J_ialdN (k := q) dX8_cause_58 (show m + 5 < jn M from by omega) k5 (by exact Nat.lt_of_lt_of_eq (show _ < 60 by omega) (Eq.symm z5)) (by exact Nat.lt_of_le_of_lt (Nat.le_of_eq z5) (show 60 < 2 ^ 31 by omega)) ?_
                refine J_topi (y := w.2 q) (by rw [ji_Sin (by omega)]; exact hcs q (by omega)) ?_
                exact J_iret (ty := .int) dX8_cause_59 rfl (rfl) (by refine ⟨?_, (hA).si rfl, (mFr.rf).si ⟨by omega, by omega⟩, _, rfl⟩; simp only [ji_Si, and_self, if_true, reduceIte, reduceCtorEq, and_false, if_false, Nat.reduceEqDiff]; first | exact mAg.x 0 xISE rfl (by decide) rfl (by unfold oCa; rw [hcc]; rfl) | (exact mAg.x 0 xISE rfl (by decide) rfl (by unfold oCa; rw [hcc])) | exact mAg.x 1 xNSE rfl (by decide) rfl (by unfold oCa; rw [hcc]; show oCaS w y = _; unfold oCaS; rw [if_neg c14, if_pos c18]) | exact mAg.x 1 xNSE rfl (by decide) rfl (by unfold oCa; rw [hcc]; show oCaS w _ = _; unfold oCaS; rw [if_neg c14, if_neg (nI_pos (by omega)), if_neg (nI_nlt (by omega) (by omega))]) | (refine Or.inl ⟨rfl, ?_⟩; unfold oCa; rw [hcc]; show oCaS w _ = _; unfold oCaS; rw [if_pos c14]) | (refine Or.inl ⟨rfl, ?_⟩; unfold oCa; rw [hcc]; show oCaS w _ = _; unfold oCaS; rw [if_neg c14, if_neg (nI_pos (by omega)), if_pos (nI_lt (by omega) (by omega)), nI_clamp (by omega)]) | fail "rl")
              · have c43 := jleF (a := 0) (b := q) (by omega) (by omega) c43
                first | omega | exact absurd (Int32.not_lt.mp (nI_pos (by omega))) c43 | exact absurd c43 (by omega)
            · exact absurd c37 (by decide)
          · have c26 := jltF (a := q) (b := w.1) (by omega) (by omega) c26
            refine J_iconst (x := 2) dX8_cause_29 (by decide) ?_
            refine J_goto (tgt := 34) dX8_cause_30 (by decide) ?_
            refine J_calli0 (jrunV (As := [.int (2)]) (ct_X8_fails l D dA hst M m hM ((2))) dX8_cause_34 yY_X8_fails gX8_cause_X8_fails rfl cs11 (show m < jn M from by omega) m2 rfl ⟨by omega, by omega⟩ ⟨Nat.zero_le _, Nat.zero_le _⟩ rfl (Nat.le_of_ble_eq_true rfl)) (rfl) (rfl) ?_
            refine J_if_eq dX8_cause_37 (tgt := 42) (by decide) (fun c37 => ?_) (fun c37 => ?_)
            · exact absurd c37 (by decide)
            · have c37 := jeqF (a := 1) (b := 0) (by omega) (by omega) c37
              refine J_iconst (x := 0) dX8_cause_40 (by decide) ?_
              exact J_iret (ty := .int) dX8_cause_41 rfl (rfl) (by refine ⟨?_, (hA).si rfl, (mFr.rf).si ⟨by omega, by omega⟩, _, rfl⟩; simp only [ji_Si, and_self, if_true, reduceIte, reduceCtorEq, and_false, if_false, Nat.reduceEqDiff]; first | exact mAg.x 0 xISE rfl (by decide) rfl (by unfold oCa; rw [hcc]; rfl) | (exact mAg.x 0 xISE rfl (by decide) rfl (by unfold oCa; rw [hcc])) | exact mAg.x 1 xNSE rfl (by decide) rfl (by unfold oCa; rw [hcc]; show oCaS w y = _; unfold oCaS; rw [if_neg c14, if_pos c18]) | exact mAg.x 1 xNSE rfl (by decide) rfl (by unfold oCa; rw [hcc]; show oCaS w _ = _; unfold oCaS; rw [if_neg c14, if_neg (nI_pos (by omega)), if_neg (nI_nlt (by omega) (by omega))]) | (refine Or.inl ⟨rfl, ?_⟩; unfold oCa; rw [hcc]; show oCaS w _ = _; unfold oCaS; rw [if_pos c14]) | (refine Or.inl ⟨rfl, ?_⟩; unfold oCa; rw [hcc]; show oCaS w _ = _; unfold oCaS; rw [if_neg c14, if_neg (nI_pos (by omega)), if_pos (nI_lt (by omega) (by omega)), nI_clamp (by omega)]) | fail "rl")
    · have c5 := jleF (a := 0) (b := w.1) (by omega) (by omega) c5
      first | omega | exact absurd c5 (by omega)

