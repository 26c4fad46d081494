theorem dX8_best_0 : decode cX8_best 0 = .ok (.aload_n 0, 1) := by decide +kernel
theorem dX8_best_1 : decode cX8_best 1 = .ok (.iload_n 1, 1) := by decide +kernel
theorem dX8_best_2 : decode cX8_best 2 = .ok (.invokevirtual 208, 3) := by decide +kernel
set_option maxRecDepth 20000 in
theorem ggX8_best_X8_fails1 : GoodIn wsX8_best wsX8_fails1 := goodIn_ca (goodIn_r _ [7, 8, 9, 6, 10, 11, 12, 13, 14, 1, 15, 16, 17, 18, 2, 31, 32, 33, 34, 35, 36, 37, 38, 39, 40, 41, 42, 43, 44, 45, 46, 47, 48, 49, 50, 51, 52, 53, 54, 55, 56, 57, 58, 59, 60, 61] (by decide +kernel) (by decide +kernel)) (goodIn_sub (fun _ h => List.mem_cons_of_mem _ (List.mem_append_right _ h)) (by decide +kernel))
set_option maxRecDepth 20000 in
theorem gX8_best_X8_fails1 : GoodIn wsX8_best (wsV RX8 208 RX8 yX8_fails1 wsX8_fails1) := goodIn_app (goodIn_of _ (by decide +kernel)) ggX8_best_X8_fails1
theorem dX8_best_5 : decode cX8_best 5 = .ok (.ifCond .eq 5, 3) := by decide +kernel
theorem dX8_best_10 : decode cX8_best 10 = .ok (.aload_n 0, 1) := by decide +kernel
theorem dX8_best_11 : decode cX8_best 11 = .ok (.getfield 9, 3) := by decide +kernel
theorem dX8_best_14 : decode cX8_best 14 = .ok (.sipush 396, 3) := by decide +kernel
theorem dX8_best_17 : decode cX8_best 17 = .ok (.iaload, 1) := by decide +kernel
theorem dX8_best_18 : decode cX8_best 18 = .ok (.iconst 1, 1) := by decide +kernel
theorem dX8_best_19 : decode cX8_best 19 = .ok (.isub, 1) := by decide +kernel
theorem dX8_best_21 : decode cX8_best 21 = .ok (.iload_n 3, 1) := by decide +kernel
theorem dX8_best_22 : decode cX8_best 22 = .ok (.ifCond .lt 39, 3) := by decide +kernel
theorem dX8_best_61 : decode cX8_best 61 = .ok (.aload_n 0, 1) := by decide +kernel
theorem dX8_best_62 : decode cX8_best 62 = .ok (.iconst 2, 1) := by decide +kernel
theorem dX8_best_63 : decode cX8_best 63 = .ok (.putfield 56, 3) := by decide +kernel
theorem dX8_best_66 : decode cX8_best 66 = .ok (.iconst 0, 1) := by decide +kernel
theorem dX8_best_67 : decode cX8_best 67 = .ok (.ireturn, 1) := by decide +kernel
theorem dX8_best_25 : decode cX8_best 25 = .ok (.aload_n 0, 1) := by decide +kernel
theorem dX8_best_26 : decode cX8_best 26 = .ok (.iload_n 1, 1) := by decide +kernel
theorem dX8_best_27 : decode cX8_best 27 = .ok (.aload_n 0, 1) := by decide +kernel
theorem dX8_best_28 : decode cX8_best 28 = .ok (.getfield 9, 3) := by decide +kernel
theorem dX8_best_31 : decode cX8_best 31 = .ok (.sipush 397, 3) := by decide +kernel
theorem dX8_best_34 : decode cX8_best 34 = .ok (.iload_n 3, 1) := by decide +kernel
theorem dX8_best_35 : decode cX8_best 35 = .ok (.iadd, 1) := by decide +kernel
theorem dX8_best_36 : decode cX8_best 36 = .ok (.iaload, 1) := by decide +kernel
theorem dX8_best_37 : decode cX8_best 37 = .ok (.iload_n 2, 1) := by decide +kernel
theorem dX8_best_38 : decode cX8_best 38 = .ok (.invokevirtual 218, 3) := by decide +kernel
set_option maxRecDepth 20000 in
theorem ggX8_best_X8_isIn : GoodIn wsX8_best wsX8_isIn := goodIn_ca (goodIn_r _ [22, 1, 23, 24, 25, 26, 6, 27, 28, 29, 30, 31, 32, 33, 34, 35, 36, 37, 38, 39, 40, 41, 42, 43, 44, 45, 46, 47, 48, 49, 50, 51, 52, 53, 54, 55, 56, 57, 58, 59, 60, 61] (by decide +kernel) (by decide +kernel)) (goodIn_sub (fun _ h => List.mem_cons_of_mem _ (List.mem_append_right _ h)) (by decide +kernel))
set_option maxRecDepth 20000 in
theorem gX8_best_X8_isIn : GoodIn wsX8_best (wsV RX8 218 RX8 yX8_isIn wsX8_isIn) := goodIn_app (goodIn_of _ (by decide +kernel)) ggX8_best_X8_isIn
theorem dX8_best_41 : decode cX8_best 41 = .ok (.ifCond .eq 14, 3) := by decide +kernel
theorem dX8_best_55 : decode cX8_best 55 = .ok (.iinc 3 (-1), 3) := by decide +kernel
theorem dX8_best_58 : decode cX8_best 58 = .ok (.goto (-37), 3) := by decide +kernel
theorem dX8_best_44 : decode cX8_best 44 = .ok (.aload_n 0, 1) := by decide +kernel
theorem dX8_best_45 : decode cX8_best 45 = .ok (.getfield 9, 3) := by decide +kernel
theorem dX8_best_48 : decode cX8_best 48 = .ok (.sipush 397, 3) := by decide +kernel
theorem dX8_best_51 : decode cX8_best 51 = .ok (.iload_n 3, 1) := by decide +kernel
theorem dX8_best_52 : decode cX8_best 52 = .ok (.iadd, 1) := by decide +kernel
theorem dX8_best_53 : decode cX8_best 53 = .ok (.iaload, 1) := by decide +kernel
theorem dX8_best_54 : decode cX8_best 54 = .ok (.ireturn, 1) := by decide +kernel
theorem dX8_best_20 : decode cX8_best 20 = .ok (.istore_n 3, 1) := by decide +kernel
theorem dX8_best_8 : decode cX8_best 8 = .ok (.iconst 0, 1) := by decide +kernel
theorem dX8_best_9 : decode cX8_best 9 = .ok (.ireturn, 1) := by decide +kernel
set_option maxHeartbeats 400000 in
set_option maxRecDepth 20000 in
theorem ct_X8_best (l : Launch) (D : va_G) (dA : Nat → ClassId) (hst : l.stackTraces = false) (M : jM) (m : Nat) (A : cA) (hA : mAb M m A) (hW : zWf (cNw A))(s : Int32) (b : Bool) : jCT l D dA yX8_best wsX8_best (24) (540) (0) (0) 1 [.ref (m), .int (s), .int (jb (b))] M (mRl M m [xIOOBE, xNSE] (oBe A s b) A) := by
  refine jBody (cc := cX8_best) (nL := 4) (rt := (some .int)) (ini := false) (by decide) rfl hst (Nat.le_of_ble_eq_true rfl) (by simp [Value.category]) (by intro h9; first | exact absurd h9 (by decide) | rfl) ?_
  show J l D dA RX8 cX8_best wsX8_best 4 false (some .int) [] (24) (540) (jF D dA (jn M) (mRl M m [xIOOBE, xNSE] (oBe A s b) A) 1) (jn M) (0) (0) (M) 0 [.ref (m), .int (s), .int (jb (b)), .float 0] []
  obtain ⟨hM, hz, ⟨hKn, hK8, hKs⟩, ⟨hHs, hHz⟩, ⟨hLn, hL6, hLc⟩, hFl, ⟨hRs, hRp⟩, hCh⟩ := id hA
  obtain ⟨m1, m2, ⟨r1, r2, r3, r4, r5, r6, r7, r8, r9, r10, r11, r12, r13⟩, ⟨k1, k2, k3, k4, k5, k6, k7, k8, k9, k10, k11, k12, k13⟩, z1, z2, z3, z4, z5, z6, z7, z8, z9, z10, z11, z12, z13⟩ := id hM
  refine J_aload_n (m) dX8_best_0 rfl rfl ?_
  refine J_iload_n dX8_best_1 rfl rfl ?_
  refine J_calli0 (jrunV (As := [.int (s)]) (ct_X8_fails1 l D dA hst M m hM (cNw A) hz ((s))) dX8_best_2 yY_X8_fails1 gX8_best_X8_fails1 rfl cs11 (show m < jn M from by omega) m2 rfl ⟨by omega, by omega⟩ ⟨Nat.zero_le _, Nat.zero_le _⟩ rfl (Nat.le_of_ble_eq_true rfl)) (rfl) (rfl) ?_
  refine J_if_eq dX8_best_5 (tgt := 10) (by decide) (fun c5 => ?_) (fun c5 => ?_)
  · have c5 := jb0T c5
    obtain ⟨hf0, hs0, k, w, hk, rfl, hzk, hat⟩ := mF1_ok (of_decide_eq_false c5)
    have hx := hz.at0 hk; rw [hzk] at hx
    have h16 := hx.2.1
    have hw := hW.1 _ _ hzk
    refine J_mem (M' := jSi M m 11 0) (by rw [hf0]) ?_
    have hc30 := hz.2.2.1
    refine J_aload_n (m) dX8_best_10 rfl rfl ?_
    refine J_getrs (q := m + 1) r1 dX8_best_11 (fun _ h => List.mem_cons_of_mem _ (List.mem_append_left _ (List.mem_append_right _ (h)))) cs11 (by decide) rfl (List.mem_of_getElem? (i := 1) rfl) rfl (show m < jn M from by omega) m2 ?_
    refine J_sipush (x := 396) dX8_best_14 (by decide) ?_
    refine J_ialdN (k := 396) dX8_best_17 (show m + 1 < jn M from by omega) k1 (by exact Nat.lt_of_lt_of_eq (show _ < 427 by omega) (Eq.symm z1)) (by exact Nat.lt_of_le_of_lt (Nat.le_of_eq z1) (show 427 < 2 ^ 31 by omega)) ?_
    refine J_topi (y := nI ((cNw A).2.1)) (by rw [ji_Sin (by omega)]; exact hz.2.1) ?_
    refine J_iconst (x := 1) dX8_best_18 (by decide) ?_
    refine J_isub dX8_best_19 ?_
    refine J_mem (M' := jSi (jSi M m 11 (0)) m 14 (ji M m 14)) (by exact (jSi_self (ji_Sik (by decide))).symm) ?_
    have L21 : ∀ (fuel : Nat) (q : Nat) (y : Int32) (hq : q ≤ (cNw A).2.1) (hI : jgrt (fun p => rHoldsFor w.2 w.1 b ((cNw A).2.2 p)) (cNw A).2.2 q = cGrt A w b), q < fuel → J l D dA RX8 cX8_best wsX8_best 4 false (some .int) [] (24) (540) (jF D dA (jn M) (mRl M m [xIOOBE, xNSE] (oBe A (nI k) b) A) 1) (jn M) (0) (0) ((jSi (jSi M m 11 (0)) m 14 y)) 21 [.ref (m), .int (nI (k)), .int (jb (b)), .int (nI q - 1)] [] := by
      intro fuel
      induction fuel with
      | zero => intro q y hq hI hm; exact absurd hm (Nat.not_lt_zero _)
      | succ fuel ih21 =>
        intro q y hq hI hm21
        rcases Nat.eq_zero_or_pos q with rfl | hq0
        · refine J_conv (M' := (jSi (jSi M m 11 (0)) m 14 y)) (lv' := [.ref (m), .int (nI (k)), .int (jb (b)), .int (-1)]) (st' := []) rfl rfl rfl ?_
          refine J_iload_n dX8_best_21 rfl rfl ?_
          refine J_if_lt dX8_best_22 (tgt := 61) (by decide) (fun c22 => ?_) (fun c22 => ?_)
          · refine J_aload_n (m) dX8_best_61 rfl rfl ?_
            refine J_iconst (x := 2) dX8_best_62 (by decide) ?_
            refine J_puti (j := 11) (x := (2)) dX8_best_63 (fun _ h => List.mem_cons_of_mem _ (List.mem_append_left _ (List.mem_append_right _ (h)))) cs11 cty11 (by decide) rfl (List.mem_of_getElem? (i := 2) rfl) rfl rfl ⟨rfl, rfl⟩ (show m < jn M from by omega) m2 ?_
            refine J_iconst (x := 0) dX8_best_66 (by decide) ?_
            exact J_iret (ty := .int) dX8_best_67 rfl (rfl) (by first | (exfalso; omega) | (have hg : cGrt A w b = -1 := hI.symm; exact ⟨mAg.x 1 xNSE rfl (by decide) ji_Sis (by unfold oBe; rw [oSl_t hs0, oRn_s hat, if_pos hg]), (((hA).si rfl).si rfl).si rfl, (((mFr.rf).si ⟨by omega, by omega⟩).si ⟨by omega, by omega⟩).si ⟨by omega, by omega⟩, _, rfl⟩))
          · exact absurd c22 (by decide)
        · refine J_conv (M' := (jSi (jSi M m 11 (0)) m 14 y)) (lv' := [.ref (m), .int (nI (k)), .int (jb (b)), .int (nI ((q - 1)))]) (st' := []) rfl (by rw [show nI q - 1 = nI (q - 1) from pk_sub (a := q) (b := 1) hq0]) rfl ?_
          refine J_iload_n dX8_best_21 rfl rfl ?_
          refine J_if_lt dX8_best_22 (tgt := 61) (by decide) (fun c22 => ?_) (fun c22 => ?_)
          · have c22 := jltT (a := (q - 1)) (b := 0) (by omega) (by omega) c22
            refine J_aload_n (m) dX8_best_61 rfl rfl ?_
            refine J_iconst (x := 2) dX8_best_62 (by decide) ?_
            refine J_puti (j := 11) (x := (2)) dX8_best_63 (fun _ h => List.mem_cons_of_mem _ (List.mem_append_left _ (List.mem_append_right _ (h)))) cs11 cty11 (by decide) rfl (List.mem_of_getElem? (i := 2) rfl) rfl rfl ⟨rfl, rfl⟩ (show m < jn M from by omega) m2 ?_
            refine J_iconst (x := 0) dX8_best_66 (by decide) ?_
            exact J_iret (ty := .int) dX8_best_67 rfl (rfl) (by first | (exfalso; omega) | (have hg : cGrt A w b = -1 := hI.symm; exact ⟨mAg.x 1 xNSE rfl (by decide) ji_Sis (by unfold oBe; rw [oSl_t hs0, oRn_s hat, if_pos hg]), (((hA).si rfl).si rfl).si rfl, (((mFr.rf).si ⟨by omega, by omega⟩).si ⟨by omega, by omega⟩).si ⟨by omega, by omega⟩, _, rfl⟩))
          · have c22 := jltF (a := (q - 1)) (b := 0) (by omega) (by omega) c22
            refine J_aload_n (m) dX8_best_25 rfl rfl ?_
            refine J_iload_n dX8_best_26 rfl rfl ?_
            refine J_aload_n (m) dX8_best_27 rfl rfl ?_
            refine J_getrs (q := m + 1) r1 dX8_best_28 (fun _ h => List.mem_cons_of_mem _ (List.mem_append_left _ (List.mem_append_right _ (h)))) cs11 (by decide) rfl (List.mem_of_getElem? (i := 1) rfl) rfl (show m < jn M from by omega) m2 ?_
            refine J_sipush (x := 397) dX8_best_31 (by decide) ?_
            refine J_iload_n dX8_best_34 rfl rfl ?_
            refine J_iadd dX8_best_35 ?_
            refine J_topi (y := nI (397 + (q - 1))) (nI_add (397) ((q - 1))) ?_
            refine J_ialdN (k := 397 + (q - 1)) dX8_best_36 (show m + 1 < jn M from by omega) k1 (by exact Nat.lt_of_lt_of_eq (show _ < 427 by omega) (Eq.symm z1)) (by exact Nat.lt_of_le_of_lt (Nat.le_of_eq z1) (show 427 < 2 ^ 31 by omega)) ?_
            refine J_topi (y := ((cNw A).2.2 (q - 1))) (by rw [ji_Sin (by omega), ji_Sin (by omega)]; exact hz.2.2.2 (q - 1) (by omega)) ?_
            refine J_iload_n dX8_best_37 rfl rfl ?_
            refine J_calli (jrunV (As := [.int (nI (k)), .int ((cNw A).2.2 (q - 1)), .int (jb (b))]) (ct_X8_isIn l D dA hst ((jSi (jSi M m 11 (0)) m 14 y)) m hM k hk w hw (((hx).si (by omega)).si (by omega)) (((cNw A).2.2 (q - 1))) (b)) dX8_best_38 yY_X8_isIn gX8_best_X8_isIn rfl cs11 (show m < jn M from by omega) m2 rfl ⟨by omega, by omega⟩ ⟨Nat.zero_le _, Nat.zero_le _⟩ rfl (Nat.le_of_ble_eq_true rfl)) ⟨Nat.zero_le _, Nat.zero_le _⟩ (Or.inr ⟨(jOk.ref (show m < jn M from by omega) (jOk.int (jOk.int (jOk.int jOk.nil)))), jOk.nil⟩) (fun E M9 hp _ => by obtain ⟨_, h1, _⟩ := hp; cases h1) (fun x9 M1 hp38 hle38 => ?_)
            obtain ⟨xi38, he, rfl⟩ := hp38
            cases he
            refine J_mem (M' := jSi (jSi M m 11 (0)) m 14 xi38) (by exact jSi_jSi _ _ _ _ _) ?_
            refine J_if_eq dX8_best_41 (tgt := 55) (by decide) (fun c41 => ?_) (fun c41 => ?_)
            · have c41 := jb0T c41
              refine J_iinc (y := (nI (q - 1) - 1)) (lv' := [.ref (m), .int (nI (k)), .int (jb (b)), .int (nI (q - 1) - 1)]) dX8_best_55 rfl (jdecm _) (by decide) rfl rfl ?_
              refine J_goto (tgt := 21) dX8_best_58 (by decide) ?_
              exact ih21 (q - 1) (xi38) (by omega) (by rw [← hI]; obtain ⟨z9, rfl⟩ : ∃ z9, q = z9 + 1 := ⟨q - 1, by omega⟩; simp only [Nat.add_sub_cancel] at *; conv => rhs; unfold jgrt; rw [if_neg (by rw [c41]; decide)]) (by omega)
            · have c41 := jb0F c41
              refine J_aload_n (m) dX8_best_44 rfl rfl ?_
              refine J_getrs (q := m + 1) r1 dX8_best_45 (fun _ h => List.mem_cons_of_mem _ (List.mem_append_left _ (List.mem_append_right _ (h)))) cs11 (by decide) rfl (List.mem_of_getElem? (i := 1) rfl) rfl (show m < jn M from by omega) m2 ?_
              refine J_sipush (x := 397) dX8_best_48 (by decide) ?_
              refine J_iload_n dX8_best_51 rfl rfl ?_
              refine J_iadd dX8_best_52 ?_
              refine J_topi (y := nI (397 + (q - 1))) (nI_add (397) ((q - 1))) ?_
              refine J_ialdN (k := 397 + (q - 1)) dX8_best_53 (show m + 1 < jn M from by omega) k1 (by exact Nat.lt_of_lt_of_eq (show _ < 427 by omega) (Eq.symm z1)) (by exact Nat.lt_of_le_of_lt (Nat.le_of_eq z1) (show 427 < 2 ^ 31 by omega)) ?_
              refine J_topi (y := ((cNw A).2.2 (q - 1))) (by rw [ji_Sin (by omega), ji_Sin (by omega)]; exact hz.2.2.2 (q - 1) (by omega)) ?_
              exact J_iret (ty := .int) dX8_best_54 rfl (rfl) (by have hg : cGrt A w b = (cNw A).2.2 (q - 1) := (by rw [← hI]; obtain ⟨z9, rfl⟩ : ∃ z9, q = z9 + 1 := ⟨q - 1, by omega⟩; simp only [Nat.add_sub_cancel] at *; unfold jgrt; rw [if_pos c41]); exact ⟨Or.inl ⟨by rw [ji_Sik (by decide)]; exact ji_Sis, by unfold oBe; rw [oSl_t hs0, oRn_s hat, hg, if_neg (okVer_m1 (hW.2.1 _ (by omega)))]⟩, ((hA).si rfl).si rfl, ((mFr.rf).si ⟨by omega, by omega⟩).si ⟨by omega, by omega⟩, _, rfl⟩)
    refine J_istore_n (lv' := [.ref (m), .int (nI (k)), .int (jb (b)), .int (nI ((cNw A).2.1) - (1))]) dX8_best_20 rfl (by decide) rfl rfl ?_
    exact L21 _ ((cNw A).2.1) (ji M m 14) (by omega) (by rfl) (Nat.lt_succ_self _)
  · have c5 := jb0F c5
    refine J_iconst (x := 0) dX8_best_8 (by decide) ?_
    exact J_iret (ty := .int) dX8_best_9 rfl (rfl) (by refine ⟨?_, (hA).si rfl, (mFr.rf).si ⟨by omega, by omega⟩, _, rfl⟩; simp only [ji_Si, and_self, if_true, reduceIte, reduceCtorEq, and_false, if_false, Nat.reduceEqDiff]; first | exact mF1_x (of_decide_eq_true c5) | fail "rl")

