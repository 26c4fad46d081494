theorem mAg_3 {o o2 : jO} {c : Int32} {e : String} (h : mAg [xIOOBE, xNSE] o o2 c) : mAg [xIOOBE, xNSE, e] o o2 c := by
  rcases h with h | ⟨k, E, h1, h2, h3, h4⟩
  · exact Or.inl h
  · refine Or.inr ⟨k, E, ?_, h2, h3, h4⟩
    rcases (show k = 0 ∨ k = 1 ∨ k = 2 from by omega) with rfl | rfl | rfl
    · exact h1
    · exact h1
    · exact nomatch h1
theorem dX8_share_0 : decode cX8_share 0 = .ok (.aload_n 0, 1) := by decide +kernel
theorem dX8_share_1 : decode cX8_share 1 = .ok (.iload_n 1, 1) := by decide +kernel
theorem dX8_share_2 : decode cX8_share 2 = .ok (.invokevirtual 208, 3) := by decide +kernel
set_option maxRecDepth 20000 in
theorem ggX8_share_X8_fails1 : GoodIn wsX8_share wsX8_fails1 := goodIn_ca (goodIn_r _ [6, 7, 8, 5, 9, 10, 11, 12, 13, 1, 14, 15, 16, 17, 18, 35, 36, 37, 38, 39, 40, 41, 42, 43, 44, 45, 46, 47, 48, 49, 50, 51, 52, 53, 54, 55, 56, 57, 58, 59, 60, 61, 62, 63, 64, 65] (by decide +kernel) (by decide +kernel)) (goodIn_sub (fun _ h => List.mem_cons_of_mem _ (List.mem_append_right _ h)) (by decide +kernel))
set_option maxRecDepth 20000 in
theorem gX8_share_X8_fails1 : GoodIn wsX8_share (wsV RX8 208 RX8 yX8_fails1 wsX8_fails1) := goodIn_app (goodIn_of _ (by decide +kernel)) ggX8_share_X8_fails1
theorem dX8_share_5 : decode cX8_share 5 = .ok (.ifCond .ne 26, 3) := by decide +kernel
theorem dX8_share_31 : decode cX8_share 31 = .ok (.dconst 0, 1) := by decide +kernel
theorem dX8_share_32 : decode cX8_share 32 = .ok (.dreturn, 1) := by decide +kernel
theorem dX8_share_8 : decode cX8_share 8 = .ok (.aload_n 0, 1) := by decide +kernel
theorem dX8_share_9 : decode cX8_share 9 = .ok (.aload_n 0, 1) := by decide +kernel
theorem dX8_share_10 : decode cX8_share 10 = .ok (.getfield 9, 3) := by decide +kernel
theorem dX8_share_13 : decode cX8_share 13 = .ok (.sipush 396, 3) := by decide +kernel
theorem dX8_share_16 : decode cX8_share 16 = .ok (.iaload, 1) := by decide +kernel
theorem dX8_share_17 : decode cX8_share 17 = .ok (.ifCond .ne 7, 3) := by decide +kernel
theorem dX8_share_24 : decode cX8_share 24 = .ok (.iconst 0, 1) := by decide +kernel
theorem dX8_share_25 : decode cX8_share 25 = .ok (.invokevirtual 148, 3) := by decide +kernel
set_option maxRecDepth 20000 in
theorem ggX8_share_X8_fails : GoodIn wsX8_share wsX8_fails := goodIn_r _ [17, 18, 35, 36, 37, 38, 39, 40, 41, 42, 43, 44, 45, 46, 47, 48, 49, 50, 51, 52, 53, 54, 55, 56, 57, 58, 59, 60, 61, 62, 63, 64, 65] (by decide +kernel) (by decide +kernel)
set_option maxRecDepth 20000 in
theorem gX8_share_X8_fails : GoodIn wsX8_share (wsV RX8 148 RX8 yX8_fails wsX8_fails) := goodIn_app (goodIn_of _ (by decide +kernel)) ggX8_share_X8_fails
theorem dX8_share_28 : decode cX8_share 28 = .ok (.ifCond .eq 5, 3) := by decide +kernel
theorem dX8_share_33 : decode cX8_share 33 = .ok (.aload_n 0, 1) := by decide +kernel
theorem dX8_share_34 : decode cX8_share 34 = .ok (.iload_n 1, 1) := by decide +kernel
theorem dX8_share_35 : decode cX8_share 35 = .ok (.iconst 0, 1) := by decide +kernel
theorem dX8_share_36 : decode cX8_share 36 = .ok (.invokevirtual 261, 3) := by decide +kernel
set_option maxRecDepth 20000 in
theorem ggX8_share_X8_matches : GoodIn wsX8_share wsX8_matches := goodIn_ca (goodIn_r _ [22, 1, 23, 24, 25, 5, 26, 27, 28, 29, 30, 31, 32, 33, 34, 35, 36, 37, 38, 39, 40, 41, 42, 43, 44, 45, 46, 47, 48, 49, 50, 51, 52, 53, 54, 55, 56, 57, 58, 59, 60, 61, 62, 63, 64, 65] (by decide +kernel) (by decide +kernel)) (goodIn_sub (fun _ h => List.mem_cons_of_mem _ (List.mem_append_right _ h)) (by decide +kernel))
set_option maxRecDepth 20000 in
theorem gX8_share_X8_matches : GoodIn wsX8_share (wsV RX8 261 RX8 yX8_matches wsX8_matches) := goodIn_app (goodIn_of _ (by decide +kernel)) ggX8_share_X8_matches
theorem dX8_share_39 : decode cX8_share 39 = .ok (.i2d, 1) := by decide +kernel
theorem dX8_share_40 : decode cX8_share 40 = .ok (.aload_n 0, 1) := by decide +kernel
theorem dX8_share_41 : decode cX8_share 41 = .ok (.getfield 9, 3) := by decide +kernel
theorem dX8_share_44 : decode cX8_share 44 = .ok (.sipush 396, 3) := by decide +kernel
theorem dX8_share_47 : decode cX8_share 47 = .ok (.iaload, 1) := by decide +kernel
theorem dX8_share_48 : decode cX8_share 48 = .ok (.i2d, 1) := by decide +kernel
theorem dX8_share_49 : decode cX8_share 49 = .ok (.ddiv, 1) := by decide +kernel
theorem dX8_share_50 : decode cX8_share 50 = .ok (.dreturn, 1) := by decide +kernel
theorem dX8_share_20 : decode cX8_share 20 = .ok (.iconst 3, 1) := by decide +kernel
theorem dX8_share_21 : decode cX8_share 21 = .ok (.goto 4, 3) := by decide +kernel
set_option maxHeartbeats 400000 in
set_option maxRecDepth 20000 in
theorem ct_X8_share (l : Launch) (D : va_G) (dA : Nat → ClassId) (hst : l.stackTraces = false) (M : jM) (m : Nat) (A : cA) (hA : mAb M m A) (hW : zWf (cNw A))(s : Int32) : jCT l D dA yX8_share wsX8_share (24) (540) (0) (0) 3 [.ref (m), .int (s)] M (mRl M m [xIOOBE, xNSE, xAE] (oSh A s) A) := by
  refine jBody (cc := cX8_share) (nL := 2) (rt := (some .double)) (ini := false) (by decide) rfl hst (Nat.le_of_ble_eq_true rfl) (by simp [Value.category]) (by intro h9; first | exact absurd h9 (by decide) | rfl) ?_
  show J l D dA RX8 cX8_share wsX8_share 2 false (some .double) [] (24) (540) (jF D dA (jn M) (mRl M m [xIOOBE, xNSE, xAE] (oSh A s) A) 3) (jn M) (0) (0) (M) 0 [.ref (m), .int (s)] []
  obtain ⟨hM, hz, ⟨hKn, hK8, hKs⟩, ⟨hHs, hHz⟩, ⟨hLn, hL6, hLc⟩, hFl, ⟨hRs, hRp⟩, hCh⟩ := id hA
  obtain ⟨m1, m2, ⟨r1, r2, r3, r4, r5, r6, r7, r8, r9, r10, r11, r12, r13⟩, ⟨k1, k2, k3, k4, k5, k6, k7, k8, k9, k10, k11, k12, k13⟩, z1, z2, z3, z4, z5, z6, z7, z8, z9, z10, z11, z12, z13⟩ := id hM
  refine J_aload_n (m) dX8_share_0 rfl rfl ?_
  refine J_iload_n dX8_share_1 rfl rfl ?_
  refine J_calli0 (jrunV (As := [.int (s)]) (ct_X8_fails1 l D dA hst M m hM (cNw A) hz ((s))) dX8_share_2 yY_X8_fails1 gX8_share_X8_fails1 rfl cs11 (show m < jn M from by omega) m2 rfl ⟨by omega, by omega⟩ ⟨Nat.zero_le _, Nat.zero_le _⟩ rfl (Nat.le_of_ble_eq_true rfl)) (rfl) (rfl) ?_
  refine J_if_ne dX8_share_5 (tgt := 31) (by decide) (fun c5 => ?_) (fun c5 => ?_)
  · have c5 := jb0F c5
    refine J_dconst0 dX8_share_31 ?_
    exact J_dret dX8_share_32 rfl (by refine ⟨?_, (hA).si rfl, (mFr.rf).si ⟨by omega, by omega⟩, _, rfl⟩; simp only [ji_Si, and_self, if_true, reduceIte, reduceCtorEq, and_false, if_false, Nat.reduceEqDiff]; first | exact mAg_3 (mF1_x (of_decide_eq_true c5)) | exact mAg.x 2 xAE rfl (by decide) rfl (by unfold oSh; rw [oSl_t hs0, oRn_s hat, if_pos c17]) | (refine Or.inl ⟨rfl, ?_⟩; unfold oSh; rw [oSl_t hs0, oRn_s hat, if_neg c17]; rfl) | (refine Or.inl ⟨rfl, ?_⟩; unfold oSh; rw [oSl_t hs0, oRn_s hat, if_neg (by omega)]; rfl) | fail "rl")
  · have c5 := jb0T c5
    obtain ⟨hf0, hs0, k, w, hk, rfl, hzk, hat⟩ := mF1_ok (of_decide_eq_false c5)
    have hx := hz.at0 hk; rw [hzk] at hx
    have h16 := hx.2.1
    have hw := hW.1 _ _ hzk
    refine J_mem (M' := jSi M m 11 0) (by rw [hf0]) ?_
    have hc30 := hz.2.2.1
    have hcn := jcnt_le9 (fun p => rHoldsFor w.2 w.1 false ((cNw A).2.2 p)) (cNw A).2.1
    refine J_aload_n (m) dX8_share_8 rfl rfl ?_
    refine J_aload_n (m) dX8_share_9 rfl rfl ?_
    refine J_getrs (q := m + 1) r1 dX8_share_10 (fun _ h => List.mem_cons_of_mem _ (List.mem_append_left _ (List.mem_append_right _ (h)))) cs11 (by decide) rfl (List.mem_of_getElem? (i := 1) rfl) rfl (show m < jn M from by omega) m2 ?_
    refine J_sipush (x := 396) dX8_share_13 (by decide) ?_
    refine J_ialdN (k := 396) dX8_share_16 (show m + 1 < jn M from by omega) k1 (by exact Nat.lt_of_lt_of_eq (show _ < 427 by omega) (Eq.symm z1)) (by exact Nat.lt_of_le_of_lt (Nat.le_of_eq z1) (show 427 < 2 ^ 31 by omega)) ?_
    refine J_topi (y := nI ((cNw A).2.1)) (by rw [ji_Sin (by omega)]; exact hz.2.1) ?_
    refine J_if_ne dX8_share_17 (tgt := 24) (by decide) (fun c17 => ?_) (fun c17 => ?_)
    · have c17 := jeqF (a := (cNw A).2.1) (b := 0) (by omega) (by omega) c17
      refine J_iconst (x := 0) dX8_share_24 (by decide) ?_
      refine J_calli0 (jrunV (As := [.int (0)]) (ct_X8_fails l D dA hst ((jSi M m 11 (0))) m hM ((0))) dX8_share_25 yY_X8_fails gX8_share_X8_fails rfl cs11 (show m < jn M from by omega) m2 rfl ⟨by omega, by omega⟩ ⟨Nat.zero_le _, Nat.zero_le _⟩ rfl (Nat.le_of_ble_eq_true rfl)) (rfl) (rfl) ?_
      refine J_if_eq dX8_share_28 (tgt := 33) (by decide) (fun c28 => ?_) (fun c28 => ?_)
      · have c28 := jeqT (a := 0) (b := 0) (by omega) (by omega) c28
        refine J_aload_n (m) dX8_share_33 rfl rfl ?_
        refine J_iload_n dX8_share_34 rfl rfl ?_
        refine J_iconst (x := 0) dX8_share_35 (by decide) ?_
        refine J_calli (jrunV (As := [.int (nI (k)), .int (0)]) (ct_X8_matches l D dA hst (jSi ((jSi M m 11 (0))) m 11 ((0))) m hM (cNw A) (((hz).si (by omega)).si (by omega)) k hk w hw (((hx).si (by omega)).si (by omega)) (false)) dX8_share_36 yY_X8_matches gX8_share_X8_matches rfl cs11 (show m < jn M from by omega) m2 rfl ⟨by omega, by omega⟩ ⟨Nat.zero_le _, Nat.zero_le _⟩ rfl (Nat.le_of_ble_eq_true rfl)) ⟨Nat.zero_le _, Nat.zero_le _⟩ (Or.inr ⟨(jOk.ref (show m < jn M from by omega) (jOk.int jOk.nil)), jOk.nil⟩) (fun E M9 hp _ => by obtain ⟨_, h1, _⟩ := hp; cases h1) (fun x9 M1 hp36 hle36 => ?_)
        obtain ⟨xm36, he, rfl⟩ := hp36
        cases he
        refine J_i2d dX8_share_39 ?_
        refine J_aload_n (m) dX8_share_40 rfl rfl ?_
        refine J_getrs (q := m + 1) r1 dX8_share_41 (fun _ h => List.mem_cons_of_mem _ (List.mem_append_left _ (List.mem_append_right _ (h)))) cs11 (by decide) rfl (List.mem_of_getElem? (i := 1) rfl) rfl (show m < jn M from by omega) m2 ?_
        refine J_sipush (x := 396) dX8_share_44 (by decide) ?_
        refine J_ialdN (k := 396) dX8_share_47 (show m + 1 < jn M from by omega) k1 (by exact Nat.lt_of_lt_of_eq (show _ < 427 by omega) (Eq.symm z1)) (by exact Nat.lt_of_le_of_lt (Nat.le_of_eq z1) (show 427 < 2 ^ 31 by omega)) ?_
        refine J_topi (y := nI ((cNw A).2.1)) (by rw [ji_Sin (by omega), ji_Sin (by omega), ji_Sin (by omega)]; exact hz.2.1) ?_
        refine J_i2d dX8_share_48 ?_
        refine J_ddiv dX8_share_49 (by exact cQuo_n (cNw A).2.1 (cCnt A w false) (by omega) (jcnt_le9 _ _) (by omega)) ?_
        exact J_dret dX8_share_50 rfl (by refine ⟨?_, (((hA).si rfl).si rfl).si rfl, (((mFr.rf).si ⟨by omega, by omega⟩).si ⟨by omega, by omega⟩).si ⟨by omega, by omega⟩, _, rfl⟩; simp only [ji_Si, and_self, if_true, reduceIte, reduceCtorEq, and_false, if_false, Nat.reduceEqDiff]; first | exact mAg_3 (mF1_x (of_decide_eq_true c5)) | exact mAg.x 2 xAE rfl (by decide) rfl (by unfold oSh; rw [oSl_t hs0, oRn_s hat, if_pos c17]) | (refine Or.inl ⟨rfl, ?_⟩; unfold oSh; rw [oSl_t hs0, oRn_s hat, if_neg c17]; rfl) | (refine Or.inl ⟨rfl, ?_⟩; unfold oSh; rw [oSl_t hs0, oRn_s hat, if_neg (by omega)]; rfl) | fail "rl")
      · exact absurd c28 (by decide)
    · have c17 := jeqT (a := (cNw A).2.1) (b := 0) (by omega) (by omega) c17
      refine J_iconst (x := 3) dX8_share_20 (by decide) ?_
      refine J_goto (tgt := 25) dX8_share_21 (by decide) ?_
      refine J_calli0 (jrunV (As := [.int (3)]) (ct_X8_fails l D dA hst ((jSi M m 11 (0))) m hM ((3))) dX8_share_25 yY_X8_fails gX8_share_X8_fails rfl cs11 (show m < jn M from by omega) m2 rfl ⟨by omega, by omega⟩ ⟨Nat.zero_le _, Nat.zero_le _⟩ rfl (Nat.le_of_ble_eq_true rfl)) (rfl) (rfl) ?_
      refine J_if_eq dX8_share_28 (tgt := 33) (by decide) (fun c28 => ?_) (fun c28 => ?_)
      · exact absurd c28 (by decide)
      · have c28 := jeqF (a := 1) (b := 0) (by omega) (by omega) c28
        refine J_dconst0 dX8_share_31 ?_
        exact J_dret dX8_share_32 rfl (by refine ⟨?_, ((hA).si rfl).si rfl, ((mFr.rf).si ⟨by omega, by omega⟩).si ⟨by omega, by omega⟩, _, rfl⟩; simp only [ji_Si, and_self, if_true, reduceIte, reduceCtorEq, and_false, if_false, Nat.reduceEqDiff]; first | exact mAg_3 (mF1_x (of_decide_eq_true c5)) | exact mAg.x 2 xAE rfl (by decide) rfl (by unfold oSh; rw [oSl_t hs0, oRn_s hat, if_pos c17]) | (refine Or.inl ⟨rfl, ?_⟩; unfold oSh; rw [oSl_t hs0, oRn_s hat, if_neg c17]; rfl) | (refine Or.inl ⟨rfl, ?_⟩; unfold oSh; rw [oSl_t hs0, oRn_s hat, if_neg (by omega)]; rfl) | fail "rl")

