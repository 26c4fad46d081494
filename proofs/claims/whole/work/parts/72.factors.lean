theorem dX8_readSum_5 : decode cX8_readSum 5 = .ok (.aload_n 0, 1) := by decide +kernel
theorem dX8_readSum_6 : decode cX8_readSum 6 = .ok (.getfield 87, 3) := by decide +kernel
theorem dX8_readSum_9 : decode cX8_readSum 9 = .ok (.ifCond .ne 52, 3) := by decide +kernel
theorem dX8_readSum_12 : decode cX8_readSum 12 = .ok (.aload_n 0, 1) := by decide +kernel
theorem dX8_readSum_13 : decode cX8_readSum 13 = .ok (.invokevirtual 91, 3) := by decide +kernel
set_option maxRecDepth 20000 in
theorem ggX8_readSum_X8_here : GoodIn wsX8_readSum wsX8_here := goodIn_ca (goodIn_r _ [10, 2, 11, 12, 52, 53, 54, 55, 56, 57, 58, 59, 60, 61, 62, 63, 64, 65, 66, 67, 68, 69, 70, 71, 72, 73, 74, 75, 76, 77, 78, 79, 80, 81, 82] (by decide +kernel) (by decide +kernel)) (goodIn_sub (fun _ h => List.mem_cons_of_mem _ (List.mem_append_right _ h)) (by decide +kernel))
set_option maxRecDepth 20000 in
theorem gX8_readSum_X8_here : GoodIn wsX8_readSum (wsV RX8 91 RX8 yX8_here wsX8_here) := goodIn_app (goodIn_of _ (by decide +kernel)) ggX8_readSum_X8_here
theorem dX8_readSum_16 : decode cX8_readSum 16 = .ok (.bipush 43, 2) := by decide +kernel
theorem dX8_readSum_18 : decode cX8_readSum 18 = .ok (.if_icmp .ne 43, 3) := by decide +kernel
theorem dX8_readSum_61 : decode cX8_readSum 61 = .ok (.iload_n 1, 1) := by decide +kernel
theorem dX8_readSum_62 : decode cX8_readSum 62 = .ok (.ireturn, 1) := by decide +kernel
theorem dX8_readSum_21 : decode cX8_readSum 21 = .ok (.aload_n 0, 1) := by decide +kernel
theorem dX8_readSum_22 : decode cX8_readSum 22 = .ok (.getfield 81, 3) := by decide +kernel
theorem dX8_readSum_25 : decode cX8_readSum 25 = .ok (.istore_n 2, 1) := by decide +kernel
theorem dX8_readSum_26 : decode cX8_readSum 26 = .ok (.aload_n 0, 1) := by decide +kernel
theorem dX8_readSum_27 : decode cX8_readSum 27 = .ok (.dup, 1) := by decide +kernel
theorem dX8_readSum_28 : decode cX8_readSum 28 = .ok (.getfield 81, 3) := by decide +kernel
theorem dX8_readSum_31 : decode cX8_readSum 31 = .ok (.iconst 1, 1) := by decide +kernel
theorem dX8_readSum_32 : decode cX8_readSum 32 = .ok (.iadd, 1) := by decide +kernel
theorem dX8_readSum_33 : decode cX8_readSum 33 = .ok (.putfield 81, 3) := by decide +kernel
theorem dX8_readSum_36 : decode cX8_readSum 36 = .ok (.aload_n 0, 1) := by decide +kernel
theorem dX8_readSum_37 : decode cX8_readSum 37 = .ok (.invokevirtual 182, 3) := by decide +kernel
set_option maxRecDepth 20000 in
theorem ggX8_readSum_X8_readTerm : GoodIn wsX8_readSum wsX8_readTerm := goodIn_ca (goodIn_r _ [51, 1, 2, 12, 29, 30, 31, 6, 7, 8, 9, 10, 11, 13, 14, 15, 16, 17, 18, 19, 20, 21, 22, 23, 24, 25, 26, 27, 28, 32, 33, 34, 35, 36, 37, 38, 39, 40, 41, 42, 43, 44, 45, 46, 47, 48, 49, 50, 0, 3, 4, 5, 52, 53, 54, 55, 56, 57, 58, 59, 60, 61, 62, 63, 64, 65, 66, 67, 68, 69, 70, 71, 72, 73, 74, 75, 76, 77, 78, 79, 80, 81, 82] (by decide +kernel) (by decide +kernel)) (goodIn_sub (fun _ h => List.mem_cons_of_mem _ (List.mem_append_right _ h)) (by decide +kernel))
set_option maxRecDepth 20000 in
theorem gX8_readSum_X8_readTerm : GoodIn wsX8_readSum (wsV RX8 182 RX8 yX8_readTerm wsX8_readTerm) := goodIn_app (goodIn_of _ (by decide +kernel)) ggX8_readSum_X8_readTerm
theorem yY_X8_readTerm : jY yX8_readTerm wsX8_readTerm cX8_readTerm 4 (some .int) 0 := ⟨⟨_, rfl⟩, by decide +kernel, by decide +kernel, by decide +kernel⟩
theorem dX8_readSum_40 : decode cX8_readSum 40 = .ok (.istore_n 3, 1) := by decide +kernel
theorem dX8_readSum_41 : decode cX8_readSum 41 = .ok (.aload_n 0, 1) := by decide +kernel
theorem dX8_readSum_42 : decode cX8_readSum 42 = .ok (.getfield 87, 3) := by decide +kernel
theorem dX8_readSum_45 : decode cX8_readSum 45 = .ok (.ifCond .ne 13, 3) := by decide +kernel
theorem dX8_readSum_58 : decode cX8_readSum 58 = .ok (.goto (-53), 3) := by decide +kernel
theorem dX8_readSum_48 : decode cX8_readSum 48 = .ok (.aload_n 0, 1) := by decide +kernel
theorem dX8_readSum_49 : decode cX8_readSum 49 = .ok (.bipush 43, 2) := by decide +kernel
theorem dX8_readSum_51 : decode cX8_readSum 51 = .ok (.iload_n 1, 1) := by decide +kernel
theorem dX8_readSum_52 : decode cX8_readSum 52 = .ok (.iload_n 3, 1) := by decide +kernel
theorem dX8_readSum_53 : decode cX8_readSum 53 = .ok (.iload_n 2, 1) := by decide +kernel
theorem dX8_readSum_54 : decode cX8_readSum 54 = .ok (.invokevirtual 178, 3) := by decide +kernel
set_option maxRecDepth 20000 in
theorem ggX8_readSum_X8_node : GoodIn wsX8_readSum wsX8_node := goodIn_ca (goodIn_r _ [16, 17, 18, 19, 20, 21, 52, 53, 54, 55, 56, 57, 58, 59, 60, 61, 62, 63, 64, 65, 66, 67, 68, 69, 70, 71, 72, 73, 74, 75, 76, 77, 78, 79, 80, 81, 82] (by decide +kernel) (by decide +kernel)) (goodIn_sub (fun _ h => List.mem_cons_of_mem _ (List.mem_append_right _ h)) (by decide +kernel))
set_option maxRecDepth 20000 in
theorem gX8_readSum_X8_node : GoodIn wsX8_readSum (wsV RX8 178 RX8 yX8_node wsX8_node) := goodIn_app (goodIn_of _ (by decide +kernel)) ggX8_readSum_X8_node
theorem dX8_readSum_57 : decode cX8_readSum 57 = .ok (.istore_n 1, 1) := by decide +kernel
theorem dX8_readSum_0 : decode cX8_readSum 0 = .ok (.aload_n 0, 1) := by decide +kernel
theorem dX8_readSum_1 : decode cX8_readSum 1 = .ok (.invokevirtual 182, 3) := by decide +kernel
theorem dX8_readSum_4 : decode cX8_readSum 4 = .ok (.istore_n 1, 1) := by decide +kernel
set_option maxHeartbeats 400000 in
set_option maxRecDepth 20000 in
theorem ct_X8_readSum (l : Launch) (D : va_G) (dA : Nat → ClassId) (hst : l.stackTraces = false) (M : jM) (m : Nat) (c : Nat → Int32) (L o : Nat) (hL : L ≤ 60) (s : eSt) (g : gS) (hX : mEx M m c L g s o) (hsk : eOk L s) (hs0 : s.2.1 ≤ s.1) (f0 l0 : Nat) (hf : 30 ≤ f0) (hl : 600 ≤ l0) (G : eRd) (hGo : ∀ s, eOk L s → eOk L (G s).2) (hGd : eGd L G) (hG : mCT l D dA yX8_readFactor wsX8_readFactor f0 l0 m c L o G) : jCT l D dA yX8_readSum wsX8_readSum (f0 + 40) (l0 + 400) (0) (0) 1 [.ref (m)] M (mEo M m c L o (eS c L G s)) := by
  refine jBody (cc := cX8_readSum) (nL := 4) (rt := (some .int)) (ini := false) (by decide) rfl hst (Nat.le_of_ble_eq_true rfl) (by simp [Value.category]) (by intro h9; first | exact absurd h9 (by decide) | rfl) ?_
  show J l D dA RX8 cX8_readSum wsX8_readSum 4 false (some .int) [] (f0 + 40) (l0 + 400) (jF D dA (jn M) (mEo M m c L o (eS c L G s)) 1) (jn M) (0) (0) (M) 0 [.ref (m), .float 0, .float 0, .float 0] []
  obtain ⟨hRd, hNd, h25, h26, hgp, hgb⟩ := id hX
  obtain ⟨hM, hL6, hL60, hbuf, hple, -⟩ := id hRd
  obtain ⟨m1, m2, ⟨r1, r2, r3, r4, r5, r6, r7, r8, r9, r10, r11, r12, r13⟩, ⟨k1, k2, k3, k4, k5, k6, k7, k8, k9, k10, k11, k12, k13⟩, z1, z2, z3, z4, z5, z6, z7, z8, z9, z10, z11, z12, z13⟩ := id hM
  have hT : mCT l D dA yX8_readTerm wsX8_readTerm (f0 + 20) (l0 + 200) m c L o (eT c L G) := fun M s g h1 h2 h3 => ct_X8_readTerm l D dA hst M m c L o hL s g h1 h2 h3 f0 l0 hf hl G hGo hGd hG
  have L5 : ∀ (fuel : Nat) (fu : Nat) (K : jM) (g1 : gS) (x : Int32) (s1 : eSt) (hKd : mRd K m c L g1) (h26K : ji K m 26 = nI o) (hFK : mFr m M K) (hEK : mE m M K) (hcK : ji K m 11 = ji M m 11) (hJ : tLp (eSgo c L G) L s (eS c L G s) K m c o fu g1 x s1), fu < fuel → J l D dA RX8 cX8_readSum wsX8_readSum 4 false (some .int) [] (f0 + 40) (l0 + 400) (jF D dA (jn M) (mEo M m c L o (eS c L G s)) 1) (jn M) (0) (0) (K) 5 [.ref (m), .int (x), .float 0, .float 0] [] := by
    intro fuel
    induction fuel with
    | zero => intro fu K g1 x s1 hKd h26K hFK hEK hcK hJ hm; exact absurd hm (Nat.not_lt_zero _)
    | succ fuel ih5 =>
      intro fu K g1 x s1 hKd h26K hFK hEK hcK hJ hm5
      obtain ⟨Km1, Km2, ⟨Kr1, Kr2, Kr3, Kr4, Kr5, Kr6, Kr7, Kr8, Kr9, Kr10, Kr11, Kr12, Kr13⟩, ⟨Kk1, Kk2, Kk3, Kk4, Kk5, Kk6, Kk7, Kk8, Kk9, Kk10, Kk11, Kk12, Kk13⟩, Kz1, Kz2, Kz3, Kz4, Kz5, Kz6, Kz7, Kz8, Kz9, Kz10, Kz11, Kz12, Kz13⟩ := id hKd.1
      rcases hJ with ⟨hgf, hx1, hX1, hk1, hT1, hgo, hfu⟩ | ⟨hgf, hR1, hR2⟩
      · obtain ⟨z9, rfl⟩ : ∃ z9, fu = z9 + 1 := ⟨fu - 1, by omega⟩
        obtain ⟨hRd1, hNd1, h251, h261, hgp1, -⟩ := id hX1
        have hle1 : s1.1 ≤ L := hk1.1
        have hn1 : s1.2.1 ≤ s1.1 := eTree_ok hT1 hs0 hx1
        refine J_aload_n (m) dX8_readSum_5 rfl rfl ?_
        refine J_geti (j := 16) dX8_readSum_6 (fun _ h => List.mem_cons_of_mem _ (List.mem_append_left _ (List.mem_append_right _ (h)))) cs11 (by decide) rfl (List.mem_of_getElem? (i := 1) rfl) rfl (show m < jn K from by omega) Km2 ?_
        refine J_topi (y := jb (false)) ((hKd.f16.trans (congrArg jb hgf))) ?_
        refine J_if_ne dX8_readSum_9 (tgt := 61) (by decide) (fun c9 => ?_) (fun c9 => ?_)
        · exact absurd c9 (by decide)
        · have c9 := jb0T c9
          refine J_aload_n (m) dX8_readSum_12 rfl rfl ?_
          refine J_calli0 (jrunV (As := []) (ct_X8_here l D dA hst K m c L g1 hKd) dX8_readSum_13 yY_X8_here gX8_readSum_X8_here rfl cs11 (show m < jn K from by omega) Km2 rfl ⟨by omega, by omega⟩ ⟨Nat.zero_le _, Nat.zero_le _⟩ rfl (Nat.le_of_ble_eq_true rfl)) (rfl) (rfl) ?_
          refine J_topi (y := gHere c L s1.1) (by rw [hgp1]) ?_
          refine J_bipush (x := 43) dX8_readSum_16 (by decide) ?_
          refine J_icmp_ne dX8_readSum_18 (tgt := 61) (by decide) (fun c18 => ?_) (fun c18 => ?_)
          · refine J_iload_n dX8_readSum_61 rfl rfl ?_
            exact J_iret (ty := .int) dX8_readSum_62 rfl (rfl) (by have hR : _ = (x, s1) := hgo.symm.trans (eSgo_n (gHere_f c18)); rw [hR]; exact ⟨x, g1, rfl, hKd, hgp1, hgf.trans (decide_eq_false hx1).symm, h26K, hFK, hEK, hcK, fun _ => ⟨rfl, hNd1, h251⟩⟩)
          · have hlt : s1.1 + 1 ≤ L := tIsAt_lt (gHere_t (by decide) c18)
            refine J_aload_n (m) dX8_readSum_21 rfl rfl ?_
            refine J_geti (j := 15) dX8_readSum_22 (fun _ h => List.mem_cons_of_mem _ (List.mem_append_left _ (List.mem_append_right _ (h)))) cs11 (by decide) rfl (List.mem_of_getElem? (i := 2) rfl) rfl (show m < jn K from by omega) Km2 ?_
            refine J_topi (y := nI (s1.1)) ((hKd.f15.trans (congrArg nI hgp1))) ?_
            refine J_istore_n (lv' := [.ref (m), .int (x), .int (nI (s1.1)), .float 0]) dX8_readSum_25 rfl (by decide) rfl rfl ?_
            refine J_aload_n (m) dX8_readSum_26 rfl rfl ?_
            refine J_dup dX8_readSum_27 rfl ?_
            refine J_geti (j := 15) dX8_readSum_28 (fun _ h => List.mem_cons_of_mem _ (List.mem_append_left _ (List.mem_append_right _ (h)))) cs11 (by decide) rfl (List.mem_of_getElem? (i := 2) rfl) rfl (show m < jn K from by omega) Km2 ?_
            refine J_topi (y := nI (s1.1)) ((hKd.f15.trans (congrArg nI hgp1))) ?_
            refine J_iconst (x := 1) dX8_readSum_31 (by decide) ?_
            refine J_iadd dX8_readSum_32 ?_
            refine J_topi (y := nI (s1.1 + 1)) (nI_add (s1.1) (1)) ?_
            refine J_puti (j := 15) (x := nI (s1.1 + 1)) dX8_readSum_33 (fun _ h => List.mem_cons_of_mem _ (List.mem_append_left _ (List.mem_append_right _ (h)))) cs11 cty11 (by decide) rfl (List.mem_of_getElem? (i := 2) rfl) rfl rfl ⟨rfl, rfl⟩ (show m < jn K from by omega) Km2 ?_
            refine J_mem (M' := mRS K m (s1.1 + 1, g1.2)) ((congrArg (fun z => jSi z m 15 (nI (s1.1 + 1))) hKd.self).trans (mRS_15 _ _ _ _)) ?_
            refine J_aload_n (m) dX8_readSum_36 rfl rfl ?_
            refine J_calli (jrunV (As := []) (hT ((mRS K m (s1.1 + 1, g1.2))) (s1.1 + 1, s1.2) (s1.1 + 1, g1.2) (hX1.adv hlt) ⟨hlt, hk1.2⟩ (by show s1.2.1 ≤ s1.1 + 1; omega)) dX8_readSum_37 yY_X8_readTerm gX8_readSum_X8_readTerm rfl cs11 (show m < jn K from by omega) Km2 rfl ⟨by omega, by omega⟩ ⟨Nat.zero_le _, Nat.zero_le _⟩ rfl (Nat.le_of_ble_eq_true rfl)) ⟨Nat.zero_le _, Nat.zero_le _⟩ (Or.inr ⟨(jOk.ref (show m < jn K from by omega) (jOk.int (jOk.int (jOk.float jOk.nil)))), jOk.nil⟩) (fun E M9 hp _ => by obtain ⟨_, _, h1, _⟩ := hp; cases h1) (fun x9 K37 hp37 hle37 => ?_)
            obtain ⟨x37, g37, he9, hd37, hp837, hb837, ho837, hF837, hE837, hc837, hk837⟩ := hp37
            have he9 := (jI_inj he9).symm
            subst he9
            obtain ⟨K37m1, K37m2, ⟨K37r1, K37r2, K37r3, K37r4, K37r5, K37r6, K37r7, K37r8, K37r9, K37r10, K37r11, K37r12, K37r13⟩, ⟨K37k1, K37k2, K37k3, K37k4, K37k5, K37k6, K37k7, K37k8, K37k9, K37k10, K37k11, K37k12, K37k13⟩, K37z1, K37z2, K37z3, K37z4, K37z5, K37z6, K37z7, K37z8, K37z9, K37z10, K37z11, K37z12, K37z13⟩ := id hd37.1
            by_cases hr37 : ((eT c L G) (s1.1 + 1, s1.2)).1 = -1
            · have hg37 : g37.2.1 = true := by rw [hb837]; exact decide_eq_true hr37
              refine J_istore_n (lv' := [.ref (m), .int (x), .int (nI (s1.1)), .int (x37)]) dX8_readSum_40 rfl (by decide) rfl rfl ?_
              refine J_aload_n (m) dX8_readSum_41 rfl rfl ?_
              refine J_geti (j := 16) dX8_readSum_42 (fun _ h => List.mem_cons_of_mem _ (List.mem_append_left _ (List.mem_append_right _ (h)))) cs11 (by decide) rfl (List.mem_of_getElem? (i := 1) rfl) rfl (show m < jn K37 from by omega) K37m2 ?_
              refine J_topi (y := jb (true)) ((hd37.f16.trans (congrArg jb hg37))) ?_
              refine J_if_ne dX8_readSum_45 (tgt := 58) (by decide) (fun c45 => ?_) (fun c45 => ?_)
              · have c45 := jb0F c45
                refine J_goto (tgt := 5) dX8_readSum_58 (by decide) ?_
                refine J_fg 2 (lv' := [.ref (m), .int (x), .float 0, .int (x37)]) rfl ?_
                refine J_fg 3 (lv' := [.ref (m), .int (x), .float 0, .float 0]) rfl ?_
                exact ih5 (z9) (K37) (g37) (x) (s1) (by exact hd37) (by exact ho837) (by exact (hFK.tr mRS_F).tr hF837) (by exact (hEK.tr mRS_E).tr hE837) (by exact hc837.trans ((mRS_o (by omega)).trans hcK)) (by exact Or.inr ⟨hg37, by rw [← hgo, eSgo_1 hx1 (gHere_t (by decide) c18), eOp_bad (eAt0 (gHere_t (by decide) c18)) hr37, eSgo_m], by rw [← hgo, eSgo_1 hx1 (gHere_t (by decide) c18), eOp_bad (eAt0 (gHere_t (by decide) c18)) hr37, eSgo_m]; exact hp837.symm⟩) (by omega)
              · exact absurd c45 (by decide)
            · have hg37 : g37.2.1 = false := by rw [hb837]; exact decide_eq_false hr37
              obtain ⟨hx37, hn37, h2537⟩ := hk837 hr37
              refine J_istore_n (lv' := [.ref (m), .int (x), .int (nI (s1.1)), .int (x37)]) dX8_readSum_40 rfl (by decide) rfl rfl ?_
              refine J_aload_n (m) dX8_readSum_41 rfl rfl ?_
              refine J_geti (j := 16) dX8_readSum_42 (fun _ h => List.mem_cons_of_mem _ (List.mem_append_left _ (List.mem_append_right _ (h)))) cs11 (by decide) rfl (List.mem_of_getElem? (i := 1) rfl) rfl (show m < jn K37 from by omega) K37m2 ?_
              refine J_topi (y := jb (false)) ((hd37.f16.trans (congrArg jb hg37))) ?_
              refine J_if_ne dX8_readSum_45 (tgt := 58) (by decide) (fun c45 => ?_) (fun c45 => ?_)
              · exact absurd c45 (by decide)
              · have c45 := jb0T c45
                obtain ⟨q1, q2, q3, q4, q5, q6, q7, q8, q9, q10⟩ := eOp_rows hL (eT_T hL hGo hGd) (kd := 0) (Or.inl rfl) hk1 hs0 hx1 hT1 (eAt0 (gHere_t (by decide) c18)) hr37
                refine J_aload_n (m) dX8_readSum_48 rfl rfl ?_
                refine J_bipush (x := 43) dX8_readSum_49 (by decide) ?_
                refine J_iload_n dX8_readSum_51 rfl rfl ?_
                refine J_iload_n dX8_readSum_52 rfl rfl ?_
                refine J_iload_n dX8_readSum_53 rfl rfl ?_
                refine J_calli0 (jrunV (As := [.int (43), .int (x), .int (x37), .int (nI (s1.1))]) (ct_X8_node l D dA hst K37 m hd37.1 ((eT c L G) (s1.1 + 1, s1.2)).2.2.1 h2537 (by omega) ((43)) ((x)) ((x37)) (nI (s1.1))) dX8_readSum_54 yY_X8_node gX8_readSum_X8_node rfl cs11 (show m < jn K37 from by omega) K37m2 rfl ⟨by omega, by omega⟩ ⟨Nat.zero_le _, Nat.zero_le _⟩ rfl (Nat.le_of_ble_eq_true rfl)) (rfl) (rfl) ?_
                refine J_istore_n (lv' := [.ref (m), .int (nI (((eT c L G) (s1.1 + 1, s1.2)).2.2.1)), .int (nI (s1.1)), .int (x37)]) dX8_readSum_57 rfl (by decide) rfl rfl ?_
                refine J_goto (tgt := 5) dX8_readSum_58 (by decide) ?_
                refine J_fg 2 (lv' := [.ref (m), .int (nI (((eT c L G) (s1.1 + 1, s1.2)).2.2.1)), .float 0, .int (x37)]) rfl ?_
                refine J_fg 3 (lv' := [.ref (m), .int (nI (((eT c L G) (s1.1 + 1, s1.2)).2.2.1)), .float 0, .float 0]) rfl ?_
                exact ih5 (z9) ((mNo K37 m ((eT c L G) (s1.1 + 1, s1.2)).2.2.1 ((43)) ((x)) ((x37)) (nI (s1.1)))) (g37) (nI (((eT c L G) (s1.1 + 1, s1.2)).2.2.1)) ((eOp c L (eT c L G) 0 x s1).2) (by exact hd37.no) (by exact (mNo_o (by decide)).trans ho837) (by exact ((hFK.tr mRS_F).tr hF837).tr mNo_F) (by exact ((hEK.tr mRS_E).tr hE837).tr mNo_E) (by exact (mNo_o (by decide)).trans (hc837.trans ((mRS_o (by omega)).trans hcK))) (by rw [← q1]; exact Or.inl ⟨hg37, by rw [q1]; exact fun h9 => absurd (show nI ((eT c L G) (s1.1 + 1, s1.2)).2.2.1 < 0 by rw [h9]; decide) (nI_pos (by omega)), ⟨hd37.no, mNo_nd hn37 q3 q4 q5 q6 q7 (by decide) (Or.inr (Or.inr hx37)), by rw [mNo_25, q3], (mNo_o (by decide)).trans ho837, hp837.trans q2.symm, hg37⟩, eOp_ok (eT_ok hGo) hk1, eOp_T hL (eT_T hL hGo hGd) (Or.inl rfl) hk1 hs0 hx1 hT1, by rw [← hgo, eSgo_1 hx1 (gHere_t (by decide) c18)], by rw [q2]; omega⟩) (by omega)
      · refine J_aload_n (m) dX8_readSum_5 rfl rfl ?_
        refine J_geti (j := 16) dX8_readSum_6 (fun _ h => List.mem_cons_of_mem _ (List.mem_append_left _ (List.mem_append_right _ (h)))) cs11 (by decide) rfl (List.mem_of_getElem? (i := 1) rfl) rfl (show m < jn K from by omega) Km2 ?_
        refine J_topi (y := jb (true)) ((hKd.f16.trans (congrArg jb hgf))) ?_
        refine J_if_ne dX8_readSum_9 (tgt := 61) (by decide) (fun c9 => ?_) (fun c9 => ?_)
        · have c9 := jb0F c9
          refine J_iload_n dX8_readSum_61 rfl rfl ?_
          exact J_iret (ty := .int) dX8_readSum_62 rfl (rfl) (by exact ⟨x, g1, rfl, hKd, hR2.symm, hgf.trans (decide_eq_true hR1).symm, h26K, hFK, hEK, hcK, fun h9 => absurd hR1 h9⟩)
        · exact absurd c9 (by decide)
  refine J_aload_n (m) dX8_readSum_0 rfl rfl ?_
  refine J_calli (jrunV (As := []) (hT M s g hX hsk hs0) dX8_readSum_1 yY_X8_readTerm gX8_readSum_X8_readTerm rfl cs11 (show m < jn M from by omega) m2 rfl ⟨by omega, by omega⟩ ⟨Nat.zero_le _, Nat.zero_le _⟩ rfl (Nat.le_of_ble_eq_true rfl)) ⟨Nat.zero_le _, Nat.zero_le _⟩ (Or.inr ⟨(jOk.ref (show m < jn M from by omega) (jOk.float (jOk.float (jOk.float jOk.nil)))), jOk.nil⟩) (fun E M9 hp _ => by obtain ⟨_, _, h1, _⟩ := hp; cases h1) (fun x9 K1 hp1 hle1 => ?_)
  obtain ⟨x1, g1, he9, hd1, hp81, hb81, ho81, hF81, hE81, hc81, hk81⟩ := hp1
  have he9 := (jI_inj he9).symm
  subst he9
  obtain ⟨K1m1, K1m2, ⟨K1r1, K1r2, K1r3, K1r4, K1r5, K1r6, K1r7, K1r8, K1r9, K1r10, K1r11, K1r12, K1r13⟩, ⟨K1k1, K1k2, K1k3, K1k4, K1k5, K1k6, K1k7, K1k8, K1k9, K1k10, K1k11, K1k12, K1k13⟩, K1z1, K1z2, K1z3, K1z4, K1z5, K1z6, K1z7, K1z8, K1z9, K1z10, K1z11, K1z12, K1z13⟩ := id hd1.1
  by_cases hr1 : ((eT c L G) s).1 = -1
  · have hg1 : g1.2.1 = true := by rw [hb81]; exact decide_eq_true hr1
    refine J_istore_n (lv' := [.ref (m), .int (x1), .float 0, .float 0]) dX8_readSum_4 rfl (by decide) rfl rfl ?_
    exact L5 _ (L + 1) (K1) (g1) (x1) (((eT c L G) s).2) (by exact hd1) (by exact ho81) (by exact hF81) (by exact hE81) (by exact hc81) (by exact Or.inr ⟨hg1, by rw [show eS c L G s = (-1, (eT c L G s).2) from by unfold eS; rw [hr1]; exact eSgo_m], by rw [show eS c L G s = (-1, (eT c L G s).2) from by unfold eS; rw [hr1]; exact eSgo_m]; exact hp81.symm⟩) (Nat.lt_succ_self _)
  · have hg1 : g1.2.1 = false := by rw [hb81]; exact decide_eq_false hr1
    obtain ⟨hx1, hn1, h251⟩ := hk81 hr1
    refine J_istore_n (lv' := [.ref (m), .int (x1), .float 0, .float 0]) dX8_readSum_4 rfl (by decide) rfl rfl ?_
    exact L5 _ (L + 1) (K1) (g1) (x1) (((eT c L G) s).2) (by exact hd1) (by exact ho81) (by exact hF81) (by exact hE81) (by exact hc81) (by rw [hx1]; exact Or.inl ⟨hg1, hr1, ⟨hd1, hn1, h251, ho81, hp81, hg1⟩, (eT_ok hGo) s hsk, (eT_T hL hGo hGd) s hsk hs0, rfl, by omega⟩) (Nat.lt_succ_self _)

theorem fac_adv {M : jM} {m : Nat} {c : Nat → Int32} {L o : Nat} {g : gS} {s : eSt} (h : mEx M m c L g s o) (hs : s.1 + 1 ≤ L) : mEx (jSi (jSi M m 26 (nI (o + 1))) m 15 (nI (s.1 + 1))) m c L (s.1 + 1, g.2) (s.1 + 1, s.2) (o + 1) := by
  obtain ⟨a1, a2, a3, a4, a5, a6⟩ := h
  have h1 : mRd (jSi M m 26 (nI (o + 1))) m c L g := a1.fo (by omega)
  have e : jSi (jSi M m 26 (nI (o + 1))) m 15 (nI (s.1 + 1)) = mRS (jSi M m 26 (nI (o + 1))) m (s.1 + 1, g.2) := (congrArg (fun z => jSi z m 15 (nI (s.1 + 1))) h1.self).trans (mRS_15 _ _ _ _)
  rw [e]
  exact ⟨h1.rs _ hs, fun k hk => (mNd.fo a2).rs k hk, by rw [mRS_o (by omega), ji_Sik (by decide)]; exact a3, by rw [mRS_o (by omega)]; exact ji_Sis, rfl, a6⟩
theorem eFac_0b {c : Nat → Int32} {L : Nat} {s : eSt} (h : tIsAt c L s.1 33 = true ∨ tIsAt c L s.1 40 = true) : eFac c L 0 s = (-1, s) := by
  show (if tIsAt c L s.1 33 = true then _ else if tIsAt c L s.1 40 = true then _ else _ : Int32 × eSt) = _
  by_cases a : tIsAt c L s.1 33 = true
  · rw [if_pos a]
  · rw [if_neg a, if_pos (h.resolve_left a)]
theorem eFac_n {c : Nat → Int32} {L d : Nat} {s : eSt} (a : tIsAt c L s.1 33 = false) (b : tIsAt c L s.1 40 = false) : eFac c L d s = eNum c L s := by
  cases d with
  | zero =>
    show (if tIsAt c L s.1 33 = true then _ else if tIsAt c L s.1 40 = true then _ else _ : Int32 × eSt) = _
    rw [if_neg (by rw [a]; decide), if_neg (by rw [b]; decide)]
  | succ d =>
    unfold eFac
    rw [if_neg (by rw [a]; decide), if_neg (by rw [b]; decide)]
theorem eFac_1b {c : Nat → Int32} {L d : Nat} {s : eSt} (a : tIsAt c L s.1 33 = true) (hr : (eFac c L d (s.1 + 1, s.2)).1 = -1) : eFac c L (d + 1) s = (-1, (eFac c L d (s.1 + 1, s.2)).2) := by
  conv => lhs; unfold eFac
  rw [if_pos a, if_pos hr]
theorem eFac_1 {c : Nat → Int32} {L d : Nat} {s : eSt} (a : tIsAt c L s.1 33 = true) (hr : (eFac c L d (s.1 + 1, s.2)).1 ≠ -1) : eFac c L (d + 1) s = eAdd L 3 (nI s.1) (eFac c L d (s.1 + 1, s.2)).1 (-1) (eFac c L d (s.1 + 1, s.2)).2 := by
  conv => lhs; unfold eFac
  rw [if_pos a, if_neg hr]
theorem eFac_2b {c : Nat → Int32} {L d : Nat} {s : eSt} (a : tIsAt c L s.1 33 = false) (b : tIsAt c L s.1 40 = true) (hr : (eS c L (eFac c L d) (s.1 + 1, s.2)).1 = -1) : eFac c L (d + 1) s = (-1, (eS c L (eFac c L d) (s.1 + 1, s.2)).2) := by
  conv => lhs; unfold eFac
  rw [if_neg (by rw [a]; decide), if_pos b, if_pos hr]
theorem eFac_2 {c : Nat → Int32} {L d : Nat} {s : eSt} (a : tIsAt c L s.1 33 = false) (b : tIsAt c L s.1 40 = true) (hr : (eS c L (eFac c L d) (s.1 + 1, s.2)).1 ≠ -1) (k : tIsAt c L (eS c L (eFac c L d) (s.1 + 1, s.2)).2.1 41 = true) : eFac c L (d + 1) s = ((eS c L (eFac c L d) (s.1 + 1, s.2)).1, ((eS c L (eFac c L d) (s.1 + 1, s.2)).2.1 + 1, (eS c L (eFac c L d) (s.1 + 1, s.2)).2.2)) := by
  conv => lhs; unfold eFac
  rw [if_neg (by rw [a]; decide), if_pos b, if_neg hr, if_pos k]
theorem eFac_2c {c : Nat → Int32} {L d : Nat} {s : eSt} (a : tIsAt c L s.1 33 = false) (b : tIsAt c L s.1 40 = true) (hr : (eS c L (eFac c L d) (s.1 + 1, s.2)).1 ≠ -1) (k : tIsAt c L (eS c L (eFac c L d) (s.1 + 1, s.2)).2.1 41 = false) : eFac c L (d + 1) s = (-1, (eS c L (eFac c L d) (s.1 + 1, s.2)).2) := by
  conv => lhs; unfold eFac
  rw [if_neg (by rw [a]; decide), if_pos b, if_neg hr, if_neg (by rw [k]; decide)]
theorem eNot_rows {c : Nat → Int32} {L d : Nat} {s : eSt} (hL : L ≤ 60) (hG : eGd L (eFac c L d)) (hs : eOk L s) (h0 : s.2.1 ≤ s.1) (a : tIsAt c L s.1 33 = true) (hr : (eFac c L d (s.1 + 1, s.2)).1 ≠ -1) :
    (eFac c L (d + 1) s).1 = nI (eFac c L d (s.1 + 1, s.2)).2.2.1 ∧ (eFac c L (d + 1) s).2.1 = (eFac c L d (s.1 + 1, s.2)).2.1 ∧ (eFac c L (d + 1) s).2.2.1 = (eFac c L d (s.1 + 1, s.2)).2.2.1 + 1 ∧ (eFac c L (d + 1) s).2.2.2.1 = upd (eFac c L d (s.1 + 1, s.2)).2.2.2.1 (eFac c L d (s.1 + 1, s.2)).2.2.1 3 ∧
    (eFac c L (d + 1) s).2.2.2.2.1 = upd (eFac c L d (s.1 + 1, s.2)).2.2.2.2.1 (eFac c L d (s.1 + 1, s.2)).2.2.1 (nI s.1) ∧ (eFac c L (d + 1) s).2.2.2.2.2.1 = upd (eFac c L d (s.1 + 1, s.2)).2.2.2.2.2.1 (eFac c L d (s.1 + 1, s.2)).2.2.1 (eFac c L d (s.1 + 1, s.2)).1 ∧ (eFac c L (d + 1) s).2.2.2.2.2.2.1 = upd (eFac c L d (s.1 + 1, s.2)).2.2.2.2.2.2.1 (eFac c L d (s.1 + 1, s.2)).2.2.1 (-1) ∧
    (eFac c L d (s.1 + 1, s.2)).2.2.1 < L := by
  have hlt := tIsAt_lt a
  have hok : eOk L ((s.1 + 1, s.2) : eSt) := ⟨hlt, hs.2⟩
  obtain ⟨r, g1, g2, g3, g4, g5, g6, g7, g8⟩ := hG (s.1 + 1, s.2) hok (by show s.2.1 ≤ s.1 + 1; omega) hr
  have g2 : s.2.1 ≤ r := g2
  have g4 : r + 1 + (s.1 + 1) ≤ (eFac c L d (s.1 + 1, s.2)).2.1 + s.2.1 := g4
  rw [eFac_1 a hr]
  generalize eFac c L d (s.1 + 1, s.2) = R at *
  rw [g1, eAdd_3 (by omega) (by omega) hL]
  exact ⟨rfl, rfl, rfl, rfl, rfl, rfl, rfl, by omega⟩
theorem gNum_B {c : Nat → Int32} {L : Nat} {g : gS} (h : (tNum c L g.1).1 = -1) : gNum c L g = gBad g := gNum_b (Or.inr (tNum_m h).1)
theorem gNum_G {c : Nat → Int32} {L : Nat} {g : gS} (h0 : g.2.1 = false) (h : ¬ (tNum c L g.1).1 = -1) : gNum c L g = ((tNum c L g.1).2, g.2.1, g.2.2.1, (tNum c L g.1).1, g.2.2.2.2) := gNum_g (fun h9 => h9.elim (fun h8 => by rw [h0] at h8; exact nomatch h8) (tNum_n h).1)
theorem mX_b {M : jM} {m : Nat} {s : eSt} {g : gS} (h : mNd M m s) : mNd (mRS M m g) m s := h.rs
theorem dX8_readFactor_0 : decode cX8_readFactor 0 = .ok (.aload_n 0, 1) := by decide +kernel
theorem dX8_readFactor_1 : decode cX8_readFactor 1 = .ok (.getfield 81, 3) := by decide +kernel
theorem dX8_readFactor_4 : decode cX8_readFactor 4 = .ok (.istore_n 1, 1) := by decide +kernel
theorem dX8_readFactor_5 : decode cX8_readFactor 5 = .ok (.aload_n 0, 1) := by decide +kernel
theorem dX8_readFactor_6 : decode cX8_readFactor 6 = .ok (.invokevirtual 91, 3) := by decide +kernel
set_option maxRecDepth 20000 in
theorem ggX8_readFactor_X8_here : GoodIn wsX8_readFactor wsX8_here := goodIn_ca (goodIn_r _ [10, 1, 11, 4, 52, 53, 54, 55, 56, 57, 58, 59, 60, 61, 62, 63, 64, 65, 66, 67, 68, 69, 70, 71, 72, 73, 74, 75, 76, 77, 78, 79, 80, 81, 82] (by decide +kernel) (by decide +kernel)) (goodIn_sub (fun _ h => List.mem_cons_of_mem _ (List.mem_append_right _ h)) (by decide +kernel))
set_option maxRecDepth 20000 in
theorem gX8_readFactor_X8_here : GoodIn wsX8_readFactor (wsV RX8 91 RX8 yX8_here wsX8_here) := goodIn_app (goodIn_of _ (by decide +kernel)) ggX8_readFactor_X8_here
theorem dX8_readFactor_9 : decode cX8_readFactor 9 = .ok (.bipush 33, 2) := by decide +kernel
theorem dX8_readFactor_11 : decode cX8_readFactor 11 = .ok (.if_icmp .eq 12, 3) := by decide +kernel
theorem dX8_readFactor_23 : decode cX8_readFactor 23 = .ok (.aload_n 0, 1) := by decide +kernel
theorem dX8_readFactor_24 : decode cX8_readFactor 24 = .ok (.getfield 87, 3) := by decide +kernel
theorem dX8_readFactor_27 : decode cX8_readFactor 27 = .ok (.ifCond .ne 12, 3) := by decide +kernel
theorem dX8_readFactor_30 : decode cX8_readFactor 30 = .ok (.aload_n 0, 1) := by decide +kernel
theorem dX8_readFactor_31 : decode cX8_readFactor 31 = .ok (.getfield 169, 3) := by decide +kernel
theorem dX8_readFactor_34 : decode cX8_readFactor 34 = .ok (.bipush 8, 2) := by decide +kernel
theorem dX8_readFactor_36 : decode cX8_readFactor 36 = .ok (.if_icmp .ne 9, 3) := by decide +kernel
theorem dX8_readFactor_39 : decode cX8_readFactor 39 = .ok (.aload_n 0, 1) := by decide +kernel
theorem dX8_readFactor_40 : decode cX8_readFactor 40 = .ok (.invokevirtual 99, 3) := by decide +kernel
set_option maxRecDepth 20000 in
theorem ggX8_readFactor_X8_bad : GoodIn wsX8_readFactor wsX8_bad := goodIn_r _ [15, 2, 52, 53, 54, 55, 56, 57, 58, 59, 60, 61, 62, 63, 64, 65, 66, 67, 68, 69, 70, 71, 72, 73, 74, 75, 76, 77, 78, 79, 80, 81, 82] (by decide +kernel) (by decide +kernel)
set_option maxRecDepth 20000 in
theorem gX8_readFactor_X8_bad : GoodIn wsX8_readFactor (wsV RX8 99 RX8 yX8_bad wsX8_bad) := goodIn_app (goodIn_of _ (by decide +kernel)) ggX8_readFactor_X8_bad
theorem dX8_readFactor_43 : decode cX8_readFactor 43 = .ok (.iconst 0, 1) := by decide +kernel
theorem dX8_readFactor_44 : decode cX8_readFactor 44 = .ok (.ireturn, 1) := by decide +kernel
theorem dX8_readFactor_14 : decode cX8_readFactor 14 = .ok (.aload_n 0, 1) := by decide +kernel
theorem dX8_readFactor_15 : decode cX8_readFactor 15 = .ok (.invokevirtual 91, 3) := by decide +kernel
theorem dX8_readFactor_18 : decode cX8_readFactor 18 = .ok (.bipush 40, 2) := by decide +kernel
theorem dX8_readFactor_20 : decode cX8_readFactor 20 = .ok (.if_icmp .ne 131, 3) := by decide +kernel
theorem dX8_readFactor_151 : decode cX8_readFactor 151 = .ok (.aload_n 0, 1) := by decide +kernel
theorem dX8_readFactor_152 : decode cX8_readFactor 152 = .ok (.invokevirtual 109, 3) := by decide +kernel
set_option maxRecDepth 20000 in
theorem ggX8_readFactor_X8_readNumber : GoodIn wsX8_readFactor wsX8_readNumber := goodIn_ca (goodIn_r _ [42, 2, 5, 1, 43, 44, 45, 9, 46, 6, 7, 8, 10, 11, 4, 12, 13, 14, 15, 52, 53, 54, 55, 56, 57, 58, 59, 60, 61, 62, 63, 64, 65, 66, 67, 68, 69, 70, 71, 72, 73, 74, 75, 76, 77, 78, 79, 80, 81, 82] (by decide +kernel) (by decide +kernel)) (goodIn_sub (fun _ h => List.mem_cons_of_mem _ (List.mem_append_right _ h)) (by decide +kernel))
set_option maxRecDepth 20000 in
theorem gX8_readFactor_X8_readNumber : GoodIn wsX8_readFactor (wsV RX8 109 RX8 yX8_readNumber wsX8_readNumber) := goodIn_app (goodIn_of _ (by decide +kernel)) ggX8_readFactor_X8_readNumber
theorem dX8_readFactor_155 : decode cX8_readFactor 155 = .ok (.aload_n 0, 1) := by decide +kernel
theorem dX8_readFactor_156 : decode cX8_readFactor 156 = .ok (.getfield 87, 3) := by decide +kernel
theorem dX8_readFactor_159 : decode cX8_readFactor 159 = .ok (.ifCond .eq 7, 3) := by decide +kernel
theorem dX8_readFactor_162 : decode cX8_readFactor 162 = .ok (.iconst 0, 1) := by decide +kernel
theorem dX8_readFactor_163 : decode cX8_readFactor 163 = .ok (.goto 15, 3) := by decide +kernel
theorem dX8_readFactor_178 : decode cX8_readFactor 178 = .ok (.ireturn, 1) := by decide +kernel
theorem dX8_readFactor_166 : decode cX8_readFactor 166 = .ok (.aload_n 0, 1) := by decide +kernel
theorem dX8_readFactor_167 : decode cX8_readFactor 167 = .ok (.bipush 115, 2) := by decide +kernel
theorem dX8_readFactor_169 : decode cX8_readFactor 169 = .ok (.aload_n 0, 1) := by decide +kernel
theorem dX8_readFactor_170 : decode cX8_readFactor 170 = .ok (.getfield 106, 3) := by decide +kernel
theorem dX8_readFactor_173 : decode cX8_readFactor 173 = .ok (.iconst 0, 1) := by decide +kernel
theorem dX8_readFactor_174 : decode cX8_readFactor 174 = .ok (.iload_n 1, 1) := by decide +kernel
theorem dX8_readFactor_175 : decode cX8_readFactor 175 = .ok (.invokevirtual 178, 3) := by decide +kernel
set_option maxRecDepth 20000 in
theorem ggX8_readFactor_X8_node : GoodIn wsX8_readFactor wsX8_node := goodIn_ca (goodIn_r _ [33, 34, 35, 36, 37, 38, 52, 53, 54, 55, 56, 57, 58, 59, 60, 61, 62, 63, 64, 65, 66, 67, 68, 69, 70, 71, 72, 73, 74, 75, 76, 77, 78, 79, 80, 81, 82] (by decide +kernel) (by decide +kernel)) (goodIn_sub (fun _ h => List.mem_cons_of_mem _ (List.mem_append_right _ h)) (by decide +kernel))
set_option maxRecDepth 20000 in
theorem gX8_readFactor_X8_node : GoodIn wsX8_readFactor (wsV RX8 178 RX8 yX8_node wsX8_node) := goodIn_app (goodIn_of _ (by decide +kernel)) ggX8_readFactor_X8_node
set_option maxHeartbeats 400000 in
set_option maxRecDepth 20000 in
theorem ct_X8_readFactor_0 (l : Launch) (D : va_G) (dA : Nat → ClassId) (hst : l.stackTraces = false) (M : jM) (m : Nat) (c : Nat → Int32) (L o : Nat) (hL : L ≤ 60) (s : eSt) (g : gS) (hX : mEx M m c L g s o) (hsk : eOk L s) (hs0 : s.2.1 ≤ s.1) (h8 : o = 8) : jCT l D dA yX8_readFactor wsX8_readFactor (30) (600) (0) (0) 1 [.ref (m)] M (mEo M m c L o (eFac c L 0 s)) := by
  refine jBody (cc := cX8_readFactor) (nL := 3) (rt := (some .int)) (ini := false) (by decide) rfl hst (Nat.le_of_ble_eq_true rfl) (by simp [Value.category]) (by intro h9; first | exact absurd h9 (by decide) | rfl) ?_
  show J l D dA RX8 cX8_readFactor wsX8_readFactor 3 false (some .int) [] (30) (600) (jF D dA (jn M) (mEo M m c L o (eFac c L 0 s)) 1) (jn M) (0) (0) (M) 0 [.ref (m), .float 0, .float 0] []
  obtain ⟨hRd, hNd, h25, h26, hgp, hgb⟩ := id hX
  obtain ⟨hM, hL6, hL60, hbuf, hple, -⟩ := id hRd
  obtain ⟨m1, m2, ⟨r1, r2, r3, r4, r5, r6, r7, r8, r9, r10, r11, r12, r13⟩, ⟨k1, k2, k3, k4, k5, k6, k7, k8, k9, k10, k11, k12, k13⟩, z1, z2, z3, z4, z5, z6, z7, z8, z9, z10, z11, z12, z13⟩ := id hM
  refine J_aload_n (m) dX8_readFactor_0 rfl rfl ?_
  refine J_geti (j := 15) dX8_readFactor_1 (fun _ h => List.mem_cons_of_mem _ (List.mem_append_left _ (List.mem_append_right _ (h)))) cs11 (by decide) rfl (List.mem_of_getElem? (i := 1) rfl) rfl (show m < jn M from by omega) m2 ?_
  refine J_topi (y := nI (s.1)) ((hRd.f15.trans (congrArg nI hgp))) ?_
  refine J_istore_n (lv' := [.ref (m), .int (nI (s.1)), .float 0]) dX8_readFactor_4 rfl (by decide) rfl rfl ?_
  refine J_aload_n (m) dX8_readFactor_5 rfl rfl ?_
  refine J_calli0 (jrunV (As := []) (ct_X8_here l D dA hst M m c L g hRd) dX8_readFactor_6 yY_X8_here gX8_readFactor_X8_here rfl cs11 (show m < jn M from by omega) m2 rfl ⟨by omega, by omega⟩ ⟨Nat.zero_le _, Nat.zero_le _⟩ rfl (Nat.le_of_ble_eq_true rfl)) (rfl) (rfl) ?_
  refine J_topi (y := gHere c L s.1) (by rw [hgp]) ?_
  refine J_bipush (x := 33) dX8_readFactor_9 (by decide) ?_
  refine J_icmp_eq dX8_readFactor_11 (tgt := 23) (by decide) (fun c11 => ?_) (fun c11 => ?_)
  · refine J_aload_n (m) dX8_readFactor_23 rfl rfl ?_
    refine J_geti (j := 16) dX8_readFactor_24 (fun _ h => List.mem_cons_of_mem _ (List.mem_append_left _ (List.mem_append_right _ (h)))) cs11 (by decide) rfl (List.mem_of_getElem? (i := 2) rfl) rfl (show m < jn M from by omega) m2 ?_
    refine J_topi (y := jb (false)) ((hRd.f16.trans (congrArg jb hgb))) ?_
    refine J_if_ne dX8_readFactor_27 (tgt := 39) (by decide) (fun c27 => ?_) (fun c27 => ?_)
    · exact absurd c27 (by decide)
    · have c27 := jb0T c27
      refine J_aload_n (m) dX8_readFactor_30 rfl rfl ?_
      refine J_geti (j := 26) dX8_readFactor_31 (fun _ h => List.mem_cons_of_mem _ (List.mem_append_left _ (List.mem_append_right _ (h)))) cs11 (by decide) rfl (List.mem_of_getElem? (i := 3) rfl) rfl (show m < jn M from by omega) m2 ?_
      refine J_topi (y := nI (o)) (h26) ?_
      refine J_bipush (x := 8) dX8_readFactor_34 (by decide) ?_
      refine J_icmp_ne dX8_readFactor_36 (tgt := 45) (by decide) (fun c36 => ?_) (fun c36 => ?_)
      · have c36 := jeqF (a := o) (b := 8) (by omega) (by omega) c36
        exact absurd c36 (by omega)
      · have c36 := jeqT (a := o) (b := 8) (by omega) (by omega) c36
        refine J_aload_n (m) dX8_readFactor_39 rfl rfl ?_
        refine J_callv0 (jrunV (As := []) (ct_X8_bad l D dA hst M m c L g hRd) dX8_readFactor_40 yY_X8_bad gX8_readFactor_X8_bad rfl cs11 (show m < jn M from by omega) m2 rfl ⟨by omega, by omega⟩ ⟨Nat.zero_le _, Nat.zero_le _⟩ rfl (Nat.le_of_ble_eq_true rfl)) (rfl) (rfl) ?_
        refine J_iconst (x := 0) dX8_readFactor_43 (by decide) ?_
        exact J_iret (ty := .int) dX8_readFactor_44 rfl (rfl) (by rw [eFac_0b (by first | exact Or.inl (gHere_t (by decide) c11) | exact Or.inr (gHere_t (by decide) c20))]; exact ⟨0, gBad g, rfl, hRd.rs _ hRd.le, hgp, rfl, (mRS_o (by omega)).trans h26, mRS_F, mRS_E, mRS_o (by omega), fun h9 => absurd rfl h9⟩)
  · refine J_aload_n (m) dX8_readFactor_14 rfl rfl ?_
    refine J_calli0 (jrunV (As := []) (ct_X8_here l D dA hst M m c L g hRd) dX8_readFactor_15 yY_X8_here gX8_readFactor_X8_here rfl cs11 (show m < jn M from by omega) m2 rfl ⟨by omega, by omega⟩ ⟨Nat.zero_le _, Nat.zero_le _⟩ rfl (Nat.le_of_ble_eq_true rfl)) (rfl) (rfl) ?_
    refine J_topi (y := gHere c L s.1) (by rw [hgp]) ?_
    refine J_bipush (x := 40) dX8_readFactor_18 (by decide) ?_
    refine J_icmp_ne dX8_readFactor_20 (tgt := 151) (by decide) (fun c20 => ?_) (fun c20 => ?_)
    · refine J_aload_n (m) dX8_readFactor_151 rfl rfl ?_
      refine J_callv0 (jrunV (As := []) (ct_X8_readNumber l D dA hst M m c L g hRd) dX8_readFactor_152 yY_X8_readNumber gX8_readFactor_X8_readNumber rfl cs11 (show m < jn M from by omega) m2 rfl ⟨by omega, by omega⟩ ⟨Nat.zero_le _, Nat.zero_le _⟩ rfl (Nat.le_of_ble_eq_true rfl)) (rfl) (rfl) ?_
      have ha33 := gHere_f c11
      have hb40 := gHere_f c20
      by_cases hnu : (tNum c L g.1).1 = -1
      · refine J_mem (M' := mRS M m (gBad g)) (by rw [gNum_B hnu]) ?_
        have hdY : mRd (mRS M m (gBad g)) m c L (gBad g) := hRd.rs _ hRd.le
        have hgY : (gBad g).2.1 = true := rfl
        refine J_aload_n (m) dX8_readFactor_155 rfl rfl ?_
        refine J_geti (j := 16) dX8_readFactor_156 (fun _ h => List.mem_cons_of_mem _ (List.mem_append_left _ (List.mem_append_right _ (h)))) cs11 (by decide) rfl (List.mem_of_getElem? (i := 2) rfl) rfl (show m < jn M from by omega) m2 ?_
        refine J_topi (y := jb (true)) ((hdY.f16.trans (congrArg jb hgY))) ?_
        refine J_if_eq dX8_readFactor_159 (tgt := 166) (by decide) (fun c159 => ?_) (fun c159 => ?_)
        · exact absurd c159 (by decide)
        · have c159 := jb0F c159
          refine J_iconst (x := 0) dX8_readFactor_162 (by decide) ?_
          refine J_goto (tgt := 178) dX8_readFactor_163 (by decide) ?_
          exact J_iret (ty := .int) dX8_readFactor_178 rfl (rfl) (by rw [eFac_n ha33 hb40]; rw [hgp] at hnu; unfold eNum; rw [if_pos hnu]; exact ⟨0, gBad g, rfl, hdY, by show g.1 = (tNum c L s.1).2; rw [(tNum_m hnu).2]; exact hgp, rfl, (mRS_o (by omega)).trans h26, mRS_F, mRS_E, mRS_o (by omega), fun h9 => absurd rfl h9⟩)
      · refine J_mem (M' := mRS M m ((tNum c L g.1).2, g.2.1, g.2.2.1, (tNum c L g.1).1, g.2.2.2.2)) (by rw [gNum_G hgb hnu]) ?_
        have hdY : mRd (mRS M m ((tNum c L g.1).2, g.2.1, g.2.2.1, (tNum c L g.1).1, g.2.2.2.2)) m c L ((tNum c L g.1).2, g.2.1, g.2.2.1, (tNum c L g.1).1, g.2.2.2.2) := hRd.rs _ (tNum_le hRd.le)
        have hgY : (((tNum c L g.1).2, g.2.1, g.2.2.1, (tNum c L g.1).1, g.2.2.2.2) : gS).2.1 = false := hgb
        obtain ⟨-, hnl, -⟩ := tNum_n hnu
        have hnl2 := tNum_le (c := c) hRd.le
        refine J_aload_n (m) dX8_readFactor_155 rfl rfl ?_
        refine J_geti (j := 16) dX8_readFactor_156 (fun _ h => List.mem_cons_of_mem _ (List.mem_append_left _ (List.mem_append_right _ (h)))) cs11 (by decide) rfl (List.mem_of_getElem? (i := 2) rfl) rfl (show m < jn M from by omega) m2 ?_
        refine J_topi (y := jb (false)) ((hdY.f16.trans (congrArg jb hgY))) ?_
        refine J_if_eq dX8_readFactor_159 (tgt := 166) (by decide) (fun c159 => ?_) (fun c159 => ?_)
        · have c159 := jb0T c159
          refine J_aload_n (m) dX8_readFactor_166 rfl rfl ?_
          refine J_bipush (x := 115) dX8_readFactor_167 (by decide) ?_
          refine J_aload_n (m) dX8_readFactor_169 rfl rfl ?_
          refine J_geti (j := 18) dX8_readFactor_170 (fun _ h => List.mem_cons_of_mem _ (List.mem_append_left _ (List.mem_append_right _ (h)))) cs11 (by decide) rfl (List.mem_of_getElem? (i := 5) rfl) rfl (show m < jn M from by omega) m2 ?_
          refine J_topi (y := ((tNum c L g.1).1)) (hdY.f18) ?_
          refine J_iconst (x := 0) dX8_readFactor_173 (by decide) ?_
          refine J_iload_n dX8_readFactor_174 rfl rfl ?_
          refine J_calli0 (jrunV (As := [.int (115), .int ((tNum c L g.1).1), .int (0), .int (nI (s.1))]) (ct_X8_node l D dA hst ((mRS M m ((tNum c L g.1).2, g.2.1, g.2.2.1, (tNum c L g.1).1, g.2.2.2.2))) m hdY.1 s.2.1 ((mRS_o (by omega)).trans h25) (by omega) 115 (tNum c L g.1).1 0 (nI s.1)) dX8_readFactor_175 yY_X8_node gX8_readFactor_X8_node rfl cs11 (show m < jn M from by omega) m2 rfl ⟨by omega, by omega⟩ ⟨Nat.zero_le _, Nat.zero_le _⟩ rfl (Nat.le_of_ble_eq_true rfl)) (rfl) (rfl) ?_
          exact J_iret (ty := .int) dX8_readFactor_178 rfl (rfl) (by rw [eFac_n ha33 hb40]; rw [hgp] at *; unfold eNum; rw [if_neg hnu, eAdd_4 (s := ((tNum c L s.1).2, s.2)) (show s.2.1 < L by omega)]; exact ⟨_, _, rfl, hdY.no, rfl, hgb.trans (decide_eq_false (fun h9 => absurd (show nI s.2.1 < 0 by rw [show nI s.2.1 = -1 from h9]; decide) (nI_pos (by omega)))).symm, (mNo_o (by decide)).trans ((mRS_o (by omega)).trans h26), mRS_F.tr mNo_F, mRS_E.tr mNo_E, (mNo_o (by decide)).trans (mRS_o (by omega)), fun _ => ⟨rfl, mNo_nd (s := ((tNum c L s.1).2, s.2)) (fun k hk => hNd.rs k hk) rfl rfl rfl rfl rfl (by decide) (Or.inl rfl), mNo_25⟩⟩)
        · exact absurd c159 (by decide)
    · refine J_aload_n (m) dX8_readFactor_23 rfl rfl ?_
      refine J_geti (j := 16) dX8_readFactor_24 (fun _ h => List.mem_cons_of_mem _ (List.mem_append_left _ (List.mem_append_right _ (h)))) cs11 (by decide) rfl (List.mem_of_getElem? (i := 2) rfl) rfl (show m < jn M from by omega) m2 ?_
      refine J_topi (y := jb (false)) ((hRd.f16.trans (congrArg jb hgb))) ?_
      refine J_if_ne dX8_readFactor_27 (tgt := 39) (by decide) (fun c27 => ?_) (fun c27 => ?_)
      · exact absurd c27 (by decide)
      · have c27 := jb0T c27
        refine J_aload_n (m) dX8_readFactor_30 rfl rfl ?_
        refine J_geti (j := 26) dX8_readFactor_31 (fun _ h => List.mem_cons_of_mem _ (List.mem_append_left _ (List.mem_append_right _ (h)))) cs11 (by decide) rfl (List.mem_of_getElem? (i := 3) rfl) rfl (show m < jn M from by omega) m2 ?_
        refine J_topi (y := nI (o)) (h26) ?_
        refine J_bipush (x := 8) dX8_readFactor_34 (by decide) ?_
        refine J_icmp_ne dX8_readFactor_36 (tgt := 45) (by decide) (fun c36 => ?_) (fun c36 => ?_)
        · have c36 := jeqF (a := o) (b := 8) (by omega) (by omega) c36
          exact absurd c36 (by omega)
        · have c36 := jeqT (a := o) (b := 8) (by omega) (by omega) c36
          refine J_aload_n (m) dX8_readFactor_39 rfl rfl ?_
          refine J_callv0 (jrunV (As := []) (ct_X8_bad l D dA hst M m c L g hRd) dX8_readFactor_40 yY_X8_bad gX8_readFactor_X8_bad rfl cs11 (show m < jn M from by omega) m2 rfl ⟨by omega, by omega⟩ ⟨Nat.zero_le _, Nat.zero_le _⟩ rfl (Nat.le_of_ble_eq_true rfl)) (rfl) (rfl) ?_
          refine J_iconst (x := 0) dX8_readFactor_43 (by decide) ?_
          exact J_iret (ty := .int) dX8_readFactor_44 rfl (rfl) (by rw [eFac_0b (by first | exact Or.inl (gHere_t (by decide) c11) | exact Or.inr (gHere_t (by decide) c20))]; exact ⟨0, gBad g, rfl, hRd.rs _ hRd.le, hgp, rfl, (mRS_o (by omega)).trans h26, mRS_F, mRS_E, mRS_o (by omega), fun h9 => absurd rfl h9⟩)

theorem dX8_readFactor_45 : decode cX8_readFactor 45 = .ok (.aload_n 0, 1) := by decide +kernel
theorem dX8_readFactor_46 : decode cX8_readFactor 46 = .ok (.dup, 1) := by decide +kernel
theorem dX8_readFactor_47 : decode cX8_readFactor 47 = .ok (.getfield 169, 3) := by decide +kernel
theorem dX8_readFactor_50 : decode cX8_readFactor 50 = .ok (.iconst 1, 1) := by decide +kernel
theorem dX8_readFactor_51 : decode cX8_readFactor 51 = .ok (.iadd, 1) := by decide +kernel
theorem dX8_readFactor_52 : decode cX8_readFactor 52 = .ok (.putfield 169, 3) := by decide +kernel
theorem dX8_readFactor_55 : decode cX8_readFactor 55 = .ok (.aload_n 0, 1) := by decide +kernel
theorem dX8_readFactor_56 : decode cX8_readFactor 56 = .ok (.dup, 1) := by decide +kernel
theorem dX8_readFactor_57 : decode cX8_readFactor 57 = .ok (.getfield 81, 3) := by decide +kernel
theorem dX8_readFactor_60 : decode cX8_readFactor 60 = .ok (.iconst 1, 1) := by decide +kernel
theorem dX8_readFactor_61 : decode cX8_readFactor 61 = .ok (.iadd, 1) := by decide +kernel
theorem dX8_readFactor_62 : decode cX8_readFactor 62 = .ok (.putfield 81, 3) := by decide +kernel
theorem dX8_readFactor_65 : decode cX8_readFactor 65 = .ok (.aload_n 0, 1) := by decide +kernel
theorem dX8_readFactor_66 : decode cX8_readFactor 66 = .ok (.getfield 19, 3) := by decide +kernel
theorem dX8_readFactor_69 : decode cX8_readFactor 69 = .ok (.iload_n 1, 1) := by decide +kernel
theorem dX8_readFactor_70 : decode cX8_readFactor 70 = .ok (.iaload, 1) := by decide +kernel
theorem dX8_readFactor_71 : decode cX8_readFactor 71 = .ok (.bipush 33, 2) := by decide +kernel
theorem dX8_readFactor_73 : decode cX8_readFactor 73 = .ok (.if_icmp .ne 10, 3) := by decide +kernel
theorem dX8_readFactor_76 : decode cX8_readFactor 76 = .ok (.aload_n 0, 1) := by decide +kernel
theorem dX8_readFactor_77 : decode cX8_readFactor 77 = .ok (.invokevirtual 172, 3) := by decide +kernel
set_option maxRecDepth 20000 in
theorem ggX8_readFactor_X8_readFactor : GoodIn wsX8_readFactor wsX8_readFactor := goodIn_ca (goodIn_r _ [0, 1, 2, 3, 4, 5, 6, 7, 8, 9, 10, 11, 12, 13, 14, 15, 16, 17, 18, 19, 20, 21, 22, 23, 24, 25, 26, 27, 28, 29, 30, 31, 32, 33, 34, 35, 36, 37, 38, 39, 40, 41, 42, 43, 44, 45, 46, 47, 48, 49, 50, 51, 52, 53, 54, 55, 56, 57, 58, 59, 60, 61, 62, 63, 64, 65, 66, 67, 68, 69, 70, 71, 72, 73, 74, 75, 76, 77, 78, 79, 80, 81, 82] (by decide +kernel) (by decide +kernel)) (goodIn_sub (fun _ h => List.mem_cons_of_mem _ (List.mem_append_right _ h)) (by decide +kernel))
set_option maxRecDepth 20000 in
theorem gX8_readFactor_X8_readFactor : GoodIn wsX8_readFactor (wsV RX8 172 RX8 yX8_readFactor wsX8_readFactor) := goodIn_app (goodIn_of _ (by decide +kernel)) ggX8_readFactor_X8_readFactor
theorem dX8_readFactor_80 : decode cX8_readFactor 80 = .ok (.goto 7, 3) := by decide +kernel
theorem dX8_readFactor_87 : decode cX8_readFactor 87 = .ok (.istore_n 2, 1) := by decide +kernel
theorem dX8_readFactor_88 : decode cX8_readFactor 88 = .ok (.aload_n 0, 1) := by decide +kernel
theorem dX8_readFactor_89 : decode cX8_readFactor 89 = .ok (.getfield 19, 3) := by decide +kernel
theorem dX8_readFactor_92 : decode cX8_readFactor 92 = .ok (.iload_n 1, 1) := by decide +kernel
theorem dX8_readFactor_93 : decode cX8_readFactor 93 = .ok (.iaload, 1) := by decide +kernel
theorem dX8_readFactor_94 : decode cX8_readFactor 94 = .ok (.bipush 40, 2) := by decide +kernel
theorem dX8_readFactor_96 : decode cX8_readFactor 96 = .ok (.if_icmp .ne 9, 3) := by decide +kernel
theorem dX8_readFactor_105 : decode cX8_readFactor 105 = .ok (.aload_n 0, 1) := by decide +kernel
theorem dX8_readFactor_106 : decode cX8_readFactor 106 = .ok (.dup, 1) := by decide +kernel
theorem dX8_readFactor_107 : decode cX8_readFactor 107 = .ok (.getfield 169, 3) := by decide +kernel
theorem dX8_readFactor_110 : decode cX8_readFactor 110 = .ok (.iconst 1, 1) := by decide +kernel
theorem dX8_readFactor_111 : decode cX8_readFactor 111 = .ok (.isub, 1) := by decide +kernel
theorem dX8_readFactor_112 : decode cX8_readFactor 112 = .ok (.putfield 169, 3) := by decide +kernel
theorem dX8_readFactor_115 : decode cX8_readFactor 115 = .ok (.aload_n 0, 1) := by decide +kernel
theorem dX8_readFactor_116 : decode cX8_readFactor 116 = .ok (.getfield 87, 3) := by decide +kernel
theorem dX8_readFactor_119 : decode cX8_readFactor 119 = .ok (.ifCond .eq 7, 3) := by decide +kernel
theorem dX8_readFactor_122 : decode cX8_readFactor 122 = .ok (.iconst 0, 1) := by decide +kernel
theorem dX8_readFactor_123 : decode cX8_readFactor 123 = .ok (.goto 27, 3) := by decide +kernel
theorem dX8_readFactor_150 : decode cX8_readFactor 150 = .ok (.ireturn, 1) := by decide +kernel
theorem dX8_readFactor_126 : decode cX8_readFactor 126 = .ok (.aload_n 0, 1) := by decide +kernel
theorem dX8_readFactor_127 : decode cX8_readFactor 127 = .ok (.getfield 19, 3) := by decide +kernel
theorem dX8_readFactor_130 : decode cX8_readFactor 130 = .ok (.iload_n 1, 1) := by decide +kernel
theorem dX8_readFactor_131 : decode cX8_readFactor 131 = .ok (.iaload, 1) := by decide +kernel
theorem dX8_readFactor_132 : decode cX8_readFactor 132 = .ok (.bipush 33, 2) := by decide +kernel
theorem dX8_readFactor_134 : decode cX8_readFactor 134 = .ok (.if_icmp .ne 15, 3) := by decide +kernel
theorem dX8_readFactor_137 : decode cX8_readFactor 137 = .ok (.aload_n 0, 1) := by decide +kernel
theorem dX8_readFactor_138 : decode cX8_readFactor 138 = .ok (.bipush 33, 2) := by decide +kernel
theorem dX8_readFactor_140 : decode cX8_readFactor 140 = .ok (.iload_n 2, 1) := by decide +kernel
theorem dX8_readFactor_141 : decode cX8_readFactor 141 = .ok (.iload_n 2, 1) := by decide +kernel
theorem dX8_readFactor_142 : decode cX8_readFactor 142 = .ok (.iload_n 1, 1) := by decide +kernel
theorem dX8_readFactor_143 : decode cX8_readFactor 143 = .ok (.invokevirtual 178, 3) := by decide +kernel
theorem dX8_readFactor_146 : decode cX8_readFactor 146 = .ok (.goto 4, 3) := by decide +kernel
theorem dX8_readFactor_83 : decode cX8_readFactor 83 = .ok (.aload_n 0, 1) := by decide +kernel
theorem dX8_readFactor_84 : decode cX8_readFactor 84 = .ok (.invokevirtual 175, 3) := by decide +kernel
set_option maxRecDepth 20000 in
theorem ggX8_readFactor_X8_readSum : GoodIn wsX8_readFactor wsX8_readSum := goodIn_ca (goodIn_r _ [47, 2, 1, 48, 49, 50, 9, 6, 7, 8, 10, 11, 4, 30, 31, 32, 33, 34, 35, 36, 37, 38, 0, 3, 5, 12, 13, 14, 15, 16, 17, 18, 19, 20, 21, 22, 23, 24, 25, 26, 27, 28, 29, 39, 40, 41, 42, 43, 44, 45, 46, 51, 52, 53, 54, 55, 56, 57, 58, 59, 60, 61, 62, 63, 64, 65, 66, 67, 68, 69, 70, 71, 72, 73, 74, 75, 76, 77, 78, 79, 80, 81, 82] (by decide +kernel) (by decide +kernel)) (goodIn_sub (fun _ h => List.mem_cons_of_mem _ (List.mem_append_right _ h)) (by decide +kernel))
set_option maxRecDepth 20000 in
theorem gX8_readFactor_X8_readSum : GoodIn wsX8_readFactor (wsV RX8 175 RX8 yX8_readSum wsX8_readSum) := goodIn_app (goodIn_of _ (by decide +kernel)) ggX8_readFactor_X8_readSum
theorem yY_X8_readSum : jY yX8_readSum wsX8_readSum cX8_readSum 4 (some .int) 0 := ⟨⟨_, rfl⟩, by decide +kernel, by decide +kernel, by decide +kernel⟩
theorem dX8_readFactor_99 : decode cX8_readFactor 99 = .ok (.aload_n 0, 1) := by decide +kernel
theorem dX8_readFactor_100 : decode cX8_readFactor 100 = .ok (.bipush 41, 2) := by decide +kernel
theorem dX8_readFactor_102 : decode cX8_readFactor 102 = .ok (.invokevirtual 116, 3) := by decide +kernel
set_option maxRecDepth 20000 in
theorem ggX8_readFactor_X8_needs : GoodIn wsX8_readFactor wsX8_needs := goodIn_ca (goodIn_r _ [25, 26, 27, 28, 9, 29, 2, 1, 6, 7, 8, 10, 11, 4, 12, 13, 14, 15, 52, 53, 54, 55, 56, 57, 58, 59, 60, 61, 62, 63, 64, 65, 66, 67, 68, 69, 70, 71, 72, 73, 74, 75, 76, 77, 78, 79, 80, 81, 82] (by decide +kernel) (by decide +kernel)) (goodIn_sub (fun _ h => List.mem_cons_of_mem _ (List.mem_append_right _ h)) (by decide +kernel))
set_option maxRecDepth 20000 in
theorem gX8_readFactor_X8_needs : GoodIn wsX8_readFactor (wsV RX8 116 RX8 yX8_needs wsX8_needs) := goodIn_app (goodIn_of _ (by decide +kernel)) ggX8_readFactor_X8_needs
theorem dX8_readFactor_149 : decode cX8_readFactor 149 = .ok (.iload_n 2, 1) := by decide +kernel
set_option maxHeartbeats 400000 in
set_option maxRecDepth 20000 in
theorem ct_X8_readFactor_s (l : Launch) (D : va_G) (dA : Nat → ClassId) (hst : l.stackTraces = false) (M : jM) (m : Nat) (c : Nat → Int32) (L o : Nat) (hL : L ≤ 60) (s : eSt) (g : gS) (hX : mEx M m c L g s o) (hsk : eOk L s) (hs0 : s.2.1 ≤ s.1) (d f0 l0 : Nat) (hf : 30 ≤ f0) (hl : 600 ≤ l0) (ho8 : o < 8) (hGd : eGd L (eFac c L d)) (hG : mCT l D dA yX8_readFactor wsX8_readFactor f0 l0 m c L (o + 1) (eFac c L d)) (hS : mCT l D dA yX8_readSum wsX8_readSum (f0 + 40) (l0 + 400) m c L (o + 1) (eS c L (eFac c L d))) : jCT l D dA yX8_readFactor wsX8_readFactor (f0 + 50) (l0 + 500) (0) (0) 1 [.ref (m)] M (mEo M m c L o (eFac c L (d + 1) s)) := by
  refine jBody (cc := cX8_readFactor) (nL := 3) (rt := (some .int)) (ini := false) (by decide) rfl hst (Nat.le_of_ble_eq_true rfl) (by simp [Value.category]) (by intro h9; first | exact absurd h9 (by decide) | rfl) ?_
  show J l D dA RX8 cX8_readFactor wsX8_readFactor 3 false (some .int) [] (f0 + 50) (l0 + 500) (jF D dA (jn M) (mEo M m c L o (eFac c L (d + 1) s)) 1) (jn M) (0) (0) (M) 0 [.ref (m), .float 0, .float 0] []
  obtain ⟨hRd, hNd, h25, h26, hgp, hgb⟩ := id hX
  obtain ⟨hM, hL6, hL60, hbuf, hple, -⟩ := id hRd
  obtain ⟨m1, m2, ⟨r1, r2, r3, r4, r5, r6, r7, r8, r9, r10, r11, r12, r13⟩, ⟨k1, k2, k3, k4, k5, k6, k7, k8, k9, k10, k11, k12, k13⟩, z1, z2, z3, z4, z5, z6, z7, z8, z9, z10, z11, z12, z13⟩ := id hM
  refine J_aload_n (m) dX8_readFactor_0 rfl rfl ?_
  refine J_geti (j := 15) dX8_readFactor_1 (fun _ h => List.mem_cons_of_mem _ (List.mem_append_left _ (List.mem_append_right _ (h)))) cs11 (by decide) rfl (List.mem_of_getElem? (i := 1) rfl) rfl (show m < jn M from by omega) m2 ?_
  refine J_topi (y := nI (s.1)) ((hRd.f15.trans (congrArg nI hgp))) ?_
  refine J_istore_n (lv' := [.ref (m), .int (nI (s.1)), .float 0]) dX8_readFactor_4 rfl (by decide) rfl rfl ?_
  refine J_aload_n (m) dX8_readFactor_5 rfl rfl ?_
  refine J_calli0 (jrunV (As := []) (ct_X8_here l D dA hst M m c L g hRd) dX8_readFactor_6 yY_X8_here gX8_readFactor_X8_here rfl cs11 (show m < jn M from by omega) m2 rfl ⟨by omega, by omega⟩ ⟨Nat.zero_le _, Nat.zero_le _⟩ rfl (Nat.le_of_ble_eq_true rfl)) (rfl) (rfl) ?_
  refine J_topi (y := gHere c L s.1) (by rw [hgp]) ?_
  refine J_bipush (x := 33) dX8_readFactor_9 (by decide) ?_
  refine J_icmp_eq dX8_readFactor_11 (tgt := 23) (by decide) (fun c11 => ?_) (fun c11 => ?_)
  · refine J_aload_n (m) dX8_readFactor_23 rfl rfl ?_
    refine J_geti (j := 16) dX8_readFactor_24 (fun _ h => List.mem_cons_of_mem _ (List.mem_append_left _ (List.mem_append_right _ (h)))) cs11 (by decide) rfl (List.mem_of_getElem? (i := 2) rfl) rfl (show m < jn M from by omega) m2 ?_
    refine J_topi (y := jb (false)) ((hRd.f16.trans (congrArg jb hgb))) ?_
    refine J_if_ne dX8_readFactor_27 (tgt := 39) (by decide) (fun c27 => ?_) (fun c27 => ?_)
    · exact absurd c27 (by decide)
    · have c27 := jb0T c27
      refine J_aload_n (m) dX8_readFactor_30 rfl rfl ?_
      refine J_geti (j := 26) dX8_readFactor_31 (fun _ h => List.mem_cons_of_mem _ (List.mem_append_left _ (List.mem_append_right _ (h)))) cs11 (by decide) rfl (List.mem_of_getElem? (i := 3) rfl) rfl (show m < jn M from by omega) m2 ?_
      refine J_topi (y := nI (o)) (h26) ?_
      refine J_bipush (x := 8) dX8_readFactor_34 (by decide) ?_
      refine J_icmp_ne dX8_readFactor_36 (tgt := 45) (by decide) (fun c36 => ?_) (fun c36 => ?_)
      · have c36 := jeqF (a := o) (b := 8) (by omega) (by omega) c36
        refine J_aload_n (m) dX8_readFactor_45 rfl rfl ?_
        refine J_dup dX8_readFactor_46 rfl ?_
        refine J_geti (j := 26) dX8_readFactor_47 (fun _ h => List.mem_cons_of_mem _ (List.mem_append_left _ (List.mem_append_right _ (h)))) cs11 (by decide) rfl (List.mem_of_getElem? (i := 3) rfl) rfl (show m < jn M from by omega) m2 ?_
        refine J_topi (y := nI (o)) (h26) ?_
        refine J_iconst (x := 1) dX8_readFactor_50 (by decide) ?_
        refine J_iadd dX8_readFactor_51 ?_
        refine J_topi (y := nI (o + 1)) (nI_add (o) (1)) ?_
        refine J_puti (j := 26) (x := nI (o + 1)) dX8_readFactor_52 (fun _ h => List.mem_cons_of_mem _ (List.mem_append_left _ (List.mem_append_right _ (h)))) cs11 cty11 (by decide) rfl (List.mem_of_getElem? (i := 3) rfl) rfl rfl ⟨rfl, rfl⟩ (show m < jn M from by omega) m2 ?_
        refine J_aload_n (m) dX8_readFactor_55 rfl rfl ?_
        refine J_dup dX8_readFactor_56 rfl ?_
        refine J_geti (j := 15) dX8_readFactor_57 (fun _ h => List.mem_cons_of_mem _ (List.mem_append_left _ (List.mem_append_right _ (h)))) cs11 (by decide) rfl (List.mem_of_getElem? (i := 1) rfl) rfl (show m < jn M from by omega) m2 ?_
        refine J_topi (y := nI (s.1)) ((ji_ne_i (by omega) (hRd.f15.trans (congrArg nI hgp)))) ?_
        refine J_iconst (x := 1) dX8_readFactor_60 (by decide) ?_
        refine J_iadd dX8_readFactor_61 ?_
        refine J_topi (y := nI (s.1 + 1)) (nI_add (s.1) (1)) ?_
        refine J_puti (j := 15) (x := nI (s.1 + 1)) dX8_readFactor_62 (fun _ h => List.mem_cons_of_mem _ (List.mem_append_left _ (List.mem_append_right _ (h)))) cs11 cty11 (by decide) rfl (List.mem_of_getElem? (i := 1) rfl) rfl rfl ⟨rfl, rfl⟩ (show m < jn M from by omega) m2 ?_
        have ha33 : tIsAt c L s.1 33 = true := (gHere_t (by decide) c11)
        have hlt : s.1 + 1 ≤ L := tIsAt_lt ha33
        have hcv : c s.1 = 33 := tIsAt_c ha33
        obtain ⟨X, hXe⟩ : ∃ X, X = jSi (jSi M m 26 (nI (o + 1))) m 15 (nI (s.1 + 1)) := ⟨_, rfl⟩
        refine J_mem (M' := X) hXe.symm ?_
        have hXX : mEx X m c L (s.1 + 1, g.2) (s.1 + 1, s.2) (o + 1) := by rw [hXe]; exact fac_adv hX hlt
        have hFX : mFr m M X := by rw [hXe]; exact (mFr.rf.si ⟨by omega, by omega⟩).si ⟨by omega, by omega⟩
        have hEX : mE m M X := by rw [hXe]; exact (mE.rf.si rfl).si rfl
        have hcX : ji X m 11 = ji M m 11 := by rw [hXe, ji_Sik (by decide), ji_Sik (by decide)]
        obtain ⟨Xm1, Xm2, ⟨Xr1, Xr2, Xr3, Xr4, Xr5, Xr6, Xr7, Xr8, Xr9, Xr10, Xr11, Xr12, Xr13⟩, ⟨Xk1, Xk2, Xk3, Xk4, Xk5, Xk6, Xk7, Xk8, Xk9, Xk10, Xk11, Xk12, Xk13⟩, Xz1, Xz2, Xz3, Xz4, Xz5, Xz6, Xz7, Xz8, Xz9, Xz10, Xz11, Xz12, Xz13⟩ := id hXX.1.1
        refine J_aload_n (m) dX8_readFactor_65 rfl rfl ?_
        refine J_getrs (q := m + 4) Xr4 dX8_readFactor_66 (fun _ h => List.mem_cons_of_mem _ (List.mem_append_left _ (List.mem_append_right _ (h)))) cs11 (by decide) rfl (List.mem_of_getElem? (i := 4) rfl) rfl (show m < jn X from by omega) Xm2 ?_
        refine J_iload_n dX8_readFactor_69 rfl rfl ?_
        refine J_ialdN (k := s.1) dX8_readFactor_70 (show m + 4 < jn X from by omega) Xk4 (by exact Nat.lt_of_lt_of_eq (show _ < 60 by omega) (Eq.symm Xz4)) (by exact Nat.lt_of_le_of_lt (Nat.le_of_eq Xz4) (show 60 < 2 ^ 31 by omega)) ?_
        refine J_topi (y := c s.1) (by exact hXX.1.2.2.2.1 _ (by omega)) ?_
        refine J_bipush (x := 33) dX8_readFactor_71 (by decide) ?_
        refine J_icmp_ne dX8_readFactor_73 (tgt := 83) (by decide) (fun c73 => ?_) (fun c73 => ?_)
        · exact absurd hcv c73
        · refine J_aload_n (m) dX8_readFactor_76 rfl rfl ?_
          refine J_calli (jrunV (As := []) (hG X (s.1 + 1, s.2) (s.1 + 1, g.2) hXX ⟨hlt, hsk.2⟩ (by show s.2.1 ≤ s.1 + 1; omega)) dX8_readFactor_77 yY_X8_readFactor gX8_readFactor_X8_readFactor rfl cs11 (show m < jn X from by omega) Xm2 rfl ⟨by omega, by omega⟩ ⟨Nat.zero_le _, Nat.zero_le _⟩ rfl (Nat.le_of_ble_eq_true rfl)) ⟨Nat.zero_le _, Nat.zero_le _⟩ (Or.inr ⟨(jOk.ref (show m < jn X from by omega) (jOk.int (jOk.float jOk.nil))), jOk.nil⟩) (fun E M9 hp _ => by obtain ⟨_, _, h1, _⟩ := hp; cases h1) (fun x9 K77 hp77 hle77 => ?_)
          obtain ⟨x77, g77, he9, hd77, hp877, hb877, ho877, hF877, hE877, hc877, hk877⟩ := hp77
          have he9 := (jI_inj he9).symm
          subst he9
          obtain ⟨K77m1, K77m2, ⟨K77r1, K77r2, K77r3, K77r4, K77r5, K77r6, K77r7, K77r8, K77r9, K77r10, K77r11, K77r12, K77r13⟩, ⟨K77k1, K77k2, K77k3, K77k4, K77k5, K77k6, K77k7, K77k8, K77k9, K77k10, K77k11, K77k12, K77k13⟩, K77z1, K77z2, K77z3, K77z4, K77z5, K77z6, K77z7, K77z8, K77z9, K77z10, K77z11, K77z12, K77z13⟩ := id hd77.1
          refine J_goto (tgt := 87) dX8_readFactor_80 (by decide) ?_
          by_cases hr77 : ((eFac c L d) (s.1 + 1, s.2)).1 = -1
          · have hg77 : g77.2.1 = true := by rw [hb877]; exact decide_eq_true hr77
            refine J_istore_n (lv' := [.ref (m), .int (nI (s.1)), .int (x77)]) dX8_readFactor_87 rfl (by decide) rfl rfl ?_
            refine J_aload_n (m) dX8_readFactor_88 rfl rfl ?_
            refine J_getrs (q := m + 4) K77r4 dX8_readFactor_89 (fun _ h => List.mem_cons_of_mem _ (List.mem_append_left _ (List.mem_append_right _ (h)))) cs11 (by decide) rfl (List.mem_of_getElem? (i := 4) rfl) rfl (show m < jn K77 from by omega) K77m2 ?_
            refine J_iload_n dX8_readFactor_92 rfl rfl ?_
            refine J_ialdN (k := s.1) dX8_readFactor_93 (show m + 4 < jn K77 from by omega) K77k4 (by exact Nat.lt_of_lt_of_eq (show _ < 60 by omega) (Eq.symm K77z4)) (by exact Nat.lt_of_le_of_lt (Nat.le_of_eq K77z4) (show 60 < 2 ^ 31 by omega)) ?_
            refine J_topi (y := c s.1) (by exact hd77.2.2.2.1 _ (by omega)) ?_
            refine J_bipush (x := 40) dX8_readFactor_94 (by decide) ?_
            refine J_icmp_ne dX8_readFactor_96 (tgt := 105) (by decide) (fun c96 => ?_) (fun c96 => ?_)
            · refine J_aload_n (m) dX8_readFactor_105 rfl rfl ?_
              refine J_dup dX8_readFactor_106 rfl ?_
              refine J_geti (j := 26) dX8_readFactor_107 (fun _ h => List.mem_cons_of_mem _ (List.mem_append_left _ (List.mem_append_right _ (h)))) cs11 (by decide) rfl (List.mem_of_getElem? (i := 3) rfl) rfl (show m < jn K77 from by omega) K77m2 ?_
              refine J_topi (y := nI (o + 1)) (ho877) ?_
              refine J_iconst (x := 1) dX8_readFactor_110 (by decide) ?_
              refine J_isub dX8_readFactor_111 ?_
              refine J_topi (y := nI (o + 1 - 1)) (pk_sub (a := o + 1) (b := 1) (by omega)) ?_
              refine J_puti (j := 26) (x := nI (o + 1 - 1)) dX8_readFactor_112 (fun _ h => List.mem_cons_of_mem _ (List.mem_append_left _ (List.mem_append_right _ (h)))) cs11 cty11 (by decide) rfl (List.mem_of_getElem? (i := 3) rfl) rfl rfl ⟨rfl, rfl⟩ (show m < jn K77 from by omega) K77m2 ?_
              refine J_aload_n (m) dX8_readFactor_115 rfl rfl ?_
              refine J_geti (j := 16) dX8_readFactor_116 (fun _ h => List.mem_cons_of_mem _ (List.mem_append_left _ (List.mem_append_right _ (h)))) cs11 (by decide) rfl (List.mem_of_getElem? (i := 2) rfl) rfl (show m < jn K77 from by omega) K77m2 ?_
              refine J_topi (y := jb (true)) ((ji_ne_i (by omega) (hd77.f16.trans (congrArg jb hg77)))) ?_
              refine J_if_eq dX8_readFactor_119 (tgt := 126) (by decide) (fun c119 => ?_) (fun c119 => ?_)
              · exact absurd c119 (by decide)
              · have c119 := jb0F c119
                refine J_iconst (x := 0) dX8_readFactor_122 (by decide) ?_
                refine J_goto (tgt := 150) dX8_readFactor_123 (by decide) ?_
                exact J_iret (ty := .int) dX8_readFactor_150 rfl (rfl) (by rw [eFac_1b ha33 hr77]; exact ⟨0, g77, rfl, hd77.fo (by omega), hp877, hg77, ji_Sis, ((hFX.tr hF877).si ⟨by omega, by omega⟩), ((hEX.tr hE877).si rfl), (ji_Sik (by decide)).trans (hc877.trans hcX), fun h9 => absurd rfl h9⟩)
            · exact absurd (hcv.symm.trans c96) (by decide)
          · have hg77 : g77.2.1 = false := by rw [hb877]; exact decide_eq_false hr77
            obtain ⟨hx77, hn77, h2577⟩ := hk877 hr77
            refine J_istore_n (lv' := [.ref (m), .int (nI (s.1)), .int (x77)]) dX8_readFactor_87 rfl (by decide) rfl rfl ?_
            refine J_aload_n (m) dX8_readFactor_88 rfl rfl ?_
            refine J_getrs (q := m + 4) K77r4 dX8_readFactor_89 (fun _ h => List.mem_cons_of_mem _ (List.mem_append_left _ (List.mem_append_right _ (h)))) cs11 (by decide) rfl (List.mem_of_getElem? (i := 4) rfl) rfl (show m < jn K77 from by omega) K77m2 ?_
            refine J_iload_n dX8_readFactor_92 rfl rfl ?_
            refine J_ialdN (k := s.1) dX8_readFactor_93 (show m + 4 < jn K77 from by omega) K77k4 (by exact Nat.lt_of_lt_of_eq (show _ < 60 by omega) (Eq.symm K77z4)) (by exact Nat.lt_of_le_of_lt (Nat.le_of_eq K77z4) (show 60 < 2 ^ 31 by omega)) ?_
            refine J_topi (y := c s.1) (by exact hd77.2.2.2.1 _ (by omega)) ?_
            refine J_bipush (x := 40) dX8_readFactor_94 (by decide) ?_
            refine J_icmp_ne dX8_readFactor_96 (tgt := 105) (by decide) (fun c96 => ?_) (fun c96 => ?_)
            · refine J_aload_n (m) dX8_readFactor_105 rfl rfl ?_
              refine J_dup dX8_readFactor_106 rfl ?_
              refine J_geti (j := 26) dX8_readFactor_107 (fun _ h => List.mem_cons_of_mem _ (List.mem_append_left _ (List.mem_append_right _ (h)))) cs11 (by decide) rfl (List.mem_of_getElem? (i := 3) rfl) rfl (show m < jn K77 from by omega) K77m2 ?_
              refine J_topi (y := nI (o + 1)) (ho877) ?_
              refine J_iconst (x := 1) dX8_readFactor_110 (by decide) ?_
              refine J_isub dX8_readFactor_111 ?_
              refine J_topi (y := nI (o + 1 - 1)) (pk_sub (a := o + 1) (b := 1) (by omega)) ?_
              refine J_puti (j := 26) (x := nI (o + 1 - 1)) dX8_readFactor_112 (fun _ h => List.mem_cons_of_mem _ (List.mem_append_left _ (List.mem_append_right _ (h)))) cs11 cty11 (by decide) rfl (List.mem_of_getElem? (i := 3) rfl) rfl rfl ⟨rfl, rfl⟩ (show m < jn K77 from by omega) K77m2 ?_
              refine J_aload_n (m) dX8_readFactor_115 rfl rfl ?_
              refine J_geti (j := 16) dX8_readFactor_116 (fun _ h => List.mem_cons_of_mem _ (List.mem_append_left _ (List.mem_append_right _ (h)))) cs11 (by decide) rfl (List.mem_of_getElem? (i := 2) rfl) rfl (show m < jn K77 from by omega) K77m2 ?_
              refine J_topi (y := jb (false)) ((ji_ne_i (by omega) (hd77.f16.trans (congrArg jb hg77)))) ?_
              refine J_if_eq dX8_readFactor_119 (tgt := 126) (by decide) (fun c119 => ?_) (fun c119 => ?_)
              · have c119 := jb0T c119
                refine J_aload_n (m) dX8_readFactor_126 rfl rfl ?_
                refine J_getrs (q := m + 4) K77r4 dX8_readFactor_127 (fun _ h => List.mem_cons_of_mem _ (List.mem_append_left _ (List.mem_append_right _ (h)))) cs11 (by decide) rfl (List.mem_of_getElem? (i := 4) rfl) rfl (show m < jn K77 from by omega) K77m2 ?_
                refine J_iload_n dX8_readFactor_130 rfl rfl ?_
                refine J_ialdN (k := s.1) dX8_readFactor_131 (show m + 4 < jn K77 from by omega) K77k4 (by exact Nat.lt_of_lt_of_eq (show _ < 60 by omega) (Eq.symm K77z4)) (by exact Nat.lt_of_le_of_lt (Nat.le_of_eq K77z4) (show 60 < 2 ^ 31 by omega)) ?_
                refine J_topi (y := c s.1) (by rw [ji_Sin (by omega)]; exact hd77.2.2.2.1 _ (by omega)) ?_
                refine J_bipush (x := 33) dX8_readFactor_132 (by decide) ?_
                refine J_icmp_ne dX8_readFactor_134 (tgt := 149) (by decide) (fun c134 => ?_) (fun c134 => ?_)
                · exact absurd hcv c134
                · obtain ⟨q1, q2, q3, q4, q5, q6, q7, q8⟩ := eNot_rows hL hGd hsk hs0 ha33 hr77
                  refine J_aload_n (m) dX8_readFactor_137 rfl rfl ?_
                  refine J_bipush (x := 33) dX8_readFactor_138 (by decide) ?_
                  refine J_iload_n dX8_readFactor_140 rfl rfl ?_
                  refine J_iload_n dX8_readFactor_141 rfl rfl ?_
                  refine J_iload_n dX8_readFactor_142 rfl rfl ?_
                  refine J_calli0 (jrunV (As := [.int (33), .int (x77), .int (x77), .int (nI (s.1))]) (ct_X8_node l D dA hst (jSi K77 m 26 (nI (o + 1 - 1))) m hd77.1 ((eFac c L d) (s.1 + 1, s.2)).2.2.1 ((ji_Sik (by decide)).trans h2577) (by omega) 33 x77 x77 (nI s.1)) dX8_readFactor_143 yY_X8_node gX8_readFactor_X8_node rfl cs11 (show m < jn K77 from by omega) K77m2 rfl ⟨by omega, by omega⟩ ⟨Nat.zero_le _, Nat.zero_le _⟩ rfl (Nat.le_of_ble_eq_true rfl)) (rfl) (rfl) ?_
                  refine J_goto (tgt := 150) dX8_readFactor_146 (by decide) ?_
                  exact J_iret (ty := .int) dX8_readFactor_150 rfl (rfl) (by have hv9 : (eFac c L (d + 1) s).1 ≠ -1 := fun h9 => absurd (show nI (eFac c L d (s.1 + 1, s.2)).2.2.1 < 0 by rw [← q1, h9]; decide) (nI_pos (by omega)); exact ⟨_, g77, rfl, (hd77.fo (by omega)).no, hp877.trans q2.symm, hg77.trans (decide_eq_false hv9).symm, (mNo_o (by decide)).trans ji_Sis, (((hFX.tr hF877).si ⟨by omega, by omega⟩)).tr mNo_F, (((hEX.tr hE877).si rfl)).tr mNo_E, (mNo_o (by decide)).trans ((ji_Sik (by decide)).trans (hc877.trans hcX)), fun _ => ⟨q1.symm, by rw [hx77]; exact mNo_nd (mNd.fo hn77) q3 q4 q5 q6 q7 (by decide) (Or.inr (Or.inl rfl)), by rw [mNo_25, q3]⟩⟩)
              · exact absurd c119 (by decide)
            · exact absurd (hcv.symm.trans c96) (by decide)
      · have c36 := jeqT (a := o) (b := 8) (by omega) (by omega) c36
        exact absurd c36 (by omega)
  · refine J_aload_n (m) dX8_readFactor_14 rfl rfl ?_
    refine J_calli0 (jrunV (As := []) (ct_X8_here l D dA hst M m c L g hRd) dX8_readFactor_15 yY_X8_here gX8_readFactor_X8_here rfl cs11 (show m < jn M from by omega) m2 rfl ⟨by omega, by omega⟩ ⟨Nat.zero_le _, Nat.zero_le _⟩ rfl (Nat.le_of_ble_eq_true rfl)) (rfl) (rfl) ?_
    refine J_topi (y := gHere c L s.1) (by rw [hgp]) ?_
    refine J_bipush (x := 40) dX8_readFactor_18 (by decide) ?_
    refine J_icmp_ne dX8_readFactor_20 (tgt := 151) (by decide) (fun c20 => ?_) (fun c20 => ?_)
    · refine J_aload_n (m) dX8_readFactor_151 rfl rfl ?_
      refine J_callv0 (jrunV (As := []) (ct_X8_readNumber l D dA hst M m c L g hRd) dX8_readFactor_152 yY_X8_readNumber gX8_readFactor_X8_readNumber rfl cs11 (show m < jn M from by omega) m2 rfl ⟨by omega, by omega⟩ ⟨Nat.zero_le _, Nat.zero_le _⟩ rfl (Nat.le_of_ble_eq_true rfl)) (rfl) (rfl) ?_
      have ha33 := gHere_f c11
      have hb40 := gHere_f c20
      by_cases hnu : (tNum c L g.1).1 = -1
      · refine J_mem (M' := mRS M m (gBad g)) (by rw [gNum_B hnu]) ?_
        have hdY : mRd (mRS M m (gBad g)) m c L (gBad g) := hRd.rs _ hRd.le
        have hgY : (gBad g).2.1 = true := rfl
        refine J_aload_n (m) dX8_readFactor_155 rfl rfl ?_
        refine J_geti (j := 16) dX8_readFactor_156 (fun _ h => List.mem_cons_of_mem _ (List.mem_append_left _ (List.mem_append_right _ (h)))) cs11 (by decide) rfl (List.mem_of_getElem? (i := 2) rfl) rfl (show m < jn M from by omega) m2 ?_
        refine J_topi (y := jb (true)) ((hdY.f16.trans (congrArg jb hgY))) ?_
        refine J_if_eq dX8_readFactor_159 (tgt := 166) (by decide) (fun c159 => ?_) (fun c159 => ?_)
        · exact absurd c159 (by decide)
        · have c159 := jb0F c159
          refine J_iconst (x := 0) dX8_readFactor_162 (by decide) ?_
          refine J_goto (tgt := 178) dX8_readFactor_163 (by decide) ?_
          exact J_iret (ty := .int) dX8_readFactor_178 rfl (rfl) (by rw [eFac_n ha33 hb40]; rw [hgp] at hnu; unfold eNum; rw [if_pos hnu]; exact ⟨0, gBad g, rfl, hdY, by show g.1 = (tNum c L s.1).2; rw [(tNum_m hnu).2]; exact hgp, rfl, (mRS_o (by omega)).trans h26, mRS_F, mRS_E, mRS_o (by omega), fun h9 => absurd rfl h9⟩)
      · refine J_mem (M' := mRS M m ((tNum c L g.1).2, g.2.1, g.2.2.1, (tNum c L g.1).1, g.2.2.2.2)) (by rw [gNum_G hgb hnu]) ?_
        have hdY : mRd (mRS M m ((tNum c L g.1).2, g.2.1, g.2.2.1, (tNum c L g.1).1, g.2.2.2.2)) m c L ((tNum c L g.1).2, g.2.1, g.2.2.1, (tNum c L g.1).1, g.2.2.2.2) := hRd.rs _ (tNum_le hRd.le)
        have hgY : (((tNum c L g.1).2, g.2.1, g.2.2.1, (tNum c L g.1).1, g.2.2.2.2) : gS).2.1 = false := hgb
        obtain ⟨-, hnl, -⟩ := tNum_n hnu
        have hnl2 := tNum_le (c := c) hRd.le
        refine J_aload_n (m) dX8_readFactor_155 rfl rfl ?_
        refine J_geti (j := 16) dX8_readFactor_156 (fun _ h => List.mem_cons_of_mem _ (List.mem_append_left _ (List.mem_append_right _ (h)))) cs11 (by decide) rfl (List.mem_of_getElem? (i := 2) rfl) rfl (show m < jn M from by omega) m2 ?_
        refine J_topi (y := jb (false)) ((hdY.f16.trans (congrArg jb hgY))) ?_
        refine J_if_eq dX8_readFactor_159 (tgt := 166) (by decide) (fun c159 => ?_) (fun c159 => ?_)
        · have c159 := jb0T c159
          refine J_aload_n (m) dX8_readFactor_166 rfl rfl ?_
          refine J_bipush (x := 115) dX8_readFactor_167 (by decide) ?_
          refine J_aload_n (m) dX8_readFactor_169 rfl rfl ?_
          refine J_geti (j := 18) dX8_readFactor_170 (fun _ h => List.mem_cons_of_mem _ (List.mem_append_left _ (List.mem_append_right _ (h)))) cs11 (by decide) rfl (List.mem_of_getElem? (i := 5) rfl) rfl (show m < jn M from by omega) m2 ?_
          refine J_topi (y := ((tNum c L g.1).1)) (hdY.f18) ?_
          refine J_iconst (x := 0) dX8_readFactor_173 (by decide) ?_
          refine J_iload_n dX8_readFactor_174 rfl rfl ?_
          refine J_calli0 (jrunV (As := [.int (115), .int ((tNum c L g.1).1), .int (0), .int (nI (s.1))]) (ct_X8_node l D dA hst ((mRS M m ((tNum c L g.1).2, g.2.1, g.2.2.1, (tNum c L g.1).1, g.2.2.2.2))) m hdY.1 s.2.1 ((mRS_o (by omega)).trans h25) (by omega) 115 (tNum c L g.1).1 0 (nI s.1)) dX8_readFactor_175 yY_X8_node gX8_readFactor_X8_node rfl cs11 (show m < jn M from by omega) m2 rfl ⟨by omega, by omega⟩ ⟨Nat.zero_le _, Nat.zero_le _⟩ rfl (Nat.le_of_ble_eq_true rfl)) (rfl) (rfl) ?_
          exact J_iret (ty := .int) dX8_readFactor_178 rfl (rfl) (by rw [eFac_n ha33 hb40]; rw [hgp] at *; unfold eNum; rw [if_neg hnu, eAdd_4 (s := ((tNum c L s.1).2, s.2)) (show s.2.1 < L by omega)]; exact ⟨_, _, rfl, hdY.no, rfl, hgb.trans (decide_eq_false (fun h9 => absurd (show nI s.2.1 < 0 by rw [show nI s.2.1 = -1 from h9]; decide) (nI_pos (by omega)))).symm, (mNo_o (by decide)).trans ((mRS_o (by omega)).trans h26), mRS_F.tr mNo_F, mRS_E.tr mNo_E, (mNo_o (by decide)).trans (mRS_o (by omega)), fun _ => ⟨rfl, mNo_nd (s := ((tNum c L s.1).2, s.2)) (fun k hk => hNd.rs k hk) rfl rfl rfl rfl rfl (by decide) (Or.inl rfl), mNo_25⟩⟩)
        · exact absurd c159 (by decide)
    · refine J_aload_n (m) dX8_readFactor_23 rfl rfl ?_
      refine J_geti (j := 16) dX8_readFactor_24 (fun _ h => List.mem_cons_of_mem _ (List.mem_append_left _ (List.mem_append_right _ (h)))) cs11 (by decide) rfl (List.mem_of_getElem? (i := 2) rfl) rfl (show m < jn M from by omega) m2 ?_
      refine J_topi (y := jb (false)) ((hRd.f16.trans (congrArg jb hgb))) ?_
      refine J_if_ne dX8_readFactor_27 (tgt := 39) (by decide) (fun c27 => ?_) (fun c27 => ?_)
      · exact absurd c27 (by decide)
      · have c27 := jb0T c27
        refine J_aload_n (m) dX8_readFactor_30 rfl rfl ?_
        refine J_geti (j := 26) dX8_readFactor_31 (fun _ h => List.mem_cons_of_mem _ (List.mem_append_left _ (List.mem_append_right _ (h)))) cs11 (by decide) rfl (List.mem_of_getElem? (i := 3) rfl) rfl (show m < jn M from by omega) m2 ?_
        refine J_topi (y := nI (o)) (h26) ?_
        refine J_bipush (x := 8) dX8_readFactor_34 (by decide) ?_
        refine J_icmp_ne dX8_readFactor_36 (tgt := 45) (by decide) (fun c36 => ?_) (fun c36 => ?_)
        · have c36 := jeqF (a := o) (b := 8) (by omega) (by omega) c36
          refine J_aload_n (m) dX8_readFactor_45 rfl rfl ?_
          refine J_dup dX8_readFactor_46 rfl ?_
          refine J_geti (j := 26) dX8_readFactor_47 (fun _ h => List.mem_cons_of_mem _ (List.mem_append_left _ (List.mem_append_right _ (h)))) cs11 (by decide) rfl (List.mem_of_getElem? (i := 3) rfl) rfl (show m < jn M from by omega) m2 ?_
          refine J_topi (y := nI (o)) (h26) ?_
          refine J_iconst (x := 1) dX8_readFactor_50 (by decide) ?_
          refine J_iadd dX8_readFactor_51 ?_
          refine J_topi (y := nI (o + 1)) (nI_add (o) (1)) ?_
          refine J_puti (j := 26) (x := nI (o + 1)) dX8_readFactor_52 (fun _ h => List.mem_cons_of_mem _ (List.mem_append_left _ (List.mem_append_right _ (h)))) cs11 cty11 (by decide) rfl (List.mem_of_getElem? (i := 3) rfl) rfl rfl ⟨rfl, rfl⟩ (show m < jn M from by omega) m2 ?_
          refine J_aload_n (m) dX8_readFactor_55 rfl rfl ?_
          refine J_dup dX8_readFactor_56 rfl ?_
          refine J_geti (j := 15) dX8_readFactor_57 (fun _ h => List.mem_cons_of_mem _ (List.mem_append_left _ (List.mem_append_right _ (h)))) cs11 (by decide) rfl (List.mem_of_getElem? (i := 1) rfl) rfl (show m < jn M from by omega) m2 ?_
          refine J_topi (y := nI (s.1)) ((ji_ne_i (by omega) (hRd.f15.trans (congrArg nI hgp)))) ?_
          refine J_iconst (x := 1) dX8_readFactor_60 (by decide) ?_
          refine J_iadd dX8_readFactor_61 ?_
          refine J_topi (y := nI (s.1 + 1)) (nI_add (s.1) (1)) ?_
          refine J_puti (j := 15) (x := nI (s.1 + 1)) dX8_readFactor_62 (fun _ h => List.mem_cons_of_mem _ (List.mem_append_left _ (List.mem_append_right _ (h)))) cs11 cty11 (by decide) rfl (List.mem_of_getElem? (i := 1) rfl) rfl rfl ⟨rfl, rfl⟩ (show m < jn M from by omega) m2 ?_
          have ha33 : tIsAt c L s.1 33 = false := (gHere_f c11)
          have hb40 : tIsAt c L s.1 40 = true := gHere_t (by decide) c20
          have hlt : s.1 + 1 ≤ L := tIsAt_lt hb40
          have hcv : c s.1 = 40 := tIsAt_c hb40
          obtain ⟨X, hXe⟩ : ∃ X, X = jSi (jSi M m 26 (nI (o + 1))) m 15 (nI (s.1 + 1)) := ⟨_, rfl⟩
          refine J_mem (M' := X) hXe.symm ?_
          have hXX : mEx X m c L (s.1 + 1, g.2) (s.1 + 1, s.2) (o + 1) := by rw [hXe]; exact fac_adv hX hlt
          have hFX : mFr m M X := by rw [hXe]; exact (mFr.rf.si ⟨by omega, by omega⟩).si ⟨by omega, by omega⟩
          have hEX : mE m M X := by rw [hXe]; exact (mE.rf.si rfl).si rfl
          have hcX : ji X m 11 = ji M m 11 := by rw [hXe, ji_Sik (by decide), ji_Sik (by decide)]
          obtain ⟨Xm1, Xm2, ⟨Xr1, Xr2, Xr3, Xr4, Xr5, Xr6, Xr7, Xr8, Xr9, Xr10, Xr11, Xr12, Xr13⟩, ⟨Xk1, Xk2, Xk3, Xk4, Xk5, Xk6, Xk7, Xk8, Xk9, Xk10, Xk11, Xk12, Xk13⟩, Xz1, Xz2, Xz3, Xz4, Xz5, Xz6, Xz7, Xz8, Xz9, Xz10, Xz11, Xz12, Xz13⟩ := id hXX.1.1
          refine J_aload_n (m) dX8_readFactor_65 rfl rfl ?_
          refine J_getrs (q := m + 4) Xr4 dX8_readFactor_66 (fun _ h => List.mem_cons_of_mem _ (List.mem_append_left _ (List.mem_append_right _ (h)))) cs11 (by decide) rfl (List.mem_of_getElem? (i := 4) rfl) rfl (show m < jn X from by omega) Xm2 ?_
          refine J_iload_n dX8_readFactor_69 rfl rfl ?_
          refine J_ialdN (k := s.1) dX8_readFactor_70 (show m + 4 < jn X from by omega) Xk4 (by exact Nat.lt_of_lt_of_eq (show _ < 60 by omega) (Eq.symm Xz4)) (by exact Nat.lt_of_le_of_lt (Nat.le_of_eq Xz4) (show 60 < 2 ^ 31 by omega)) ?_
          refine J_topi (y := c s.1) (by exact hXX.1.2.2.2.1 _ (by omega)) ?_
          refine J_bipush (x := 33) dX8_readFactor_71 (by decide) ?_
          refine J_icmp_ne dX8_readFactor_73 (tgt := 83) (by decide) (fun c73 => ?_) (fun c73 => ?_)
          · refine J_aload_n (m) dX8_readFactor_83 rfl rfl ?_
            refine J_calli (jrunV (As := []) (hS X (s.1 + 1, s.2) (s.1 + 1, g.2) hXX ⟨hlt, hsk.2⟩ (by show s.2.1 ≤ s.1 + 1; omega)) dX8_readFactor_84 yY_X8_readSum gX8_readFactor_X8_readSum rfl cs11 (show m < jn X from by omega) Xm2 rfl ⟨by omega, by omega⟩ ⟨Nat.zero_le _, Nat.zero_le _⟩ rfl (Nat.le_of_ble_eq_true rfl)) ⟨Nat.zero_le _, Nat.zero_le _⟩ (Or.inr ⟨(jOk.ref (show m < jn X from by omega) (jOk.int (jOk.float jOk.nil))), jOk.nil⟩) (fun E M9 hp _ => by obtain ⟨_, _, h1, _⟩ := hp; cases h1) (fun x9 K84 hp84 hle84 => ?_)
            obtain ⟨x84, g84, he9, hd84, hp884, hb884, ho884, hF884, hE884, hc884, hk884⟩ := hp84
            have he9 := (jI_inj he9).symm
            subst he9
            obtain ⟨K84m1, K84m2, ⟨K84r1, K84r2, K84r3, K84r4, K84r5, K84r6, K84r7, K84r8, K84r9, K84r10, K84r11, K84r12, K84r13⟩, ⟨K84k1, K84k2, K84k3, K84k4, K84k5, K84k6, K84k7, K84k8, K84k9, K84k10, K84k11, K84k12, K84k13⟩, K84z1, K84z2, K84z3, K84z4, K84z5, K84z6, K84z7, K84z8, K84z9, K84z10, K84z11, K84z12, K84z13⟩ := id hd84.1
            by_cases hr84 : ((eS c L (eFac c L d)) (s.1 + 1, s.2)).1 = -1
            · have hg84 : g84.2.1 = true := by rw [hb884]; exact decide_eq_true hr84
              refine J_istore_n (lv' := [.ref (m), .int (nI (s.1)), .int (x84)]) dX8_readFactor_87 rfl (by decide) rfl rfl ?_
              refine J_aload_n (m) dX8_readFactor_88 rfl rfl ?_
              refine J_getrs (q := m + 4) K84r4 dX8_readFactor_89 (fun _ h => List.mem_cons_of_mem _ (List.mem_append_left _ (List.mem_append_right _ (h)))) cs11 (by decide) rfl (List.mem_of_getElem? (i := 4) rfl) rfl (show m < jn K84 from by omega) K84m2 ?_
              refine J_iload_n dX8_readFactor_92 rfl rfl ?_
              refine J_ialdN (k := s.1) dX8_readFactor_93 (show m + 4 < jn K84 from by omega) K84k4 (by exact Nat.lt_of_lt_of_eq (show _ < 60 by omega) (Eq.symm K84z4)) (by exact Nat.lt_of_le_of_lt (Nat.le_of_eq K84z4) (show 60 < 2 ^ 31 by omega)) ?_
              refine J_topi (y := c s.1) (by exact hd84.2.2.2.1 _ (by omega)) ?_
              refine J_bipush (x := 40) dX8_readFactor_94 (by decide) ?_
              refine J_icmp_ne dX8_readFactor_96 (tgt := 105) (by decide) (fun c96 => ?_) (fun c96 => ?_)
              · exact absurd hcv c96
              · refine J_aload_n (m) dX8_readFactor_99 rfl rfl ?_
                refine J_bipush (x := 41) dX8_readFactor_100 (by decide) ?_
                refine J_callv0 (jrunV (As := [.int (41)]) (ct_X8_needs l D dA hst K84 m c L g84 hd84 41 (by decide)) dX8_readFactor_102 yY_X8_needs gX8_readFactor_X8_needs rfl cs11 (show m < jn K84 from by omega) K84m2 rfl ⟨by omega, by omega⟩ ⟨Nat.zero_le _, Nat.zero_le _⟩ rfl (Nat.le_of_ble_eq_true rfl)) (rfl) (rfl) ?_
                refine J_mem (M' := mRS K84 m (gBad g84)) (by rw [gNeed_f (gIs_f1 hg84)]) ?_
                have hgY : (gBad g84).2.1 = true := rfl
                have hdY : mRd (mRS K84 m (gBad g84)) m c L (gBad g84) := hd84.rs _ hd84.le
                refine J_aload_n (m) dX8_readFactor_105 rfl rfl ?_
                refine J_dup dX8_readFactor_106 rfl ?_
                refine J_geti (j := 26) dX8_readFactor_107 (fun _ h => List.mem_cons_of_mem _ (List.mem_append_left _ (List.mem_append_right _ (h)))) cs11 (by decide) rfl (List.mem_of_getElem? (i := 3) rfl) rfl (show m < jn K84 from by omega) K84m2 ?_
                refine J_topi (y := nI (o + 1)) (((mRS_o (by omega)).trans ho884)) ?_
                refine J_iconst (x := 1) dX8_readFactor_110 (by decide) ?_
                refine J_isub dX8_readFactor_111 ?_
                refine J_topi (y := nI (o + 1 - 1)) (pk_sub (a := o + 1) (b := 1) (by omega)) ?_
                refine J_puti (j := 26) (x := nI (o + 1 - 1)) dX8_readFactor_112 (fun _ h => List.mem_cons_of_mem _ (List.mem_append_left _ (List.mem_append_right _ (h)))) cs11 cty11 (by decide) rfl (List.mem_of_getElem? (i := 3) rfl) rfl rfl ⟨rfl, rfl⟩ (show m < jn K84 from by omega) K84m2 ?_
                refine J_aload_n (m) dX8_readFactor_115 rfl rfl ?_
                refine J_geti (j := 16) dX8_readFactor_116 (fun _ h => List.mem_cons_of_mem _ (List.mem_append_left _ (List.mem_append_right _ (h)))) cs11 (by decide) rfl (List.mem_of_getElem? (i := 2) rfl) rfl (show m < jn K84 from by omega) K84m2 ?_
                refine J_topi (y := jb (true)) ((ji_ne_i (by omega) (hdY.f16.trans (congrArg jb hgY)))) ?_
                refine J_if_eq dX8_readFactor_119 (tgt := 126) (by decide) (fun c119 => ?_) (fun c119 => ?_)
                · exact absurd c119 (by decide)
                · have c119 := jb0F c119
                  refine J_iconst (x := 0) dX8_readFactor_122 (by decide) ?_
                  refine J_goto (tgt := 150) dX8_readFactor_123 (by decide) ?_
                  exact J_iret (ty := .int) dX8_readFactor_150 rfl (rfl) (by rw [eFac_2b ha33 hb40 hr84]; exact ⟨0, gBad g84, rfl, hdY.fo (by omega), hp884, rfl, ji_Sis, (((hFX.tr hF884).tr mRS_F).si ⟨by omega, by omega⟩), (((hEX.tr hE884).tr mRS_E).si rfl), (ji_Sik (by decide)).trans ((mRS_o (by omega)).trans (hc884.trans hcX)), fun h9 => absurd rfl h9⟩)
            · have hg84 : g84.2.1 = false := by rw [hb884]; exact decide_eq_false hr84
              obtain ⟨hx84, hn84, h2584⟩ := hk884 hr84
              refine J_istore_n (lv' := [.ref (m), .int (nI (s.1)), .int (x84)]) dX8_readFactor_87 rfl (by decide) rfl rfl ?_
              refine J_aload_n (m) dX8_readFactor_88 rfl rfl ?_
              refine J_getrs (q := m + 4) K84r4 dX8_readFactor_89 (fun _ h => List.mem_cons_of_mem _ (List.mem_append_left _ (List.mem_append_right _ (h)))) cs11 (by decide) rfl (List.mem_of_getElem? (i := 4) rfl) rfl (show m < jn K84 from by omega) K84m2 ?_
              refine J_iload_n dX8_readFactor_92 rfl rfl ?_
              refine J_ialdN (k := s.1) dX8_readFactor_93 (show m + 4 < jn K84 from by omega) K84k4 (by exact Nat.lt_of_lt_of_eq (show _ < 60 by omega) (Eq.symm K84z4)) (by exact Nat.lt_of_le_of_lt (Nat.le_of_eq K84z4) (show 60 < 2 ^ 31 by omega)) ?_
              refine J_topi (y := c s.1) (by exact hd84.2.2.2.1 _ (by omega)) ?_
              refine J_bipush (x := 40) dX8_readFactor_94 (by decide) ?_
              refine J_icmp_ne dX8_readFactor_96 (tgt := 105) (by decide) (fun c96 => ?_) (fun c96 => ?_)
              · exact absurd hcv c96
              · refine J_aload_n (m) dX8_readFactor_99 rfl rfl ?_
                refine J_bipush (x := 41) dX8_readFactor_100 (by decide) ?_
                refine J_callv0 (jrunV (As := [.int (41)]) (ct_X8_needs l D dA hst K84 m c L g84 hd84 41 (by decide)) dX8_readFactor_102 yY_X8_needs gX8_readFactor_X8_needs rfl cs11 (show m < jn K84 from by omega) K84m2 rfl ⟨by omega, by omega⟩ ⟨Nat.zero_le _, Nat.zero_le _⟩ rfl (Nat.le_of_ble_eq_true rfl)) (rfl) (rfl) ?_
                rcases Bool.eq_false_or_eq_true (tIsAt c L g84.1 41) with k41 | k41
                · have hgi : gIs c L 41 g84 = tIsAt c L g84.1 41 := by unfold gIs; rw [hg84]; rfl
                  refine J_mem (M' := mRS K84 m (g84.1 + 1, g84.2)) (by rw [gNeed_t (hgi.trans k41), gTk_t (hgi.trans k41)]) ?_
                  have hgY : ((g84.1 + 1, g84.2) : gS).2.1 = false := hg84
                  have hdY : mRd (mRS K84 m (g84.1 + 1, g84.2)) m c L (g84.1 + 1, g84.2) := hd84.rs _ (tIsAt_lt k41)
                  refine J_aload_n (m) dX8_readFactor_105 rfl rfl ?_
                  refine J_dup dX8_readFactor_106 rfl ?_
                  refine J_geti (j := 26) dX8_readFactor_107 (fun _ h => List.mem_cons_of_mem _ (List.mem_append_left _ (List.mem_append_right _ (h)))) cs11 (by decide) rfl (List.mem_of_getElem? (i := 3) rfl) rfl (show m < jn K84 from by omega) K84m2 ?_
                  refine J_topi (y := nI (o + 1)) (((mRS_o (by omega)).trans ho884)) ?_
                  refine J_iconst (x := 1) dX8_readFactor_110 (by decide) ?_
                  refine J_isub dX8_readFactor_111 ?_
                  refine J_topi (y := nI (o + 1 - 1)) (pk_sub (a := o + 1) (b := 1) (by omega)) ?_
                  refine J_puti (j := 26) (x := nI (o + 1 - 1)) dX8_readFactor_112 (fun _ h => List.mem_cons_of_mem _ (List.mem_append_left _ (List.mem_append_right _ (h)))) cs11 cty11 (by decide) rfl (List.mem_of_getElem? (i := 3) rfl) rfl rfl ⟨rfl, rfl⟩ (show m < jn K84 from by omega) K84m2 ?_
                  refine J_aload_n (m) dX8_readFactor_115 rfl rfl ?_
                  refine J_geti (j := 16) dX8_readFactor_116 (fun _ h => List.mem_cons_of_mem _ (List.mem_append_left _ (List.mem_append_right _ (h)))) cs11 (by decide) rfl (List.mem_of_getElem? (i := 2) rfl) rfl (show m < jn K84 from by omega) K84m2 ?_
                  refine J_topi (y := jb (false)) ((ji_ne_i (by omega) (hdY.f16.trans (congrArg jb hgY)))) ?_
                  refine J_if_eq dX8_readFactor_119 (tgt := 126) (by decide) (fun c119 => ?_) (fun c119 => ?_)
                  · have c119 := jb0T c119
                    refine J_aload_n (m) dX8_readFactor_126 rfl rfl ?_
                    refine J_getrs (q := m + 4) K84r4 dX8_readFactor_127 (fun _ h => List.mem_cons_of_mem _ (List.mem_append_left _ (List.mem_append_right _ (h)))) cs11 (by decide) rfl (List.mem_of_getElem? (i := 4) rfl) rfl (show m < jn K84 from by omega) K84m2 ?_
                    refine J_iload_n dX8_readFactor_130 rfl rfl ?_
                    refine J_ialdN (k := s.1) dX8_readFactor_131 (show m + 4 < jn K84 from by omega) K84k4 (by exact Nat.lt_of_lt_of_eq (show _ < 60 by omega) (Eq.symm K84z4)) (by exact Nat.lt_of_le_of_lt (Nat.le_of_eq K84z4) (show 60 < 2 ^ 31 by omega)) ?_
                    refine J_topi (y := c s.1) (by rw [ji_Sin (by omega)]; exact hdY.2.2.2.1 _ (by omega)) ?_
                    refine J_bipush (x := 33) dX8_readFactor_132 (by decide) ?_
                    refine J_icmp_ne dX8_readFactor_134 (tgt := 149) (by decide) (fun c134 => ?_) (fun c134 => ?_)
                    · refine J_iload_n dX8_readFactor_149 rfl rfl ?_
                      exact J_iret (ty := .int) dX8_readFactor_150 rfl (rfl) (by rw [eFac_2 ha33 hb40 hr84 (by rw [← hp884]; exact k41)]; exact ⟨_, (g84.1 + 1, g84.2), rfl, hdY.fo (by omega), congrArg (· + 1) hp884, hg84.trans (decide_eq_false hr84).symm, ji_Sis, (((hFX.tr hF884).tr mRS_F).si ⟨by omega, by omega⟩), (((hEX.tr hE884).tr mRS_E).si rfl), (ji_Sik (by decide)).trans ((mRS_o (by omega)).trans (hc884.trans hcX)), fun _ => ⟨hx84, mNd.fo (hn84.rs), (ji_Sik (by decide)).trans ((mRS_o (by omega)).trans h2584)⟩⟩)
                    · exact absurd (hcv.symm.trans c134) (by decide)
                  · exact absurd c119 (by decide)
                · have hgi : gIs c L 41 g84 = tIsAt c L g84.1 41 := by unfold gIs; rw [hg84]; rfl
                  refine J_mem (M' := mRS K84 m (gBad g84)) (by rw [gNeed_f (hgi.trans k41)]) ?_
                  have hgY : (gBad g84).2.1 = true := rfl
                  have hdY : mRd (mRS K84 m (gBad g84)) m c L (gBad g84) := hd84.rs _ hd84.le
                  refine J_aload_n (m) dX8_readFactor_105 rfl rfl ?_
                  refine J_dup dX8_readFactor_106 rfl ?_
                  refine J_geti (j := 26) dX8_readFactor_107 (fun _ h => List.mem_cons_of_mem _ (List.mem_append_left _ (List.mem_append_right _ (h)))) cs11 (by decide) rfl (List.mem_of_getElem? (i := 3) rfl) rfl (show m < jn K84 from by omega) K84m2 ?_
                  refine J_topi (y := nI (o + 1)) (((mRS_o (by omega)).trans ho884)) ?_
                  refine J_iconst (x := 1) dX8_readFactor_110 (by decide) ?_
                  refine J_isub dX8_readFactor_111 ?_
                  refine J_topi (y := nI (o + 1 - 1)) (pk_sub (a := o + 1) (b := 1) (by omega)) ?_
                  refine J_puti (j := 26) (x := nI (o + 1 - 1)) dX8_readFactor_112 (fun _ h => List.mem_cons_of_mem _ (List.mem_append_left _ (List.mem_append_right _ (h)))) cs11 cty11 (by decide) rfl (List.mem_of_getElem? (i := 3) rfl) rfl rfl ⟨rfl, rfl⟩ (show m < jn K84 from by omega) K84m2 ?_
                  refine J_aload_n (m) dX8_readFactor_115 rfl rfl ?_
                  refine J_geti (j := 16) dX8_readFactor_116 (fun _ h => List.mem_cons_of_mem _ (List.mem_append_left _ (List.mem_append_right _ (h)))) cs11 (by decide) rfl (List.mem_of_getElem? (i := 2) rfl) rfl (show m < jn K84 from by omega) K84m2 ?_
                  refine J_topi (y := jb (true)) ((ji_ne_i (by omega) (hdY.f16.trans (congrArg jb hgY)))) ?_
                  refine J_if_eq dX8_readFactor_119 (tgt := 126) (by decide) (fun c119 => ?_) (fun c119 => ?_)
                  · exact absurd c119 (by decide)
                  · have c119 := jb0F c119
                    refine J_iconst (x := 0) dX8_readFactor_122 (by decide) ?_
                    refine J_goto (tgt := 150) dX8_readFactor_123 (by decide) ?_
                    exact J_iret (ty := .int) dX8_readFactor_150 rfl (rfl) (by rw [eFac_2c ha33 hb40 hr84 (by rw [← hp884]; exact k41)]; exact ⟨0, gBad g84, rfl, hdY.fo (by omega), hp884, rfl, ji_Sis, (((hFX.tr hF884).tr mRS_F).si ⟨by omega, by omega⟩), (((hEX.tr hE884).tr mRS_E).si rfl), (ji_Sik (by decide)).trans ((mRS_o (by omega)).trans (hc884.trans hcX)), fun h9 => absurd rfl h9⟩)
          · exact absurd (hcv.symm.trans c73) (by decide)
        · have c36 := jeqT (a := o) (b := 8) (by omega) (by omega) c36
          exact absurd c36 (by omega)

theorem mCT_fac (l : Launch) (D : va_G) (dA : Nat → ClassId) (hst : l.stackTraces = false) (m : Nat) (c : Nat → Int32) (L : Nat) (hL : L ≤ 60) : ∀ d o, o + d = 8 → mCT l D dA yX8_readFactor wsX8_readFactor (eFr d) (eLo d) m c L o (eFac c L d) := by
  intro d
  induction d with
  | zero => intro o ho M s g h1 h2 h3; exact ct_X8_readFactor_0 l D dA hst M m c L o hL s g h1 h2 h3 (by omega)
  | succ d ih =>
    intro o ho M s g h1 h2 h3
    have hG := ih (o + 1) (by omega)
    have hge := eFr_ge d
    have hS : mCT l D dA yX8_readSum wsX8_readSum (eFr d + 40) (eLo d + 400) m c L (o + 1) (eS c L (eFac c L d)) := fun M s g h1 h2 h3 => ct_X8_readSum l D dA hst M m c L (o + 1) hL s g h1 h2 h3 (eFr d) (eLo d) hge.1 hge.2 (eFac c L d) (eFac_ok d) (eFac_T hL d) hG
    exact ct_X8_readFactor_s l D dA hst M m c L o hL s g h1 h2 h3 d (eFr d) (eLo d) hge.1 hge.2 (by omega) (eFac_T hL d) hG hS
theorem mCT_sum (l : Launch) (D : va_G) (dA : Nat → ClassId) (hst : l.stackTraces = false) (m : Nat) (c : Nat → Int32) (L : Nat) (hL : L ≤ 60) : mCT l D dA yX8_readSum wsX8_readSum 470 5000 m c L 0 (eS c L (eFac c L 8)) := by
  have h := mCT_fac l D dA hst m c L hL 8 0 rfl
  rw [show eFr 8 = 430 from rfl, show eLo 8 = 4600 from rfl] at h
  exact fun M s g h1 h2 h3 => ct_X8_readSum l D dA hst M m c L 0 hL s g h1 h2 h3 430 4600 (by omega) (by omega) (eFac c L 8) (eFac_ok 8) (eFac_T hL 8) h
