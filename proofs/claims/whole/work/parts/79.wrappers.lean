theorem vpin0 : vp_in 0 1 := show ¬ ((0 : Int32) < 0 ∨ 1 ≤ Int32.toNatClampNeg 0) from by decide
theorem sRel_2 {A : cA} {x y : Int32} : (sRel A x y).2 = A := by
  unfold sRel sSl sRn
  split
  · split
    · split
      · rfl
      · split <;> rfl
    · rfl
  · rfl
theorem sAgr_2 {A : cA} {x y z op : Int32} : (sAgr A x y z op).2 = A := by
  unfold sAgr sSl sRn
  split
  · split
    · split
      · split
        · split
          · rfl
          · split
            · rfl
            · split <;> rfl
        · rfl
      · rfl
    · rfl
  · rfl
theorem sTl_e {A : cA} {x : Int32} : sTl A x = (oSl x (oRn A x oTl), A) := sO
theorem sTx_e {A : cA} {x y : Int32} : sTx A x y = (oSl x (oRn A x (fun w => oTx w y)), A) := sO
theorem sTl_2 {A : cA} {x : Int32} : (sTl A x).2 = A := by rw [sTl_e]
theorem sTx_2 {A : cA} {x y : Int32} : (sTx A x y).2 = A := by rw [sTx_e]
theorem dL_append_0 : decode cL_append 0 = .ok (.aload_n 0, 1) := by decide +kernel
theorem dL_append_1 : decode cL_append 1 = .ok (.iload_n 1, 1) := by decide +kernel
theorem dL_append_2 : decode cL_append 2 = .ok (.invokevirtual 7, 3) := by decide +kernel
set_option maxRecDepth 20000 in
theorem ggL_append_X7_append : GoodIn wsL_append wsX7_append := goodIn_ca (goodIn_ca (goodIn_r _ [6, 7, 8, 9, 10, 11, 12, 13, 14, 15, 16, 17, 18, 19, 20] (by decide +kernel) (by decide +kernel)) (goodIn_sub (fun _ h => List.mem_cons_of_mem _ (List.mem_append_left _ (List.mem_append_right _ h))) (by decide +kernel))) (goodIn_sub (fun _ h => List.mem_cons_of_mem _ (List.mem_append_right _ h)) (by decide +kernel))
set_option maxRecDepth 20000 in
theorem gL_append_X7_append : GoodIn wsL_append (wsV RL 7 RX7 yX7_append wsX7_append) := goodIn_app (goodIn_of _ (by decide +kernel)) ggL_append_X7_append
theorem yY_X7_append : jY yX7_append wsX7_append cX7_append 2 none 1 := ⟨⟨_, rfl⟩, by decide +kernel, by decide +kernel, by decide +kernel⟩
theorem dL_append_8 : decode cL_append 8 = .ok (.astore_n 2, 1) := by decide +kernel
theorem dL_append_9 : decode cL_append 9 = .ok (.iconst 1, 1) := by decide +kernel
theorem dL_append_10 : decode cL_append 10 = .ok (.ireturn, 1) := by decide +kernel
theorem dL_append_5 : decode cL_append 5 = .ok (.goto 6, 3) := by decide +kernel
theorem dL_append_11 : decode cL_append 11 = .ok (.iconst 0, 1) := by decide +kernel
theorem dL_append_12 : decode cL_append 12 = .ok (.ireturn, 1) := by decide +kernel
set_option maxHeartbeats 400000 in
set_option maxRecDepth 20000 in
theorem ct_L_append (l : Launch) (D : va_G) (dA : Nat → ClassId) (hst : l.stackTraces = false) (M : jM) (v : Nat) (A : cA) (hA : jAb M v A) (c : Int32) (hc : vp_nar .char c = c) : jCT l D dA yL_append wsL_append (30) (900) (1) (6) 1 [.ref (v), .int (c)] M (lPr M v ((sApp A c).2) (sApp A c).1 [xISE] lgV) := by
  refine jBodyH (cc := cL_append) (nL := 3) (rt := (some .int)) (ini := false) (by decide) rfl hst (Nat.le_of_ble_eq_true rfl) (by simp [Value.category]) (by intro h9; first | exact absurd h9 (by decide) | rfl) ?_
  show J l D dA RL cL_append wsL_append 3 false (some .int) [(0, 5, 8, 13)] (30) (900) (jF D dA (jn M) (lPr M v ((sApp A c).2) (sApp A c).1 [xISE] lgV) 1) (jn M) (1) (6) (M) 0 [.ref (v), .int (c), .float 0] []
  refine J_aload_n (v) dL_append_0 rfl rfl ?_
  refine J_iload_n dL_append_1 rfl rfl ?_
  refine J_callv (jrunV (As := [.int (c)]) (ct_X7_append l D dA hst M v A hA c hc) dL_append_2 yY_X7_append gL_append_X7_append rfl cs10 (show v < jn M from Nat.lt_of_lt_of_le (Nat.lt_add_of_pos_right (by decide)) hA.1.1) hA.1.2.1 rfl ⟨by omega, by omega⟩ ⟨by omega, by omega⟩ rfl (Nat.le_of_ble_eq_true rfl)) ⟨by omega, by omega⟩ (Or.inr ⟨(jOk.ref (show v < jn M from Nat.lt_of_lt_of_le (Nat.lt_add_of_pos_right (by decide)) hA.1.1) (jOk.int (jOk.float jOk.nil))), jOk.nil⟩) (fun E K hp hle => ?_) (fun K hp hle => ?_)
  · obtain ⟨he, hB, hF⟩ := hp
    have hm := lIn_append E he.symm
    rcases List.mem_cons.mp hm with rfl | hm
    · refine JX_catchN (name := "java/lang/IllegalStateException") [] (0, 5, 8, 13) [] rfl (fun _ h => absurd h List.not_mem_nil) (by decide) (by decide) (List.mem_of_getElem? (i := 1) rfl) lca_xISE dL_append_8 rfl (by decide) rfl (lv' := [.ref (v), .int (c), .float 0]) rfl ?_
      refine J_iconst (x := 1) dL_append_9 (by decide) ?_
      exact J_iret (ty := .int) dL_append_10 rfl (rfl) (by exact ⟨K, hB, hF, Or.inr ⟨0, _, rfl, by decide, he.symm, rfl, rfl⟩⟩)
    exact absurd hm List.not_mem_nil
  obtain ⟨he, hB, hF⟩ := hp
  refine J_goto (tgt := 11) dL_append_5 (by decide) ?_
  refine J_iconst (x := 0) dL_append_11 (by decide) ?_
  exact J_iret (ty := .int) dL_append_12 rfl (rfl) (by exact ⟨K, hB, hF, Or.inl ⟨rfl, he.symm, rfl⟩⟩)

theorem dL_read_0 : decode cL_read 0 = .ok (.aload_n 2, 1) := by decide +kernel
theorem dL_read_1 : decode cL_read 1 = .ok (.iconst 0, 1) := by decide +kernel
theorem dL_read_2 : decode cL_read 2 = .ok (.aload_n 0, 1) := by decide +kernel
theorem dL_read_3 : decode cL_read 3 = .ok (.iload_n 1, 1) := by decide +kernel
theorem dL_read_4 : decode cL_read 4 = .ok (.invokevirtual 15, 3) := by decide +kernel
set_option maxRecDepth 20000 in
theorem ggL_read_X7_read : GoodIn wsL_read wsX7_read := goodIn_ca (goodIn_ca (goodIn_ca (goodIn_ca (goodIn_r _ [8, 9, 10, 11, 12, 13, 14, 15, 7, 16, 17, 18, 19, 20, 21, 22, 23, 24, 25, 26, 27, 28, 29, 30, 31, 32, 33, 34, 35, 36, 37, 38, 39, 40, 41, 42, 43, 44, 45, 46, 47, 48, 49, 50, 51, 52, 53, 54, 55, 56, 57, 58, 59, 60, 61, 62, 63, 64, 65, 66, 67, 68, 69, 70, 71, 72, 73, 74, 75, 76, 77, 78, 79, 80, 81, 82, 83, 84, 85, 86, 87, 88, 89, 90, 91, 92, 93, 94, 95, 96, 97, 98, 99, 100, 101, 102, 103, 104, 105, 106, 107, 108, 109, 110, 111, 112, 113, 114, 115, 116, 117, 118, 119, 120, 121, 122, 123, 124, 125, 126, 127, 128, 129, 130, 131, 132, 133, 134, 135, 136, 137, 138, 139, 140, 141, 142, 143, 144, 145, 146, 147, 148, 149, 150, 151, 152, 153, 154, 155, 156, 157, 158, 159, 160, 161, 162, 163, 164, 165, 166, 167, 168, 169, 170, 171, 172, 173, 174, 175, 176, 177, 178, 179, 180, 181, 182, 183, 184, 185, 186, 187, 188, 189, 190, 191, 192, 193, 194, 195, 196, 197, 198, 199, 200, 201, 202, 203, 204, 205, 206, 207, 208, 209, 210, 211, 212, 213, 214, 215, 216, 217, 218, 219, 220, 221, 222, 223, 224, 225, 226, 227, 228, 229, 230, 231, 232, 233, 234, 235, 236, 237, 238, 239, 240, 241, 242, 243, 244, 245, 246, 247, 248, 249, 250, 251, 252, 253, 254, 255, 256, 257, 258, 259, 260, 261, 262, 263, 264, 265, 266, 267, 268, 269] (by decide +kernel) (by decide +kernel)) (goodIn_sub (fun _ h => List.mem_cons_of_mem _ (List.mem_append_left _ (List.mem_append_left _ (List.mem_append_right _ h)))) (by decide +kernel))) (goodIn_sub (fun _ h => List.mem_cons_of_mem _ (List.mem_append_left _ (List.mem_append_left _ (List.mem_append_left _ (List.mem_append_right _ h))))) (by decide +kernel))) (goodIn_sub (fun _ h => List.mem_cons_of_mem _ (List.mem_append_left _ (List.mem_append_right _ h))) (by decide +kernel))) (goodIn_sub (fun _ h => List.mem_cons_of_mem _ (List.mem_append_right _ h)) (by decide +kernel))
set_option maxRecDepth 20000 in
theorem gL_read_X7_read : GoodIn wsL_read (wsV RL 15 RX7 yX7_read wsX7_read) := goodIn_app (goodIn_of _ (by decide +kernel)) ggL_read_X7_read
theorem yY_X7_read : jY yX7_read wsX7_read cX7_read 4 (some .int) 1 := ⟨⟨_, rfl⟩, by decide +kernel, by decide +kernel, by decide +kernel⟩
theorem dL_read_12 : decode cL_read 12 = .ok (.astore_n 3, 1) := by decide +kernel
theorem dL_read_13 : decode cL_read 13 = .ok (.iconst 1, 1) := by decide +kernel
theorem dL_read_14 : decode cL_read 14 = .ok (.ireturn, 1) := by decide +kernel
theorem dL_read_15 : decode cL_read 15 = .ok (.astore_n 3, 1) := by decide +kernel
theorem dL_read_16 : decode cL_read 16 = .ok (.iconst 2, 1) := by decide +kernel
theorem dL_read_17 : decode cL_read 17 = .ok (.ireturn, 1) := by decide +kernel
theorem dL_read_18 : decode cL_read 18 = .ok (.astore_n 3, 1) := by decide +kernel
theorem dL_read_19 : decode cL_read 19 = .ok (.iconst 3, 1) := by decide +kernel
theorem dL_read_20 : decode cL_read 20 = .ok (.ireturn, 1) := by decide +kernel
theorem dL_read_7 : decode cL_read 7 = .ok (.i2l, 1) := by decide +kernel
theorem dL_read_8 : decode cL_read 8 = .ok (.lastore, 1) := by decide +kernel
theorem dL_read_9 : decode cL_read 9 = .ok (.goto 12, 3) := by decide +kernel
theorem dL_read_21 : decode cL_read 21 = .ok (.iconst 0, 1) := by decide +kernel
theorem dL_read_22 : decode cL_read 22 = .ok (.ireturn, 1) := by decide +kernel
set_option maxHeartbeats 400000 in
set_option maxRecDepth 20000 in
theorem ct_L_read (l : Launch) (D : va_G) (dA : Nat → ClassId) (hst : l.stackTraces = false) (M : jM) (v : Nat) (A : cA) (hA : jAb M v A) (x : Int32) (s : Nat) (hs : s < jn M) (hks : jk M s = 25) (hzs : jz M s = 1) : jCT l D dA yL_read wsL_read (30) (900) (20 + 5 * (cL A + 1)) (80 + 1000 * (cL A + 1)) 1 [.ref (v), .int (x), .ref (s)] M (lPr M v ((sRead A x).2) (sRead A x).1 [xIOOBE, xIAE, xUOE] (lgI s)) := by
  refine jBodyH (cc := cL_read) (nL := 4) (rt := (some .int)) (ini := false) (by decide) rfl hst (Nat.le_of_ble_eq_true rfl) (by simp [Value.category]) (by intro h9; first | exact absurd h9 (by decide) | rfl) ?_
  show J l D dA RL cL_read wsL_read 4 false (some .int) [(0, 9, 12, 19), (0, 9, 15, 21), (0, 9, 18, 23)] (30) (900) (jF D dA (jn M) (lPr M v ((sRead A x).2) (sRead A x).1 [xIOOBE, xIAE, xUOE] (lgI s)) 1) (jn M) (20 + 5 * (cL A + 1)) (80 + 1000 * (cL A + 1)) (M) 0 [.ref (v), .int (x), .ref (s), .float 0] []
  refine J_aload_n (s) dL_read_0 rfl rfl ?_
  refine J_iconst (x := 0) dL_read_1 (by decide) ?_
  refine J_aload_n (v) dL_read_2 rfl rfl ?_
  refine J_iload_n dL_read_3 rfl rfl ?_
  refine J_calli (jrunV (As := [.int (x)]) (ct_X7_read l D dA hst M v A hA x) dL_read_4 yY_X7_read gL_read_X7_read rfl cs10 (show v < jn M from Nat.lt_of_lt_of_le (Nat.lt_add_of_pos_right (by decide)) hA.1.1) hA.1.2.1 rfl ⟨by omega, by omega⟩ ⟨by omega, by omega⟩ rfl (Nat.le_of_ble_eq_true rfl)) ⟨by omega, by omega⟩ (Or.inr ⟨(jOk.ref (show v < jn M from Nat.lt_of_lt_of_le (Nat.lt_add_of_pos_right (by decide)) hA.1.1) (jOk.int (jOk.ref hs (jOk.float jOk.nil)))), (jOk.int (jOk.ref hs jOk.nil))⟩) (fun E K hp hle => ?_) (fun x9 K hp hle => ?_)
  · obtain ⟨he, hB, hF⟩ := hp
    have hm := lIn_read E he.symm
    rcases List.mem_cons.mp hm with rfl | hm
    · refine JX_catchN (name := "java/lang/IndexOutOfBoundsException") [] (0, 9, 12, 19) [(0, 9, 15, 21), (0, 9, 18, 23)] rfl (fun _ h => absurd h List.not_mem_nil) (by decide) (by decide) (List.mem_of_getElem? (i := 1) rfl) lca_xIOOBE dL_read_12 rfl (by decide) rfl (lv' := [.ref (v), .int (x), .ref (s), .float 0]) rfl ?_
      refine J_iconst (x := 1) dL_read_13 (by decide) ?_
      exact J_iret (ty := .int) dL_read_14 rfl (rfl) (by exact ⟨K, hB, hF, Or.inr ⟨0, _, rfl, by decide, he.symm, rfl, rfl⟩⟩)
    rcases List.mem_cons.mp hm with rfl | hm
    · refine JX_catchN (name := "java/lang/IllegalArgumentException") [(0, 9, 12, 19)] (0, 9, 15, 21) [(0, 9, 18, 23)] rfl (List.forall_mem_cons.mpr ⟨⟨by decide, "java/lang/IndexOutOfBoundsException", (List.mem_of_getElem? (i := 1) rfl), lnc_xIAE_xIOOBE⟩, fun _ h => absurd h List.not_mem_nil⟩) (by decide) (by decide) (List.mem_of_getElem? (i := 2) rfl) lca_xIAE dL_read_15 rfl (by decide) rfl (lv' := [.ref (v), .int (x), .ref (s), .float 0]) rfl ?_
      refine J_iconst (x := 2) dL_read_16 (by decide) ?_
      exact J_iret (ty := .int) dL_read_17 rfl (rfl) (by exact ⟨K, hB, hF, Or.inr ⟨1, _, rfl, by decide, he.symm, rfl, rfl⟩⟩)
    rcases List.mem_cons.mp hm with rfl | hm
    · refine JX_catchN (name := "java/lang/UnsupportedOperationException") [(0, 9, 12, 19), (0, 9, 15, 21)] (0, 9, 18, 23) [] rfl (List.forall_mem_cons.mpr ⟨⟨by decide, "java/lang/IndexOutOfBoundsException", (List.mem_of_getElem? (i := 1) rfl), lnc_xUOE_xIOOBE⟩, List.forall_mem_cons.mpr ⟨⟨by decide, "java/lang/IllegalArgumentException", (List.mem_of_getElem? (i := 2) rfl), lnc_xUOE_xIAE⟩, fun _ h => absurd h List.not_mem_nil⟩⟩) (by decide) (by decide) (List.mem_of_getElem? (i := 3) rfl) lca_xUOE dL_read_18 rfl (by decide) rfl (lv' := [.ref (v), .int (x), .ref (s), .float 0]) rfl ?_
      refine J_iconst (x := 3) dL_read_19 (by decide) ?_
      exact J_iret (ty := .int) dL_read_20 rfl (rfl) (by exact ⟨K, hB, hF, Or.inr ⟨2, _, rfl, by decide, he.symm, rfl, rfl⟩⟩)
    exact absurd hm List.not_mem_nil
  obtain ⟨he, hB, hF⟩ := hp
  refine J_i2l dL_read_7 ?_
  refine J_last (i := (0)) dL_read_8 (Nat.lt_of_lt_of_le hs hle) ((hF.2.1 s hs).1.trans hks) (by rw [((hF.2.1 s hs).2.trans hzs)]; exact vpin0) ?_
  refine J_goto (tgt := 21) dL_read_9 (by decide) ?_
  refine J_iconst (x := 0) dL_read_21 (by decide) ?_
  exact J_iret (ty := .int) dL_read_22 rfl (rfl) (by exact ⟨K, hB, hF, Or.inl ⟨rfl, x9, he.symm, rfl⟩⟩)

theorem dL_evaluate_0 : decode cL_evaluate 0 = .ok (.aload_n 2, 1) := by decide +kernel
theorem dL_evaluate_1 : decode cL_evaluate 1 = .ok (.iconst 0, 1) := by decide +kernel
theorem dL_evaluate_2 : decode cL_evaluate 2 = .ok (.aload_n 0, 1) := by decide +kernel
theorem dL_evaluate_3 : decode cL_evaluate 3 = .ok (.iload_n 1, 1) := by decide +kernel
theorem dL_evaluate_4 : decode cL_evaluate 4 = .ok (.invokevirtual 25, 3) := by decide +kernel
set_option maxRecDepth 20000 in
theorem ggL_evaluate_X7_evaluate : GoodIn wsL_evaluate wsX7_evaluate := goodIn_ca (goodIn_ca (goodIn_ca (goodIn_ca (goodIn_r _ [8, 9, 10, 11, 12, 13, 14, 15, 16, 17, 7, 18, 19, 20, 21, 22, 23, 24, 25, 26, 27, 28, 29, 30, 31, 32, 33, 34, 35, 36, 37, 38, 39, 40, 41, 42, 43, 44, 45, 46, 47, 48, 49, 50, 51, 52, 53, 54, 55, 56, 57, 58, 59, 60, 61, 62, 63, 64, 65, 66, 67, 68, 69, 70, 71, 72, 73, 74, 75, 76, 77, 78, 79, 80, 81, 82, 83, 84, 85, 86, 87, 88, 89, 90, 91, 92, 93, 94, 95, 96, 97, 98, 99, 100, 101, 102, 103, 104, 105, 106, 107, 108, 109, 110, 111, 112, 113, 114, 115, 116, 117, 118, 119, 120, 121, 122, 123, 124, 125, 126, 127, 128, 129, 130, 131, 132, 133, 134, 135, 136, 137, 138, 139, 140, 141, 142, 143, 144, 145, 146, 147, 148, 149, 150, 151, 152, 153, 154, 155, 156, 157, 158, 159, 160, 161, 162, 163, 164, 165, 166, 167, 168, 169, 170, 171, 172, 173, 174, 175, 176, 177, 178, 179, 180, 181, 182, 183, 184, 185, 186, 187, 188, 189, 190, 191, 192, 193, 194, 195, 196, 197, 198, 199, 200, 201, 202, 203, 204, 205, 206, 207, 208, 209, 210, 211, 212, 213, 214, 215, 216, 217, 218, 219, 220, 221, 222, 223, 224, 225, 226, 227, 228, 229, 230, 231, 232, 233, 234, 235, 236, 237, 238, 239, 240, 241, 242, 243, 244, 245, 246, 247, 248, 249, 250, 251, 252, 253, 254, 255, 256, 257, 258, 259, 260, 261, 262, 263, 264, 265, 266, 267, 268, 269, 270, 271, 272, 273, 274, 275, 276, 277, 278, 279, 280, 281, 282, 283, 284, 285, 286, 287, 288, 289, 290, 291] (by decide +kernel) (by decide +kernel)) (goodIn_sub (fun _ h => List.mem_cons_of_mem _ (List.mem_append_left _ (List.mem_append_left _ (List.mem_append_right _ h)))) (by decide +kernel))) (goodIn_sub (fun _ h => List.mem_cons_of_mem _ (List.mem_append_left _ (List.mem_append_left _ (List.mem_append_left _ (List.mem_append_right _ h))))) (by decide +kernel))) (goodIn_sub (fun _ h => List.mem_cons_of_mem _ (List.mem_append_left _ (List.mem_append_right _ h))) (by decide +kernel))) (goodIn_sub (fun _ h => List.mem_cons_of_mem _ (List.mem_append_right _ h)) (by decide +kernel))
set_option maxRecDepth 20000 in
theorem gL_evaluate_X7_evaluate : GoodIn wsL_evaluate (wsV RL 25 RX7 yX7_evaluate wsX7_evaluate) := goodIn_app (goodIn_of _ (by decide +kernel)) ggL_evaluate_X7_evaluate
theorem yY_X7_evaluate : jY yX7_evaluate wsX7_evaluate cX7_evaluate 4 (some .int) 1 := ⟨⟨_, rfl⟩, by decide +kernel, by decide +kernel, by decide +kernel⟩
theorem dL_evaluate_12 : decode cL_evaluate 12 = .ok (.astore_n 3, 1) := by decide +kernel
theorem dL_evaluate_13 : decode cL_evaluate 13 = .ok (.iconst 1, 1) := by decide +kernel
theorem dL_evaluate_14 : decode cL_evaluate 14 = .ok (.ireturn, 1) := by decide +kernel
theorem dL_evaluate_15 : decode cL_evaluate 15 = .ok (.astore_n 3, 1) := by decide +kernel
theorem dL_evaluate_16 : decode cL_evaluate 16 = .ok (.iconst 2, 1) := by decide +kernel
theorem dL_evaluate_17 : decode cL_evaluate 17 = .ok (.ireturn, 1) := by decide +kernel
theorem dL_evaluate_18 : decode cL_evaluate 18 = .ok (.astore_n 3, 1) := by decide +kernel
theorem dL_evaluate_19 : decode cL_evaluate 19 = .ok (.iconst 3, 1) := by decide +kernel
theorem dL_evaluate_20 : decode cL_evaluate 20 = .ok (.ireturn, 1) := by decide +kernel
theorem dL_evaluate_7 : decode cL_evaluate 7 = .ok (.i2l, 1) := by decide +kernel
theorem dL_evaluate_8 : decode cL_evaluate 8 = .ok (.lastore, 1) := by decide +kernel
theorem dL_evaluate_9 : decode cL_evaluate 9 = .ok (.goto 12, 3) := by decide +kernel
theorem dL_evaluate_21 : decode cL_evaluate 21 = .ok (.iconst 0, 1) := by decide +kernel
theorem dL_evaluate_22 : decode cL_evaluate 22 = .ok (.ireturn, 1) := by decide +kernel
set_option maxHeartbeats 400000 in
set_option maxRecDepth 20000 in
theorem ct_L_evaluate (l : Launch) (D : va_G) (dA : Nat → ClassId) (hst : l.stackTraces = false) (M : jM) (v : Nat) (A : cA) (hA : jAb M v A) (x : Int32) (s : Nat) (hs : s < jn M) (hks : jk M s = 25) (hzs : jz M s = 1) : jCT l D dA yL_evaluate wsL_evaluate (530) (5800) (30 + 5 * cL A) (100 + 200 * cL A) 1 [.ref (v), .int (x), .ref (s)] M (lPr M v ((sEval A x).2) (sEval A x).1 [xIOOBE, xIAE, xUOE] (lgI s)) := by
  refine jBodyH (cc := cL_evaluate) (nL := 4) (rt := (some .int)) (ini := false) (by decide) rfl hst (Nat.le_of_ble_eq_true rfl) (by simp [Value.category]) (by intro h9; first | exact absurd h9 (by decide) | rfl) ?_
  show J l D dA RL cL_evaluate wsL_evaluate 4 false (some .int) [(0, 9, 12, 19), (0, 9, 15, 21), (0, 9, 18, 23)] (530) (5800) (jF D dA (jn M) (lPr M v ((sEval A x).2) (sEval A x).1 [xIOOBE, xIAE, xUOE] (lgI s)) 1) (jn M) (30 + 5 * cL A) (100 + 200 * cL A) (M) 0 [.ref (v), .int (x), .ref (s), .float 0] []
  refine J_aload_n (s) dL_evaluate_0 rfl rfl ?_
  refine J_iconst (x := 0) dL_evaluate_1 (by decide) ?_
  refine J_aload_n (v) dL_evaluate_2 rfl rfl ?_
  refine J_iload_n dL_evaluate_3 rfl rfl ?_
  refine J_calli (jrunV (As := [.int (x)]) (ct_X7_evaluate l D dA hst M v A hA x) dL_evaluate_4 yY_X7_evaluate gL_evaluate_X7_evaluate rfl cs10 (show v < jn M from Nat.lt_of_lt_of_le (Nat.lt_add_of_pos_right (by decide)) hA.1.1) hA.1.2.1 rfl ⟨by omega, by omega⟩ ⟨by omega, by omega⟩ rfl (Nat.le_of_ble_eq_true rfl)) ⟨by omega, by omega⟩ (Or.inr ⟨(jOk.ref (show v < jn M from Nat.lt_of_lt_of_le (Nat.lt_add_of_pos_right (by decide)) hA.1.1) (jOk.int (jOk.ref hs (jOk.float jOk.nil)))), (jOk.int (jOk.ref hs jOk.nil))⟩) (fun E K hp hle => ?_) (fun x9 K hp hle => ?_)
  · obtain ⟨he, hB, hF⟩ := hp
    have hm := lIn_evaluate E he.symm
    rcases List.mem_cons.mp hm with rfl | hm
    · refine JX_catchN (name := "java/lang/IndexOutOfBoundsException") [] (0, 9, 12, 19) [(0, 9, 15, 21), (0, 9, 18, 23)] rfl (fun _ h => absurd h List.not_mem_nil) (by decide) (by decide) (List.mem_of_getElem? (i := 1) rfl) lca_xIOOBE dL_evaluate_12 rfl (by decide) rfl (lv' := [.ref (v), .int (x), .ref (s), .float 0]) rfl ?_
      refine J_iconst (x := 1) dL_evaluate_13 (by decide) ?_
      exact J_iret (ty := .int) dL_evaluate_14 rfl (rfl) (by exact ⟨K, hB, hF, Or.inr ⟨0, _, rfl, by decide, he.symm, rfl, rfl⟩⟩)
    rcases List.mem_cons.mp hm with rfl | hm
    · refine JX_catchN (name := "java/lang/IllegalArgumentException") [(0, 9, 12, 19)] (0, 9, 15, 21) [(0, 9, 18, 23)] rfl (List.forall_mem_cons.mpr ⟨⟨by decide, "java/lang/IndexOutOfBoundsException", (List.mem_of_getElem? (i := 1) rfl), lnc_xIAE_xIOOBE⟩, fun _ h => absurd h List.not_mem_nil⟩) (by decide) (by decide) (List.mem_of_getElem? (i := 2) rfl) lca_xIAE dL_evaluate_15 rfl (by decide) rfl (lv' := [.ref (v), .int (x), .ref (s), .float 0]) rfl ?_
      refine J_iconst (x := 2) dL_evaluate_16 (by decide) ?_
      exact J_iret (ty := .int) dL_evaluate_17 rfl (rfl) (by exact ⟨K, hB, hF, Or.inr ⟨1, _, rfl, by decide, he.symm, rfl, rfl⟩⟩)
    rcases List.mem_cons.mp hm with rfl | hm
    · refine JX_catchN (name := "java/lang/UnsupportedOperationException") [(0, 9, 12, 19), (0, 9, 15, 21)] (0, 9, 18, 23) [] rfl (List.forall_mem_cons.mpr ⟨⟨by decide, "java/lang/IndexOutOfBoundsException", (List.mem_of_getElem? (i := 1) rfl), lnc_xUOE_xIOOBE⟩, List.forall_mem_cons.mpr ⟨⟨by decide, "java/lang/IllegalArgumentException", (List.mem_of_getElem? (i := 2) rfl), lnc_xUOE_xIAE⟩, fun _ h => absurd h List.not_mem_nil⟩⟩) (by decide) (by decide) (List.mem_of_getElem? (i := 3) rfl) lca_xUOE dL_evaluate_18 rfl (by decide) rfl (lv' := [.ref (v), .int (x), .ref (s), .float 0]) rfl ?_
      refine J_iconst (x := 3) dL_evaluate_19 (by decide) ?_
      exact J_iret (ty := .int) dL_evaluate_20 rfl (rfl) (by exact ⟨K, hB, hF, Or.inr ⟨2, _, rfl, by decide, he.symm, rfl, rfl⟩⟩)
    exact absurd hm List.not_mem_nil
  obtain ⟨he, hB, hF⟩ := hp
  refine J_i2l dL_evaluate_7 ?_
  refine J_last (i := (0)) dL_evaluate_8 (Nat.lt_of_lt_of_le hs hle) ((hF.2.1 s hs).1.trans hks) (by rw [((hF.2.1 s hs).2.trans hzs)]; exact vpin0) ?_
  refine J_goto (tgt := 21) dL_evaluate_9 (by decide) ?_
  refine J_iconst (x := 0) dL_evaluate_21 (by decide) ?_
  exact J_iret (ty := .int) dL_evaluate_22 rfl (rfl) (by exact ⟨K, hB, hF, Or.inl ⟨rfl, x9, he.symm, rfl⟩⟩)

theorem dL_put_0 : decode cL_put 0 = .ok (.aload 4, 2) := by decide +kernel
theorem dL_put_2 : decode cL_put 2 = .ok (.iconst 0, 1) := by decide +kernel
theorem dL_put_3 : decode cL_put 3 = .ok (.aload_n 0, 1) := by decide +kernel
theorem dL_put_4 : decode cL_put 4 = .ok (.iload_n 1, 1) := by decide +kernel
theorem dL_put_5 : decode cL_put 5 = .ok (.iload_n 2, 1) := by decide +kernel
theorem dL_put_6 : decode cL_put 6 = .ok (.iload_n 3, 1) := by decide +kernel
theorem dL_put_7 : decode cL_put 7 = .ok (.invokevirtual 28, 3) := by decide +kernel
set_option maxRecDepth 20000 in
theorem ggL_put_X7_put : GoodIn wsL_put wsX7_put := goodIn_ca (goodIn_ca (goodIn_ca (goodIn_r _ [7, 8, 9, 10, 11, 6, 12, 13, 14, 15, 16, 17, 18, 19, 20, 21, 22, 23, 24, 25, 26, 27, 28, 29, 30, 31, 32, 33, 34, 35, 36, 37, 38, 39, 40, 41, 42, 43, 44, 45, 46, 47, 48, 49, 50, 51, 52, 53, 54, 55, 56, 57, 58, 59, 60, 61, 62, 63, 64, 65, 66, 67, 68, 69, 70, 71, 72, 73, 74, 75, 76, 77, 78, 79, 80, 81, 82, 83, 84, 85, 86, 87] (by decide +kernel) (by decide +kernel)) (goodIn_sub (fun _ h => List.mem_cons_of_mem _ (List.mem_append_left _ (List.mem_append_right _ h))) (by decide +kernel))) (goodIn_sub (fun _ h => List.mem_cons_of_mem _ (List.mem_append_right _ h)) (by decide +kernel))) (goodIn_sub (fun _ h => List.mem_cons_of_mem _ (List.mem_append_left _ (List.mem_append_left _ (List.mem_append_right _ h)))) (by decide +kernel))
set_option maxRecDepth 20000 in
theorem gL_put_X7_put : GoodIn wsL_put (wsV RL 28 RX7 yX7_put wsX7_put) := goodIn_app (goodIn_of _ (by decide +kernel)) ggL_put_X7_put
theorem yY_X7_put : jY yX7_put wsX7_put cX7_put 4 (some .int) 3 := ⟨⟨_, rfl⟩, by decide +kernel, by decide +kernel, by decide +kernel⟩
theorem dL_put_15 : decode cL_put 15 = .ok (.astore 5, 2) := by decide +kernel
theorem dL_put_17 : decode cL_put 17 = .ok (.iconst 1, 1) := by decide +kernel
theorem dL_put_18 : decode cL_put 18 = .ok (.ireturn, 1) := by decide +kernel
theorem dL_put_19 : decode cL_put 19 = .ok (.astore 5, 2) := by decide +kernel
theorem dL_put_21 : decode cL_put 21 = .ok (.iconst 2, 1) := by decide +kernel
theorem dL_put_22 : decode cL_put 22 = .ok (.ireturn, 1) := by decide +kernel
theorem dL_put_10 : decode cL_put 10 = .ok (.i2l, 1) := by decide +kernel
theorem dL_put_11 : decode cL_put 11 = .ok (.lastore, 1) := by decide +kernel
theorem dL_put_12 : decode cL_put 12 = .ok (.goto 11, 3) := by decide +kernel
theorem dL_put_23 : decode cL_put 23 = .ok (.iconst 0, 1) := by decide +kernel
theorem dL_put_24 : decode cL_put 24 = .ok (.ireturn, 1) := by decide +kernel
set_option maxHeartbeats 400000 in
set_option maxRecDepth 20000 in
theorem ct_L_put (l : Launch) (D : va_G) (dA : Nat → ClassId) (hst : l.stackTraces = false) (M : jM) (v : Nat) (A : cA) (hA : jAb M v A) (x : Int32) (y : Int32) (z : Int32) (s : Nat) (hs : s < jn M) (hks : jk M s = 25) (hzs : jz M s = 1) : jCT l D dA yL_put wsL_put (30) (900) (8) (60) 1 [.ref (v), .int (x), .int (y), .int (z), .ref (s)] M (lPr M v ((sPut A x y z).2) (sPut A x y z).1 [xIOOBE, xIAE] (lgI s)) := by
  refine jBodyH (cc := cL_put) (nL := 6) (rt := (some .int)) (ini := false) (by decide) rfl hst (Nat.le_of_ble_eq_true rfl) (by simp [Value.category]) (by intro h9; first | exact absurd h9 (by decide) | rfl) ?_
  show J l D dA RL cL_put wsL_put 6 false (some .int) [(0, 12, 15, 19), (0, 12, 19, 21)] (30) (900) (jF D dA (jn M) (lPr M v ((sPut A x y z).2) (sPut A x y z).1 [xIOOBE, xIAE] (lgI s)) 1) (jn M) (8) (60) (M) 0 [.ref (v), .int (x), .int (y), .int (z), .ref (s), .float 0] []
  refine J_aload (s) dL_put_0 rfl ?_
  refine J_iconst (x := 0) dL_put_2 (by decide) ?_
  refine J_aload_n (v) dL_put_3 rfl rfl ?_
  refine J_iload_n dL_put_4 rfl rfl ?_
  refine J_iload_n dL_put_5 rfl rfl ?_
  refine J_iload_n dL_put_6 rfl rfl ?_
  refine J_calli (jrunV (As := [.int (x), .int (y), .int (z)]) (ct_X7_put l D dA hst M v A hA x y z) dL_put_7 yY_X7_put gL_put_X7_put rfl cs10 (show v < jn M from Nat.lt_of_lt_of_le (Nat.lt_add_of_pos_right (by decide)) hA.1.1) hA.1.2.1 rfl ⟨by omega, by omega⟩ ⟨by omega, by omega⟩ rfl (Nat.le_of_ble_eq_true rfl)) ⟨by omega, by omega⟩ (Or.inr ⟨(jOk.ref (show v < jn M from Nat.lt_of_lt_of_le (Nat.lt_add_of_pos_right (by decide)) hA.1.1) (jOk.int (jOk.int (jOk.int (jOk.ref hs (jOk.float jOk.nil)))))), (jOk.int (jOk.ref hs jOk.nil))⟩) (fun E K hp hle => ?_) (fun x9 K hp hle => ?_)
  · obtain ⟨he, hB, hF⟩ := hp
    have hm := lIn_put E he.symm
    rcases List.mem_cons.mp hm with rfl | hm
    · refine JX_catch (name := "java/lang/IndexOutOfBoundsException") [] (0, 12, 15, 19) [(0, 12, 19, 21)] rfl (fun _ h => absurd h List.not_mem_nil) (by decide) (by decide) (List.mem_of_getElem? (i := 1) rfl) lca_xIOOBE dL_put_15 (by decide) rfl (lv' := [.ref (v), .int (x), .int (y), .int (z), .ref (s), .float 0]) rfl ?_
      refine J_iconst (x := 1) dL_put_17 (by decide) ?_
      exact J_iret (ty := .int) dL_put_18 rfl (rfl) (by exact ⟨K, hB, hF, Or.inr ⟨0, _, rfl, by decide, he.symm, rfl, rfl⟩⟩)
    rcases List.mem_cons.mp hm with rfl | hm
    · refine JX_catch (name := "java/lang/IllegalArgumentException") [(0, 12, 15, 19)] (0, 12, 19, 21) [] rfl (List.forall_mem_cons.mpr ⟨⟨by decide, "java/lang/IndexOutOfBoundsException", (List.mem_of_getElem? (i := 1) rfl), lnc_xIAE_xIOOBE⟩, fun _ h => absurd h List.not_mem_nil⟩) (by decide) (by decide) (List.mem_of_getElem? (i := 2) rfl) lca_xIAE dL_put_19 (by decide) rfl (lv' := [.ref (v), .int (x), .int (y), .int (z), .ref (s), .float 0]) rfl ?_
      refine J_iconst (x := 2) dL_put_21 (by decide) ?_
      exact J_iret (ty := .int) dL_put_22 rfl (rfl) (by exact ⟨K, hB, hF, Or.inr ⟨1, _, rfl, by decide, he.symm, rfl, rfl⟩⟩)
    exact absurd hm List.not_mem_nil
  obtain ⟨he, hB, hF⟩ := hp
  refine J_i2l dL_put_10 ?_
  refine J_last (i := (0)) dL_put_11 (Nat.lt_of_lt_of_le hs hle) ((hF.2.1 s hs).1.trans hks) (by rw [((hF.2.1 s hs).2.trans hzs)]; exact vpin0) ?_
  refine J_goto (tgt := 23) dL_put_12 (by decide) ?_
  refine J_iconst (x := 0) dL_put_23 (by decide) ?_
  exact J_iret (ty := .int) dL_put_24 rfl (rfl) (by exact ⟨K, hB, hF, Or.inl ⟨rfl, x9, he.symm, rfl⟩⟩)

theorem dL_clear_0 : decode cL_clear 0 = .ok (.aload_n 2, 1) := by decide +kernel
theorem dL_clear_1 : decode cL_clear 1 = .ok (.iconst 0, 1) := by decide +kernel
theorem dL_clear_2 : decode cL_clear 2 = .ok (.aload_n 0, 1) := by decide +kernel
theorem dL_clear_3 : decode cL_clear 3 = .ok (.iload_n 1, 1) := by decide +kernel
theorem dL_clear_4 : decode cL_clear 4 = .ok (.invokevirtual 32, 3) := by decide +kernel
set_option maxRecDepth 20000 in
theorem ggL_clear_X7_clear : GoodIn wsL_clear wsX7_clear := goodIn_ca (goodIn_r _ [6, 7, 8, 9, 5, 10, 11, 12, 13, 14, 15, 16, 17, 18, 19, 20, 21, 22, 23, 24, 25, 26, 27, 28, 29, 30, 31, 32, 33, 34, 35, 36, 37, 38, 39, 40, 41, 42, 43, 44, 45, 46, 47, 48, 49, 50, 51, 52, 53, 54, 55, 56, 57, 58, 59, 60, 61, 62, 63, 64, 65, 66, 67, 68, 69] (by decide +kernel) (by decide +kernel)) (goodIn_sub (fun _ h => List.mem_cons_of_mem _ (List.mem_append_right _ h)) (by decide +kernel))
set_option maxRecDepth 20000 in
theorem gL_clear_X7_clear : GoodIn wsL_clear (wsV RL 32 RX7 yX7_clear wsX7_clear) := goodIn_app (goodIn_of _ (by decide +kernel)) ggL_clear_X7_clear
theorem yY_X7_clear : jY yX7_clear wsX7_clear cX7_clear 3 (some .boolean) 1 := ⟨⟨_, rfl⟩, by decide +kernel, by decide +kernel, by decide +kernel⟩
theorem dL_clear_19 : decode cL_clear 19 = .ok (.astore_n 3, 1) := by decide +kernel
theorem dL_clear_20 : decode cL_clear 20 = .ok (.iconst 1, 1) := by decide +kernel
theorem dL_clear_21 : decode cL_clear 21 = .ok (.ireturn, 1) := by decide +kernel
theorem dL_clear_7 : decode cL_clear 7 = .ok (.ifCond .eq 7, 3) := by decide +kernel
theorem dL_clear_14 : decode cL_clear 14 = .ok (.lconst 0, 1) := by decide +kernel
theorem dL_clear_15 : decode cL_clear 15 = .ok (.lastore, 1) := by decide +kernel
theorem dL_clear_16 : decode cL_clear 16 = .ok (.goto 6, 3) := by decide +kernel
theorem dL_clear_22 : decode cL_clear 22 = .ok (.iconst 0, 1) := by decide +kernel
theorem dL_clear_23 : decode cL_clear 23 = .ok (.ireturn, 1) := by decide +kernel
theorem dL_clear_10 : decode cL_clear 10 = .ok (.lconst 1, 1) := by decide +kernel
theorem dL_clear_11 : decode cL_clear 11 = .ok (.goto 4, 3) := by decide +kernel
set_option maxHeartbeats 400000 in
set_option maxRecDepth 20000 in
theorem ct_L_clear (l : Launch) (D : va_G) (dA : Nat → ClassId) (hst : l.stackTraces = false) (M : jM) (v : Nat) (A : cA) (hA : jAb M v A) (x : Int32) (s : Nat) (hs : s < jn M) (hks : jk M s = 25) (hzs : jz M s = 1) : jCT l D dA yL_clear wsL_clear (30) (900) (6) (40) 1 [.ref (v), .int (x), .ref (s)] M (lPr M v ((sClr A x).2) (sClr A x).1 [xIOOBE] (lgZ s)) := by
  refine jBodyH (cc := cL_clear) (nL := 4) (rt := (some .int)) (ini := false) (by decide) rfl hst (Nat.le_of_ble_eq_true rfl) (by simp [Value.category]) (by intro h9; first | exact absurd h9 (by decide) | rfl) ?_
  show J l D dA RL cL_clear wsL_clear 4 false (some .int) [(0, 16, 19, 19)] (30) (900) (jF D dA (jn M) (lPr M v ((sClr A x).2) (sClr A x).1 [xIOOBE] (lgZ s)) 1) (jn M) (6) (40) (M) 0 [.ref (v), .int (x), .ref (s), .float 0] []
  refine J_aload_n (s) dL_clear_0 rfl rfl ?_
  refine J_iconst (x := 0) dL_clear_1 (by decide) ?_
  refine J_aload_n (v) dL_clear_2 rfl rfl ?_
  refine J_iload_n dL_clear_3 rfl rfl ?_
  refine J_calli (jrunV (As := [.int (x)]) (ct_X7_clear l D dA hst M v A hA x) dL_clear_4 yY_X7_clear gL_clear_X7_clear rfl cs10 (show v < jn M from Nat.lt_of_lt_of_le (Nat.lt_add_of_pos_right (by decide)) hA.1.1) hA.1.2.1 rfl ⟨by omega, by omega⟩ ⟨by omega, by omega⟩ rfl (Nat.le_of_ble_eq_true rfl)) ⟨by omega, by omega⟩ (Or.inr ⟨(jOk.ref (show v < jn M from Nat.lt_of_lt_of_le (Nat.lt_add_of_pos_right (by decide)) hA.1.1) (jOk.int (jOk.ref hs (jOk.float jOk.nil)))), (jOk.int (jOk.ref hs jOk.nil))⟩) (fun E K hp hle => ?_) (fun x9 K hp hle => ?_)
  · obtain ⟨he, hB, hF⟩ := hp
    have hm := lIn_clear E he.symm
    rcases List.mem_cons.mp hm with rfl | hm
    · refine JX_catchN (name := "java/lang/IndexOutOfBoundsException") [] (0, 16, 19, 19) [] rfl (fun _ h => absurd h List.not_mem_nil) (by decide) (by decide) (List.mem_of_getElem? (i := 1) rfl) lca_xIOOBE dL_clear_19 rfl (by decide) rfl (lv' := [.ref (v), .int (x), .ref (s), .float 0]) rfl ?_
      refine J_iconst (x := 1) dL_clear_20 (by decide) ?_
      exact J_iret (ty := .int) dL_clear_21 rfl (rfl) (by exact ⟨K, hB, hF, Or.inr ⟨0, _, rfl, by decide, he.symm, rfl, rfl⟩⟩)
    exact absurd hm List.not_mem_nil
  obtain ⟨he, hB, hF⟩ := hp
  refine J_if_eq dL_clear_7 (tgt := 14) (by decide) (fun c7 => ?_) (fun c7 => ?_)
  · refine J_lconst (x := 0) dL_clear_14 (by decide) ?_
    refine J_last (i := (0)) dL_clear_15 (Nat.lt_of_lt_of_le hs hle) ((hF.2.1 s hs).1.trans hks) (by rw [((hF.2.1 s hs).2.trans hzs)]; exact vpin0) ?_
    refine J_goto (tgt := 22) dL_clear_16 (by decide) ?_
    refine J_iconst (x := 0) dL_clear_22 (by decide) ?_
    exact J_iret (ty := .int) dL_clear_23 rfl (rfl) (by exact ⟨K, hB, hF, Or.inl ⟨rfl, x9, he.symm, by first | (rw [if_pos c7]; rfl) | (rw [if_neg c7]; rfl)⟩⟩)
  · refine J_lconst (x := 1) dL_clear_10 (by decide) ?_
    refine J_goto (tgt := 15) dL_clear_11 (by decide) ?_
    refine J_last (i := (0)) dL_clear_15 (Nat.lt_of_lt_of_le hs hle) ((hF.2.1 s hs).1.trans hks) (by rw [((hF.2.1 s hs).2.trans hzs)]; exact vpin0) ?_
    refine J_goto (tgt := 22) dL_clear_16 (by decide) ?_
    refine J_iconst (x := 0) dL_clear_22 (by decide) ?_
    exact J_iret (ty := .int) dL_clear_23 rfl (rfl) (by exact ⟨K, hB, hF, Or.inl ⟨rfl, x9, he.symm, by first | (rw [if_pos c7]; rfl) | (rw [if_neg c7]; rfl)⟩⟩)

theorem dL_copy_0 : decode cL_copy 0 = .ok (.aload_n 3, 1) := by decide +kernel
theorem dL_copy_1 : decode cL_copy 1 = .ok (.iconst 0, 1) := by decide +kernel
theorem dL_copy_2 : decode cL_copy 2 = .ok (.aload_n 0, 1) := by decide +kernel
theorem dL_copy_3 : decode cL_copy 3 = .ok (.iload_n 1, 1) := by decide +kernel
theorem dL_copy_4 : decode cL_copy 4 = .ok (.iload_n 2, 1) := by decide +kernel
theorem dL_copy_5 : decode cL_copy 5 = .ok (.invokevirtual 36, 3) := by decide +kernel
set_option maxRecDepth 20000 in
theorem ggL_copy_X7_copy : GoodIn wsL_copy wsX7_copy := goodIn_ca (goodIn_r _ [6, 7, 8, 9, 5, 10, 11, 12, 13, 14, 15, 16, 17, 18, 19, 20, 21, 22, 23, 24, 25, 26, 27, 28, 29, 30, 31, 32, 33, 34, 35, 36, 37, 38, 39, 40, 41, 42, 43, 44, 45, 46, 47, 48, 49, 50, 51, 52, 53, 54, 55, 56, 57, 58, 59, 60, 61, 62, 63, 64, 65, 66, 67, 68, 69, 70, 71, 72, 73] (by decide +kernel) (by decide +kernel)) (goodIn_sub (fun _ h => List.mem_cons_of_mem _ (List.mem_append_right _ h)) (by decide +kernel))
set_option maxRecDepth 20000 in
theorem gL_copy_X7_copy : GoodIn wsL_copy (wsV RL 36 RX7 yX7_copy wsX7_copy) := goodIn_app (goodIn_of _ (by decide +kernel)) ggL_copy_X7_copy
theorem yY_X7_copy : jY yX7_copy wsX7_copy cX7_copy 3 (some .int) 2 := ⟨⟨_, rfl⟩, by decide +kernel, by decide +kernel, by decide +kernel⟩
theorem dL_copy_13 : decode cL_copy 13 = .ok (.astore 4, 2) := by decide +kernel
theorem dL_copy_15 : decode cL_copy 15 = .ok (.iconst 1, 1) := by decide +kernel
theorem dL_copy_16 : decode cL_copy 16 = .ok (.ireturn, 1) := by decide +kernel
theorem dL_copy_8 : decode cL_copy 8 = .ok (.i2l, 1) := by decide +kernel
theorem dL_copy_9 : decode cL_copy 9 = .ok (.lastore, 1) := by decide +kernel
theorem dL_copy_10 : decode cL_copy 10 = .ok (.goto 7, 3) := by decide +kernel
theorem dL_copy_17 : decode cL_copy 17 = .ok (.iconst 0, 1) := by decide +kernel
theorem dL_copy_18 : decode cL_copy 18 = .ok (.ireturn, 1) := by decide +kernel
set_option maxHeartbeats 400000 in
set_option maxRecDepth 20000 in
theorem ct_L_copy (l : Launch) (D : va_G) (dA : Nat → ClassId) (hst : l.stackTraces = false) (M : jM) (v : Nat) (A : cA) (hA : jAb M v A) (x : Int32) (y : Int32) (s : Nat) (hs : s < jn M) (hks : jk M s = 25) (hzs : jz M s = 1) : jCT l D dA yL_copy wsL_copy (30) (900) (6) (40) 1 [.ref (v), .int (x), .int (y), .ref (s)] M (lPr M v ((sCpy A x y).2) (sCpy A x y).1 [xIOOBE] (lgI s)) := by
  refine jBodyH (cc := cL_copy) (nL := 5) (rt := (some .int)) (ini := false) (by decide) rfl hst (Nat.le_of_ble_eq_true rfl) (by simp [Value.category]) (by intro h9; first | exact absurd h9 (by decide) | rfl) ?_
  show J l D dA RL cL_copy wsL_copy 5 false (some .int) [(0, 10, 13, 19)] (30) (900) (jF D dA (jn M) (lPr M v ((sCpy A x y).2) (sCpy A x y).1 [xIOOBE] (lgI s)) 1) (jn M) (6) (40) (M) 0 [.ref (v), .int (x), .int (y), .ref (s), .float 0] []
  refine J_aload_n (s) dL_copy_0 rfl rfl ?_
  refine J_iconst (x := 0) dL_copy_1 (by decide) ?_
  refine J_aload_n (v) dL_copy_2 rfl rfl ?_
  refine J_iload_n dL_copy_3 rfl rfl ?_
  refine J_iload_n dL_copy_4 rfl rfl ?_
  refine J_calli (jrunV (As := [.int (x), .int (y)]) (ct_X7_copy l D dA hst M v A hA x y) dL_copy_5 yY_X7_copy gL_copy_X7_copy rfl cs10 (show v < jn M from Nat.lt_of_lt_of_le (Nat.lt_add_of_pos_right (by decide)) hA.1.1) hA.1.2.1 rfl ⟨by omega, by omega⟩ ⟨by omega, by omega⟩ rfl (Nat.le_of_ble_eq_true rfl)) ⟨by omega, by omega⟩ (Or.inr ⟨(jOk.ref (show v < jn M from Nat.lt_of_lt_of_le (Nat.lt_add_of_pos_right (by decide)) hA.1.1) (jOk.int (jOk.int (jOk.ref hs (jOk.float jOk.nil))))), (jOk.int (jOk.ref hs jOk.nil))⟩) (fun E K hp hle => ?_) (fun x9 K hp hle => ?_)
  · obtain ⟨he, hB, hF⟩ := hp
    have hm := lIn_copy E he.symm
    rcases List.mem_cons.mp hm with rfl | hm
    · refine JX_catch (name := "java/lang/IndexOutOfBoundsException") [] (0, 10, 13, 19) [] rfl (fun _ h => absurd h List.not_mem_nil) (by decide) (by decide) (List.mem_of_getElem? (i := 1) rfl) lca_xIOOBE dL_copy_13 (by decide) rfl (lv' := [.ref (v), .int (x), .int (y), .ref (s), .float 0]) rfl ?_
      refine J_iconst (x := 1) dL_copy_15 (by decide) ?_
      exact J_iret (ty := .int) dL_copy_16 rfl (rfl) (by exact ⟨K, hB, hF, Or.inr ⟨0, _, rfl, by decide, he.symm, rfl, rfl⟩⟩)
    exact absurd hm List.not_mem_nil
  obtain ⟨he, hB, hF⟩ := hp
  refine J_i2l dL_copy_8 ?_
  refine J_last (i := (0)) dL_copy_9 (Nat.lt_of_lt_of_le hs hle) ((hF.2.1 s hs).1.trans hks) (by rw [((hF.2.1 s hs).2.trans hzs)]; exact vpin0) ?_
  refine J_goto (tgt := 17) dL_copy_10 (by decide) ?_
  refine J_iconst (x := 0) dL_copy_17 (by decide) ?_
  exact J_iret (ty := .int) dL_copy_18 rfl (rfl) (by exact ⟨K, hB, hF, Or.inl ⟨rfl, x9, he.symm, rfl⟩⟩)

theorem dL_spans_0 : decode cL_spans 0 = .ok (.aload_n 2, 1) := by decide +kernel
theorem dL_spans_1 : decode cL_spans 1 = .ok (.iconst 0, 1) := by decide +kernel
theorem dL_spans_2 : decode cL_spans 2 = .ok (.aload_n 0, 1) := by decide +kernel
theorem dL_spans_3 : decode cL_spans 3 = .ok (.iload_n 1, 1) := by decide +kernel
theorem dL_spans_4 : decode cL_spans 4 = .ok (.invokevirtual 40, 3) := by decide +kernel
set_option maxRecDepth 20000 in
theorem ggL_spans_X7_spans : GoodIn wsL_spans wsX7_spans := goodIn_ca (goodIn_ca (goodIn_r _ [7, 8, 9, 10, 6, 11, 12, 13, 14, 15, 16, 17, 18, 19, 20, 21, 22, 23, 24, 25, 26, 27, 28, 29, 30, 31, 32, 33, 34, 35, 36, 37, 38, 39, 40, 41, 42, 43, 44, 45] (by decide +kernel) (by decide +kernel)) (goodIn_sub (fun _ h => List.mem_cons_of_mem _ (List.mem_append_left _ (List.mem_append_right _ h))) (by decide +kernel))) (goodIn_sub (fun _ h => List.mem_cons_of_mem _ (List.mem_append_right _ h)) (by decide +kernel))
set_option maxRecDepth 20000 in
theorem gL_spans_X7_spans : GoodIn wsL_spans (wsV RL 40 RX7 yX7_spans wsX7_spans) := goodIn_app (goodIn_of _ (by decide +kernel)) ggL_spans_X7_spans
theorem yY_X7_spans : jY yX7_spans wsX7_spans cX7_spans 2 (some .int) 1 := ⟨⟨_, rfl⟩, by decide +kernel, by decide +kernel, by decide +kernel⟩
theorem dL_spans_12 : decode cL_spans 12 = .ok (.astore_n 3, 1) := by decide +kernel
theorem dL_spans_13 : decode cL_spans 13 = .ok (.iconst 1, 1) := by decide +kernel
theorem dL_spans_14 : decode cL_spans 14 = .ok (.ireturn, 1) := by decide +kernel
theorem dL_spans_15 : decode cL_spans 15 = .ok (.astore_n 3, 1) := by decide +kernel
theorem dL_spans_16 : decode cL_spans 16 = .ok (.iconst 2, 1) := by decide +kernel
theorem dL_spans_17 : decode cL_spans 17 = .ok (.ireturn, 1) := by decide +kernel
theorem dL_spans_7 : decode cL_spans 7 = .ok (.i2l, 1) := by decide +kernel
theorem dL_spans_8 : decode cL_spans 8 = .ok (.lastore, 1) := by decide +kernel
theorem dL_spans_9 : decode cL_spans 9 = .ok (.goto 9, 3) := by decide +kernel
theorem dL_spans_18 : decode cL_spans 18 = .ok (.iconst 0, 1) := by decide +kernel
theorem dL_spans_19 : decode cL_spans 19 = .ok (.ireturn, 1) := by decide +kernel
set_option maxHeartbeats 400000 in
set_option maxRecDepth 20000 in
theorem ct_L_spans (l : Launch) (D : va_G) (dA : Nat → ClassId) (hst : l.stackTraces = false) (M : jM) (v : Nat) (A : cA) (hA : jAb M v A) (x : Int32) (s : Nat) (hs : s < jn M) (hks : jk M s = 25) (hzs : jz M s = 1) : jCT l D dA yL_spans wsL_spans (30) (900) (6) (40) 1 [.ref (v), .int (x), .ref (s)] M (lPr M v (A) (oSl x (oRn A x (fun w => oI (nI w.1)))) [xIOOBE, xNSE] (lgI s)) := by
  refine jBodyH (cc := cL_spans) (nL := 4) (rt := (some .int)) (ini := false) (by decide) rfl hst (Nat.le_of_ble_eq_true rfl) (by simp [Value.category]) (by intro h9; first | exact absurd h9 (by decide) | rfl) ?_
  show J l D dA RL cL_spans wsL_spans 4 false (some .int) [(0, 9, 12, 19), (0, 9, 15, 43)] (30) (900) (jF D dA (jn M) (lPr M v (A) (oSl x (oRn A x (fun w => oI (nI w.1)))) [xIOOBE, xNSE] (lgI s)) 1) (jn M) (6) (40) (M) 0 [.ref (v), .int (x), .ref (s), .float 0] []
  refine J_aload_n (s) dL_spans_0 rfl rfl ?_
  refine J_iconst (x := 0) dL_spans_1 (by decide) ?_
  refine J_aload_n (v) dL_spans_2 rfl rfl ?_
  refine J_iload_n dL_spans_3 rfl rfl ?_
  refine J_calli (jrunV (As := [.int (x)]) (ct_X7_spans l D dA hst M v A hA x) dL_spans_4 yY_X7_spans gL_spans_X7_spans rfl cs10 (show v < jn M from Nat.lt_of_lt_of_le (Nat.lt_add_of_pos_right (by decide)) hA.1.1) hA.1.2.1 rfl ⟨by omega, by omega⟩ ⟨by omega, by omega⟩ rfl (Nat.le_of_ble_eq_true rfl)) ⟨by omega, by omega⟩ (Or.inr ⟨(jOk.ref (show v < jn M from Nat.lt_of_lt_of_le (Nat.lt_add_of_pos_right (by decide)) hA.1.1) (jOk.int (jOk.ref hs (jOk.float jOk.nil)))), (jOk.int (jOk.ref hs jOk.nil))⟩) (fun E K hp hle => ?_) (fun x9 K hp hle => ?_)
  · obtain ⟨he, hKM⟩ := hp
    have hB : jAb K v A := by rw [hKM]; exact hA
    have hF : jFv v M K := by rw [hKM]; exact jFv.rf
    have hm := lIn_spans E he.symm
    rcases List.mem_cons.mp hm with rfl | hm
    · refine JX_catchN (name := "java/lang/IndexOutOfBoundsException") [] (0, 9, 12, 19) [(0, 9, 15, 43)] rfl (fun _ h => absurd h List.not_mem_nil) (by decide) (by decide) (List.mem_of_getElem? (i := 1) rfl) lca_xIOOBE dL_spans_12 rfl (by decide) rfl (lv' := [.ref (v), .int (x), .ref (s), .float 0]) rfl ?_
      refine J_iconst (x := 1) dL_spans_13 (by decide) ?_
      exact J_iret (ty := .int) dL_spans_14 rfl (rfl) (by exact ⟨K, hB, hF, Or.inr ⟨0, _, rfl, by decide, he.symm, rfl, rfl⟩⟩)
    rcases List.mem_cons.mp hm with rfl | hm
    · refine JX_catchN (name := "java/util/NoSuchElementException") [(0, 9, 12, 19)] (0, 9, 15, 43) [] rfl (List.forall_mem_cons.mpr ⟨⟨by decide, "java/lang/IndexOutOfBoundsException", (List.mem_of_getElem? (i := 1) rfl), lnc_xNSE_xIOOBE⟩, fun _ h => absurd h List.not_mem_nil⟩) (by decide) (by decide) (List.mem_of_getElem? (i := 2) rfl) lca_xNSE dL_spans_15 rfl (by decide) rfl (lv' := [.ref (v), .int (x), .ref (s), .float 0]) rfl ?_
      refine J_iconst (x := 2) dL_spans_16 (by decide) ?_
      exact J_iret (ty := .int) dL_spans_17 rfl (rfl) (by exact ⟨K, hB, hF, Or.inr ⟨1, _, rfl, by decide, he.symm, rfl, rfl⟩⟩)
    exact absurd hm List.not_mem_nil
  obtain ⟨he, hKM⟩ := hp
  have hB : jAb K v A := by rw [hKM]; exact hA
  have hF : jFv v M K := by rw [hKM]; exact jFv.rf
  refine J_i2l dL_spans_7 ?_
  refine J_last (i := (0)) dL_spans_8 (Nat.lt_of_lt_of_le hs hle) ((hF.2.1 s hs).1.trans hks) (by rw [((hF.2.1 s hs).2.trans hzs)]; exact vpin0) ?_
  refine J_goto (tgt := 18) dL_spans_9 (by decide) ?_
  refine J_iconst (x := 0) dL_spans_18 (by decide) ?_
  exact J_iret (ty := .int) dL_spans_19 rfl (rfl) (by exact ⟨K, hB, hF, Or.inl ⟨rfl, x9, he.symm, rfl⟩⟩)

theorem dL_end_0 : decode cL_end 0 = .ok (.aload 4, 2) := by decide +kernel
theorem dL_end_2 : decode cL_end 2 = .ok (.iconst 0, 1) := by decide +kernel
theorem dL_end_3 : decode cL_end 3 = .ok (.aload_n 0, 1) := by decide +kernel
theorem dL_end_4 : decode cL_end 4 = .ok (.iload_n 1, 1) := by decide +kernel
theorem dL_end_5 : decode cL_end 5 = .ok (.iload_n 2, 1) := by decide +kernel
theorem dL_end_6 : decode cL_end 6 = .ok (.iload_n 3, 1) := by decide +kernel
theorem dL_end_7 : decode cL_end 7 = .ok (.invokevirtual 45, 3) := by decide +kernel
set_option maxRecDepth 20000 in
theorem ggL_end_X7_end : GoodIn wsL_end wsX7_end := goodIn_ca (goodIn_ca (goodIn_ca (goodIn_r _ [7, 8, 9, 10, 11, 12, 6, 13, 14, 15, 16, 17, 18, 19, 20, 21, 22, 23, 24, 25, 26, 27, 28, 29, 30, 31, 32, 33, 34, 35, 36, 37, 38, 39, 40, 41, 42, 43, 44, 45, 46, 47, 48, 49, 50, 51, 52, 53, 54] (by decide +kernel) (by decide +kernel)) (goodIn_sub (fun _ h => List.mem_cons_of_mem _ (List.mem_append_left _ (List.mem_append_right _ h))) (by decide +kernel))) (goodIn_sub (fun _ h => List.mem_cons_of_mem _ (List.mem_append_right _ h)) (by decide +kernel))) (goodIn_sub (fun _ h => List.mem_cons_of_mem _ (List.mem_append_left _ (List.mem_append_left _ (List.mem_append_right _ h)))) (by decide +kernel))
set_option maxRecDepth 20000 in
theorem gL_end_X7_end : GoodIn wsL_end (wsV RL 45 RX7 yX7_end wsX7_end) := goodIn_app (goodIn_of _ (by decide +kernel)) ggL_end_X7_end
theorem yY_X7_end : jY yX7_end wsX7_end cX7_end 5 (some .int) 3 := ⟨⟨_, rfl⟩, by decide +kernel, by decide +kernel, by decide +kernel⟩
theorem dL_end_15 : decode cL_end 15 = .ok (.astore 5, 2) := by decide +kernel
theorem dL_end_17 : decode cL_end 17 = .ok (.iconst 1, 1) := by decide +kernel
theorem dL_end_18 : decode cL_end 18 = .ok (.ireturn, 1) := by decide +kernel
theorem dL_end_19 : decode cL_end 19 = .ok (.astore 5, 2) := by decide +kernel
theorem dL_end_21 : decode cL_end 21 = .ok (.iconst 2, 1) := by decide +kernel
theorem dL_end_22 : decode cL_end 22 = .ok (.ireturn, 1) := by decide +kernel
theorem dL_end_10 : decode cL_end 10 = .ok (.i2l, 1) := by decide +kernel
theorem dL_end_11 : decode cL_end 11 = .ok (.lastore, 1) := by decide +kernel
theorem dL_end_12 : decode cL_end 12 = .ok (.goto 11, 3) := by decide +kernel
theorem dL_end_23 : decode cL_end 23 = .ok (.iconst 0, 1) := by decide +kernel
theorem dL_end_24 : decode cL_end 24 = .ok (.ireturn, 1) := by decide +kernel
set_option maxHeartbeats 400000 in
set_option maxRecDepth 20000 in
theorem ct_L_end (l : Launch) (D : va_G) (dA : Nat → ClassId) (hst : l.stackTraces = false) (M : jM) (v : Nat) (A : cA) (hA : jAb M v A) (x : Int32) (y : Int32) (b : Bool) (s : Nat) (hs : s < jn M) (hks : jk M s = 25) (hzs : jz M s = 1) : jCT l D dA yL_end wsL_end (30) (900) (6) (40) 1 [.ref (v), .int (x), .int (y), .int (jb (b)), .ref (s)] M (lPr M v (A) (oSl x (oRn A x (fun w => oEnd w y b))) [xIOOBE, xNSE] (lgI s)) := by
  refine jBodyH (cc := cL_end) (nL := 6) (rt := (some .int)) (ini := false) (by decide) rfl hst (Nat.le_of_ble_eq_true rfl) (by simp [Value.category]) (by intro h9; first | exact absurd h9 (by decide) | rfl) ?_
  show J l D dA RL cL_end wsL_end 6 false (some .int) [(0, 12, 15, 19), (0, 12, 19, 43)] (30) (900) (jF D dA (jn M) (lPr M v (A) (oSl x (oRn A x (fun w => oEnd w y b))) [xIOOBE, xNSE] (lgI s)) 1) (jn M) (6) (40) (M) 0 [.ref (v), .int (x), .int (y), .int (jb (b)), .ref (s), .float 0] []
  refine J_aload (s) dL_end_0 rfl ?_
  refine J_iconst (x := 0) dL_end_2 (by decide) ?_
  refine J_aload_n (v) dL_end_3 rfl rfl ?_
  refine J_iload_n dL_end_4 rfl rfl ?_
  refine J_iload_n dL_end_5 rfl rfl ?_
  refine J_iload_n dL_end_6 rfl rfl ?_
  refine J_calli (jrunV (As := [.int (x), .int (y), .int (jb (b))]) (ct_X7_end l D dA hst M v A hA x y b) dL_end_7 yY_X7_end gL_end_X7_end rfl cs10 (show v < jn M from Nat.lt_of_lt_of_le (Nat.lt_add_of_pos_right (by decide)) hA.1.1) hA.1.2.1 rfl ⟨by omega, by omega⟩ ⟨by omega, by omega⟩ rfl (Nat.le_of_ble_eq_true rfl)) ⟨by omega, by omega⟩ (Or.inr ⟨(jOk.ref (show v < jn M from Nat.lt_of_lt_of_le (Nat.lt_add_of_pos_right (by decide)) hA.1.1) (jOk.int (jOk.int (jOk.int (jOk.ref hs (jOk.float jOk.nil)))))), (jOk.int (jOk.ref hs jOk.nil))⟩) (fun E K hp hle => ?_) (fun x9 K hp hle => ?_)
  · obtain ⟨he, hKM⟩ := hp
    have hB : jAb K v A := by rw [hKM]; exact hA
    have hF : jFv v M K := by rw [hKM]; exact jFv.rf
    have hm := lIn_end E he.symm
    rcases List.mem_cons.mp hm with rfl | hm
    · refine JX_catch (name := "java/lang/IndexOutOfBoundsException") [] (0, 12, 15, 19) [(0, 12, 19, 43)] rfl (fun _ h => absurd h List.not_mem_nil) (by decide) (by decide) (List.mem_of_getElem? (i := 1) rfl) lca_xIOOBE dL_end_15 (by decide) rfl (lv' := [.ref (v), .int (x), .int (y), .int (jb (b)), .ref (s), .float 0]) rfl ?_
      refine J_iconst (x := 1) dL_end_17 (by decide) ?_
      exact J_iret (ty := .int) dL_end_18 rfl (rfl) (by exact ⟨K, hB, hF, Or.inr ⟨0, _, rfl, by decide, he.symm, rfl, rfl⟩⟩)
    rcases List.mem_cons.mp hm with rfl | hm
    · refine JX_catch (name := "java/util/NoSuchElementException") [(0, 12, 15, 19)] (0, 12, 19, 43) [] rfl (List.forall_mem_cons.mpr ⟨⟨by decide, "java/lang/IndexOutOfBoundsException", (List.mem_of_getElem? (i := 1) rfl), lnc_xNSE_xIOOBE⟩, fun _ h => absurd h List.not_mem_nil⟩) (by decide) (by decide) (List.mem_of_getElem? (i := 2) rfl) lca_xNSE dL_end_19 (by decide) rfl (lv' := [.ref (v), .int (x), .int (y), .int (jb (b)), .ref (s), .float 0]) rfl ?_
      refine J_iconst (x := 2) dL_end_21 (by decide) ?_
      exact J_iret (ty := .int) dL_end_22 rfl (rfl) (by exact ⟨K, hB, hF, Or.inr ⟨1, _, rfl, by decide, he.symm, rfl, rfl⟩⟩)
    exact absurd hm List.not_mem_nil
  obtain ⟨he, hKM⟩ := hp
  have hB : jAb K v A := by rw [hKM]; exact hA
  have hF : jFv v M K := by rw [hKM]; exact jFv.rf
  refine J_i2l dL_end_10 ?_
  refine J_last (i := (0)) dL_end_11 (Nat.lt_of_lt_of_le hs hle) ((hF.2.1 s hs).1.trans hks) (by rw [((hF.2.1 s hs).2.trans hzs)]; exact vpin0) ?_
  refine J_goto (tgt := 23) dL_end_12 (by decide) ?_
  refine J_iconst (x := 0) dL_end_23 (by decide) ?_
  exact J_iret (ty := .int) dL_end_24 rfl (rfl) (by exact ⟨K, hB, hF, Or.inl ⟨rfl, x9, he.symm, rfl⟩⟩)

theorem dL_size_0 : decode cL_size 0 = .ok (.aload_n 2, 1) := by decide +kernel
theorem dL_size_1 : decode cL_size 1 = .ok (.iconst 0, 1) := by decide +kernel
theorem dL_size_2 : decode cL_size 2 = .ok (.aload_n 0, 1) := by decide +kernel
theorem dL_size_3 : decode cL_size 3 = .ok (.iload_n 1, 1) := by decide +kernel
theorem dL_size_4 : decode cL_size 4 = .ok (.invokevirtual 49, 3) := by decide +kernel
set_option maxRecDepth 20000 in
theorem ggL_size_X7_size : GoodIn wsL_size wsX7_size := goodIn_ca (goodIn_ca (goodIn_ca (goodIn_r _ [7, 8, 9, 10, 6, 11, 12, 13, 14, 15, 16, 17, 18, 19, 20, 21, 22, 23, 24, 25, 26, 27, 28, 29, 30, 31, 32, 33, 34, 35, 36, 37, 38, 39, 40, 41, 42, 43, 44, 45, 46, 47, 48, 49, 50, 51, 52, 53, 54, 55, 56, 57] (by decide +kernel) (by decide +kernel)) (goodIn_sub (fun _ h => List.mem_cons_of_mem _ (List.mem_append_left _ (List.mem_append_right _ h))) (by decide +kernel))) (goodIn_sub (fun _ h => List.mem_cons_of_mem _ (List.mem_append_right _ h)) (by decide +kernel))) (goodIn_sub (fun _ h => List.mem_cons_of_mem _ (List.mem_append_left _ (List.mem_append_left _ (List.mem_append_right _ h)))) (by decide +kernel))
set_option maxRecDepth 20000 in
theorem gL_size_X7_size : GoodIn wsL_size (wsV RL 49 RX7 yX7_size wsX7_size) := goodIn_app (goodIn_of _ (by decide +kernel)) ggL_size_X7_size
theorem yY_X7_size : jY yX7_size wsX7_size cX7_size 2 (some .int) 1 := ⟨⟨_, rfl⟩, by decide +kernel, by decide +kernel, by decide +kernel⟩
theorem dL_size_12 : decode cL_size 12 = .ok (.astore_n 3, 1) := by decide +kernel
theorem dL_size_13 : decode cL_size 13 = .ok (.iconst 1, 1) := by decide +kernel
theorem dL_size_14 : decode cL_size 14 = .ok (.ireturn, 1) := by decide +kernel
theorem dL_size_15 : decode cL_size 15 = .ok (.astore_n 3, 1) := by decide +kernel
theorem dL_size_16 : decode cL_size 16 = .ok (.iconst 2, 1) := by decide +kernel
theorem dL_size_17 : decode cL_size 17 = .ok (.ireturn, 1) := by decide +kernel
theorem dL_size_7 : decode cL_size 7 = .ok (.i2l, 1) := by decide +kernel
theorem dL_size_8 : decode cL_size 8 = .ok (.lastore, 1) := by decide +kernel
theorem dL_size_9 : decode cL_size 9 = .ok (.goto 9, 3) := by decide +kernel
theorem dL_size_18 : decode cL_size 18 = .ok (.iconst 0, 1) := by decide +kernel
theorem dL_size_19 : decode cL_size 19 = .ok (.ireturn, 1) := by decide +kernel
set_option maxHeartbeats 400000 in
set_option maxRecDepth 20000 in
theorem ct_L_size (l : Launch) (D : va_G) (dA : Nat → ClassId) (hst : l.stackTraces = false) (M : jM) (v : Nat) (A : cA) (hA : jAb M v A) (x : Int32) (s : Nat) (hs : s < jn M) (hks : jk M s = 25) (hzs : jz M s = 1) : jCT l D dA yL_size wsL_size (30) (900) (6) (40) 1 [.ref (v), .int (x), .ref (s)] M (lPr M v (A) (oSl x (oRn A x (fun w => oI (rSize w.2 w.1 w.1)))) [xIOOBE, xNSE] (lgI s)) := by
  refine jBodyH (cc := cL_size) (nL := 4) (rt := (some .int)) (ini := false) (by decide) rfl hst (Nat.le_of_ble_eq_true rfl) (by simp [Value.category]) (by intro h9; first | exact absurd h9 (by decide) | rfl) ?_
  show J l D dA RL cL_size wsL_size 4 false (some .int) [(0, 9, 12, 19), (0, 9, 15, 43)] (30) (900) (jF D dA (jn M) (lPr M v (A) (oSl x (oRn A x (fun w => oI (rSize w.2 w.1 w.1)))) [xIOOBE, xNSE] (lgI s)) 1) (jn M) (6) (40) (M) 0 [.ref (v), .int (x), .ref (s), .float 0] []
  refine J_aload_n (s) dL_size_0 rfl rfl ?_
  refine J_iconst (x := 0) dL_size_1 (by decide) ?_
  refine J_aload_n (v) dL_size_2 rfl rfl ?_
  refine J_iload_n dL_size_3 rfl rfl ?_
  refine J_calli (jrunV (As := [.int (x)]) (ct_X7_size l D dA hst M v A hA x) dL_size_4 yY_X7_size gL_size_X7_size rfl cs10 (show v < jn M from Nat.lt_of_lt_of_le (Nat.lt_add_of_pos_right (by decide)) hA.1.1) hA.1.2.1 rfl ⟨by omega, by omega⟩ ⟨by omega, by omega⟩ rfl (Nat.le_of_ble_eq_true rfl)) ⟨by omega, by omega⟩ (Or.inr ⟨(jOk.ref (show v < jn M from Nat.lt_of_lt_of_le (Nat.lt_add_of_pos_right (by decide)) hA.1.1) (jOk.int (jOk.ref hs (jOk.float jOk.nil)))), (jOk.int (jOk.ref hs jOk.nil))⟩) (fun E K hp hle => ?_) (fun x9 K hp hle => ?_)
  · obtain ⟨he, hKM⟩ := hp
    have hB : jAb K v A := by rw [hKM]; exact hA
    have hF : jFv v M K := by rw [hKM]; exact jFv.rf
    have hm := lIn_size E he.symm
    rcases List.mem_cons.mp hm with rfl | hm
    · refine JX_catchN (name := "java/lang/IndexOutOfBoundsException") [] (0, 9, 12, 19) [(0, 9, 15, 43)] rfl (fun _ h => absurd h List.not_mem_nil) (by decide) (by decide) (List.mem_of_getElem? (i := 1) rfl) lca_xIOOBE dL_size_12 rfl (by decide) rfl (lv' := [.ref (v), .int (x), .ref (s), .float 0]) rfl ?_
      refine J_iconst (x := 1) dL_size_13 (by decide) ?_
      exact J_iret (ty := .int) dL_size_14 rfl (rfl) (by exact ⟨K, hB, hF, Or.inr ⟨0, _, rfl, by decide, he.symm, rfl, rfl⟩⟩)
    rcases List.mem_cons.mp hm with rfl | hm
    · refine JX_catchN (name := "java/util/NoSuchElementException") [(0, 9, 12, 19)] (0, 9, 15, 43) [] rfl (List.forall_mem_cons.mpr ⟨⟨by decide, "java/lang/IndexOutOfBoundsException", (List.mem_of_getElem? (i := 1) rfl), lnc_xNSE_xIOOBE⟩, fun _ h => absurd h List.not_mem_nil⟩) (by decide) (by decide) (List.mem_of_getElem? (i := 2) rfl) lca_xNSE dL_size_15 rfl (by decide) rfl (lv' := [.ref (v), .int (x), .ref (s), .float 0]) rfl ?_
      refine J_iconst (x := 2) dL_size_16 (by decide) ?_
      exact J_iret (ty := .int) dL_size_17 rfl (rfl) (by exact ⟨K, hB, hF, Or.inr ⟨1, _, rfl, by decide, he.symm, rfl, rfl⟩⟩)
    exact absurd hm List.not_mem_nil
  obtain ⟨he, hKM⟩ := hp
  have hB : jAb K v A := by rw [hKM]; exact hA
  have hF : jFv v M K := by rw [hKM]; exact jFv.rf
  refine J_i2l dL_size_7 ?_
  refine J_last (i := (0)) dL_size_8 (Nat.lt_of_lt_of_le hs hle) ((hF.2.1 s hs).1.trans hks) (by rw [((hF.2.1 s hs).2.trans hzs)]; exact vpin0) ?_
  refine J_goto (tgt := 18) dL_size_9 (by decide) ?_
  refine J_iconst (x := 0) dL_size_18 (by decide) ?_
  exact J_iret (ty := .int) dL_size_19 rfl (rfl) (by exact ⟨K, hB, hF, Or.inl ⟨rfl, x9, he.symm, rfl⟩⟩)

theorem dL_contains_0 : decode cL_contains 0 = .ok (.aload 4, 2) := by decide +kernel
theorem dL_contains_2 : decode cL_contains 2 = .ok (.iconst 0, 1) := by decide +kernel
theorem dL_contains_3 : decode cL_contains 3 = .ok (.aload_n 0, 1) := by decide +kernel
theorem dL_contains_4 : decode cL_contains 4 = .ok (.iload_n 1, 1) := by decide +kernel
theorem dL_contains_5 : decode cL_contains 5 = .ok (.iload_n 2, 1) := by decide +kernel
theorem dL_contains_6 : decode cL_contains 6 = .ok (.iload_n 3, 1) := by decide +kernel
theorem dL_contains_7 : decode cL_contains 7 = .ok (.invokevirtual 52, 3) := by decide +kernel
set_option maxRecDepth 20000 in
theorem ggL_contains_X7_contains : GoodIn wsL_contains wsX7_contains := goodIn_ca (goodIn_ca (goodIn_ca (goodIn_ca (goodIn_r _ [8, 9, 10, 7, 11, 12, 13, 14, 15, 16, 17, 18, 19, 20, 21, 22, 23, 24, 25, 26, 27, 28, 29, 30, 31, 32, 33, 34, 35, 36, 37, 38, 39, 40, 41, 42, 43, 44, 45, 46, 47, 48, 49, 50, 51, 52, 53, 54, 55, 56, 57, 58, 59, 60, 61, 62, 63, 64, 65, 66, 67, 68, 69, 70, 71, 72, 73, 74, 75, 76, 77] (by decide +kernel) (by decide +kernel)) (goodIn_sub (fun _ h => List.mem_cons_of_mem _ (List.mem_append_left _ (List.mem_append_left _ (List.mem_append_right _ h)))) (by decide +kernel))) (goodIn_sub (fun _ h => List.mem_cons_of_mem _ (List.mem_append_left _ (List.mem_append_right _ h))) (by decide +kernel))) (goodIn_sub (fun _ h => List.mem_cons_of_mem _ (List.mem_append_right _ h)) (by decide +kernel))) (goodIn_sub (fun _ h => List.mem_cons_of_mem _ (List.mem_append_left _ (List.mem_append_left _ (List.mem_append_left _ (List.mem_append_right _ h))))) (by decide +kernel))
set_option maxRecDepth 20000 in
theorem gL_contains_X7_contains : GoodIn wsL_contains (wsV RL 52 RX7 yX7_contains wsX7_contains) := goodIn_app (goodIn_of _ (by decide +kernel)) ggL_contains_X7_contains
theorem yY_X7_contains : jY yX7_contains wsX7_contains cX7_contains 4 (some .boolean) 3 := ⟨⟨_, rfl⟩, by decide +kernel, by decide +kernel, by decide +kernel⟩
theorem dL_contains_22 : decode cL_contains 22 = .ok (.astore 5, 2) := by decide +kernel
theorem dL_contains_24 : decode cL_contains 24 = .ok (.iconst 1, 1) := by decide +kernel
theorem dL_contains_25 : decode cL_contains 25 = .ok (.ireturn, 1) := by decide +kernel
theorem dL_contains_26 : decode cL_contains 26 = .ok (.astore 5, 2) := by decide +kernel
theorem dL_contains_28 : decode cL_contains 28 = .ok (.iconst 2, 1) := by decide +kernel
theorem dL_contains_29 : decode cL_contains 29 = .ok (.ireturn, 1) := by decide +kernel
theorem dL_contains_30 : decode cL_contains 30 = .ok (.astore 5, 2) := by decide +kernel
theorem dL_contains_32 : decode cL_contains 32 = .ok (.iconst 3, 1) := by decide +kernel
theorem dL_contains_33 : decode cL_contains 33 = .ok (.ireturn, 1) := by decide +kernel
theorem dL_contains_10 : decode cL_contains 10 = .ok (.ifCond .eq 7, 3) := by decide +kernel
theorem dL_contains_17 : decode cL_contains 17 = .ok (.lconst 0, 1) := by decide +kernel
theorem dL_contains_18 : decode cL_contains 18 = .ok (.lastore, 1) := by decide +kernel
theorem dL_contains_19 : decode cL_contains 19 = .ok (.goto 15, 3) := by decide +kernel
theorem dL_contains_34 : decode cL_contains 34 = .ok (.iconst 0, 1) := by decide +kernel
theorem dL_contains_35 : decode cL_contains 35 = .ok (.ireturn, 1) := by decide +kernel
theorem dL_contains_13 : decode cL_contains 13 = .ok (.lconst 1, 1) := by decide +kernel
theorem dL_contains_14 : decode cL_contains 14 = .ok (.goto 4, 3) := by decide +kernel
set_option maxHeartbeats 400000 in
set_option maxRecDepth 20000 in
theorem ct_L_contains (l : Launch) (D : va_G) (dA : Nat → ClassId) (hst : l.stackTraces = false) (M : jM) (v : Nat) (A : cA) (hA : jAb M v A) (x : Int32) (y : Int32) (b : Bool) (s : Nat) (hs : s < jn M) (hks : jk M s = 25) (hzs : jz M s = 1) : jCT l D dA yL_contains wsL_contains (30) (900) (6) (40) 1 [.ref (v), .int (x), .int (y), .int (jb (b)), .ref (s)] M (lPr M v (A) (oSl x (oVe y (oRn A x (fun w => oI (jb (rHoldsFor w.2 w.1 b y)))))) [xIOOBE, xIAE, xNSE] (lgZ s)) := by
  refine jBodyH (cc := cL_contains) (nL := 6) (rt := (some .int)) (ini := false) (by decide) rfl hst (Nat.le_of_ble_eq_true rfl) (by simp [Value.category]) (by intro h9; first | exact absurd h9 (by decide) | rfl) ?_
  show J l D dA RL cL_contains wsL_contains 6 false (some .int) [(0, 19, 22, 19), (0, 19, 26, 21), (0, 19, 30, 43)] (30) (900) (jF D dA (jn M) (lPr M v (A) (oSl x (oVe y (oRn A x (fun w => oI (jb (rHoldsFor w.2 w.1 b y)))))) [xIOOBE, xIAE, xNSE] (lgZ s)) 1) (jn M) (6) (40) (M) 0 [.ref (v), .int (x), .int (y), .int (jb (b)), .ref (s), .float 0] []
  refine J_aload (s) dL_contains_0 rfl ?_
  refine J_iconst (x := 0) dL_contains_2 (by decide) ?_
  refine J_aload_n (v) dL_contains_3 rfl rfl ?_
  refine J_iload_n dL_contains_4 rfl rfl ?_
  refine J_iload_n dL_contains_5 rfl rfl ?_
  refine J_iload_n dL_contains_6 rfl rfl ?_
  refine J_calli (jrunV (As := [.int (x), .int (y), .int (jb (b))]) (ct_X7_contains l D dA hst M v A hA x y b) dL_contains_7 yY_X7_contains gL_contains_X7_contains rfl cs10 (show v < jn M from Nat.lt_of_lt_of_le (Nat.lt_add_of_pos_right (by decide)) hA.1.1) hA.1.2.1 rfl ⟨by omega, by omega⟩ ⟨by omega, by omega⟩ rfl (Nat.le_of_ble_eq_true rfl)) ⟨by omega, by omega⟩ (Or.inr ⟨(jOk.ref (show v < jn M from Nat.lt_of_lt_of_le (Nat.lt_add_of_pos_right (by decide)) hA.1.1) (jOk.int (jOk.int (jOk.int (jOk.ref hs (jOk.float jOk.nil)))))), (jOk.int (jOk.ref hs jOk.nil))⟩) (fun E K hp hle => ?_) (fun x9 K hp hle => ?_)
  · obtain ⟨he, hKM⟩ := hp
    have hB : jAb K v A := by rw [hKM]; exact hA
    have hF : jFv v M K := by rw [hKM]; exact jFv.rf
    have hm := lIn_contains E he.symm
    rcases List.mem_cons.mp hm with rfl | hm
    · refine JX_catch (name := "java/lang/IndexOutOfBoundsException") [] (0, 19, 22, 19) [(0, 19, 26, 21), (0, 19, 30, 43)] rfl (fun _ h => absurd h List.not_mem_nil) (by decide) (by decide) (List.mem_of_getElem? (i := 1) rfl) lca_xIOOBE dL_contains_22 (by decide) rfl (lv' := [.ref (v), .int (x), .int (y), .int (jb (b)), .ref (s), .float 0]) rfl ?_
      refine J_iconst (x := 1) dL_contains_24 (by decide) ?_
      exact J_iret (ty := .int) dL_contains_25 rfl (rfl) (by exact ⟨K, hB, hF, Or.inr ⟨0, _, rfl, by decide, he.symm, rfl, rfl⟩⟩)
    rcases List.mem_cons.mp hm with rfl | hm
    · refine JX_catch (name := "java/lang/IllegalArgumentException") [(0, 19, 22, 19)] (0, 19, 26, 21) [(0, 19, 30, 43)] rfl (List.forall_mem_cons.mpr ⟨⟨by decide, "java/lang/IndexOutOfBoundsException", (List.mem_of_getElem? (i := 1) rfl), lnc_xIAE_xIOOBE⟩, fun _ h => absurd h List.not_mem_nil⟩) (by decide) (by decide) (List.mem_of_getElem? (i := 2) rfl) lca_xIAE dL_contains_26 (by decide) rfl (lv' := [.ref (v), .int (x), .int (y), .int (jb (b)), .ref (s), .float 0]) rfl ?_
      refine J_iconst (x := 2) dL_contains_28 (by decide) ?_
      exact J_iret (ty := .int) dL_contains_29 rfl (rfl) (by exact ⟨K, hB, hF, Or.inr ⟨1, _, rfl, by decide, he.symm, rfl, rfl⟩⟩)
    rcases List.mem_cons.mp hm with rfl | hm
    · refine JX_catch (name := "java/util/NoSuchElementException") [(0, 19, 22, 19), (0, 19, 26, 21)] (0, 19, 30, 43) [] rfl (List.forall_mem_cons.mpr ⟨⟨by decide, "java/lang/IndexOutOfBoundsException", (List.mem_of_getElem? (i := 1) rfl), lnc_xNSE_xIOOBE⟩, List.forall_mem_cons.mpr ⟨⟨by decide, "java/lang/IllegalArgumentException", (List.mem_of_getElem? (i := 2) rfl), lnc_xNSE_xIAE⟩, fun _ h => absurd h List.not_mem_nil⟩⟩) (by decide) (by decide) (List.mem_of_getElem? (i := 3) rfl) lca_xNSE dL_contains_30 (by decide) rfl (lv' := [.ref (v), .int (x), .int (y), .int (jb (b)), .ref (s), .float 0]) rfl ?_
      refine J_iconst (x := 3) dL_contains_32 (by decide) ?_
      exact J_iret (ty := .int) dL_contains_33 rfl (rfl) (by exact ⟨K, hB, hF, Or.inr ⟨2, _, rfl, by decide, he.symm, rfl, rfl⟩⟩)
    exact absurd hm List.not_mem_nil
  obtain ⟨he, hKM⟩ := hp
  have hB : jAb K v A := by rw [hKM]; exact hA
  have hF : jFv v M K := by rw [hKM]; exact jFv.rf
  refine J_if_eq dL_contains_10 (tgt := 17) (by decide) (fun c10 => ?_) (fun c10 => ?_)
  · refine J_lconst (x := 0) dL_contains_17 (by decide) ?_
    refine J_last (i := (0)) dL_contains_18 (Nat.lt_of_lt_of_le hs hle) ((hF.2.1 s hs).1.trans hks) (by rw [((hF.2.1 s hs).2.trans hzs)]; exact vpin0) ?_
    refine J_goto (tgt := 34) dL_contains_19 (by decide) ?_
    refine J_iconst (x := 0) dL_contains_34 (by decide) ?_
    exact J_iret (ty := .int) dL_contains_35 rfl (rfl) (by exact ⟨K, hB, hF, Or.inl ⟨rfl, x9, he.symm, by first | (rw [if_pos c10]; rfl) | (rw [if_neg c10]; rfl)⟩⟩)
  · refine J_lconst (x := 1) dL_contains_13 (by decide) ?_
    refine J_goto (tgt := 18) dL_contains_14 (by decide) ?_
    refine J_last (i := (0)) dL_contains_18 (Nat.lt_of_lt_of_le hs hle) ((hF.2.1 s hs).1.trans hks) (by rw [((hF.2.1 s hs).2.trans hzs)]; exact vpin0) ?_
    refine J_goto (tgt := 34) dL_contains_19 (by decide) ?_
    refine J_iconst (x := 0) dL_contains_34 (by decide) ?_
    exact J_iret (ty := .int) dL_contains_35 rfl (rfl) (by exact ⟨K, hB, hF, Or.inl ⟨rfl, x9, he.symm, by first | (rw [if_pos c10]; rfl) | (rw [if_neg c10]; rfl)⟩⟩)

theorem dL_from_0 : decode cL_from 0 = .ok (.aload_n 3, 1) := by decide +kernel
theorem dL_from_1 : decode cL_from 1 = .ok (.iconst 0, 1) := by decide +kernel
theorem dL_from_2 : decode cL_from 2 = .ok (.aload_n 0, 1) := by decide +kernel
theorem dL_from_3 : decode cL_from 3 = .ok (.iload_n 1, 1) := by decide +kernel
theorem dL_from_4 : decode cL_from 4 = .ok (.iload_n 2, 1) := by decide +kernel
theorem dL_from_5 : decode cL_from 5 = .ok (.invokevirtual 56, 3) := by decide +kernel
set_option maxRecDepth 20000 in
theorem ggL_from_X7_from : GoodIn wsL_from wsX7_from := goodIn_ca (goodIn_ca (goodIn_ca (goodIn_ca (goodIn_r _ [8, 9, 10, 11, 12, 7, 13, 14, 15, 16, 17, 18, 19, 20, 21, 22, 23, 24, 25, 26, 27, 28, 29, 30, 31, 32, 33, 34, 35, 36, 37, 38, 39, 40, 41, 42, 43, 44, 45, 46, 47, 48, 49, 50, 51, 52, 53, 54, 55, 56, 57, 58, 59, 60, 61, 62, 63, 64, 65, 66, 67, 68] (by decide +kernel) (by decide +kernel)) (goodIn_sub (fun _ h => List.mem_cons_of_mem _ (List.mem_append_left _ (List.mem_append_left _ (List.mem_append_right _ h)))) (by decide +kernel))) (goodIn_sub (fun _ h => List.mem_cons_of_mem _ (List.mem_append_left _ (List.mem_append_right _ h))) (by decide +kernel))) (goodIn_sub (fun _ h => List.mem_cons_of_mem _ (List.mem_append_right _ h)) (by decide +kernel))) (goodIn_sub (fun _ h => List.mem_cons_of_mem _ (List.mem_append_left _ (List.mem_append_left _ (List.mem_append_left _ (List.mem_append_right _ h))))) (by decide +kernel))
set_option maxRecDepth 20000 in
theorem gL_from_X7_from : GoodIn wsL_from (wsV RL 56 RX7 yX7_from wsX7_from) := goodIn_app (goodIn_of _ (by decide +kernel)) ggL_from_X7_from
theorem yY_X7_from : jY yX7_from wsX7_from cX7_from 4 (some .int) 2 := ⟨⟨_, rfl⟩, by decide +kernel, by decide +kernel, by decide +kernel⟩
theorem dL_from_13 : decode cL_from 13 = .ok (.astore 4, 2) := by decide +kernel
theorem dL_from_15 : decode cL_from 15 = .ok (.iconst 1, 1) := by decide +kernel
theorem dL_from_16 : decode cL_from 16 = .ok (.ireturn, 1) := by decide +kernel
theorem dL_from_17 : decode cL_from 17 = .ok (.astore 4, 2) := by decide +kernel
theorem dL_from_19 : decode cL_from 19 = .ok (.iconst 2, 1) := by decide +kernel
theorem dL_from_20 : decode cL_from 20 = .ok (.ireturn, 1) := by decide +kernel
theorem dL_from_21 : decode cL_from 21 = .ok (.astore 4, 2) := by decide +kernel
theorem dL_from_23 : decode cL_from 23 = .ok (.iconst 3, 1) := by decide +kernel
theorem dL_from_24 : decode cL_from 24 = .ok (.ireturn, 1) := by decide +kernel
theorem dL_from_8 : decode cL_from 8 = .ok (.i2l, 1) := by decide +kernel
theorem dL_from_9 : decode cL_from 9 = .ok (.lastore, 1) := by decide +kernel
theorem dL_from_10 : decode cL_from 10 = .ok (.goto 15, 3) := by decide +kernel
theorem dL_from_25 : decode cL_from 25 = .ok (.iconst 0, 1) := by decide +kernel
theorem dL_from_26 : decode cL_from 26 = .ok (.ireturn, 1) := by decide +kernel
set_option maxHeartbeats 400000 in
set_option maxRecDepth 20000 in
theorem ct_L_from (l : Launch) (D : va_G) (dA : Nat → ClassId) (hst : l.stackTraces = false) (M : jM) (v : Nat) (A : cA) (hA : jAb M v A) (x : Int32) (y : Int32) (s : Nat) (hs : s < jn M) (hks : jk M s = 25) (hzs : jz M s = 1) : jCT l D dA yL_from wsL_from (30) (900) (6) (40) 1 [.ref (v), .int (x), .int (y), .ref (s)] M (lPr M v (A) (oSl x (oVe y (oRn A x (fun w => if rLeast w.2 w.1 y = -1 then oX xNSE else oI (rLeast w.2 w.1 y))))) [xIOOBE, xIAE, xNSE] (lgI s)) := by
  refine jBodyH (cc := cL_from) (nL := 5) (rt := (some .int)) (ini := false) (by decide) rfl hst (Nat.le_of_ble_eq_true rfl) (by simp [Value.category]) (by intro h9; first | exact absurd h9 (by decide) | rfl) ?_
  show J l D dA RL cL_from wsL_from 5 false (some .int) [(0, 10, 13, 19), (0, 10, 17, 21), (0, 10, 21, 43)] (30) (900) (jF D dA (jn M) (lPr M v (A) (oSl x (oVe y (oRn A x (fun w => if rLeast w.2 w.1 y = -1 then oX xNSE else oI (rLeast w.2 w.1 y))))) [xIOOBE, xIAE, xNSE] (lgI s)) 1) (jn M) (6) (40) (M) 0 [.ref (v), .int (x), .int (y), .ref (s), .float 0] []
  refine J_aload_n (s) dL_from_0 rfl rfl ?_
  refine J_iconst (x := 0) dL_from_1 (by decide) ?_
  refine J_aload_n (v) dL_from_2 rfl rfl ?_
  refine J_iload_n dL_from_3 rfl rfl ?_
  refine J_iload_n dL_from_4 rfl rfl ?_
  refine J_calli (jrunV (As := [.int (x), .int (y)]) (ct_X7_from l D dA hst M v A hA x y) dL_from_5 yY_X7_from gL_from_X7_from rfl cs10 (show v < jn M from Nat.lt_of_lt_of_le (Nat.lt_add_of_pos_right (by decide)) hA.1.1) hA.1.2.1 rfl ⟨by omega, by omega⟩ ⟨by omega, by omega⟩ rfl (Nat.le_of_ble_eq_true rfl)) ⟨by omega, by omega⟩ (Or.inr ⟨(jOk.ref (show v < jn M from Nat.lt_of_lt_of_le (Nat.lt_add_of_pos_right (by decide)) hA.1.1) (jOk.int (jOk.int (jOk.ref hs (jOk.float jOk.nil))))), (jOk.int (jOk.ref hs jOk.nil))⟩) (fun E K hp hle => ?_) (fun x9 K hp hle => ?_)
  · obtain ⟨he, hKM⟩ := hp
    have hB : jAb K v A := by rw [hKM]; exact hA
    have hF : jFv v M K := by rw [hKM]; exact jFv.rf
    have hm := lIn_from E he.symm
    rcases List.mem_cons.mp hm with rfl | hm
    · refine JX_catch (name := "java/lang/IndexOutOfBoundsException") [] (0, 10, 13, 19) [(0, 10, 17, 21), (0, 10, 21, 43)] rfl (fun _ h => absurd h List.not_mem_nil) (by decide) (by decide) (List.mem_of_getElem? (i := 1) rfl) lca_xIOOBE dL_from_13 (by decide) rfl (lv' := [.ref (v), .int (x), .int (y), .ref (s), .float 0]) rfl ?_
      refine J_iconst (x := 1) dL_from_15 (by decide) ?_
      exact J_iret (ty := .int) dL_from_16 rfl (rfl) (by exact ⟨K, hB, hF, Or.inr ⟨0, _, rfl, by decide, he.symm, rfl, rfl⟩⟩)
    rcases List.mem_cons.mp hm with rfl | hm
    · refine JX_catch (name := "java/lang/IllegalArgumentException") [(0, 10, 13, 19)] (0, 10, 17, 21) [(0, 10, 21, 43)] rfl (List.forall_mem_cons.mpr ⟨⟨by decide, "java/lang/IndexOutOfBoundsException", (List.mem_of_getElem? (i := 1) rfl), lnc_xIAE_xIOOBE⟩, fun _ h => absurd h List.not_mem_nil⟩) (by decide) (by decide) (List.mem_of_getElem? (i := 2) rfl) lca_xIAE dL_from_17 (by decide) rfl (lv' := [.ref (v), .int (x), .int (y), .ref (s), .float 0]) rfl ?_
      refine J_iconst (x := 2) dL_from_19 (by decide) ?_
      exact J_iret (ty := .int) dL_from_20 rfl (rfl) (by exact ⟨K, hB, hF, Or.inr ⟨1, _, rfl, by decide, he.symm, rfl, rfl⟩⟩)
    rcases List.mem_cons.mp hm with rfl | hm
    · refine JX_catch (name := "java/util/NoSuchElementException") [(0, 10, 13, 19), (0, 10, 17, 21)] (0, 10, 21, 43) [] rfl (List.forall_mem_cons.mpr ⟨⟨by decide, "java/lang/IndexOutOfBoundsException", (List.mem_of_getElem? (i := 1) rfl), lnc_xNSE_xIOOBE⟩, List.forall_mem_cons.mpr ⟨⟨by decide, "java/lang/IllegalArgumentException", (List.mem_of_getElem? (i := 2) rfl), lnc_xNSE_xIAE⟩, fun _ h => absurd h List.not_mem_nil⟩⟩) (by decide) (by decide) (List.mem_of_getElem? (i := 3) rfl) lca_xNSE dL_from_21 (by decide) rfl (lv' := [.ref (v), .int (x), .int (y), .ref (s), .float 0]) rfl ?_
      refine J_iconst (x := 3) dL_from_23 (by decide) ?_
      exact J_iret (ty := .int) dL_from_24 rfl (rfl) (by exact ⟨K, hB, hF, Or.inr ⟨2, _, rfl, by decide, he.symm, rfl, rfl⟩⟩)
    exact absurd hm List.not_mem_nil
  obtain ⟨he, hKM⟩ := hp
  have hB : jAb K v A := by rw [hKM]; exact hA
  have hF : jFv v M K := by rw [hKM]; exact jFv.rf
  refine J_i2l dL_from_8 ?_
  refine J_last (i := (0)) dL_from_9 (Nat.lt_of_lt_of_le hs hle) ((hF.2.1 s hs).1.trans hks) (by rw [((hF.2.1 s hs).2.trans hzs)]; exact vpin0) ?_
  refine J_goto (tgt := 25) dL_from_10 (by decide) ?_
  refine J_iconst (x := 0) dL_from_25 (by decide) ?_
  exact J_iret (ty := .int) dL_from_26 rfl (rfl) (by exact ⟨K, hB, hF, Or.inl ⟨rfl, x9, he.symm, rfl⟩⟩)

theorem dL_relation_0 : decode cL_relation 0 = .ok (.aload_n 3, 1) := by decide +kernel
theorem dL_relation_1 : decode cL_relation 1 = .ok (.iconst 0, 1) := by decide +kernel
theorem dL_relation_2 : decode cL_relation 2 = .ok (.aload_n 0, 1) := by decide +kernel
theorem dL_relation_3 : decode cL_relation 3 = .ok (.iload_n 1, 1) := by decide +kernel
theorem dL_relation_4 : decode cL_relation 4 = .ok (.iload_n 2, 1) := by decide +kernel
theorem dL_relation_5 : decode cL_relation 5 = .ok (.invokevirtual 59, 3) := by decide +kernel
set_option maxRecDepth 20000 in
theorem ggL_relation_X7_relation : GoodIn wsL_relation wsX7_relation := goodIn_ca (goodIn_ca (goodIn_ca (goodIn_r _ [7, 8, 9, 6, 10, 11, 12, 13, 14, 15, 16, 17, 18, 19, 20, 21, 22, 23, 24, 25, 26, 27, 28, 29, 30, 31, 32, 33, 34, 35, 36, 37, 38, 39, 40, 41, 42, 43, 44, 45, 46, 47, 48, 49, 50, 51, 52, 53, 54, 55, 56, 57, 58, 59, 60, 61, 62, 63, 64, 65, 66, 67, 68, 69, 70, 71, 72, 73, 74, 75, 76, 77, 78, 79, 80, 81, 82, 83, 84, 85, 86, 87, 88, 89, 90, 91, 92, 93, 94, 95, 96, 97, 98, 99, 100, 101, 102, 103, 104] (by decide +kernel) (by decide +kernel)) (goodIn_sub (fun _ h => List.mem_cons_of_mem _ (List.mem_append_left _ (List.mem_append_right _ h))) (by decide +kernel))) (goodIn_sub (fun _ h => List.mem_cons_of_mem _ (List.mem_append_right _ h)) (by decide +kernel))) (goodIn_sub (fun _ h => List.mem_cons_of_mem _ (List.mem_append_left _ (List.mem_append_left _ (List.mem_append_right _ h)))) (by decide +kernel))
set_option maxRecDepth 20000 in
theorem gL_relation_X7_relation : GoodIn wsL_relation (wsV RL 59 RX7 yX7_relation wsX7_relation) := goodIn_app (goodIn_of _ (by decide +kernel)) ggL_relation_X7_relation
theorem yY_X7_relation : jY yX7_relation wsX7_relation cX7_relation 6 (some .int) 2 := ⟨⟨_, rfl⟩, by decide +kernel, by decide +kernel, by decide +kernel⟩
theorem dL_relation_13 : decode cL_relation 13 = .ok (.astore 4, 2) := by decide +kernel
theorem dL_relation_15 : decode cL_relation 15 = .ok (.iconst 1, 1) := by decide +kernel
theorem dL_relation_16 : decode cL_relation 16 = .ok (.ireturn, 1) := by decide +kernel
theorem dL_relation_17 : decode cL_relation 17 = .ok (.astore 4, 2) := by decide +kernel
theorem dL_relation_19 : decode cL_relation 19 = .ok (.iconst 2, 1) := by decide +kernel
theorem dL_relation_20 : decode cL_relation 20 = .ok (.ireturn, 1) := by decide +kernel
theorem dL_relation_8 : decode cL_relation 8 = .ok (.i2l, 1) := by decide +kernel
theorem dL_relation_9 : decode cL_relation 9 = .ok (.lastore, 1) := by decide +kernel
theorem dL_relation_10 : decode cL_relation 10 = .ok (.goto 11, 3) := by decide +kernel
theorem dL_relation_21 : decode cL_relation 21 = .ok (.iconst 0, 1) := by decide +kernel
theorem dL_relation_22 : decode cL_relation 22 = .ok (.ireturn, 1) := by decide +kernel
set_option maxHeartbeats 400000 in
set_option maxRecDepth 20000 in
theorem ct_L_relation (l : Launch) (D : va_G) (dA : Nat → ClassId) (hst : l.stackTraces = false) (M : jM) (v : Nat) (A : cA) (hA : jAb M v A) (x : Int32) (y : Int32) (s : Nat) (hs : s < jn M) (hks : jk M s = 25) (hzs : jz M s = 1) : jCT l D dA yL_relation wsL_relation (30) (900) (20) (600) 1 [.ref (v), .int (x), .int (y), .ref (s)] M (lPr M v (A) (sRel A x y).1 [xIOOBE, xNSE] (lgI s)) := by
  refine jBodyH (cc := cL_relation) (nL := 5) (rt := (some .int)) (ini := false) (by decide) rfl hst (Nat.le_of_ble_eq_true rfl) (by simp [Value.category]) (by intro h9; first | exact absurd h9 (by decide) | rfl) ?_
  show J l D dA RL cL_relation wsL_relation 5 false (some .int) [(0, 10, 13, 19), (0, 10, 17, 43)] (30) (900) (jF D dA (jn M) (lPr M v (A) (sRel A x y).1 [xIOOBE, xNSE] (lgI s)) 1) (jn M) (20) (600) (M) 0 [.ref (v), .int (x), .int (y), .ref (s), .float 0] []
  refine J_aload_n (s) dL_relation_0 rfl rfl ?_
  refine J_iconst (x := 0) dL_relation_1 (by decide) ?_
  refine J_aload_n (v) dL_relation_2 rfl rfl ?_
  refine J_iload_n dL_relation_3 rfl rfl ?_
  refine J_iload_n dL_relation_4 rfl rfl ?_
  refine J_calli (jrunV (As := [.int (x), .int (y)]) (ct_X7_relation l D dA hst M v A hA x y) dL_relation_5 yY_X7_relation gL_relation_X7_relation rfl cs10 (show v < jn M from Nat.lt_of_lt_of_le (Nat.lt_add_of_pos_right (by decide)) hA.1.1) hA.1.2.1 rfl ⟨by omega, by omega⟩ ⟨by omega, by omega⟩ rfl (Nat.le_of_ble_eq_true rfl)) ⟨by omega, by omega⟩ (Or.inr ⟨(jOk.ref (show v < jn M from Nat.lt_of_lt_of_le (Nat.lt_add_of_pos_right (by decide)) hA.1.1) (jOk.int (jOk.int (jOk.ref hs (jOk.float jOk.nil))))), (jOk.int (jOk.ref hs jOk.nil))⟩) (fun E K hp hle => ?_) (fun x9 K hp hle => ?_)
  · obtain ⟨he, hB, hF⟩ := hp
    have hB : jAb K v A := by rw [← sRel_2 (A := A) (x := x) (y := y)]; exact hB
    have hm := lIn_relation E he.symm
    rcases List.mem_cons.mp hm with rfl | hm
    · refine JX_catch (name := "java/lang/IndexOutOfBoundsException") [] (0, 10, 13, 19) [(0, 10, 17, 43)] rfl (fun _ h => absurd h List.not_mem_nil) (by decide) (by decide) (List.mem_of_getElem? (i := 1) rfl) lca_xIOOBE dL_relation_13 (by decide) rfl (lv' := [.ref (v), .int (x), .int (y), .ref (s), .float 0]) rfl ?_
      refine J_iconst (x := 1) dL_relation_15 (by decide) ?_
      exact J_iret (ty := .int) dL_relation_16 rfl (rfl) (by exact ⟨K, hB, hF, Or.inr ⟨0, _, rfl, by decide, he.symm, rfl, rfl⟩⟩)
    rcases List.mem_cons.mp hm with rfl | hm
    · refine JX_catch (name := "java/util/NoSuchElementException") [(0, 10, 13, 19)] (0, 10, 17, 43) [] rfl (List.forall_mem_cons.mpr ⟨⟨by decide, "java/lang/IndexOutOfBoundsException", (List.mem_of_getElem? (i := 1) rfl), lnc_xNSE_xIOOBE⟩, fun _ h => absurd h List.not_mem_nil⟩) (by decide) (by decide) (List.mem_of_getElem? (i := 2) rfl) lca_xNSE dL_relation_17 (by decide) rfl (lv' := [.ref (v), .int (x), .int (y), .ref (s), .float 0]) rfl ?_
      refine J_iconst (x := 2) dL_relation_19 (by decide) ?_
      exact J_iret (ty := .int) dL_relation_20 rfl (rfl) (by exact ⟨K, hB, hF, Or.inr ⟨1, _, rfl, by decide, he.symm, rfl, rfl⟩⟩)
    exact absurd hm List.not_mem_nil
  obtain ⟨he, hB, hF⟩ := hp
  have hB : jAb K v A := by rw [← sRel_2 (A := A) (x := x) (y := y)]; exact hB
  refine J_i2l dL_relation_8 ?_
  refine J_last (i := (0)) dL_relation_9 (Nat.lt_of_lt_of_le hs hle) ((hF.2.1 s hs).1.trans hks) (by rw [((hF.2.1 s hs).2.trans hzs)]; exact vpin0) ?_
  refine J_goto (tgt := 21) dL_relation_10 (by decide) ?_
  refine J_iconst (x := 0) dL_relation_21 (by decide) ?_
  exact J_iret (ty := .int) dL_relation_22 rfl (rfl) (by exact ⟨K, hB, hF, Or.inl ⟨rfl, x9, he.symm, rfl⟩⟩)

theorem dL_agrees_0 : decode cL_agrees 0 = .ok (.aload 5, 2) := by decide +kernel
theorem dL_agrees_2 : decode cL_agrees 2 = .ok (.iconst 0, 1) := by decide +kernel
theorem dL_agrees_3 : decode cL_agrees 3 = .ok (.aload_n 0, 1) := by decide +kernel
theorem dL_agrees_4 : decode cL_agrees 4 = .ok (.iload_n 1, 1) := by decide +kernel
theorem dL_agrees_5 : decode cL_agrees 5 = .ok (.iload_n 2, 1) := by decide +kernel
theorem dL_agrees_6 : decode cL_agrees 6 = .ok (.iload_n 3, 1) := by decide +kernel
theorem dL_agrees_7 : decode cL_agrees 7 = .ok (.iload 4, 2) := by decide +kernel
theorem dL_agrees_9 : decode cL_agrees 9 = .ok (.invokevirtual 62, 3) := by decide +kernel
set_option maxRecDepth 20000 in
theorem ggL_agrees_X7_agrees : GoodIn wsL_agrees wsX7_agrees := goodIn_ca (goodIn_ca (goodIn_ca (goodIn_ca (goodIn_r _ [8, 9, 10, 11, 12, 13, 14, 15, 16, 7, 17, 18, 19, 20, 21, 22, 23, 24, 25, 26, 27, 28, 29, 30, 31, 32, 33, 34, 35, 36, 37, 38, 39, 40, 41, 42, 43, 44, 45, 46, 47, 48, 49, 50, 51, 52, 53, 54, 55, 56, 57, 58, 59, 60, 61, 62, 63, 64, 65, 66, 67, 68, 69, 70, 71, 72, 73, 74, 75, 76, 77, 78, 79, 80, 81, 82, 83, 84, 85, 86, 87, 88, 89, 90, 91, 92, 93, 94, 95, 96, 97, 98, 99, 100, 101, 102, 103, 104, 105, 106, 107, 108, 109, 110, 111] (by decide +kernel) (by decide +kernel)) (goodIn_sub (fun _ h => List.mem_cons_of_mem _ (List.mem_append_left _ (List.mem_append_left _ (List.mem_append_right _ h)))) (by decide +kernel))) (goodIn_sub (fun _ h => List.mem_cons_of_mem _ (List.mem_append_left _ (List.mem_append_right _ h))) (by decide +kernel))) (goodIn_sub (fun _ h => List.mem_cons_of_mem _ (List.mem_append_right _ h)) (by decide +kernel))) (goodIn_sub (fun _ h => List.mem_cons_of_mem _ (List.mem_append_left _ (List.mem_append_left _ (List.mem_append_left _ (List.mem_append_right _ h))))) (by decide +kernel))
set_option maxRecDepth 20000 in
theorem gL_agrees_X7_agrees : GoodIn wsL_agrees (wsV RL 62 RX7 yX7_agrees wsX7_agrees) := goodIn_app (goodIn_of _ (by decide +kernel)) ggL_agrees_X7_agrees
theorem yY_X7_agrees : jY yX7_agrees wsX7_agrees cX7_agrees 9 (some .boolean) 4 := ⟨⟨_, rfl⟩, by decide +kernel, by decide +kernel, by decide +kernel⟩
theorem dL_agrees_24 : decode cL_agrees 24 = .ok (.astore 6, 2) := by decide +kernel
theorem dL_agrees_26 : decode cL_agrees 26 = .ok (.iconst 1, 1) := by decide +kernel
theorem dL_agrees_27 : decode cL_agrees 27 = .ok (.ireturn, 1) := by decide +kernel
theorem dL_agrees_28 : decode cL_agrees 28 = .ok (.astore 6, 2) := by decide +kernel
theorem dL_agrees_30 : decode cL_agrees 30 = .ok (.iconst 2, 1) := by decide +kernel
theorem dL_agrees_31 : decode cL_agrees 31 = .ok (.ireturn, 1) := by decide +kernel
theorem dL_agrees_32 : decode cL_agrees 32 = .ok (.astore 6, 2) := by decide +kernel
theorem dL_agrees_34 : decode cL_agrees 34 = .ok (.iconst 3, 1) := by decide +kernel
theorem dL_agrees_35 : decode cL_agrees 35 = .ok (.ireturn, 1) := by decide +kernel
theorem dL_agrees_12 : decode cL_agrees 12 = .ok (.ifCond .eq 7, 3) := by decide +kernel
theorem dL_agrees_19 : decode cL_agrees 19 = .ok (.lconst 0, 1) := by decide +kernel
theorem dL_agrees_20 : decode cL_agrees 20 = .ok (.lastore, 1) := by decide +kernel
theorem dL_agrees_21 : decode cL_agrees 21 = .ok (.goto 15, 3) := by decide +kernel
theorem dL_agrees_36 : decode cL_agrees 36 = .ok (.iconst 0, 1) := by decide +kernel
theorem dL_agrees_37 : decode cL_agrees 37 = .ok (.ireturn, 1) := by decide +kernel
theorem dL_agrees_15 : decode cL_agrees 15 = .ok (.lconst 1, 1) := by decide +kernel
theorem dL_agrees_16 : decode cL_agrees 16 = .ok (.goto 4, 3) := by decide +kernel
set_option maxHeartbeats 400000 in
set_option maxRecDepth 20000 in
theorem ct_L_agrees (l : Launch) (D : va_G) (dA : Nat → ClassId) (hst : l.stackTraces = false) (M : jM) (v : Nat) (A : cA) (hA : jAb M v A) (x : Int32) (y : Int32) (z : Int32) (op : Int32) (s : Nat) (hs : s < jn M) (hks : jk M s = 25) (hzs : jz M s = 1) : jCT l D dA yL_agrees wsL_agrees (30) (900) (12) (80) 1 [.ref (v), .int (x), .int (y), .int (z), .int (op), .ref (s)] M (lPr M v (A) (sAgr A x y z op).1 [xIOOBE, xIAE, xNSE] (lgZ s)) := by
  refine jBodyH (cc := cL_agrees) (nL := 7) (rt := (some .int)) (ini := false) (by decide) rfl hst (Nat.le_of_ble_eq_true rfl) (by simp [Value.category]) (by intro h9; first | exact absurd h9 (by decide) | rfl) ?_
  show J l D dA RL cL_agrees wsL_agrees 7 false (some .int) [(0, 21, 24, 19), (0, 21, 28, 21), (0, 21, 32, 43)] (30) (900) (jF D dA (jn M) (lPr M v (A) (sAgr A x y z op).1 [xIOOBE, xIAE, xNSE] (lgZ s)) 1) (jn M) (12) (80) (M) 0 [.ref (v), .int (x), .int (y), .int (z), .int (op), .ref (s), .float 0] []
  refine J_aload (s) dL_agrees_0 rfl ?_
  refine J_iconst (x := 0) dL_agrees_2 (by decide) ?_
  refine J_aload_n (v) dL_agrees_3 rfl rfl ?_
  refine J_iload_n dL_agrees_4 rfl rfl ?_
  refine J_iload_n dL_agrees_5 rfl rfl ?_
  refine J_iload_n dL_agrees_6 rfl rfl ?_
  refine J_iload dL_agrees_7 rfl ?_
  refine J_calli (jrunV (As := [.int (x), .int (y), .int (z), .int (op)]) (ct_X7_agrees l D dA hst M v A hA x y z op) dL_agrees_9 yY_X7_agrees gL_agrees_X7_agrees rfl cs10 (show v < jn M from Nat.lt_of_lt_of_le (Nat.lt_add_of_pos_right (by decide)) hA.1.1) hA.1.2.1 rfl ⟨by omega, by omega⟩ ⟨by omega, by omega⟩ rfl (Nat.le_of_ble_eq_true rfl)) ⟨by omega, by omega⟩ (Or.inr ⟨(jOk.ref (show v < jn M from Nat.lt_of_lt_of_le (Nat.lt_add_of_pos_right (by decide)) hA.1.1) (jOk.int (jOk.int (jOk.int (jOk.int (jOk.ref hs (jOk.float jOk.nil))))))), (jOk.int (jOk.ref hs jOk.nil))⟩) (fun E K hp hle => ?_) (fun x9 K hp hle => ?_)
  · obtain ⟨he, hB, hF⟩ := hp
    have hB : jAb K v A := by rw [← sAgr_2 (A := A) (x := x) (y := y) (z := z) (op := op)]; exact hB
    have hm := lIn_agrees E he.symm
    rcases List.mem_cons.mp hm with rfl | hm
    · refine JX_catch (name := "java/lang/IndexOutOfBoundsException") [] (0, 21, 24, 19) [(0, 21, 28, 21), (0, 21, 32, 43)] rfl (fun _ h => absurd h List.not_mem_nil) (by decide) (by decide) (List.mem_of_getElem? (i := 1) rfl) lca_xIOOBE dL_agrees_24 (by decide) rfl (lv' := [.ref (v), .int (x), .int (y), .int (z), .int (op), .ref (s), .float 0]) rfl ?_
      refine J_iconst (x := 1) dL_agrees_26 (by decide) ?_
      exact J_iret (ty := .int) dL_agrees_27 rfl (rfl) (by exact ⟨K, hB, hF, Or.inr ⟨0, _, rfl, by decide, he.symm, rfl, rfl⟩⟩)
    rcases List.mem_cons.mp hm with rfl | hm
    · refine JX_catch (name := "java/lang/IllegalArgumentException") [(0, 21, 24, 19)] (0, 21, 28, 21) [(0, 21, 32, 43)] rfl (List.forall_mem_cons.mpr ⟨⟨by decide, "java/lang/IndexOutOfBoundsException", (List.mem_of_getElem? (i := 1) rfl), lnc_xIAE_xIOOBE⟩, fun _ h => absurd h List.not_mem_nil⟩) (by decide) (by decide) (List.mem_of_getElem? (i := 2) rfl) lca_xIAE dL_agrees_28 (by decide) rfl (lv' := [.ref (v), .int (x), .int (y), .int (z), .int (op), .ref (s), .float 0]) rfl ?_
      refine J_iconst (x := 2) dL_agrees_30 (by decide) ?_
      exact J_iret (ty := .int) dL_agrees_31 rfl (rfl) (by exact ⟨K, hB, hF, Or.inr ⟨1, _, rfl, by decide, he.symm, rfl, rfl⟩⟩)
    rcases List.mem_cons.mp hm with rfl | hm
    · refine JX_catch (name := "java/util/NoSuchElementException") [(0, 21, 24, 19), (0, 21, 28, 21)] (0, 21, 32, 43) [] rfl (List.forall_mem_cons.mpr ⟨⟨by decide, "java/lang/IndexOutOfBoundsException", (List.mem_of_getElem? (i := 1) rfl), lnc_xNSE_xIOOBE⟩, List.forall_mem_cons.mpr ⟨⟨by decide, "java/lang/IllegalArgumentException", (List.mem_of_getElem? (i := 2) rfl), lnc_xNSE_xIAE⟩, fun _ h => absurd h List.not_mem_nil⟩⟩) (by decide) (by decide) (List.mem_of_getElem? (i := 3) rfl) lca_xNSE dL_agrees_32 (by decide) rfl (lv' := [.ref (v), .int (x), .int (y), .int (z), .int (op), .ref (s), .float 0]) rfl ?_
      refine J_iconst (x := 3) dL_agrees_34 (by decide) ?_
      exact J_iret (ty := .int) dL_agrees_35 rfl (rfl) (by exact ⟨K, hB, hF, Or.inr ⟨2, _, rfl, by decide, he.symm, rfl, rfl⟩⟩)
    exact absurd hm List.not_mem_nil
  obtain ⟨he, hB, hF⟩ := hp
  have hB : jAb K v A := by rw [← sAgr_2 (A := A) (x := x) (y := y) (z := z) (op := op)]; exact hB
  refine J_if_eq dL_agrees_12 (tgt := 19) (by decide) (fun c12 => ?_) (fun c12 => ?_)
  · refine J_lconst (x := 0) dL_agrees_19 (by decide) ?_
    refine J_last (i := (0)) dL_agrees_20 (Nat.lt_of_lt_of_le hs hle) ((hF.2.1 s hs).1.trans hks) (by rw [((hF.2.1 s hs).2.trans hzs)]; exact vpin0) ?_
    refine J_goto (tgt := 36) dL_agrees_21 (by decide) ?_
    refine J_iconst (x := 0) dL_agrees_36 (by decide) ?_
    exact J_iret (ty := .int) dL_agrees_37 rfl (rfl) (by exact ⟨K, hB, hF, Or.inl ⟨rfl, x9, he.symm, by first | (rw [if_pos c12]; rfl) | (rw [if_neg c12]; rfl)⟩⟩)
  · refine J_lconst (x := 1) dL_agrees_15 (by decide) ?_
    refine J_goto (tgt := 20) dL_agrees_16 (by decide) ?_
    refine J_last (i := (0)) dL_agrees_20 (Nat.lt_of_lt_of_le hs hle) ((hF.2.1 s hs).1.trans hks) (by rw [((hF.2.1 s hs).2.trans hzs)]; exact vpin0) ?_
    refine J_goto (tgt := 36) dL_agrees_21 (by decide) ?_
    refine J_iconst (x := 0) dL_agrees_36 (by decide) ?_
    exact J_iret (ty := .int) dL_agrees_37 rfl (rfl) (by exact ⟨K, hB, hF, Or.inl ⟨rfl, x9, he.symm, by first | (rw [if_pos c12]; rfl) | (rw [if_neg c12]; rfl)⟩⟩)

theorem dL_limit_0 : decode cL_limit 0 = .ok (.aload_n 3, 1) := by decide +kernel
theorem dL_limit_1 : decode cL_limit 1 = .ok (.iconst 0, 1) := by decide +kernel
theorem dL_limit_2 : decode cL_limit 2 = .ok (.aload_n 0, 1) := by decide +kernel
theorem dL_limit_3 : decode cL_limit 3 = .ok (.iload_n 1, 1) := by decide +kernel
theorem dL_limit_4 : decode cL_limit 4 = .ok (.iload_n 2, 1) := by decide +kernel
theorem dL_limit_5 : decode cL_limit 5 = .ok (.invokevirtual 66, 3) := by decide +kernel
set_option maxRecDepth 20000 in
theorem ggL_limit_X7_limit : GoodIn wsL_limit wsX7_limit := goodIn_ca (goodIn_r _ [6, 7, 8, 5, 9, 10, 11, 12, 13, 14, 15, 16, 17, 18, 19] (by decide +kernel) (by decide +kernel)) (goodIn_sub (fun _ h => List.mem_cons_of_mem _ (List.mem_append_right _ h)) (by decide +kernel))
set_option maxRecDepth 20000 in
theorem gL_limit_X7_limit : GoodIn wsL_limit (wsV RL 66 RX7 yX7_limit wsX7_limit) := goodIn_app (goodIn_of _ (by decide +kernel)) ggL_limit_X7_limit
theorem yY_X7_limit : jY yX7_limit wsX7_limit cX7_limit 3 (some .int) 2 := ⟨⟨_, rfl⟩, by decide +kernel, by decide +kernel, by decide +kernel⟩
theorem dL_limit_13 : decode cL_limit 13 = .ok (.astore 4, 2) := by decide +kernel
theorem dL_limit_15 : decode cL_limit 15 = .ok (.iconst 1, 1) := by decide +kernel
theorem dL_limit_16 : decode cL_limit 16 = .ok (.ireturn, 1) := by decide +kernel
theorem dL_limit_8 : decode cL_limit 8 = .ok (.i2l, 1) := by decide +kernel
theorem dL_limit_9 : decode cL_limit 9 = .ok (.lastore, 1) := by decide +kernel
theorem dL_limit_10 : decode cL_limit 10 = .ok (.goto 7, 3) := by decide +kernel
theorem dL_limit_17 : decode cL_limit 17 = .ok (.iconst 0, 1) := by decide +kernel
theorem dL_limit_18 : decode cL_limit 18 = .ok (.ireturn, 1) := by decide +kernel
set_option maxHeartbeats 400000 in
set_option maxRecDepth 20000 in
theorem ct_L_limit (l : Launch) (D : va_G) (dA : Nat → ClassId) (hst : l.stackTraces = false) (M : jM) (v : Nat) (A : cA) (hA : jAb M v A) (y : Int32) (b : Bool) (s : Nat) (hs : s < jn M) (hks : jk M s = 25) (hzs : jz M s = 1) : jCT l D dA yL_limit wsL_limit (30) (900) (6) (40) 1 [.ref (v), .int (y), .int (jb (b)), .ref (s)] M (lPr M v (A) (oLm y b) [xIAE] (lgI s)) := by
  refine jBodyH (cc := cL_limit) (nL := 5) (rt := (some .int)) (ini := false) (by decide) rfl hst (Nat.le_of_ble_eq_true rfl) (by simp [Value.category]) (by intro h9; first | exact absurd h9 (by decide) | rfl) ?_
  show J l D dA RL cL_limit wsL_limit 5 false (some .int) [(0, 10, 13, 21)] (30) (900) (jF D dA (jn M) (lPr M v (A) (oLm y b) [xIAE] (lgI s)) 1) (jn M) (6) (40) (M) 0 [.ref (v), .int (y), .int (jb (b)), .ref (s), .float 0] []
  refine J_aload_n (s) dL_limit_0 rfl rfl ?_
  refine J_iconst (x := 0) dL_limit_1 (by decide) ?_
  refine J_aload_n (v) dL_limit_2 rfl rfl ?_
  refine J_iload_n dL_limit_3 rfl rfl ?_
  refine J_iload_n dL_limit_4 rfl rfl ?_
  refine J_calli (jrunV (As := [.int (y), .int (jb (b))]) (ct_X7_limit l D dA hst M v A hA y b) dL_limit_5 yY_X7_limit gL_limit_X7_limit rfl cs10 (show v < jn M from Nat.lt_of_lt_of_le (Nat.lt_add_of_pos_right (by decide)) hA.1.1) hA.1.2.1 rfl ⟨by omega, by omega⟩ ⟨by omega, by omega⟩ rfl (Nat.le_of_ble_eq_true rfl)) ⟨by omega, by omega⟩ (Or.inr ⟨(jOk.ref (show v < jn M from Nat.lt_of_lt_of_le (Nat.lt_add_of_pos_right (by decide)) hA.1.1) (jOk.int (jOk.int (jOk.ref hs (jOk.float jOk.nil))))), (jOk.int (jOk.ref hs jOk.nil))⟩) (fun E K hp hle => ?_) (fun x9 K hp hle => ?_)
  · obtain ⟨he, hKM⟩ := hp
    have hB : jAb K v A := by rw [hKM]; exact hA
    have hF : jFv v M K := by rw [hKM]; exact jFv.rf
    have hm := lIn_limit E he.symm
    rcases List.mem_cons.mp hm with rfl | hm
    · refine JX_catch (name := "java/lang/IllegalArgumentException") [] (0, 10, 13, 21) [] rfl (fun _ h => absurd h List.not_mem_nil) (by decide) (by decide) (List.mem_of_getElem? (i := 1) rfl) lca_xIAE dL_limit_13 (by decide) rfl (lv' := [.ref (v), .int (y), .int (jb (b)), .ref (s), .float 0]) rfl ?_
      refine J_iconst (x := 1) dL_limit_15 (by decide) ?_
      exact J_iret (ty := .int) dL_limit_16 rfl (rfl) (by exact ⟨K, hB, hF, Or.inr ⟨0, _, rfl, by decide, he.symm, rfl, rfl⟩⟩)
    exact absurd hm List.not_mem_nil
  obtain ⟨he, hKM⟩ := hp
  have hB : jAb K v A := by rw [hKM]; exact hA
  have hF : jFv v M K := by rw [hKM]; exact jFv.rf
  refine J_i2l dL_limit_8 ?_
  refine J_last (i := (0)) dL_limit_9 (Nat.lt_of_lt_of_le hs hle) ((hF.2.1 s hs).1.trans hks) (by rw [((hF.2.1 s hs).2.trans hzs)]; exact vpin0) ?_
  refine J_goto (tgt := 17) dL_limit_10 (by decide) ?_
  refine J_iconst (x := 0) dL_limit_17 (by decide) ?_
  exact J_iret (ty := .int) dL_limit_18 rfl (rfl) (by exact ⟨K, hB, hF, Or.inl ⟨rfl, x9, he.symm, rfl⟩⟩)

theorem dL_textLength_0 : decode cL_textLength 0 = .ok (.aload_n 2, 1) := by decide +kernel
theorem dL_textLength_1 : decode cL_textLength 1 = .ok (.iconst 0, 1) := by decide +kernel
theorem dL_textLength_2 : decode cL_textLength 2 = .ok (.aload_n 0, 1) := by decide +kernel
theorem dL_textLength_3 : decode cL_textLength 3 = .ok (.iload_n 1, 1) := by decide +kernel
theorem dL_textLength_4 : decode cL_textLength 4 = .ok (.invokevirtual 70, 3) := by decide +kernel
set_option maxRecDepth 20000 in
theorem ggL_textLength_X7_textLength : GoodIn wsL_textLength wsX7_textLength := goodIn_ca (goodIn_ca (goodIn_ca (goodIn_r _ [7, 8, 9, 10, 11, 6, 12, 13, 14, 15, 16, 17, 18, 19, 20, 21, 22, 23, 24, 25, 26, 27, 28, 29, 30, 31, 32, 33, 34, 35, 36, 37, 38, 39, 40, 41, 42, 43, 44, 45, 46, 47, 48, 49, 50, 51, 52, 53, 54, 55, 56, 57, 58, 59, 60, 61, 62, 63, 64, 65, 66, 67, 68, 69, 70, 71, 72, 73, 74, 75, 76, 77, 78, 79, 80, 81, 82, 83, 84, 85, 86, 87, 88, 89, 90, 91, 92, 93, 94, 95, 96, 97, 98, 99, 100, 101, 102, 103, 104, 105, 106, 107, 108, 109, 110, 111, 112, 113, 114, 115, 116, 117, 118, 119, 120, 121, 122, 123, 124, 125, 126, 127, 128, 129, 130, 131, 132, 133, 134, 135, 136, 137, 138, 139, 140, 141, 142, 143, 144, 145, 146, 147, 148, 149, 150, 151, 152, 153, 154, 155, 156, 157, 158, 159, 160, 161, 162, 163, 164, 165, 166, 167, 168, 169, 170, 171, 172, 173, 174, 175, 176, 177, 178, 179, 180, 181, 182, 183, 184, 185, 186, 187, 188, 189, 190, 191, 192, 193, 194, 195, 196, 197, 198, 199, 200, 201, 202, 203, 204, 205, 206, 207, 208, 209, 210, 211, 212, 213, 214, 215, 216, 217, 218, 219, 220, 221, 222, 223, 224, 225, 226, 227, 228, 229, 230, 231, 232, 233, 234, 235, 236, 237, 238, 239, 240, 241, 242, 243, 244, 245, 246, 247, 248, 249, 250, 251, 252, 253, 254, 255, 256, 257, 258, 259, 260, 261, 262, 263, 264, 265, 266, 267, 268, 269, 270, 271, 272, 273, 274, 275, 276, 277, 278, 279, 280, 281, 282, 283, 284, 285, 286, 287, 288, 289, 290, 291, 292, 293, 294, 295, 296, 297, 298, 299, 300, 301, 302, 303, 304, 305, 306, 307, 308, 309, 310, 311, 312, 313, 314, 315, 316, 317, 318, 319, 320, 321, 322, 323, 324, 325, 326, 327, 328, 329, 330, 331, 332, 333, 334, 335, 336] (by decide +kernel) (by decide +kernel)) (goodIn_sub (fun _ h => List.mem_cons_of_mem _ (List.mem_append_left _ (List.mem_append_right _ h))) (by decide +kernel))) (goodIn_sub (fun _ h => List.mem_cons_of_mem _ (List.mem_append_right _ h)) (by decide +kernel))) (goodIn_sub (fun _ h => List.mem_cons_of_mem _ (List.mem_append_left _ (List.mem_append_left _ (List.mem_append_right _ h)))) (by decide +kernel))
set_option maxRecDepth 20000 in
theorem gL_textLength_X7_textLength : GoodIn wsL_textLength (wsV RL 70 RX7 yX7_textLength wsX7_textLength) := goodIn_app (goodIn_of _ (by decide +kernel)) ggL_textLength_X7_textLength
theorem yY_X7_textLength : jY yX7_textLength wsX7_textLength cX7_textLength 2 (some .int) 1 := ⟨⟨_, rfl⟩, by decide +kernel, by decide +kernel, by decide +kernel⟩
theorem dL_textLength_12 : decode cL_textLength 12 = .ok (.astore_n 3, 1) := by decide +kernel
theorem dL_textLength_13 : decode cL_textLength 13 = .ok (.iconst 1, 1) := by decide +kernel
theorem dL_textLength_14 : decode cL_textLength 14 = .ok (.ireturn, 1) := by decide +kernel
theorem dL_textLength_15 : decode cL_textLength 15 = .ok (.astore_n 3, 1) := by decide +kernel
theorem dL_textLength_16 : decode cL_textLength 16 = .ok (.iconst 2, 1) := by decide +kernel
theorem dL_textLength_17 : decode cL_textLength 17 = .ok (.ireturn, 1) := by decide +kernel
theorem dL_textLength_7 : decode cL_textLength 7 = .ok (.i2l, 1) := by decide +kernel
theorem dL_textLength_8 : decode cL_textLength 8 = .ok (.lastore, 1) := by decide +kernel
theorem dL_textLength_9 : decode cL_textLength 9 = .ok (.goto 9, 3) := by decide +kernel
theorem dL_textLength_18 : decode cL_textLength 18 = .ok (.iconst 0, 1) := by decide +kernel
theorem dL_textLength_19 : decode cL_textLength 19 = .ok (.ireturn, 1) := by decide +kernel
set_option maxHeartbeats 400000 in
set_option maxRecDepth 20000 in
theorem ct_L_textLength (l : Launch) (D : va_G) (dA : Nat → ClassId) (hst : l.stackTraces = false) (M : jM) (v : Nat) (A : cA) (hA : jAb M v A) (x : Int32) (hwf : ∀ w, cAt (cNw A) x = some w → rOk w) (s : Nat) (hs : s < jn M) (hks : jk M s = 25) (hzs : jz M s = 1) : jCT l D dA yL_textLength wsL_textLength (60) (2200) (10) (2500) 1 [.ref (v), .int (x), .ref (s)] M (lPr M v (A) (sTl A x).1 [xIOOBE, xNSE] (lgI s)) := by
  refine jBodyH (cc := cL_textLength) (nL := 4) (rt := (some .int)) (ini := false) (by decide) rfl hst (Nat.le_of_ble_eq_true rfl) (by simp [Value.category]) (by intro h9; first | exact absurd h9 (by decide) | rfl) ?_
  show J l D dA RL cL_textLength wsL_textLength 4 false (some .int) [(0, 9, 12, 19), (0, 9, 15, 43)] (60) (2200) (jF D dA (jn M) (lPr M v (A) (sTl A x).1 [xIOOBE, xNSE] (lgI s)) 1) (jn M) (10) (2500) (M) 0 [.ref (v), .int (x), .ref (s), .float 0] []
  refine J_aload_n (s) dL_textLength_0 rfl rfl ?_
  refine J_iconst (x := 0) dL_textLength_1 (by decide) ?_
  refine J_aload_n (v) dL_textLength_2 rfl rfl ?_
  refine J_iload_n dL_textLength_3 rfl rfl ?_
  refine J_calli (jrunV (As := [.int (x)]) (ct_X7_textLength l D dA hst M v A hA x hwf) dL_textLength_4 yY_X7_textLength gL_textLength_X7_textLength rfl cs10 (show v < jn M from Nat.lt_of_lt_of_le (Nat.lt_add_of_pos_right (by decide)) hA.1.1) hA.1.2.1 rfl ⟨by omega, by omega⟩ ⟨by omega, by omega⟩ rfl (Nat.le_of_ble_eq_true rfl)) ⟨by omega, by omega⟩ (Or.inr ⟨(jOk.ref (show v < jn M from Nat.lt_of_lt_of_le (Nat.lt_add_of_pos_right (by decide)) hA.1.1) (jOk.int (jOk.ref hs (jOk.float jOk.nil)))), (jOk.int (jOk.ref hs jOk.nil))⟩) (fun E K hp hle => ?_) (fun x9 K hp hle => ?_)
  · obtain ⟨he, hB, hF⟩ := hp
    have hB : jAb K v A := by rw [← sTl_2 (A := A) (x := x)]; exact hB
    have hm := lIn_textLength E he.symm
    rcases List.mem_cons.mp hm with rfl | hm
    · refine JX_catchN (name := "java/lang/IndexOutOfBoundsException") [] (0, 9, 12, 19) [(0, 9, 15, 43)] rfl (fun _ h => absurd h List.not_mem_nil) (by decide) (by decide) (List.mem_of_getElem? (i := 1) rfl) lca_xIOOBE dL_textLength_12 rfl (by decide) rfl (lv' := [.ref (v), .int (x), .ref (s), .float 0]) rfl ?_
      refine J_iconst (x := 1) dL_textLength_13 (by decide) ?_
      exact J_iret (ty := .int) dL_textLength_14 rfl (rfl) (by exact ⟨K, hB, hF, Or.inr ⟨0, _, rfl, by decide, he.symm, rfl, rfl⟩⟩)
    rcases List.mem_cons.mp hm with rfl | hm
    · refine JX_catchN (name := "java/util/NoSuchElementException") [(0, 9, 12, 19)] (0, 9, 15, 43) [] rfl (List.forall_mem_cons.mpr ⟨⟨by decide, "java/lang/IndexOutOfBoundsException", (List.mem_of_getElem? (i := 1) rfl), lnc_xNSE_xIOOBE⟩, fun _ h => absurd h List.not_mem_nil⟩) (by decide) (by decide) (List.mem_of_getElem? (i := 2) rfl) lca_xNSE dL_textLength_15 rfl (by decide) rfl (lv' := [.ref (v), .int (x), .ref (s), .float 0]) rfl ?_
      refine J_iconst (x := 2) dL_textLength_16 (by decide) ?_
      exact J_iret (ty := .int) dL_textLength_17 rfl (rfl) (by exact ⟨K, hB, hF, Or.inr ⟨1, _, rfl, by decide, he.symm, rfl, rfl⟩⟩)
    exact absurd hm List.not_mem_nil
  obtain ⟨he, hB, hF⟩ := hp
  have hB : jAb K v A := by rw [← sTl_2 (A := A) (x := x)]; exact hB
  refine J_i2l dL_textLength_7 ?_
  refine J_last (i := (0)) dL_textLength_8 (Nat.lt_of_lt_of_le hs hle) ((hF.2.1 s hs).1.trans hks) (by rw [((hF.2.1 s hs).2.trans hzs)]; exact vpin0) ?_
  refine J_goto (tgt := 18) dL_textLength_9 (by decide) ?_
  refine J_iconst (x := 0) dL_textLength_18 (by decide) ?_
  exact J_iret (ty := .int) dL_textLength_19 rfl (rfl) (by exact ⟨K, hB, hF, Or.inl ⟨rfl, x9, he.symm, rfl⟩⟩)

theorem dL_text_0 : decode cL_text 0 = .ok (.aload_n 3, 1) := by decide +kernel
theorem dL_text_1 : decode cL_text 1 = .ok (.iconst 0, 1) := by decide +kernel
theorem dL_text_2 : decode cL_text 2 = .ok (.aload_n 0, 1) := by decide +kernel
theorem dL_text_3 : decode cL_text 3 = .ok (.iload_n 1, 1) := by decide +kernel
theorem dL_text_4 : decode cL_text 4 = .ok (.iload_n 2, 1) := by decide +kernel
theorem dL_text_5 : decode cL_text 5 = .ok (.invokevirtual 73, 3) := by decide +kernel
set_option maxRecDepth 20000 in
theorem ggL_text_X7_text : GoodIn wsL_text wsX7_text := goodIn_ca (goodIn_ca (goodIn_ca (goodIn_r _ [7, 8, 9, 10, 11, 12, 13, 6, 14, 15, 16, 17, 18, 19, 20, 21, 22, 23, 24, 25, 26, 27, 28, 29, 30, 31, 32, 33, 34, 35, 36, 37, 38, 39, 40, 41, 42, 43, 44, 45, 46, 47, 48, 49, 50, 51, 52, 53, 54, 55, 56, 57, 58, 59, 60, 61, 62, 63, 64, 65, 66, 67, 68, 69, 70, 71, 72, 73, 74, 75, 76, 77, 78, 79, 80, 81, 82, 83, 84, 85, 86, 87, 88, 89, 90, 91, 92, 93, 94, 95, 96, 97, 98, 99, 100, 101, 102, 103, 104, 105, 106, 107, 108, 109, 110, 111, 112, 113, 114, 115, 116, 117, 118, 119, 120, 121, 122, 123, 124, 125, 126, 127, 128, 129, 130, 131, 132, 133, 134, 135, 136, 137, 138, 139, 140, 141, 142, 143, 144, 145, 146, 147, 148, 149, 150, 151, 152, 153, 154, 155, 156, 157, 158, 159, 160, 161, 162, 163, 164, 165, 166, 167, 168, 169, 170, 171, 172, 173, 174, 175, 176, 177, 178, 179, 180, 181, 182, 183, 184, 185, 186, 187, 188, 189, 190, 191, 192, 193, 194, 195, 196, 197, 198, 199, 200, 201, 202, 203, 204, 205, 206, 207, 208, 209, 210, 211, 212, 213, 214, 215, 216, 217, 218, 219, 220, 221, 222, 223, 224, 225, 226, 227, 228, 229, 230, 231, 232, 233, 234, 235, 236, 237, 238, 239, 240, 241, 242, 243, 244, 245, 246, 247, 248, 249, 250, 251, 252, 253, 254, 255, 256, 257, 258, 259, 260, 261, 262, 263, 264, 265, 266, 267, 268, 269, 270, 271, 272, 273, 274, 275, 276, 277, 278, 279, 280, 281, 282, 283, 284, 285, 286, 287, 288, 289, 290, 291, 292, 293, 294, 295, 296, 297, 298, 299, 300, 301, 302, 303, 304, 305, 306, 307, 308, 309, 310, 311, 312, 313, 314, 315, 316, 317, 318, 319, 320, 321, 322, 323, 324, 325, 326, 327, 328, 329, 330, 331, 332, 333, 334, 335, 336, 337, 338, 339, 340, 341, 342, 343, 344, 345, 346, 347, 348, 349] (by decide +kernel) (by decide +kernel)) (goodIn_sub (fun _ h => List.mem_cons_of_mem _ (List.mem_append_left _ (List.mem_append_right _ h))) (by decide +kernel))) (goodIn_sub (fun _ h => List.mem_cons_of_mem _ (List.mem_append_right _ h)) (by decide +kernel))) (goodIn_sub (fun _ h => List.mem_cons_of_mem _ (List.mem_append_left _ (List.mem_append_left _ (List.mem_append_right _ h)))) (by decide +kernel))
set_option maxRecDepth 20000 in
theorem gL_text_X7_text : GoodIn wsL_text (wsV RL 73 RX7 yX7_text wsX7_text) := goodIn_app (goodIn_of _ (by decide +kernel)) ggL_text_X7_text
theorem yY_X7_text : jY yX7_text wsX7_text cX7_text 3 (some .char) 2 := ⟨⟨_, rfl⟩, by decide +kernel, by decide +kernel, by decide +kernel⟩
theorem dL_text_13 : decode cL_text 13 = .ok (.astore 4, 2) := by decide +kernel
theorem dL_text_15 : decode cL_text 15 = .ok (.iconst 1, 1) := by decide +kernel
theorem dL_text_16 : decode cL_text 16 = .ok (.ireturn, 1) := by decide +kernel
theorem dL_text_17 : decode cL_text 17 = .ok (.astore 4, 2) := by decide +kernel
theorem dL_text_19 : decode cL_text 19 = .ok (.iconst 2, 1) := by decide +kernel
theorem dL_text_20 : decode cL_text 20 = .ok (.ireturn, 1) := by decide +kernel
theorem dL_text_8 : decode cL_text 8 = .ok (.i2l, 1) := by decide +kernel
theorem dL_text_9 : decode cL_text 9 = .ok (.lastore, 1) := by decide +kernel
theorem dL_text_10 : decode cL_text 10 = .ok (.goto 11, 3) := by decide +kernel
theorem dL_text_21 : decode cL_text 21 = .ok (.iconst 0, 1) := by decide +kernel
theorem dL_text_22 : decode cL_text 22 = .ok (.ireturn, 1) := by decide +kernel
set_option maxHeartbeats 400000 in
set_option maxRecDepth 20000 in
theorem ct_L_text (l : Launch) (D : va_G) (dA : Nat → ClassId) (hst : l.stackTraces = false) (M : jM) (v : Nat) (A : cA) (hA : jAb M v A) (x : Int32) (y : Int32) (hwf : ∀ w, cAt (cNw A) x = some w → rOk w) (s : Nat) (hs : s < jn M) (hks : jk M s = 25) (hzs : jz M s = 1) : jCT l D dA yL_text wsL_text (60) (2200) (10) (2500) 1 [.ref (v), .int (x), .int (y), .ref (s)] M (lPr M v (A) (sTx A x y).1 [xIOOBE, xNSE] (lgI s)) := by
  refine jBodyH (cc := cL_text) (nL := 5) (rt := (some .int)) (ini := false) (by decide) rfl hst (Nat.le_of_ble_eq_true rfl) (by simp [Value.category]) (by intro h9; first | exact absurd h9 (by decide) | rfl) ?_
  show J l D dA RL cL_text wsL_text 5 false (some .int) [(0, 10, 13, 19), (0, 10, 17, 43)] (60) (2200) (jF D dA (jn M) (lPr M v (A) (sTx A x y).1 [xIOOBE, xNSE] (lgI s)) 1) (jn M) (10) (2500) (M) 0 [.ref (v), .int (x), .int (y), .ref (s), .float 0] []
  refine J_aload_n (s) dL_text_0 rfl rfl ?_
  refine J_iconst (x := 0) dL_text_1 (by decide) ?_
  refine J_aload_n (v) dL_text_2 rfl rfl ?_
  refine J_iload_n dL_text_3 rfl rfl ?_
  refine J_iload_n dL_text_4 rfl rfl ?_
  refine J_calli (jrunV (As := [.int (x), .int (y)]) (ct_X7_text l D dA hst M v A hA x y hwf) dL_text_5 yY_X7_text gL_text_X7_text rfl cs10 (show v < jn M from Nat.lt_of_lt_of_le (Nat.lt_add_of_pos_right (by decide)) hA.1.1) hA.1.2.1 rfl ⟨by omega, by omega⟩ ⟨by omega, by omega⟩ rfl (Nat.le_of_ble_eq_true rfl)) ⟨by omega, by omega⟩ (Or.inr ⟨(jOk.ref (show v < jn M from Nat.lt_of_lt_of_le (Nat.lt_add_of_pos_right (by decide)) hA.1.1) (jOk.int (jOk.int (jOk.ref hs (jOk.float jOk.nil))))), (jOk.int (jOk.ref hs jOk.nil))⟩) (fun E K hp hle => ?_) (fun x9 K hp hle => ?_)
  · obtain ⟨he, hB, hF⟩ := hp
    have hB : jAb K v A := by rw [← sTx_2 (A := A) (x := x) (y := y)]; exact hB
    have hm := lIn_text E he.symm
    rcases List.mem_cons.mp hm with rfl | hm
    · refine JX_catch (name := "java/lang/IndexOutOfBoundsException") [] (0, 10, 13, 19) [(0, 10, 17, 43)] rfl (fun _ h => absurd h List.not_mem_nil) (by decide) (by decide) (List.mem_of_getElem? (i := 1) rfl) lca_xIOOBE dL_text_13 (by decide) rfl (lv' := [.ref (v), .int (x), .int (y), .ref (s), .float 0]) rfl ?_
      refine J_iconst (x := 1) dL_text_15 (by decide) ?_
      exact J_iret (ty := .int) dL_text_16 rfl (rfl) (by exact ⟨K, hB, hF, Or.inr ⟨0, _, rfl, by decide, he.symm, rfl, rfl⟩⟩)
    rcases List.mem_cons.mp hm with rfl | hm
    · refine JX_catch (name := "java/util/NoSuchElementException") [(0, 10, 13, 19)] (0, 10, 17, 43) [] rfl (List.forall_mem_cons.mpr ⟨⟨by decide, "java/lang/IndexOutOfBoundsException", (List.mem_of_getElem? (i := 1) rfl), lnc_xNSE_xIOOBE⟩, fun _ h => absurd h List.not_mem_nil⟩) (by decide) (by decide) (List.mem_of_getElem? (i := 2) rfl) lca_xNSE dL_text_17 (by decide) rfl (lv' := [.ref (v), .int (x), .int (y), .ref (s), .float 0]) rfl ?_
      refine J_iconst (x := 2) dL_text_19 (by decide) ?_
      exact J_iret (ty := .int) dL_text_20 rfl (rfl) (by exact ⟨K, hB, hF, Or.inr ⟨1, _, rfl, by decide, he.symm, rfl, rfl⟩⟩)
    exact absurd hm List.not_mem_nil
  obtain ⟨he, hB, hF⟩ := hp
  have hB : jAb K v A := by rw [← sTx_2 (A := A) (x := x) (y := y)]; exact hB
  refine J_i2l dL_text_8 ?_
  refine J_last (i := (0)) dL_text_9 (Nat.lt_of_lt_of_le hs hle) ((hF.2.1 s hs).1.trans hks) (by rw [((hF.2.1 s hs).2.trans hzs)]; exact vpin0) ?_
  refine J_goto (tgt := 21) dL_text_10 (by decide) ?_
  refine J_iconst (x := 0) dL_text_21 (by decide) ?_
  exact J_iret (ty := .int) dL_text_22 rfl (rfl) (by exact ⟨K, hB, hF, Or.inl ⟨rfl, x9, he.symm, rfl⟩⟩)

theorem dL_refusal_0 : decode cL_refusal 0 = .ok (.aload_n 1, 1) := by decide +kernel
theorem dL_refusal_1 : decode cL_refusal 1 = .ok (.iconst 0, 1) := by decide +kernel
theorem dL_refusal_2 : decode cL_refusal 2 = .ok (.aload_n 0, 1) := by decide +kernel
theorem dL_refusal_3 : decode cL_refusal 3 = .ok (.invokevirtual 77, 3) := by decide +kernel
set_option maxRecDepth 20000 in
theorem ggL_refusal_X7_refusal : GoodIn wsL_refusal wsX7_refusal := goodIn_ca (goodIn_r _ [6, 7, 8, 9, 10, 11, 12, 13, 14, 15, 16, 17, 18, 19] (by decide +kernel) (by decide +kernel)) (goodIn_sub (fun _ h => List.mem_cons_of_mem _ (List.mem_append_right _ h)) (by decide +kernel))
set_option maxRecDepth 20000 in
theorem gL_refusal_X7_refusal : GoodIn wsL_refusal (wsV RL 77 RX7 yX7_refusal wsX7_refusal) := goodIn_app (goodIn_of _ (by decide +kernel)) ggL_refusal_X7_refusal
theorem yY_X7_refusal : jY yX7_refusal wsX7_refusal cX7_refusal 1 (some .int) 0 := ⟨⟨_, rfl⟩, by decide +kernel, by decide +kernel, by decide +kernel⟩
theorem dL_refusal_11 : decode cL_refusal 11 = .ok (.astore_n 2, 1) := by decide +kernel
theorem dL_refusal_12 : decode cL_refusal 12 = .ok (.iconst 1, 1) := by decide +kernel
theorem dL_refusal_13 : decode cL_refusal 13 = .ok (.ireturn, 1) := by decide +kernel
theorem dL_refusal_6 : decode cL_refusal 6 = .ok (.i2l, 1) := by decide +kernel
theorem dL_refusal_7 : decode cL_refusal 7 = .ok (.lastore, 1) := by decide +kernel
theorem dL_refusal_8 : decode cL_refusal 8 = .ok (.goto 6, 3) := by decide +kernel
theorem dL_refusal_14 : decode cL_refusal 14 = .ok (.iconst 0, 1) := by decide +kernel
theorem dL_refusal_15 : decode cL_refusal 15 = .ok (.ireturn, 1) := by decide +kernel
set_option maxHeartbeats 400000 in
set_option maxRecDepth 20000 in
theorem ct_L_refusal (l : Launch) (D : va_G) (dA : Nat → ClassId) (hst : l.stackTraces = false) (M : jM) (v : Nat) (A : cA) (hA : jAb M v A) (s : Nat) (hs : s < jn M) (hks : jk M s = 25) (hzs : jz M s = 1) : jCT l D dA yL_refusal wsL_refusal (30) (900) (6) (40) 1 [.ref (v), .ref (s)] M (lPr M v (A) (oRf A) [xNSE] (lgI s)) := by
  refine jBodyH (cc := cL_refusal) (nL := 3) (rt := (some .int)) (ini := false) (by decide) rfl hst (Nat.le_of_ble_eq_true rfl) (by simp [Value.category]) (by intro h9; first | exact absurd h9 (by decide) | rfl) ?_
  show J l D dA RL cL_refusal wsL_refusal 3 false (some .int) [(0, 8, 11, 43)] (30) (900) (jF D dA (jn M) (lPr M v (A) (oRf A) [xNSE] (lgI s)) 1) (jn M) (6) (40) (M) 0 [.ref (v), .ref (s), .float 0] []
  refine J_aload_n (s) dL_refusal_0 rfl rfl ?_
  refine J_iconst (x := 0) dL_refusal_1 (by decide) ?_
  refine J_aload_n (v) dL_refusal_2 rfl rfl ?_
  refine J_calli (jrunV (As := []) (ct_X7_refusal l D dA hst M v A hA ) dL_refusal_3 yY_X7_refusal gL_refusal_X7_refusal rfl cs10 (show v < jn M from Nat.lt_of_lt_of_le (Nat.lt_add_of_pos_right (by decide)) hA.1.1) hA.1.2.1 rfl ⟨by omega, by omega⟩ ⟨by omega, by omega⟩ rfl (Nat.le_of_ble_eq_true rfl)) ⟨by omega, by omega⟩ (Or.inr ⟨(jOk.ref (show v < jn M from Nat.lt_of_lt_of_le (Nat.lt_add_of_pos_right (by decide)) hA.1.1) (jOk.ref hs (jOk.float jOk.nil))), (jOk.int (jOk.ref hs jOk.nil))⟩) (fun E K hp hle => ?_) (fun x9 K hp hle => ?_)
  · obtain ⟨he, hKM⟩ := hp
    have hB : jAb K v A := by rw [hKM]; exact hA
    have hF : jFv v M K := by rw [hKM]; exact jFv.rf
    have hm := lIn_refusal E he.symm
    rcases List.mem_cons.mp hm with rfl | hm
    · refine JX_catchN (name := "java/util/NoSuchElementException") [] (0, 8, 11, 43) [] rfl (fun _ h => absurd h List.not_mem_nil) (by decide) (by decide) (List.mem_of_getElem? (i := 1) rfl) lca_xNSE dL_refusal_11 rfl (by decide) rfl (lv' := [.ref (v), .ref (s), .float 0]) rfl ?_
      refine J_iconst (x := 1) dL_refusal_12 (by decide) ?_
      exact J_iret (ty := .int) dL_refusal_13 rfl (rfl) (by exact ⟨K, hB, hF, Or.inr ⟨0, _, rfl, by decide, he.symm, rfl, rfl⟩⟩)
    exact absurd hm List.not_mem_nil
  obtain ⟨he, hKM⟩ := hp
  have hB : jAb K v A := by rw [hKM]; exact hA
  have hF : jFv v M K := by rw [hKM]; exact jFv.rf
  refine J_i2l dL_refusal_6 ?_
  refine J_last (i := (0)) dL_refusal_7 (Nat.lt_of_lt_of_le hs hle) ((hF.2.1 s hs).1.trans hks) (by rw [((hF.2.1 s hs).2.trans hzs)]; exact vpin0) ?_
  refine J_goto (tgt := 14) dL_refusal_8 (by decide) ?_
  refine J_iconst (x := 0) dL_refusal_14 (by decide) ?_
  exact J_iret (ty := .int) dL_refusal_15 rfl (rfl) (by exact ⟨K, hB, hF, Or.inl ⟨rfl, x9, he.symm, rfl⟩⟩)

theorem dL_cause_0 : decode cL_cause 0 = .ok (.aload_n 2, 1) := by decide +kernel
theorem dL_cause_1 : decode cL_cause 1 = .ok (.iconst 0, 1) := by decide +kernel
theorem dL_cause_2 : decode cL_cause 2 = .ok (.aload_n 0, 1) := by decide +kernel
theorem dL_cause_3 : decode cL_cause 3 = .ok (.iload_n 1, 1) := by decide +kernel
theorem dL_cause_4 : decode cL_cause 4 = .ok (.invokevirtual 81, 3) := by decide +kernel
set_option maxRecDepth 20000 in
theorem ggL_cause_X7_cause : GoodIn wsL_cause wsX7_cause := goodIn_ca (goodIn_ca (goodIn_ca (goodIn_r _ [7, 8, 9, 10, 11, 12, 13, 14, 15, 16, 17, 18, 19, 20, 21, 22] (by decide +kernel) (by decide +kernel)) (goodIn_sub (fun _ h => List.mem_cons_of_mem _ (List.mem_append_left _ (List.mem_append_right _ h))) (by decide +kernel))) (goodIn_sub (fun _ h => List.mem_cons_of_mem _ (List.mem_append_right _ h)) (by decide +kernel))) (goodIn_sub (fun _ h => List.mem_cons_of_mem _ (List.mem_append_left _ (List.mem_append_left _ (List.mem_append_right _ h)))) (by decide +kernel))
set_option maxRecDepth 20000 in
theorem gL_cause_X7_cause : GoodIn wsL_cause (wsV RL 81 RX7 yX7_cause wsX7_cause) := goodIn_app (goodIn_of _ (by decide +kernel)) ggL_cause_X7_cause
theorem yY_X7_cause : jY yX7_cause wsX7_cause cX7_cause 2 (some .int) 1 := ⟨⟨_, rfl⟩, by decide +kernel, by decide +kernel, by decide +kernel⟩
theorem dL_cause_12 : decode cL_cause 12 = .ok (.astore_n 3, 1) := by decide +kernel
theorem dL_cause_13 : decode cL_cause 13 = .ok (.iconst 1, 1) := by decide +kernel
theorem dL_cause_14 : decode cL_cause 14 = .ok (.ireturn, 1) := by decide +kernel
theorem dL_cause_15 : decode cL_cause 15 = .ok (.astore_n 3, 1) := by decide +kernel
theorem dL_cause_16 : decode cL_cause 16 = .ok (.iconst 2, 1) := by decide +kernel
theorem dL_cause_17 : decode cL_cause 17 = .ok (.ireturn, 1) := by decide +kernel
theorem dL_cause_7 : decode cL_cause 7 = .ok (.i2l, 1) := by decide +kernel
theorem dL_cause_8 : decode cL_cause 8 = .ok (.lastore, 1) := by decide +kernel
theorem dL_cause_9 : decode cL_cause 9 = .ok (.goto 9, 3) := by decide +kernel
theorem dL_cause_18 : decode cL_cause 18 = .ok (.iconst 0, 1) := by decide +kernel
theorem dL_cause_19 : decode cL_cause 19 = .ok (.ireturn, 1) := by decide +kernel
set_option maxHeartbeats 400000 in
set_option maxRecDepth 20000 in
theorem ct_L_cause (l : Launch) (D : va_G) (dA : Nat → ClassId) (hst : l.stackTraces = false) (M : jM) (v : Nat) (A : cA) (hA : jAb M v A) (y : Int32) (s : Nat) (hs : s < jn M) (hks : jk M s = 25) (hzs : jz M s = 1) : jCT l D dA yL_cause wsL_cause (30) (900) (6) (40) 1 [.ref (v), .int (y), .ref (s)] M (lPr M v (A) (oCa A y) [xISE, xNSE] (lgI s)) := by
  refine jBodyH (cc := cL_cause) (nL := 4) (rt := (some .int)) (ini := false) (by decide) rfl hst (Nat.le_of_ble_eq_true rfl) (by simp [Value.category]) (by intro h9; first | exact absurd h9 (by decide) | rfl) ?_
  show J l D dA RL cL_cause wsL_cause 4 false (some .int) [(0, 9, 12, 13), (0, 9, 15, 43)] (30) (900) (jF D dA (jn M) (lPr M v (A) (oCa A y) [xISE, xNSE] (lgI s)) 1) (jn M) (6) (40) (M) 0 [.ref (v), .int (y), .ref (s), .float 0] []
  refine J_aload_n (s) dL_cause_0 rfl rfl ?_
  refine J_iconst (x := 0) dL_cause_1 (by decide) ?_
  refine J_aload_n (v) dL_cause_2 rfl rfl ?_
  refine J_iload_n dL_cause_3 rfl rfl ?_
  refine J_calli (jrunV (As := [.int (y)]) (ct_X7_cause l D dA hst M v A hA y) dL_cause_4 yY_X7_cause gL_cause_X7_cause rfl cs10 (show v < jn M from Nat.lt_of_lt_of_le (Nat.lt_add_of_pos_right (by decide)) hA.1.1) hA.1.2.1 rfl ⟨by omega, by omega⟩ ⟨by omega, by omega⟩ rfl (Nat.le_of_ble_eq_true rfl)) ⟨by omega, by omega⟩ (Or.inr ⟨(jOk.ref (show v < jn M from Nat.lt_of_lt_of_le (Nat.lt_add_of_pos_right (by decide)) hA.1.1) (jOk.int (jOk.ref hs (jOk.float jOk.nil)))), (jOk.int (jOk.ref hs jOk.nil))⟩) (fun E K hp hle => ?_) (fun x9 K hp hle => ?_)
  · obtain ⟨he, hKM⟩ := hp
    have hB : jAb K v A := by rw [hKM]; exact hA
    have hF : jFv v M K := by rw [hKM]; exact jFv.rf
    have hm := lIn_cause E he.symm
    rcases List.mem_cons.mp hm with rfl | hm
    · refine JX_catchN (name := "java/lang/IllegalStateException") [] (0, 9, 12, 13) [(0, 9, 15, 43)] rfl (fun _ h => absurd h List.not_mem_nil) (by decide) (by decide) (List.mem_of_getElem? (i := 1) rfl) lca_xISE dL_cause_12 rfl (by decide) rfl (lv' := [.ref (v), .int (y), .ref (s), .float 0]) rfl ?_
      refine J_iconst (x := 1) dL_cause_13 (by decide) ?_
      exact J_iret (ty := .int) dL_cause_14 rfl (rfl) (by exact ⟨K, hB, hF, Or.inr ⟨0, _, rfl, by decide, he.symm, rfl, rfl⟩⟩)
    rcases List.mem_cons.mp hm with rfl | hm
    · refine JX_catchN (name := "java/util/NoSuchElementException") [(0, 9, 12, 13)] (0, 9, 15, 43) [] rfl (List.forall_mem_cons.mpr ⟨⟨by decide, "java/lang/IllegalStateException", (List.mem_of_getElem? (i := 1) rfl), lnc_xNSE_xISE⟩, fun _ h => absurd h List.not_mem_nil⟩) (by decide) (by decide) (List.mem_of_getElem? (i := 2) rfl) lca_xNSE dL_cause_15 rfl (by decide) rfl (lv' := [.ref (v), .int (y), .ref (s), .float 0]) rfl ?_
      refine J_iconst (x := 2) dL_cause_16 (by decide) ?_
      exact J_iret (ty := .int) dL_cause_17 rfl (rfl) (by exact ⟨K, hB, hF, Or.inr ⟨1, _, rfl, by decide, he.symm, rfl, rfl⟩⟩)
    exact absurd hm List.not_mem_nil
  obtain ⟨he, hKM⟩ := hp
  have hB : jAb K v A := by rw [hKM]; exact hA
  have hF : jFv v M K := by rw [hKM]; exact jFv.rf
  refine J_i2l dL_cause_7 ?_
  refine J_last (i := (0)) dL_cause_8 (Nat.lt_of_lt_of_le hs hle) ((hF.2.1 s hs).1.trans hks) (by rw [((hF.2.1 s hs).2.trans hzs)]; exact vpin0) ?_
  refine J_goto (tgt := 18) dL_cause_9 (by decide) ?_
  refine J_iconst (x := 0) dL_cause_18 (by decide) ?_
  exact J_iret (ty := .int) dL_cause_19 rfl (rfl) (by exact ⟨K, hB, hF, Or.inl ⟨rfl, x9, he.symm, rfl⟩⟩)

theorem dL_publish_0 : decode cL_publish 0 = .ok (.aload_n 2, 1) := by decide +kernel
theorem dL_publish_1 : decode cL_publish 1 = .ok (.iconst 0, 1) := by decide +kernel
theorem dL_publish_2 : decode cL_publish 2 = .ok (.aload_n 0, 1) := by decide +kernel
theorem dL_publish_3 : decode cL_publish 3 = .ok (.iload_n 1, 1) := by decide +kernel
theorem dL_publish_4 : decode cL_publish 4 = .ok (.invokevirtual 84, 3) := by decide +kernel
set_option maxRecDepth 20000 in
theorem ggL_publish_X7_publish : GoodIn wsL_publish wsX7_publish := goodIn_ca (goodIn_ca (goodIn_ca (goodIn_r _ [7, 8, 9, 10, 11, 6, 12, 13, 14, 15, 16, 17, 18, 19, 20, 21, 22, 23, 24, 25, 26, 27, 28, 29, 30, 31, 32, 33, 34, 35, 36, 37, 38, 39, 40, 41, 42, 43, 44, 45, 46, 47, 48, 49, 50, 51, 52, 53, 54, 55, 56, 57, 58, 59, 60, 61, 62, 63, 64, 65, 66, 67, 68, 69, 70, 71, 72, 73, 74, 75, 76, 77, 78, 79, 80, 81, 82, 83, 84, 85, 86] (by decide +kernel) (by decide +kernel)) (goodIn_sub (fun _ h => List.mem_cons_of_mem _ (List.mem_append_left _ (List.mem_append_right _ h))) (by decide +kernel))) (goodIn_sub (fun _ h => List.mem_cons_of_mem _ (List.mem_append_right _ h)) (by decide +kernel))) (goodIn_sub (fun _ h => List.mem_cons_of_mem _ (List.mem_append_left _ (List.mem_append_left _ (List.mem_append_right _ h)))) (by decide +kernel))
set_option maxRecDepth 20000 in
theorem gL_publish_X7_publish : GoodIn wsL_publish (wsV RL 84 RX7 yX7_publish wsX7_publish) := goodIn_app (goodIn_of _ (by decide +kernel)) ggL_publish_X7_publish
theorem yY_X7_publish : jY yX7_publish wsX7_publish cX7_publish 2 (some .int) 1 := ⟨⟨_, rfl⟩, by decide +kernel, by decide +kernel, by decide +kernel⟩
theorem dL_publish_12 : decode cL_publish 12 = .ok (.astore_n 3, 1) := by decide +kernel
theorem dL_publish_13 : decode cL_publish 13 = .ok (.iconst 1, 1) := by decide +kernel
theorem dL_publish_14 : decode cL_publish 14 = .ok (.ireturn, 1) := by decide +kernel
theorem dL_publish_15 : decode cL_publish 15 = .ok (.astore_n 3, 1) := by decide +kernel
theorem dL_publish_16 : decode cL_publish 16 = .ok (.iconst 2, 1) := by decide +kernel
theorem dL_publish_17 : decode cL_publish 17 = .ok (.ireturn, 1) := by decide +kernel
theorem dL_publish_7 : decode cL_publish 7 = .ok (.i2l, 1) := by decide +kernel
theorem dL_publish_8 : decode cL_publish 8 = .ok (.lastore, 1) := by decide +kernel
theorem dL_publish_9 : decode cL_publish 9 = .ok (.goto 9, 3) := by decide +kernel
theorem dL_publish_18 : decode cL_publish 18 = .ok (.iconst 0, 1) := by decide +kernel
theorem dL_publish_19 : decode cL_publish 19 = .ok (.ireturn, 1) := by decide +kernel
set_option maxHeartbeats 400000 in
set_option maxRecDepth 20000 in
theorem ct_L_publish (l : Launch) (D : va_G) (dA : Nat → ClassId) (hst : l.stackTraces = false) (M : jM) (v : Nat) (A : cA) (hA : jAb M v A) (x : Int32) (s : Nat) (hs : s < jn M) (hks : jk M s = 25) (hzs : jz M s = 1) : jCT l D dA yL_publish wsL_publish (30) (900) (6) (40) 1 [.ref (v), .int (x), .ref (s)] M (lPr M v ((sPub A x).2) (sPub A x).1 [xIAE, xUOE] (lgI s)) := by
  refine jBodyH (cc := cL_publish) (nL := 4) (rt := (some .int)) (ini := false) (by decide) rfl hst (Nat.le_of_ble_eq_true rfl) (by simp [Value.category]) (by intro h9; first | exact absurd h9 (by decide) | rfl) ?_
  show J l D dA RL cL_publish wsL_publish 4 false (some .int) [(0, 9, 12, 21), (0, 9, 15, 23)] (30) (900) (jF D dA (jn M) (lPr M v ((sPub A x).2) (sPub A x).1 [xIAE, xUOE] (lgI s)) 1) (jn M) (6) (40) (M) 0 [.ref (v), .int (x), .ref (s), .float 0] []
  refine J_aload_n (s) dL_publish_0 rfl rfl ?_
  refine J_iconst (x := 0) dL_publish_1 (by decide) ?_
  refine J_aload_n (v) dL_publish_2 rfl rfl ?_
  refine J_iload_n dL_publish_3 rfl rfl ?_
  refine J_calli (jrunV (As := [.int (x)]) (ct_X7_publish l D dA hst M v A hA x) dL_publish_4 yY_X7_publish gL_publish_X7_publish rfl cs10 (show v < jn M from Nat.lt_of_lt_of_le (Nat.lt_add_of_pos_right (by decide)) hA.1.1) hA.1.2.1 rfl ⟨by omega, by omega⟩ ⟨by omega, by omega⟩ rfl (Nat.le_of_ble_eq_true rfl)) ⟨by omega, by omega⟩ (Or.inr ⟨(jOk.ref (show v < jn M from Nat.lt_of_lt_of_le (Nat.lt_add_of_pos_right (by decide)) hA.1.1) (jOk.int (jOk.ref hs (jOk.float jOk.nil)))), (jOk.int (jOk.ref hs jOk.nil))⟩) (fun E K hp hle => ?_) (fun x9 K hp hle => ?_)
  · obtain ⟨he, hB, hF⟩ := hp
    have hm := lIn_publish E he.symm
    rcases List.mem_cons.mp hm with rfl | hm
    · refine JX_catchN (name := "java/lang/IllegalArgumentException") [] (0, 9, 12, 21) [(0, 9, 15, 23)] rfl (fun _ h => absurd h List.not_mem_nil) (by decide) (by decide) (List.mem_of_getElem? (i := 1) rfl) lca_xIAE dL_publish_12 rfl (by decide) rfl (lv' := [.ref (v), .int (x), .ref (s), .float 0]) rfl ?_
      refine J_iconst (x := 1) dL_publish_13 (by decide) ?_
      exact J_iret (ty := .int) dL_publish_14 rfl (rfl) (by exact ⟨K, hB, hF, Or.inr ⟨0, _, rfl, by decide, he.symm, rfl, rfl⟩⟩)
    rcases List.mem_cons.mp hm with rfl | hm
    · refine JX_catchN (name := "java/lang/UnsupportedOperationException") [(0, 9, 12, 21)] (0, 9, 15, 23) [] rfl (List.forall_mem_cons.mpr ⟨⟨by decide, "java/lang/IllegalArgumentException", (List.mem_of_getElem? (i := 1) rfl), lnc_xUOE_xIAE⟩, fun _ h => absurd h List.not_mem_nil⟩) (by decide) (by decide) (List.mem_of_getElem? (i := 2) rfl) lca_xUOE dL_publish_15 rfl (by decide) rfl (lv' := [.ref (v), .int (x), .ref (s), .float 0]) rfl ?_
      refine J_iconst (x := 2) dL_publish_16 (by decide) ?_
      exact J_iret (ty := .int) dL_publish_17 rfl (rfl) (by exact ⟨K, hB, hF, Or.inr ⟨1, _, rfl, by decide, he.symm, rfl, rfl⟩⟩)
    exact absurd hm List.not_mem_nil
  obtain ⟨he, hB, hF⟩ := hp
  refine J_i2l dL_publish_7 ?_
  refine J_last (i := (0)) dL_publish_8 (Nat.lt_of_lt_of_le hs hle) ((hF.2.1 s hs).1.trans hks) (by rw [((hF.2.1 s hs).2.trans hzs)]; exact vpin0) ?_
  refine J_goto (tgt := 18) dL_publish_9 (by decide) ?_
  refine J_iconst (x := 0) dL_publish_18 (by decide) ?_
  exact J_iret (ty := .int) dL_publish_19 rfl (rfl) (by exact ⟨K, hB, hF, Or.inl ⟨rfl, x9, he.symm, rfl⟩⟩)

theorem dL_withdraw_0 : decode cL_withdraw 0 = .ok (.aload_n 2, 1) := by decide +kernel
theorem dL_withdraw_1 : decode cL_withdraw 1 = .ok (.iconst 0, 1) := by decide +kernel
theorem dL_withdraw_2 : decode cL_withdraw 2 = .ok (.aload_n 0, 1) := by decide +kernel
theorem dL_withdraw_3 : decode cL_withdraw 3 = .ok (.iload_n 1, 1) := by decide +kernel
theorem dL_withdraw_4 : decode cL_withdraw 4 = .ok (.invokevirtual 87, 3) := by decide +kernel
set_option maxRecDepth 20000 in
theorem ggL_withdraw_X7_withdraw : GoodIn wsL_withdraw wsX7_withdraw := goodIn_ca (goodIn_ca (goodIn_ca (goodIn_r _ [7, 8, 9, 10, 11, 6, 12, 13, 14, 15, 16, 17, 18, 19, 20, 21, 22, 23, 24, 25, 26, 27, 28, 29, 30, 31, 32, 33, 34, 35, 36, 37, 38, 39, 40, 41, 42, 43, 44, 45, 46, 47, 48, 49, 50, 51, 52, 53, 54, 55, 56, 57, 58, 59, 60, 61, 62, 63, 64, 65, 66, 67, 68, 69, 70, 71, 72, 73, 74, 75, 76, 77, 78, 79, 80, 81, 82, 83, 84, 85, 86] (by decide +kernel) (by decide +kernel)) (goodIn_sub (fun _ h => List.mem_cons_of_mem _ (List.mem_append_left _ (List.mem_append_right _ h))) (by decide +kernel))) (goodIn_sub (fun _ h => List.mem_cons_of_mem _ (List.mem_append_left _ (List.mem_append_left _ (List.mem_append_right _ h)))) (by decide +kernel))) (goodIn_sub (fun _ h => List.mem_cons_of_mem _ (List.mem_append_right _ h)) (by decide +kernel))
set_option maxRecDepth 20000 in
theorem gL_withdraw_X7_withdraw : GoodIn wsL_withdraw (wsV RL 87 RX7 yX7_withdraw wsX7_withdraw) := goodIn_app (goodIn_of _ (by decide +kernel)) ggL_withdraw_X7_withdraw
theorem yY_X7_withdraw : jY yX7_withdraw wsX7_withdraw cX7_withdraw 2 (some .int) 1 := ⟨⟨_, rfl⟩, by decide +kernel, by decide +kernel, by decide +kernel⟩
theorem dL_withdraw_12 : decode cL_withdraw 12 = .ok (.astore_n 3, 1) := by decide +kernel
theorem dL_withdraw_13 : decode cL_withdraw 13 = .ok (.iconst 1, 1) := by decide +kernel
theorem dL_withdraw_14 : decode cL_withdraw 14 = .ok (.ireturn, 1) := by decide +kernel
theorem dL_withdraw_15 : decode cL_withdraw 15 = .ok (.astore_n 3, 1) := by decide +kernel
theorem dL_withdraw_16 : decode cL_withdraw 16 = .ok (.iconst 2, 1) := by decide +kernel
theorem dL_withdraw_17 : decode cL_withdraw 17 = .ok (.ireturn, 1) := by decide +kernel
theorem dL_withdraw_7 : decode cL_withdraw 7 = .ok (.i2l, 1) := by decide +kernel
theorem dL_withdraw_8 : decode cL_withdraw 8 = .ok (.lastore, 1) := by decide +kernel
theorem dL_withdraw_9 : decode cL_withdraw 9 = .ok (.goto 9, 3) := by decide +kernel
theorem dL_withdraw_18 : decode cL_withdraw 18 = .ok (.iconst 0, 1) := by decide +kernel
theorem dL_withdraw_19 : decode cL_withdraw 19 = .ok (.ireturn, 1) := by decide +kernel
set_option maxHeartbeats 400000 in
set_option maxRecDepth 20000 in
theorem ct_L_withdraw (l : Launch) (D : va_G) (dA : Nat → ClassId) (hst : l.stackTraces = false) (M : jM) (v : Nat) (A : cA) (hA : jAb M v A) (x : Int32) (s : Nat) (hs : s < jn M) (hks : jk M s = 25) (hzs : jz M s = 1) : jCT l D dA yL_withdraw wsL_withdraw (30) (900) (6) (40) 1 [.ref (v), .int (x), .ref (s)] M (lPr M v ((sWdr A x).2) (sWdr A x).1 [xIAE, xUOE] (lgI s)) := by
  refine jBodyH (cc := cL_withdraw) (nL := 4) (rt := (some .int)) (ini := false) (by decide) rfl hst (Nat.le_of_ble_eq_true rfl) (by simp [Value.category]) (by intro h9; first | exact absurd h9 (by decide) | rfl) ?_
  show J l D dA RL cL_withdraw wsL_withdraw 4 false (some .int) [(0, 9, 12, 21), (0, 9, 15, 23)] (30) (900) (jF D dA (jn M) (lPr M v ((sWdr A x).2) (sWdr A x).1 [xIAE, xUOE] (lgI s)) 1) (jn M) (6) (40) (M) 0 [.ref (v), .int (x), .ref (s), .float 0] []
  refine J_aload_n (s) dL_withdraw_0 rfl rfl ?_
  refine J_iconst (x := 0) dL_withdraw_1 (by decide) ?_
  refine J_aload_n (v) dL_withdraw_2 rfl rfl ?_
  refine J_iload_n dL_withdraw_3 rfl rfl ?_
  refine J_calli (jrunV (As := [.int (x)]) (ct_X7_withdraw l D dA hst M v A hA x) dL_withdraw_4 yY_X7_withdraw gL_withdraw_X7_withdraw rfl cs10 (show v < jn M from Nat.lt_of_lt_of_le (Nat.lt_add_of_pos_right (by decide)) hA.1.1) hA.1.2.1 rfl ⟨by omega, by omega⟩ ⟨by omega, by omega⟩ rfl (Nat.le_of_ble_eq_true rfl)) ⟨by omega, by omega⟩ (Or.inr ⟨(jOk.ref (show v < jn M from Nat.lt_of_lt_of_le (Nat.lt_add_of_pos_right (by decide)) hA.1.1) (jOk.int (jOk.ref hs (jOk.float jOk.nil)))), (jOk.int (jOk.ref hs jOk.nil))⟩) (fun E K hp hle => ?_) (fun x9 K hp hle => ?_)
  · obtain ⟨he, hB, hF⟩ := hp
    have hm := lIn_withdraw E he.symm
    rcases List.mem_cons.mp hm with rfl | hm
    · refine JX_catchN (name := "java/lang/IllegalArgumentException") [] (0, 9, 12, 21) [(0, 9, 15, 23)] rfl (fun _ h => absurd h List.not_mem_nil) (by decide) (by decide) (List.mem_of_getElem? (i := 1) rfl) lca_xIAE dL_withdraw_12 rfl (by decide) rfl (lv' := [.ref (v), .int (x), .ref (s), .float 0]) rfl ?_
      refine J_iconst (x := 1) dL_withdraw_13 (by decide) ?_
      exact J_iret (ty := .int) dL_withdraw_14 rfl (rfl) (by exact ⟨K, hB, hF, Or.inr ⟨0, _, rfl, by decide, he.symm, rfl, rfl⟩⟩)
    rcases List.mem_cons.mp hm with rfl | hm
    · refine JX_catchN (name := "java/lang/UnsupportedOperationException") [(0, 9, 12, 21)] (0, 9, 15, 23) [] rfl (List.forall_mem_cons.mpr ⟨⟨by decide, "java/lang/IllegalArgumentException", (List.mem_of_getElem? (i := 1) rfl), lnc_xUOE_xIAE⟩, fun _ h => absurd h List.not_mem_nil⟩) (by decide) (by decide) (List.mem_of_getElem? (i := 2) rfl) lca_xUOE dL_withdraw_15 rfl (by decide) rfl (lv' := [.ref (v), .int (x), .ref (s), .float 0]) rfl ?_
      refine J_iconst (x := 2) dL_withdraw_16 (by decide) ?_
      exact J_iret (ty := .int) dL_withdraw_17 rfl (rfl) (by exact ⟨K, hB, hF, Or.inr ⟨1, _, rfl, by decide, he.symm, rfl, rfl⟩⟩)
    exact absurd hm List.not_mem_nil
  obtain ⟨he, hB, hF⟩ := hp
  refine J_i2l dL_withdraw_7 ?_
  refine J_last (i := (0)) dL_withdraw_8 (Nat.lt_of_lt_of_le hs hle) ((hF.2.1 s hs).1.trans hks) (by rw [((hF.2.1 s hs).2.trans hzs)]; exact vpin0) ?_
  refine J_goto (tgt := 18) dL_withdraw_9 (by decide) ?_
  refine J_iconst (x := 0) dL_withdraw_18 (by decide) ?_
  exact J_iret (ty := .int) dL_withdraw_19 rfl (rfl) (by exact ⟨K, hB, hF, Or.inl ⟨rfl, x9, he.symm, rfl⟩⟩)

theorem dL_published_0 : decode cL_published 0 = .ok (.aload_n 2, 1) := by decide +kernel
theorem dL_published_1 : decode cL_published 1 = .ok (.iconst 0, 1) := by decide +kernel
theorem dL_published_2 : decode cL_published 2 = .ok (.aload_n 0, 1) := by decide +kernel
theorem dL_published_3 : decode cL_published 3 = .ok (.iload_n 1, 1) := by decide +kernel
theorem dL_published_4 : decode cL_published 4 = .ok (.invokevirtual 90, 3) := by decide +kernel
set_option maxRecDepth 20000 in
theorem ggL_published_X7_published : GoodIn wsL_published wsX7_published := goodIn_ca (goodIn_ca (goodIn_r _ [6, 7, 8, 9, 10, 11, 12, 13, 14, 15, 16, 17, 18, 19, 20, 21, 22, 23, 24, 25, 26, 27, 28, 29, 30, 31, 32, 33] (by decide +kernel) (by decide +kernel)) (goodIn_sub (fun _ h => List.mem_cons_of_mem _ (List.mem_append_right _ h)) (by decide +kernel))) (goodIn_sub (fun _ h => List.mem_cons_of_mem _ (List.mem_append_left _ (List.mem_append_right _ h))) (by decide +kernel))
set_option maxRecDepth 20000 in
theorem gL_published_X7_published : GoodIn wsL_published (wsV RL 90 RX7 yX7_published wsX7_published) := goodIn_app (goodIn_of _ (by decide +kernel)) ggL_published_X7_published
theorem yY_X7_published : jY yX7_published wsX7_published cX7_published 2 (some .int) 1 := ⟨⟨_, rfl⟩, by decide +kernel, by decide +kernel, by decide +kernel⟩
theorem dL_published_12 : decode cL_published 12 = .ok (.astore_n 3, 1) := by decide +kernel
theorem dL_published_13 : decode cL_published 13 = .ok (.iconst 1, 1) := by decide +kernel
theorem dL_published_14 : decode cL_published 14 = .ok (.ireturn, 1) := by decide +kernel
theorem dL_published_7 : decode cL_published 7 = .ok (.i2l, 1) := by decide +kernel
theorem dL_published_8 : decode cL_published 8 = .ok (.lastore, 1) := by decide +kernel
theorem dL_published_9 : decode cL_published 9 = .ok (.goto 6, 3) := by decide +kernel
theorem dL_published_15 : decode cL_published 15 = .ok (.iconst 0, 1) := by decide +kernel
theorem dL_published_16 : decode cL_published 16 = .ok (.ireturn, 1) := by decide +kernel
set_option maxHeartbeats 400000 in
set_option maxRecDepth 20000 in
theorem ct_L_published (l : Launch) (D : va_G) (dA : Nat → ClassId) (hst : l.stackTraces = false) (M : jM) (v : Nat) (A : cA) (hA : jAb M v A) (y : Int32) (s : Nat) (hs : s < jn M) (hks : jk M s = 25) (hzs : jz M s = 1) : jCT l D dA yL_published wsL_published (30) (900) (6) (40) 1 [.ref (v), .int (y), .ref (s)] M (lPr M v (A) (oPb A y) [xNSE] (lgI s)) := by
  refine jBodyH (cc := cL_published) (nL := 4) (rt := (some .int)) (ini := false) (by decide) rfl hst (Nat.le_of_ble_eq_true rfl) (by simp [Value.category]) (by intro h9; first | exact absurd h9 (by decide) | rfl) ?_
  show J l D dA RL cL_published wsL_published 4 false (some .int) [(0, 9, 12, 43)] (30) (900) (jF D dA (jn M) (lPr M v (A) (oPb A y) [xNSE] (lgI s)) 1) (jn M) (6) (40) (M) 0 [.ref (v), .int (y), .ref (s), .float 0] []
  refine J_aload_n (s) dL_published_0 rfl rfl ?_
  refine J_iconst (x := 0) dL_published_1 (by decide) ?_
  refine J_aload_n (v) dL_published_2 rfl rfl ?_
  refine J_iload_n dL_published_3 rfl rfl ?_
  refine J_calli (jrunV (As := [.int (y)]) (ct_X7_published l D dA hst M v A hA y) dL_published_4 yY_X7_published gL_published_X7_published rfl cs10 (show v < jn M from Nat.lt_of_lt_of_le (Nat.lt_add_of_pos_right (by decide)) hA.1.1) hA.1.2.1 rfl ⟨by omega, by omega⟩ ⟨by omega, by omega⟩ rfl (Nat.le_of_ble_eq_true rfl)) ⟨by omega, by omega⟩ (Or.inr ⟨(jOk.ref (show v < jn M from Nat.lt_of_lt_of_le (Nat.lt_add_of_pos_right (by decide)) hA.1.1) (jOk.int (jOk.ref hs (jOk.float jOk.nil)))), (jOk.int (jOk.ref hs jOk.nil))⟩) (fun E K hp hle => ?_) (fun x9 K hp hle => ?_)
  · obtain ⟨he, hKM⟩ := hp
    have hB : jAb K v A := by rw [hKM]; exact hA
    have hF : jFv v M K := by rw [hKM]; exact jFv.rf
    have hm := lIn_published E he.symm
    rcases List.mem_cons.mp hm with rfl | hm
    · refine JX_catchN (name := "java/util/NoSuchElementException") [] (0, 9, 12, 43) [] rfl (fun _ h => absurd h List.not_mem_nil) (by decide) (by decide) (List.mem_of_getElem? (i := 1) rfl) lca_xNSE dL_published_12 rfl (by decide) rfl (lv' := [.ref (v), .int (y), .ref (s), .float 0]) rfl ?_
      refine J_iconst (x := 1) dL_published_13 (by decide) ?_
      exact J_iret (ty := .int) dL_published_14 rfl (rfl) (by exact ⟨K, hB, hF, Or.inr ⟨0, _, rfl, by decide, he.symm, rfl, rfl⟩⟩)
    exact absurd hm List.not_mem_nil
  obtain ⟨he, hKM⟩ := hp
  have hB : jAb K v A := by rw [hKM]; exact hA
  have hF : jFv v M K := by rw [hKM]; exact jFv.rf
  refine J_i2l dL_published_7 ?_
  refine J_last (i := (0)) dL_published_8 (Nat.lt_of_lt_of_le hs hle) ((hF.2.1 s hs).1.trans hks) (by rw [((hF.2.1 s hs).2.trans hzs)]; exact vpin0) ?_
  refine J_goto (tgt := 15) dL_published_9 (by decide) ?_
  refine J_iconst (x := 0) dL_published_15 (by decide) ?_
  exact J_iret (ty := .int) dL_published_16 rfl (rfl) (by exact ⟨K, hB, hF, Or.inl ⟨rfl, x9, he.symm, rfl⟩⟩)

theorem dL_best_0 : decode cL_best 0 = .ok (.aload_n 3, 1) := by decide +kernel
theorem dL_best_1 : decode cL_best 1 = .ok (.iconst 0, 1) := by decide +kernel
theorem dL_best_2 : decode cL_best 2 = .ok (.aload_n 0, 1) := by decide +kernel
theorem dL_best_3 : decode cL_best 3 = .ok (.iload_n 1, 1) := by decide +kernel
theorem dL_best_4 : decode cL_best 4 = .ok (.iload_n 2, 1) := by decide +kernel
theorem dL_best_5 : decode cL_best 5 = .ok (.invokevirtual 93, 3) := by decide +kernel
set_option maxRecDepth 20000 in
theorem ggL_best_X7_best : GoodIn wsL_best wsX7_best := goodIn_ca (goodIn_ca (goodIn_ca (goodIn_r _ [7, 8, 9, 10, 11, 12, 13, 6, 14, 15, 16, 17, 18, 19, 20, 21, 22, 23, 24, 25, 26, 27, 28, 29, 30, 31, 32, 33, 34, 35, 36, 37, 38, 39, 40, 41, 42, 43, 44, 45, 46, 47, 48, 49, 50, 51, 52, 53, 54, 55, 56, 57, 58, 59, 60, 61, 62, 63, 64, 65, 66, 67, 68, 69, 70, 71, 72, 73, 74, 75, 76, 77, 78, 79, 80] (by decide +kernel) (by decide +kernel)) (goodIn_sub (fun _ h => List.mem_cons_of_mem _ (List.mem_append_left _ (List.mem_append_right _ h))) (by decide +kernel))) (goodIn_sub (fun _ h => List.mem_cons_of_mem _ (List.mem_append_right _ h)) (by decide +kernel))) (goodIn_sub (fun _ h => List.mem_cons_of_mem _ (List.mem_append_left _ (List.mem_append_left _ (List.mem_append_right _ h)))) (by decide +kernel))
set_option maxRecDepth 20000 in
theorem gL_best_X7_best : GoodIn wsL_best (wsV RL 93 RX7 yX7_best wsX7_best) := goodIn_app (goodIn_of _ (by decide +kernel)) ggL_best_X7_best
theorem yY_X7_best : jY yX7_best wsX7_best cX7_best 4 (some .int) 2 := ⟨⟨_, rfl⟩, by decide +kernel, by decide +kernel, by decide +kernel⟩
theorem dL_best_13 : decode cL_best 13 = .ok (.astore 4, 2) := by decide +kernel
theorem dL_best_15 : decode cL_best 15 = .ok (.iconst 1, 1) := by decide +kernel
theorem dL_best_16 : decode cL_best 16 = .ok (.ireturn, 1) := by decide +kernel
theorem dL_best_17 : decode cL_best 17 = .ok (.astore 4, 2) := by decide +kernel
theorem dL_best_19 : decode cL_best 19 = .ok (.iconst 2, 1) := by decide +kernel
theorem dL_best_20 : decode cL_best 20 = .ok (.ireturn, 1) := by decide +kernel
theorem dL_best_8 : decode cL_best 8 = .ok (.i2l, 1) := by decide +kernel
theorem dL_best_9 : decode cL_best 9 = .ok (.lastore, 1) := by decide +kernel
theorem dL_best_10 : decode cL_best 10 = .ok (.goto 11, 3) := by decide +kernel
theorem dL_best_21 : decode cL_best 21 = .ok (.iconst 0, 1) := by decide +kernel
theorem dL_best_22 : decode cL_best 22 = .ok (.ireturn, 1) := by decide +kernel
set_option maxHeartbeats 400000 in
set_option maxRecDepth 20000 in
theorem ct_L_best (l : Launch) (D : va_G) (dA : Nat → ClassId) (hst : l.stackTraces = false) (M : jM) (v : Nat) (A : cA) (hA : jAb M v A) (x : Int32) (b : Bool) (s : Nat) (hs : s < jn M) (hks : jk M s = 25) (hzs : jz M s = 1) : jCT l D dA yL_best wsL_best (30) (900) (6) (40) 1 [.ref (v), .int (x), .int (jb (b)), .ref (s)] M (lPr M v (A) (oBe A x b) [xIOOBE, xNSE] (lgI s)) := by
  refine jBodyH (cc := cL_best) (nL := 5) (rt := (some .int)) (ini := false) (by decide) rfl hst (Nat.le_of_ble_eq_true rfl) (by simp [Value.category]) (by intro h9; first | exact absurd h9 (by decide) | rfl) ?_
  show J l D dA RL cL_best wsL_best 5 false (some .int) [(0, 10, 13, 19), (0, 10, 17, 43)] (30) (900) (jF D dA (jn M) (lPr M v (A) (oBe A x b) [xIOOBE, xNSE] (lgI s)) 1) (jn M) (6) (40) (M) 0 [.ref (v), .int (x), .int (jb (b)), .ref (s), .float 0] []
  refine J_aload_n (s) dL_best_0 rfl rfl ?_
  refine J_iconst (x := 0) dL_best_1 (by decide) ?_
  refine J_aload_n (v) dL_best_2 rfl rfl ?_
  refine J_iload_n dL_best_3 rfl rfl ?_
  refine J_iload_n dL_best_4 rfl rfl ?_
  refine J_calli (jrunV (As := [.int (x), .int (jb (b))]) (ct_X7_best l D dA hst M v A hA x b) dL_best_5 yY_X7_best gL_best_X7_best rfl cs10 (show v < jn M from Nat.lt_of_lt_of_le (Nat.lt_add_of_pos_right (by decide)) hA.1.1) hA.1.2.1 rfl ⟨by omega, by omega⟩ ⟨by omega, by omega⟩ rfl (Nat.le_of_ble_eq_true rfl)) ⟨by omega, by omega⟩ (Or.inr ⟨(jOk.ref (show v < jn M from Nat.lt_of_lt_of_le (Nat.lt_add_of_pos_right (by decide)) hA.1.1) (jOk.int (jOk.int (jOk.ref hs (jOk.float jOk.nil))))), (jOk.int (jOk.ref hs jOk.nil))⟩) (fun E K hp hle => ?_) (fun x9 K hp hle => ?_)
  · obtain ⟨he, hKM⟩ := hp
    have hB : jAb K v A := by rw [hKM]; exact hA
    have hF : jFv v M K := by rw [hKM]; exact jFv.rf
    have hm := lIn_best E he.symm
    rcases List.mem_cons.mp hm with rfl | hm
    · refine JX_catch (name := "java/lang/IndexOutOfBoundsException") [] (0, 10, 13, 19) [(0, 10, 17, 43)] rfl (fun _ h => absurd h List.not_mem_nil) (by decide) (by decide) (List.mem_of_getElem? (i := 1) rfl) lca_xIOOBE dL_best_13 (by decide) rfl (lv' := [.ref (v), .int (x), .int (jb (b)), .ref (s), .float 0]) rfl ?_
      refine J_iconst (x := 1) dL_best_15 (by decide) ?_
      exact J_iret (ty := .int) dL_best_16 rfl (rfl) (by exact ⟨K, hB, hF, Or.inr ⟨0, _, rfl, by decide, he.symm, rfl, rfl⟩⟩)
    rcases List.mem_cons.mp hm with rfl | hm
    · refine JX_catch (name := "java/util/NoSuchElementException") [(0, 10, 13, 19)] (0, 10, 17, 43) [] rfl (List.forall_mem_cons.mpr ⟨⟨by decide, "java/lang/IndexOutOfBoundsException", (List.mem_of_getElem? (i := 1) rfl), lnc_xNSE_xIOOBE⟩, fun _ h => absurd h List.not_mem_nil⟩) (by decide) (by decide) (List.mem_of_getElem? (i := 2) rfl) lca_xNSE dL_best_17 (by decide) rfl (lv' := [.ref (v), .int (x), .int (jb (b)), .ref (s), .float 0]) rfl ?_
      refine J_iconst (x := 2) dL_best_19 (by decide) ?_
      exact J_iret (ty := .int) dL_best_20 rfl (rfl) (by exact ⟨K, hB, hF, Or.inr ⟨1, _, rfl, by decide, he.symm, rfl, rfl⟩⟩)
    exact absurd hm List.not_mem_nil
  obtain ⟨he, hKM⟩ := hp
  have hB : jAb K v A := by rw [hKM]; exact hA
  have hF : jFv v M K := by rw [hKM]; exact jFv.rf
  refine J_i2l dL_best_8 ?_
  refine J_last (i := (0)) dL_best_9 (Nat.lt_of_lt_of_le hs hle) ((hF.2.1 s hs).1.trans hks) (by rw [((hF.2.1 s hs).2.trans hzs)]; exact vpin0) ?_
  refine J_goto (tgt := 21) dL_best_10 (by decide) ?_
  refine J_iconst (x := 0) dL_best_21 (by decide) ?_
  exact J_iret (ty := .int) dL_best_22 rfl (rfl) (by exact ⟨K, hB, hF, Or.inl ⟨rfl, x9, he.symm, rfl⟩⟩)

theorem dL_matching_0 : decode cL_matching 0 = .ok (.aload_n 3, 1) := by decide +kernel
theorem dL_matching_1 : decode cL_matching 1 = .ok (.iconst 0, 1) := by decide +kernel
theorem dL_matching_2 : decode cL_matching 2 = .ok (.aload_n 0, 1) := by decide +kernel
theorem dL_matching_3 : decode cL_matching 3 = .ok (.iload_n 1, 1) := by decide +kernel
theorem dL_matching_4 : decode cL_matching 4 = .ok (.iload_n 2, 1) := by decide +kernel
theorem dL_matching_5 : decode cL_matching 5 = .ok (.invokevirtual 96, 3) := by decide +kernel
set_option maxRecDepth 20000 in
theorem ggL_matching_X7_matching : GoodIn wsL_matching wsX7_matching := goodIn_ca (goodIn_ca (goodIn_ca (goodIn_r _ [7, 8, 9, 10, 11, 6, 12, 13, 14, 15, 16, 17, 18, 19, 20, 21, 22, 23, 24, 25, 26, 27, 28, 29, 30, 31, 32, 33, 34, 35, 36, 37, 38, 39, 40, 41, 42, 43, 44, 45, 46, 47, 48, 49, 50, 51, 52, 53, 54, 55, 56, 57, 58, 59, 60, 61, 62, 63, 64, 65, 66, 67, 68, 69, 70, 71, 72, 73, 74, 75, 76, 77, 78, 79, 80] (by decide +kernel) (by decide +kernel)) (goodIn_sub (fun _ h => List.mem_cons_of_mem _ (List.mem_append_left _ (List.mem_append_right _ h))) (by decide +kernel))) (goodIn_sub (fun _ h => List.mem_cons_of_mem _ (List.mem_append_right _ h)) (by decide +kernel))) (goodIn_sub (fun _ h => List.mem_cons_of_mem _ (List.mem_append_left _ (List.mem_append_left _ (List.mem_append_right _ h)))) (by decide +kernel))
set_option maxRecDepth 20000 in
theorem gL_matching_X7_matching : GoodIn wsL_matching (wsV RL 96 RX7 yX7_matching wsX7_matching) := goodIn_app (goodIn_of _ (by decide +kernel)) ggL_matching_X7_matching
theorem yY_X7_matching : jY yX7_matching wsX7_matching cX7_matching 3 (some .int) 2 := ⟨⟨_, rfl⟩, by decide +kernel, by decide +kernel, by decide +kernel⟩
theorem dL_matching_13 : decode cL_matching 13 = .ok (.astore 4, 2) := by decide +kernel
theorem dL_matching_15 : decode cL_matching 15 = .ok (.iconst 1, 1) := by decide +kernel
theorem dL_matching_16 : decode cL_matching 16 = .ok (.ireturn, 1) := by decide +kernel
theorem dL_matching_17 : decode cL_matching 17 = .ok (.astore 4, 2) := by decide +kernel
theorem dL_matching_19 : decode cL_matching 19 = .ok (.iconst 2, 1) := by decide +kernel
theorem dL_matching_20 : decode cL_matching 20 = .ok (.ireturn, 1) := by decide +kernel
theorem dL_matching_8 : decode cL_matching 8 = .ok (.i2l, 1) := by decide +kernel
theorem dL_matching_9 : decode cL_matching 9 = .ok (.lastore, 1) := by decide +kernel
theorem dL_matching_10 : decode cL_matching 10 = .ok (.goto 11, 3) := by decide +kernel
theorem dL_matching_21 : decode cL_matching 21 = .ok (.iconst 0, 1) := by decide +kernel
theorem dL_matching_22 : decode cL_matching 22 = .ok (.ireturn, 1) := by decide +kernel
set_option maxHeartbeats 400000 in
set_option maxRecDepth 20000 in
theorem ct_L_matching (l : Launch) (D : va_G) (dA : Nat → ClassId) (hst : l.stackTraces = false) (M : jM) (v : Nat) (A : cA) (hA : jAb M v A) (x : Int32) (b : Bool) (s : Nat) (hs : s < jn M) (hks : jk M s = 25) (hzs : jz M s = 1) : jCT l D dA yL_matching wsL_matching (30) (900) (6) (40) 1 [.ref (v), .int (x), .int (jb (b)), .ref (s)] M (lPr M v (A) (oMa A x b) [xIOOBE, xNSE] (lgI s)) := by
  refine jBodyH (cc := cL_matching) (nL := 5) (rt := (some .int)) (ini := false) (by decide) rfl hst (Nat.le_of_ble_eq_true rfl) (by simp [Value.category]) (by intro h9; first | exact absurd h9 (by decide) | rfl) ?_
  show J l D dA RL cL_matching wsL_matching 5 false (some .int) [(0, 10, 13, 19), (0, 10, 17, 43)] (30) (900) (jF D dA (jn M) (lPr M v (A) (oMa A x b) [xIOOBE, xNSE] (lgI s)) 1) (jn M) (6) (40) (M) 0 [.ref (v), .int (x), .int (jb (b)), .ref (s), .float 0] []
  refine J_aload_n (s) dL_matching_0 rfl rfl ?_
  refine J_iconst (x := 0) dL_matching_1 (by decide) ?_
  refine J_aload_n (v) dL_matching_2 rfl rfl ?_
  refine J_iload_n dL_matching_3 rfl rfl ?_
  refine J_iload_n dL_matching_4 rfl rfl ?_
  refine J_calli (jrunV (As := [.int (x), .int (jb (b))]) (ct_X7_matching l D dA hst M v A hA x b) dL_matching_5 yY_X7_matching gL_matching_X7_matching rfl cs10 (show v < jn M from Nat.lt_of_lt_of_le (Nat.lt_add_of_pos_right (by decide)) hA.1.1) hA.1.2.1 rfl ⟨by omega, by omega⟩ ⟨by omega, by omega⟩ rfl (Nat.le_of_ble_eq_true rfl)) ⟨by omega, by omega⟩ (Or.inr ⟨(jOk.ref (show v < jn M from Nat.lt_of_lt_of_le (Nat.lt_add_of_pos_right (by decide)) hA.1.1) (jOk.int (jOk.int (jOk.ref hs (jOk.float jOk.nil))))), (jOk.int (jOk.ref hs jOk.nil))⟩) (fun E K hp hle => ?_) (fun x9 K hp hle => ?_)
  · obtain ⟨he, hKM⟩ := hp
    have hB : jAb K v A := by rw [hKM]; exact hA
    have hF : jFv v M K := by rw [hKM]; exact jFv.rf
    have hm := lIn_matching E he.symm
    rcases List.mem_cons.mp hm with rfl | hm
    · refine JX_catch (name := "java/lang/IndexOutOfBoundsException") [] (0, 10, 13, 19) [(0, 10, 17, 43)] rfl (fun _ h => absurd h List.not_mem_nil) (by decide) (by decide) (List.mem_of_getElem? (i := 1) rfl) lca_xIOOBE dL_matching_13 (by decide) rfl (lv' := [.ref (v), .int (x), .int (jb (b)), .ref (s), .float 0]) rfl ?_
      refine J_iconst (x := 1) dL_matching_15 (by decide) ?_
      exact J_iret (ty := .int) dL_matching_16 rfl (rfl) (by exact ⟨K, hB, hF, Or.inr ⟨0, _, rfl, by decide, he.symm, rfl, rfl⟩⟩)
    rcases List.mem_cons.mp hm with rfl | hm
    · refine JX_catch (name := "java/util/NoSuchElementException") [(0, 10, 13, 19)] (0, 10, 17, 43) [] rfl (List.forall_mem_cons.mpr ⟨⟨by decide, "java/lang/IndexOutOfBoundsException", (List.mem_of_getElem? (i := 1) rfl), lnc_xNSE_xIOOBE⟩, fun _ h => absurd h List.not_mem_nil⟩) (by decide) (by decide) (List.mem_of_getElem? (i := 2) rfl) lca_xNSE dL_matching_17 (by decide) rfl (lv' := [.ref (v), .int (x), .int (jb (b)), .ref (s), .float 0]) rfl ?_
      refine J_iconst (x := 2) dL_matching_19 (by decide) ?_
      exact J_iret (ty := .int) dL_matching_20 rfl (rfl) (by exact ⟨K, hB, hF, Or.inr ⟨1, _, rfl, by decide, he.symm, rfl, rfl⟩⟩)
    exact absurd hm List.not_mem_nil
  obtain ⟨he, hKM⟩ := hp
  have hB : jAb K v A := by rw [hKM]; exact hA
  have hF : jFv v M K := by rw [hKM]; exact jFv.rf
  refine J_i2l dL_matching_8 ?_
  refine J_last (i := (0)) dL_matching_9 (Nat.lt_of_lt_of_le hs hle) ((hF.2.1 s hs).1.trans hks) (by rw [((hF.2.1 s hs).2.trans hzs)]; exact vpin0) ?_
  refine J_goto (tgt := 21) dL_matching_10 (by decide) ?_
  refine J_iconst (x := 0) dL_matching_21 (by decide) ?_
  exact J_iret (ty := .int) dL_matching_22 rfl (rfl) (by exact ⟨K, hB, hF, Or.inl ⟨rfl, x9, he.symm, rfl⟩⟩)

theorem dL_share_0 : decode cL_share 0 = .ok (.aload_n 2, 1) := by decide +kernel
theorem dL_share_1 : decode cL_share 1 = .ok (.iconst 0, 1) := by decide +kernel
theorem dL_share_2 : decode cL_share 2 = .ok (.aload_n 0, 1) := by decide +kernel
theorem dL_share_3 : decode cL_share 3 = .ok (.iload_n 1, 1) := by decide +kernel
theorem dL_share_4 : decode cL_share 4 = .ok (.invokevirtual 99, 3) := by decide +kernel
set_option maxRecDepth 20000 in
theorem ggL_share_X7_share : GoodIn wsL_share wsX7_share := goodIn_ca (goodIn_ca (goodIn_ca (goodIn_ca (goodIn_r _ [8, 9, 10, 11, 12, 13, 14, 7, 15, 16, 17, 18, 19, 20, 21, 22, 23, 24, 25, 26, 27, 28, 29, 30, 31, 32, 33, 34, 35, 36, 37, 38, 39, 40, 41, 42, 43, 44, 45, 46, 47, 48, 49, 50, 51, 52, 53, 54, 55, 56, 57, 58, 59, 60, 61, 62, 63, 64, 65, 66, 67, 68, 69, 70, 71, 72, 73, 74, 75, 76, 77, 78, 79, 80, 81, 82, 83, 84, 85, 86, 87] (by decide +kernel) (by decide +kernel)) (goodIn_sub (fun _ h => List.mem_cons_of_mem _ (List.mem_append_left _ (List.mem_append_left _ (List.mem_append_right _ h)))) (by decide +kernel))) (goodIn_sub (fun _ h => List.mem_cons_of_mem _ (List.mem_append_left _ (List.mem_append_right _ h))) (by decide +kernel))) (goodIn_sub (fun _ h => List.mem_cons_of_mem _ (List.mem_append_right _ h)) (by decide +kernel))) (goodIn_sub (fun _ h => List.mem_cons_of_mem _ (List.mem_append_left _ (List.mem_append_left _ (List.mem_append_left _ (List.mem_append_right _ h))))) (by decide +kernel))
set_option maxRecDepth 20000 in
theorem gL_share_X7_share : GoodIn wsL_share (wsV RL 99 RX7 yX7_share wsX7_share) := goodIn_app (goodIn_of _ (by decide +kernel)) ggL_share_X7_share
theorem yY_X7_share : jY yX7_share wsX7_share cX7_share 4 (some .double) 1 := ⟨⟨_, rfl⟩, by decide +kernel, by decide +kernel, by decide +kernel⟩
theorem dL_share_11 : decode cL_share 11 = .ok (.astore_n 3, 1) := by decide +kernel
theorem dL_share_12 : decode cL_share 12 = .ok (.iconst 1, 1) := by decide +kernel
theorem dL_share_13 : decode cL_share 13 = .ok (.ireturn, 1) := by decide +kernel
theorem dL_share_14 : decode cL_share 14 = .ok (.astore_n 3, 1) := by decide +kernel
theorem dL_share_15 : decode cL_share 15 = .ok (.iconst 2, 1) := by decide +kernel
theorem dL_share_16 : decode cL_share 16 = .ok (.ireturn, 1) := by decide +kernel
theorem dL_share_17 : decode cL_share 17 = .ok (.astore_n 3, 1) := by decide +kernel
theorem dL_share_18 : decode cL_share 18 = .ok (.iconst 3, 1) := by decide +kernel
theorem dL_share_19 : decode cL_share 19 = .ok (.ireturn, 1) := by decide +kernel
theorem dL_share_7 : decode cL_share 7 = .ok (.dastore, 1) := by decide +kernel
theorem dL_share_8 : decode cL_share 8 = .ok (.goto 12, 3) := by decide +kernel
theorem dL_share_20 : decode cL_share 20 = .ok (.iconst 0, 1) := by decide +kernel
theorem dL_share_21 : decode cL_share 21 = .ok (.ireturn, 1) := by decide +kernel
set_option maxHeartbeats 400000 in
set_option maxRecDepth 20000 in
theorem ct_L_share (l : Launch) (D : va_G) (dA : Nat → ClassId) (hst : l.stackTraces = false) (M : jM) (v : Nat) (A : cA) (hA : jAb M v A) (x : Int32) (s : Nat) (hs : s < jn M) (hks : jk M s = 26) (hzs : jz M s = 1) : jCT l D dA yL_share wsL_share (30) (900) (6) (40) 1 [.ref (v), .int (x), .ref (s)] M (lPr M v (A) (oSh A x) [xIOOBE, xNSE, xAE] (lgD s)) := by
  refine jBodyH (cc := cL_share) (nL := 4) (rt := (some .int)) (ini := false) (by decide) rfl hst (Nat.le_of_ble_eq_true rfl) (by simp [Value.category]) (by intro h9; first | exact absurd h9 (by decide) | rfl) ?_
  show J l D dA RL cL_share wsL_share 4 false (some .int) [(0, 8, 11, 19), (0, 8, 14, 43), (0, 8, 17, 103)] (30) (900) (jF D dA (jn M) (lPr M v (A) (oSh A x) [xIOOBE, xNSE, xAE] (lgD s)) 1) (jn M) (6) (40) (M) 0 [.ref (v), .int (x), .ref (s), .float 0] []
  refine J_aload_n (s) dL_share_0 rfl rfl ?_
  refine J_iconst (x := 0) dL_share_1 (by decide) ?_
  refine J_aload_n (v) dL_share_2 rfl rfl ?_
  refine J_iload_n dL_share_3 rfl rfl ?_
  refine J_calld (jrunV (As := [.int (x)]) (ct_X7_share l D dA hst M v A hA x) dL_share_4 yY_X7_share gL_share_X7_share rfl cs10 (show v < jn M from Nat.lt_of_lt_of_le (Nat.lt_add_of_pos_right (by decide)) hA.1.1) hA.1.2.1 rfl ⟨by omega, by omega⟩ ⟨by omega, by omega⟩ rfl (Nat.le_of_ble_eq_true rfl)) ⟨by omega, by omega⟩ (Or.inr ⟨(jOk.ref (show v < jn M from Nat.lt_of_lt_of_le (Nat.lt_add_of_pos_right (by decide)) hA.1.1) (jOk.int (jOk.ref hs (jOk.float jOk.nil)))), (jOk.int (jOk.ref hs jOk.nil))⟩) (fun E K hp hle => ?_) (fun x9 K hp hle => ?_)
  · obtain ⟨he, hKM⟩ := hp
    have hB : jAb K v A := by rw [hKM]; exact hA
    have hF : jFv v M K := by rw [hKM]; exact jFv.rf
    have hm := lIn_share E he.symm
    rcases List.mem_cons.mp hm with rfl | hm
    · refine JX_catchN (name := "java/lang/IndexOutOfBoundsException") [] (0, 8, 11, 19) [(0, 8, 14, 43), (0, 8, 17, 103)] rfl (fun _ h => absurd h List.not_mem_nil) (by decide) (by decide) (List.mem_of_getElem? (i := 1) rfl) lca_xIOOBE dL_share_11 rfl (by decide) rfl (lv' := [.ref (v), .int (x), .ref (s), .float 0]) rfl ?_
      refine J_iconst (x := 1) dL_share_12 (by decide) ?_
      exact J_iret (ty := .int) dL_share_13 rfl (rfl) (by exact ⟨K, hB, hF, Or.inr ⟨0, _, rfl, by decide, he.symm, rfl, rfl⟩⟩)
    rcases List.mem_cons.mp hm with rfl | hm
    · refine JX_catchN (name := "java/util/NoSuchElementException") [(0, 8, 11, 19)] (0, 8, 14, 43) [(0, 8, 17, 103)] rfl (List.forall_mem_cons.mpr ⟨⟨by decide, "java/lang/IndexOutOfBoundsException", (List.mem_of_getElem? (i := 1) rfl), lnc_xNSE_xIOOBE⟩, fun _ h => absurd h List.not_mem_nil⟩) (by decide) (by decide) (List.mem_of_getElem? (i := 2) rfl) lca_xNSE dL_share_14 rfl (by decide) rfl (lv' := [.ref (v), .int (x), .ref (s), .float 0]) rfl ?_
      refine J_iconst (x := 2) dL_share_15 (by decide) ?_
      exact J_iret (ty := .int) dL_share_16 rfl (rfl) (by exact ⟨K, hB, hF, Or.inr ⟨1, _, rfl, by decide, he.symm, rfl, rfl⟩⟩)
    rcases List.mem_cons.mp hm with rfl | hm
    · refine JX_catchN (name := "java/lang/ArithmeticException") [(0, 8, 11, 19), (0, 8, 14, 43)] (0, 8, 17, 103) [] rfl (List.forall_mem_cons.mpr ⟨⟨by decide, "java/lang/IndexOutOfBoundsException", (List.mem_of_getElem? (i := 1) rfl), lnc_xAE_xIOOBE⟩, List.forall_mem_cons.mpr ⟨⟨by decide, "java/util/NoSuchElementException", (List.mem_of_getElem? (i := 2) rfl), lnc_xAE_xNSE⟩, fun _ h => absurd h List.not_mem_nil⟩⟩) (by decide) (by decide) (List.mem_of_getElem? (i := 3) rfl) lca_xAE dL_share_17 rfl (by decide) rfl (lv' := [.ref (v), .int (x), .ref (s), .float 0]) rfl ?_
      refine J_iconst (x := 3) dL_share_18 (by decide) ?_
      exact J_iret (ty := .int) dL_share_19 rfl (rfl) (by exact ⟨K, hB, hF, Or.inr ⟨2, _, rfl, by decide, he.symm, rfl, rfl⟩⟩)
    exact absurd hm List.not_mem_nil
  obtain ⟨he, hKM⟩ := hp
  have hB : jAb K v A := by rw [hKM]; exact hA
  have hF : jFv v M K := by rw [hKM]; exact jFv.rf
  refine J_dast (i := (0)) dL_share_7 (Nat.lt_of_lt_of_le hs hle) ((hF.2.1 s hs).1.trans hks) (by rw [((hF.2.1 s hs).2.trans hzs)]; exact vpin0) ?_
  refine J_goto (tgt := 20) dL_share_8 (by decide) ?_
  refine J_iconst (x := 0) dL_share_20 (by decide) ?_
  exact J_iret (ty := .int) dL_share_21 rfl (rfl) (by exact ⟨K, hB, hF, Or.inl ⟨rfl, x9, he.symm, rfl⟩⟩)

theorem dL_account_0 : decode cL_account 0 = .ok (.aload_n 2, 1) := by decide +kernel
theorem dL_account_1 : decode cL_account 1 = .ok (.iconst 0, 1) := by decide +kernel
theorem dL_account_2 : decode cL_account 2 = .ok (.aload_n 0, 1) := by decide +kernel
theorem dL_account_3 : decode cL_account 3 = .ok (.iload_n 1, 1) := by decide +kernel
theorem dL_account_4 : decode cL_account 4 = .ok (.invokevirtual 105, 3) := by decide +kernel
set_option maxRecDepth 20000 in
theorem ggL_account_X7_account : GoodIn wsL_account wsX7_account := goodIn_ca (goodIn_ca (goodIn_r _ [6, 7, 8, 9, 10, 11, 12, 13, 14, 15, 16, 17, 18, 19, 20, 21, 22, 23, 24, 25, 26, 27, 28, 29, 30, 31, 32, 33, 34, 35, 36, 37, 38, 39, 40, 41, 42, 43, 44, 45, 46, 47, 48, 49, 5, 50, 51, 52, 53, 54, 55, 56, 57, 58, 59, 60, 61, 62, 63, 64, 65, 66, 67, 68, 69, 70, 71, 72, 73, 74, 75, 76, 77, 78, 79, 80, 81, 82, 83, 84, 85, 86, 87, 88, 89, 90, 91, 92, 93] (by decide +kernel) (by decide +kernel)) (goodIn_sub (fun _ h => List.mem_cons_of_mem _ (List.mem_append_right _ h)) (by decide +kernel))) (goodIn_sub (fun _ h => List.mem_cons_of_mem _ (List.mem_append_left _ (List.mem_append_right _ h))) (by decide +kernel))
set_option maxRecDepth 20000 in
theorem gL_account_X7_account : GoodIn wsL_account (wsV RL 105 RX7 yX7_account wsX7_account) := goodIn_app (goodIn_of _ (by decide +kernel)) ggL_account_X7_account
theorem yY_X7_account : jY yX7_account wsX7_account cX7_account 2 (some .int) 1 := ⟨⟨_, rfl⟩, by decide +kernel, by decide +kernel, by decide +kernel⟩
theorem dL_account_12 : decode cL_account 12 = .ok (.astore_n 3, 1) := by decide +kernel
theorem dL_account_13 : decode cL_account 13 = .ok (.iconst 1, 1) := by decide +kernel
theorem dL_account_14 : decode cL_account 14 = .ok (.ireturn, 1) := by decide +kernel
theorem dL_account_7 : decode cL_account 7 = .ok (.i2l, 1) := by decide +kernel
theorem dL_account_8 : decode cL_account 8 = .ok (.lastore, 1) := by decide +kernel
theorem dL_account_9 : decode cL_account 9 = .ok (.goto 6, 3) := by decide +kernel
theorem dL_account_15 : decode cL_account 15 = .ok (.iconst 0, 1) := by decide +kernel
theorem dL_account_16 : decode cL_account 16 = .ok (.ireturn, 1) := by decide +kernel
set_option maxHeartbeats 400000 in
set_option maxRecDepth 20000 in
theorem ct_L_account (l : Launch) (D : va_G) (dA : Nat → ClassId) (hst : l.stackTraces = false) (M : jM) (v : Nat) (A : cA) (hA : jAb M v A) (y : Int32) (s : Nat) (hs : s < jn M) (hks : jk M s = 25) (hzs : jz M s = 1) : jCT l D dA yL_account wsL_account (30) (900) (6) (40) 1 [.ref (v), .int (y), .ref (s)] M (lPr M v (A) (oAc A y) [xIAE] (lgI s)) := by
  refine jBodyH (cc := cL_account) (nL := 4) (rt := (some .int)) (ini := false) (by decide) rfl hst (Nat.le_of_ble_eq_true rfl) (by simp [Value.category]) (by intro h9; first | exact absurd h9 (by decide) | rfl) ?_
  show J l D dA RL cL_account wsL_account 4 false (some .int) [(0, 9, 12, 21)] (30) (900) (jF D dA (jn M) (lPr M v (A) (oAc A y) [xIAE] (lgI s)) 1) (jn M) (6) (40) (M) 0 [.ref (v), .int (y), .ref (s), .float 0] []
  refine J_aload_n (s) dL_account_0 rfl rfl ?_
  refine J_iconst (x := 0) dL_account_1 (by decide) ?_
  refine J_aload_n (v) dL_account_2 rfl rfl ?_
  refine J_iload_n dL_account_3 rfl rfl ?_
  refine J_calli (jrunV (As := [.int (y)]) (ct_X7_account l D dA hst M v A hA y) dL_account_4 yY_X7_account gL_account_X7_account rfl cs10 (show v < jn M from Nat.lt_of_lt_of_le (Nat.lt_add_of_pos_right (by decide)) hA.1.1) hA.1.2.1 rfl ⟨by omega, by omega⟩ ⟨by omega, by omega⟩ rfl (Nat.le_of_ble_eq_true rfl)) ⟨by omega, by omega⟩ (Or.inr ⟨(jOk.ref (show v < jn M from Nat.lt_of_lt_of_le (Nat.lt_add_of_pos_right (by decide)) hA.1.1) (jOk.int (jOk.ref hs (jOk.float jOk.nil)))), (jOk.int (jOk.ref hs jOk.nil))⟩) (fun E K hp hle => ?_) (fun x9 K hp hle => ?_)
  · obtain ⟨he, hKM⟩ := hp
    have hB : jAb K v A := by rw [hKM]; exact hA
    have hF : jFv v M K := by rw [hKM]; exact jFv.rf
    have hm := lIn_account E he.symm
    rcases List.mem_cons.mp hm with rfl | hm
    · refine JX_catchN (name := "java/lang/IllegalArgumentException") [] (0, 9, 12, 21) [] rfl (fun _ h => absurd h List.not_mem_nil) (by decide) (by decide) (List.mem_of_getElem? (i := 1) rfl) lca_xIAE dL_account_12 rfl (by decide) rfl (lv' := [.ref (v), .int (y), .ref (s), .float 0]) rfl ?_
      refine J_iconst (x := 1) dL_account_13 (by decide) ?_
      exact J_iret (ty := .int) dL_account_14 rfl (rfl) (by exact ⟨K, hB, hF, Or.inr ⟨0, _, rfl, by decide, he.symm, rfl, rfl⟩⟩)
    exact absurd hm List.not_mem_nil
  obtain ⟨he, hKM⟩ := hp
  have hB : jAb K v A := by rw [hKM]; exact hA
  have hF : jFv v M K := by rw [hKM]; exact jFv.rf
  refine J_i2l dL_account_7 ?_
  refine J_last (i := (0)) dL_account_8 (Nat.lt_of_lt_of_le hs hle) ((hF.2.1 s hs).1.trans hks) (by rw [((hF.2.1 s hs).2.trans hzs)]; exact vpin0) ?_
  refine J_goto (tgt := 15) dL_account_9 (by decide) ?_
  refine J_iconst (x := 0) dL_account_15 (by decide) ?_
  exact J_iret (ty := .int) dL_account_16 rfl (rfl) (by exact ⟨K, hB, hF, Or.inl ⟨rfl, x9, he.symm, rfl⟩⟩)

theorem dL_undo_0 : decode cL_undo 0 = .ok (.aload_n 1, 1) := by decide +kernel
theorem dL_undo_1 : decode cL_undo 1 = .ok (.iconst 0, 1) := by decide +kernel
theorem dL_undo_2 : decode cL_undo 2 = .ok (.aload_n 0, 1) := by decide +kernel
theorem dL_undo_3 : decode cL_undo 3 = .ok (.invokevirtual 108, 3) := by decide +kernel
set_option maxRecDepth 20000 in
theorem ggL_undo_X7_undo : GoodIn wsL_undo wsX7_undo := goodIn_ca (goodIn_r _ [6, 7, 8, 9, 10, 11, 12, 13, 14, 15, 16, 17, 18, 19, 20, 21, 22, 23, 24, 25, 26, 27, 28, 29, 30, 31, 32, 33, 34, 35, 36, 37, 38, 39, 40, 41, 42, 43, 44, 45, 46, 47, 48, 49, 50, 51, 52, 53, 54] (by decide +kernel) (by decide +kernel)) (goodIn_sub (fun _ h => List.mem_cons_of_mem _ (List.mem_append_right _ h)) (by decide +kernel))
set_option maxRecDepth 20000 in
theorem gL_undo_X7_undo : GoodIn wsL_undo (wsV RL 108 RX7 yX7_undo wsX7_undo) := goodIn_app (goodIn_of _ (by decide +kernel)) ggL_undo_X7_undo
theorem yY_X7_undo : jY yX7_undo wsX7_undo cX7_undo 1 (some .int) 0 := ⟨⟨_, rfl⟩, by decide +kernel, by decide +kernel, by decide +kernel⟩
theorem dL_undo_11 : decode cL_undo 11 = .ok (.astore_n 2, 1) := by decide +kernel
theorem dL_undo_12 : decode cL_undo 12 = .ok (.iconst 1, 1) := by decide +kernel
theorem dL_undo_13 : decode cL_undo 13 = .ok (.ireturn, 1) := by decide +kernel
theorem dL_undo_6 : decode cL_undo 6 = .ok (.i2l, 1) := by decide +kernel
theorem dL_undo_7 : decode cL_undo 7 = .ok (.lastore, 1) := by decide +kernel
theorem dL_undo_8 : decode cL_undo 8 = .ok (.goto 6, 3) := by decide +kernel
theorem dL_undo_14 : decode cL_undo 14 = .ok (.iconst 0, 1) := by decide +kernel
theorem dL_undo_15 : decode cL_undo 15 = .ok (.ireturn, 1) := by decide +kernel
set_option maxHeartbeats 400000 in
set_option maxRecDepth 20000 in
theorem ct_L_undo (l : Launch) (D : va_G) (dA : Nat → ClassId) (hst : l.stackTraces = false) (M : jM) (v : Nat) (A : cA) (hA : jAb M v A) (s : Nat) (hs : s < jn M) (hks : jk M s = 25) (hzs : jz M s = 1) : jCT l D dA yL_undo wsL_undo (30) (900) (6) (40) 1 [.ref (v), .ref (s)] M (lPr M v ((sUnd A).2) (sUnd A).1 [xISE] (lgI s)) := by
  refine jBodyH (cc := cL_undo) (nL := 3) (rt := (some .int)) (ini := false) (by decide) rfl hst (Nat.le_of_ble_eq_true rfl) (by simp [Value.category]) (by intro h9; first | exact absurd h9 (by decide) | rfl) ?_
  show J l D dA RL cL_undo wsL_undo 3 false (some .int) [(0, 8, 11, 13)] (30) (900) (jF D dA (jn M) (lPr M v ((sUnd A).2) (sUnd A).1 [xISE] (lgI s)) 1) (jn M) (6) (40) (M) 0 [.ref (v), .ref (s), .float 0] []
  refine J_aload_n (s) dL_undo_0 rfl rfl ?_
  refine J_iconst (x := 0) dL_undo_1 (by decide) ?_
  refine J_aload_n (v) dL_undo_2 rfl rfl ?_
  refine J_calli (jrunV (As := []) (ct_X7_undo l D dA hst M v A hA ) dL_undo_3 yY_X7_undo gL_undo_X7_undo rfl cs10 (show v < jn M from Nat.lt_of_lt_of_le (Nat.lt_add_of_pos_right (by decide)) hA.1.1) hA.1.2.1 rfl ⟨by omega, by omega⟩ ⟨by omega, by omega⟩ rfl (Nat.le_of_ble_eq_true rfl)) ⟨by omega, by omega⟩ (Or.inr ⟨(jOk.ref (show v < jn M from Nat.lt_of_lt_of_le (Nat.lt_add_of_pos_right (by decide)) hA.1.1) (jOk.ref hs (jOk.float jOk.nil))), (jOk.int (jOk.ref hs jOk.nil))⟩) (fun E K hp hle => ?_) (fun x9 K hp hle => ?_)
  · obtain ⟨he, hB, hF⟩ := hp
    have hm := lIn_undo E he.symm
    rcases List.mem_cons.mp hm with rfl | hm
    · refine JX_catchN (name := "java/lang/IllegalStateException") [] (0, 8, 11, 13) [] rfl (fun _ h => absurd h List.not_mem_nil) (by decide) (by decide) (List.mem_of_getElem? (i := 1) rfl) lca_xISE dL_undo_11 rfl (by decide) rfl (lv' := [.ref (v), .ref (s), .float 0]) rfl ?_
      refine J_iconst (x := 1) dL_undo_12 (by decide) ?_
      exact J_iret (ty := .int) dL_undo_13 rfl (rfl) (by exact ⟨K, hB, hF, Or.inr ⟨0, _, rfl, by decide, he.symm, rfl, rfl⟩⟩)
    exact absurd hm List.not_mem_nil
  obtain ⟨he, hB, hF⟩ := hp
  refine J_i2l dL_undo_6 ?_
  refine J_last (i := (0)) dL_undo_7 (Nat.lt_of_lt_of_le hs hle) ((hF.2.1 s hs).1.trans hks) (by rw [((hF.2.1 s hs).2.trans hzs)]; exact vpin0) ?_
  refine J_goto (tgt := 14) dL_undo_8 (by decide) ?_
  refine J_iconst (x := 0) dL_undo_14 (by decide) ?_
  exact J_iret (ty := .int) dL_undo_15 rfl (rfl) (by exact ⟨K, hB, hF, Or.inl ⟨rfl, x9, he.symm, rfl⟩⟩)

theorem dL_restore_0 : decode cL_restore 0 = .ok (.aload_n 0, 1) := by decide +kernel
theorem dL_restore_1 : decode cL_restore 1 = .ok (.invokevirtual 111, 3) := by decide +kernel
set_option maxRecDepth 20000 in
theorem ggL_restore_X7_restore : GoodIn wsL_restore wsX7_restore := goodIn_ca (goodIn_r _ [6, 7, 8, 9, 10, 11, 12, 13, 14, 15, 16, 17, 18, 19, 20, 21, 22, 23, 24, 25, 26, 27, 28, 29, 30, 31, 32, 33, 34, 35, 36, 37, 38, 39, 40, 41, 42, 43, 44, 45, 46] (by decide +kernel) (by decide +kernel)) (goodIn_sub (fun _ h => List.mem_cons_of_mem _ (List.mem_append_right _ h)) (by decide +kernel))
set_option maxRecDepth 20000 in
theorem gL_restore_X7_restore : GoodIn wsL_restore (wsV RL 111 RX7 yX7_restore wsX7_restore) := goodIn_app (goodIn_of _ (by decide +kernel)) ggL_restore_X7_restore
theorem yY_X7_restore : jY yX7_restore wsX7_restore cX7_restore 1 none 0 := ⟨⟨_, rfl⟩, by decide +kernel, by decide +kernel, by decide +kernel⟩
theorem dL_restore_7 : decode cL_restore 7 = .ok (.astore_n 1, 1) := by decide +kernel
theorem dL_restore_8 : decode cL_restore 8 = .ok (.iconst 1, 1) := by decide +kernel
theorem dL_restore_9 : decode cL_restore 9 = .ok (.ireturn, 1) := by decide +kernel
theorem dL_restore_4 : decode cL_restore 4 = .ok (.goto 6, 3) := by decide +kernel
theorem dL_restore_10 : decode cL_restore 10 = .ok (.iconst 0, 1) := by decide +kernel
theorem dL_restore_11 : decode cL_restore 11 = .ok (.ireturn, 1) := by decide +kernel
set_option maxHeartbeats 400000 in
set_option maxRecDepth 20000 in
theorem ct_L_restore (l : Launch) (D : va_G) (dA : Nat → ClassId) (hst : l.stackTraces = false) (M : jM) (v : Nat) (A : cA) (hA : jAb M v A) : jCT l D dA yL_restore wsL_restore (30) (900) (6) (40) 1 [.ref (v)] M (lPr M v ((sRes A).2) (sRes A).1 [xISE] lgV) := by
  refine jBodyH (cc := cL_restore) (nL := 2) (rt := (some .int)) (ini := false) (by decide) rfl hst (Nat.le_of_ble_eq_true rfl) (by simp [Value.category]) (by intro h9; first | exact absurd h9 (by decide) | rfl) ?_
  show J l D dA RL cL_restore wsL_restore 2 false (some .int) [(0, 4, 7, 13)] (30) (900) (jF D dA (jn M) (lPr M v ((sRes A).2) (sRes A).1 [xISE] lgV) 1) (jn M) (6) (40) (M) 0 [.ref (v), .float 0] []
  refine J_aload_n (v) dL_restore_0 rfl rfl ?_
  refine J_callv (jrunV (As := []) (ct_X7_restore l D dA hst M v A hA ) dL_restore_1 yY_X7_restore gL_restore_X7_restore rfl cs10 (show v < jn M from Nat.lt_of_lt_of_le (Nat.lt_add_of_pos_right (by decide)) hA.1.1) hA.1.2.1 rfl ⟨by omega, by omega⟩ ⟨by omega, by omega⟩ rfl (Nat.le_of_ble_eq_true rfl)) ⟨by omega, by omega⟩ (Or.inr ⟨(jOk.ref (show v < jn M from Nat.lt_of_lt_of_le (Nat.lt_add_of_pos_right (by decide)) hA.1.1) (jOk.float jOk.nil)), jOk.nil⟩) (fun E K hp hle => ?_) (fun K hp hle => ?_)
  · obtain ⟨he, hB, hF⟩ := hp
    have hm := lIn_restore E he.symm
    rcases List.mem_cons.mp hm with rfl | hm
    · refine JX_catchN (name := "java/lang/IllegalStateException") [] (0, 4, 7, 13) [] rfl (fun _ h => absurd h List.not_mem_nil) (by decide) (by decide) (List.mem_of_getElem? (i := 1) rfl) lca_xISE dL_restore_7 rfl (by decide) rfl (lv' := [.ref (v), .float 0]) rfl ?_
      refine J_iconst (x := 1) dL_restore_8 (by decide) ?_
      exact J_iret (ty := .int) dL_restore_9 rfl (rfl) (by exact ⟨K, hB, hF, Or.inr ⟨0, _, rfl, by decide, he.symm, rfl, rfl⟩⟩)
    exact absurd hm List.not_mem_nil
  obtain ⟨he, hB, hF⟩ := hp
  refine J_goto (tgt := 10) dL_restore_4 (by decide) ?_
  refine J_iconst (x := 0) dL_restore_10 (by decide) ?_
  exact J_iret (ty := .int) dL_restore_11 rfl (rfl) (by exact ⟨K, hB, hF, Or.inl ⟨rfl, he.symm, rfl⟩⟩)

