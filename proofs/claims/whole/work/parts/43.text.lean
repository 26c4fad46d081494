theorem dX7_textLength_0 : decode cX7_textLength 0 = .ok (.aload_n 0, 1) := by decide +kernel
theorem dX7_textLength_1 : decode cX7_textLength 1 = .ok (.aload_n 0, 1) := by decide +kernel
theorem dX7_textLength_2 : decode cX7_textLength 2 = .ok (.iload_n 1, 1) := by decide +kernel
theorem dX7_textLength_3 : decode cX7_textLength 3 = .ok (.invokevirtual 138, 3) := by decide +kernel
set_option maxRecDepth 20000 in
theorem ggX7_textLength_X7_rangeOf : GoodIn wsX7_textLength wsX7_rangeOf := goodIn_ca (goodIn_ca (goodIn_r _ [6, 7, 8, 9, 10, 11, 5, 12, 13, 14, 15, 16, 17, 18, 19, 20, 297, 298, 299, 300, 301, 302, 303, 304, 305, 306, 307, 308, 309] (by decide +kernel) (by decide +kernel)) (goodIn_sub (fun _ h => List.mem_cons_of_mem _ (List.mem_append_left _ (List.mem_append_left _ (List.mem_append_right _ h)))) (by decide +kernel))) (goodIn_sub (fun _ h => List.mem_cons_of_mem _ (List.mem_append_left _ (List.mem_append_right _ h))) (by decide +kernel))
set_option maxRecDepth 20000 in
theorem gX7_textLength_X7_rangeOf : GoodIn wsX7_textLength (wsV RX7 138 RX7 yX7_rangeOf wsX7_rangeOf) := goodIn_app (goodIn_of _ (by decide +kernel)) ggX7_textLength_X7_rangeOf
theorem dX7_textLength_6 : decode cX7_textLength 6 = .ok (.invokevirtual 193, 3) := by decide +kernel
set_option maxRecDepth 20000 in
theorem ggX7_textLength_X7_writeCanonical : GoodIn wsX7_textLength wsX7_writeCanonical := goodIn_ca (goodIn_r _ [24, 1, 25, 26, 27, 28, 29, 30, 31, 32, 33, 34, 35, 36, 37, 38, 39, 40, 41, 42, 43, 44, 45, 46, 47, 48, 49, 50, 51, 52, 53, 54, 55, 56, 57, 58, 59, 60, 61, 62, 63, 64, 65, 66, 67, 68, 69, 70, 71, 72, 73, 74, 75, 76, 77, 78, 79, 80, 81, 82, 83, 84, 85, 86, 87, 88, 89, 90, 91, 92, 93, 94, 95, 96, 97, 98, 99, 100, 101, 102, 103, 104, 105, 106, 107, 108, 109, 110, 111, 112, 113, 114, 115, 116, 117, 118, 119, 120, 121, 122, 123, 124, 125, 126, 127, 128, 129, 130, 131, 132, 133, 134, 135, 136, 137, 138, 139, 140, 141, 142, 143, 144, 145, 146, 147, 148, 149, 150, 151, 152, 153, 154, 155, 156, 157, 158, 159, 160, 161, 162, 163, 164, 165, 166, 167, 168, 169, 170, 171, 172, 173, 174, 175, 176, 177, 178, 179, 180, 181, 182, 183, 184, 185, 186, 187, 188, 189, 190, 191, 192, 193, 194, 195, 196, 197, 198, 199, 200, 201, 202, 203, 204, 205, 206, 207, 208, 209, 210, 211, 212, 213, 214, 215, 216, 217, 218, 219, 220, 221, 222, 223, 224, 225, 226, 227, 228, 229, 230, 231, 232, 233, 234, 235, 236, 237, 238, 239, 240, 241, 242, 243, 244, 245, 246, 247, 248, 249, 250, 251, 252, 253, 5, 254, 255, 256, 257, 258, 259, 260, 261, 262, 263, 264, 265, 266, 267, 268, 269, 270, 271, 272, 273, 274, 275, 276, 277, 278, 279, 280, 281, 282, 283, 284, 285, 286, 287, 288, 297, 298, 299, 300, 301, 302, 303, 304, 305, 306, 310, 311, 312, 313, 314, 315, 316, 317, 318, 319, 320, 321, 322, 323, 324, 325, 326, 327, 328, 329, 330] (by decide +kernel) (by decide +kernel)) (goodIn_sub (fun _ h => List.mem_cons_of_mem _ (List.mem_append_right _ h)) (by decide +kernel))
set_option maxRecDepth 20000 in
theorem gX7_textLength_X7_writeCanonical : GoodIn wsX7_textLength (wsV RX7 193 RX7 yX7_writeCanonical wsX7_writeCanonical) := goodIn_app (goodIn_of _ (by decide +kernel)) ggX7_textLength_X7_writeCanonical
theorem yY_X7_writeCanonical : jY yX7_writeCanonical wsX7_writeCanonical cX7_writeCanonical 3 none 1 := ⟨⟨_, rfl⟩, by decide +kernel, by decide +kernel, by decide +kernel⟩
theorem dX7_textLength_9 : decode cX7_textLength 9 = .ok (.aload_n 0, 1) := by decide +kernel
theorem dX7_textLength_10 : decode cX7_textLength 10 = .ok (.getfield 51, 3) := by decide +kernel
theorem dX7_textLength_13 : decode cX7_textLength 13 = .ok (.invokevirtual 197, 3) := by decide +kernel
set_option maxRecDepth 20000 in
theorem ggX7_textLength_J4_length_8abf5 : GoodIn wsX7_textLength wsJ4_length_8abf5 := goodIn_r _ [292, 293, 294, 32, 295, 34, 296, 39, 316, 317, 318, 319] (by decide +kernel) (by decide +kernel)
set_option maxRecDepth 20000 in
theorem gX7_textLength_J4_length_8abf5 : GoodIn wsX7_textLength (wsV RX7 197 RJ4 yJ4_length_8abf5 wsJ4_length_8abf5) := goodIn_app (goodIn_of _ (by decide +kernel)) ggX7_textLength_J4_length_8abf5
theorem yY_J4_length_8abf5 : jY yJ4_length_8abf5 wsJ4_length_8abf5 cJ4_length_8abf5 1 (some .int) 0 := ⟨⟨_, rfl⟩, by decide +kernel, by decide +kernel, by decide +kernel⟩
theorem dX7_textLength_16 : decode cX7_textLength 16 = .ok (.ireturn, 1) := by decide +kernel
set_option maxHeartbeats 400000 in
set_option maxRecDepth 20000 in
theorem ct_X7_textLength (l : Launch) (D : va_G) (dA : Nat → ClassId) (hst : l.stackTraces = false) (M : jM) (v : Nat) (A : cA) (hA : jAb M v A) (x : Int32) (hwf : ∀ w, cAt (cNw A) x = some w → rOk w) : jCT l D dA yX7_textLength wsX7_textLength (50) (2100) (10) (2500) 1 [.ref (v), .int (x)] M (jPr M v (sTl A x)) := by
  refine jBody (cc := cX7_textLength) (nL := 2) (rt := (some .int)) (ini := false) (by decide) rfl hst (Nat.le_of_ble_eq_true rfl) (by simp [Value.category]) (by intro h9; first | exact absurd h9 (by decide) | rfl) ?_
  show J l D dA RX7 cX7_textLength wsX7_textLength 2 false (some .int) [] (50) (2100) (jF D dA (jn M) (jPr M v (sTl A x)) 1) (jn M) (10) (2500) (M) 0 [.ref (v), .int (x)] []
  obtain ⟨g1, g2, g3, g4, g5, g6, g7, g9⟩ := id hA
  obtain ⟨gx, gH, g8⟩ := id g7
  obtain ⟨ga1, ga2, ga3, ga4, ga5, ga6, ga7, ga8, ga9, ga10, ga11, ga12, ga13⟩ := id g3
  have gc30 := g5.1.2.2.2.2.2.2.2.2.2
  refine J_aload_n (v) dX7_textLength_0 rfl rfl ?_
  refine J_aload_n (v) dX7_textLength_1 rfl rfl ?_
  refine J_iload_n dX7_textLength_2 rfl rfl ?_
  rcases Bool.eq_false_or_eq_true (okSlot ((x))) with ok3 | ok3
  · rcases hs3 : stRange M (v + 2) ((x)) with _ | t3
    · have hj3 := (jVa_cAt g5 ((x))).1
      rw [hs3] at hj3
      have hw3 := hj3.none
      refine J_callqX (jrunV (As := [.int (x)]) (ct_X7_rangeOf l D dA hst M v A hA ((x))) dX7_textLength_3 yY_X7_rangeOf gX7_textLength_X7_rangeOf rfl cs10 (show v < jn M from by have := g1.1; omega) g1.2.1 rfl ⟨by omega, by omega⟩ ⟨by omega, by omega⟩ rfl (Nat.le_of_ble_eq_true rfl)) ((by unfold oRg; rw [if_pos ok3, hs3])) ⟨by omega, by omega⟩ (Or.inl rfl) ?_
      exact JX_out rfl (by first | (unfold sTl; rw [sSl_t ok3, sRn_n hw3]; exact ⟨rfl, hA, jFv.rf⟩) | fail "leaf")
    · have hj3 := jVa_cAt g5 ((x))
      rw [hs3] at hj3
      obtain ⟨⟨w3, hw3, hg3, hi3⟩, hl3⟩ := And.imp_left jVa.some hj3
      have h16_3 := hl3 w3 hw3
      refine J_callqB (jrunV (As := [.int (x)]) (ct_X7_rangeOf l D dA hst M v A hA ((x))) dX7_textLength_3 yY_X7_rangeOf gX7_textLength_X7_rangeOf rfl cs10 (show v < jn M from by have := g1.1; omega) g1.2.1 rfl ⟨by omega, by omega⟩ ⟨by omega, by omega⟩ rfl (Nat.le_of_ble_eq_true rfl)) ((by unfold oRg; rw [if_pos ok3, hs3])) (rfl) ⟨by omega, by omega⟩ ?_
      refine J_callv (jrunV (As := [.ref (t3)]) (ct_X7_writeCanonical l D dA hst M v A hA t3 w3 hg3 hi3 h16_3 (hwf w3 hw3)) dX7_textLength_6 yY_X7_writeCanonical gX7_textLength_X7_writeCanonical rfl cs10 (show v < jn M from by have := g1.1; omega) g1.2.1 rfl ⟨by omega, by omega⟩ ⟨by omega, by omega⟩ rfl (Nat.le_of_ble_eq_true rfl)) ⟨by omega, by omega⟩ (Or.inr ⟨(jOk.ref (show v < jn M from by have := g1.1; omega) (jOk.int jOk.nil)), jOk.nil⟩) (fun E M9 hp _ => by cases hp.1) (fun M1 hp6 hle6 => ?_)
      obtain ⟨-, b1, m1, hB1, h161, hF1⟩ := hp6
      have hs9 := hA.sb hB1 h161 hF1
      have htl : (tTx w3).length ≤ 448 := tPs_len h16_3
      obtain ⟨k1, k2, k3, k4, k5, k6, k7, k9⟩ := id hs9.1
      obtain ⟨kx, kH, k8⟩ := id k7
      obtain ⟨ka1, ka2, ka3, ka4, ka5, ka6, ka7, ka8, ka9, ka10, ka11, ka12, ka13⟩ := id k3
      have kc30 := k5.1.2.2.2.2.2.2.2.2.2
      refine J_aload_n (v) dX7_textLength_9 rfl rfl ?_
      refine J_getrs (q := v + 34) ka5 dX7_textLength_10 (fun _ h => List.mem_cons_of_mem _ (List.mem_append_left _ (List.mem_append_left _ (List.mem_append_left _ (List.mem_append_left _ (List.mem_append_left _ (List.mem_append_left _ (List.mem_append_left _ (List.mem_append_left _ (List.mem_append_left _ (List.mem_append_right _ (h)))))))))))) cs10 (by decide) rfl (List.mem_of_getElem? (i := 1) rfl) rfl (show v < jn M1 from by have := k1.1; omega) k1.2.1 ?_
      refine J_calli0 (jrunV (As := []) (ct_J4_length_8abf5 l D dA hst M1 (v + 34) b1 m1 (tTx w3) hB1) dX7_textLength_13 yY_J4_length_8abf5 gX7_textLength_J4_length_8abf5 rfl cs1 hB1.1 hB1.2.1 rfl ⟨by omega, by omega⟩ ⟨Nat.zero_le _, Nat.zero_le _⟩ rfl (Nat.le_of_ble_eq_true rfl)) (rfl) (rfl) ?_
      exact J_iret (ty := .int) dX7_textLength_16 rfl (rfl) (by first | (unfold sTl; rw [sSl_t ok3, sRn_s hw3]; exact ⟨rfl, hs9.1, hs9.2⟩) | fail "leaf")
  · refine J_callqX (jrunV (As := [.int (x)]) (ct_X7_rangeOf l D dA hst M v A hA ((x))) dX7_textLength_3 yY_X7_rangeOf gX7_textLength_X7_rangeOf rfl cs10 (show v < jn M from by have := g1.1; omega) g1.2.1 rfl ⟨by omega, by omega⟩ ⟨by omega, by omega⟩ rfl (Nat.le_of_ble_eq_true rfl)) ((by unfold oRg; rw [if_neg (by rw [ok3]; decide)])) ⟨by omega, by omega⟩ (Or.inl rfl) ?_
    exact JX_out rfl (by first | (unfold sTl; rw [sSl_f ok3]; exact ⟨rfl, hA, jFv.rf⟩) | fail "leaf")

theorem dX7_text_0 : decode cX7_text 0 = .ok (.aload_n 0, 1) := by decide +kernel
theorem dX7_text_1 : decode cX7_text 1 = .ok (.aload_n 0, 1) := by decide +kernel
theorem dX7_text_2 : decode cX7_text 2 = .ok (.iload_n 1, 1) := by decide +kernel
theorem dX7_text_3 : decode cX7_text 3 = .ok (.invokevirtual 138, 3) := by decide +kernel
set_option maxRecDepth 20000 in
theorem ggX7_text_X7_rangeOf : GoodIn wsX7_text wsX7_rangeOf := goodIn_ca (goodIn_ca (goodIn_r _ [8, 1, 2, 9, 10, 11, 7, 12, 13, 14, 15, 16, 17, 18, 19, 20, 310, 311, 312, 313, 314, 315, 316, 317, 318, 319, 320, 321, 322] (by decide +kernel) (by decide +kernel)) (goodIn_sub (fun _ h => List.mem_cons_of_mem _ (List.mem_append_left _ (List.mem_append_left _ (List.mem_append_right _ h)))) (by decide +kernel))) (goodIn_sub (fun _ h => List.mem_cons_of_mem _ (List.mem_append_left _ (List.mem_append_right _ h))) (by decide +kernel))
set_option maxRecDepth 20000 in
theorem gX7_text_X7_rangeOf : GoodIn wsX7_text (wsV RX7 138 RX7 yX7_rangeOf wsX7_rangeOf) := goodIn_app (goodIn_of _ (by decide +kernel)) ggX7_text_X7_rangeOf
theorem dX7_text_6 : decode cX7_text 6 = .ok (.invokevirtual 193, 3) := by decide +kernel
set_option maxRecDepth 20000 in
theorem ggX7_text_X7_writeCanonical : GoodIn wsX7_text wsX7_writeCanonical := goodIn_ca (goodIn_r _ [24, 3, 25, 26, 27, 28, 29, 30, 31, 32, 33, 34, 35, 36, 37, 38, 39, 40, 41, 42, 43, 44, 45, 46, 47, 48, 49, 50, 51, 52, 53, 54, 55, 56, 57, 58, 59, 60, 61, 62, 63, 64, 65, 66, 67, 68, 69, 70, 71, 72, 73, 74, 75, 76, 77, 78, 79, 80, 81, 82, 83, 84, 85, 86, 87, 88, 89, 90, 91, 92, 93, 94, 95, 96, 97, 98, 99, 100, 101, 102, 103, 104, 105, 106, 107, 108, 109, 110, 111, 112, 113, 114, 115, 116, 117, 118, 119, 120, 121, 122, 123, 124, 125, 126, 127, 128, 129, 130, 131, 132, 133, 134, 135, 136, 137, 138, 139, 140, 141, 142, 143, 144, 145, 146, 147, 148, 149, 150, 151, 152, 153, 154, 155, 156, 157, 158, 159, 160, 161, 162, 163, 164, 165, 166, 167, 168, 169, 170, 171, 172, 173, 174, 175, 176, 177, 178, 179, 180, 181, 182, 183, 184, 185, 186, 187, 188, 189, 190, 191, 192, 193, 194, 195, 196, 197, 198, 199, 200, 201, 202, 203, 204, 205, 206, 207, 208, 209, 210, 211, 212, 213, 214, 215, 216, 217, 218, 219, 220, 221, 222, 223, 224, 225, 226, 227, 228, 229, 230, 231, 232, 233, 234, 235, 236, 237, 238, 239, 240, 241, 242, 243, 244, 245, 246, 247, 248, 249, 250, 251, 252, 253, 7, 254, 255, 256, 257, 258, 259, 260, 261, 262, 263, 264, 265, 266, 267, 268, 269, 270, 271, 272, 273, 274, 275, 276, 277, 278, 279, 280, 281, 282, 283, 284, 285, 286, 287, 288, 310, 311, 312, 313, 314, 315, 316, 317, 318, 319, 323, 324, 325, 326, 327, 328, 329, 330, 331, 332, 333, 334, 335, 336, 337, 338, 339, 340, 341, 342, 343] (by decide +kernel) (by decide +kernel)) (goodIn_sub (fun _ h => List.mem_cons_of_mem _ (List.mem_append_right _ h)) (by decide +kernel))
set_option maxRecDepth 20000 in
theorem gX7_text_X7_writeCanonical : GoodIn wsX7_text (wsV RX7 193 RX7 yX7_writeCanonical wsX7_writeCanonical) := goodIn_app (goodIn_of _ (by decide +kernel)) ggX7_text_X7_writeCanonical
theorem dX7_text_9 : decode cX7_text 9 = .ok (.iload_n 2, 1) := by decide +kernel
theorem dX7_text_10 : decode cX7_text 10 = .ok (.ifCond .lt 14, 3) := by decide +kernel
theorem dX7_text_24 : decode cX7_text 24 = .ok (.new 141, 3) := by decide +kernel
theorem thr_RX7_145_200_s : (RX7, 200, "there is no such index") ∈ jStrs := List.mem_of_getElem? (i := 10) rfl
theorem dX7_text_27 : decode cX7_text 27 = .ok (.dup, 1) := by decide +kernel
theorem dX7_text_28 : decode cX7_text 28 = .ok (.ldc 200, 2) := by decide +kernel
theorem dX7_text_30 : decode cX7_text 30 = .ok (.invokespecial 145, 3) := by decide +kernel
theorem dX7_text_33 : decode cX7_text 33 = .ok (.athrow, 1) := by decide +kernel
theorem dX7_text_13 : decode cX7_text 13 = .ok (.iload_n 2, 1) := by decide +kernel
theorem dX7_text_14 : decode cX7_text 14 = .ok (.aload_n 0, 1) := by decide +kernel
theorem dX7_text_15 : decode cX7_text 15 = .ok (.getfield 51, 3) := by decide +kernel
theorem dX7_text_18 : decode cX7_text 18 = .ok (.invokevirtual 197, 3) := by decide +kernel
set_option maxRecDepth 20000 in
theorem ggX7_text_J4_length_8abf5 : GoodIn wsX7_text wsJ4_length_8abf5 := goodIn_r _ [292, 293, 294, 32, 295, 34, 296, 39, 329, 330, 331, 332] (by decide +kernel) (by decide +kernel)
set_option maxRecDepth 20000 in
theorem gX7_text_J4_length_8abf5 : GoodIn wsX7_text (wsV RX7 197 RJ4 yJ4_length_8abf5 wsJ4_length_8abf5) := goodIn_app (goodIn_of _ (by decide +kernel)) ggX7_text_J4_length_8abf5
theorem dX7_text_21 : decode cX7_text 21 = .ok (.if_icmp .lt 13, 3) := by decide +kernel
theorem dX7_text_34 : decode cX7_text 34 = .ok (.aload_n 0, 1) := by decide +kernel
theorem dX7_text_35 : decode cX7_text 35 = .ok (.getfield 51, 3) := by decide +kernel
theorem dX7_text_38 : decode cX7_text 38 = .ok (.iload_n 2, 1) := by decide +kernel
theorem dX7_text_39 : decode cX7_text 39 = .ok (.invokevirtual 202, 3) := by decide +kernel
set_option maxRecDepth 20000 in
theorem ggX7_text_J4_charAt_5068e : GoodIn wsX7_text wsJ4_charAt_5068e := goodIn_r _ [300, 301, 302, 32, 303, 34, 304, 47, 40, 39, 305, 78, 60, 79, 306, 243, 141, 244, 143, 245, 246, 146, 247, 307, 308, 107, 309, 132, 151, 152, 136, 137, 138, 329, 330, 331, 332] (by decide +kernel) (by decide +kernel)
set_option maxRecDepth 20000 in
theorem gX7_text_J4_charAt_5068e : GoodIn wsX7_text (wsV RX7 202 RJ4 yJ4_charAt_5068e wsJ4_charAt_5068e) := goodIn_app (goodIn_of _ (by decide +kernel)) ggX7_text_J4_charAt_5068e
theorem yY_J4_charAt_5068e : jY yJ4_charAt_5068e wsJ4_charAt_5068e cJ4_charAt_5068e 2 (some .char) 1 := ⟨⟨_, rfl⟩, by decide +kernel, by decide +kernel, by decide +kernel⟩
theorem dX7_text_42 : decode cX7_text 42 = .ok (.ireturn, 1) := by decide +kernel
set_option maxHeartbeats 400000 in
set_option maxRecDepth 20000 in
theorem ct_X7_text (l : Launch) (D : va_G) (dA : Nat → ClassId) (hst : l.stackTraces = false) (M : jM) (v : Nat) (A : cA) (hA : jAb M v A) (x y : Int32) (hwf : ∀ w, cAt (cNw A) x = some w → rOk w) : jCT l D dA yX7_text wsX7_text (50) (2100) (10) (2500) 1 [.ref (v), .int (x), .int (y)] M (jPr M v (sTx A x y)) := by
  refine jBody (cc := cX7_text) (nL := 3) (rt := (some .char)) (ini := false) (by decide) rfl hst (Nat.le_of_ble_eq_true rfl) (by simp [Value.category]) (by intro h9; first | exact absurd h9 (by decide) | rfl) ?_
  show J l D dA RX7 cX7_text wsX7_text 3 false (some .char) [] (50) (2100) (jF D dA (jn M) (jPr M v (sTx A x y)) 1) (jn M) (10) (2500) (M) 0 [.ref (v), .int (x), .int (y)] []
  obtain ⟨g1, g2, g3, g4, g5, g6, g7, g9⟩ := id hA
  obtain ⟨gx, gH, g8⟩ := id g7
  obtain ⟨ga1, ga2, ga3, ga4, ga5, ga6, ga7, ga8, ga9, ga10, ga11, ga12, ga13⟩ := id g3
  have gc30 := g5.1.2.2.2.2.2.2.2.2.2
  refine J_aload_n (v) dX7_text_0 rfl rfl ?_
  refine J_aload_n (v) dX7_text_1 rfl rfl ?_
  refine J_iload_n dX7_text_2 rfl rfl ?_
  rcases Bool.eq_false_or_eq_true (okSlot ((x))) with ok3 | ok3
  · rcases hs3 : stRange M (v + 2) ((x)) with _ | t3
    · have hj3 := (jVa_cAt g5 ((x))).1
      rw [hs3] at hj3
      have hw3 := hj3.none
      refine J_callqX (jrunV (As := [.int (x)]) (ct_X7_rangeOf l D dA hst M v A hA ((x))) dX7_text_3 yY_X7_rangeOf gX7_text_X7_rangeOf rfl cs10 (show v < jn M from by have := g1.1; omega) g1.2.1 rfl ⟨by omega, by omega⟩ ⟨by omega, by omega⟩ rfl (Nat.le_of_ble_eq_true rfl)) ((by unfold oRg; rw [if_pos ok3, hs3])) ⟨by omega, by omega⟩ (Or.inl rfl) ?_
      exact JX_out rfl (by first | (unfold sTx; rw [sSl_t ok3, sRn_n hw3]; unfold oTx; rw [if_pos c10]; exact ⟨rfl, hA, jFv.rf⟩) | (unfold sTx; rw [sSl_t ok3, sRn_n hw3]; unfold oTx; rw [if_neg (nI_pos (by omega)), if_neg (nI_nlt (by omega) (by omega))]; exact ⟨rfl, hA, jFv.rf⟩) | (unfold sTx; rw [sSl_t ok3, sRn_n hw3]; unfold oTx; rw [if_neg (nI_pos (by omega)), if_pos (nI_lt (by omega) (by omega)), nI_clamp (by omega)]; exact ⟨rfl, hA, jFv.rf⟩) | (unfold sTx; rw [sSl_t ok3, sRn_n hw3]; exact ⟨rfl, hA, jFv.rf⟩) | fail "leaf")
    · have hj3 := jVa_cAt g5 ((x))
      rw [hs3] at hj3
      obtain ⟨⟨w3, hw3, hg3, hi3⟩, hl3⟩ := And.imp_left jVa.some hj3
      have h16_3 := hl3 w3 hw3
      refine J_callqB (jrunV (As := [.int (x)]) (ct_X7_rangeOf l D dA hst M v A hA ((x))) dX7_text_3 yY_X7_rangeOf gX7_text_X7_rangeOf rfl cs10 (show v < jn M from by have := g1.1; omega) g1.2.1 rfl ⟨by omega, by omega⟩ ⟨by omega, by omega⟩ rfl (Nat.le_of_ble_eq_true rfl)) ((by unfold oRg; rw [if_pos ok3, hs3])) (rfl) ⟨by omega, by omega⟩ ?_
      refine J_callv (jrunV (As := [.ref (t3)]) (ct_X7_writeCanonical l D dA hst M v A hA t3 w3 hg3 hi3 h16_3 (hwf w3 hw3)) dX7_text_6 yY_X7_writeCanonical gX7_text_X7_writeCanonical rfl cs10 (show v < jn M from by have := g1.1; omega) g1.2.1 rfl ⟨by omega, by omega⟩ ⟨by omega, by omega⟩ rfl (Nat.le_of_ble_eq_true rfl)) ⟨by omega, by omega⟩ (Or.inr ⟨(jOk.ref (show v < jn M from by have := g1.1; omega) (jOk.int (jOk.int jOk.nil))), jOk.nil⟩) (fun E M9 hp _ => by cases hp.1) (fun M1 hp6 hle6 => ?_)
      obtain ⟨-, b1, m1, hB1, h161, hF1⟩ := hp6
      have hs9 := hA.sb hB1 h161 hF1
      have htl : (tTx w3).length ≤ 448 := tPs_len h16_3
      obtain ⟨k1, k2, k3, k4, k5, k6, k7, k9⟩ := id hs9.1
      obtain ⟨kx, kH, k8⟩ := id k7
      obtain ⟨ka1, ka2, ka3, ka4, ka5, ka6, ka7, ka8, ka9, ka10, ka11, ka12, ka13⟩ := id k3
      have kc30 := k5.1.2.2.2.2.2.2.2.2.2
      refine J_iload_n dX7_text_9 rfl rfl ?_
      refine J_if_lt dX7_text_10 (tgt := 24) (by decide) (fun c10 => ?_) (fun c10 => ?_)
      · exact J_throwS (E := "java/util/NoSuchElementException") (text := "there is no such index") (names := ["java/lang/RuntimeException", "java/lang/Exception"]) (by decide) (by decide) dX7_text_24 dX7_text_27 dX7_text_28 dX7_text_30 dX7_text_33 (List.mem_of_getElem? (i := 1) rfl) (List.mem_of_getElem? (i := 2) rfl) thr_RX7_145_200_s (fun _ h => List.mem_cons_of_mem _ (List.mem_append_left _ (List.mem_append_left _ (List.mem_append_right _ (h))))) thr_RX7_145 thr_RX7_145_g rfl (Nat.le_of_ble_eq_true rfl) (by first | decide | (simp only [List.length_cons, List.length_nil]; omega)) (by first | decide | (simp only [List.length_cons, List.length_nil]; omega)) (by omega) (by omega) (by first | (unfold sTx; rw [sSl_t ok3, sRn_s hw3]; unfold oTx; rw [if_pos c10]; exact ⟨rfl, hs9.1, hs9.2⟩) | (unfold sTx; rw [sSl_t ok3, sRn_s hw3]; unfold oTx; rw [if_neg (nI_pos (by omega)), if_neg (nI_nlt (by omega) (by omega))]; exact ⟨rfl, hs9.1, hs9.2⟩) | (unfold sTx; rw [sSl_t ok3, sRn_s hw3]; unfold oTx; rw [if_neg (nI_pos (by omega)), if_pos (nI_lt (by omega) (by omega)), nI_clamp (by omega)]; exact ⟨rfl, hs9.1, hs9.2⟩) | (unfold sTx; rw [sSl_t ok3, sRn_s hw3]; exact ⟨rfl, hs9.1, hs9.2⟩) | fail "leaf")
      · obtain ⟨k, hk31, rfl⟩ := nI_of c10
        refine J_iload_n dX7_text_13 rfl rfl ?_
        refine J_aload_n (v) dX7_text_14 rfl rfl ?_
        refine J_getrs (q := v + 34) ka5 dX7_text_15 (fun _ h => List.mem_cons_of_mem _ (List.mem_append_left _ (List.mem_append_left _ (List.mem_append_left _ (List.mem_append_left _ (List.mem_append_left _ (List.mem_append_left _ (List.mem_append_left _ (List.mem_append_left _ (List.mem_append_left _ (List.mem_append_right _ (h)))))))))))) cs10 (by decide) rfl (List.mem_of_getElem? (i := 3) rfl) rfl (show v < jn M1 from by have := k1.1; omega) k1.2.1 ?_
        refine J_calli0 (jrunV (As := []) (ct_J4_length_8abf5 l D dA hst M1 (v + 34) b1 m1 (tTx w3) hB1) dX7_text_18 yY_J4_length_8abf5 gX7_text_J4_length_8abf5 rfl cs1 hB1.1 hB1.2.1 rfl ⟨by omega, by omega⟩ ⟨Nat.zero_le _, Nat.zero_le _⟩ rfl (Nat.le_of_ble_eq_true rfl)) (rfl) (rfl) ?_
        refine J_icmp_lt dX7_text_21 (tgt := 34) (by decide) (fun c21 => ?_) (fun c21 => ?_)
        · have c21 := jltT (a := k) (b := (tTx w3).length) (by omega) (by omega) c21
          refine J_aload_n (v) dX7_text_34 rfl rfl ?_
          refine J_getrs (q := v + 34) ka5 dX7_text_35 (fun _ h => List.mem_cons_of_mem _ (List.mem_append_left _ (List.mem_append_left _ (List.mem_append_left _ (List.mem_append_left _ (List.mem_append_left _ (List.mem_append_left _ (List.mem_append_left _ (List.mem_append_left _ (List.mem_append_left _ (List.mem_append_right _ (h)))))))))))) cs10 (by decide) rfl (List.mem_of_getElem? (i := 3) rfl) rfl (show v < jn M1 from by have := k1.1; omega) k1.2.1 ?_
          refine J_iload_n dX7_text_38 rfl rfl ?_
          refine J_calli0 (jrunV (As := [.int (nI (k))]) (ct_J4_charAt_5068e l D dA hst M1 (v + 34) b1 m1 (tTx w3) hB1 k (by omega)) dX7_text_39 yY_J4_charAt_5068e gX7_text_J4_charAt_5068e rfl cs1 hB1.1 hB1.2.1 rfl ⟨by omega, by omega⟩ ⟨Nat.zero_le _, Nat.zero_le _⟩ rfl (Nat.le_of_ble_eq_true rfl)) (rfl) (rfl) ?_
          exact J_iret (ty := .char) dX7_text_42 rfl (nI_nar _ (hB1.lt (by omega))) (by first | (unfold sTx; rw [sSl_t ok3, sRn_s hw3]; unfold oTx; rw [if_pos c10]; exact ⟨rfl, hs9.1, hs9.2⟩) | (unfold sTx; rw [sSl_t ok3, sRn_s hw3]; unfold oTx; rw [if_neg (nI_pos (by omega)), if_neg (nI_nlt (by omega) (by omega))]; exact ⟨rfl, hs9.1, hs9.2⟩) | (unfold sTx; rw [sSl_t ok3, sRn_s hw3]; unfold oTx; rw [if_neg (nI_pos (by omega)), if_pos (nI_lt (by omega) (by omega)), nI_clamp (by omega)]; exact ⟨rfl, hs9.1, hs9.2⟩) | (unfold sTx; rw [sSl_t ok3, sRn_s hw3]; exact ⟨rfl, hs9.1, hs9.2⟩) | fail "leaf")
        · have c21 := jltF (a := k) (b := (tTx w3).length) (by omega) (by omega) c21
          exact J_throwS (E := "java/util/NoSuchElementException") (text := "there is no such index") (names := ["java/lang/RuntimeException", "java/lang/Exception"]) (by decide) (by decide) dX7_text_24 dX7_text_27 dX7_text_28 dX7_text_30 dX7_text_33 (List.mem_of_getElem? (i := 1) rfl) (List.mem_of_getElem? (i := 2) rfl) thr_RX7_145_200_s (fun _ h => List.mem_cons_of_mem _ (List.mem_append_left _ (List.mem_append_left _ (List.mem_append_right _ (h))))) thr_RX7_145 thr_RX7_145_g rfl (Nat.le_of_ble_eq_true rfl) (by first | decide | (simp only [List.length_cons, List.length_nil]; omega)) (by first | decide | (simp only [List.length_cons, List.length_nil]; omega)) (by omega) (by omega) (by first | (unfold sTx; rw [sSl_t ok3, sRn_s hw3]; unfold oTx; rw [if_pos c10]; exact ⟨rfl, hs9.1, hs9.2⟩) | (unfold sTx; rw [sSl_t ok3, sRn_s hw3]; unfold oTx; rw [if_neg (nI_pos (by omega)), if_neg (nI_nlt (by omega) (by omega))]; exact ⟨rfl, hs9.1, hs9.2⟩) | (unfold sTx; rw [sSl_t ok3, sRn_s hw3]; unfold oTx; rw [if_neg (nI_pos (by omega)), if_pos (nI_lt (by omega) (by omega)), nI_clamp (by omega)]; exact ⟨rfl, hs9.1, hs9.2⟩) | (unfold sTx; rw [sSl_t ok3, sRn_s hw3]; exact ⟨rfl, hs9.1, hs9.2⟩) | fail "leaf")
  · refine J_callqX (jrunV (As := [.int (x)]) (ct_X7_rangeOf l D dA hst M v A hA ((x))) dX7_text_3 yY_X7_rangeOf gX7_text_X7_rangeOf rfl cs10 (show v < jn M from by have := g1.1; omega) g1.2.1 rfl ⟨by omega, by omega⟩ ⟨by omega, by omega⟩ rfl (Nat.le_of_ble_eq_true rfl)) ((by unfold oRg; rw [if_neg (by rw [ok3]; decide)])) ⟨by omega, by omega⟩ (Or.inl rfl) ?_
    exact JX_out rfl (by first | (unfold sTx; rw [sSl_f ok3]; unfold oTx; rw [if_pos c10]; exact ⟨rfl, hA, jFv.rf⟩) | (unfold sTx; rw [sSl_f ok3]; unfold oTx; rw [if_neg (nI_pos (by omega)), if_neg (nI_nlt (by omega) (by omega))]; exact ⟨rfl, hA, jFv.rf⟩) | (unfold sTx; rw [sSl_f ok3]; unfold oTx; rw [if_neg (nI_pos (by omega)), if_pos (nI_lt (by omega) (by omega)), nI_clamp (by omega)]; exact ⟨rfl, hA, jFv.rf⟩) | (unfold sTx; rw [sSl_f ok3]; exact ⟨rfl, hA, jFv.rf⟩) | fail "leaf")

