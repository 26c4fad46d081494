theorem tPs_0 {w : rVl} (h : w.1 = 0) : tPs w = [sbX 0] := if_pos h
theorem tPs_w {w : rVl} (h : ¬ w.1 = 0) (h2 : rWhole w.2 w.1 = true) : tPs w = [[42]] := by unfold tPs; rw [if_neg h, if_pos h2]
theorem tPs_s {w : rVl} (h : ¬ w.1 = 0) (h2 : rWhole w.2 w.1 = false) : tPs w = spPs w w.1 := by unfold tPs; rw [if_neg h, if_neg (by rw [h2]; decide)]
/-- the canonical text of a range -/
def tTx (w : rVl) : List Nat := (tPs w).flatten
def oTl (w : rVl) : jO := oI (nI (tTx w).length)
def oTx (w : rVl) (y : Int32) : jO := if y < 0 then oX xNSE else if y < nI (tTx w).length then oI (nI ((tTx w).getD y.toNatClampNeg 0)) else oX xNSE
def sTl (A : cA) (x : Int32) : cR := sSl x A (sRn A x (fun w => (oTl w, A)))
def sTx (A : cA) (x y : Int32) : cR := sSl x A (sRn A x (fun w => (oTx w y, A)))
theorem wSt.fv {M0 M : jM} {v m0 : Nat} {A : cA} {tx0 : List Nat} {ps : List (List Nat)} (h : wSt M0 M v A m0 tx0 ps) (hA : jAb M0 v A) : jFv v M0 M := by
  obtain ⟨⟨b, hB⟩, hF, -, h16⟩ := h
  exact (hA.sb hB (Nat.le_trans h16 (sbK_ge _ _ _)) hF).2
theorem dX7_writeCanonical_0 : decode cX7_writeCanonical 0 = .ok (.aload_n 0, 1) := by decide +kernel
theorem dX7_writeCanonical_1 : decode cX7_writeCanonical 1 = .ok (.getfield 51, 3) := by decide +kernel
theorem dX7_writeCanonical_4 : decode cX7_writeCanonical 4 = .ok (.iconst 0, 1) := by decide +kernel
theorem dX7_writeCanonical_5 : decode cX7_writeCanonical 5 = .ok (.invokevirtual 307, 3) := by decide +kernel
set_option maxRecDepth 20000 in
theorem ggX7_writeCanonical_J4_setLength_d00df : GoodIn wsX7_writeCanonical wsJ4_setLength_d00df := goodIn_r _ [6, 7, 8, 9, 10, 11, 12, 13, 14, 15, 16, 17, 18, 19, 20, 21, 22, 23, 24, 25, 26, 27, 28, 29, 30, 31, 32, 33, 34, 35, 36, 37, 38, 39, 40, 41, 42, 43, 44, 45, 46, 47, 48, 49, 50, 51, 52, 53, 54, 55, 56, 57, 58, 59, 60, 61, 62, 63, 64, 65, 66, 67, 68, 69, 70, 71, 72, 73, 74, 75, 76, 77, 78, 5, 79, 80, 81, 82, 83, 84, 85, 86, 277, 278, 279, 280, 281, 282, 283, 284, 285, 286, 287, 288, 289, 290, 291, 292] (by decide +kernel) (by decide +kernel)
set_option maxRecDepth 20000 in
theorem gX7_writeCanonical_J4_setLength_d00df : GoodIn wsX7_writeCanonical (wsV RX7 307 RJ4 yJ4_setLength_d00df wsJ4_setLength_d00df) := goodIn_app (goodIn_of _ (by decide +kernel)) ggX7_writeCanonical_J4_setLength_d00df
theorem yY_J4_setLength_d00df : jY yJ4_setLength_d00df wsJ4_setLength_d00df cJ4_setLength_d00df 2 none 1 := ⟨⟨_, rfl⟩, by decide +kernel, by decide +kernel, by decide +kernel⟩
theorem dX7_writeCanonical_8 : decode cX7_writeCanonical 8 = .ok (.aload_n 1, 1) := by decide +kernel
theorem dX7_writeCanonical_9 : decode cX7_writeCanonical 9 = .ok (.invokevirtual 169, 3) := by decide +kernel
set_option maxRecDepth 20000 in
theorem ggX7_writeCanonical_X3_isEmpty : GoodIn wsX7_writeCanonical wsX3_isEmpty := goodIn_r _ [91, 92, 293] (by decide +kernel) (by decide +kernel)
set_option maxRecDepth 20000 in
theorem gX7_writeCanonical_X3_isEmpty : GoodIn wsX7_writeCanonical (wsV RX7 169 RX3 yX3_isEmpty wsX3_isEmpty) := goodIn_app (goodIn_of _ (by decide +kernel)) ggX7_writeCanonical_X3_isEmpty
theorem dX7_writeCanonical_12 : decode cX7_writeCanonical 12 = .ok (.ifCond .eq 15, 3) := by decide +kernel
theorem dX7_writeCanonical_27 : decode cX7_writeCanonical 27 = .ok (.aload_n 1, 1) := by decide +kernel
theorem dX7_writeCanonical_28 : decode cX7_writeCanonical 28 = .ok (.invokevirtual 316, 3) := by decide +kernel
set_option maxRecDepth 20000 in
theorem ggX7_writeCanonical_X3_isWhole : GoodIn wsX7_writeCanonical wsX3_isWhole := goodIn_ca (goodIn_r _ [188, 189, 190, 191, 192, 90, 193, 92, 194, 195, 196, 197, 198, 199, 200, 201, 293] (by decide +kernel) (by decide +kernel)) (goodIn_sub (fun _ h => List.mem_cons_of_mem _ (List.mem_append_right _ h)) (by decide +kernel))
set_option maxRecDepth 20000 in
theorem gX7_writeCanonical_X3_isWhole : GoodIn wsX7_writeCanonical (wsV RX7 316 RX3 yX3_isWhole wsX3_isWhole) := goodIn_app (goodIn_of _ (by decide +kernel)) ggX7_writeCanonical_X3_isWhole
theorem yY_X3_isWhole : jY yX3_isWhole wsX3_isWhole cX3_isWhole 1 (some .boolean) 0 := ⟨⟨_, rfl⟩, by decide +kernel, by decide +kernel, by decide +kernel⟩
theorem dX7_writeCanonical_31 : decode cX7_writeCanonical 31 = .ok (.ifCond .eq 14, 3) := by decide +kernel
theorem dX7_writeCanonical_47 : decode cX7_writeCanonical 47 = .ok (.iload_n 2, 1) := by decide +kernel
theorem dX7_writeCanonical_48 : decode cX7_writeCanonical 48 = .ok (.aload_n 1, 1) := by decide +kernel
theorem dX7_writeCanonical_49 : decode cX7_writeCanonical 49 = .ok (.invokevirtual 98, 3) := by decide +kernel
set_option maxRecDepth 20000 in
theorem ggX7_writeCanonical_X3_spanCount : GoodIn wsX7_writeCanonical wsX3_spanCount := goodIn_r _ [193, 92, 293] (by decide +kernel) (by decide +kernel)
set_option maxRecDepth 20000 in
theorem gX7_writeCanonical_X3_spanCount : GoodIn wsX7_writeCanonical (wsV RX7 98 RX3 yX3_spanCount wsX3_spanCount) := goodIn_app (goodIn_of _ (by decide +kernel)) ggX7_writeCanonical_X3_spanCount
theorem dX7_writeCanonical_52 : decode cX7_writeCanonical 52 = .ok (.if_icmp .ge 37, 3) := by decide +kernel
theorem dX7_writeCanonical_89 : decode cX7_writeCanonical 89 = .ok (.return_, 1) := by decide +kernel
theorem dX7_writeCanonical_55 : decode cX7_writeCanonical 55 = .ok (.iload_n 2, 1) := by decide +kernel
theorem dX7_writeCanonical_56 : decode cX7_writeCanonical 56 = .ok (.ifCond .le 13, 3) := by decide +kernel
theorem dX7_writeCanonical_69 : decode cX7_writeCanonical 69 = .ok (.aload_n 0, 1) := by decide +kernel
theorem dX7_writeCanonical_70 : decode cX7_writeCanonical 70 = .ok (.aload_n 1, 1) := by decide +kernel
theorem dX7_writeCanonical_71 : decode cX7_writeCanonical 71 = .ok (.iload_n 2, 1) := by decide +kernel
theorem dX7_writeCanonical_72 : decode cX7_writeCanonical 72 = .ok (.invokevirtual 150, 3) := by decide +kernel
set_option maxRecDepth 20000 in
theorem ggX7_writeCanonical_X3_firstOf : GoodIn wsX7_writeCanonical wsX3_firstOf := goodIn_ca (goodIn_r _ [197, 92, 190, 191, 192, 90, 193, 293] (by decide +kernel) (by decide +kernel)) (goodIn_sub (fun _ h => List.mem_cons_of_mem _ (List.mem_append_right _ h)) (by decide +kernel))
set_option maxRecDepth 20000 in
theorem gX7_writeCanonical_X3_firstOf : GoodIn wsX7_writeCanonical (wsV RX7 150 RX3 yX3_firstOf wsX3_firstOf) := goodIn_app (goodIn_of _ (by decide +kernel)) ggX7_writeCanonical_X3_firstOf
theorem dX7_writeCanonical_75 : decode cX7_writeCanonical 75 = .ok (.aload_n 1, 1) := by decide +kernel
theorem dX7_writeCanonical_76 : decode cX7_writeCanonical 76 = .ok (.iload_n 2, 1) := by decide +kernel
theorem dX7_writeCanonical_77 : decode cX7_writeCanonical 77 = .ok (.invokevirtual 146, 3) := by decide +kernel
set_option maxRecDepth 20000 in
theorem ggX7_writeCanonical_X3_lastOf : GoodIn wsX7_writeCanonical wsX3_lastOf := goodIn_ca (goodIn_r _ [201, 92, 190, 191, 192, 90, 193, 293] (by decide +kernel) (by decide +kernel)) (goodIn_sub (fun _ h => List.mem_cons_of_mem _ (List.mem_append_right _ h)) (by decide +kernel))
set_option maxRecDepth 20000 in
theorem gX7_writeCanonical_X3_lastOf : GoodIn wsX7_writeCanonical (wsV RX7 146 RX3 yX3_lastOf wsX3_lastOf) := goodIn_app (goodIn_of _ (by decide +kernel)) ggX7_writeCanonical_X3_lastOf
theorem dX7_writeCanonical_80 : decode cX7_writeCanonical 80 = .ok (.invokevirtual 322, 3) := by decide +kernel
set_option maxRecDepth 20000 in
theorem ggX7_writeCanonical_X7_writeSpan : GoodIn wsX7_writeCanonical wsX7_writeSpan := goodIn_r _ [232, 1, 233, 202, 203, 204, 5, 205, 206, 207, 9, 208, 11, 209, 16, 17, 19, 20, 21, 22, 23, 24, 25, 26, 27, 28, 29, 30, 31, 32, 33, 34, 35, 36, 37, 38, 39, 40, 41, 42, 43, 44, 45, 46, 47, 48, 49, 50, 51, 52, 53, 54, 55, 56, 57, 58, 59, 60, 61, 62, 63, 64, 65, 66, 210, 211, 69, 212, 152, 153, 154, 155, 156, 157, 158, 84, 159, 160, 161, 162, 163, 164, 165, 166, 167, 168, 169, 170, 171, 172, 113, 114, 115, 173, 174, 118, 175, 120, 176, 177, 123, 178, 125, 126, 127, 109, 128, 129, 213, 214, 215, 216, 217, 218, 219, 220, 221, 222, 223, 224, 234, 235, 236, 231, 237, 238, 239, 240, 241, 242, 243, 244, 245, 246, 247, 248, 249, 250, 251, 252, 253, 254, 255, 256, 257, 258, 110, 111, 112, 116, 117, 119, 121, 122, 124, 259, 260, 261, 262, 263, 264, 265, 266, 93, 94, 95, 96, 97, 98, 99, 100, 101, 102, 103, 104, 105, 106, 107, 108, 130, 131, 132, 133, 134, 135, 136, 137, 138, 139, 140, 141, 142, 143, 144, 145, 146, 147, 148, 149, 150, 151, 179, 180, 181, 182, 183, 184, 267, 268, 269, 270, 271, 272, 273, 274, 275, 276, 283, 284, 285, 286, 294, 295, 296, 297] (by decide +kernel) (by decide +kernel)
set_option maxRecDepth 20000 in
theorem gX7_writeCanonical_X7_writeSpan : GoodIn wsX7_writeCanonical (wsV RX7 322 RX7 yX7_writeSpan wsX7_writeSpan) := goodIn_app (goodIn_of _ (by decide +kernel)) ggX7_writeCanonical_X7_writeSpan
theorem yY_X7_writeSpan : jY yX7_writeSpan wsX7_writeSpan cX7_writeSpan 3 none 2 := ⟨⟨_, rfl⟩, by decide +kernel, by decide +kernel, by decide +kernel⟩
theorem dX7_writeCanonical_83 : decode cX7_writeCanonical 83 = .ok (.iinc 2 1, 3) := by decide +kernel
theorem dX7_writeCanonical_86 : decode cX7_writeCanonical 86 = .ok (.goto (-39), 3) := by decide +kernel
theorem dX7_writeCanonical_59 : decode cX7_writeCanonical 59 = .ok (.aload_n 0, 1) := by decide +kernel
theorem dX7_writeCanonical_60 : decode cX7_writeCanonical 60 = .ok (.getfield 51, 3) := by decide +kernel
theorem dX7_writeCanonical_63 : decode cX7_writeCanonical 63 = .ok (.bipush 124, 2) := by decide +kernel
theorem dX7_writeCanonical_65 : decode cX7_writeCanonical 65 = .ok (.invokevirtual 319, 3) := by decide +kernel
set_option maxRecDepth 20000 in
theorem ggX7_writeCanonical_J4_append_cf468 : GoodIn wsX7_writeCanonical wsJ4_append_cf468 := goodIn_r _ [205, 206, 207, 9, 208, 11, 209, 16, 17, 19, 20, 21, 22, 23, 24, 25, 26, 27, 28, 29, 30, 31, 32, 33, 34, 35, 36, 37, 38, 39, 40, 41, 42, 43, 44, 45, 46, 47, 48, 49, 50, 51, 52, 53, 54, 55, 56, 57, 58, 59, 60, 61, 62, 63, 64, 65, 66, 210, 211, 69, 212, 152, 153, 154, 155, 156, 157, 158, 84, 159, 160, 161, 162, 163, 164, 165, 166, 167, 168, 169, 170, 171, 172, 113, 114, 115, 173, 174, 118, 175, 120, 176, 177, 123, 178, 125, 126, 127, 109, 128, 129, 213, 214, 215, 216, 217, 218, 219, 220, 221, 222, 223, 224, 283, 284, 285, 286] (by decide +kernel) (by decide +kernel)
set_option maxRecDepth 20000 in
theorem gX7_writeCanonical_J4_append_cf468 : GoodIn wsX7_writeCanonical (wsV RX7 319 RJ4 yJ4_append_cf468 wsJ4_append_cf468) := goodIn_app (goodIn_of _ (by decide +kernel)) ggX7_writeCanonical_J4_append_cf468
theorem dX7_writeCanonical_68 : decode cX7_writeCanonical 68 = .ok (.pop, 1) := by decide +kernel
theorem dX7_writeCanonical_45 : decode cX7_writeCanonical 45 = .ok (.iconst 0, 1) := by decide +kernel
theorem dX7_writeCanonical_46 : decode cX7_writeCanonical 46 = .ok (.istore_n 2, 1) := by decide +kernel
theorem dX7_writeCanonical_34 : decode cX7_writeCanonical 34 = .ok (.aload_n 0, 1) := by decide +kernel
theorem dX7_writeCanonical_35 : decode cX7_writeCanonical 35 = .ok (.getfield 51, 3) := by decide +kernel
theorem dX7_writeCanonical_38 : decode cX7_writeCanonical 38 = .ok (.bipush 42, 2) := by decide +kernel
theorem dX7_writeCanonical_40 : decode cX7_writeCanonical 40 = .ok (.invokevirtual 319, 3) := by decide +kernel
theorem dX7_writeCanonical_43 : decode cX7_writeCanonical 43 = .ok (.pop, 1) := by decide +kernel
theorem dX7_writeCanonical_44 : decode cX7_writeCanonical 44 = .ok (.return_, 1) := by decide +kernel
theorem dX7_writeCanonical_15 : decode cX7_writeCanonical 15 = .ok (.aload_n 0, 1) := by decide +kernel
theorem dX7_writeCanonical_16 : decode cX7_writeCanonical 16 = .ok (.getfield 51, 3) := by decide +kernel
theorem dX7_writeCanonical_19 : decode cX7_writeCanonical 19 = .ok (.ldc_w 310, 3) := by decide +kernel
theorem dX7_writeCanonical_22 : decode cX7_writeCanonical 22 = .ok (.invokevirtual 312, 3) := by decide +kernel
set_option maxRecDepth 20000 in
theorem ggX7_writeCanonical_J4_append_15ec4 : GoodIn wsX7_writeCanonical wsJ4_append_15ec4 := goodIn_r _ [96, 97, 98, 9, 99, 11, 100, 16, 101, 102, 103, 104, 105, 17, 19, 20, 21, 22, 23, 24, 25, 26, 27, 28, 29, 30, 31, 32, 33, 34, 35, 36, 37, 38, 39, 40, 41, 42, 43, 44, 45, 46, 47, 48, 49, 50, 51, 52, 53, 54, 55, 56, 57, 58, 59, 60, 61, 62, 63, 64, 65, 66, 106, 107, 84, 108, 109, 110, 111, 112, 113, 114, 115, 116, 117, 118, 119, 120, 121, 122, 123, 124, 125, 126, 127, 128, 129, 130, 131, 132, 133, 134, 135, 136, 137, 138, 139, 140, 141, 142, 143, 144, 145, 146, 147, 148, 149, 150, 151, 152, 153, 154, 155, 156, 157, 158, 159, 160, 161, 162, 163, 164, 165, 69, 166, 167, 168, 169, 170, 171, 172, 173, 174, 175, 176, 177, 178, 179, 180, 181, 182, 183, 184, 283, 284, 285, 286, 294, 295, 296, 297] (by decide +kernel) (by decide +kernel)
set_option maxRecDepth 20000 in
theorem gX7_writeCanonical_J4_append_15ec4 : GoodIn wsX7_writeCanonical (wsV RX7 312 RJ4 yJ4_append_15ec4 wsJ4_append_15ec4) := goodIn_app (goodIn_of _ (by decide +kernel)) ggX7_writeCanonical_J4_append_15ec4
theorem dX7_writeCanonical_25 : decode cX7_writeCanonical 25 = .ok (.pop, 1) := by decide +kernel
theorem dX7_writeCanonical_26 : decode cX7_writeCanonical 26 = .ok (.return_, 1) := by decide +kernel
set_option maxHeartbeats 400000 in
set_option maxRecDepth 20000 in
theorem ct_X7_writeCanonical (l : Launch) (D : va_G) (dA : Nat → ClassId) (hst : l.stackTraces = false) (M : jM) (v : Nat) (A : cA) (hA : jAb M v A) (t9 : Nat) (w : rVl) (hR : jRg M t9 w.1) (hi : ∀ j, j < 2 * w.1 → ji M (t9 + 1) j = w.2 j) (hw16 : w.1 ≤ 16) (hok : rOk w) : jCT l D dA yX7_writeCanonical wsX7_writeCanonical (42) (1620) (6) (2404) 0 [.ref (v), .ref (t9)] M (fun o M1 => o = oV ∧ ∃ b1 m1, sbT M1 (v + 34) b1 m1 (tTx w) ∧ 16 ≤ m1 ∧ sbF (v + 34) M M1) := by
  refine jBody (cc := cX7_writeCanonical) (nL := 3) (rt := none) (ini := false) (by decide) rfl hst (Nat.le_of_ble_eq_true rfl) (by simp [Value.category]) (by intro h9; first | exact absurd h9 (by decide) | rfl) ?_
  show J l D dA RX7 cX7_writeCanonical wsX7_writeCanonical 3 false none [] (42) (1620) (jF D dA (jn M) (fun o M1 => o = oV ∧ ∃ b1 m1, sbT M1 (v + 34) b1 m1 (tTx w) ∧ 16 ≤ m1 ∧ sbF (v + 34) M M1) 0) (jn M) (6) (2404) (M) 0 [.ref (v), .ref (t9), .float 0] []
  obtain ⟨g1, g2, g3, g4, g5, g6, g7, g9⟩ := id hA
  obtain ⟨gx, gH, g8⟩ := id g7
  obtain ⟨ga1, ga2, ga3, ga4, ga5, ga6, ga7, ga8, ga9, ga10, ga11, ga12, ga13⟩ := id g3
  have gc30 := g5.1.2.2.2.2.2.2.2.2.2
  obtain ⟨b9, len9, u1, u2, u3, u4, u5, u6, u7, u8, u9, u10, u11, u12⟩ := id g9
  obtain ⟨m9, hm9⟩ : ∃ m9, m9 = jz M b9 := ⟨_, rfl⟩
  rw [← hm9] at u8 u9 u10
  have h16m : 16 ≤ m9 := u9
  have hW9 : sbW M (v + 34) b9 m9 len9 := ⟨u1, u2, u3, u4, u5, hm9.symm, u6, u7, u8, u10, u12, u11⟩
  have hTl := tPs_len hw16
  have hpot := sbK_pot (tPs w) m9 0 h16m (by omega)
  have hgp := sbGp_6 m9
  have hc0 : sbKc m9 ([] : List Nat).length (tPs w) = sbKc m9 0 (tPs w) := rfl
  have hs0 : sbKs m9 ([] : List Nat).length (tPs w) = sbKs m9 0 (tPs w) := rfl
  have hcn : sbKc m9 ([] : List Nat).length [] = 0 := rfl
  have hsn : sbKs m9 ([] : List Nat).length [] = 0 := rfl
  have hlT : ([] : List Nat).length + (tPs w).flatten.length ≤ 500 := by show 0 + _ ≤ 500; omega
  refine J_aload_n (v) dX7_writeCanonical_0 rfl rfl ?_
  refine J_getrs (q := v + 34) ga5 dX7_writeCanonical_1 (fun _ h => List.mem_cons_of_mem _ (List.mem_append_left _ (List.mem_append_left _ (List.mem_append_left _ (List.mem_append_left _ (List.mem_append_left _ (List.mem_append_left _ (List.mem_append_right _ (h))))))))) cs10 (by decide) rfl (List.mem_of_getElem? (i := 1) rfl) rfl (show v < jn M from by have := g1.1; omega) g1.2.1 ?_
  refine J_iconst (x := 0) dX7_writeCanonical_4 (by decide) ?_
  refine J_callv (jrunV (As := [.int (0)]) (ct_J4_setLength_d00df l D dA hst M (v + 34) b9 m9 len9 hW9 g2) dX7_writeCanonical_5 yY_J4_setLength_d00df gX7_writeCanonical_J4_setLength_d00df rfl cs1 hW9.1 hW9.2.1 rfl ⟨by omega, by omega⟩ ⟨Nat.zero_le _, Nat.zero_le _⟩ rfl (Nat.le_of_ble_eq_true rfl)) ⟨Nat.zero_le _, Nat.zero_le _⟩ (Or.inr ⟨(jOk.ref (show v < jn M from by have := g1.1; omega) (jOk.ref (Nat.lt_of_succ_lt hR.1) (jOk.float jOk.nil))), jOk.nil⟩) (fun E M9 hp _ => by cases hp.1) (fun M1 hp5 hle5 => ?_)
  obtain ⟨-, hB1, hF1⟩ := hp5
  have hsb1 := hA.sb hB1 h16m hF1
  have hA1 := hsb1.1
  have hR1 := hR.rk (hsb1.2.rk g1)
  have hi1 : ∀ j, j < 2 * w.1 → ji M1 (t9 + 1) j = w.2 j := fun j hj => by rw [((hsb1.2.rk g1).2.2 t9 _ hR).2]; exact hi j hj
  have hW0 : wSt M1 M1 v A m9 [] [] := ⟨⟨b9, hB1⟩, sbF.rf hA1.2.1, hA1, h16m⟩
  obtain ⟨⟨b0, hB0⟩, hF0, hA0, -⟩ := id hW0
  obtain ⟨y01, y02, y03, y04, y05, y06, y07, y09⟩ := id hA0
  obtain ⟨y0x, y0H, y08⟩ := id y07
  obtain ⟨y0a1, y0a2, y0a3, y0a4, y0a5, y0a6, y0a7, y0a8, y0a9, y0a10, y0a11, y0a12, y0a13⟩ := id y03
  have y0c30 := y05.1.2.2.2.2.2.2.2.2.2
  have hg0 := hR1.rk ((hW0.fv hA1).rk y01)
  have hi0 : ∀ j, j < 2 * w.1 → ji M1 (t9 + 1) j = w.2 j := fun j hj => by rw [(((hW0.fv hA1).rk y01).2.2 t9 _ hR1).2]; exact hi1 j hj
  refine J_less (bc' := sbKc m9 ([] : List Nat).length (tPs w) - sbKc m9 ([] : List Nat).length []) (bs' := sbKs m9 ([] : List Nat).length (tPs w) - sbKs m9 ([] : List Nat).length []) (by omega) (by omega) ?_
  refine J_aload_n (t9) dX7_writeCanonical_8 rfl rfl ?_
  refine J_calli0 (jrunV (As := []) (ct_X3_isEmpty l D dA hst M1 t9 w.1 hg0) dX7_writeCanonical_9 yY_X3_isEmpty gX7_writeCanonical_X3_isEmpty rfl cs7 (Nat.lt_of_succ_lt hg0.1) hg0.2.1 rfl ⟨by omega, by omega⟩ ⟨Nat.zero_le _, Nat.zero_le _⟩ rfl (Nat.le_of_ble_eq_true rfl)) (rfl) (rfl) ?_
  refine J_if_eq dX7_writeCanonical_12 (tgt := 27) (by decide) (fun c12 => ?_) (fun c12 => ?_)
  · have c12 := jb0T c12
    have c12n : ¬ w.1 = 0 := of_decide_eq_false c12
    refine J_aload_n (t9) dX7_writeCanonical_27 rfl rfl ?_
    refine J_calli0 (jrunV (As := []) (ct_X3_isWhole l D dA hst M1 t9 w.1 hg0) dX7_writeCanonical_28 yY_X3_isWhole gX7_writeCanonical_X3_isWhole rfl cs7 (Nat.lt_of_succ_lt hg0.1) hg0.2.1 rfl ⟨by omega, by omega⟩ ⟨Nat.zero_le _, Nat.zero_le _⟩ rfl (Nat.le_of_ble_eq_true rfl)) (rfl) (rfl) ?_
    refine J_topi (y := jb (rWhole w.2 w.1)) (by rw [rWhole_congr hi0]) ?_
    refine J_if_eq dX7_writeCanonical_31 (tgt := 45) (by decide) (fun c31 => ?_) (fun c31 => ?_)
    · have c31 := jb0T c31
      have L47 : ∀ (fuel : Nat) (k : Nat) (Mz : jM) (hk : k ≤ w.1) (hWz : wSt M1 Mz v A m9 [] (spPs w k)), w.1 - k < fuel → J l D dA RX7 cX7_writeCanonical wsX7_writeCanonical 3 false none [] (42) (1620) (jF D dA (jn M) (fun o M1 => o = oV ∧ ∃ b1 m1, sbT M1 (v + 34) b1 m1 (tTx w) ∧ 16 ≤ m1 ∧ sbF (v + 34) M M1) 0) (jn M) (sbKc m9 ([] : List Nat).length (tPs w) - sbKc m9 ([] : List Nat).length (spPs w k)) (sbKs m9 ([] : List Nat).length (tPs w) - sbKs m9 ([] : List Nat).length (spPs w k)) (Mz) 47 [.ref (v), .ref (t9), .int (nI (k))] [] := by
        intro fuel
        induction fuel with
        | zero => intro k Mz hk hWz hm; exact absurd hm (Nat.not_lt_zero _)
        | succ fuel ih47 =>
          intro k Mz hk hWz hm47
          obtain ⟨⟨bz, hBz⟩, hFz, hAz, -⟩ := id hWz
          obtain ⟨yz1, yz2, yz3, yz4, yz5, yz6, yz7, yz9⟩ := id hAz
          obtain ⟨yzx, yzH, yz8⟩ := id yz7
          obtain ⟨yza1, yza2, yza3, yza4, yza5, yza6, yza7, yza8, yza9, yza10, yza11, yza12, yza13⟩ := id yz3
          have yzc30 := yz5.1.2.2.2.2.2.2.2.2.2
          have hgz := hR1.rk ((hWz.fv hA1).rk y01)
          have hiz : ∀ j, j < 2 * w.1 → ji Mz (t9 + 1) j = w.2 j := fun j hj => by rw [(((hWz.fv hA1).rk y01).2.2 t9 _ hR1).2]; exact hi1 j hj
          refine J_iload_n dX7_writeCanonical_47 rfl rfl ?_
          refine J_aload_n (t9) dX7_writeCanonical_48 rfl rfl ?_
          refine J_calli0 (jrunV (As := []) (ct_X3_spanCount l D dA hst Mz t9 w.1 hgz) dX7_writeCanonical_49 yY_X3_spanCount gX7_writeCanonical_X3_spanCount rfl cs7 (Nat.lt_of_succ_lt hgz.1) hgz.2.1 rfl ⟨by omega, by omega⟩ ⟨Nat.zero_le _, Nat.zero_le _⟩ rfl (Nat.le_of_ble_eq_true rfl)) (rfl) (rfl) ?_
          refine J_icmp_ge dX7_writeCanonical_52 (tgt := 89) (by decide) (fun c52 => ?_) (fun c52 => ?_)
          · have c52 := jleT (a := w.1) (b := k) (by omega) (by omega) c52
            exact J_vret dX7_writeCanonical_89 rfl (by have e9 : tPs w = spPs w k := (by rw [tPs_s c12n c31, show k = w.1 from by omega]); unfold tTx; rw [e9]; exact ⟨rfl, _, _, hBz, Nat.le_trans h16m (sbK_ge _ _ _), hF1.tr hFz⟩)
          · have c52 := jleF (a := w.1) (b := k) (by omega) (by omega) c52
            refine J_iload_n dX7_writeCanonical_55 rfl rfl ?_
            refine J_if_le dX7_writeCanonical_56 (tgt := 69) (by decide) (fun c56 => ?_) (fun c56 => ?_)
            · have c56 := jleT (a := k) (b := 0) (by omega) (by omega) c56
              refine J_aload_n (v) dX7_writeCanonical_69 rfl rfl ?_
              refine J_aload_n (t9) dX7_writeCanonical_70 rfl rfl ?_
              refine J_iload_n dX7_writeCanonical_71 rfl rfl ?_
              refine J_calli0 (jrunV (As := [.int (nI (k))]) (ct_X3_firstOf l D dA hst Mz t9 w.1 hgz (k) (by omega)) dX7_writeCanonical_72 yY_X3_firstOf gX7_writeCanonical_X3_firstOf rfl cs7 (Nat.lt_of_succ_lt hgz.1) hgz.2.1 rfl ⟨by omega, by omega⟩ ⟨Nat.zero_le _, Nat.zero_le _⟩ rfl (Nat.le_of_ble_eq_true rfl)) (rfl) (rfl) ?_
              refine J_topi (y := nI (w.2 (2 * k)).toNatClampNeg) (by rw [rFirst_congr hiz]; unfold rFirst; rw [if_pos (by omega)]; exact (hok (2 * k) (by omega)).1) ?_
              refine J_aload_n (t9) dX7_writeCanonical_75 rfl rfl ?_
              refine J_iload_n dX7_writeCanonical_76 rfl rfl ?_
              refine J_calli0 (jrunV (As := [.int (nI (k))]) (ct_X3_lastOf l D dA hst Mz t9 w.1 hgz (k) (by omega)) dX7_writeCanonical_77 yY_X3_lastOf gX7_writeCanonical_X3_lastOf rfl cs7 (Nat.lt_of_succ_lt hgz.1) hgz.2.1 rfl ⟨by omega, by omega⟩ ⟨Nat.zero_le _, Nat.zero_le _⟩ rfl (Nat.le_of_ble_eq_true rfl)) (rfl) (rfl) ?_
              refine J_topi (y := nI (w.2 (2 * k + 1)).toNatClampNeg) (by rw [rLast_congr hiz]; unfold rLast; rw [if_pos (by omega)]; exact (hok (2 * k + 1) (by omega)).1) ?_
              obtain ⟨b80q, mm80, tt80, cc80, ss80, hB80q, h1680, hl80, hc80, hs80, e180, e280, e380, e480, hst80⟩ := hWz.preL (sPs (w.2 (2 * k)).toNatClampNeg (w.2 (2 * k + 1)).toNatClampNeg) (tPs w) (by obtain ⟨r, hr⟩ := spPs_in (w := w) (k := k) (qs := sPs (w.2 (2 * k)).toNatClampNeg (w.2 (2 * k + 1)).toNatClampNeg) (by omega) c12n (by rw [c31]; decide) ⟨[], by show spPs w k ++ ((if 0 < k then [[124]] else []) ++ sPs (w.2 (2 * k)).toNatClampNeg (w.2 (2 * k + 1)).toNatClampNeg) = _; rw [if_neg (by omega), List.append_nil]; rfl⟩; exact ⟨r, hr⟩) hlT
              refine J_callv (jrunV (As := [.int (nI ((w.2 (2 * k)).toNatClampNeg)), .int (nI ((w.2 (2 * k + 1)).toNatClampNeg))]) (ct_X7_writeSpan l D dA hst Mz v A hAz b80q mm80 tt80 hB80q h1680 (w.2 (2 * k)).toNatClampNeg (w.2 (2 * k + 1)).toNatClampNeg (hok (2 * k) (by omega)).2 (hok (2 * k + 1) (by omega)).2 (by omega)) dX7_writeCanonical_80 yY_X7_writeSpan gX7_writeCanonical_X7_writeSpan rfl cs10 (show v < jn Mz from by have := yz1.1; omega) yz1.2.1 rfl ⟨by omega, by omega⟩ ⟨by omega, by omega⟩ rfl (Nat.le_of_ble_eq_true rfl)) ⟨by omega, by omega⟩ (Or.inr ⟨(jOk.ref (show v < jn Mz from by have := yz1.1; omega) (jOk.ref (Nat.lt_of_succ_lt hgz.1) (jOk.int jOk.nil))), jOk.nil⟩) (fun E M9 hp _ => by cases hp.1) (fun M80_ hp80 hle80 => ?_)
              have hW80_ := hst80 _ hp80.2
              obtain ⟨⟨b80_, hB80_⟩, hF80_, hA80_, -⟩ := id hW80_
              obtain ⟨y80_1, y80_2, y80_3, y80_4, y80_5, y80_6, y80_7, y80_9⟩ := id hA80_
              obtain ⟨y80_x, y80_H, y80_8⟩ := id y80_7
              obtain ⟨y80_a1, y80_a2, y80_a3, y80_a4, y80_a5, y80_a6, y80_a7, y80_a8, y80_a9, y80_a10, y80_a11, y80_a12, y80_a13⟩ := id y80_3
              have y80_c30 := y80_5.1.2.2.2.2.2.2.2.2.2
              refine J_less (bc' := sbKc m9 ([] : List Nat).length (tPs w) - sbKc m9 ([] : List Nat).length ((spPs w k) ++ (sPs (w.2 (2 * k)).toNatClampNeg (w.2 (2 * k + 1)).toNatClampNeg))) (bs' := sbKs m9 ([] : List Nat).length (tPs w) - sbKs m9 ([] : List Nat).length ((spPs w k) ++ (sPs (w.2 (2 * k)).toNatClampNeg (w.2 (2 * k + 1)).toNatClampNeg))) (by omega) (by omega) ?_
              have e9 : spPs w (k + 1) = ((spPs w k) ++ (sPs (w.2 (2 * k)).toNatClampNeg (w.2 (2 * k + 1)).toNatClampNeg)) := by show spPs w k ++ ((if 0 < k then [[124]] else []) ++ sPs (w.2 (2 * k)).toNatClampNeg (w.2 (2 * k + 1)).toNatClampNeg) = _; rw [if_neg (by omega)]; rfl
              have e9c : sbKc m9 ([] : List Nat).length (spPs w (k + 1)) = sbKc m9 ([] : List Nat).length ((spPs w k) ++ (sPs (w.2 (2 * k)).toNatClampNeg (w.2 (2 * k + 1)).toNatClampNeg)) := by rw [e9]
              have e9s : sbKs m9 ([] : List Nat).length (spPs w (k + 1)) = sbKs m9 ([] : List Nat).length ((spPs w k) ++ (sPs (w.2 (2 * k)).toNatClampNeg (w.2 (2 * k + 1)).toNatClampNeg)) := by rw [e9]
              refine J_iinc (y := nI (k + 1)) (lv' := [.ref (v), .ref (t9), .int (nI (k + 1))]) dX7_writeCanonical_83 rfl (jinc (k)) (by decide) rfl rfl ?_
              refine J_goto (tgt := 47) dX7_writeCanonical_86 (by decide) ?_
              refine J_less (bc' := sbKc m9 ([] : List Nat).length (tPs w) - sbKc m9 ([] : List Nat).length (spPs w (k + 1))) (bs' := sbKs m9 ([] : List Nat).length (tPs w) - sbKs m9 ([] : List Nat).length (spPs w (k + 1))) (by omega) (by omega) ?_
              exact ih47 (k + 1) (M80_) (by omega) (by rw [e9]; exact hW80_) (by omega)
            · have c56 := jleF (a := k) (b := 0) (by omega) (by omega) c56
              refine J_aload_n (v) dX7_writeCanonical_59 rfl rfl ?_
              refine J_getrs (q := v + 34) yza5 dX7_writeCanonical_60 (fun _ h => List.mem_cons_of_mem _ (List.mem_append_left _ (List.mem_append_left _ (List.mem_append_left _ (List.mem_append_left _ (List.mem_append_left _ (List.mem_append_left _ (List.mem_append_right _ (h))))))))) cs10 (by decide) rfl (List.mem_of_getElem? (i := 1) rfl) rfl (show v < jn Mz from by have := yz1.1; omega) yz1.2.1 ?_
              refine J_bipush (x := 124) dX7_writeCanonical_63 (by decide) ?_
              obtain ⟨b65q, mm65, tt65, cc65, ss65, hB65q, hl65, hc65, hs65, e165, e265, e365, e465, hst65⟩ := hWz.pre [124] (tPs w) (spPs_in (w := w) (k := k) (qs := [[124]]) (by omega) c12n (by rw [c31]; decide) ⟨sPs (w.2 (2 * k)).toNatClampNeg (w.2 (2 * k + 1)).toNatClampNeg, by show spPs w k ++ ((if 0 < k then [[124]] else []) ++ sPs (w.2 (2 * k)).toNatClampNeg (w.2 (2 * k + 1)).toNatClampNeg) = _; rw [if_pos (by omega), List.append_assoc]⟩) hlT
              replace hc65 : cc65 = sbC (tt65.length + 1) mm65 := hc65
              replace hs65 : ss65 = sbS (tt65.length + 1) mm65 := hs65
              replace hl65 : tt65.length + 1 ≤ 500 := hl65
              refine J_callq (jrunV (As := [.int (124)]) (ct_J4_append_cf468 l D dA hst Mz (v + 34) b65q mm65 tt65 hB65q yz2 124 (by decide) (by omega)) dX7_writeCanonical_65 yY_J4_append_cf468 gX7_writeCanonical_J4_append_cf468 rfl cs1 hBz.1 hBz.2.1 rfl ⟨by omega, by omega⟩ ⟨by omega, by omega⟩ rfl (Nat.le_of_ble_eq_true rfl)) ⟨by omega, by omega⟩ (Or.inr ⟨(jOk.ref (show v < jn Mz from by have := yz1.1; omega) (jOk.ref (Nat.lt_of_succ_lt hgz.1) (jOk.int jOk.nil))), jOk.nil⟩) (fun E M9 hp _ => by cases hp.1) (fun x9 M65_ hp65 hle65 => ?_)
              have hW65_ := hst65 _ _ _ hp65
              obtain ⟨⟨b65_, hB65_⟩, hF65_, hA65_, -⟩ := id hW65_
              obtain ⟨y65_1, y65_2, y65_3, y65_4, y65_5, y65_6, y65_7, y65_9⟩ := id hA65_
              obtain ⟨y65_x, y65_H, y65_8⟩ := id y65_7
              obtain ⟨y65_a1, y65_a2, y65_a3, y65_a4, y65_a5, y65_a6, y65_a7, y65_a8, y65_a9, y65_a10, y65_a11, y65_a12, y65_a13⟩ := id y65_3
              have y65_c30 := y65_5.1.2.2.2.2.2.2.2.2.2
              refine J_less (bc' := sbKc m9 ([] : List Nat).length (tPs w) - sbKc m9 ([] : List Nat).length ((spPs w k) ++ [[124]])) (bs' := sbKs m9 ([] : List Nat).length (tPs w) - sbKs m9 ([] : List Nat).length ((spPs w k) ++ [[124]])) (by omega) (by omega) ?_
              refine J_pop dX7_writeCanonical_68 (jcat_rf _) ?_
              have hg65_ := hR1.rk ((hW65_.fv hA1).rk y01)
              have hi65_ : ∀ j, j < 2 * w.1 → ji M65_ (t9 + 1) j = w.2 j := fun j hj => by rw [(((hW65_.fv hA1).rk y01).2.2 t9 _ hR1).2]; exact hi1 j hj
              refine J_aload_n (v) dX7_writeCanonical_69 rfl rfl ?_
              refine J_aload_n (t9) dX7_writeCanonical_70 rfl rfl ?_
              refine J_iload_n dX7_writeCanonical_71 rfl rfl ?_
              refine J_calli0 (jrunV (As := [.int (nI (k))]) (ct_X3_firstOf l D dA hst M65_ t9 w.1 hg65_ (k) (by omega)) dX7_writeCanonical_72 yY_X3_firstOf gX7_writeCanonical_X3_firstOf rfl cs7 (Nat.lt_of_succ_lt hg65_.1) hg65_.2.1 rfl ⟨by omega, by omega⟩ ⟨Nat.zero_le _, Nat.zero_le _⟩ rfl (Nat.le_of_ble_eq_true rfl)) (rfl) (rfl) ?_
              refine J_topi (y := nI (w.2 (2 * k)).toNatClampNeg) (by rw [rFirst_congr hi65_]; unfold rFirst; rw [if_pos (by omega)]; exact (hok (2 * k) (by omega)).1) ?_
              refine J_aload_n (t9) dX7_writeCanonical_75 rfl rfl ?_
              refine J_iload_n dX7_writeCanonical_76 rfl rfl ?_
              refine J_calli0 (jrunV (As := [.int (nI (k))]) (ct_X3_lastOf l D dA hst M65_ t9 w.1 hg65_ (k) (by omega)) dX7_writeCanonical_77 yY_X3_lastOf gX7_writeCanonical_X3_lastOf rfl cs7 (Nat.lt_of_succ_lt hg65_.1) hg65_.2.1 rfl ⟨by omega, by omega⟩ ⟨Nat.zero_le _, Nat.zero_le _⟩ rfl (Nat.le_of_ble_eq_true rfl)) (rfl) (rfl) ?_
              refine J_topi (y := nI (w.2 (2 * k + 1)).toNatClampNeg) (by rw [rLast_congr hi65_]; unfold rLast; rw [if_pos (by omega)]; exact (hok (2 * k + 1) (by omega)).1) ?_
              obtain ⟨b80q, mm80, tt80, cc80, ss80, hB80q, h1680, hl80, hc80, hs80, e180, e280, e380, e480, hst80⟩ := hW65_.preL (sPs (w.2 (2 * k)).toNatClampNeg (w.2 (2 * k + 1)).toNatClampNeg) (tPs w) (by obtain ⟨r, hr⟩ := spPs_in (w := w) (k := k) (qs := [[124]] ++ sPs (w.2 (2 * k)).toNatClampNeg (w.2 (2 * k + 1)).toNatClampNeg) (by omega) c12n (by rw [c31]; decide) ⟨[], by show spPs w k ++ ((if 0 < k then [[124]] else []) ++ sPs (w.2 (2 * k)).toNatClampNeg (w.2 (2 * k + 1)).toNatClampNeg) = _; rw [if_pos (by omega), List.append_nil]⟩; exact ⟨r, by rw [hr]; simp only [List.append_assoc]⟩) hlT
              refine J_callv (jrunV (As := [.int (nI ((w.2 (2 * k)).toNatClampNeg)), .int (nI ((w.2 (2 * k + 1)).toNatClampNeg))]) (ct_X7_writeSpan l D dA hst M65_ v A hA65_ b80q mm80 tt80 hB80q h1680 (w.2 (2 * k)).toNatClampNeg (w.2 (2 * k + 1)).toNatClampNeg (hok (2 * k) (by omega)).2 (hok (2 * k + 1) (by omega)).2 (by omega)) dX7_writeCanonical_80 yY_X7_writeSpan gX7_writeCanonical_X7_writeSpan rfl cs10 (show v < jn M65_ from by have := y65_1.1; omega) y65_1.2.1 rfl ⟨by omega, by omega⟩ ⟨by omega, by omega⟩ rfl (Nat.le_of_ble_eq_true rfl)) ⟨by omega, by omega⟩ (Or.inr ⟨(jOk.ref (show v < jn M65_ from by have := y65_1.1; omega) (jOk.ref (Nat.lt_of_succ_lt hg65_.1) (jOk.int jOk.nil))), jOk.nil⟩) (fun E M9 hp _ => by cases hp.1) (fun M80_ hp80 hle80 => ?_)
              have hW80_ := hst80 _ hp80.2
              obtain ⟨⟨b80_, hB80_⟩, hF80_, hA80_, -⟩ := id hW80_
              obtain ⟨y80_1, y80_2, y80_3, y80_4, y80_5, y80_6, y80_7, y80_9⟩ := id hA80_
              obtain ⟨y80_x, y80_H, y80_8⟩ := id y80_7
              obtain ⟨y80_a1, y80_a2, y80_a3, y80_a4, y80_a5, y80_a6, y80_a7, y80_a8, y80_a9, y80_a10, y80_a11, y80_a12, y80_a13⟩ := id y80_3
              have y80_c30 := y80_5.1.2.2.2.2.2.2.2.2.2
              refine J_less (bc' := sbKc m9 ([] : List Nat).length (tPs w) - sbKc m9 ([] : List Nat).length (((spPs w k) ++ [[124]]) ++ (sPs (w.2 (2 * k)).toNatClampNeg (w.2 (2 * k + 1)).toNatClampNeg))) (bs' := sbKs m9 ([] : List Nat).length (tPs w) - sbKs m9 ([] : List Nat).length (((spPs w k) ++ [[124]]) ++ (sPs (w.2 (2 * k)).toNatClampNeg (w.2 (2 * k + 1)).toNatClampNeg))) (by omega) (by omega) ?_
              have e9 : spPs w (k + 1) = (((spPs w k) ++ [[124]]) ++ (sPs (w.2 (2 * k)).toNatClampNeg (w.2 (2 * k + 1)).toNatClampNeg)) := by show spPs w k ++ ((if 0 < k then [[124]] else []) ++ sPs (w.2 (2 * k)).toNatClampNeg (w.2 (2 * k + 1)).toNatClampNeg) = _; rw [if_pos (by omega)]; simp only [List.append_assoc]
              have e9c : sbKc m9 ([] : List Nat).length (spPs w (k + 1)) = sbKc m9 ([] : List Nat).length (((spPs w k) ++ [[124]]) ++ (sPs (w.2 (2 * k)).toNatClampNeg (w.2 (2 * k + 1)).toNatClampNeg)) := by rw [e9]
              have e9s : sbKs m9 ([] : List Nat).length (spPs w (k + 1)) = sbKs m9 ([] : List Nat).length (((spPs w k) ++ [[124]]) ++ (sPs (w.2 (2 * k)).toNatClampNeg (w.2 (2 * k + 1)).toNatClampNeg)) := by rw [e9]
              refine J_iinc (y := nI (k + 1)) (lv' := [.ref (v), .ref (t9), .int (nI (k + 1))]) dX7_writeCanonical_83 rfl (jinc (k)) (by decide) rfl rfl ?_
              refine J_goto (tgt := 47) dX7_writeCanonical_86 (by decide) ?_
              refine J_less (bc' := sbKc m9 ([] : List Nat).length (tPs w) - sbKc m9 ([] : List Nat).length (spPs w (k + 1))) (bs' := sbKs m9 ([] : List Nat).length (tPs w) - sbKs m9 ([] : List Nat).length (spPs w (k + 1))) (by omega) (by omega) ?_
              exact ih47 (k + 1) (M80_) (by omega) (by rw [e9]; exact hW80_) (by omega)
      refine J_iconst (x := 0) dX7_writeCanonical_45 (by decide) ?_
      refine J_istore_n (lv' := [.ref (v), .ref (t9), .int (0)]) dX7_writeCanonical_46 rfl (by decide) rfl rfl ?_
      refine J_less (bc' := sbKc m9 ([] : List Nat).length (tPs w) - sbKc m9 ([] : List Nat).length (spPs w (0))) (bs' := sbKs m9 ([] : List Nat).length (tPs w) - sbKs m9 ([] : List Nat).length (spPs w (0))) (by omega) (by omega) ?_
      exact L47 _ (0) (M1) (by omega) (by exact hW0) (Nat.lt_succ_self _)
    · have c31 := jb0F c31
      refine J_aload_n (v) dX7_writeCanonical_34 rfl rfl ?_
      refine J_getrs (q := v + 34) y0a5 dX7_writeCanonical_35 (fun _ h => List.mem_cons_of_mem _ (List.mem_append_left _ (List.mem_append_left _ (List.mem_append_left _ (List.mem_append_left _ (List.mem_append_left _ (List.mem_append_left _ (List.mem_append_right _ (h))))))))) cs10 (by decide) rfl (List.mem_of_getElem? (i := 1) rfl) rfl (show v < jn M1 from by have := y01.1; omega) y01.2.1 ?_
      refine J_bipush (x := 42) dX7_writeCanonical_38 (by decide) ?_
      obtain ⟨b40q, mm40, tt40, cc40, ss40, hB40q, hl40, hc40, hs40, e140, e240, e340, e440, hst40⟩ := hW0.pre [42] (tPs w) (⟨[], by rw [tPs_w c12n c31]; rfl⟩) hlT
      replace hc40 : cc40 = sbC (tt40.length + 1) mm40 := hc40
      replace hs40 : ss40 = sbS (tt40.length + 1) mm40 := hs40
      replace hl40 : tt40.length + 1 ≤ 500 := hl40
      refine J_callq (jrunV (As := [.int (42)]) (ct_J4_append_cf468 l D dA hst M1 (v + 34) b40q mm40 tt40 hB40q y02 42 (by decide) (by omega)) dX7_writeCanonical_40 yY_J4_append_cf468 gX7_writeCanonical_J4_append_cf468 rfl cs1 hB0.1 hB0.2.1 rfl ⟨by omega, by omega⟩ ⟨by omega, by omega⟩ rfl (Nat.le_of_ble_eq_true rfl)) ⟨by omega, by omega⟩ (Or.inr ⟨(jOk.ref (show v < jn M1 from by have := y01.1; omega) (jOk.ref (Nat.lt_of_succ_lt hg0.1) (jOk.float jOk.nil))), jOk.nil⟩) (fun E M9 hp _ => by cases hp.1) (fun x9 M40_ hp40 hle40 => ?_)
      have hW40_ := hst40 _ _ _ hp40
      obtain ⟨⟨b40_, hB40_⟩, hF40_, hA40_, -⟩ := id hW40_
      obtain ⟨y40_1, y40_2, y40_3, y40_4, y40_5, y40_6, y40_7, y40_9⟩ := id hA40_
      obtain ⟨y40_x, y40_H, y40_8⟩ := id y40_7
      obtain ⟨y40_a1, y40_a2, y40_a3, y40_a4, y40_a5, y40_a6, y40_a7, y40_a8, y40_a9, y40_a10, y40_a11, y40_a12, y40_a13⟩ := id y40_3
      have y40_c30 := y40_5.1.2.2.2.2.2.2.2.2.2
      refine J_less (bc' := sbKc m9 ([] : List Nat).length (tPs w) - sbKc m9 ([] : List Nat).length (([] : List (List Nat)) ++ [[42]])) (bs' := sbKs m9 ([] : List Nat).length (tPs w) - sbKs m9 ([] : List Nat).length (([] : List (List Nat)) ++ [[42]])) (by omega) (by omega) ?_
      refine J_pop dX7_writeCanonical_43 (jcat_rf _) ?_
      exact J_vret dX7_writeCanonical_44 rfl (by have e9 : tPs w = (([] : List (List Nat)) ++ [[42]]) := (by rw [tPs_w c12n c31]; rfl); unfold tTx; rw [e9]; exact ⟨rfl, _, _, hB40_, Nat.le_trans h16m (sbK_ge _ _ _), hF1.tr hF40_⟩)
  · have c12 := jb0F c12
    have c12n : w.1 = 0 := of_decide_eq_true c12
    refine J_aload_n (v) dX7_writeCanonical_15 rfl rfl ?_
    refine J_getrs (q := v + 34) y0a5 dX7_writeCanonical_16 (fun _ h => List.mem_cons_of_mem _ (List.mem_append_left _ (List.mem_append_left _ (List.mem_append_left _ (List.mem_append_left _ (List.mem_append_left _ (List.mem_append_left _ (List.mem_append_right _ (h))))))))) cs10 (by decide) rfl (List.mem_of_getElem? (i := 1) rfl) rfl (show v < jn M1 from by have := y01.1; omega) y01.2.1 ?_
    refine J_ldcwS (i := 0) (text := "none") dX7_writeCanonical_19 (fun A U h => h.2.1) ?_
    obtain ⟨b22q, mm22, tt22, cc22, ss22, hB22q, hl22, hc22, hs22, e122, e222, e322, e422, hst22⟩ := hW0.pre (sbX 0) (tPs w) (⟨[], by rw [tPs_0 c12n]; rfl⟩) hlT
    replace hc22 : cc22 = sbC (tt22.length + jStrL 0) mm22 := hc22
    replace hs22 : ss22 = sbS (tt22.length + jStrL 0) mm22 := hs22
    replace hl22 : tt22.length + jStrL 0 ≤ 500 := hl22
    refine J_callq (jrunV (As := [.retAddr (0)]) (ct_J4_append_15ec4 l D dA hst M1 (v + 34) b22q mm22 tt22 hB22q y02 0 (by decide) (by omega)) dX7_writeCanonical_22 yY_J4_append_15ec4 gX7_writeCanonical_J4_append_15ec4 rfl cs1 hB0.1 hB0.2.1 rfl ⟨by omega, by omega⟩ ⟨by omega, by omega⟩ rfl (Nat.le_of_ble_eq_true rfl)) ⟨by omega, by omega⟩ (Or.inr ⟨(jOk.ref (show v < jn M1 from by have := y01.1; omega) (jOk.ref (Nat.lt_of_succ_lt hg0.1) (jOk.float jOk.nil))), jOk.nil⟩) (fun E M9 hp _ => by cases hp.1) (fun x9 M22_ hp22 hle22 => ?_)
    have hW22_ := hst22 _ _ _ hp22
    obtain ⟨⟨b22_, hB22_⟩, hF22_, hA22_, -⟩ := id hW22_
    obtain ⟨y22_1, y22_2, y22_3, y22_4, y22_5, y22_6, y22_7, y22_9⟩ := id hA22_
    obtain ⟨y22_x, y22_H, y22_8⟩ := id y22_7
    obtain ⟨y22_a1, y22_a2, y22_a3, y22_a4, y22_a5, y22_a6, y22_a7, y22_a8, y22_a9, y22_a10, y22_a11, y22_a12, y22_a13⟩ := id y22_3
    have y22_c30 := y22_5.1.2.2.2.2.2.2.2.2.2
    refine J_less (bc' := sbKc m9 ([] : List Nat).length (tPs w) - sbKc m9 ([] : List Nat).length (([] : List (List Nat)) ++ [(sbX 0)])) (bs' := sbKs m9 ([] : List Nat).length (tPs w) - sbKs m9 ([] : List Nat).length (([] : List (List Nat)) ++ [(sbX 0)])) (by omega) (by omega) ?_
    refine J_pop dX7_writeCanonical_25 (jcat_rf _) ?_
    exact J_vret dX7_writeCanonical_26 rfl (by have e9 : tPs w = (([] : List (List Nat)) ++ [(sbX 0)]) := (by rw [tPs_0 c12n]; rfl); unfold tTx; rw [e9]; exact ⟨rfl, _, _, hB22_, Nat.le_trans h16m (sbK_ge _ _ _), hF1.tr hF22_⟩)

