def sX1 (a : Nat) : List (List Nat) := if 0 < a then [[62, 61]] ++ vPs a else []
def sX2 (a b : Nat) : List (List Nat) := if 0 < a ∧ b < 99999999 then [[32]] else []
def sX3 (b : Nat) : List (List Nat) := if b < 99999999 then [[60, 61]] ++ vPs b else []
theorem sPs_eq {a b : Nat} (h : a = b) : sPs a b = [[61]] ++ vPs a := if_pos h
theorem sPs_ne {a b : Nat} (h : ¬ a = b) : sPs a b = sX1 a ++ (sX2 a b ++ sX3 b) := if_neg h
theorem sX1_t {a : Nat} (h : 0 < a) : sX1 a = [[62, 61]] ++ vPs a := if_pos h
theorem sX1_f {a : Nat} (h : ¬ 0 < a) : sX1 a = [] := if_neg h
theorem sX2_t {a b : Nat} (h : 0 < a ∧ b < 99999999) : sX2 a b = [[32]] := if_pos h
theorem sX2_f {a b : Nat} (h : ¬ (0 < a ∧ b < 99999999)) : sX2 a b = [] := if_neg h
theorem sX3_t {b : Nat} (h : b < 99999999) : sX3 b = [[60, 61]] ++ vPs b := if_pos h
theorem sX3_f {b : Nat} (h : ¬ b < 99999999) : sX3 b = [] := if_neg h
theorem sbX_1 : sbX 1 = [62, 61] := rfl
theorem sbX_2 : sbX 2 = [60, 61] := rfl
/-- the versions of a range are versions -/
def rOk (w : rVl) : Prop := ∀ j, j < 2 * w.1 → w.2 j = nI (w.2 j).toNatClampNeg ∧ (w.2 j).toNatClampNeg < 100000000
def spPs (w : rVl) : Nat → List (List Nat)
  | 0 => []
  | k + 1 => spPs w k ++ ((if 0 < k then [[124]] else []) ++ sPs (w.2 (2 * k)).toNatClampNeg (w.2 (2 * k + 1)).toNatClampNeg)
def tPs (w : rVl) : List (List Nat) := if w.1 = 0 then [sbX 0] else if rWhole w.2 w.1 then [[42]] else spPs w w.1
theorem spPs_len (w : rVl) : ∀ k, (spPs w k).flatten.length ≤ 28 * k := by
  intro k
  induction k with
  | zero => exact Nat.le_refl _
  | succ k ih =>
    have := sPs_len (w.2 (2 * k)).toNatClampNeg (w.2 (2 * k + 1)).toNatClampNeg
    unfold spPs
    rw [List.flatten_append, List.length_append, List.flatten_append, List.length_append]
    have h2 : ((if 0 < k then [[124]] else []) : List (List Nat)).flatten.length ≤ 1 := by split <;> simp
    omega
theorem spPs_pre (w : rVl) (k : Nat) : ∀ d, ∃ r, spPs w (k + d) = spPs w k ++ r := by
  intro d
  induction d with
  | zero => exact ⟨[], by rw [List.append_nil]; rfl⟩
  | succ d ih =>
    obtain ⟨r, hr⟩ := ih
    refine ⟨r ++ ((if 0 < k + d then [[124]] else []) ++ sPs (w.2 (2 * (k + d))).toNatClampNeg (w.2 (2 * (k + d) + 1)).toNatClampNeg), ?_⟩
    rw [← List.append_assoc, ← hr]
    rfl
theorem tPs_len {w : rVl} (h : w.1 ≤ 16) : (tPs w).flatten.length ≤ 448 := by
  have := spPs_len w w.1
  unfold tPs
  split
  · decide
  · split
    · decide
    · omega
theorem spPs_in {w : rVl} {k : Nat} {qs : List (List Nat)} (hk : k < w.1) (h0 : ¬ w.1 = 0) (hw : ¬ rWhole w.2 w.1 = true) (hq : ∃ r, spPs w (k + 1) = (spPs w k ++ qs) ++ r) : ∃ r, tPs w = (spPs w k ++ qs) ++ r := by
  obtain ⟨r1, h1⟩ := hq
  obtain ⟨r2, h2⟩ := spPs_pre w (k + 1) (w.1 - (k + 1))
  rw [show k + 1 + (w.1 - (k + 1)) = w.1 from by omega] at h2
  refine ⟨r1 ++ r2, ?_⟩
  unfold tPs
  rw [if_neg h0, if_neg hw, h2, h1, List.append_assoc]
theorem dX7_writeSpan_0 : decode cX7_writeSpan 0 = .ok (.iload_n 1, 1) := by decide +kernel
theorem dX7_writeSpan_1 : decode cX7_writeSpan 1 = .ok (.iload_n 2, 1) := by decide +kernel
theorem dX7_writeSpan_2 : decode cX7_writeSpan 2 = .ok (.if_icmp .ne 19, 3) := by decide +kernel
theorem dX7_writeSpan_21 : decode cX7_writeSpan 21 = .ok (.iload_n 1, 1) := by decide +kernel
theorem dX7_writeSpan_22 : decode cX7_writeSpan 22 = .ok (.ifCond .le 19, 3) := by decide +kernel
theorem dX7_writeSpan_41 : decode cX7_writeSpan 41 = .ok (.iload_n 1, 1) := by decide +kernel
theorem dX7_writeSpan_42 : decode cX7_writeSpan 42 = .ok (.ifCond .le 20, 3) := by decide +kernel
theorem dX7_writeSpan_62 : decode cX7_writeSpan 62 = .ok (.iload_n 2, 1) := by decide +kernel
theorem dX7_writeSpan_63 : decode cX7_writeSpan 63 = .ok (.ldc_w 286, 3) := by decide +kernel
theorem dX7_writeSpan_66 : decode cX7_writeSpan 66 = .ok (.if_icmp .ge 19, 3) := by decide +kernel
theorem dX7_writeSpan_85 : decode cX7_writeSpan 85 = .ok (.return_, 1) := by decide +kernel
theorem dX7_writeSpan_69 : decode cX7_writeSpan 69 = .ok (.aload_n 0, 1) := by decide +kernel
theorem dX7_writeSpan_70 : decode cX7_writeSpan 70 = .ok (.getfield 51, 3) := by decide +kernel
theorem dX7_writeSpan_73 : decode cX7_writeSpan 73 = .ok (.ldc_w 331, 3) := by decide +kernel
theorem dX7_writeSpan_76 : decode cX7_writeSpan 76 = .ok (.invokevirtual 312, 3) := by decide +kernel
set_option maxRecDepth 20000 in
theorem ggX7_writeSpan_J4_append_15ec4 : GoodIn wsX7_writeSpan wsJ4_append_15ec4 := goodIn_r _ [166, 167, 168, 10, 169, 12, 170, 14, 171, 172, 173, 174, 175, 15, 16, 17, 18, 19, 20, 21, 22, 23, 24, 25, 26, 27, 28, 29, 30, 31, 32, 33, 34, 35, 36, 37, 38, 39, 40, 41, 42, 43, 44, 45, 46, 47, 48, 49, 50, 51, 52, 53, 54, 55, 56, 57, 58, 59, 60, 61, 62, 63, 176, 177, 75, 178, 105, 146, 147, 148, 90, 91, 92, 149, 150, 95, 151, 97, 152, 153, 100, 154, 102, 103, 104, 106, 107, 179, 180, 181, 182, 183, 184, 185, 186, 187, 188, 189, 190, 191, 192, 193, 194, 195, 196, 197, 198, 199, 200, 68, 69, 70, 71, 72, 73, 74, 76, 77, 78, 79, 80, 81, 82, 66, 83, 84, 85, 86, 87, 88, 89, 93, 94, 96, 98, 99, 101, 201, 202, 203, 204, 205, 206, 217, 218, 219, 220, 221, 222, 223, 224] (by decide +kernel) (by decide +kernel)
set_option maxRecDepth 20000 in
theorem gX7_writeSpan_J4_append_15ec4 : GoodIn wsX7_writeSpan (wsV RX7 312 RJ4 yJ4_append_15ec4 wsJ4_append_15ec4) := goodIn_app (goodIn_of _ (by decide +kernel)) ggX7_writeSpan_J4_append_15ec4
theorem yY_J4_append_15ec4 : jY yJ4_append_15ec4 wsJ4_append_15ec4 cJ4_append_15ec4 2 (some (.object "java/lang/StringBuilder")) 1 := ⟨⟨_, rfl⟩, by decide +kernel, by decide +kernel, by decide +kernel⟩
theorem dX7_writeSpan_79 : decode cX7_writeSpan 79 = .ok (.pop, 1) := by decide +kernel
theorem dX7_writeSpan_80 : decode cX7_writeSpan 80 = .ok (.aload_n 0, 1) := by decide +kernel
theorem dX7_writeSpan_81 : decode cX7_writeSpan 81 = .ok (.iload_n 2, 1) := by decide +kernel
theorem dX7_writeSpan_82 : decode cX7_writeSpan 82 = .ok (.invokevirtual 326, 3) := by decide +kernel
set_option maxRecDepth 20000 in
theorem ggX7_writeSpan_X7_writeVersion : GoodIn wsX7_writeSpan wsX7_writeVersion := goodIn_r _ [124, 1, 125, 126, 127, 128, 6, 129, 130, 131, 10, 132, 12, 133, 14, 15, 134, 135, 136, 137, 16, 17, 18, 19, 20, 21, 22, 23, 24, 25, 26, 27, 28, 29, 30, 31, 32, 33, 34, 35, 36, 37, 38, 39, 40, 41, 42, 43, 44, 45, 46, 47, 48, 49, 50, 51, 52, 53, 54, 55, 56, 57, 58, 59, 60, 61, 62, 63, 138, 139, 140, 141, 142, 143, 144, 75, 145, 105, 146, 147, 148, 90, 91, 92, 149, 150, 95, 151, 97, 152, 153, 100, 154, 155, 156, 157, 158, 159, 102, 103, 104, 106, 107, 3, 4, 5, 7, 8, 9, 11, 13, 64, 65, 66, 67, 68, 69, 70, 71, 72, 73, 74, 76, 77, 78, 79, 80, 81, 82, 83, 84, 85, 86, 87, 88, 89, 93, 94, 96, 98, 99, 101, 108, 109, 110, 111, 112, 113, 114, 115, 116, 117, 118, 119, 160, 161, 123, 162, 207, 208, 209, 210, 211, 212, 213, 214, 215, 216, 217, 218, 219, 220] (by decide +kernel) (by decide +kernel)
set_option maxRecDepth 20000 in
theorem gX7_writeSpan_X7_writeVersion : GoodIn wsX7_writeSpan (wsV RX7 326 RX7 yX7_writeVersion wsX7_writeVersion) := goodIn_app (goodIn_of _ (by decide +kernel)) ggX7_writeSpan_X7_writeVersion
theorem yY_X7_writeVersion : jY yX7_writeVersion wsX7_writeVersion cX7_writeVersion 2 none 1 := ⟨⟨_, rfl⟩, by decide +kernel, by decide +kernel, by decide +kernel⟩
theorem dX7_writeSpan_45 : decode cX7_writeSpan 45 = .ok (.iload_n 2, 1) := by decide +kernel
theorem dX7_writeSpan_46 : decode cX7_writeSpan 46 = .ok (.ldc_w 286, 3) := by decide +kernel
theorem dX7_writeSpan_49 : decode cX7_writeSpan 49 = .ok (.if_icmp .ge 13, 3) := by decide +kernel
theorem dX7_writeSpan_52 : decode cX7_writeSpan 52 = .ok (.aload_n 0, 1) := by decide +kernel
theorem dX7_writeSpan_53 : decode cX7_writeSpan 53 = .ok (.getfield 51, 3) := by decide +kernel
theorem dX7_writeSpan_56 : decode cX7_writeSpan 56 = .ok (.bipush 32, 2) := by decide +kernel
theorem dX7_writeSpan_58 : decode cX7_writeSpan 58 = .ok (.invokevirtual 319, 3) := by decide +kernel
set_option maxRecDepth 20000 in
theorem ggX7_writeSpan_J4_append_cf468 : GoodIn wsX7_writeSpan wsJ4_append_cf468 := goodIn_r _ [7, 8, 9, 10, 11, 12, 13, 14, 15, 16, 17, 18, 19, 20, 21, 22, 23, 24, 25, 26, 27, 28, 29, 30, 31, 32, 33, 34, 35, 36, 37, 38, 39, 40, 41, 42, 43, 44, 45, 46, 47, 48, 49, 50, 51, 52, 53, 54, 55, 56, 57, 58, 59, 60, 61, 62, 63, 64, 65, 66, 67, 68, 69, 70, 71, 72, 73, 74, 75, 76, 77, 78, 79, 80, 81, 82, 83, 84, 85, 86, 87, 88, 89, 90, 91, 92, 93, 94, 95, 96, 97, 98, 99, 100, 101, 102, 103, 104, 105, 106, 107, 108, 109, 110, 111, 112, 113, 114, 115, 116, 117, 118, 119, 217, 218, 219, 220] (by decide +kernel) (by decide +kernel)
set_option maxRecDepth 20000 in
theorem gX7_writeSpan_J4_append_cf468 : GoodIn wsX7_writeSpan (wsV RX7 319 RJ4 yJ4_append_cf468 wsJ4_append_cf468) := goodIn_app (goodIn_of _ (by decide +kernel)) ggX7_writeSpan_J4_append_cf468
theorem dX7_writeSpan_61 : decode cX7_writeSpan 61 = .ok (.pop, 1) := by decide +kernel
theorem dX7_writeSpan_25 : decode cX7_writeSpan 25 = .ok (.aload_n 0, 1) := by decide +kernel
theorem dX7_writeSpan_26 : decode cX7_writeSpan 26 = .ok (.getfield 51, 3) := by decide +kernel
theorem dX7_writeSpan_29 : decode cX7_writeSpan 29 = .ok (.ldc_w 329, 3) := by decide +kernel
theorem dX7_writeSpan_32 : decode cX7_writeSpan 32 = .ok (.invokevirtual 312, 3) := by decide +kernel
theorem dX7_writeSpan_35 : decode cX7_writeSpan 35 = .ok (.pop, 1) := by decide +kernel
theorem dX7_writeSpan_36 : decode cX7_writeSpan 36 = .ok (.aload_n 0, 1) := by decide +kernel
theorem dX7_writeSpan_37 : decode cX7_writeSpan 37 = .ok (.iload_n 1, 1) := by decide +kernel
theorem dX7_writeSpan_38 : decode cX7_writeSpan 38 = .ok (.invokevirtual 326, 3) := by decide +kernel
theorem dX7_writeSpan_5 : decode cX7_writeSpan 5 = .ok (.aload_n 0, 1) := by decide +kernel
theorem dX7_writeSpan_6 : decode cX7_writeSpan 6 = .ok (.getfield 51, 3) := by decide +kernel
theorem dX7_writeSpan_9 : decode cX7_writeSpan 9 = .ok (.bipush 61, 2) := by decide +kernel
theorem dX7_writeSpan_11 : decode cX7_writeSpan 11 = .ok (.invokevirtual 319, 3) := by decide +kernel
theorem dX7_writeSpan_14 : decode cX7_writeSpan 14 = .ok (.pop, 1) := by decide +kernel
theorem dX7_writeSpan_15 : decode cX7_writeSpan 15 = .ok (.aload_n 0, 1) := by decide +kernel
theorem dX7_writeSpan_16 : decode cX7_writeSpan 16 = .ok (.iload_n 1, 1) := by decide +kernel
theorem dX7_writeSpan_17 : decode cX7_writeSpan 17 = .ok (.invokevirtual 326, 3) := by decide +kernel
theorem dX7_writeSpan_20 : decode cX7_writeSpan 20 = .ok (.return_, 1) := by decide +kernel
set_option maxHeartbeats 400000 in
set_option maxRecDepth 20000 in
theorem ct_X7_writeSpan (l : Launch) (D : va_G) (dA : Nat → ClassId) (hst : l.stackTraces = false) (M : jM) (v : Nat) (A : cA) (hA : jAb M v A) (b m : Nat) (tx : List Nat) (hB : sbT M (v + 34) b m tx) (h16 : 16 ≤ m) (qa qb : Nat) (ha : qa < 100000000) (hb9 : qb < 100000000) (hl : tx.length + 27 ≤ 540) : jCT l D dA yX7_writeSpan wsX7_writeSpan (38) (1380) (sbKc m tx.length (sPs qa qb)) (sbKs m tx.length (sPs qa qb)) 0 [.ref (v), .int (nI (qa)), .int (nI (qb))] M (fun o M1 => o = oV ∧ ∃ b1, sbT M1 (v + 34) b1 (sbK m tx.length (sPs qa qb)) (tx ++ (sPs qa qb).flatten) ∧ sbF (v + 34) M M1) := by
  refine jBody (cc := cX7_writeSpan) (nL := 3) (rt := none) (ini := false) (by decide) rfl hst (Nat.le_of_ble_eq_true rfl) (by simp [Value.category]) (by intro h9; first | exact absurd h9 (by decide) | rfl) ?_
  show J l D dA RX7 cX7_writeSpan wsX7_writeSpan 3 false none [] (38) (1380) (jF D dA (jn M) (fun o M1 => o = oV ∧ ∃ b1, sbT M1 (v + 34) b1 (sbK m tx.length (sPs qa qb)) (tx ++ (sPs qa qb).flatten) ∧ sbF (v + 34) M M1) 0) (jn M) (sbKc m tx.length (sPs qa qb)) (sbKs m tx.length (sPs qa qb)) (M) 0 [.ref (v), .int (nI (qa)), .int (nI (qb))] []
  obtain ⟨g1, g2, g3, g4, g5, g6, g7, g9⟩ := id hA
  obtain ⟨gx, gH, g8⟩ := id g7
  obtain ⟨ga1, ga2, ga3, ga4, ga5, ga6, ga7, ga8, ga9, ga10, ga11, ga12, ga13⟩ := id g3
  have gc30 := g5.1.2.2.2.2.2.2.2.2.2
  have hW0 : wSt M M v A m tx [] := ⟨⟨b, by rw [List.flatten_nil, List.append_nil]; exact hB⟩, sbF.rf g2, hA, h16⟩
  obtain ⟨⟨b0, hB0⟩, hF0, hA0, -⟩ := id hW0
  obtain ⟨y01, y02, y03, y04, y05, y06, y07, y09⟩ := id hA0
  obtain ⟨y0x, y0H, y08⟩ := id y07
  obtain ⟨y0a1, y0a2, y0a3, y0a4, y0a5, y0a6, y0a7, y0a8, y0a9, y0a10, y0a11, y0a12, y0a13⟩ := id y03
  have y0c30 := y05.1.2.2.2.2.2.2.2.2.2
  have hvl := sPs_len qa qb
  have hlT : tx.length + (sPs qa qb).flatten.length ≤ 540 := by omega
  refine J_iload_n dX7_writeSpan_0 rfl rfl ?_
  refine J_iload_n dX7_writeSpan_1 rfl rfl ?_
  refine J_icmp_ne dX7_writeSpan_2 (tgt := 21) (by decide) (fun c2 => ?_) (fun c2 => ?_)
  · have c2 := jeqF (a := qa) (b := qb) (by omega) (by omega) c2
    refine J_iload_n dX7_writeSpan_21 rfl rfl ?_
    refine J_if_le dX7_writeSpan_22 (tgt := 41) (by decide) (fun c22 => ?_) (fun c22 => ?_)
    · have c22 := jleT (a := qa) (b := 0) (by omega) (by omega) c22
      refine J_iload_n dX7_writeSpan_41 rfl rfl ?_
      refine J_if_le dX7_writeSpan_42 (tgt := 62) (by decide) (fun c42 => ?_) (fun c42 => ?_)
      · have c42 := jleT (a := qa) (b := 0) (by omega) (by omega) c42
        refine J_iload_n dX7_writeSpan_62 rfl rfl ?_
        refine J_ldcw (x := 99999999) dX7_writeSpan_63 (List.mem_of_getElem? (i := 2) rfl) ?_
        refine J_icmp_ge dX7_writeSpan_66 (tgt := 85) (by decide) (fun c66 => ?_) (fun c66 => ?_)
        · have c66 := jleT (a := 99999999) (b := qb) (by omega) (by omega) c66
          exact J_vret dX7_writeSpan_85 rfl (by first | (have hT9 : sPs qa qb = ([] : List (List Nat)) := by first | (rw [sPs_ne c2, sX1_f (by omega), sX2_f (by omega), sX3_f (by omega)]; simp only [List.append_assoc, List.nil_append, List.append_nil, sbX_1, sbX_2]; done) | (rw [sPs_ne c2, sX1_f (by omega), sX2_f (by omega), sX3_f (by omega)]; rfl)); (rw [hT9]; exact ⟨rfl, b0, hB0, hF0⟩) | (exfalso; omega) | fail "span")
        · have c66 := jleF (a := 99999999) (b := qb) (by omega) (by omega) c66
          refine J_aload_n (v) dX7_writeSpan_69 rfl rfl ?_
          refine J_getrs (q := v + 34) ga5 dX7_writeSpan_70 (fun _ h => List.mem_cons_of_mem _ (List.mem_append_left _ (List.mem_append_left _ (List.mem_append_right _ (h))))) cs10 (by decide) rfl (List.mem_of_getElem? (i := 1) rfl) rfl (show v < jn M from by have := g1.1; omega) g1.2.1 ?_
          refine J_ldcwS (i := 2) (text := "<=") dX7_writeSpan_73 (fun A U h => h.2.2.2.2.1) ?_
          obtain ⟨b76q, mm76, tt76, cc76, ss76, hB76q, hl76, hc76, hs76, e176, e276, e376, e476, hst76⟩ := hW0.pre (sbX 2) (sPs qa qb) ⟨vPs qb, by first | (rw [sPs_ne c2, sX1_f (by omega), sX2_f (by omega), sX3_t (by omega)]; simp only [List.append_assoc, List.nil_append, List.append_nil, sbX_1, sbX_2]; done) | (rw [sPs_ne c2, sX1_f (by omega), sX2_f (by omega), sX3_t (by omega)]; rfl) | (exfalso; omega)⟩ hlT
          replace hc76 : cc76 = sbC (tt76.length + jStrL 2) mm76 := hc76
          replace hs76 : ss76 = sbS (tt76.length + jStrL 2) mm76 := hs76
          replace hl76 : tt76.length + jStrL 2 ≤ 540 := hl76
          refine J_callq (jrunV (As := [.retAddr (2)]) (ct_J4_append_15ec4 l D dA hst M (v + 34) b76q mm76 tt76 hB76q y02 2 (by decide) (by omega)) dX7_writeSpan_76 yY_J4_append_15ec4 gX7_writeSpan_J4_append_15ec4 rfl cs1 hB.1 hB.2.1 rfl ⟨by omega, by omega⟩ ⟨by omega, by omega⟩ rfl (Nat.le_of_ble_eq_true rfl)) ⟨by omega, by omega⟩ (Or.inr ⟨(jOk.ref (show v < jn M from by have := g1.1; omega) (jOk.int (jOk.int jOk.nil))), jOk.nil⟩) (fun E M9 hp _ => by cases hp.1) (fun x9 M76_ hp76 hle76 => ?_)
          have hW76_ := hst76 _ _ _ hp76
          obtain ⟨⟨b76_, hB76_⟩, hF76_, hA76_, -⟩ := id hW76_
          obtain ⟨y76_1, y76_2, y76_3, y76_4, y76_5, y76_6, y76_7, y76_9⟩ := id hA76_
          obtain ⟨y76_x, y76_H, y76_8⟩ := id y76_7
          obtain ⟨y76_a1, y76_a2, y76_a3, y76_a4, y76_a5, y76_a6, y76_a7, y76_a8, y76_a9, y76_a10, y76_a11, y76_a12, y76_a13⟩ := id y76_3
          have y76_c30 := y76_5.1.2.2.2.2.2.2.2.2.2
          refine J_less (bc' := sbKc m tx.length (sPs qa qb) - sbKc m tx.length (([] : List (List Nat)) ++ [(sbX 2)])) (bs' := sbKs m tx.length (sPs qa qb) - sbKs m tx.length (([] : List (List Nat)) ++ [(sbX 2)])) (by omega) (by omega) ?_
          refine J_pop dX7_writeSpan_79 (jcat_rf _) ?_
          refine J_aload_n (v) dX7_writeSpan_80 rfl rfl ?_
          refine J_iload_n dX7_writeSpan_81 rfl rfl ?_
          obtain ⟨b82q, mm82, tt82, cc82, ss82, hB82q, h1682, hl82, hc82, hs82, e182, e282, e382, e482, hst82⟩ := hW76_.preL (vPs qb) (sPs qa qb) ⟨([] : List (List Nat)), by first | (rw [sPs_ne c2, sX1_f (by omega), sX2_f (by omega), sX3_t (by omega)]; simp only [List.append_assoc, List.nil_append, List.append_nil, sbX_1, sbX_2]; done) | (rw [sPs_ne c2, sX1_f (by omega), sX2_f (by omega), sX3_t (by omega)]; rfl) | (exfalso; omega)⟩ hlT
          refine J_callv (jrunV (As := [.int (nI (qb))]) (ct_X7_writeVersion l D dA hst M76_ v A hA76_ b82q mm82 tt82 hB82q h1682 qb (by omega) (by omega)) dX7_writeSpan_82 yY_X7_writeVersion gX7_writeSpan_X7_writeVersion rfl cs10 (show v < jn M76_ from by have := y76_1.1; omega) y76_1.2.1 rfl ⟨by omega, by omega⟩ ⟨by omega, by omega⟩ rfl (Nat.le_of_ble_eq_true rfl)) ⟨by omega, by omega⟩ (Or.inr ⟨(jOk.ref (show v < jn M76_ from by have := y76_1.1; omega) (jOk.int (jOk.int jOk.nil))), jOk.nil⟩) (fun E M9 hp _ => by cases hp.1) (fun M82_ hp82 hle82 => ?_)
          have hW82_ := hst82 _ hp82.2
          obtain ⟨⟨b82_, hB82_⟩, hF82_, hA82_, -⟩ := id hW82_
          obtain ⟨y82_1, y82_2, y82_3, y82_4, y82_5, y82_6, y82_7, y82_9⟩ := id hA82_
          obtain ⟨y82_x, y82_H, y82_8⟩ := id y82_7
          obtain ⟨y82_a1, y82_a2, y82_a3, y82_a4, y82_a5, y82_a6, y82_a7, y82_a8, y82_a9, y82_a10, y82_a11, y82_a12, y82_a13⟩ := id y82_3
          have y82_c30 := y82_5.1.2.2.2.2.2.2.2.2.2
          refine J_less (bc' := sbKc m tx.length (sPs qa qb) - sbKc m tx.length ((([] : List (List Nat)) ++ [(sbX 2)]) ++ (vPs qb))) (bs' := sbKs m tx.length (sPs qa qb) - sbKs m tx.length ((([] : List (List Nat)) ++ [(sbX 2)]) ++ (vPs qb))) (by omega) (by omega) ?_
          exact J_vret dX7_writeSpan_85 rfl (by first | (have hT9 : sPs qa qb = ((([] : List (List Nat)) ++ [(sbX 2)]) ++ (vPs qb)) := by first | (rw [sPs_ne c2, sX1_f (by omega), sX2_f (by omega), sX3_t (by omega)]; simp only [List.append_assoc, List.nil_append, List.append_nil, sbX_1, sbX_2]; done) | (rw [sPs_ne c2, sX1_f (by omega), sX2_f (by omega), sX3_t (by omega)]; rfl)); (rw [hT9]; exact ⟨rfl, b82_, hB82_, hF82_⟩) | (exfalso; omega) | fail "span")
      · have c42 := jleF (a := qa) (b := 0) (by omega) (by omega) c42
        refine J_iload_n dX7_writeSpan_45 rfl rfl ?_
        refine J_ldcw (x := 99999999) dX7_writeSpan_46 (List.mem_of_getElem? (i := 2) rfl) ?_
        refine J_icmp_ge dX7_writeSpan_49 (tgt := 62) (by decide) (fun c49 => ?_) (fun c49 => ?_)
        · have c49 := jleT (a := 99999999) (b := qb) (by omega) (by omega) c49
          refine J_iload_n dX7_writeSpan_62 rfl rfl ?_
          refine J_ldcw (x := 99999999) dX7_writeSpan_63 (List.mem_of_getElem? (i := 2) rfl) ?_
          refine J_icmp_ge dX7_writeSpan_66 (tgt := 85) (by decide) (fun c66 => ?_) (fun c66 => ?_)
          · have c66 := jleT (a := 99999999) (b := qb) (by omega) (by omega) c66
            exact J_vret dX7_writeSpan_85 rfl (by first | (have hT9 : sPs qa qb = ([] : List (List Nat)) := by first | (rw [sPs_ne c2, sX1_f (by omega), sX2_f (by omega), sX3_f (by omega)]; simp only [List.append_assoc, List.nil_append, List.append_nil, sbX_1, sbX_2]; done) | (rw [sPs_ne c2, sX1_f (by omega), sX2_f (by omega), sX3_f (by omega)]; rfl)); (rw [hT9]; exact ⟨rfl, b0, hB0, hF0⟩) | (exfalso; omega) | fail "span")
          · have c66 := jleF (a := 99999999) (b := qb) (by omega) (by omega) c66
            refine J_aload_n (v) dX7_writeSpan_69 rfl rfl ?_
            refine J_getrs (q := v + 34) ga5 dX7_writeSpan_70 (fun _ h => List.mem_cons_of_mem _ (List.mem_append_left _ (List.mem_append_left _ (List.mem_append_right _ (h))))) cs10 (by decide) rfl (List.mem_of_getElem? (i := 1) rfl) rfl (show v < jn M from by have := g1.1; omega) g1.2.1 ?_
            refine J_ldcwS (i := 2) (text := "<=") dX7_writeSpan_73 (fun A U h => h.2.2.2.2.1) ?_
            obtain ⟨b76q, mm76, tt76, cc76, ss76, hB76q, hl76, hc76, hs76, e176, e276, e376, e476, hst76⟩ := hW0.pre (sbX 2) (sPs qa qb) ⟨vPs qb, by first | (rw [sPs_ne c2, sX1_f (by omega), sX2_f (by omega), sX3_t (by omega)]; simp only [List.append_assoc, List.nil_append, List.append_nil, sbX_1, sbX_2]; done) | (rw [sPs_ne c2, sX1_f (by omega), sX2_f (by omega), sX3_t (by omega)]; rfl) | (exfalso; omega)⟩ hlT
            replace hc76 : cc76 = sbC (tt76.length + jStrL 2) mm76 := hc76
            replace hs76 : ss76 = sbS (tt76.length + jStrL 2) mm76 := hs76
            replace hl76 : tt76.length + jStrL 2 ≤ 540 := hl76
            refine J_callq (jrunV (As := [.retAddr (2)]) (ct_J4_append_15ec4 l D dA hst M (v + 34) b76q mm76 tt76 hB76q y02 2 (by decide) (by omega)) dX7_writeSpan_76 yY_J4_append_15ec4 gX7_writeSpan_J4_append_15ec4 rfl cs1 hB.1 hB.2.1 rfl ⟨by omega, by omega⟩ ⟨by omega, by omega⟩ rfl (Nat.le_of_ble_eq_true rfl)) ⟨by omega, by omega⟩ (Or.inr ⟨(jOk.ref (show v < jn M from by have := g1.1; omega) (jOk.int (jOk.int jOk.nil))), jOk.nil⟩) (fun E M9 hp _ => by cases hp.1) (fun x9 M76_ hp76 hle76 => ?_)
            have hW76_ := hst76 _ _ _ hp76
            obtain ⟨⟨b76_, hB76_⟩, hF76_, hA76_, -⟩ := id hW76_
            obtain ⟨y76_1, y76_2, y76_3, y76_4, y76_5, y76_6, y76_7, y76_9⟩ := id hA76_
            obtain ⟨y76_x, y76_H, y76_8⟩ := id y76_7
            obtain ⟨y76_a1, y76_a2, y76_a3, y76_a4, y76_a5, y76_a6, y76_a7, y76_a8, y76_a9, y76_a10, y76_a11, y76_a12, y76_a13⟩ := id y76_3
            have y76_c30 := y76_5.1.2.2.2.2.2.2.2.2.2
            refine J_less (bc' := sbKc m tx.length (sPs qa qb) - sbKc m tx.length (([] : List (List Nat)) ++ [(sbX 2)])) (bs' := sbKs m tx.length (sPs qa qb) - sbKs m tx.length (([] : List (List Nat)) ++ [(sbX 2)])) (by omega) (by omega) ?_
            refine J_pop dX7_writeSpan_79 (jcat_rf _) ?_
            refine J_aload_n (v) dX7_writeSpan_80 rfl rfl ?_
            refine J_iload_n dX7_writeSpan_81 rfl rfl ?_
            obtain ⟨b82q, mm82, tt82, cc82, ss82, hB82q, h1682, hl82, hc82, hs82, e182, e282, e382, e482, hst82⟩ := hW76_.preL (vPs qb) (sPs qa qb) ⟨([] : List (List Nat)), by first | (rw [sPs_ne c2, sX1_f (by omega), sX2_f (by omega), sX3_t (by omega)]; simp only [List.append_assoc, List.nil_append, List.append_nil, sbX_1, sbX_2]; done) | (rw [sPs_ne c2, sX1_f (by omega), sX2_f (by omega), sX3_t (by omega)]; rfl) | (exfalso; omega)⟩ hlT
            refine J_callv (jrunV (As := [.int (nI (qb))]) (ct_X7_writeVersion l D dA hst M76_ v A hA76_ b82q mm82 tt82 hB82q h1682 qb (by omega) (by omega)) dX7_writeSpan_82 yY_X7_writeVersion gX7_writeSpan_X7_writeVersion rfl cs10 (show v < jn M76_ from by have := y76_1.1; omega) y76_1.2.1 rfl ⟨by omega, by omega⟩ ⟨by omega, by omega⟩ rfl (Nat.le_of_ble_eq_true rfl)) ⟨by omega, by omega⟩ (Or.inr ⟨(jOk.ref (show v < jn M76_ from by have := y76_1.1; omega) (jOk.int (jOk.int jOk.nil))), jOk.nil⟩) (fun E M9 hp _ => by cases hp.1) (fun M82_ hp82 hle82 => ?_)
            have hW82_ := hst82 _ hp82.2
            obtain ⟨⟨b82_, hB82_⟩, hF82_, hA82_, -⟩ := id hW82_
            obtain ⟨y82_1, y82_2, y82_3, y82_4, y82_5, y82_6, y82_7, y82_9⟩ := id hA82_
            obtain ⟨y82_x, y82_H, y82_8⟩ := id y82_7
            obtain ⟨y82_a1, y82_a2, y82_a3, y82_a4, y82_a5, y82_a6, y82_a7, y82_a8, y82_a9, y82_a10, y82_a11, y82_a12, y82_a13⟩ := id y82_3
            have y82_c30 := y82_5.1.2.2.2.2.2.2.2.2.2
            refine J_less (bc' := sbKc m tx.length (sPs qa qb) - sbKc m tx.length ((([] : List (List Nat)) ++ [(sbX 2)]) ++ (vPs qb))) (bs' := sbKs m tx.length (sPs qa qb) - sbKs m tx.length ((([] : List (List Nat)) ++ [(sbX 2)]) ++ (vPs qb))) (by omega) (by omega) ?_
            exact J_vret dX7_writeSpan_85 rfl (by first | (have hT9 : sPs qa qb = ((([] : List (List Nat)) ++ [(sbX 2)]) ++ (vPs qb)) := by first | (rw [sPs_ne c2, sX1_f (by omega), sX2_f (by omega), sX3_t (by omega)]; simp only [List.append_assoc, List.nil_append, List.append_nil, sbX_1, sbX_2]; done) | (rw [sPs_ne c2, sX1_f (by omega), sX2_f (by omega), sX3_t (by omega)]; rfl)); (rw [hT9]; exact ⟨rfl, b82_, hB82_, hF82_⟩) | (exfalso; omega) | fail "span")
        · have c49 := jleF (a := 99999999) (b := qb) (by omega) (by omega) c49
          refine J_aload_n (v) dX7_writeSpan_52 rfl rfl ?_
          refine J_getrs (q := v + 34) ga5 dX7_writeSpan_53 (fun _ h => List.mem_cons_of_mem _ (List.mem_append_left _ (List.mem_append_left _ (List.mem_append_right _ (h))))) cs10 (by decide) rfl (List.mem_of_getElem? (i := 1) rfl) rfl (show v < jn M from by have := g1.1; omega) g1.2.1 ?_
          refine J_bipush (x := 32) dX7_writeSpan_56 (by decide) ?_
          obtain ⟨b58q, mm58, tt58, cc58, ss58, hB58q, hl58, hc58, hs58, e158, e258, e358, e458, hst58⟩ := hW0.pre [32] (sPs qa qb) ⟨sX3 qb, by first | (rw [sPs_ne c2, sX1_f (by omega), sX2_t ⟨by omega, by omega⟩]; simp only [List.append_assoc, List.nil_append, List.append_nil, sbX_1, sbX_2]; done) | (rw [sPs_ne c2, sX1_f (by omega), sX2_t ⟨by omega, by omega⟩]; rfl) | (exfalso; omega)⟩ hlT
          replace hc58 : cc58 = sbC (tt58.length + 1) mm58 := hc58
          replace hs58 : ss58 = sbS (tt58.length + 1) mm58 := hs58
          replace hl58 : tt58.length + 1 ≤ 540 := hl58
          refine J_callq (jrunV (As := [.int (32)]) (ct_J4_append_cf468 l D dA hst M (v + 34) b58q mm58 tt58 hB58q y02 32 (by decide) (by omega)) dX7_writeSpan_58 yY_J4_append_cf468 gX7_writeSpan_J4_append_cf468 rfl cs1 hB.1 hB.2.1 rfl ⟨by omega, by omega⟩ ⟨by omega, by omega⟩ rfl (Nat.le_of_ble_eq_true rfl)) ⟨by omega, by omega⟩ (Or.inr ⟨(jOk.ref (show v < jn M from by have := g1.1; omega) (jOk.int (jOk.int jOk.nil))), jOk.nil⟩) (fun E M9 hp _ => by cases hp.1) (fun x9 M58_ hp58 hle58 => ?_)
          have hW58_ := hst58 _ _ _ hp58
          obtain ⟨⟨b58_, hB58_⟩, hF58_, hA58_, -⟩ := id hW58_
          obtain ⟨y58_1, y58_2, y58_3, y58_4, y58_5, y58_6, y58_7, y58_9⟩ := id hA58_
          obtain ⟨y58_x, y58_H, y58_8⟩ := id y58_7
          obtain ⟨y58_a1, y58_a2, y58_a3, y58_a4, y58_a5, y58_a6, y58_a7, y58_a8, y58_a9, y58_a10, y58_a11, y58_a12, y58_a13⟩ := id y58_3
          have y58_c30 := y58_5.1.2.2.2.2.2.2.2.2.2
          refine J_less (bc' := sbKc m tx.length (sPs qa qb) - sbKc m tx.length (([] : List (List Nat)) ++ [[32]])) (bs' := sbKs m tx.length (sPs qa qb) - sbKs m tx.length (([] : List (List Nat)) ++ [[32]])) (by omega) (by omega) ?_
          refine J_pop dX7_writeSpan_61 (jcat_rf _) ?_
          refine J_iload_n dX7_writeSpan_62 rfl rfl ?_
          refine J_ldcw (x := 99999999) dX7_writeSpan_63 (List.mem_of_getElem? (i := 2) rfl) ?_
          refine J_icmp_ge dX7_writeSpan_66 (tgt := 85) (by decide) (fun c66 => ?_) (fun c66 => ?_)
          · have c66 := jleT (a := 99999999) (b := qb) (by omega) (by omega) c66
            exact J_vret dX7_writeSpan_85 rfl (by first | (have hT9 : sPs qa qb = (([] : List (List Nat)) ++ [[32]]) := by first | (rw [sPs_ne c2, sX1_f (by omega), sX2_t ⟨by omega, by omega⟩, sX3_f (by omega)]; simp only [List.append_assoc, List.nil_append, List.append_nil, sbX_1, sbX_2]; done) | (rw [sPs_ne c2, sX1_f (by omega), sX2_t ⟨by omega, by omega⟩, sX3_f (by omega)]; rfl)); (rw [hT9]; exact ⟨rfl, b58_, hB58_, hF58_⟩) | (exfalso; omega) | fail "span")
          · have c66 := jleF (a := 99999999) (b := qb) (by omega) (by omega) c66
            refine J_aload_n (v) dX7_writeSpan_69 rfl rfl ?_
            refine J_getrs (q := v + 34) y58_a5 dX7_writeSpan_70 (fun _ h => List.mem_cons_of_mem _ (List.mem_append_left _ (List.mem_append_left _ (List.mem_append_right _ (h))))) cs10 (by decide) rfl (List.mem_of_getElem? (i := 1) rfl) rfl (show v < jn M58_ from by have := y58_1.1; omega) y58_1.2.1 ?_
            refine J_ldcwS (i := 2) (text := "<=") dX7_writeSpan_73 (fun A U h => h.2.2.2.2.1) ?_
            obtain ⟨b76q, mm76, tt76, cc76, ss76, hB76q, hl76, hc76, hs76, e176, e276, e376, e476, hst76⟩ := hW58_.pre (sbX 2) (sPs qa qb) ⟨vPs qb, by first | (rw [sPs_ne c2, sX1_f (by omega), sX2_t ⟨by omega, by omega⟩, sX3_t (by omega)]; simp only [List.append_assoc, List.nil_append, List.append_nil, sbX_1, sbX_2]; done) | (rw [sPs_ne c2, sX1_f (by omega), sX2_t ⟨by omega, by omega⟩, sX3_t (by omega)]; rfl) | (exfalso; omega)⟩ hlT
            replace hc76 : cc76 = sbC (tt76.length + jStrL 2) mm76 := hc76
            replace hs76 : ss76 = sbS (tt76.length + jStrL 2) mm76 := hs76
            replace hl76 : tt76.length + jStrL 2 ≤ 540 := hl76
            refine J_callq (jrunV (As := [.retAddr (2)]) (ct_J4_append_15ec4 l D dA hst M58_ (v + 34) b76q mm76 tt76 hB76q y58_2 2 (by decide) (by omega)) dX7_writeSpan_76 yY_J4_append_15ec4 gX7_writeSpan_J4_append_15ec4 rfl cs1 hB58_.1 hB58_.2.1 rfl ⟨by omega, by omega⟩ ⟨by omega, by omega⟩ rfl (Nat.le_of_ble_eq_true rfl)) ⟨by omega, by omega⟩ (Or.inr ⟨(jOk.ref (show v < jn M58_ from by have := y58_1.1; omega) (jOk.int (jOk.int jOk.nil))), jOk.nil⟩) (fun E M9 hp _ => by cases hp.1) (fun x9 M76_ hp76 hle76 => ?_)
            have hW76_ := hst76 _ _ _ hp76
            obtain ⟨⟨b76_, hB76_⟩, hF76_, hA76_, -⟩ := id hW76_
            obtain ⟨y76_1, y76_2, y76_3, y76_4, y76_5, y76_6, y76_7, y76_9⟩ := id hA76_
            obtain ⟨y76_x, y76_H, y76_8⟩ := id y76_7
            obtain ⟨y76_a1, y76_a2, y76_a3, y76_a4, y76_a5, y76_a6, y76_a7, y76_a8, y76_a9, y76_a10, y76_a11, y76_a12, y76_a13⟩ := id y76_3
            have y76_c30 := y76_5.1.2.2.2.2.2.2.2.2.2
            refine J_less (bc' := sbKc m tx.length (sPs qa qb) - sbKc m tx.length ((([] : List (List Nat)) ++ [[32]]) ++ [(sbX 2)])) (bs' := sbKs m tx.length (sPs qa qb) - sbKs m tx.length ((([] : List (List Nat)) ++ [[32]]) ++ [(sbX 2)])) (by omega) (by omega) ?_
            refine J_pop dX7_writeSpan_79 (jcat_rf _) ?_
            refine J_aload_n (v) dX7_writeSpan_80 rfl rfl ?_
            refine J_iload_n dX7_writeSpan_81 rfl rfl ?_
            obtain ⟨b82q, mm82, tt82, cc82, ss82, hB82q, h1682, hl82, hc82, hs82, e182, e282, e382, e482, hst82⟩ := hW76_.preL (vPs qb) (sPs qa qb) ⟨([] : List (List Nat)), by first | (rw [sPs_ne c2, sX1_f (by omega), sX2_t ⟨by omega, by omega⟩, sX3_t (by omega)]; simp only [List.append_assoc, List.nil_append, List.append_nil, sbX_1, sbX_2]; done) | (rw [sPs_ne c2, sX1_f (by omega), sX2_t ⟨by omega, by omega⟩, sX3_t (by omega)]; rfl) | (exfalso; omega)⟩ hlT
            refine J_callv (jrunV (As := [.int (nI (qb))]) (ct_X7_writeVersion l D dA hst M76_ v A hA76_ b82q mm82 tt82 hB82q h1682 qb (by omega) (by omega)) dX7_writeSpan_82 yY_X7_writeVersion gX7_writeSpan_X7_writeVersion rfl cs10 (show v < jn M76_ from by have := y76_1.1; omega) y76_1.2.1 rfl ⟨by omega, by omega⟩ ⟨by omega, by omega⟩ rfl (Nat.le_of_ble_eq_true rfl)) ⟨by omega, by omega⟩ (Or.inr ⟨(jOk.ref (show v < jn M76_ from by have := y76_1.1; omega) (jOk.int (jOk.int jOk.nil))), jOk.nil⟩) (fun E M9 hp _ => by cases hp.1) (fun M82_ hp82 hle82 => ?_)
            have hW82_ := hst82 _ hp82.2
            obtain ⟨⟨b82_, hB82_⟩, hF82_, hA82_, -⟩ := id hW82_
            obtain ⟨y82_1, y82_2, y82_3, y82_4, y82_5, y82_6, y82_7, y82_9⟩ := id hA82_
            obtain ⟨y82_x, y82_H, y82_8⟩ := id y82_7
            obtain ⟨y82_a1, y82_a2, y82_a3, y82_a4, y82_a5, y82_a6, y82_a7, y82_a8, y82_a9, y82_a10, y82_a11, y82_a12, y82_a13⟩ := id y82_3
            have y82_c30 := y82_5.1.2.2.2.2.2.2.2.2.2
            refine J_less (bc' := sbKc m tx.length (sPs qa qb) - sbKc m tx.length (((([] : List (List Nat)) ++ [[32]]) ++ [(sbX 2)]) ++ (vPs qb))) (bs' := sbKs m tx.length (sPs qa qb) - sbKs m tx.length (((([] : List (List Nat)) ++ [[32]]) ++ [(sbX 2)]) ++ (vPs qb))) (by omega) (by omega) ?_
            exact J_vret dX7_writeSpan_85 rfl (by first | (have hT9 : sPs qa qb = (((([] : List (List Nat)) ++ [[32]]) ++ [(sbX 2)]) ++ (vPs qb)) := by first | (rw [sPs_ne c2, sX1_f (by omega), sX2_t ⟨by omega, by omega⟩, sX3_t (by omega)]; simp only [List.append_assoc, List.nil_append, List.append_nil, sbX_1, sbX_2]; done) | (rw [sPs_ne c2, sX1_f (by omega), sX2_t ⟨by omega, by omega⟩, sX3_t (by omega)]; rfl)); (rw [hT9]; exact ⟨rfl, b82_, hB82_, hF82_⟩) | (exfalso; omega) | fail "span")
    · have c22 := jleF (a := qa) (b := 0) (by omega) (by omega) c22
      refine J_aload_n (v) dX7_writeSpan_25 rfl rfl ?_
      refine J_getrs (q := v + 34) ga5 dX7_writeSpan_26 (fun _ h => List.mem_cons_of_mem _ (List.mem_append_left _ (List.mem_append_left _ (List.mem_append_right _ (h))))) cs10 (by decide) rfl (List.mem_of_getElem? (i := 1) rfl) rfl (show v < jn M from by have := g1.1; omega) g1.2.1 ?_
      refine J_ldcwS (i := 1) (text := ">=") dX7_writeSpan_29 (fun A U h => h.2.2.2.1) ?_
      obtain ⟨b32q, mm32, tt32, cc32, ss32, hB32q, hl32, hc32, hs32, e132, e232, e332, e432, hst32⟩ := hW0.pre (sbX 1) (sPs qa qb) ⟨vPs qa ++ (sX2 qa qb ++ sX3 qb), by first | (rw [sPs_ne c2, sX1_t c22]; simp only [List.append_assoc, List.nil_append, List.append_nil, sbX_1, sbX_2]; done) | (rw [sPs_ne c2, sX1_t c22]; rfl) | (exfalso; omega)⟩ hlT
      replace hc32 : cc32 = sbC (tt32.length + jStrL 1) mm32 := hc32
      replace hs32 : ss32 = sbS (tt32.length + jStrL 1) mm32 := hs32
      replace hl32 : tt32.length + jStrL 1 ≤ 540 := hl32
      refine J_callq (jrunV (As := [.retAddr (1)]) (ct_J4_append_15ec4 l D dA hst M (v + 34) b32q mm32 tt32 hB32q y02 1 (by decide) (by omega)) dX7_writeSpan_32 yY_J4_append_15ec4 gX7_writeSpan_J4_append_15ec4 rfl cs1 hB.1 hB.2.1 rfl ⟨by omega, by omega⟩ ⟨by omega, by omega⟩ rfl (Nat.le_of_ble_eq_true rfl)) ⟨by omega, by omega⟩ (Or.inr ⟨(jOk.ref (show v < jn M from by have := g1.1; omega) (jOk.int (jOk.int jOk.nil))), jOk.nil⟩) (fun E M9 hp _ => by cases hp.1) (fun x9 M32_ hp32 hle32 => ?_)
      have hW32_ := hst32 _ _ _ hp32
      obtain ⟨⟨b32_, hB32_⟩, hF32_, hA32_, -⟩ := id hW32_
      obtain ⟨y32_1, y32_2, y32_3, y32_4, y32_5, y32_6, y32_7, y32_9⟩ := id hA32_
      obtain ⟨y32_x, y32_H, y32_8⟩ := id y32_7
      obtain ⟨y32_a1, y32_a2, y32_a3, y32_a4, y32_a5, y32_a6, y32_a7, y32_a8, y32_a9, y32_a10, y32_a11, y32_a12, y32_a13⟩ := id y32_3
      have y32_c30 := y32_5.1.2.2.2.2.2.2.2.2.2
      refine J_less (bc' := sbKc m tx.length (sPs qa qb) - sbKc m tx.length (([] : List (List Nat)) ++ [(sbX 1)])) (bs' := sbKs m tx.length (sPs qa qb) - sbKs m tx.length (([] : List (List Nat)) ++ [(sbX 1)])) (by omega) (by omega) ?_
      refine J_pop dX7_writeSpan_35 (jcat_rf _) ?_
      refine J_aload_n (v) dX7_writeSpan_36 rfl rfl ?_
      refine J_iload_n dX7_writeSpan_37 rfl rfl ?_
      obtain ⟨b38q, mm38, tt38, cc38, ss38, hB38q, h1638, hl38, hc38, hs38, e138, e238, e338, e438, hst38⟩ := hW32_.preL (vPs qa) (sPs qa qb) ⟨(sX2 qa qb ++ sX3 qb), by first | (rw [sPs_ne c2, sX1_t c22]; simp only [List.append_assoc, List.nil_append, List.append_nil, sbX_1, sbX_2]; done) | (rw [sPs_ne c2, sX1_t c22]; rfl) | (exfalso; omega)⟩ hlT
      refine J_callv (jrunV (As := [.int (nI (qa))]) (ct_X7_writeVersion l D dA hst M32_ v A hA32_ b38q mm38 tt38 hB38q h1638 qa (by omega) (by omega)) dX7_writeSpan_38 yY_X7_writeVersion gX7_writeSpan_X7_writeVersion rfl cs10 (show v < jn M32_ from by have := y32_1.1; omega) y32_1.2.1 rfl ⟨by omega, by omega⟩ ⟨by omega, by omega⟩ rfl (Nat.le_of_ble_eq_true rfl)) ⟨by omega, by omega⟩ (Or.inr ⟨(jOk.ref (show v < jn M32_ from by have := y32_1.1; omega) (jOk.int (jOk.int jOk.nil))), jOk.nil⟩) (fun E M9 hp _ => by cases hp.1) (fun M38_ hp38 hle38 => ?_)
      have hW38_ := hst38 _ hp38.2
      obtain ⟨⟨b38_, hB38_⟩, hF38_, hA38_, -⟩ := id hW38_
      obtain ⟨y38_1, y38_2, y38_3, y38_4, y38_5, y38_6, y38_7, y38_9⟩ := id hA38_
      obtain ⟨y38_x, y38_H, y38_8⟩ := id y38_7
      obtain ⟨y38_a1, y38_a2, y38_a3, y38_a4, y38_a5, y38_a6, y38_a7, y38_a8, y38_a9, y38_a10, y38_a11, y38_a12, y38_a13⟩ := id y38_3
      have y38_c30 := y38_5.1.2.2.2.2.2.2.2.2.2
      refine J_less (bc' := sbKc m tx.length (sPs qa qb) - sbKc m tx.length ((([] : List (List Nat)) ++ [(sbX 1)]) ++ (vPs qa))) (bs' := sbKs m tx.length (sPs qa qb) - sbKs m tx.length ((([] : List (List Nat)) ++ [(sbX 1)]) ++ (vPs qa))) (by omega) (by omega) ?_
      refine J_iload_n dX7_writeSpan_41 rfl rfl ?_
      refine J_if_le dX7_writeSpan_42 (tgt := 62) (by decide) (fun c42 => ?_) (fun c42 => ?_)
      · have c42 := jleT (a := qa) (b := 0) (by omega) (by omega) c42
        refine J_iload_n dX7_writeSpan_62 rfl rfl ?_
        refine J_ldcw (x := 99999999) dX7_writeSpan_63 (List.mem_of_getElem? (i := 2) rfl) ?_
        refine J_icmp_ge dX7_writeSpan_66 (tgt := 85) (by decide) (fun c66 => ?_) (fun c66 => ?_)
        · have c66 := jleT (a := 99999999) (b := qb) (by omega) (by omega) c66
          exact J_vret dX7_writeSpan_85 rfl (by first | (have hT9 : sPs qa qb = ((([] : List (List Nat)) ++ [(sbX 1)]) ++ (vPs qa)) := by first | (rw [sPs_ne c2, sX1_t c22, sX2_f (by omega), sX3_f (by omega)]; simp only [List.append_assoc, List.nil_append, List.append_nil, sbX_1, sbX_2]; done) | (rw [sPs_ne c2, sX1_t c22, sX2_f (by omega), sX3_f (by omega)]; rfl)); (rw [hT9]; exact ⟨rfl, b38_, hB38_, hF38_⟩) | (exfalso; omega) | fail "span")
        · have c66 := jleF (a := 99999999) (b := qb) (by omega) (by omega) c66
          refine J_aload_n (v) dX7_writeSpan_69 rfl rfl ?_
          refine J_getrs (q := v + 34) y38_a5 dX7_writeSpan_70 (fun _ h => List.mem_cons_of_mem _ (List.mem_append_left _ (List.mem_append_left _ (List.mem_append_right _ (h))))) cs10 (by decide) rfl (List.mem_of_getElem? (i := 1) rfl) rfl (show v < jn M38_ from by have := y38_1.1; omega) y38_1.2.1 ?_
          refine J_ldcwS (i := 2) (text := "<=") dX7_writeSpan_73 (fun A U h => h.2.2.2.2.1) ?_
          obtain ⟨b76q, mm76, tt76, cc76, ss76, hB76q, hl76, hc76, hs76, e176, e276, e376, e476, hst76⟩ := hW38_.pre (sbX 2) (sPs qa qb) ⟨vPs qb, by first | (rw [sPs_ne c2, sX1_t c22, sX2_f (by omega), sX3_t (by omega)]; simp only [List.append_assoc, List.nil_append, List.append_nil, sbX_1, sbX_2]; done) | (rw [sPs_ne c2, sX1_t c22, sX2_f (by omega), sX3_t (by omega)]; rfl) | (exfalso; omega)⟩ hlT
          replace hc76 : cc76 = sbC (tt76.length + jStrL 2) mm76 := hc76
          replace hs76 : ss76 = sbS (tt76.length + jStrL 2) mm76 := hs76
          replace hl76 : tt76.length + jStrL 2 ≤ 540 := hl76
          refine J_callq (jrunV (As := [.retAddr (2)]) (ct_J4_append_15ec4 l D dA hst M38_ (v + 34) b76q mm76 tt76 hB76q y38_2 2 (by decide) (by omega)) dX7_writeSpan_76 yY_J4_append_15ec4 gX7_writeSpan_J4_append_15ec4 rfl cs1 hB38_.1 hB38_.2.1 rfl ⟨by omega, by omega⟩ ⟨by omega, by omega⟩ rfl (Nat.le_of_ble_eq_true rfl)) ⟨by omega, by omega⟩ (Or.inr ⟨(jOk.ref (show v < jn M38_ from by have := y38_1.1; omega) (jOk.int (jOk.int jOk.nil))), jOk.nil⟩) (fun E M9 hp _ => by cases hp.1) (fun x9 M76_ hp76 hle76 => ?_)
          have hW76_ := hst76 _ _ _ hp76
          obtain ⟨⟨b76_, hB76_⟩, hF76_, hA76_, -⟩ := id hW76_
          obtain ⟨y76_1, y76_2, y76_3, y76_4, y76_5, y76_6, y76_7, y76_9⟩ := id hA76_
          obtain ⟨y76_x, y76_H, y76_8⟩ := id y76_7
          obtain ⟨y76_a1, y76_a2, y76_a3, y76_a4, y76_a5, y76_a6, y76_a7, y76_a8, y76_a9, y76_a10, y76_a11, y76_a12, y76_a13⟩ := id y76_3
          have y76_c30 := y76_5.1.2.2.2.2.2.2.2.2.2
          refine J_less (bc' := sbKc m tx.length (sPs qa qb) - sbKc m tx.length (((([] : List (List Nat)) ++ [(sbX 1)]) ++ (vPs qa)) ++ [(sbX 2)])) (bs' := sbKs m tx.length (sPs qa qb) - sbKs m tx.length (((([] : List (List Nat)) ++ [(sbX 1)]) ++ (vPs qa)) ++ [(sbX 2)])) (by omega) (by omega) ?_
          refine J_pop dX7_writeSpan_79 (jcat_rf _) ?_
          refine J_aload_n (v) dX7_writeSpan_80 rfl rfl ?_
          refine J_iload_n dX7_writeSpan_81 rfl rfl ?_
          obtain ⟨b82q, mm82, tt82, cc82, ss82, hB82q, h1682, hl82, hc82, hs82, e182, e282, e382, e482, hst82⟩ := hW76_.preL (vPs qb) (sPs qa qb) ⟨([] : List (List Nat)), by first | (rw [sPs_ne c2, sX1_t c22, sX2_f (by omega), sX3_t (by omega)]; simp only [List.append_assoc, List.nil_append, List.append_nil, sbX_1, sbX_2]; done) | (rw [sPs_ne c2, sX1_t c22, sX2_f (by omega), sX3_t (by omega)]; rfl) | (exfalso; omega)⟩ hlT
          refine J_callv (jrunV (As := [.int (nI (qb))]) (ct_X7_writeVersion l D dA hst M76_ v A hA76_ b82q mm82 tt82 hB82q h1682 qb (by omega) (by omega)) dX7_writeSpan_82 yY_X7_writeVersion gX7_writeSpan_X7_writeVersion rfl cs10 (show v < jn M76_ from by have := y76_1.1; omega) y76_1.2.1 rfl ⟨by omega, by omega⟩ ⟨by omega, by omega⟩ rfl (Nat.le_of_ble_eq_true rfl)) ⟨by omega, by omega⟩ (Or.inr ⟨(jOk.ref (show v < jn M76_ from by have := y76_1.1; omega) (jOk.int (jOk.int jOk.nil))), jOk.nil⟩) (fun E M9 hp _ => by cases hp.1) (fun M82_ hp82 hle82 => ?_)
          have hW82_ := hst82 _ hp82.2
          obtain ⟨⟨b82_, hB82_⟩, hF82_, hA82_, -⟩ := id hW82_
          obtain ⟨y82_1, y82_2, y82_3, y82_4, y82_5, y82_6, y82_7, y82_9⟩ := id hA82_
          obtain ⟨y82_x, y82_H, y82_8⟩ := id y82_7
          obtain ⟨y82_a1, y82_a2, y82_a3, y82_a4, y82_a5, y82_a6, y82_a7, y82_a8, y82_a9, y82_a10, y82_a11, y82_a12, y82_a13⟩ := id y82_3
          have y82_c30 := y82_5.1.2.2.2.2.2.2.2.2.2
          refine J_less (bc' := sbKc m tx.length (sPs qa qb) - sbKc m tx.length ((((([] : List (List Nat)) ++ [(sbX 1)]) ++ (vPs qa)) ++ [(sbX 2)]) ++ (vPs qb))) (bs' := sbKs m tx.length (sPs qa qb) - sbKs m tx.length ((((([] : List (List Nat)) ++ [(sbX 1)]) ++ (vPs qa)) ++ [(sbX 2)]) ++ (vPs qb))) (by omega) (by omega) ?_
          exact J_vret dX7_writeSpan_85 rfl (by first | (have hT9 : sPs qa qb = ((((([] : List (List Nat)) ++ [(sbX 1)]) ++ (vPs qa)) ++ [(sbX 2)]) ++ (vPs qb)) := by first | (rw [sPs_ne c2, sX1_t c22, sX2_f (by omega), sX3_t (by omega)]; simp only [List.append_assoc, List.nil_append, List.append_nil, sbX_1, sbX_2]; done) | (rw [sPs_ne c2, sX1_t c22, sX2_f (by omega), sX3_t (by omega)]; rfl)); (rw [hT9]; exact ⟨rfl, b82_, hB82_, hF82_⟩) | (exfalso; omega) | fail "span")
      · have c42 := jleF (a := qa) (b := 0) (by omega) (by omega) c42
        refine J_iload_n dX7_writeSpan_45 rfl rfl ?_
        refine J_ldcw (x := 99999999) dX7_writeSpan_46 (List.mem_of_getElem? (i := 2) rfl) ?_
        refine J_icmp_ge dX7_writeSpan_49 (tgt := 62) (by decide) (fun c49 => ?_) (fun c49 => ?_)
        · have c49 := jleT (a := 99999999) (b := qb) (by omega) (by omega) c49
          refine J_iload_n dX7_writeSpan_62 rfl rfl ?_
          refine J_ldcw (x := 99999999) dX7_writeSpan_63 (List.mem_of_getElem? (i := 2) rfl) ?_
          refine J_icmp_ge dX7_writeSpan_66 (tgt := 85) (by decide) (fun c66 => ?_) (fun c66 => ?_)
          · have c66 := jleT (a := 99999999) (b := qb) (by omega) (by omega) c66
            exact J_vret dX7_writeSpan_85 rfl (by first | (have hT9 : sPs qa qb = ((([] : List (List Nat)) ++ [(sbX 1)]) ++ (vPs qa)) := by first | (rw [sPs_ne c2, sX1_t c22, sX2_f (by omega), sX3_f (by omega)]; simp only [List.append_assoc, List.nil_append, List.append_nil, sbX_1, sbX_2]; done) | (rw [sPs_ne c2, sX1_t c22, sX2_f (by omega), sX3_f (by omega)]; rfl)); (rw [hT9]; exact ⟨rfl, b38_, hB38_, hF38_⟩) | (exfalso; omega) | fail "span")
          · have c66 := jleF (a := 99999999) (b := qb) (by omega) (by omega) c66
            refine J_aload_n (v) dX7_writeSpan_69 rfl rfl ?_
            refine J_getrs (q := v + 34) y38_a5 dX7_writeSpan_70 (fun _ h => List.mem_cons_of_mem _ (List.mem_append_left _ (List.mem_append_left _ (List.mem_append_right _ (h))))) cs10 (by decide) rfl (List.mem_of_getElem? (i := 1) rfl) rfl (show v < jn M38_ from by have := y38_1.1; omega) y38_1.2.1 ?_
            refine J_ldcwS (i := 2) (text := "<=") dX7_writeSpan_73 (fun A U h => h.2.2.2.2.1) ?_
            obtain ⟨b76q, mm76, tt76, cc76, ss76, hB76q, hl76, hc76, hs76, e176, e276, e376, e476, hst76⟩ := hW38_.pre (sbX 2) (sPs qa qb) ⟨vPs qb, by first | (rw [sPs_ne c2, sX1_t c22, sX2_f (by omega), sX3_t (by omega)]; simp only [List.append_assoc, List.nil_append, List.append_nil, sbX_1, sbX_2]; done) | (rw [sPs_ne c2, sX1_t c22, sX2_f (by omega), sX3_t (by omega)]; rfl) | (exfalso; omega)⟩ hlT
            replace hc76 : cc76 = sbC (tt76.length + jStrL 2) mm76 := hc76
            replace hs76 : ss76 = sbS (tt76.length + jStrL 2) mm76 := hs76
            replace hl76 : tt76.length + jStrL 2 ≤ 540 := hl76
            refine J_callq (jrunV (As := [.retAddr (2)]) (ct_J4_append_15ec4 l D dA hst M38_ (v + 34) b76q mm76 tt76 hB76q y38_2 2 (by decide) (by omega)) dX7_writeSpan_76 yY_J4_append_15ec4 gX7_writeSpan_J4_append_15ec4 rfl cs1 hB38_.1 hB38_.2.1 rfl ⟨by omega, by omega⟩ ⟨by omega, by omega⟩ rfl (Nat.le_of_ble_eq_true rfl)) ⟨by omega, by omega⟩ (Or.inr ⟨(jOk.ref (show v < jn M38_ from by have := y38_1.1; omega) (jOk.int (jOk.int jOk.nil))), jOk.nil⟩) (fun E M9 hp _ => by cases hp.1) (fun x9 M76_ hp76 hle76 => ?_)
            have hW76_ := hst76 _ _ _ hp76
            obtain ⟨⟨b76_, hB76_⟩, hF76_, hA76_, -⟩ := id hW76_
            obtain ⟨y76_1, y76_2, y76_3, y76_4, y76_5, y76_6, y76_7, y76_9⟩ := id hA76_
            obtain ⟨y76_x, y76_H, y76_8⟩ := id y76_7
            obtain ⟨y76_a1, y76_a2, y76_a3, y76_a4, y76_a5, y76_a6, y76_a7, y76_a8, y76_a9, y76_a10, y76_a11, y76_a12, y76_a13⟩ := id y76_3
            have y76_c30 := y76_5.1.2.2.2.2.2.2.2.2.2
            refine J_less (bc' := sbKc m tx.length (sPs qa qb) - sbKc m tx.length (((([] : List (List Nat)) ++ [(sbX 1)]) ++ (vPs qa)) ++ [(sbX 2)])) (bs' := sbKs m tx.length (sPs qa qb) - sbKs m tx.length (((([] : List (List Nat)) ++ [(sbX 1)]) ++ (vPs qa)) ++ [(sbX 2)])) (by omega) (by omega) ?_
            refine J_pop dX7_writeSpan_79 (jcat_rf _) ?_
            refine J_aload_n (v) dX7_writeSpan_80 rfl rfl ?_
            refine J_iload_n dX7_writeSpan_81 rfl rfl ?_
            obtain ⟨b82q, mm82, tt82, cc82, ss82, hB82q, h1682, hl82, hc82, hs82, e182, e282, e382, e482, hst82⟩ := hW76_.preL (vPs qb) (sPs qa qb) ⟨([] : List (List Nat)), by first | (rw [sPs_ne c2, sX1_t c22, sX2_f (by omega), sX3_t (by omega)]; simp only [List.append_assoc, List.nil_append, List.append_nil, sbX_1, sbX_2]; done) | (rw [sPs_ne c2, sX1_t c22, sX2_f (by omega), sX3_t (by omega)]; rfl) | (exfalso; omega)⟩ hlT
            refine J_callv (jrunV (As := [.int (nI (qb))]) (ct_X7_writeVersion l D dA hst M76_ v A hA76_ b82q mm82 tt82 hB82q h1682 qb (by omega) (by omega)) dX7_writeSpan_82 yY_X7_writeVersion gX7_writeSpan_X7_writeVersion rfl cs10 (show v < jn M76_ from by have := y76_1.1; omega) y76_1.2.1 rfl ⟨by omega, by omega⟩ ⟨by omega, by omega⟩ rfl (Nat.le_of_ble_eq_true rfl)) ⟨by omega, by omega⟩ (Or.inr ⟨(jOk.ref (show v < jn M76_ from by have := y76_1.1; omega) (jOk.int (jOk.int jOk.nil))), jOk.nil⟩) (fun E M9 hp _ => by cases hp.1) (fun M82_ hp82 hle82 => ?_)
            have hW82_ := hst82 _ hp82.2
            obtain ⟨⟨b82_, hB82_⟩, hF82_, hA82_, -⟩ := id hW82_
            obtain ⟨y82_1, y82_2, y82_3, y82_4, y82_5, y82_6, y82_7, y82_9⟩ := id hA82_
            obtain ⟨y82_x, y82_H, y82_8⟩ := id y82_7
            obtain ⟨y82_a1, y82_a2, y82_a3, y82_a4, y82_a5, y82_a6, y82_a7, y82_a8, y82_a9, y82_a10, y82_a11, y82_a12, y82_a13⟩ := id y82_3
            have y82_c30 := y82_5.1.2.2.2.2.2.2.2.2.2
            refine J_less (bc' := sbKc m tx.length (sPs qa qb) - sbKc m tx.length ((((([] : List (List Nat)) ++ [(sbX 1)]) ++ (vPs qa)) ++ [(sbX 2)]) ++ (vPs qb))) (bs' := sbKs m tx.length (sPs qa qb) - sbKs m tx.length ((((([] : List (List Nat)) ++ [(sbX 1)]) ++ (vPs qa)) ++ [(sbX 2)]) ++ (vPs qb))) (by omega) (by omega) ?_
            exact J_vret dX7_writeSpan_85 rfl (by first | (have hT9 : sPs qa qb = ((((([] : List (List Nat)) ++ [(sbX 1)]) ++ (vPs qa)) ++ [(sbX 2)]) ++ (vPs qb)) := by first | (rw [sPs_ne c2, sX1_t c22, sX2_f (by omega), sX3_t (by omega)]; simp only [List.append_assoc, List.nil_append, List.append_nil, sbX_1, sbX_2]; done) | (rw [sPs_ne c2, sX1_t c22, sX2_f (by omega), sX3_t (by omega)]; rfl)); (rw [hT9]; exact ⟨rfl, b82_, hB82_, hF82_⟩) | (exfalso; omega) | fail "span")
        · have c49 := jleF (a := 99999999) (b := qb) (by omega) (by omega) c49
          refine J_aload_n (v) dX7_writeSpan_52 rfl rfl ?_
          refine J_getrs (q := v + 34) y38_a5 dX7_writeSpan_53 (fun _ h => List.mem_cons_of_mem _ (List.mem_append_left _ (List.mem_append_left _ (List.mem_append_right _ (h))))) cs10 (by decide) rfl (List.mem_of_getElem? (i := 1) rfl) rfl (show v < jn M38_ from by have := y38_1.1; omega) y38_1.2.1 ?_
          refine J_bipush (x := 32) dX7_writeSpan_56 (by decide) ?_
          obtain ⟨b58q, mm58, tt58, cc58, ss58, hB58q, hl58, hc58, hs58, e158, e258, e358, e458, hst58⟩ := hW38_.pre [32] (sPs qa qb) ⟨sX3 qb, by first | (rw [sPs_ne c2, sX1_t c22, sX2_t ⟨by omega, by omega⟩]; simp only [List.append_assoc, List.nil_append, List.append_nil, sbX_1, sbX_2]; done) | (rw [sPs_ne c2, sX1_t c22, sX2_t ⟨by omega, by omega⟩]; rfl) | (exfalso; omega)⟩ hlT
          replace hc58 : cc58 = sbC (tt58.length + 1) mm58 := hc58
          replace hs58 : ss58 = sbS (tt58.length + 1) mm58 := hs58
          replace hl58 : tt58.length + 1 ≤ 540 := hl58
          refine J_callq (jrunV (As := [.int (32)]) (ct_J4_append_cf468 l D dA hst M38_ (v + 34) b58q mm58 tt58 hB58q y38_2 32 (by decide) (by omega)) dX7_writeSpan_58 yY_J4_append_cf468 gX7_writeSpan_J4_append_cf468 rfl cs1 hB38_.1 hB38_.2.1 rfl ⟨by omega, by omega⟩ ⟨by omega, by omega⟩ rfl (Nat.le_of_ble_eq_true rfl)) ⟨by omega, by omega⟩ (Or.inr ⟨(jOk.ref (show v < jn M38_ from by have := y38_1.1; omega) (jOk.int (jOk.int jOk.nil))), jOk.nil⟩) (fun E M9 hp _ => by cases hp.1) (fun x9 M58_ hp58 hle58 => ?_)
          have hW58_ := hst58 _ _ _ hp58
          obtain ⟨⟨b58_, hB58_⟩, hF58_, hA58_, -⟩ := id hW58_
          obtain ⟨y58_1, y58_2, y58_3, y58_4, y58_5, y58_6, y58_7, y58_9⟩ := id hA58_
          obtain ⟨y58_x, y58_H, y58_8⟩ := id y58_7
          obtain ⟨y58_a1, y58_a2, y58_a3, y58_a4, y58_a5, y58_a6, y58_a7, y58_a8, y58_a9, y58_a10, y58_a11, y58_a12, y58_a13⟩ := id y58_3
          have y58_c30 := y58_5.1.2.2.2.2.2.2.2.2.2
          refine J_less (bc' := sbKc m tx.length (sPs qa qb) - sbKc m tx.length (((([] : List (List Nat)) ++ [(sbX 1)]) ++ (vPs qa)) ++ [[32]])) (bs' := sbKs m tx.length (sPs qa qb) - sbKs m tx.length (((([] : List (List Nat)) ++ [(sbX 1)]) ++ (vPs qa)) ++ [[32]])) (by omega) (by omega) ?_
          refine J_pop dX7_writeSpan_61 (jcat_rf _) ?_
          refine J_iload_n dX7_writeSpan_62 rfl rfl ?_
          refine J_ldcw (x := 99999999) dX7_writeSpan_63 (List.mem_of_getElem? (i := 2) rfl) ?_
          refine J_icmp_ge dX7_writeSpan_66 (tgt := 85) (by decide) (fun c66 => ?_) (fun c66 => ?_)
          · have c66 := jleT (a := 99999999) (b := qb) (by omega) (by omega) c66
            exact J_vret dX7_writeSpan_85 rfl (by first | (have hT9 : sPs qa qb = (((([] : List (List Nat)) ++ [(sbX 1)]) ++ (vPs qa)) ++ [[32]]) := by first | (rw [sPs_ne c2, sX1_t c22, sX2_t ⟨by omega, by omega⟩, sX3_f (by omega)]; simp only [List.append_assoc, List.nil_append, List.append_nil, sbX_1, sbX_2]; done) | (rw [sPs_ne c2, sX1_t c22, sX2_t ⟨by omega, by omega⟩, sX3_f (by omega)]; rfl)); (rw [hT9]; exact ⟨rfl, b58_, hB58_, hF58_⟩) | (exfalso; omega) | fail "span")
          · have c66 := jleF (a := 99999999) (b := qb) (by omega) (by omega) c66
            refine J_aload_n (v) dX7_writeSpan_69 rfl rfl ?_
            refine J_getrs (q := v + 34) y58_a5 dX7_writeSpan_70 (fun _ h => List.mem_cons_of_mem _ (List.mem_append_left _ (List.mem_append_left _ (List.mem_append_right _ (h))))) cs10 (by decide) rfl (List.mem_of_getElem? (i := 1) rfl) rfl (show v < jn M58_ from by have := y58_1.1; omega) y58_1.2.1 ?_
            refine J_ldcwS (i := 2) (text := "<=") dX7_writeSpan_73 (fun A U h => h.2.2.2.2.1) ?_
            obtain ⟨b76q, mm76, tt76, cc76, ss76, hB76q, hl76, hc76, hs76, e176, e276, e376, e476, hst76⟩ := hW58_.pre (sbX 2) (sPs qa qb) ⟨vPs qb, by first | (rw [sPs_ne c2, sX1_t c22, sX2_t ⟨by omega, by omega⟩, sX3_t (by omega)]; simp only [List.append_assoc, List.nil_append, List.append_nil, sbX_1, sbX_2]; done) | (rw [sPs_ne c2, sX1_t c22, sX2_t ⟨by omega, by omega⟩, sX3_t (by omega)]; rfl) | (exfalso; omega)⟩ hlT
            replace hc76 : cc76 = sbC (tt76.length + jStrL 2) mm76 := hc76
            replace hs76 : ss76 = sbS (tt76.length + jStrL 2) mm76 := hs76
            replace hl76 : tt76.length + jStrL 2 ≤ 540 := hl76
            refine J_callq (jrunV (As := [.retAddr (2)]) (ct_J4_append_15ec4 l D dA hst M58_ (v + 34) b76q mm76 tt76 hB76q y58_2 2 (by decide) (by omega)) dX7_writeSpan_76 yY_J4_append_15ec4 gX7_writeSpan_J4_append_15ec4 rfl cs1 hB58_.1 hB58_.2.1 rfl ⟨by omega, by omega⟩ ⟨by omega, by omega⟩ rfl (Nat.le_of_ble_eq_true rfl)) ⟨by omega, by omega⟩ (Or.inr ⟨(jOk.ref (show v < jn M58_ from by have := y58_1.1; omega) (jOk.int (jOk.int jOk.nil))), jOk.nil⟩) (fun E M9 hp _ => by cases hp.1) (fun x9 M76_ hp76 hle76 => ?_)
            have hW76_ := hst76 _ _ _ hp76
            obtain ⟨⟨b76_, hB76_⟩, hF76_, hA76_, -⟩ := id hW76_
            obtain ⟨y76_1, y76_2, y76_3, y76_4, y76_5, y76_6, y76_7, y76_9⟩ := id hA76_
            obtain ⟨y76_x, y76_H, y76_8⟩ := id y76_7
            obtain ⟨y76_a1, y76_a2, y76_a3, y76_a4, y76_a5, y76_a6, y76_a7, y76_a8, y76_a9, y76_a10, y76_a11, y76_a12, y76_a13⟩ := id y76_3
            have y76_c30 := y76_5.1.2.2.2.2.2.2.2.2.2
            refine J_less (bc' := sbKc m tx.length (sPs qa qb) - sbKc m tx.length ((((([] : List (List Nat)) ++ [(sbX 1)]) ++ (vPs qa)) ++ [[32]]) ++ [(sbX 2)])) (bs' := sbKs m tx.length (sPs qa qb) - sbKs m tx.length ((((([] : List (List Nat)) ++ [(sbX 1)]) ++ (vPs qa)) ++ [[32]]) ++ [(sbX 2)])) (by omega) (by omega) ?_
            refine J_pop dX7_writeSpan_79 (jcat_rf _) ?_
            refine J_aload_n (v) dX7_writeSpan_80 rfl rfl ?_
            refine J_iload_n dX7_writeSpan_81 rfl rfl ?_
            obtain ⟨b82q, mm82, tt82, cc82, ss82, hB82q, h1682, hl82, hc82, hs82, e182, e282, e382, e482, hst82⟩ := hW76_.preL (vPs qb) (sPs qa qb) ⟨([] : List (List Nat)), by first | (rw [sPs_ne c2, sX1_t c22, sX2_t ⟨by omega, by omega⟩, sX3_t (by omega)]; simp only [List.append_assoc, List.nil_append, List.append_nil, sbX_1, sbX_2]; done) | (rw [sPs_ne c2, sX1_t c22, sX2_t ⟨by omega, by omega⟩, sX3_t (by omega)]; rfl) | (exfalso; omega)⟩ hlT
            refine J_callv (jrunV (As := [.int (nI (qb))]) (ct_X7_writeVersion l D dA hst M76_ v A hA76_ b82q mm82 tt82 hB82q h1682 qb (by omega) (by omega)) dX7_writeSpan_82 yY_X7_writeVersion gX7_writeSpan_X7_writeVersion rfl cs10 (show v < jn M76_ from by have := y76_1.1; omega) y76_1.2.1 rfl ⟨by omega, by omega⟩ ⟨by omega, by omega⟩ rfl (Nat.le_of_ble_eq_true rfl)) ⟨by omega, by omega⟩ (Or.inr ⟨(jOk.ref (show v < jn M76_ from by have := y76_1.1; omega) (jOk.int (jOk.int jOk.nil))), jOk.nil⟩) (fun E M9 hp _ => by cases hp.1) (fun M82_ hp82 hle82 => ?_)
            have hW82_ := hst82 _ hp82.2
            obtain ⟨⟨b82_, hB82_⟩, hF82_, hA82_, -⟩ := id hW82_
            obtain ⟨y82_1, y82_2, y82_3, y82_4, y82_5, y82_6, y82_7, y82_9⟩ := id hA82_
            obtain ⟨y82_x, y82_H, y82_8⟩ := id y82_7
            obtain ⟨y82_a1, y82_a2, y82_a3, y82_a4, y82_a5, y82_a6, y82_a7, y82_a8, y82_a9, y82_a10, y82_a11, y82_a12, y82_a13⟩ := id y82_3
            have y82_c30 := y82_5.1.2.2.2.2.2.2.2.2.2
            refine J_less (bc' := sbKc m tx.length (sPs qa qb) - sbKc m tx.length (((((([] : List (List Nat)) ++ [(sbX 1)]) ++ (vPs qa)) ++ [[32]]) ++ [(sbX 2)]) ++ (vPs qb))) (bs' := sbKs m tx.length (sPs qa qb) - sbKs m tx.length (((((([] : List (List Nat)) ++ [(sbX 1)]) ++ (vPs qa)) ++ [[32]]) ++ [(sbX 2)]) ++ (vPs qb))) (by omega) (by omega) ?_
            exact J_vret dX7_writeSpan_85 rfl (by first | (have hT9 : sPs qa qb = (((((([] : List (List Nat)) ++ [(sbX 1)]) ++ (vPs qa)) ++ [[32]]) ++ [(sbX 2)]) ++ (vPs qb)) := by first | (rw [sPs_ne c2, sX1_t c22, sX2_t ⟨by omega, by omega⟩, sX3_t (by omega)]; simp only [List.append_assoc, List.nil_append, List.append_nil, sbX_1, sbX_2]; done) | (rw [sPs_ne c2, sX1_t c22, sX2_t ⟨by omega, by omega⟩, sX3_t (by omega)]; rfl)); (rw [hT9]; exact ⟨rfl, b82_, hB82_, hF82_⟩) | (exfalso; omega) | fail "span")
  · have c2 := jeqT (a := qa) (b := qb) (by omega) (by omega) c2
    refine J_aload_n (v) dX7_writeSpan_5 rfl rfl ?_
    refine J_getrs (q := v + 34) ga5 dX7_writeSpan_6 (fun _ h => List.mem_cons_of_mem _ (List.mem_append_left _ (List.mem_append_left _ (List.mem_append_right _ (h))))) cs10 (by decide) rfl (List.mem_of_getElem? (i := 1) rfl) rfl (show v < jn M from by have := g1.1; omega) g1.2.1 ?_
    refine J_bipush (x := 61) dX7_writeSpan_9 (by decide) ?_
    obtain ⟨b11q, mm11, tt11, cc11, ss11, hB11q, hl11, hc11, hs11, e111, e211, e311, e411, hst11⟩ := hW0.pre [61] (sPs qa qb) ⟨vPs qa, by first | (rw [sPs_eq c2]; simp only [List.append_assoc, List.nil_append, List.append_nil, sbX_1, sbX_2]; done) | (rw [sPs_eq c2]; rfl) | (exfalso; omega)⟩ hlT
    replace hc11 : cc11 = sbC (tt11.length + 1) mm11 := hc11
    replace hs11 : ss11 = sbS (tt11.length + 1) mm11 := hs11
    replace hl11 : tt11.length + 1 ≤ 540 := hl11
    refine J_callq (jrunV (As := [.int (61)]) (ct_J4_append_cf468 l D dA hst M (v + 34) b11q mm11 tt11 hB11q y02 61 (by decide) (by omega)) dX7_writeSpan_11 yY_J4_append_cf468 gX7_writeSpan_J4_append_cf468 rfl cs1 hB.1 hB.2.1 rfl ⟨by omega, by omega⟩ ⟨by omega, by omega⟩ rfl (Nat.le_of_ble_eq_true rfl)) ⟨by omega, by omega⟩ (Or.inr ⟨(jOk.ref (show v < jn M from by have := g1.1; omega) (jOk.int (jOk.int jOk.nil))), jOk.nil⟩) (fun E M9 hp _ => by cases hp.1) (fun x9 M11_ hp11 hle11 => ?_)
    have hW11_ := hst11 _ _ _ hp11
    obtain ⟨⟨b11_, hB11_⟩, hF11_, hA11_, -⟩ := id hW11_
    obtain ⟨y11_1, y11_2, y11_3, y11_4, y11_5, y11_6, y11_7, y11_9⟩ := id hA11_
    obtain ⟨y11_x, y11_H, y11_8⟩ := id y11_7
    obtain ⟨y11_a1, y11_a2, y11_a3, y11_a4, y11_a5, y11_a6, y11_a7, y11_a8, y11_a9, y11_a10, y11_a11, y11_a12, y11_a13⟩ := id y11_3
    have y11_c30 := y11_5.1.2.2.2.2.2.2.2.2.2
    refine J_less (bc' := sbKc m tx.length (sPs qa qb) - sbKc m tx.length (([] : List (List Nat)) ++ [[61]])) (bs' := sbKs m tx.length (sPs qa qb) - sbKs m tx.length (([] : List (List Nat)) ++ [[61]])) (by omega) (by omega) ?_
    refine J_pop dX7_writeSpan_14 (jcat_rf _) ?_
    refine J_aload_n (v) dX7_writeSpan_15 rfl rfl ?_
    refine J_iload_n dX7_writeSpan_16 rfl rfl ?_
    obtain ⟨b17q, mm17, tt17, cc17, ss17, hB17q, h1617, hl17, hc17, hs17, e117, e217, e317, e417, hst17⟩ := hW11_.preL (vPs qa) (sPs qa qb) ⟨([] : List (List Nat)), by first | (rw [sPs_eq c2]; simp only [List.append_assoc, List.nil_append, List.append_nil, sbX_1, sbX_2]; done) | (rw [sPs_eq c2]; rfl) | (exfalso; omega)⟩ hlT
    refine J_callv (jrunV (As := [.int (nI (qa))]) (ct_X7_writeVersion l D dA hst M11_ v A hA11_ b17q mm17 tt17 hB17q h1617 qa (by omega) (by omega)) dX7_writeSpan_17 yY_X7_writeVersion gX7_writeSpan_X7_writeVersion rfl cs10 (show v < jn M11_ from by have := y11_1.1; omega) y11_1.2.1 rfl ⟨by omega, by omega⟩ ⟨by omega, by omega⟩ rfl (Nat.le_of_ble_eq_true rfl)) ⟨by omega, by omega⟩ (Or.inr ⟨(jOk.ref (show v < jn M11_ from by have := y11_1.1; omega) (jOk.int (jOk.int jOk.nil))), jOk.nil⟩) (fun E M9 hp _ => by cases hp.1) (fun M17_ hp17 hle17 => ?_)
    have hW17_ := hst17 _ hp17.2
    obtain ⟨⟨b17_, hB17_⟩, hF17_, hA17_, -⟩ := id hW17_
    obtain ⟨y17_1, y17_2, y17_3, y17_4, y17_5, y17_6, y17_7, y17_9⟩ := id hA17_
    obtain ⟨y17_x, y17_H, y17_8⟩ := id y17_7
    obtain ⟨y17_a1, y17_a2, y17_a3, y17_a4, y17_a5, y17_a6, y17_a7, y17_a8, y17_a9, y17_a10, y17_a11, y17_a12, y17_a13⟩ := id y17_3
    have y17_c30 := y17_5.1.2.2.2.2.2.2.2.2.2
    refine J_less (bc' := sbKc m tx.length (sPs qa qb) - sbKc m tx.length ((([] : List (List Nat)) ++ [[61]]) ++ (vPs qa))) (bs' := sbKs m tx.length (sPs qa qb) - sbKs m tx.length ((([] : List (List Nat)) ++ [[61]]) ++ (vPs qa))) (by omega) (by omega) ?_
    exact J_vret dX7_writeSpan_20 rfl (by first | (have hT9 : sPs qa qb = ((([] : List (List Nat)) ++ [[61]]) ++ (vPs qa)) := by first | (rw [sPs_eq c2]; simp only [List.append_assoc, List.nil_append, List.append_nil, sbX_1, sbX_2]; done) | (rw [sPs_eq c2]; rfl)); (rw [hT9]; exact ⟨rfl, b17_, hB17_, hF17_⟩) | (exfalso; omega) | fail "span")

