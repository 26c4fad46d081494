theorem dL_law_1460 : decode cL_law 1460 = .ok (.aload_n 1, 1) := by decide +kernel
theorem dL_law_1461 : decode cL_law 1461 = .ok (.aload_n 0, 1) := by decide +kernel
theorem dL_law_1462 : decode cL_law 1462 = .ok (.iload 5, 2) := by decide +kernel
theorem dL_law_1464 : decode cL_law 1464 = .ok (.iconst 1, 1) := by decide +kernel
theorem dL_law_1465 : decode cL_law 1465 = .ok (.iadd, 1) := by decide +kernel
theorem dL_law_1466 : decode cL_law 1466 = .ok (.iaload, 1) := by decide +kernel
theorem dL_law_1467 : decode cL_law 1467 = .ok (.aload_n 3, 1) := by decide +kernel
theorem dL_law_1468 : decode cL_law 1468 = .ok (.invokestatic 192, 3) := by decide +kernel
set_option maxRecDepth 20000 in
theorem ggL_law_L_withdraw : GoodIn wsL_law wsL_withdraw := goodIn_ca (goodIn_ca (goodIn_ca (goodIn_r _ [1157, 118, 119, 1158, 1159, 1160, 2, 1161, 23, 29, 580, 581, 582, 285, 286, 583, 1130, 1131, 1132, 22, 1133, 1134, 1135, 1136, 1137, 41, 1138, 779, 780, 781, 40, 297, 298, 299, 300, 301, 302, 18, 315, 316, 317, 28, 318, 47, 48, 49, 319, 148, 149, 150, 320, 321, 322, 323, 38, 324, 273, 274, 275, 325, 326, 327, 328, 1162, 1163, 1164, 1165, 1129, 775, 776, 777, 1318, 1319, 1320, 1321, 1322, 1323, 1324, 1325, 1326, 1327, 1359, 1360, 1361, 1362, 1363, 1364] (by decide +kernel) (by decide +kernel)) (goodIn_sub (fun _ h => List.mem_append_left _ (List.mem_append_left _ (List.mem_append_left _ (List.mem_append_left _ (List.mem_append_left _ (List.mem_append_left _ (List.mem_append_left _ (List.mem_append_right _ h)))))))) (by decide +kernel))) (goodIn_sub (fun _ h => List.mem_append_left _ (List.mem_append_left _ (List.mem_append_left _ (List.mem_append_left _ (List.mem_append_right _ h))))) (by decide +kernel))) (goodIn_sub (fun _ h => List.mem_append_left _ (List.mem_append_left _ (List.mem_append_left _ (List.mem_append_right _ h)))) (by decide +kernel))
set_option maxRecDepth 20000 in
theorem gL_law_L_withdraw : GoodIn wsL_law (va_wsS RL 192 yL_withdraw wsL_withdraw) := goodIn_app (goodIn_of _ (by decide +kernel)) ggL_law_L_withdraw
theorem yYH_L_withdraw : jYH yL_withdraw wsL_withdraw cL_withdraw 4 (some .int) [(0, 9, 12, 21), (0, 9, 15, 23)] 3 := ⟨⟨_, rfl⟩, by decide +kernel, by decide +kernel, by decide +kernel⟩
theorem dL_law_1471 : decode cL_law 1471 = .ok (.istore 6, 2) := by decide +kernel
theorem dL_law_1473 : decode cL_law 1473 = .ok (.aload_n 2, 1) := by decide +kernel
theorem dL_law_1474 : decode cL_law 1474 = .ok (.aload_n 0, 1) := by decide +kernel
theorem dL_law_1475 : decode cL_law 1475 = .ok (.iload 5, 2) := by decide +kernel
theorem dL_law_1477 : decode cL_law 1477 = .ok (.iconst 1, 1) := by decide +kernel
theorem dL_law_1478 : decode cL_law 1478 = .ok (.iadd, 1) := by decide +kernel
theorem dL_law_1479 : decode cL_law 1479 = .ok (.iaload, 1) := by decide +kernel
theorem dL_law_1480 : decode cL_law 1480 = .ok (.invokevirtual 194, 3) := by decide +kernel
set_option maxRecDepth 20000 in
theorem ggL_law_X8_withdraw : GoodIn wsL_law wsX8_withdraw := goodIn_ca (goodIn_r _ [1169, 74, 589, 590, 5, 591, 353, 105, 106, 107, 108, 109, 1147, 1148, 1149, 1150, 1151, 1152, 1153, 1154, 341, 422, 423, 424, 425, 426, 75, 1328, 1329, 1330, 1331, 1332, 1333, 1334, 1335, 1336, 1337, 1338, 1339, 1340, 1341, 1342, 1343, 1344, 1345, 1346, 1347, 1348, 1349, 1350, 1351, 1352, 1353, 1354, 1355, 1356, 1357, 1358] (by decide +kernel) (by decide +kernel)) (goodIn_sub (fun _ h => List.mem_append_left _ (List.mem_append_left _ (List.mem_append_left _ (List.mem_append_left _ (List.mem_append_left _ (List.mem_append_left _ (List.mem_append_left _ (List.mem_append_right _ h)))))))) (by decide +kernel))
set_option maxRecDepth 20000 in
theorem gL_law_X8_withdraw : GoodIn wsL_law (wsV RL 194 RX8 yX8_withdraw wsX8_withdraw) := goodIn_app (goodIn_of _ (by decide +kernel)) ggL_law_X8_withdraw
theorem yY_X8_withdraw : jY yX8_withdraw wsX8_withdraw cX8_withdraw 4 (some .int) 1 := ⟨⟨_, rfl⟩, by decide +kernel, by decide +kernel, by decide +kernel⟩
theorem dL_law_1483 : decode cL_law 1483 = .ok (.istore 7, 2) := by decide +kernel
theorem dL_law_1485 : decode cL_law 1485 = .ok (.aload_n 2, 1) := by decide +kernel
theorem dL_law_1486 : decode cL_law 1486 = .ok (.invokevirtual 124, 3) := by decide +kernel
theorem dL_law_1489 : decode cL_law 1489 = .ok (.iload 6, 2) := by decide +kernel
theorem dL_law_1491 : decode cL_law 1491 = .ok (.if_icmp .eq 5, 3) := by decide +kernel
theorem dL_law_1496 : decode cL_law 1496 = .ok (.iload 6, 2) := by decide +kernel
theorem dL_law_1498 : decode cL_law 1498 = .ok (.ifCond .ne 15, 3) := by decide +kernel
theorem dL_law_1513 : decode cL_law 1513 = .ok (.goto 439, 3) := by decide +kernel
theorem dL_law_1501 : decode cL_law 1501 = .ok (.aload_n 3, 1) := by decide +kernel
theorem dL_law_1502 : decode cL_law 1502 = .ok (.iconst 0, 1) := by decide +kernel
theorem dL_law_1503 : decode cL_law 1503 = .ok (.laload, 1) := by decide +kernel
theorem dL_law_1504 : decode cL_law 1504 = .ok (.iload 7, 2) := by decide +kernel
theorem dL_law_1506 : decode cL_law 1506 = .ok (.i2l, 1) := by decide +kernel
theorem dL_law_1507 : decode cL_law 1507 = .ok (.lcmp, 1) := by decide +kernel
theorem dL_law_1508 : decode cL_law 1508 = .ok (.ifCond .eq 5, 3) := by decide +kernel
set_option maxHeartbeats 1000000 in
set_option maxRecDepth 20000 in
theorem law_1460 (l : Launch) (D : va_G) (dA : Nat → ClassId) (hst : l.stackTraces = false) {F : jFin} {n0 : Nat} {hh : List (Nat × Nat × Nat × Nat)} {fr lo : Nat} (hfr : 700 ≤ fr) (hlo : 9000 ≤ lo) (M : jM) (v i k : Nat) (A : cA) (h : lAb M v A A) (hz : zA A) (hi : i + 5 ≤ jSL dA) (hL : jSL dA ≤ 2560) (next : ∀ M1 A1, lAb M1 v A1 A1 → zA A1 → J l D dA RL cL_law wsL_law 9 false (some .boolean) hh fr lo F n0 (400 * k) (13000 * k + 1000 * cL A1) M1 1952 [.retAddr 4, .ref v, .ref (v + 36), .ref (v + 50), .ref (v + 51), .int (nI i), .float 0, .float 0, .float 0] []) : J l D dA RL cL_law wsL_law 9 false (some .boolean) hh fr lo F n0 (400 * (k + 1)) (13000 * (k + 1) + 1000 * cL A) (M) 1460 [.retAddr (4), .ref (v), .ref (v + 36), .ref (v + 50), .ref (v + 51), .int (nI (i)), .float 0, .float 0, .float 0] [] := by
  have h60 : cL A ≤ 60 := h.1.2.2.1.2.2.2.2.2.2.2.2.1
  refine J_aload_n (v) dL_law_1460 rfl rfl ?_
  refine J_aload_ns (4) dL_law_1461 rfl rfl ?_
  refine J_iload dL_law_1462 rfl ?_
  refine J_iconst (x := 1) dL_law_1464 (by decide) ?_
  refine J_iadd dL_law_1465 ?_
  refine J_topi (y := nI (i + 1)) (nI_add (i) (1)) ?_
  refine J_sld (kq := i + 1) dL_law_1466 (by omega) ?_
  refine J_aload_n (v + 50) dL_law_1467 rfl rfl ?_
  refine J_calli (jrunSH (As := [.ref (v), .int (jSX dA (i + 1)), .ref (v + 50)]) (ct_L_withdraw l D dA hst M v A h.1 ((jSX dA (i + 1)))  (v + 50) (show v + 50 < jn M by have := h.1.1.1; omega) h.2.2.1.1 h.2.2.1.2) dL_law_1468 yYH_L_withdraw gL_law_L_withdraw rfl ⟨by omega, by omega⟩ ⟨by omega, by omega⟩ rfl (Nat.le_of_ble_eq_true rfl)) ⟨by omega, by omega⟩ (Or.inr ⟨(jOk.fs (jOk.ref (show v < jn M by have := h.1.1.1; omega) (jOk.ref (show v + 36 < jn M by have := h.1.1.1; omega) (jOk.ref (show v + 50 < jn M by have := h.1.1.1; omega) (jOk.ref (show v + 51 < jn M by have := h.1.1.1; omega) (jOk.int (jOk.float (jOk.float (jOk.float jOk.nil))))))))), jOk.nil⟩) (fun E M9 hp _ => by obtain ⟨K, _, _, h9⟩ := hp; rcases h9 with ⟨h9, _⟩ | ⟨_, _, _, _, _, h9, _⟩ <;> exact nomatch h9) (fun x6 M1 hp hle => ?_)
  obtain ⟨hab1, h6, hout⟩ := lPr.i h hp
  refine J_istore (lv' := [.retAddr (4), .ref (v), .ref (v + 36), .ref (v + 50), .ref (v + 51), .int (nI (i)), .int (x6), .float 0, .float 0]) dL_law_1471 (by decide) rfl rfl ?_
  refine J_aload_n (v + 36) dL_law_1473 rfl rfl ?_
  refine J_aload_ns (4) dL_law_1474 rfl rfl ?_
  refine J_iload dL_law_1475 rfl ?_
  refine J_iconst (x := 1) dL_law_1477 (by decide) ?_
  refine J_iadd dL_law_1478 ?_
  refine J_topi (y := nI (i + 1)) (nI_add (i) (1)) ?_
  refine J_sld (kq := i + 1) dL_law_1479 (by omega) ?_
  refine J_calli (jrunV (As := [.int (jSX dA (i + 1))]) (ct_X8_withdraw l D dA hst M1 (v + 36) A hab1.2.1 hz.1 ((jSX dA (i + 1)))) dL_law_1480 yY_X8_withdraw gL_law_X8_withdraw rfl cs11 (show v + 36 < jn M1 by have := hab1.1.1.1; omega) hab1.2.1.1.2.1 rfl ⟨by omega, by omega⟩ ⟨Nat.zero_le _, Nat.zero_le _⟩ rfl (Nat.le_of_ble_eq_true rfl)) ⟨Nat.zero_le _, Nat.zero_le _⟩ (Or.inr ⟨(jOk.fs (jOk.ref (show v < jn M1 by have := hab1.1.1.1; omega) (jOk.ref (show v + 36 < jn M1 by have := hab1.1.1.1; omega) (jOk.ref (show v + 50 < jn M1 by have := hab1.1.1.1; omega) (jOk.ref (show v + 51 < jn M1 by have := hab1.1.1.1; omega) (jOk.int (jOk.int (jOk.float (jOk.float jOk.nil))))))))), jOk.nil⟩) (fun E M9 hp _ => by obtain ⟨_, _, _, u, hu⟩ := hp; exact nomatch hu) (fun x7 M2 hq hle2 => ?_)
  obtain ⟨hq1, hq2, hq3, hq4⟩ := hq
  have hab2 := hab1.mf hq2 hq3
  have hcd : ji M2 (v + 36) 11 = x6 := l_code (by decide +kernel) hq1 hq4 h6
  have hz2 : zA ((sWdr A (jSX dA (i + 1))).2) := hz.wdr
  have hcl : cL (sWdr A (jSX dA (i + 1))).2 = cL A := cLz_wdr
  refine J_istore (lv' := [.retAddr (4), .ref (v), .ref (v + 36), .ref (v + 50), .ref (v + 51), .int (nI (i)), .int (x6), .int (x7), .float 0]) dL_law_1483 (by decide) rfl rfl ?_
  refine J_aload_n (v + 36) dL_law_1485 rfl rfl ?_
  refine J_calli0 (jrunV (As := []) (ct_X8_thrown l D dA hst M2 (v + 36) hab2.2.1.1) dL_law_1486 yY_X8_thrown gL_law_X8_thrown rfl cs11 (show v + 36 < jn M2 by have := hab2.1.1.1; omega) hab2.2.1.1.2.1 rfl ⟨by omega, by omega⟩ ⟨Nat.zero_le _, Nat.zero_le _⟩ rfl (Nat.le_of_ble_eq_true rfl)) (rfl) (rfl) ?_
  refine J_topi (y := (x6)) (by exact hcd) ?_
  refine J_iload dL_law_1489 rfl ?_
  refine J_icmp_eq dL_law_1491 (tgt := 1496) (by decide) (fun c1491 => ?_) (fun c1491 => ?_)
  · refine J_iload dL_law_1496 rfl ?_
    refine J_if_ne dL_law_1498 (tgt := 1513) (by decide) (fun c1498 => ?_) (fun c1498 => ?_)
    · refine J_goto (tgt := 1952) dL_law_1513 (by decide) ?_
      refine J_fg 6 (lv' := [.retAddr (4), .ref (v), .ref (v + 36), .ref (v + 50), .ref (v + 51), .int (nI (i)), .float 0, .int (x7), .float 0]) rfl ?_
      refine J_fg 7 (lv' := [.retAddr (4), .ref (v), .ref (v + 36), .ref (v + 50), .ref (v + 51), .int (nI (i)), .float 0, .float 0, .float 0]) rfl ?_
      refine J_less (bc' := 400 * k) (bs' := 13000 * k + 1000 * cL ((sWdr A (jSX dA (i + 1))).2)) (by omega) (by omega) ?_
      exact next _ _ hab2 hz2
    · obtain ⟨y, hy, hjl⟩ := hout c1498
      have hxy := (l_out hq1 ⟨_, hy⟩).2.symm.trans hy
      have hxy : x7 = y := by cases hxy; rfl
      have hv7 : jl M2 (v + 50) 0 = x7.toInt64 := by rw [hq3.2.2.2.2.1, hjl, hxy]
      refine J_aload_n (v + 50) dL_law_1501 rfl rfl ?_
      refine J_iconst (x := 0) dL_law_1502 (by decide) ?_
      refine J_lald (i := (0)) dL_law_1503 (show v + 50 < jn M2 by have := hab2.1.1.1; omega) hab2.2.2.1.1 (by rw [hab2.2.2.1.2]; exact vpin0) ?_
      refine J_iload dL_law_1504 rfl ?_
      refine J_i2l dL_law_1506 ?_
      refine J_lcmp dL_law_1507 ?_
      refine J_if_eq dL_law_1508 (tgt := 1513) (by decide) (fun c1508 => ?_) (fun c1508 => ?_)
      · refine J_goto (tgt := 1952) dL_law_1513 (by decide) ?_
        refine J_fg 6 (lv' := [.retAddr (4), .ref (v), .ref (v + 36), .ref (v + 50), .ref (v + 51), .int (nI (i)), .float 0, .int (x7), .float 0]) rfl ?_
        refine J_fg 7 (lv' := [.retAddr (4), .ref (v), .ref (v + 36), .ref (v + 50), .ref (v + 51), .int (nI (i)), .float 0, .float 0, .float 0]) rfl ?_
        refine J_less (bc' := 400 * k) (bs' := 13000 * k + 1000 * cL ((sWdr A (jSX dA (i + 1))).2)) (by omega) (by omega) ?_
        exact next _ _ hab2 hz2
      · exact absurd (by rw [show jl M2 (v + 50) (Int32.toNatClampNeg 0) = x7.toInt64 from hv7]; exact lg_cmp_self) c1508
  · exact absurd rfl c1491

theorem dL_law_1516 : decode cL_law 1516 = .ok (.aload_n 1, 1) := by decide +kernel
theorem dL_law_1517 : decode cL_law 1517 = .ok (.aload_n 0, 1) := by decide +kernel
theorem dL_law_1518 : decode cL_law 1518 = .ok (.iload 5, 2) := by decide +kernel
theorem dL_law_1520 : decode cL_law 1520 = .ok (.iconst 1, 1) := by decide +kernel
theorem dL_law_1521 : decode cL_law 1521 = .ok (.iadd, 1) := by decide +kernel
theorem dL_law_1522 : decode cL_law 1522 = .ok (.iaload, 1) := by decide +kernel
theorem dL_law_1523 : decode cL_law 1523 = .ok (.aload_n 3, 1) := by decide +kernel
theorem dL_law_1524 : decode cL_law 1524 = .ok (.invokestatic 195, 3) := by decide +kernel
set_option maxRecDepth 20000 in
theorem ggL_law_L_published : GoodIn wsL_law wsL_published := goodIn_ca (goodIn_ca (goodIn_r _ [1172, 626, 1173, 1174, 1175, 2, 1176, 635, 636, 23, 1129, 775, 776, 22, 777, 41, 1177, 779, 780, 781, 40, 1318, 1319, 1320, 1321, 1322, 1323, 1324, 1325, 1326, 1327, 1359, 1360, 1361] (by decide +kernel) (by decide +kernel)) (goodIn_sub (fun _ h => List.mem_append_left _ (List.mem_append_left _ (List.mem_append_left _ (List.mem_append_left _ (List.mem_append_left _ (List.mem_append_left _ (List.mem_append_left _ (List.mem_append_right _ h)))))))) (by decide +kernel))) (goodIn_sub (fun _ h => List.mem_append_left _ (List.mem_append_right _ h)) (by decide +kernel))
set_option maxRecDepth 20000 in
theorem gL_law_L_published : GoodIn wsL_law (va_wsS RL 195 yL_published wsL_published) := goodIn_app (goodIn_of _ (by decide +kernel)) ggL_law_L_published
theorem yYH_L_published : jYH yL_published wsL_published cL_published 4 (some .int) [(0, 9, 12, 43)] 3 := ⟨⟨_, rfl⟩, by decide +kernel, by decide +kernel, by decide +kernel⟩
theorem dL_law_1527 : decode cL_law 1527 = .ok (.istore 6, 2) := by decide +kernel
theorem dL_law_1529 : decode cL_law 1529 = .ok (.aload_n 2, 1) := by decide +kernel
theorem dL_law_1530 : decode cL_law 1530 = .ok (.aload_n 0, 1) := by decide +kernel
theorem dL_law_1531 : decode cL_law 1531 = .ok (.iload 5, 2) := by decide +kernel
theorem dL_law_1533 : decode cL_law 1533 = .ok (.iconst 1, 1) := by decide +kernel
theorem dL_law_1534 : decode cL_law 1534 = .ok (.iadd, 1) := by decide +kernel
theorem dL_law_1535 : decode cL_law 1535 = .ok (.iaload, 1) := by decide +kernel
theorem dL_law_1536 : decode cL_law 1536 = .ok (.invokevirtual 197, 3) := by decide +kernel
set_option maxRecDepth 20000 in
theorem ggL_law_X8_published : GoodIn wsL_law wsX8_published := goodIn_ca (goodIn_r _ [1181, 74, 105, 106, 107, 5, 108, 109, 1328, 1329, 1330, 1331, 1332, 1333, 1334, 1335, 1336, 1337, 1338, 1339, 1340, 1341, 1342, 1343, 1344, 1345, 1346, 1347, 1348, 1349, 1350, 1351, 1352, 1353, 1354, 1355, 1356, 1357, 1358] (by decide +kernel) (by decide +kernel)) (goodIn_sub (fun _ h => List.mem_append_left _ (List.mem_append_left _ (List.mem_append_left _ (List.mem_append_left _ (List.mem_append_left _ (List.mem_append_left _ (List.mem_append_left _ (List.mem_append_right _ h)))))))) (by decide +kernel))
set_option maxRecDepth 20000 in
theorem gL_law_X8_published : GoodIn wsL_law (wsV RL 197 RX8 yX8_published wsX8_published) := goodIn_app (goodIn_of _ (by decide +kernel)) ggL_law_X8_published
theorem yY_X8_published : jY yX8_published wsX8_published cX8_published 2 (some .int) 1 := ⟨⟨_, rfl⟩, by decide +kernel, by decide +kernel, by decide +kernel⟩
theorem dL_law_1539 : decode cL_law 1539 = .ok (.istore 7, 2) := by decide +kernel
theorem dL_law_1541 : decode cL_law 1541 = .ok (.aload_n 2, 1) := by decide +kernel
theorem dL_law_1542 : decode cL_law 1542 = .ok (.invokevirtual 124, 3) := by decide +kernel
theorem dL_law_1545 : decode cL_law 1545 = .ok (.iload 6, 2) := by decide +kernel
theorem dL_law_1547 : decode cL_law 1547 = .ok (.if_icmp .eq 5, 3) := by decide +kernel
theorem dL_law_1552 : decode cL_law 1552 = .ok (.iload 6, 2) := by decide +kernel
theorem dL_law_1554 : decode cL_law 1554 = .ok (.ifCond .ne 15, 3) := by decide +kernel
theorem dL_law_1569 : decode cL_law 1569 = .ok (.goto 383, 3) := by decide +kernel
theorem dL_law_1557 : decode cL_law 1557 = .ok (.aload_n 3, 1) := by decide +kernel
theorem dL_law_1558 : decode cL_law 1558 = .ok (.iconst 0, 1) := by decide +kernel
theorem dL_law_1559 : decode cL_law 1559 = .ok (.laload, 1) := by decide +kernel
theorem dL_law_1560 : decode cL_law 1560 = .ok (.iload 7, 2) := by decide +kernel
theorem dL_law_1562 : decode cL_law 1562 = .ok (.i2l, 1) := by decide +kernel
theorem dL_law_1563 : decode cL_law 1563 = .ok (.lcmp, 1) := by decide +kernel
theorem dL_law_1564 : decode cL_law 1564 = .ok (.ifCond .eq 5, 3) := by decide +kernel
set_option maxHeartbeats 1000000 in
set_option maxRecDepth 20000 in
theorem law_1516 (l : Launch) (D : va_G) (dA : Nat → ClassId) (hst : l.stackTraces = false) {F : jFin} {n0 : Nat} {hh : List (Nat × Nat × Nat × Nat)} {fr lo : Nat} (hfr : 700 ≤ fr) (hlo : 9000 ≤ lo) (M : jM) (v i k : Nat) (A : cA) (h : lAb M v A A) (hz : zA A) (hi : i + 5 ≤ jSL dA) (hL : jSL dA ≤ 2560) (next : ∀ M1 A1, lAb M1 v A1 A1 → zA A1 → J l D dA RL cL_law wsL_law 9 false (some .boolean) hh fr lo F n0 (400 * k) (13000 * k + 1000 * cL A1) M1 1952 [.retAddr 4, .ref v, .ref (v + 36), .ref (v + 50), .ref (v + 51), .int (nI i), .float 0, .float 0, .float 0] []) : J l D dA RL cL_law wsL_law 9 false (some .boolean) hh fr lo F n0 (400 * (k + 1)) (13000 * (k + 1) + 1000 * cL A) (M) 1516 [.retAddr (4), .ref (v), .ref (v + 36), .ref (v + 50), .ref (v + 51), .int (nI (i)), .float 0, .float 0, .float 0] [] := by
  have h60 : cL A ≤ 60 := h.1.2.2.1.2.2.2.2.2.2.2.2.1
  refine J_aload_n (v) dL_law_1516 rfl rfl ?_
  refine J_aload_ns (4) dL_law_1517 rfl rfl ?_
  refine J_iload dL_law_1518 rfl ?_
  refine J_iconst (x := 1) dL_law_1520 (by decide) ?_
  refine J_iadd dL_law_1521 ?_
  refine J_topi (y := nI (i + 1)) (nI_add (i) (1)) ?_
  refine J_sld (kq := i + 1) dL_law_1522 (by omega) ?_
  refine J_aload_n (v + 50) dL_law_1523 rfl rfl ?_
  refine J_calli (jrunSH (As := [.ref (v), .int (jSX dA (i + 1)), .ref (v + 50)]) (ct_L_published l D dA hst M v A h.1 ((jSX dA (i + 1)))  (v + 50) (show v + 50 < jn M by have := h.1.1.1; omega) h.2.2.1.1 h.2.2.1.2) dL_law_1524 yYH_L_published gL_law_L_published rfl ⟨by omega, by omega⟩ ⟨by omega, by omega⟩ rfl (Nat.le_of_ble_eq_true rfl)) ⟨by omega, by omega⟩ (Or.inr ⟨(jOk.fs (jOk.ref (show v < jn M by have := h.1.1.1; omega) (jOk.ref (show v + 36 < jn M by have := h.1.1.1; omega) (jOk.ref (show v + 50 < jn M by have := h.1.1.1; omega) (jOk.ref (show v + 51 < jn M by have := h.1.1.1; omega) (jOk.int (jOk.float (jOk.float (jOk.float jOk.nil))))))))), jOk.nil⟩) (fun E M9 hp _ => by obtain ⟨K, _, _, h9⟩ := hp; rcases h9 with ⟨h9, _⟩ | ⟨_, _, _, _, _, h9, _⟩ <;> exact nomatch h9) (fun x6 M1 hp hle => ?_)
  obtain ⟨hab1, h6, hout⟩ := lPr.i h hp
  refine J_istore (lv' := [.retAddr (4), .ref (v), .ref (v + 36), .ref (v + 50), .ref (v + 51), .int (nI (i)), .int (x6), .float 0, .float 0]) dL_law_1527 (by decide) rfl rfl ?_
  refine J_aload_n (v + 36) dL_law_1529 rfl rfl ?_
  refine J_aload_ns (4) dL_law_1530 rfl rfl ?_
  refine J_iload dL_law_1531 rfl ?_
  refine J_iconst (x := 1) dL_law_1533 (by decide) ?_
  refine J_iadd dL_law_1534 ?_
  refine J_topi (y := nI (i + 1)) (nI_add (i) (1)) ?_
  refine J_sld (kq := i + 1) dL_law_1535 (by omega) ?_
  refine J_calli (jrunV (As := [.int (jSX dA (i + 1))]) (ct_X8_published l D dA hst M1 (v + 36) A hab1.2.1 hz.1 ((jSX dA (i + 1)))) dL_law_1536 yY_X8_published gL_law_X8_published rfl cs11 (show v + 36 < jn M1 by have := hab1.1.1.1; omega) hab1.2.1.1.2.1 rfl ⟨by omega, by omega⟩ ⟨Nat.zero_le _, Nat.zero_le _⟩ rfl (Nat.le_of_ble_eq_true rfl)) ⟨Nat.zero_le _, Nat.zero_le _⟩ (Or.inr ⟨(jOk.fs (jOk.ref (show v < jn M1 by have := hab1.1.1.1; omega) (jOk.ref (show v + 36 < jn M1 by have := hab1.1.1.1; omega) (jOk.ref (show v + 50 < jn M1 by have := hab1.1.1.1; omega) (jOk.ref (show v + 51 < jn M1 by have := hab1.1.1.1; omega) (jOk.int (jOk.int (jOk.float (jOk.float jOk.nil))))))))), jOk.nil⟩) (fun E M9 hp _ => by obtain ⟨_, _, _, u, hu⟩ := hp; exact nomatch hu) (fun x7 M2 hq hle2 => ?_)
  obtain ⟨hq1, hq2, hq3, hq4⟩ := hq
  have hab2 := hab1.mf hq2 hq3
  have hcd : ji M2 (v + 36) 11 = x6 := l_code (by decide +kernel) hq1 hq4 h6
  have hz2 : zA A := hz
  have hcl : True := trivial
  refine J_istore (lv' := [.retAddr (4), .ref (v), .ref (v + 36), .ref (v + 50), .ref (v + 51), .int (nI (i)), .int (x6), .int (x7), .float 0]) dL_law_1539 (by decide) rfl rfl ?_
  refine J_aload_n (v + 36) dL_law_1541 rfl rfl ?_
  refine J_calli0 (jrunV (As := []) (ct_X8_thrown l D dA hst M2 (v + 36) hab2.2.1.1) dL_law_1542 yY_X8_thrown gL_law_X8_thrown rfl cs11 (show v + 36 < jn M2 by have := hab2.1.1.1; omega) hab2.2.1.1.2.1 rfl ⟨by omega, by omega⟩ ⟨Nat.zero_le _, Nat.zero_le _⟩ rfl (Nat.le_of_ble_eq_true rfl)) (rfl) (rfl) ?_
  refine J_topi (y := (x6)) (by exact hcd) ?_
  refine J_iload dL_law_1545 rfl ?_
  refine J_icmp_eq dL_law_1547 (tgt := 1552) (by decide) (fun c1547 => ?_) (fun c1547 => ?_)
  · refine J_iload dL_law_1552 rfl ?_
    refine J_if_ne dL_law_1554 (tgt := 1569) (by decide) (fun c1554 => ?_) (fun c1554 => ?_)
    · refine J_goto (tgt := 1952) dL_law_1569 (by decide) ?_
      refine J_fg 6 (lv' := [.retAddr (4), .ref (v), .ref (v + 36), .ref (v + 50), .ref (v + 51), .int (nI (i)), .float 0, .int (x7), .float 0]) rfl ?_
      refine J_fg 7 (lv' := [.retAddr (4), .ref (v), .ref (v + 36), .ref (v + 50), .ref (v + 51), .int (nI (i)), .float 0, .float 0, .float 0]) rfl ?_
      refine J_less (bc' := 400 * k) (bs' := 13000 * k + 1000 * cL A) (by omega) (by omega) ?_
      exact next _ _ hab2 hz2
    · obtain ⟨y, hy, hjl⟩ := hout c1554
      have hxy := (l_out hq1 ⟨_, hy⟩).2.symm.trans hy
      have hxy : x7 = y := by cases hxy; rfl
      have hv7 : jl M2 (v + 50) 0 = x7.toInt64 := by rw [hq3.2.2.2.2.1, hjl, hxy]
      refine J_aload_n (v + 50) dL_law_1557 rfl rfl ?_
      refine J_iconst (x := 0) dL_law_1558 (by decide) ?_
      refine J_lald (i := (0)) dL_law_1559 (show v + 50 < jn M2 by have := hab2.1.1.1; omega) hab2.2.2.1.1 (by rw [hab2.2.2.1.2]; exact vpin0) ?_
      refine J_iload dL_law_1560 rfl ?_
      refine J_i2l dL_law_1562 ?_
      refine J_lcmp dL_law_1563 ?_
      refine J_if_eq dL_law_1564 (tgt := 1569) (by decide) (fun c1564 => ?_) (fun c1564 => ?_)
      · refine J_goto (tgt := 1952) dL_law_1569 (by decide) ?_
        refine J_fg 6 (lv' := [.retAddr (4), .ref (v), .ref (v + 36), .ref (v + 50), .ref (v + 51), .int (nI (i)), .float 0, .int (x7), .float 0]) rfl ?_
        refine J_fg 7 (lv' := [.retAddr (4), .ref (v), .ref (v + 36), .ref (v + 50), .ref (v + 51), .int (nI (i)), .float 0, .float 0, .float 0]) rfl ?_
        refine J_less (bc' := 400 * k) (bs' := 13000 * k + 1000 * cL A) (by omega) (by omega) ?_
        exact next _ _ hab2 hz2
      · exact absurd (by rw [show jl M2 (v + 50) (Int32.toNatClampNeg 0) = x7.toInt64 from hv7]; exact lg_cmp_self) c1564
  · exact absurd rfl c1547

theorem dL_law_1572 : decode cL_law 1572 = .ok (.aload_n 1, 1) := by decide +kernel
theorem dL_law_1573 : decode cL_law 1573 = .ok (.aload_n 0, 1) := by decide +kernel
theorem dL_law_1574 : decode cL_law 1574 = .ok (.iload 5, 2) := by decide +kernel
theorem dL_law_1576 : decode cL_law 1576 = .ok (.iconst 1, 1) := by decide +kernel
theorem dL_law_1577 : decode cL_law 1577 = .ok (.iadd, 1) := by decide +kernel
theorem dL_law_1578 : decode cL_law 1578 = .ok (.iaload, 1) := by decide +kernel
theorem dL_law_1579 : decode cL_law 1579 = .ok (.aload_n 0, 1) := by decide +kernel
theorem dL_law_1580 : decode cL_law 1580 = .ok (.iload 5, 2) := by decide +kernel
theorem dL_law_1582 : decode cL_law 1582 = .ok (.iconst 2, 1) := by decide +kernel
theorem dL_law_1583 : decode cL_law 1583 = .ok (.iadd, 1) := by decide +kernel
theorem dL_law_1584 : decode cL_law 1584 = .ok (.iaload, 1) := by decide +kernel
theorem dL_law_1585 : decode cL_law 1585 = .ok (.ifCond .eq 7, 3) := by decide +kernel
theorem dL_law_1592 : decode cL_law 1592 = .ok (.iconst 0, 1) := by decide +kernel
theorem dL_law_1593 : decode cL_law 1593 = .ok (.aload_n 3, 1) := by decide +kernel
theorem dL_law_1594 : decode cL_law 1594 = .ok (.invokestatic 198, 3) := by decide +kernel
set_option maxRecDepth 20000 in
theorem ggL_law_L_best : GoodIn wsL_law wsL_best := goodIn_ca (goodIn_ca (goodIn_ca (goodIn_r _ [1184, 117, 626, 1185, 1186, 1187, 2, 1188, 635, 636, 23, 631, 632, 633, 634, 127, 128, 129, 130, 131, 599, 505, 506, 22, 507, 38, 1189, 1190, 1191, 1192, 41, 1138, 779, 780, 781, 40, 1193, 681, 682, 157, 683, 255, 256, 257, 258, 243, 244, 245, 246, 165, 234, 235, 236, 237, 247, 248, 249, 250, 684, 685, 686, 687, 688, 251, 252, 253, 254, 1318, 1319, 1320, 1321, 1322, 1323, 1324, 1325, 1326, 1327, 1359, 1360, 1361, 1386] (by decide +kernel) (by decide +kernel)) (goodIn_sub (fun _ h => List.mem_append_left _ (List.mem_append_left _ (List.mem_append_left _ (List.mem_append_left _ (List.mem_append_left _ (List.mem_append_left _ (List.mem_append_left _ (List.mem_append_right _ h)))))))) (by decide +kernel))) (goodIn_sub (fun _ h => List.mem_append_left _ (List.mem_append_right _ h)) (by decide +kernel))) (goodIn_sub (fun _ h => List.mem_append_left _ (List.mem_append_left _ (List.mem_append_left _ (List.mem_append_left _ (List.mem_append_left _ (List.mem_append_right _ h)))))) (by decide +kernel))
set_option maxRecDepth 20000 in
theorem gL_law_L_best : GoodIn wsL_law (va_wsS RL 198 yL_best wsL_best) := goodIn_app (goodIn_of _ (by decide +kernel)) ggL_law_L_best
theorem yYH_L_best : jYH yL_best wsL_best cL_best 5 (some .int) [(0, 10, 13, 19), (0, 10, 17, 43)] 4 := ⟨⟨_, rfl⟩, by decide +kernel, by decide +kernel, by decide +kernel⟩
theorem dL_law_1597 : decode cL_law 1597 = .ok (.istore 6, 2) := by decide +kernel
theorem dL_law_1599 : decode cL_law 1599 = .ok (.aload_n 2, 1) := by decide +kernel
theorem dL_law_1600 : decode cL_law 1600 = .ok (.aload_n 0, 1) := by decide +kernel
theorem dL_law_1601 : decode cL_law 1601 = .ok (.iload 5, 2) := by decide +kernel
theorem dL_law_1603 : decode cL_law 1603 = .ok (.iconst 1, 1) := by decide +kernel
theorem dL_law_1604 : decode cL_law 1604 = .ok (.iadd, 1) := by decide +kernel
theorem dL_law_1605 : decode cL_law 1605 = .ok (.iaload, 1) := by decide +kernel
theorem dL_law_1606 : decode cL_law 1606 = .ok (.aload_n 0, 1) := by decide +kernel
theorem dL_law_1607 : decode cL_law 1607 = .ok (.iload 5, 2) := by decide +kernel
theorem dL_law_1609 : decode cL_law 1609 = .ok (.iconst 2, 1) := by decide +kernel
theorem dL_law_1610 : decode cL_law 1610 = .ok (.iadd, 1) := by decide +kernel
theorem dL_law_1611 : decode cL_law 1611 = .ok (.iaload, 1) := by decide +kernel
theorem dL_law_1612 : decode cL_law 1612 = .ok (.ifCond .eq 7, 3) := by decide +kernel
theorem dL_law_1619 : decode cL_law 1619 = .ok (.iconst 0, 1) := by decide +kernel
theorem dL_law_1620 : decode cL_law 1620 = .ok (.invokevirtual 200, 3) := by decide +kernel
set_option maxRecDepth 20000 in
theorem ggL_law_X8_best : GoodIn wsL_law wsX8_best := goodIn_ca (goodIn_r _ [1197, 74, 109, 641, 642, 643, 5, 644, 342, 343, 344, 553, 554, 555, 556, 105, 106, 107, 108, 697, 698, 699, 700, 414, 410, 411, 412, 413, 701, 702, 703, 1328, 1329, 1330, 1331, 1332, 1333, 1334, 1335, 1336, 1337, 1338, 1339, 1340, 1341, 1342, 1343, 1344, 1345, 1346, 1347, 1348, 1349, 1350, 1351, 1352, 1353, 1354, 1355, 1356, 1357, 1358] (by decide +kernel) (by decide +kernel)) (goodIn_sub (fun _ h => List.mem_append_left _ (List.mem_append_left _ (List.mem_append_left _ (List.mem_append_left _ (List.mem_append_left _ (List.mem_append_left _ (List.mem_append_left _ (List.mem_append_right _ h)))))))) (by decide +kernel))
set_option maxRecDepth 20000 in
theorem gL_law_X8_best : GoodIn wsL_law (wsV RL 200 RX8 yX8_best wsX8_best) := goodIn_app (goodIn_of _ (by decide +kernel)) ggL_law_X8_best
theorem yY_X8_best : jY yX8_best wsX8_best cX8_best 4 (some .int) 2 := ⟨⟨_, rfl⟩, by decide +kernel, by decide +kernel, by decide +kernel⟩
theorem dL_law_1623 : decode cL_law 1623 = .ok (.istore 7, 2) := by decide +kernel
theorem dL_law_1625 : decode cL_law 1625 = .ok (.aload_n 2, 1) := by decide +kernel
theorem dL_law_1626 : decode cL_law 1626 = .ok (.invokevirtual 124, 3) := by decide +kernel
theorem dL_law_1629 : decode cL_law 1629 = .ok (.iload 6, 2) := by decide +kernel
theorem dL_law_1631 : decode cL_law 1631 = .ok (.if_icmp .eq 5, 3) := by decide +kernel
theorem dL_law_1636 : decode cL_law 1636 = .ok (.iload 6, 2) := by decide +kernel
theorem dL_law_1638 : decode cL_law 1638 = .ok (.ifCond .ne 15, 3) := by decide +kernel
theorem dL_law_1653 : decode cL_law 1653 = .ok (.goto 299, 3) := by decide +kernel
theorem dL_law_1641 : decode cL_law 1641 = .ok (.aload_n 3, 1) := by decide +kernel
theorem dL_law_1642 : decode cL_law 1642 = .ok (.iconst 0, 1) := by decide +kernel
theorem dL_law_1643 : decode cL_law 1643 = .ok (.laload, 1) := by decide +kernel
theorem dL_law_1644 : decode cL_law 1644 = .ok (.iload 7, 2) := by decide +kernel
theorem dL_law_1646 : decode cL_law 1646 = .ok (.i2l, 1) := by decide +kernel
theorem dL_law_1647 : decode cL_law 1647 = .ok (.lcmp, 1) := by decide +kernel
theorem dL_law_1648 : decode cL_law 1648 = .ok (.ifCond .eq 5, 3) := by decide +kernel
theorem dL_law_1588 : decode cL_law 1588 = .ok (.iconst 1, 1) := by decide +kernel
theorem dL_law_1589 : decode cL_law 1589 = .ok (.goto 4, 3) := by decide +kernel
theorem dL_law_1615 : decode cL_law 1615 = .ok (.iconst 1, 1) := by decide +kernel
theorem dL_law_1616 : decode cL_law 1616 = .ok (.goto 4, 3) := by decide +kernel
set_option maxHeartbeats 1000000 in
set_option maxRecDepth 20000 in
theorem law_1572 (l : Launch) (D : va_G) (dA : Nat → ClassId) (hst : l.stackTraces = false) {F : jFin} {n0 : Nat} {hh : List (Nat × Nat × Nat × Nat)} {fr lo : Nat} (hfr : 700 ≤ fr) (hlo : 9000 ≤ lo) (M : jM) (v i k : Nat) (A : cA) (h : lAb M v A A) (hz : zA A) (hi : i + 5 ≤ jSL dA) (hL : jSL dA ≤ 2560) (next : ∀ M1 A1, lAb M1 v A1 A1 → zA A1 → J l D dA RL cL_law wsL_law 9 false (some .boolean) hh fr lo F n0 (400 * k) (13000 * k + 1000 * cL A1) M1 1952 [.retAddr 4, .ref v, .ref (v + 36), .ref (v + 50), .ref (v + 51), .int (nI i), .float 0, .float 0, .float 0] []) : J l D dA RL cL_law wsL_law 9 false (some .boolean) hh fr lo F n0 (400 * (k + 1)) (13000 * (k + 1) + 1000 * cL A) (M) 1572 [.retAddr (4), .ref (v), .ref (v + 36), .ref (v + 50), .ref (v + 51), .int (nI (i)), .float 0, .float 0, .float 0] [] := by
  have h60 : cL A ≤ 60 := h.1.2.2.1.2.2.2.2.2.2.2.2.1
  refine J_aload_n (v) dL_law_1572 rfl rfl ?_
  refine J_aload_ns (4) dL_law_1573 rfl rfl ?_
  refine J_iload dL_law_1574 rfl ?_
  refine J_iconst (x := 1) dL_law_1576 (by decide) ?_
  refine J_iadd dL_law_1577 ?_
  refine J_topi (y := nI (i + 1)) (nI_add (i) (1)) ?_
  refine J_sld (kq := i + 1) dL_law_1578 (by omega) ?_
  refine J_aload_ns (4) dL_law_1579 rfl rfl ?_
  refine J_iload dL_law_1580 rfl ?_
  refine J_iconst (x := 2) dL_law_1582 (by decide) ?_
  refine J_iadd dL_law_1583 ?_
  refine J_topi (y := nI (i + 2)) (nI_add (i) (2)) ?_
  refine J_sld (kq := i + 2) dL_law_1584 (by omega) ?_
  refine J_if_eq dL_law_1585 (tgt := 1592) (by decide) (fun c1585 => ?_) (fun c1585 => ?_)
  · refine J_iconst (x := 0) dL_law_1592 (by decide) ?_
    refine J_aload_n (v + 50) dL_law_1593 rfl rfl ?_
    refine J_calli (jrunSH (As := [.ref (v), .int (jSX dA (i + 1)), .int (0), .ref (v + 50)]) (ct_L_best l D dA hst M v A h.1 ((jSX dA (i + 1))) false  (v + 50) (show v + 50 < jn M by have := h.1.1.1; omega) h.2.2.1.1 h.2.2.1.2) dL_law_1594 yYH_L_best gL_law_L_best rfl ⟨by omega, by omega⟩ ⟨by omega, by omega⟩ rfl (Nat.le_of_ble_eq_true rfl)) ⟨by omega, by omega⟩ (Or.inr ⟨(jOk.fs (jOk.ref (show v < jn M by have := h.1.1.1; omega) (jOk.ref (show v + 36 < jn M by have := h.1.1.1; omega) (jOk.ref (show v + 50 < jn M by have := h.1.1.1; omega) (jOk.ref (show v + 51 < jn M by have := h.1.1.1; omega) (jOk.int (jOk.float (jOk.float (jOk.float jOk.nil))))))))), jOk.nil⟩) (fun E M9 hp _ => by obtain ⟨K, _, _, h9⟩ := hp; rcases h9 with ⟨h9, _⟩ | ⟨_, _, _, _, _, h9, _⟩ <;> exact nomatch h9) (fun x6 M1 hp hle => ?_)
    obtain ⟨hab1, h6, hout⟩ := lPr.i h hp
    refine J_istore (lv' := [.retAddr (4), .ref (v), .ref (v + 36), .ref (v + 50), .ref (v + 51), .int (nI (i)), .int (x6), .float 0, .float 0]) dL_law_1597 (by decide) rfl rfl ?_
    refine J_aload_n (v + 36) dL_law_1599 rfl rfl ?_
    refine J_aload_ns (4) dL_law_1600 rfl rfl ?_
    refine J_iload dL_law_1601 rfl ?_
    refine J_iconst (x := 1) dL_law_1603 (by decide) ?_
    refine J_iadd dL_law_1604 ?_
    refine J_topi (y := nI (i + 1)) (nI_add (i) (1)) ?_
    refine J_sld (kq := i + 1) dL_law_1605 (by omega) ?_
    refine J_aload_ns (4) dL_law_1606 rfl rfl ?_
    refine J_iload dL_law_1607 rfl ?_
    refine J_iconst (x := 2) dL_law_1609 (by decide) ?_
    refine J_iadd dL_law_1610 ?_
    refine J_topi (y := nI (i + 2)) (nI_add (i) (2)) ?_
    refine J_sld (kq := i + 2) dL_law_1611 (by omega) ?_
    refine J_if_eq dL_law_1612 (tgt := 1619) (by decide) (fun c1612 => ?_) (fun c1612 => ?_)
    · refine J_iconst (x := 0) dL_law_1619 (by decide) ?_
      refine J_calli (jrunV (As := [.int (jSX dA (i + 1)), .int (0)]) (ct_X8_best l D dA hst M1 (v + 36) A hab1.2.1 hz.1 ((jSX dA (i + 1))) false) dL_law_1620 yY_X8_best gL_law_X8_best rfl cs11 (show v + 36 < jn M1 by have := hab1.1.1.1; omega) hab1.2.1.1.2.1 rfl ⟨by omega, by omega⟩ ⟨Nat.zero_le _, Nat.zero_le _⟩ rfl (Nat.le_of_ble_eq_true rfl)) ⟨Nat.zero_le _, Nat.zero_le _⟩ (Or.inr ⟨(jOk.fs (jOk.ref (show v < jn M1 by have := hab1.1.1.1; omega) (jOk.ref (show v + 36 < jn M1 by have := hab1.1.1.1; omega) (jOk.ref (show v + 50 < jn M1 by have := hab1.1.1.1; omega) (jOk.ref (show v + 51 < jn M1 by have := hab1.1.1.1; omega) (jOk.int (jOk.int (jOk.float (jOk.float jOk.nil))))))))), jOk.nil⟩) (fun E M9 hp _ => by obtain ⟨_, _, _, u, hu⟩ := hp; exact nomatch hu) (fun x7 M2 hq hle2 => ?_)
      obtain ⟨hq1, hq2, hq3, hq4⟩ := hq
      have hab2 := hab1.mf hq2 hq3
      have hcd : ji M2 (v + 36) 11 = x6 := l_code (by decide +kernel) hq1 hq4 h6
      have hz2 : zA A := hz
      have hcl : True := trivial
      refine J_istore (lv' := [.retAddr (4), .ref (v), .ref (v + 36), .ref (v + 50), .ref (v + 51), .int (nI (i)), .int (x6), .int (x7), .float 0]) dL_law_1623 (by decide) rfl rfl ?_
      refine J_aload_n (v + 36) dL_law_1625 rfl rfl ?_
      refine J_calli0 (jrunV (As := []) (ct_X8_thrown l D dA hst M2 (v + 36) hab2.2.1.1) dL_law_1626 yY_X8_thrown gL_law_X8_thrown rfl cs11 (show v + 36 < jn M2 by have := hab2.1.1.1; omega) hab2.2.1.1.2.1 rfl ⟨by omega, by omega⟩ ⟨Nat.zero_le _, Nat.zero_le _⟩ rfl (Nat.le_of_ble_eq_true rfl)) (rfl) (rfl) ?_
      refine J_topi (y := (x6)) (by exact hcd) ?_
      refine J_iload dL_law_1629 rfl ?_
      refine J_icmp_eq dL_law_1631 (tgt := 1636) (by decide) (fun c1631 => ?_) (fun c1631 => ?_)
      · refine J_iload dL_law_1636 rfl ?_
        refine J_if_ne dL_law_1638 (tgt := 1653) (by decide) (fun c1638 => ?_) (fun c1638 => ?_)
        · refine J_goto (tgt := 1952) dL_law_1653 (by decide) ?_
          refine J_fg 6 (lv' := [.retAddr (4), .ref (v), .ref (v + 36), .ref (v + 50), .ref (v + 51), .int (nI (i)), .float 0, .int (x7), .float 0]) rfl ?_
          refine J_fg 7 (lv' := [.retAddr (4), .ref (v), .ref (v + 36), .ref (v + 50), .ref (v + 51), .int (nI (i)), .float 0, .float 0, .float 0]) rfl ?_
          refine J_less (bc' := 400 * k) (bs' := 13000 * k + 1000 * cL A) (by omega) (by omega) ?_
          exact next _ _ hab2 hz2
        · obtain ⟨y, hy, hjl⟩ := hout c1638
          have hxy := (l_out hq1 ⟨_, hy⟩).2.symm.trans hy
          have hxy : x7 = y := by cases hxy; rfl
          have hv7 : jl M2 (v + 50) 0 = x7.toInt64 := by rw [hq3.2.2.2.2.1, hjl, hxy]
          refine J_aload_n (v + 50) dL_law_1641 rfl rfl ?_
          refine J_iconst (x := 0) dL_law_1642 (by decide) ?_
          refine J_lald (i := (0)) dL_law_1643 (show v + 50 < jn M2 by have := hab2.1.1.1; omega) hab2.2.2.1.1 (by rw [hab2.2.2.1.2]; exact vpin0) ?_
          refine J_iload dL_law_1644 rfl ?_
          refine J_i2l dL_law_1646 ?_
          refine J_lcmp dL_law_1647 ?_
          refine J_if_eq dL_law_1648 (tgt := 1653) (by decide) (fun c1648 => ?_) (fun c1648 => ?_)
          · refine J_goto (tgt := 1952) dL_law_1653 (by decide) ?_
            refine J_fg 6 (lv' := [.retAddr (4), .ref (v), .ref (v + 36), .ref (v + 50), .ref (v + 51), .int (nI (i)), .float 0, .int (x7), .float 0]) rfl ?_
            refine J_fg 7 (lv' := [.retAddr (4), .ref (v), .ref (v + 36), .ref (v + 50), .ref (v + 51), .int (nI (i)), .float 0, .float 0, .float 0]) rfl ?_
            refine J_less (bc' := 400 * k) (bs' := 13000 * k + 1000 * cL A) (by omega) (by omega) ?_
            exact next _ _ hab2 hz2
          · exact absurd (by rw [show jl M2 (v + 50) (Int32.toNatClampNeg 0) = x7.toInt64 from hv7]; exact lg_cmp_self) c1648
      · exact absurd rfl c1631
    · exact absurd c1585 c1612
  · refine J_iconst (x := 1) dL_law_1588 (by decide) ?_
    refine J_goto (tgt := 1593) dL_law_1589 (by decide) ?_
    refine J_aload_n (v + 50) dL_law_1593 rfl rfl ?_
    refine J_calli (jrunSH (As := [.ref (v), .int (jSX dA (i + 1)), .int (1), .ref (v + 50)]) (ct_L_best l D dA hst M v A h.1 ((jSX dA (i + 1))) true  (v + 50) (show v + 50 < jn M by have := h.1.1.1; omega) h.2.2.1.1 h.2.2.1.2) dL_law_1594 yYH_L_best gL_law_L_best rfl ⟨by omega, by omega⟩ ⟨by omega, by omega⟩ rfl (Nat.le_of_ble_eq_true rfl)) ⟨by omega, by omega⟩ (Or.inr ⟨(jOk.fs (jOk.ref (show v < jn M by have := h.1.1.1; omega) (jOk.ref (show v + 36 < jn M by have := h.1.1.1; omega) (jOk.ref (show v + 50 < jn M by have := h.1.1.1; omega) (jOk.ref (show v + 51 < jn M by have := h.1.1.1; omega) (jOk.int (jOk.float (jOk.float (jOk.float jOk.nil))))))))), jOk.nil⟩) (fun E M9 hp _ => by obtain ⟨K, _, _, h9⟩ := hp; rcases h9 with ⟨h9, _⟩ | ⟨_, _, _, _, _, h9, _⟩ <;> exact nomatch h9) (fun x6 M1 hp hle => ?_)
    obtain ⟨hab1, h6, hout⟩ := lPr.i h hp
    refine J_istore (lv' := [.retAddr (4), .ref (v), .ref (v + 36), .ref (v + 50), .ref (v + 51), .int (nI (i)), .int (x6), .float 0, .float 0]) dL_law_1597 (by decide) rfl rfl ?_
    refine J_aload_n (v + 36) dL_law_1599 rfl rfl ?_
    refine J_aload_ns (4) dL_law_1600 rfl rfl ?_
    refine J_iload dL_law_1601 rfl ?_
    refine J_iconst (x := 1) dL_law_1603 (by decide) ?_
    refine J_iadd dL_law_1604 ?_
    refine J_topi (y := nI (i + 1)) (nI_add (i) (1)) ?_
    refine J_sld (kq := i + 1) dL_law_1605 (by omega) ?_
    refine J_aload_ns (4) dL_law_1606 rfl rfl ?_
    refine J_iload dL_law_1607 rfl ?_
    refine J_iconst (x := 2) dL_law_1609 (by decide) ?_
    refine J_iadd dL_law_1610 ?_
    refine J_topi (y := nI (i + 2)) (nI_add (i) (2)) ?_
    refine J_sld (kq := i + 2) dL_law_1611 (by omega) ?_
    refine J_if_eq dL_law_1612 (tgt := 1619) (by decide) (fun c1612 => ?_) (fun c1612 => ?_)
    · exact absurd c1612 c1585
    · refine J_iconst (x := 1) dL_law_1615 (by decide) ?_
      refine J_goto (tgt := 1620) dL_law_1616 (by decide) ?_
      refine J_calli (jrunV (As := [.int (jSX dA (i + 1)), .int (1)]) (ct_X8_best l D dA hst M1 (v + 36) A hab1.2.1 hz.1 ((jSX dA (i + 1))) true) dL_law_1620 yY_X8_best gL_law_X8_best rfl cs11 (show v + 36 < jn M1 by have := hab1.1.1.1; omega) hab1.2.1.1.2.1 rfl ⟨by omega, by omega⟩ ⟨Nat.zero_le _, Nat.zero_le _⟩ rfl (Nat.le_of_ble_eq_true rfl)) ⟨Nat.zero_le _, Nat.zero_le _⟩ (Or.inr ⟨(jOk.fs (jOk.ref (show v < jn M1 by have := hab1.1.1.1; omega) (jOk.ref (show v + 36 < jn M1 by have := hab1.1.1.1; omega) (jOk.ref (show v + 50 < jn M1 by have := hab1.1.1.1; omega) (jOk.ref (show v + 51 < jn M1 by have := hab1.1.1.1; omega) (jOk.int (jOk.int (jOk.float (jOk.float jOk.nil))))))))), jOk.nil⟩) (fun E M9 hp _ => by obtain ⟨_, _, _, u, hu⟩ := hp; exact nomatch hu) (fun x7 M2 hq hle2 => ?_)
      obtain ⟨hq1, hq2, hq3, hq4⟩ := hq
      have hab2 := hab1.mf hq2 hq3
      have hcd : ji M2 (v + 36) 11 = x6 := l_code (by decide +kernel) hq1 hq4 h6
      have hz2 : zA A := hz
      have hcl : True := trivial
      refine J_istore (lv' := [.retAddr (4), .ref (v), .ref (v + 36), .ref (v + 50), .ref (v + 51), .int (nI (i)), .int (x6), .int (x7), .float 0]) dL_law_1623 (by decide) rfl rfl ?_
      refine J_aload_n (v + 36) dL_law_1625 rfl rfl ?_
      refine J_calli0 (jrunV (As := []) (ct_X8_thrown l D dA hst M2 (v + 36) hab2.2.1.1) dL_law_1626 yY_X8_thrown gL_law_X8_thrown rfl cs11 (show v + 36 < jn M2 by have := hab2.1.1.1; omega) hab2.2.1.1.2.1 rfl ⟨by omega, by omega⟩ ⟨Nat.zero_le _, Nat.zero_le _⟩ rfl (Nat.le_of_ble_eq_true rfl)) (rfl) (rfl) ?_
      refine J_topi (y := (x6)) (by exact hcd) ?_
      refine J_iload dL_law_1629 rfl ?_
      refine J_icmp_eq dL_law_1631 (tgt := 1636) (by decide) (fun c1631 => ?_) (fun c1631 => ?_)
      · refine J_iload dL_law_1636 rfl ?_
        refine J_if_ne dL_law_1638 (tgt := 1653) (by decide) (fun c1638 => ?_) (fun c1638 => ?_)
        · refine J_goto (tgt := 1952) dL_law_1653 (by decide) ?_
          refine J_fg 6 (lv' := [.retAddr (4), .ref (v), .ref (v + 36), .ref (v + 50), .ref (v + 51), .int (nI (i)), .float 0, .int (x7), .float 0]) rfl ?_
          refine J_fg 7 (lv' := [.retAddr (4), .ref (v), .ref (v + 36), .ref (v + 50), .ref (v + 51), .int (nI (i)), .float 0, .float 0, .float 0]) rfl ?_
          refine J_less (bc' := 400 * k) (bs' := 13000 * k + 1000 * cL A) (by omega) (by omega) ?_
          exact next _ _ hab2 hz2
        · obtain ⟨y, hy, hjl⟩ := hout c1638
          have hxy := (l_out hq1 ⟨_, hy⟩).2.symm.trans hy
          have hxy : x7 = y := by cases hxy; rfl
          have hv7 : jl M2 (v + 50) 0 = x7.toInt64 := by rw [hq3.2.2.2.2.1, hjl, hxy]
          refine J_aload_n (v + 50) dL_law_1641 rfl rfl ?_
          refine J_iconst (x := 0) dL_law_1642 (by decide) ?_
          refine J_lald (i := (0)) dL_law_1643 (show v + 50 < jn M2 by have := hab2.1.1.1; omega) hab2.2.2.1.1 (by rw [hab2.2.2.1.2]; exact vpin0) ?_
          refine J_iload dL_law_1644 rfl ?_
          refine J_i2l dL_law_1646 ?_
          refine J_lcmp dL_law_1647 ?_
          refine J_if_eq dL_law_1648 (tgt := 1653) (by decide) (fun c1648 => ?_) (fun c1648 => ?_)
          · refine J_goto (tgt := 1952) dL_law_1653 (by decide) ?_
            refine J_fg 6 (lv' := [.retAddr (4), .ref (v), .ref (v + 36), .ref (v + 50), .ref (v + 51), .int (nI (i)), .float 0, .int (x7), .float 0]) rfl ?_
            refine J_fg 7 (lv' := [.retAddr (4), .ref (v), .ref (v + 36), .ref (v + 50), .ref (v + 51), .int (nI (i)), .float 0, .float 0, .float 0]) rfl ?_
            refine J_less (bc' := 400 * k) (bs' := 13000 * k + 1000 * cL A) (by omega) (by omega) ?_
            exact next _ _ hab2 hz2
          · exact absurd (by rw [show jl M2 (v + 50) (Int32.toNatClampNeg 0) = x7.toInt64 from hv7]; exact lg_cmp_self) c1648
      · exact absurd rfl c1631

theorem dL_law_1656 : decode cL_law 1656 = .ok (.aload_n 1, 1) := by decide +kernel
theorem dL_law_1657 : decode cL_law 1657 = .ok (.aload_n 0, 1) := by decide +kernel
theorem dL_law_1658 : decode cL_law 1658 = .ok (.iload 5, 2) := by decide +kernel
theorem dL_law_1660 : decode cL_law 1660 = .ok (.iconst 1, 1) := by decide +kernel
theorem dL_law_1661 : decode cL_law 1661 = .ok (.iadd, 1) := by decide +kernel
theorem dL_law_1662 : decode cL_law 1662 = .ok (.iaload, 1) := by decide +kernel
theorem dL_law_1663 : decode cL_law 1663 = .ok (.aload_n 0, 1) := by decide +kernel
theorem dL_law_1664 : decode cL_law 1664 = .ok (.iload 5, 2) := by decide +kernel
theorem dL_law_1666 : decode cL_law 1666 = .ok (.iconst 2, 1) := by decide +kernel
theorem dL_law_1667 : decode cL_law 1667 = .ok (.iadd, 1) := by decide +kernel
theorem dL_law_1668 : decode cL_law 1668 = .ok (.iaload, 1) := by decide +kernel
theorem dL_law_1669 : decode cL_law 1669 = .ok (.ifCond .eq 7, 3) := by decide +kernel
theorem dL_law_1676 : decode cL_law 1676 = .ok (.iconst 0, 1) := by decide +kernel
theorem dL_law_1677 : decode cL_law 1677 = .ok (.aload_n 3, 1) := by decide +kernel
theorem dL_law_1678 : decode cL_law 1678 = .ok (.invokestatic 201, 3) := by decide +kernel
set_option maxRecDepth 20000 in
theorem ggL_law_L_matching : GoodIn wsL_law wsL_matching := goodIn_ca (goodIn_ca (goodIn_ca (goodIn_r _ [1200, 117, 626, 1201, 1202, 1203, 2, 1204, 23, 631, 632, 633, 634, 635, 636, 127, 128, 129, 130, 131, 599, 505, 506, 22, 507, 38, 1205, 1206, 1207, 1208, 41, 1138, 779, 780, 781, 40, 1193, 681, 682, 157, 683, 255, 256, 257, 258, 243, 244, 245, 246, 165, 234, 235, 236, 237, 247, 248, 249, 250, 684, 685, 686, 687, 688, 251, 252, 253, 254, 1318, 1319, 1320, 1321, 1322, 1323, 1324, 1325, 1326, 1327, 1359, 1360, 1361, 1386] (by decide +kernel) (by decide +kernel)) (goodIn_sub (fun _ h => List.mem_append_left _ (List.mem_append_left _ (List.mem_append_left _ (List.mem_append_left _ (List.mem_append_left _ (List.mem_append_left _ (List.mem_append_left _ (List.mem_append_right _ h)))))))) (by decide +kernel))) (goodIn_sub (fun _ h => List.mem_append_left _ (List.mem_append_right _ h)) (by decide +kernel))) (goodIn_sub (fun _ h => List.mem_append_left _ (List.mem_append_left _ (List.mem_append_left _ (List.mem_append_left _ (List.mem_append_left _ (List.mem_append_right _ h)))))) (by decide +kernel))
set_option maxRecDepth 20000 in
theorem gL_law_L_matching : GoodIn wsL_law (va_wsS RL 201 yL_matching wsL_matching) := goodIn_app (goodIn_of _ (by decide +kernel)) ggL_law_L_matching
theorem yYH_L_matching : jYH yL_matching wsL_matching cL_matching 5 (some .int) [(0, 10, 13, 19), (0, 10, 17, 43)] 4 := ⟨⟨_, rfl⟩, by decide +kernel, by decide +kernel, by decide +kernel⟩
theorem dL_law_1681 : decode cL_law 1681 = .ok (.istore 6, 2) := by decide +kernel
theorem dL_law_1683 : decode cL_law 1683 = .ok (.aload_n 2, 1) := by decide +kernel
theorem dL_law_1684 : decode cL_law 1684 = .ok (.aload_n 0, 1) := by decide +kernel
theorem dL_law_1685 : decode cL_law 1685 = .ok (.iload 5, 2) := by decide +kernel
theorem dL_law_1687 : decode cL_law 1687 = .ok (.iconst 1, 1) := by decide +kernel
theorem dL_law_1688 : decode cL_law 1688 = .ok (.iadd, 1) := by decide +kernel
theorem dL_law_1689 : decode cL_law 1689 = .ok (.iaload, 1) := by decide +kernel
theorem dL_law_1690 : decode cL_law 1690 = .ok (.aload_n 0, 1) := by decide +kernel
theorem dL_law_1691 : decode cL_law 1691 = .ok (.iload 5, 2) := by decide +kernel
theorem dL_law_1693 : decode cL_law 1693 = .ok (.iconst 2, 1) := by decide +kernel
theorem dL_law_1694 : decode cL_law 1694 = .ok (.iadd, 1) := by decide +kernel
theorem dL_law_1695 : decode cL_law 1695 = .ok (.iaload, 1) := by decide +kernel
theorem dL_law_1696 : decode cL_law 1696 = .ok (.ifCond .eq 7, 3) := by decide +kernel
theorem dL_law_1703 : decode cL_law 1703 = .ok (.iconst 0, 1) := by decide +kernel
theorem dL_law_1704 : decode cL_law 1704 = .ok (.invokevirtual 203, 3) := by decide +kernel
set_option maxRecDepth 20000 in
theorem ggL_law_X8_matching : GoodIn wsL_law wsX8_matching := goodIn_ca (goodIn_r _ [1212, 641, 642, 643, 5, 644, 342, 343, 344, 553, 554, 555, 556, 74, 105, 106, 107, 108, 109, 1213, 1214, 1215, 1216, 697, 698, 699, 700, 414, 410, 411, 412, 413, 701, 702, 703, 1328, 1329, 1330, 1331, 1332, 1333, 1334, 1335, 1336, 1337, 1338, 1339, 1340, 1341, 1342, 1343, 1344, 1345, 1346, 1347, 1348, 1349, 1350, 1351, 1352, 1353, 1354, 1355, 1356, 1357, 1358] (by decide +kernel) (by decide +kernel)) (goodIn_sub (fun _ h => List.mem_append_left _ (List.mem_append_left _ (List.mem_append_left _ (List.mem_append_left _ (List.mem_append_left _ (List.mem_append_left _ (List.mem_append_left _ (List.mem_append_right _ h)))))))) (by decide +kernel))
set_option maxRecDepth 20000 in
theorem gL_law_X8_matching : GoodIn wsL_law (wsV RL 203 RX8 yX8_matching wsX8_matching) := goodIn_app (goodIn_of _ (by decide +kernel)) ggL_law_X8_matching
theorem yY_X8_matching : jY yX8_matching wsX8_matching cX8_matching 3 (some .int) 2 := ⟨⟨_, rfl⟩, by decide +kernel, by decide +kernel, by decide +kernel⟩
theorem dL_law_1707 : decode cL_law 1707 = .ok (.istore 7, 2) := by decide +kernel
theorem dL_law_1709 : decode cL_law 1709 = .ok (.aload_n 2, 1) := by decide +kernel
theorem dL_law_1710 : decode cL_law 1710 = .ok (.invokevirtual 124, 3) := by decide +kernel
theorem dL_law_1713 : decode cL_law 1713 = .ok (.iload 6, 2) := by decide +kernel
theorem dL_law_1715 : decode cL_law 1715 = .ok (.if_icmp .eq 5, 3) := by decide +kernel
theorem dL_law_1720 : decode cL_law 1720 = .ok (.iload 6, 2) := by decide +kernel
theorem dL_law_1722 : decode cL_law 1722 = .ok (.ifCond .ne 15, 3) := by decide +kernel
theorem dL_law_1737 : decode cL_law 1737 = .ok (.goto 215, 3) := by decide +kernel
theorem dL_law_1725 : decode cL_law 1725 = .ok (.aload_n 3, 1) := by decide +kernel
theorem dL_law_1726 : decode cL_law 1726 = .ok (.iconst 0, 1) := by decide +kernel
theorem dL_law_1727 : decode cL_law 1727 = .ok (.laload, 1) := by decide +kernel
theorem dL_law_1728 : decode cL_law 1728 = .ok (.iload 7, 2) := by decide +kernel
theorem dL_law_1730 : decode cL_law 1730 = .ok (.i2l, 1) := by decide +kernel
theorem dL_law_1731 : decode cL_law 1731 = .ok (.lcmp, 1) := by decide +kernel
theorem dL_law_1732 : decode cL_law 1732 = .ok (.ifCond .eq 5, 3) := by decide +kernel
theorem dL_law_1672 : decode cL_law 1672 = .ok (.iconst 1, 1) := by decide +kernel
theorem dL_law_1673 : decode cL_law 1673 = .ok (.goto 4, 3) := by decide +kernel
theorem dL_law_1699 : decode cL_law 1699 = .ok (.iconst 1, 1) := by decide +kernel
theorem dL_law_1700 : decode cL_law 1700 = .ok (.goto 4, 3) := by decide +kernel
set_option maxHeartbeats 1000000 in
set_option maxRecDepth 20000 in
theorem law_1656 (l : Launch) (D : va_G) (dA : Nat → ClassId) (hst : l.stackTraces = false) {F : jFin} {n0 : Nat} {hh : List (Nat × Nat × Nat × Nat)} {fr lo : Nat} (hfr : 700 ≤ fr) (hlo : 9000 ≤ lo) (M : jM) (v i k : Nat) (A : cA) (h : lAb M v A A) (hz : zA A) (hi : i + 5 ≤ jSL dA) (hL : jSL dA ≤ 2560) (next : ∀ M1 A1, lAb M1 v A1 A1 → zA A1 → J l D dA RL cL_law wsL_law 9 false (some .boolean) hh fr lo F n0 (400 * k) (13000 * k + 1000 * cL A1) M1 1952 [.retAddr 4, .ref v, .ref (v + 36), .ref (v + 50), .ref (v + 51), .int (nI i), .float 0, .float 0, .float 0] []) : J l D dA RL cL_law wsL_law 9 false (some .boolean) hh fr lo F n0 (400 * (k + 1)) (13000 * (k + 1) + 1000 * cL A) (M) 1656 [.retAddr (4), .ref (v), .ref (v + 36), .ref (v + 50), .ref (v + 51), .int (nI (i)), .float 0, .float 0, .float 0] [] := by
  have h60 : cL A ≤ 60 := h.1.2.2.1.2.2.2.2.2.2.2.2.1
  refine J_aload_n (v) dL_law_1656 rfl rfl ?_
  refine J_aload_ns (4) dL_law_1657 rfl rfl ?_
  refine J_iload dL_law_1658 rfl ?_
  refine J_iconst (x := 1) dL_law_1660 (by decide) ?_
  refine J_iadd dL_law_1661 ?_
  refine J_topi (y := nI (i + 1)) (nI_add (i) (1)) ?_
  refine J_sld (kq := i + 1) dL_law_1662 (by omega) ?_
  refine J_aload_ns (4) dL_law_1663 rfl rfl ?_
  refine J_iload dL_law_1664 rfl ?_
  refine J_iconst (x := 2) dL_law_1666 (by decide) ?_
  refine J_iadd dL_law_1667 ?_
  refine J_topi (y := nI (i + 2)) (nI_add (i) (2)) ?_
  refine J_sld (kq := i + 2) dL_law_1668 (by omega) ?_
  refine J_if_eq dL_law_1669 (tgt := 1676) (by decide) (fun c1669 => ?_) (fun c1669 => ?_)
  · refine J_iconst (x := 0) dL_law_1676 (by decide) ?_
    refine J_aload_n (v + 50) dL_law_1677 rfl rfl ?_
    refine J_calli (jrunSH (As := [.ref (v), .int (jSX dA (i + 1)), .int (0), .ref (v + 50)]) (ct_L_matching l D dA hst M v A h.1 ((jSX dA (i + 1))) false  (v + 50) (show v + 50 < jn M by have := h.1.1.1; omega) h.2.2.1.1 h.2.2.1.2) dL_law_1678 yYH_L_matching gL_law_L_matching rfl ⟨by omega, by omega⟩ ⟨by omega, by omega⟩ rfl (Nat.le_of_ble_eq_true rfl)) ⟨by omega, by omega⟩ (Or.inr ⟨(jOk.fs (jOk.ref (show v < jn M by have := h.1.1.1; omega) (jOk.ref (show v + 36 < jn M by have := h.1.1.1; omega) (jOk.ref (show v + 50 < jn M by have := h.1.1.1; omega) (jOk.ref (show v + 51 < jn M by have := h.1.1.1; omega) (jOk.int (jOk.float (jOk.float (jOk.float jOk.nil))))))))), jOk.nil⟩) (fun E M9 hp _ => by obtain ⟨K, _, _, h9⟩ := hp; rcases h9 with ⟨h9, _⟩ | ⟨_, _, _, _, _, h9, _⟩ <;> exact nomatch h9) (fun x6 M1 hp hle => ?_)
    obtain ⟨hab1, h6, hout⟩ := lPr.i h hp
    refine J_istore (lv' := [.retAddr (4), .ref (v), .ref (v + 36), .ref (v + 50), .ref (v + 51), .int (nI (i)), .int (x6), .float 0, .float 0]) dL_law_1681 (by decide) rfl rfl ?_
    refine J_aload_n (v + 36) dL_law_1683 rfl rfl ?_
    refine J_aload_ns (4) dL_law_1684 rfl rfl ?_
    refine J_iload dL_law_1685 rfl ?_
    refine J_iconst (x := 1) dL_law_1687 (by decide) ?_
    refine J_iadd dL_law_1688 ?_
    refine J_topi (y := nI (i + 1)) (nI_add (i) (1)) ?_
    refine J_sld (kq := i + 1) dL_law_1689 (by omega) ?_
    refine J_aload_ns (4) dL_law_1690 rfl rfl ?_
    refine J_iload dL_law_1691 rfl ?_
    refine J_iconst (x := 2) dL_law_1693 (by decide) ?_
    refine J_iadd dL_law_1694 ?_
    refine J_topi (y := nI (i + 2)) (nI_add (i) (2)) ?_
    refine J_sld (kq := i + 2) dL_law_1695 (by omega) ?_
    refine J_if_eq dL_law_1696 (tgt := 1703) (by decide) (fun c1696 => ?_) (fun c1696 => ?_)
    · refine J_iconst (x := 0) dL_law_1703 (by decide) ?_
      refine J_calli (jrunV (As := [.int (jSX dA (i + 1)), .int (0)]) (ct_X8_matching l D dA hst M1 (v + 36) A hab1.2.1 hz.1 ((jSX dA (i + 1))) false) dL_law_1704 yY_X8_matching gL_law_X8_matching rfl cs11 (show v + 36 < jn M1 by have := hab1.1.1.1; omega) hab1.2.1.1.2.1 rfl ⟨by omega, by omega⟩ ⟨Nat.zero_le _, Nat.zero_le _⟩ rfl (Nat.le_of_ble_eq_true rfl)) ⟨Nat.zero_le _, Nat.zero_le _⟩ (Or.inr ⟨(jOk.fs (jOk.ref (show v < jn M1 by have := hab1.1.1.1; omega) (jOk.ref (show v + 36 < jn M1 by have := hab1.1.1.1; omega) (jOk.ref (show v + 50 < jn M1 by have := hab1.1.1.1; omega) (jOk.ref (show v + 51 < jn M1 by have := hab1.1.1.1; omega) (jOk.int (jOk.int (jOk.float (jOk.float jOk.nil))))))))), jOk.nil⟩) (fun E M9 hp _ => by obtain ⟨_, _, _, u, hu⟩ := hp; exact nomatch hu) (fun x7 M2 hq hle2 => ?_)
      obtain ⟨hq1, hq2, hq3, hq4⟩ := hq
      have hab2 := hab1.mf hq2 hq3
      have hcd : ji M2 (v + 36) 11 = x6 := l_code (by decide +kernel) hq1 hq4 h6
      have hz2 : zA A := hz
      have hcl : True := trivial
      refine J_istore (lv' := [.retAddr (4), .ref (v), .ref (v + 36), .ref (v + 50), .ref (v + 51), .int (nI (i)), .int (x6), .int (x7), .float 0]) dL_law_1707 (by decide) rfl rfl ?_
      refine J_aload_n (v + 36) dL_law_1709 rfl rfl ?_
      refine J_calli0 (jrunV (As := []) (ct_X8_thrown l D dA hst M2 (v + 36) hab2.2.1.1) dL_law_1710 yY_X8_thrown gL_law_X8_thrown rfl cs11 (show v + 36 < jn M2 by have := hab2.1.1.1; omega) hab2.2.1.1.2.1 rfl ⟨by omega, by omega⟩ ⟨Nat.zero_le _, Nat.zero_le _⟩ rfl (Nat.le_of_ble_eq_true rfl)) (rfl) (rfl) ?_
      refine J_topi (y := (x6)) (by exact hcd) ?_
      refine J_iload dL_law_1713 rfl ?_
      refine J_icmp_eq dL_law_1715 (tgt := 1720) (by decide) (fun c1715 => ?_) (fun c1715 => ?_)
      · refine J_iload dL_law_1720 rfl ?_
        refine J_if_ne dL_law_1722 (tgt := 1737) (by decide) (fun c1722 => ?_) (fun c1722 => ?_)
        · refine J_goto (tgt := 1952) dL_law_1737 (by decide) ?_
          refine J_fg 6 (lv' := [.retAddr (4), .ref (v), .ref (v + 36), .ref (v + 50), .ref (v + 51), .int (nI (i)), .float 0, .int (x7), .float 0]) rfl ?_
          refine J_fg 7 (lv' := [.retAddr (4), .ref (v), .ref (v + 36), .ref (v + 50), .ref (v + 51), .int (nI (i)), .float 0, .float 0, .float 0]) rfl ?_
          refine J_less (bc' := 400 * k) (bs' := 13000 * k + 1000 * cL A) (by omega) (by omega) ?_
          exact next _ _ hab2 hz2
        · obtain ⟨y, hy, hjl⟩ := hout c1722
          have hxy := (l_out hq1 ⟨_, hy⟩).2.symm.trans hy
          have hxy : x7 = y := by cases hxy; rfl
          have hv7 : jl M2 (v + 50) 0 = x7.toInt64 := by rw [hq3.2.2.2.2.1, hjl, hxy]
          refine J_aload_n (v + 50) dL_law_1725 rfl rfl ?_
          refine J_iconst (x := 0) dL_law_1726 (by decide) ?_
          refine J_lald (i := (0)) dL_law_1727 (show v + 50 < jn M2 by have := hab2.1.1.1; omega) hab2.2.2.1.1 (by rw [hab2.2.2.1.2]; exact vpin0) ?_
          refine J_iload dL_law_1728 rfl ?_
          refine J_i2l dL_law_1730 ?_
          refine J_lcmp dL_law_1731 ?_
          refine J_if_eq dL_law_1732 (tgt := 1737) (by decide) (fun c1732 => ?_) (fun c1732 => ?_)
          · refine J_goto (tgt := 1952) dL_law_1737 (by decide) ?_
            refine J_fg 6 (lv' := [.retAddr (4), .ref (v), .ref (v + 36), .ref (v + 50), .ref (v + 51), .int (nI (i)), .float 0, .int (x7), .float 0]) rfl ?_
            refine J_fg 7 (lv' := [.retAddr (4), .ref (v), .ref (v + 36), .ref (v + 50), .ref (v + 51), .int (nI (i)), .float 0, .float 0, .float 0]) rfl ?_
            refine J_less (bc' := 400 * k) (bs' := 13000 * k + 1000 * cL A) (by omega) (by omega) ?_
            exact next _ _ hab2 hz2
          · exact absurd (by rw [show jl M2 (v + 50) (Int32.toNatClampNeg 0) = x7.toInt64 from hv7]; exact lg_cmp_self) c1732
      · exact absurd rfl c1715
    · exact absurd c1669 c1696
  · refine J_iconst (x := 1) dL_law_1672 (by decide) ?_
    refine J_goto (tgt := 1677) dL_law_1673 (by decide) ?_
    refine J_aload_n (v + 50) dL_law_1677 rfl rfl ?_
    refine J_calli (jrunSH (As := [.ref (v), .int (jSX dA (i + 1)), .int (1), .ref (v + 50)]) (ct_L_matching l D dA hst M v A h.1 ((jSX dA (i + 1))) true  (v + 50) (show v + 50 < jn M by have := h.1.1.1; omega) h.2.2.1.1 h.2.2.1.2) dL_law_1678 yYH_L_matching gL_law_L_matching rfl ⟨by omega, by omega⟩ ⟨by omega, by omega⟩ rfl (Nat.le_of_ble_eq_true rfl)) ⟨by omega, by omega⟩ (Or.inr ⟨(jOk.fs (jOk.ref (show v < jn M by have := h.1.1.1; omega) (jOk.ref (show v + 36 < jn M by have := h.1.1.1; omega) (jOk.ref (show v + 50 < jn M by have := h.1.1.1; omega) (jOk.ref (show v + 51 < jn M by have := h.1.1.1; omega) (jOk.int (jOk.float (jOk.float (jOk.float jOk.nil))))))))), jOk.nil⟩) (fun E M9 hp _ => by obtain ⟨K, _, _, h9⟩ := hp; rcases h9 with ⟨h9, _⟩ | ⟨_, _, _, _, _, h9, _⟩ <;> exact nomatch h9) (fun x6 M1 hp hle => ?_)
    obtain ⟨hab1, h6, hout⟩ := lPr.i h hp
    refine J_istore (lv' := [.retAddr (4), .ref (v), .ref (v + 36), .ref (v + 50), .ref (v + 51), .int (nI (i)), .int (x6), .float 0, .float 0]) dL_law_1681 (by decide) rfl rfl ?_
    refine J_aload_n (v + 36) dL_law_1683 rfl rfl ?_
    refine J_aload_ns (4) dL_law_1684 rfl rfl ?_
    refine J_iload dL_law_1685 rfl ?_
    refine J_iconst (x := 1) dL_law_1687 (by decide) ?_
    refine J_iadd dL_law_1688 ?_
    refine J_topi (y := nI (i + 1)) (nI_add (i) (1)) ?_
    refine J_sld (kq := i + 1) dL_law_1689 (by omega) ?_
    refine J_aload_ns (4) dL_law_1690 rfl rfl ?_
    refine J_iload dL_law_1691 rfl ?_
    refine J_iconst (x := 2) dL_law_1693 (by decide) ?_
    refine J_iadd dL_law_1694 ?_
    refine J_topi (y := nI (i + 2)) (nI_add (i) (2)) ?_
    refine J_sld (kq := i + 2) dL_law_1695 (by omega) ?_
    refine J_if_eq dL_law_1696 (tgt := 1703) (by decide) (fun c1696 => ?_) (fun c1696 => ?_)
    · exact absurd c1696 c1669
    · refine J_iconst (x := 1) dL_law_1699 (by decide) ?_
      refine J_goto (tgt := 1704) dL_law_1700 (by decide) ?_
      refine J_calli (jrunV (As := [.int (jSX dA (i + 1)), .int (1)]) (ct_X8_matching l D dA hst M1 (v + 36) A hab1.2.1 hz.1 ((jSX dA (i + 1))) true) dL_law_1704 yY_X8_matching gL_law_X8_matching rfl cs11 (show v + 36 < jn M1 by have := hab1.1.1.1; omega) hab1.2.1.1.2.1 rfl ⟨by omega, by omega⟩ ⟨Nat.zero_le _, Nat.zero_le _⟩ rfl (Nat.le_of_ble_eq_true rfl)) ⟨Nat.zero_le _, Nat.zero_le _⟩ (Or.inr ⟨(jOk.fs (jOk.ref (show v < jn M1 by have := hab1.1.1.1; omega) (jOk.ref (show v + 36 < jn M1 by have := hab1.1.1.1; omega) (jOk.ref (show v + 50 < jn M1 by have := hab1.1.1.1; omega) (jOk.ref (show v + 51 < jn M1 by have := hab1.1.1.1; omega) (jOk.int (jOk.int (jOk.float (jOk.float jOk.nil))))))))), jOk.nil⟩) (fun E M9 hp _ => by obtain ⟨_, _, _, u, hu⟩ := hp; exact nomatch hu) (fun x7 M2 hq hle2 => ?_)
      obtain ⟨hq1, hq2, hq3, hq4⟩ := hq
      have hab2 := hab1.mf hq2 hq3
      have hcd : ji M2 (v + 36) 11 = x6 := l_code (by decide +kernel) hq1 hq4 h6
      have hz2 : zA A := hz
      have hcl : True := trivial
      refine J_istore (lv' := [.retAddr (4), .ref (v), .ref (v + 36), .ref (v + 50), .ref (v + 51), .int (nI (i)), .int (x6), .int (x7), .float 0]) dL_law_1707 (by decide) rfl rfl ?_
      refine J_aload_n (v + 36) dL_law_1709 rfl rfl ?_
      refine J_calli0 (jrunV (As := []) (ct_X8_thrown l D dA hst M2 (v + 36) hab2.2.1.1) dL_law_1710 yY_X8_thrown gL_law_X8_thrown rfl cs11 (show v + 36 < jn M2 by have := hab2.1.1.1; omega) hab2.2.1.1.2.1 rfl ⟨by omega, by omega⟩ ⟨Nat.zero_le _, Nat.zero_le _⟩ rfl (Nat.le_of_ble_eq_true rfl)) (rfl) (rfl) ?_
      refine J_topi (y := (x6)) (by exact hcd) ?_
      refine J_iload dL_law_1713 rfl ?_
      refine J_icmp_eq dL_law_1715 (tgt := 1720) (by decide) (fun c1715 => ?_) (fun c1715 => ?_)
      · refine J_iload dL_law_1720 rfl ?_
        refine J_if_ne dL_law_1722 (tgt := 1737) (by decide) (fun c1722 => ?_) (fun c1722 => ?_)
        · refine J_goto (tgt := 1952) dL_law_1737 (by decide) ?_
          refine J_fg 6 (lv' := [.retAddr (4), .ref (v), .ref (v + 36), .ref (v + 50), .ref (v + 51), .int (nI (i)), .float 0, .int (x7), .float 0]) rfl ?_
          refine J_fg 7 (lv' := [.retAddr (4), .ref (v), .ref (v + 36), .ref (v + 50), .ref (v + 51), .int (nI (i)), .float 0, .float 0, .float 0]) rfl ?_
          refine J_less (bc' := 400 * k) (bs' := 13000 * k + 1000 * cL A) (by omega) (by omega) ?_
          exact next _ _ hab2 hz2
        · obtain ⟨y, hy, hjl⟩ := hout c1722
          have hxy := (l_out hq1 ⟨_, hy⟩).2.symm.trans hy
          have hxy : x7 = y := by cases hxy; rfl
          have hv7 : jl M2 (v + 50) 0 = x7.toInt64 := by rw [hq3.2.2.2.2.1, hjl, hxy]
          refine J_aload_n (v + 50) dL_law_1725 rfl rfl ?_
          refine J_iconst (x := 0) dL_law_1726 (by decide) ?_
          refine J_lald (i := (0)) dL_law_1727 (show v + 50 < jn M2 by have := hab2.1.1.1; omega) hab2.2.2.1.1 (by rw [hab2.2.2.1.2]; exact vpin0) ?_
          refine J_iload dL_law_1728 rfl ?_
          refine J_i2l dL_law_1730 ?_
          refine J_lcmp dL_law_1731 ?_
          refine J_if_eq dL_law_1732 (tgt := 1737) (by decide) (fun c1732 => ?_) (fun c1732 => ?_)
          · refine J_goto (tgt := 1952) dL_law_1737 (by decide) ?_
            refine J_fg 6 (lv' := [.retAddr (4), .ref (v), .ref (v + 36), .ref (v + 50), .ref (v + 51), .int (nI (i)), .float 0, .int (x7), .float 0]) rfl ?_
            refine J_fg 7 (lv' := [.retAddr (4), .ref (v), .ref (v + 36), .ref (v + 50), .ref (v + 51), .int (nI (i)), .float 0, .float 0, .float 0]) rfl ?_
            refine J_less (bc' := 400 * k) (bs' := 13000 * k + 1000 * cL A) (by omega) (by omega) ?_
            exact next _ _ hab2 hz2
          · exact absurd (by rw [show jl M2 (v + 50) (Int32.toNatClampNeg 0) = x7.toInt64 from hv7]; exact lg_cmp_self) c1732
      · exact absurd rfl c1715

