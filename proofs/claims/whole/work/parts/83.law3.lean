theorem dL_law_606 : decode cL_law 606 = .ok (.aload_n 1, 1) := by decide +kernel
theorem dL_law_607 : decode cL_law 607 = .ok (.aload_n 0, 1) := by decide +kernel
theorem dL_law_608 : decode cL_law 608 = .ok (.iload 5, 2) := by decide +kernel
theorem dL_law_610 : decode cL_law 610 = .ok (.iconst 1, 1) := by decide +kernel
theorem dL_law_611 : decode cL_law 611 = .ok (.iadd, 1) := by decide +kernel
theorem dL_law_612 : decode cL_law 612 = .ok (.iaload, 1) := by decide +kernel
theorem dL_law_613 : decode cL_law 613 = .ok (.aload_n 0, 1) := by decide +kernel
theorem dL_law_614 : decode cL_law 614 = .ok (.iload 5, 2) := by decide +kernel
theorem dL_law_616 : decode cL_law 616 = .ok (.iconst 2, 1) := by decide +kernel
theorem dL_law_617 : decode cL_law 617 = .ok (.iadd, 1) := by decide +kernel
theorem dL_law_618 : decode cL_law 618 = .ok (.iaload, 1) := by decide +kernel
theorem dL_law_619 : decode cL_law 619 = .ok (.aload_n 0, 1) := by decide +kernel
theorem dL_law_620 : decode cL_law 620 = .ok (.iload 5, 2) := by decide +kernel
theorem dL_law_622 : decode cL_law 622 = .ok (.iconst 3, 1) := by decide +kernel
theorem dL_law_623 : decode cL_law 623 = .ok (.iadd, 1) := by decide +kernel
theorem dL_law_624 : decode cL_law 624 = .ok (.iaload, 1) := by decide +kernel
theorem dL_law_625 : decode cL_law 625 = .ok (.ifCond .eq 7, 3) := by decide +kernel
theorem dL_law_632 : decode cL_law 632 = .ok (.iconst 0, 1) := by decide +kernel
theorem dL_law_633 : decode cL_law 633 = .ok (.aload_n 3, 1) := by decide +kernel
theorem dL_law_634 : decode cL_law 634 = .ok (.invokestatic 152, 3) := by decide +kernel
set_option maxRecDepth 20000 in
theorem ggL_law_L_end : GoodIn wsL_law wsL_end := goodIn_ca (goodIn_ca (goodIn_ca (goodIn_r _ [647, 117, 626, 648, 649, 650, 2, 651, 635, 636, 631, 632, 633, 634, 23, 127, 128, 129, 130, 131, 599, 505, 506, 22, 507, 38, 333, 235, 236, 157, 237, 165, 652, 252, 253, 254, 234, 653, 248, 249, 250, 1318, 1319, 1320, 1321, 1322, 1323, 1324, 1325, 1326, 1327, 1359, 1360, 1361, 1386] (by decide +kernel) (by decide +kernel)) (goodIn_sub (fun _ h => List.mem_append_left _ (List.mem_append_left _ (List.mem_append_left _ (List.mem_append_left _ (List.mem_append_left _ (List.mem_append_left _ (List.mem_append_left _ (List.mem_append_right _ h)))))))) (by decide +kernel))) (goodIn_sub (fun _ h => List.mem_append_left _ (List.mem_append_right _ h)) (by decide +kernel))) (goodIn_sub (fun _ h => List.mem_append_left _ (List.mem_append_left _ (List.mem_append_left _ (List.mem_append_left _ (List.mem_append_left _ (List.mem_append_right _ h)))))) (by decide +kernel))
set_option maxRecDepth 20000 in
theorem gL_law_L_end : GoodIn wsL_law (va_wsS RL 152 yL_end wsL_end) := goodIn_app (goodIn_of _ (by decide +kernel)) ggL_law_L_end
theorem yYH_L_end : jYH yL_end wsL_end cL_end 6 (some .int) [(0, 12, 15, 19), (0, 12, 19, 43)] 5 := ⟨⟨_, rfl⟩, by decide +kernel, by decide +kernel, by decide +kernel⟩
theorem dL_law_637 : decode cL_law 637 = .ok (.istore 6, 2) := by decide +kernel
theorem dL_law_639 : decode cL_law 639 = .ok (.aload_n 2, 1) := by decide +kernel
theorem dL_law_640 : decode cL_law 640 = .ok (.aload_n 0, 1) := by decide +kernel
theorem dL_law_641 : decode cL_law 641 = .ok (.iload 5, 2) := by decide +kernel
theorem dL_law_643 : decode cL_law 643 = .ok (.iconst 1, 1) := by decide +kernel
theorem dL_law_644 : decode cL_law 644 = .ok (.iadd, 1) := by decide +kernel
theorem dL_law_645 : decode cL_law 645 = .ok (.iaload, 1) := by decide +kernel
theorem dL_law_646 : decode cL_law 646 = .ok (.aload_n 0, 1) := by decide +kernel
theorem dL_law_647 : decode cL_law 647 = .ok (.iload 5, 2) := by decide +kernel
theorem dL_law_649 : decode cL_law 649 = .ok (.iconst 2, 1) := by decide +kernel
theorem dL_law_650 : decode cL_law 650 = .ok (.iadd, 1) := by decide +kernel
theorem dL_law_651 : decode cL_law 651 = .ok (.iaload, 1) := by decide +kernel
theorem dL_law_652 : decode cL_law 652 = .ok (.aload_n 0, 1) := by decide +kernel
theorem dL_law_653 : decode cL_law 653 = .ok (.iload 5, 2) := by decide +kernel
theorem dL_law_655 : decode cL_law 655 = .ok (.iconst 3, 1) := by decide +kernel
theorem dL_law_656 : decode cL_law 656 = .ok (.iadd, 1) := by decide +kernel
theorem dL_law_657 : decode cL_law 657 = .ok (.iaload, 1) := by decide +kernel
theorem dL_law_658 : decode cL_law 658 = .ok (.ifCond .eq 7, 3) := by decide +kernel
theorem dL_law_665 : decode cL_law 665 = .ok (.iconst 0, 1) := by decide +kernel
theorem dL_law_666 : decode cL_law 666 = .ok (.invokevirtual 155, 3) := by decide +kernel
set_option maxRecDepth 20000 in
theorem ggL_law_X8_end : GoodIn wsL_law wsX8_end := goodIn_ca (goodIn_r _ [657, 74, 641, 642, 643, 5, 644, 342, 343, 344, 553, 554, 555, 556, 105, 106, 107, 108, 109, 1328, 1329, 1330, 1331, 1332, 1333, 1334, 1335, 1336, 1337, 1338, 1339, 1340, 1341, 1342, 1343, 1344, 1345, 1346, 1347, 1348, 1349, 1350, 1351, 1352, 1353, 1354, 1355, 1356, 1357, 1358] (by decide +kernel) (by decide +kernel)) (goodIn_sub (fun _ h => List.mem_append_left _ (List.mem_append_left _ (List.mem_append_left _ (List.mem_append_left _ (List.mem_append_left _ (List.mem_append_left _ (List.mem_append_left _ (List.mem_append_right _ h)))))))) (by decide +kernel))
set_option maxRecDepth 20000 in
theorem gL_law_X8_end : GoodIn wsL_law (wsV RL 155 RX8 yX8_end wsX8_end) := goodIn_app (goodIn_of _ (by decide +kernel)) ggL_law_X8_end
theorem yY_X8_end : jY yX8_end wsX8_end cX8_end 4 (some .int) 3 := ⟨⟨_, rfl⟩, by decide +kernel, by decide +kernel, by decide +kernel⟩
theorem dL_law_669 : decode cL_law 669 = .ok (.istore 7, 2) := by decide +kernel
theorem dL_law_671 : decode cL_law 671 = .ok (.aload_n 2, 1) := by decide +kernel
theorem dL_law_672 : decode cL_law 672 = .ok (.invokevirtual 124, 3) := by decide +kernel
theorem dL_law_675 : decode cL_law 675 = .ok (.iload 6, 2) := by decide +kernel
theorem dL_law_677 : decode cL_law 677 = .ok (.if_icmp .eq 5, 3) := by decide +kernel
theorem dL_law_682 : decode cL_law 682 = .ok (.iload 6, 2) := by decide +kernel
theorem dL_law_684 : decode cL_law 684 = .ok (.ifCond .ne 15, 3) := by decide +kernel
theorem dL_law_699 : decode cL_law 699 = .ok (.goto 1253, 3) := by decide +kernel
theorem dL_law_687 : decode cL_law 687 = .ok (.aload_n 3, 1) := by decide +kernel
theorem dL_law_688 : decode cL_law 688 = .ok (.iconst 0, 1) := by decide +kernel
theorem dL_law_689 : decode cL_law 689 = .ok (.laload, 1) := by decide +kernel
theorem dL_law_690 : decode cL_law 690 = .ok (.iload 7, 2) := by decide +kernel
theorem dL_law_692 : decode cL_law 692 = .ok (.i2l, 1) := by decide +kernel
theorem dL_law_693 : decode cL_law 693 = .ok (.lcmp, 1) := by decide +kernel
theorem dL_law_694 : decode cL_law 694 = .ok (.ifCond .eq 5, 3) := by decide +kernel
theorem dL_law_628 : decode cL_law 628 = .ok (.iconst 1, 1) := by decide +kernel
theorem dL_law_629 : decode cL_law 629 = .ok (.goto 4, 3) := by decide +kernel
theorem dL_law_661 : decode cL_law 661 = .ok (.iconst 1, 1) := by decide +kernel
theorem dL_law_662 : decode cL_law 662 = .ok (.goto 4, 3) := by decide +kernel
set_option maxHeartbeats 1000000 in
set_option maxRecDepth 20000 in
theorem law_606 (l : Launch) (D : va_G) (dA : Nat → ClassId) (hst : l.stackTraces = false) {F : jFin} {n0 : Nat} {hh : List (Nat × Nat × Nat × Nat)} {fr lo : Nat} (hfr : 700 ≤ fr) (hlo : 9000 ≤ lo) (M : jM) (v i k : Nat) (A : cA) (h : lAb M v A A) (hz : zA A) (hi : i + 5 ≤ jSL dA) (hL : jSL dA ≤ 2560) (next : ∀ M1 A1, lAb M1 v A1 A1 → zA A1 → J l D dA RL cL_law wsL_law 9 false (some .boolean) hh fr lo F n0 (400 * k) (13000 * k + 1000 * cL A1) M1 1952 [.retAddr 4, .ref v, .ref (v + 36), .ref (v + 50), .ref (v + 51), .int (nI i), .float 0, .float 0, .float 0] []) : J l D dA RL cL_law wsL_law 9 false (some .boolean) hh fr lo F n0 (400 * (k + 1)) (13000 * (k + 1) + 1000 * cL A) (M) 606 [.retAddr (4), .ref (v), .ref (v + 36), .ref (v + 50), .ref (v + 51), .int (nI (i)), .float 0, .float 0, .float 0] [] := by
  have h60 : cL A ≤ 60 := h.1.2.2.1.2.2.2.2.2.2.2.2.1
  refine J_aload_n (v) dL_law_606 rfl rfl ?_
  refine J_aload_ns (4) dL_law_607 rfl rfl ?_
  refine J_iload dL_law_608 rfl ?_
  refine J_iconst (x := 1) dL_law_610 (by decide) ?_
  refine J_iadd dL_law_611 ?_
  refine J_topi (y := nI (i + 1)) (nI_add (i) (1)) ?_
  refine J_sld (kq := i + 1) dL_law_612 (by omega) ?_
  refine J_aload_ns (4) dL_law_613 rfl rfl ?_
  refine J_iload dL_law_614 rfl ?_
  refine J_iconst (x := 2) dL_law_616 (by decide) ?_
  refine J_iadd dL_law_617 ?_
  refine J_topi (y := nI (i + 2)) (nI_add (i) (2)) ?_
  refine J_sld (kq := i + 2) dL_law_618 (by omega) ?_
  refine J_aload_ns (4) dL_law_619 rfl rfl ?_
  refine J_iload dL_law_620 rfl ?_
  refine J_iconst (x := 3) dL_law_622 (by decide) ?_
  refine J_iadd dL_law_623 ?_
  refine J_topi (y := nI (i + 3)) (nI_add (i) (3)) ?_
  refine J_sld (kq := i + 3) dL_law_624 (by omega) ?_
  refine J_if_eq dL_law_625 (tgt := 632) (by decide) (fun c625 => ?_) (fun c625 => ?_)
  · refine J_iconst (x := 0) dL_law_632 (by decide) ?_
    refine J_aload_n (v + 50) dL_law_633 rfl rfl ?_
    refine J_calli (jrunSH (As := [.ref (v), .int (jSX dA (i + 1)), .int (jSX dA (i + 2)), .int (0), .ref (v + 50)]) (ct_L_end l D dA hst M v A h.1 ((jSX dA (i + 1))) ((jSX dA (i + 2))) false  (v + 50) (show v + 50 < jn M by have := h.1.1.1; omega) h.2.2.1.1 h.2.2.1.2) dL_law_634 yYH_L_end gL_law_L_end rfl ⟨by omega, by omega⟩ ⟨by omega, by omega⟩ rfl (Nat.le_of_ble_eq_true rfl)) ⟨by omega, by omega⟩ (Or.inr ⟨(jOk.fs (jOk.ref (show v < jn M by have := h.1.1.1; omega) (jOk.ref (show v + 36 < jn M by have := h.1.1.1; omega) (jOk.ref (show v + 50 < jn M by have := h.1.1.1; omega) (jOk.ref (show v + 51 < jn M by have := h.1.1.1; omega) (jOk.int (jOk.float (jOk.float (jOk.float jOk.nil))))))))), jOk.nil⟩) (fun E M9 hp _ => by obtain ⟨K, _, _, h9⟩ := hp; rcases h9 with ⟨h9, _⟩ | ⟨_, _, _, _, _, h9, _⟩ <;> exact nomatch h9) (fun x6 M1 hp hle => ?_)
    obtain ⟨hab1, h6, hout⟩ := lPr.i h hp
    refine J_istore (lv' := [.retAddr (4), .ref (v), .ref (v + 36), .ref (v + 50), .ref (v + 51), .int (nI (i)), .int (x6), .float 0, .float 0]) dL_law_637 (by decide) rfl rfl ?_
    refine J_aload_n (v + 36) dL_law_639 rfl rfl ?_
    refine J_aload_ns (4) dL_law_640 rfl rfl ?_
    refine J_iload dL_law_641 rfl ?_
    refine J_iconst (x := 1) dL_law_643 (by decide) ?_
    refine J_iadd dL_law_644 ?_
    refine J_topi (y := nI (i + 1)) (nI_add (i) (1)) ?_
    refine J_sld (kq := i + 1) dL_law_645 (by omega) ?_
    refine J_aload_ns (4) dL_law_646 rfl rfl ?_
    refine J_iload dL_law_647 rfl ?_
    refine J_iconst (x := 2) dL_law_649 (by decide) ?_
    refine J_iadd dL_law_650 ?_
    refine J_topi (y := nI (i + 2)) (nI_add (i) (2)) ?_
    refine J_sld (kq := i + 2) dL_law_651 (by omega) ?_
    refine J_aload_ns (4) dL_law_652 rfl rfl ?_
    refine J_iload dL_law_653 rfl ?_
    refine J_iconst (x := 3) dL_law_655 (by decide) ?_
    refine J_iadd dL_law_656 ?_
    refine J_topi (y := nI (i + 3)) (nI_add (i) (3)) ?_
    refine J_sld (kq := i + 3) dL_law_657 (by omega) ?_
    refine J_if_eq dL_law_658 (tgt := 665) (by decide) (fun c658 => ?_) (fun c658 => ?_)
    · refine J_iconst (x := 0) dL_law_665 (by decide) ?_
      refine J_calli (jrunV (As := [.int (jSX dA (i + 1)), .int (jSX dA (i + 2)), .int (0)]) (ct_X8_end l D dA hst M1 (v + 36) A hab1.2.1 hz.1 ((jSX dA (i + 1))) ((jSX dA (i + 2))) false) dL_law_666 yY_X8_end gL_law_X8_end rfl cs11 (show v + 36 < jn M1 by have := hab1.1.1.1; omega) hab1.2.1.1.2.1 rfl ⟨by omega, by omega⟩ ⟨Nat.zero_le _, Nat.zero_le _⟩ rfl (Nat.le_of_ble_eq_true rfl)) ⟨Nat.zero_le _, Nat.zero_le _⟩ (Or.inr ⟨(jOk.fs (jOk.ref (show v < jn M1 by have := hab1.1.1.1; omega) (jOk.ref (show v + 36 < jn M1 by have := hab1.1.1.1; omega) (jOk.ref (show v + 50 < jn M1 by have := hab1.1.1.1; omega) (jOk.ref (show v + 51 < jn M1 by have := hab1.1.1.1; omega) (jOk.int (jOk.int (jOk.float (jOk.float jOk.nil))))))))), jOk.nil⟩) (fun E M9 hp _ => by obtain ⟨_, _, _, u, hu⟩ := hp; exact nomatch hu) (fun x7 M2 hq hle2 => ?_)
      obtain ⟨hq1, hq2, hq3, hq4⟩ := hq
      have hab2 := hab1.mf hq2 hq3
      have hcd : ji M2 (v + 36) 11 = x6 := l_code (by decide +kernel) hq1 hq4 h6
      have hz2 : zA A := hz
      have hcl : True := trivial
      refine J_istore (lv' := [.retAddr (4), .ref (v), .ref (v + 36), .ref (v + 50), .ref (v + 51), .int (nI (i)), .int (x6), .int (x7), .float 0]) dL_law_669 (by decide) rfl rfl ?_
      refine J_aload_n (v + 36) dL_law_671 rfl rfl ?_
      refine J_calli0 (jrunV (As := []) (ct_X8_thrown l D dA hst M2 (v + 36) hab2.2.1.1) dL_law_672 yY_X8_thrown gL_law_X8_thrown rfl cs11 (show v + 36 < jn M2 by have := hab2.1.1.1; omega) hab2.2.1.1.2.1 rfl ⟨by omega, by omega⟩ ⟨Nat.zero_le _, Nat.zero_le _⟩ rfl (Nat.le_of_ble_eq_true rfl)) (rfl) (rfl) ?_
      refine J_topi (y := (x6)) (by exact hcd) ?_
      refine J_iload dL_law_675 rfl ?_
      refine J_icmp_eq dL_law_677 (tgt := 682) (by decide) (fun c677 => ?_) (fun c677 => ?_)
      · refine J_iload dL_law_682 rfl ?_
        refine J_if_ne dL_law_684 (tgt := 699) (by decide) (fun c684 => ?_) (fun c684 => ?_)
        · refine J_goto (tgt := 1952) dL_law_699 (by decide) ?_
          refine J_fg 6 (lv' := [.retAddr (4), .ref (v), .ref (v + 36), .ref (v + 50), .ref (v + 51), .int (nI (i)), .float 0, .int (x7), .float 0]) rfl ?_
          refine J_fg 7 (lv' := [.retAddr (4), .ref (v), .ref (v + 36), .ref (v + 50), .ref (v + 51), .int (nI (i)), .float 0, .float 0, .float 0]) rfl ?_
          refine J_less (bc' := 400 * k) (bs' := 13000 * k + 1000 * cL A) (by omega) (by omega) ?_
          exact next _ _ hab2 hz2
        · obtain ⟨y, hy, hjl⟩ := hout c684
          have hxy := (l_out hq1 ⟨_, hy⟩).2.symm.trans hy
          have hxy : x7 = y := by cases hxy; rfl
          have hv7 : jl M2 (v + 50) 0 = x7.toInt64 := by rw [hq3.2.2.2.2.1, hjl, hxy]
          refine J_aload_n (v + 50) dL_law_687 rfl rfl ?_
          refine J_iconst (x := 0) dL_law_688 (by decide) ?_
          refine J_lald (i := (0)) dL_law_689 (show v + 50 < jn M2 by have := hab2.1.1.1; omega) hab2.2.2.1.1 (by rw [hab2.2.2.1.2]; exact vpin0) ?_
          refine J_iload dL_law_690 rfl ?_
          refine J_i2l dL_law_692 ?_
          refine J_lcmp dL_law_693 ?_
          refine J_if_eq dL_law_694 (tgt := 699) (by decide) (fun c694 => ?_) (fun c694 => ?_)
          · refine J_goto (tgt := 1952) dL_law_699 (by decide) ?_
            refine J_fg 6 (lv' := [.retAddr (4), .ref (v), .ref (v + 36), .ref (v + 50), .ref (v + 51), .int (nI (i)), .float 0, .int (x7), .float 0]) rfl ?_
            refine J_fg 7 (lv' := [.retAddr (4), .ref (v), .ref (v + 36), .ref (v + 50), .ref (v + 51), .int (nI (i)), .float 0, .float 0, .float 0]) rfl ?_
            refine J_less (bc' := 400 * k) (bs' := 13000 * k + 1000 * cL A) (by omega) (by omega) ?_
            exact next _ _ hab2 hz2
          · exact absurd (by rw [show jl M2 (v + 50) (Int32.toNatClampNeg 0) = x7.toInt64 from hv7]; exact lg_cmp_self) c694
      · exact absurd rfl c677
    · exact absurd c625 c658
  · refine J_iconst (x := 1) dL_law_628 (by decide) ?_
    refine J_goto (tgt := 633) dL_law_629 (by decide) ?_
    refine J_aload_n (v + 50) dL_law_633 rfl rfl ?_
    refine J_calli (jrunSH (As := [.ref (v), .int (jSX dA (i + 1)), .int (jSX dA (i + 2)), .int (1), .ref (v + 50)]) (ct_L_end l D dA hst M v A h.1 ((jSX dA (i + 1))) ((jSX dA (i + 2))) true  (v + 50) (show v + 50 < jn M by have := h.1.1.1; omega) h.2.2.1.1 h.2.2.1.2) dL_law_634 yYH_L_end gL_law_L_end rfl ⟨by omega, by omega⟩ ⟨by omega, by omega⟩ rfl (Nat.le_of_ble_eq_true rfl)) ⟨by omega, by omega⟩ (Or.inr ⟨(jOk.fs (jOk.ref (show v < jn M by have := h.1.1.1; omega) (jOk.ref (show v + 36 < jn M by have := h.1.1.1; omega) (jOk.ref (show v + 50 < jn M by have := h.1.1.1; omega) (jOk.ref (show v + 51 < jn M by have := h.1.1.1; omega) (jOk.int (jOk.float (jOk.float (jOk.float jOk.nil))))))))), jOk.nil⟩) (fun E M9 hp _ => by obtain ⟨K, _, _, h9⟩ := hp; rcases h9 with ⟨h9, _⟩ | ⟨_, _, _, _, _, h9, _⟩ <;> exact nomatch h9) (fun x6 M1 hp hle => ?_)
    obtain ⟨hab1, h6, hout⟩ := lPr.i h hp
    refine J_istore (lv' := [.retAddr (4), .ref (v), .ref (v + 36), .ref (v + 50), .ref (v + 51), .int (nI (i)), .int (x6), .float 0, .float 0]) dL_law_637 (by decide) rfl rfl ?_
    refine J_aload_n (v + 36) dL_law_639 rfl rfl ?_
    refine J_aload_ns (4) dL_law_640 rfl rfl ?_
    refine J_iload dL_law_641 rfl ?_
    refine J_iconst (x := 1) dL_law_643 (by decide) ?_
    refine J_iadd dL_law_644 ?_
    refine J_topi (y := nI (i + 1)) (nI_add (i) (1)) ?_
    refine J_sld (kq := i + 1) dL_law_645 (by omega) ?_
    refine J_aload_ns (4) dL_law_646 rfl rfl ?_
    refine J_iload dL_law_647 rfl ?_
    refine J_iconst (x := 2) dL_law_649 (by decide) ?_
    refine J_iadd dL_law_650 ?_
    refine J_topi (y := nI (i + 2)) (nI_add (i) (2)) ?_
    refine J_sld (kq := i + 2) dL_law_651 (by omega) ?_
    refine J_aload_ns (4) dL_law_652 rfl rfl ?_
    refine J_iload dL_law_653 rfl ?_
    refine J_iconst (x := 3) dL_law_655 (by decide) ?_
    refine J_iadd dL_law_656 ?_
    refine J_topi (y := nI (i + 3)) (nI_add (i) (3)) ?_
    refine J_sld (kq := i + 3) dL_law_657 (by omega) ?_
    refine J_if_eq dL_law_658 (tgt := 665) (by decide) (fun c658 => ?_) (fun c658 => ?_)
    · exact absurd c658 c625
    · refine J_iconst (x := 1) dL_law_661 (by decide) ?_
      refine J_goto (tgt := 666) dL_law_662 (by decide) ?_
      refine J_calli (jrunV (As := [.int (jSX dA (i + 1)), .int (jSX dA (i + 2)), .int (1)]) (ct_X8_end l D dA hst M1 (v + 36) A hab1.2.1 hz.1 ((jSX dA (i + 1))) ((jSX dA (i + 2))) true) dL_law_666 yY_X8_end gL_law_X8_end rfl cs11 (show v + 36 < jn M1 by have := hab1.1.1.1; omega) hab1.2.1.1.2.1 rfl ⟨by omega, by omega⟩ ⟨Nat.zero_le _, Nat.zero_le _⟩ rfl (Nat.le_of_ble_eq_true rfl)) ⟨Nat.zero_le _, Nat.zero_le _⟩ (Or.inr ⟨(jOk.fs (jOk.ref (show v < jn M1 by have := hab1.1.1.1; omega) (jOk.ref (show v + 36 < jn M1 by have := hab1.1.1.1; omega) (jOk.ref (show v + 50 < jn M1 by have := hab1.1.1.1; omega) (jOk.ref (show v + 51 < jn M1 by have := hab1.1.1.1; omega) (jOk.int (jOk.int (jOk.float (jOk.float jOk.nil))))))))), jOk.nil⟩) (fun E M9 hp _ => by obtain ⟨_, _, _, u, hu⟩ := hp; exact nomatch hu) (fun x7 M2 hq hle2 => ?_)
      obtain ⟨hq1, hq2, hq3, hq4⟩ := hq
      have hab2 := hab1.mf hq2 hq3
      have hcd : ji M2 (v + 36) 11 = x6 := l_code (by decide +kernel) hq1 hq4 h6
      have hz2 : zA A := hz
      have hcl : True := trivial
      refine J_istore (lv' := [.retAddr (4), .ref (v), .ref (v + 36), .ref (v + 50), .ref (v + 51), .int (nI (i)), .int (x6), .int (x7), .float 0]) dL_law_669 (by decide) rfl rfl ?_
      refine J_aload_n (v + 36) dL_law_671 rfl rfl ?_
      refine J_calli0 (jrunV (As := []) (ct_X8_thrown l D dA hst M2 (v + 36) hab2.2.1.1) dL_law_672 yY_X8_thrown gL_law_X8_thrown rfl cs11 (show v + 36 < jn M2 by have := hab2.1.1.1; omega) hab2.2.1.1.2.1 rfl ⟨by omega, by omega⟩ ⟨Nat.zero_le _, Nat.zero_le _⟩ rfl (Nat.le_of_ble_eq_true rfl)) (rfl) (rfl) ?_
      refine J_topi (y := (x6)) (by exact hcd) ?_
      refine J_iload dL_law_675 rfl ?_
      refine J_icmp_eq dL_law_677 (tgt := 682) (by decide) (fun c677 => ?_) (fun c677 => ?_)
      · refine J_iload dL_law_682 rfl ?_
        refine J_if_ne dL_law_684 (tgt := 699) (by decide) (fun c684 => ?_) (fun c684 => ?_)
        · refine J_goto (tgt := 1952) dL_law_699 (by decide) ?_
          refine J_fg 6 (lv' := [.retAddr (4), .ref (v), .ref (v + 36), .ref (v + 50), .ref (v + 51), .int (nI (i)), .float 0, .int (x7), .float 0]) rfl ?_
          refine J_fg 7 (lv' := [.retAddr (4), .ref (v), .ref (v + 36), .ref (v + 50), .ref (v + 51), .int (nI (i)), .float 0, .float 0, .float 0]) rfl ?_
          refine J_less (bc' := 400 * k) (bs' := 13000 * k + 1000 * cL A) (by omega) (by omega) ?_
          exact next _ _ hab2 hz2
        · obtain ⟨y, hy, hjl⟩ := hout c684
          have hxy := (l_out hq1 ⟨_, hy⟩).2.symm.trans hy
          have hxy : x7 = y := by cases hxy; rfl
          have hv7 : jl M2 (v + 50) 0 = x7.toInt64 := by rw [hq3.2.2.2.2.1, hjl, hxy]
          refine J_aload_n (v + 50) dL_law_687 rfl rfl ?_
          refine J_iconst (x := 0) dL_law_688 (by decide) ?_
          refine J_lald (i := (0)) dL_law_689 (show v + 50 < jn M2 by have := hab2.1.1.1; omega) hab2.2.2.1.1 (by rw [hab2.2.2.1.2]; exact vpin0) ?_
          refine J_iload dL_law_690 rfl ?_
          refine J_i2l dL_law_692 ?_
          refine J_lcmp dL_law_693 ?_
          refine J_if_eq dL_law_694 (tgt := 699) (by decide) (fun c694 => ?_) (fun c694 => ?_)
          · refine J_goto (tgt := 1952) dL_law_699 (by decide) ?_
            refine J_fg 6 (lv' := [.retAddr (4), .ref (v), .ref (v + 36), .ref (v + 50), .ref (v + 51), .int (nI (i)), .float 0, .int (x7), .float 0]) rfl ?_
            refine J_fg 7 (lv' := [.retAddr (4), .ref (v), .ref (v + 36), .ref (v + 50), .ref (v + 51), .int (nI (i)), .float 0, .float 0, .float 0]) rfl ?_
            refine J_less (bc' := 400 * k) (bs' := 13000 * k + 1000 * cL A) (by omega) (by omega) ?_
            exact next _ _ hab2 hz2
          · exact absurd (by rw [show jl M2 (v + 50) (Int32.toNatClampNeg 0) = x7.toInt64 from hv7]; exact lg_cmp_self) c694
      · exact absurd rfl c677

theorem dL_law_702 : decode cL_law 702 = .ok (.aload_n 1, 1) := by decide +kernel
theorem dL_law_703 : decode cL_law 703 = .ok (.aload_n 0, 1) := by decide +kernel
theorem dL_law_704 : decode cL_law 704 = .ok (.iload 5, 2) := by decide +kernel
theorem dL_law_706 : decode cL_law 706 = .ok (.iconst 1, 1) := by decide +kernel
theorem dL_law_707 : decode cL_law 707 = .ok (.iadd, 1) := by decide +kernel
theorem dL_law_708 : decode cL_law 708 = .ok (.iaload, 1) := by decide +kernel
theorem dL_law_709 : decode cL_law 709 = .ok (.aload_n 3, 1) := by decide +kernel
theorem dL_law_710 : decode cL_law 710 = .ok (.invokestatic 156, 3) := by decide +kernel
set_option maxRecDepth 20000 in
theorem ggL_law_L_size : GoodIn wsL_law wsL_size := goodIn_ca (goodIn_ca (goodIn_ca (goodIn_r _ [660, 117, 626, 661, 662, 663, 2, 664, 631, 632, 633, 634, 635, 636, 23, 127, 128, 129, 130, 131, 599, 505, 506, 22, 507, 38, 665, 666, 667, 157, 668, 234, 235, 236, 237, 165, 251, 252, 253, 254, 247, 248, 249, 250, 1318, 1319, 1320, 1321, 1322, 1323, 1324, 1325, 1326, 1327, 1359, 1360, 1361, 1386] (by decide +kernel) (by decide +kernel)) (goodIn_sub (fun _ h => List.mem_append_left _ (List.mem_append_left _ (List.mem_append_left _ (List.mem_append_left _ (List.mem_append_left _ (List.mem_append_left _ (List.mem_append_left _ (List.mem_append_right _ h)))))))) (by decide +kernel))) (goodIn_sub (fun _ h => List.mem_append_left _ (List.mem_append_right _ h)) (by decide +kernel))) (goodIn_sub (fun _ h => List.mem_append_left _ (List.mem_append_left _ (List.mem_append_left _ (List.mem_append_left _ (List.mem_append_left _ (List.mem_append_right _ h)))))) (by decide +kernel))
set_option maxRecDepth 20000 in
theorem gL_law_L_size : GoodIn wsL_law (va_wsS RL 156 yL_size wsL_size) := goodIn_app (goodIn_of _ (by decide +kernel)) ggL_law_L_size
theorem yYH_L_size : jYH yL_size wsL_size cL_size 4 (some .int) [(0, 9, 12, 19), (0, 9, 15, 43)] 3 := ⟨⟨_, rfl⟩, by decide +kernel, by decide +kernel, by decide +kernel⟩
theorem dL_law_713 : decode cL_law 713 = .ok (.istore 6, 2) := by decide +kernel
theorem dL_law_715 : decode cL_law 715 = .ok (.aload_n 2, 1) := by decide +kernel
theorem dL_law_716 : decode cL_law 716 = .ok (.aload_n 0, 1) := by decide +kernel
theorem dL_law_717 : decode cL_law 717 = .ok (.iload 5, 2) := by decide +kernel
theorem dL_law_719 : decode cL_law 719 = .ok (.iconst 1, 1) := by decide +kernel
theorem dL_law_720 : decode cL_law 720 = .ok (.iadd, 1) := by decide +kernel
theorem dL_law_721 : decode cL_law 721 = .ok (.iaload, 1) := by decide +kernel
theorem dL_law_722 : decode cL_law 722 = .ok (.invokevirtual 158, 3) := by decide +kernel
set_option maxRecDepth 20000 in
theorem ggL_law_X8_size : GoodIn wsL_law wsX8_size := goodIn_ca (goodIn_r _ [672, 74, 641, 642, 643, 5, 644, 342, 343, 344, 553, 554, 555, 556, 105, 106, 107, 108, 109, 1328, 1329, 1330, 1331, 1332, 1333, 1334, 1335, 1336, 1337, 1338, 1339, 1340, 1341, 1342, 1343, 1344, 1345, 1346, 1347, 1348, 1349, 1350, 1351, 1352, 1353, 1354, 1355, 1356, 1357, 1358] (by decide +kernel) (by decide +kernel)) (goodIn_sub (fun _ h => List.mem_append_left _ (List.mem_append_left _ (List.mem_append_left _ (List.mem_append_left _ (List.mem_append_left _ (List.mem_append_left _ (List.mem_append_left _ (List.mem_append_right _ h)))))))) (by decide +kernel))
set_option maxRecDepth 20000 in
theorem gL_law_X8_size : GoodIn wsL_law (wsV RL 158 RX8 yX8_size wsX8_size) := goodIn_app (goodIn_of _ (by decide +kernel)) ggL_law_X8_size
theorem yY_X8_size : jY yX8_size wsX8_size cX8_size 4 (some .int) 1 := ⟨⟨_, rfl⟩, by decide +kernel, by decide +kernel, by decide +kernel⟩
theorem dL_law_725 : decode cL_law 725 = .ok (.istore 7, 2) := by decide +kernel
theorem dL_law_727 : decode cL_law 727 = .ok (.aload_n 2, 1) := by decide +kernel
theorem dL_law_728 : decode cL_law 728 = .ok (.invokevirtual 124, 3) := by decide +kernel
theorem dL_law_731 : decode cL_law 731 = .ok (.iload 6, 2) := by decide +kernel
theorem dL_law_733 : decode cL_law 733 = .ok (.if_icmp .eq 5, 3) := by decide +kernel
theorem dL_law_738 : decode cL_law 738 = .ok (.iload 6, 2) := by decide +kernel
theorem dL_law_740 : decode cL_law 740 = .ok (.ifCond .ne 15, 3) := by decide +kernel
theorem dL_law_755 : decode cL_law 755 = .ok (.goto 1197, 3) := by decide +kernel
theorem dL_law_743 : decode cL_law 743 = .ok (.aload_n 3, 1) := by decide +kernel
theorem dL_law_744 : decode cL_law 744 = .ok (.iconst 0, 1) := by decide +kernel
theorem dL_law_745 : decode cL_law 745 = .ok (.laload, 1) := by decide +kernel
theorem dL_law_746 : decode cL_law 746 = .ok (.iload 7, 2) := by decide +kernel
theorem dL_law_748 : decode cL_law 748 = .ok (.i2l, 1) := by decide +kernel
theorem dL_law_749 : decode cL_law 749 = .ok (.lcmp, 1) := by decide +kernel
theorem dL_law_750 : decode cL_law 750 = .ok (.ifCond .eq 5, 3) := by decide +kernel
set_option maxHeartbeats 1000000 in
set_option maxRecDepth 20000 in
theorem law_702 (l : Launch) (D : va_G) (dA : Nat → ClassId) (hst : l.stackTraces = false) {F : jFin} {n0 : Nat} {hh : List (Nat × Nat × Nat × Nat)} {fr lo : Nat} (hfr : 700 ≤ fr) (hlo : 9000 ≤ lo) (M : jM) (v i k : Nat) (A : cA) (h : lAb M v A A) (hz : zA A) (hi : i + 5 ≤ jSL dA) (hL : jSL dA ≤ 2560) (next : ∀ M1 A1, lAb M1 v A1 A1 → zA A1 → J l D dA RL cL_law wsL_law 9 false (some .boolean) hh fr lo F n0 (400 * k) (13000 * k + 1000 * cL A1) M1 1952 [.retAddr 4, .ref v, .ref (v + 36), .ref (v + 50), .ref (v + 51), .int (nI i), .float 0, .float 0, .float 0] []) : J l D dA RL cL_law wsL_law 9 false (some .boolean) hh fr lo F n0 (400 * (k + 1)) (13000 * (k + 1) + 1000 * cL A) (M) 702 [.retAddr (4), .ref (v), .ref (v + 36), .ref (v + 50), .ref (v + 51), .int (nI (i)), .float 0, .float 0, .float 0] [] := by
  have h60 : cL A ≤ 60 := h.1.2.2.1.2.2.2.2.2.2.2.2.1
  refine J_aload_n (v) dL_law_702 rfl rfl ?_
  refine J_aload_ns (4) dL_law_703 rfl rfl ?_
  refine J_iload dL_law_704 rfl ?_
  refine J_iconst (x := 1) dL_law_706 (by decide) ?_
  refine J_iadd dL_law_707 ?_
  refine J_topi (y := nI (i + 1)) (nI_add (i) (1)) ?_
  refine J_sld (kq := i + 1) dL_law_708 (by omega) ?_
  refine J_aload_n (v + 50) dL_law_709 rfl rfl ?_
  refine J_calli (jrunSH (As := [.ref (v), .int (jSX dA (i + 1)), .ref (v + 50)]) (ct_L_size l D dA hst M v A h.1 ((jSX dA (i + 1)))  (v + 50) (show v + 50 < jn M by have := h.1.1.1; omega) h.2.2.1.1 h.2.2.1.2) dL_law_710 yYH_L_size gL_law_L_size rfl ⟨by omega, by omega⟩ ⟨by omega, by omega⟩ rfl (Nat.le_of_ble_eq_true rfl)) ⟨by omega, by omega⟩ (Or.inr ⟨(jOk.fs (jOk.ref (show v < jn M by have := h.1.1.1; omega) (jOk.ref (show v + 36 < jn M by have := h.1.1.1; omega) (jOk.ref (show v + 50 < jn M by have := h.1.1.1; omega) (jOk.ref (show v + 51 < jn M by have := h.1.1.1; omega) (jOk.int (jOk.float (jOk.float (jOk.float jOk.nil))))))))), jOk.nil⟩) (fun E M9 hp _ => by obtain ⟨K, _, _, h9⟩ := hp; rcases h9 with ⟨h9, _⟩ | ⟨_, _, _, _, _, h9, _⟩ <;> exact nomatch h9) (fun x6 M1 hp hle => ?_)
  obtain ⟨hab1, h6, hout⟩ := lPr.i h hp
  refine J_istore (lv' := [.retAddr (4), .ref (v), .ref (v + 36), .ref (v + 50), .ref (v + 51), .int (nI (i)), .int (x6), .float 0, .float 0]) dL_law_713 (by decide) rfl rfl ?_
  refine J_aload_n (v + 36) dL_law_715 rfl rfl ?_
  refine J_aload_ns (4) dL_law_716 rfl rfl ?_
  refine J_iload dL_law_717 rfl ?_
  refine J_iconst (x := 1) dL_law_719 (by decide) ?_
  refine J_iadd dL_law_720 ?_
  refine J_topi (y := nI (i + 1)) (nI_add (i) (1)) ?_
  refine J_sld (kq := i + 1) dL_law_721 (by omega) ?_
  refine J_calli (jrunV (As := [.int (jSX dA (i + 1))]) (ct_X8_size l D dA hst M1 (v + 36) A hab1.2.1 hz.1 ((jSX dA (i + 1)))) dL_law_722 yY_X8_size gL_law_X8_size rfl cs11 (show v + 36 < jn M1 by have := hab1.1.1.1; omega) hab1.2.1.1.2.1 rfl ⟨by omega, by omega⟩ ⟨Nat.zero_le _, Nat.zero_le _⟩ rfl (Nat.le_of_ble_eq_true rfl)) ⟨Nat.zero_le _, Nat.zero_le _⟩ (Or.inr ⟨(jOk.fs (jOk.ref (show v < jn M1 by have := hab1.1.1.1; omega) (jOk.ref (show v + 36 < jn M1 by have := hab1.1.1.1; omega) (jOk.ref (show v + 50 < jn M1 by have := hab1.1.1.1; omega) (jOk.ref (show v + 51 < jn M1 by have := hab1.1.1.1; omega) (jOk.int (jOk.int (jOk.float (jOk.float jOk.nil))))))))), jOk.nil⟩) (fun E M9 hp _ => by obtain ⟨_, _, _, u, hu⟩ := hp; exact nomatch hu) (fun x7 M2 hq hle2 => ?_)
  obtain ⟨hq1, hq2, hq3, hq4⟩ := hq
  have hab2 := hab1.mf hq2 hq3
  have hcd : ji M2 (v + 36) 11 = x6 := l_code (by decide +kernel) hq1 hq4 h6
  have hz2 : zA A := hz
  have hcl : True := trivial
  refine J_istore (lv' := [.retAddr (4), .ref (v), .ref (v + 36), .ref (v + 50), .ref (v + 51), .int (nI (i)), .int (x6), .int (x7), .float 0]) dL_law_725 (by decide) rfl rfl ?_
  refine J_aload_n (v + 36) dL_law_727 rfl rfl ?_
  refine J_calli0 (jrunV (As := []) (ct_X8_thrown l D dA hst M2 (v + 36) hab2.2.1.1) dL_law_728 yY_X8_thrown gL_law_X8_thrown rfl cs11 (show v + 36 < jn M2 by have := hab2.1.1.1; omega) hab2.2.1.1.2.1 rfl ⟨by omega, by omega⟩ ⟨Nat.zero_le _, Nat.zero_le _⟩ rfl (Nat.le_of_ble_eq_true rfl)) (rfl) (rfl) ?_
  refine J_topi (y := (x6)) (by exact hcd) ?_
  refine J_iload dL_law_731 rfl ?_
  refine J_icmp_eq dL_law_733 (tgt := 738) (by decide) (fun c733 => ?_) (fun c733 => ?_)
  · refine J_iload dL_law_738 rfl ?_
    refine J_if_ne dL_law_740 (tgt := 755) (by decide) (fun c740 => ?_) (fun c740 => ?_)
    · refine J_goto (tgt := 1952) dL_law_755 (by decide) ?_
      refine J_fg 6 (lv' := [.retAddr (4), .ref (v), .ref (v + 36), .ref (v + 50), .ref (v + 51), .int (nI (i)), .float 0, .int (x7), .float 0]) rfl ?_
      refine J_fg 7 (lv' := [.retAddr (4), .ref (v), .ref (v + 36), .ref (v + 50), .ref (v + 51), .int (nI (i)), .float 0, .float 0, .float 0]) rfl ?_
      refine J_less (bc' := 400 * k) (bs' := 13000 * k + 1000 * cL A) (by omega) (by omega) ?_
      exact next _ _ hab2 hz2
    · obtain ⟨y, hy, hjl⟩ := hout c740
      have hxy := (l_out hq1 ⟨_, hy⟩).2.symm.trans hy
      have hxy : x7 = y := by cases hxy; rfl
      have hv7 : jl M2 (v + 50) 0 = x7.toInt64 := by rw [hq3.2.2.2.2.1, hjl, hxy]
      refine J_aload_n (v + 50) dL_law_743 rfl rfl ?_
      refine J_iconst (x := 0) dL_law_744 (by decide) ?_
      refine J_lald (i := (0)) dL_law_745 (show v + 50 < jn M2 by have := hab2.1.1.1; omega) hab2.2.2.1.1 (by rw [hab2.2.2.1.2]; exact vpin0) ?_
      refine J_iload dL_law_746 rfl ?_
      refine J_i2l dL_law_748 ?_
      refine J_lcmp dL_law_749 ?_
      refine J_if_eq dL_law_750 (tgt := 755) (by decide) (fun c750 => ?_) (fun c750 => ?_)
      · refine J_goto (tgt := 1952) dL_law_755 (by decide) ?_
        refine J_fg 6 (lv' := [.retAddr (4), .ref (v), .ref (v + 36), .ref (v + 50), .ref (v + 51), .int (nI (i)), .float 0, .int (x7), .float 0]) rfl ?_
        refine J_fg 7 (lv' := [.retAddr (4), .ref (v), .ref (v + 36), .ref (v + 50), .ref (v + 51), .int (nI (i)), .float 0, .float 0, .float 0]) rfl ?_
        refine J_less (bc' := 400 * k) (bs' := 13000 * k + 1000 * cL A) (by omega) (by omega) ?_
        exact next _ _ hab2 hz2
      · exact absurd (by rw [show jl M2 (v + 50) (Int32.toNatClampNeg 0) = x7.toInt64 from hv7]; exact lg_cmp_self) c750
  · exact absurd rfl c733

theorem dL_law_758 : decode cL_law 758 = .ok (.aload_n 1, 1) := by decide +kernel
theorem dL_law_759 : decode cL_law 759 = .ok (.aload_n 0, 1) := by decide +kernel
theorem dL_law_760 : decode cL_law 760 = .ok (.iload 5, 2) := by decide +kernel
theorem dL_law_762 : decode cL_law 762 = .ok (.iconst 1, 1) := by decide +kernel
theorem dL_law_763 : decode cL_law 763 = .ok (.iadd, 1) := by decide +kernel
theorem dL_law_764 : decode cL_law 764 = .ok (.iaload, 1) := by decide +kernel
theorem dL_law_765 : decode cL_law 765 = .ok (.aload_n 0, 1) := by decide +kernel
theorem dL_law_766 : decode cL_law 766 = .ok (.iload 5, 2) := by decide +kernel
theorem dL_law_768 : decode cL_law 768 = .ok (.iconst 2, 1) := by decide +kernel
theorem dL_law_769 : decode cL_law 769 = .ok (.iadd, 1) := by decide +kernel
theorem dL_law_770 : decode cL_law 770 = .ok (.iaload, 1) := by decide +kernel
theorem dL_law_771 : decode cL_law 771 = .ok (.aload_n 0, 1) := by decide +kernel
theorem dL_law_772 : decode cL_law 772 = .ok (.iload 5, 2) := by decide +kernel
theorem dL_law_774 : decode cL_law 774 = .ok (.iconst 3, 1) := by decide +kernel
theorem dL_law_775 : decode cL_law 775 = .ok (.iadd, 1) := by decide +kernel
theorem dL_law_776 : decode cL_law 776 = .ok (.iaload, 1) := by decide +kernel
theorem dL_law_777 : decode cL_law 777 = .ok (.ifCond .eq 7, 3) := by decide +kernel
theorem dL_law_784 : decode cL_law 784 = .ok (.iconst 0, 1) := by decide +kernel
theorem dL_law_785 : decode cL_law 785 = .ok (.aload_n 3, 1) := by decide +kernel
theorem dL_law_786 : decode cL_law 786 = .ok (.invokestatic 159, 3) := by decide +kernel
set_option maxRecDepth 20000 in
theorem ggL_law_L_contains : GoodIn wsL_law wsL_contains := goodIn_ca (goodIn_ca (goodIn_ca (goodIn_ca (goodIn_r _ [675, 117, 118, 626, 676, 677, 678, 2, 679, 127, 128, 129, 130, 131, 580, 581, 582, 285, 286, 583, 631, 632, 633, 634, 635, 636, 23, 599, 505, 506, 22, 507, 38, 680, 681, 682, 157, 683, 255, 256, 257, 258, 243, 244, 245, 246, 165, 234, 235, 236, 237, 247, 248, 249, 250, 684, 685, 686, 687, 688, 251, 252, 253, 254, 1318, 1319, 1320, 1321, 1322, 1323, 1324, 1325, 1326, 1327, 1359, 1360, 1361, 1386] (by decide +kernel) (by decide +kernel)) (goodIn_sub (fun _ h => List.mem_append_left _ (List.mem_append_left _ (List.mem_append_left _ (List.mem_append_left _ (List.mem_append_left _ (List.mem_append_left _ (List.mem_append_left _ (List.mem_append_right _ h)))))))) (by decide +kernel))) (goodIn_sub (fun _ h => List.mem_append_left _ (List.mem_append_left _ (List.mem_append_left _ (List.mem_append_left _ (List.mem_append_left _ (List.mem_append_right _ h)))))) (by decide +kernel))) (goodIn_sub (fun _ h => List.mem_append_left _ (List.mem_append_left _ (List.mem_append_left _ (List.mem_append_left _ (List.mem_append_right _ h))))) (by decide +kernel))) (goodIn_sub (fun _ h => List.mem_append_left _ (List.mem_append_right _ h)) (by decide +kernel))
set_option maxRecDepth 20000 in
theorem gL_law_L_contains : GoodIn wsL_law (va_wsS RL 159 yL_contains wsL_contains) := goodIn_app (goodIn_of _ (by decide +kernel)) ggL_law_L_contains
theorem yYH_L_contains : jYH yL_contains wsL_contains cL_contains 6 (some .int) [(0, 19, 22, 19), (0, 19, 26, 21), (0, 19, 30, 43)] 5 := ⟨⟨_, rfl⟩, by decide +kernel, by decide +kernel, by decide +kernel⟩
theorem dL_law_789 : decode cL_law 789 = .ok (.istore 6, 2) := by decide +kernel
theorem dL_law_791 : decode cL_law 791 = .ok (.aload_n 2, 1) := by decide +kernel
theorem dL_law_792 : decode cL_law 792 = .ok (.aload_n 0, 1) := by decide +kernel
theorem dL_law_793 : decode cL_law 793 = .ok (.iload 5, 2) := by decide +kernel
theorem dL_law_795 : decode cL_law 795 = .ok (.iconst 1, 1) := by decide +kernel
theorem dL_law_796 : decode cL_law 796 = .ok (.iadd, 1) := by decide +kernel
theorem dL_law_797 : decode cL_law 797 = .ok (.iaload, 1) := by decide +kernel
theorem dL_law_798 : decode cL_law 798 = .ok (.aload_n 0, 1) := by decide +kernel
theorem dL_law_799 : decode cL_law 799 = .ok (.iload 5, 2) := by decide +kernel
theorem dL_law_801 : decode cL_law 801 = .ok (.iconst 2, 1) := by decide +kernel
theorem dL_law_802 : decode cL_law 802 = .ok (.iadd, 1) := by decide +kernel
theorem dL_law_803 : decode cL_law 803 = .ok (.iaload, 1) := by decide +kernel
theorem dL_law_804 : decode cL_law 804 = .ok (.aload_n 0, 1) := by decide +kernel
theorem dL_law_805 : decode cL_law 805 = .ok (.iload 5, 2) := by decide +kernel
theorem dL_law_807 : decode cL_law 807 = .ok (.iconst 3, 1) := by decide +kernel
theorem dL_law_808 : decode cL_law 808 = .ok (.iadd, 1) := by decide +kernel
theorem dL_law_809 : decode cL_law 809 = .ok (.iaload, 1) := by decide +kernel
theorem dL_law_810 : decode cL_law 810 = .ok (.ifCond .eq 7, 3) := by decide +kernel
theorem dL_law_817 : decode cL_law 817 = .ok (.iconst 0, 1) := by decide +kernel
theorem dL_law_818 : decode cL_law 818 = .ok (.invokevirtual 161, 3) := by decide +kernel
set_option maxRecDepth 20000 in
theorem ggL_law_X8_contains : GoodIn wsL_law wsX8_contains := goodIn_ca (goodIn_r _ [692, 693, 694, 695, 5, 696, 342, 343, 344, 589, 590, 591, 353, 553, 554, 555, 556, 74, 105, 106, 107, 108, 109, 697, 698, 699, 700, 414, 410, 411, 412, 413, 701, 702, 703, 1328, 1329, 1330, 1331, 1332, 1333, 1334, 1335, 1336, 1337, 1338, 1339, 1340, 1341, 1342, 1343, 1344, 1345, 1346, 1347, 1348, 1349, 1350, 1351, 1352, 1353, 1354, 1355, 1356, 1357, 1358] (by decide +kernel) (by decide +kernel)) (goodIn_sub (fun _ h => List.mem_append_left _ (List.mem_append_left _ (List.mem_append_left _ (List.mem_append_left _ (List.mem_append_left _ (List.mem_append_left _ (List.mem_append_left _ (List.mem_append_right _ h)))))))) (by decide +kernel))
set_option maxRecDepth 20000 in
theorem gL_law_X8_contains : GoodIn wsL_law (wsV RL 161 RX8 yX8_contains wsX8_contains) := goodIn_app (goodIn_of _ (by decide +kernel)) ggL_law_X8_contains
theorem yY_X8_contains : jY yX8_contains wsX8_contains cX8_contains 4 (some .boolean) 3 := ⟨⟨_, rfl⟩, by decide +kernel, by decide +kernel, by decide +kernel⟩
theorem dL_law_821 : decode cL_law 821 = .ok (.istore 7, 2) := by decide +kernel
theorem dL_law_823 : decode cL_law 823 = .ok (.aload_n 2, 1) := by decide +kernel
theorem dL_law_824 : decode cL_law 824 = .ok (.invokevirtual 124, 3) := by decide +kernel
theorem dL_law_827 : decode cL_law 827 = .ok (.iload 6, 2) := by decide +kernel
theorem dL_law_829 : decode cL_law 829 = .ok (.if_icmp .eq 5, 3) := by decide +kernel
theorem dL_law_834 : decode cL_law 834 = .ok (.iload 6, 2) := by decide +kernel
theorem dL_law_836 : decode cL_law 836 = .ok (.ifCond .ne 22, 3) := by decide +kernel
theorem dL_law_858 : decode cL_law 858 = .ok (.goto 1094, 3) := by decide +kernel
theorem dL_law_839 : decode cL_law 839 = .ok (.aload_n 3, 1) := by decide +kernel
theorem dL_law_840 : decode cL_law 840 = .ok (.iconst 0, 1) := by decide +kernel
theorem dL_law_841 : decode cL_law 841 = .ok (.laload, 1) := by decide +kernel
theorem dL_law_842 : decode cL_law 842 = .ok (.iload 7, 2) := by decide +kernel
theorem dL_law_844 : decode cL_law 844 = .ok (.ifCond .eq 7, 3) := by decide +kernel
theorem dL_law_851 : decode cL_law 851 = .ok (.lconst 0, 1) := by decide +kernel
theorem dL_law_852 : decode cL_law 852 = .ok (.lcmp, 1) := by decide +kernel
theorem dL_law_853 : decode cL_law 853 = .ok (.ifCond .eq 5, 3) := by decide +kernel
theorem dL_law_847 : decode cL_law 847 = .ok (.lconst 1, 1) := by decide +kernel
theorem dL_law_848 : decode cL_law 848 = .ok (.goto 4, 3) := by decide +kernel
theorem dL_law_780 : decode cL_law 780 = .ok (.iconst 1, 1) := by decide +kernel
theorem dL_law_781 : decode cL_law 781 = .ok (.goto 4, 3) := by decide +kernel
theorem dL_law_813 : decode cL_law 813 = .ok (.iconst 1, 1) := by decide +kernel
theorem dL_law_814 : decode cL_law 814 = .ok (.goto 4, 3) := by decide +kernel
set_option maxHeartbeats 1000000 in
set_option maxRecDepth 20000 in
theorem law_758 (l : Launch) (D : va_G) (dA : Nat → ClassId) (hst : l.stackTraces = false) {F : jFin} {n0 : Nat} {hh : List (Nat × Nat × Nat × Nat)} {fr lo : Nat} (hfr : 700 ≤ fr) (hlo : 9000 ≤ lo) (M : jM) (v i k : Nat) (A : cA) (h : lAb M v A A) (hz : zA A) (hi : i + 5 ≤ jSL dA) (hL : jSL dA ≤ 2560) (next : ∀ M1 A1, lAb M1 v A1 A1 → zA A1 → J l D dA RL cL_law wsL_law 9 false (some .boolean) hh fr lo F n0 (400 * k) (13000 * k + 1000 * cL A1) M1 1952 [.retAddr 4, .ref v, .ref (v + 36), .ref (v + 50), .ref (v + 51), .int (nI i), .float 0, .float 0, .float 0] []) : J l D dA RL cL_law wsL_law 9 false (some .boolean) hh fr lo F n0 (400 * (k + 1)) (13000 * (k + 1) + 1000 * cL A) (M) 758 [.retAddr (4), .ref (v), .ref (v + 36), .ref (v + 50), .ref (v + 51), .int (nI (i)), .float 0, .float 0, .float 0] [] := by
  have h60 : cL A ≤ 60 := h.1.2.2.1.2.2.2.2.2.2.2.2.1
  refine J_aload_n (v) dL_law_758 rfl rfl ?_
  refine J_aload_ns (4) dL_law_759 rfl rfl ?_
  refine J_iload dL_law_760 rfl ?_
  refine J_iconst (x := 1) dL_law_762 (by decide) ?_
  refine J_iadd dL_law_763 ?_
  refine J_topi (y := nI (i + 1)) (nI_add (i) (1)) ?_
  refine J_sld (kq := i + 1) dL_law_764 (by omega) ?_
  refine J_aload_ns (4) dL_law_765 rfl rfl ?_
  refine J_iload dL_law_766 rfl ?_
  refine J_iconst (x := 2) dL_law_768 (by decide) ?_
  refine J_iadd dL_law_769 ?_
  refine J_topi (y := nI (i + 2)) (nI_add (i) (2)) ?_
  refine J_sld (kq := i + 2) dL_law_770 (by omega) ?_
  refine J_aload_ns (4) dL_law_771 rfl rfl ?_
  refine J_iload dL_law_772 rfl ?_
  refine J_iconst (x := 3) dL_law_774 (by decide) ?_
  refine J_iadd dL_law_775 ?_
  refine J_topi (y := nI (i + 3)) (nI_add (i) (3)) ?_
  refine J_sld (kq := i + 3) dL_law_776 (by omega) ?_
  refine J_if_eq dL_law_777 (tgt := 784) (by decide) (fun c777 => ?_) (fun c777 => ?_)
  · refine J_iconst (x := 0) dL_law_784 (by decide) ?_
    refine J_aload_n (v + 50) dL_law_785 rfl rfl ?_
    refine J_calli (jrunSH (As := [.ref (v), .int (jSX dA (i + 1)), .int (jSX dA (i + 2)), .int (0), .ref (v + 50)]) (ct_L_contains l D dA hst M v A h.1 ((jSX dA (i + 1))) ((jSX dA (i + 2))) false  (v + 50) (show v + 50 < jn M by have := h.1.1.1; omega) h.2.2.1.1 h.2.2.1.2) dL_law_786 yYH_L_contains gL_law_L_contains rfl ⟨by omega, by omega⟩ ⟨by omega, by omega⟩ rfl (Nat.le_of_ble_eq_true rfl)) ⟨by omega, by omega⟩ (Or.inr ⟨(jOk.fs (jOk.ref (show v < jn M by have := h.1.1.1; omega) (jOk.ref (show v + 36 < jn M by have := h.1.1.1; omega) (jOk.ref (show v + 50 < jn M by have := h.1.1.1; omega) (jOk.ref (show v + 51 < jn M by have := h.1.1.1; omega) (jOk.int (jOk.float (jOk.float (jOk.float jOk.nil))))))))), jOk.nil⟩) (fun E M9 hp _ => by obtain ⟨K, _, _, h9⟩ := hp; rcases h9 with ⟨h9, _⟩ | ⟨_, _, _, _, _, h9, _⟩ <;> exact nomatch h9) (fun x6 M1 hp hle => ?_)
    obtain ⟨hab1, h6, hout⟩ := lPr.z h hp
    refine J_istore (lv' := [.retAddr (4), .ref (v), .ref (v + 36), .ref (v + 50), .ref (v + 51), .int (nI (i)), .int (x6), .float 0, .float 0]) dL_law_789 (by decide) rfl rfl ?_
    refine J_aload_n (v + 36) dL_law_791 rfl rfl ?_
    refine J_aload_ns (4) dL_law_792 rfl rfl ?_
    refine J_iload dL_law_793 rfl ?_
    refine J_iconst (x := 1) dL_law_795 (by decide) ?_
    refine J_iadd dL_law_796 ?_
    refine J_topi (y := nI (i + 1)) (nI_add (i) (1)) ?_
    refine J_sld (kq := i + 1) dL_law_797 (by omega) ?_
    refine J_aload_ns (4) dL_law_798 rfl rfl ?_
    refine J_iload dL_law_799 rfl ?_
    refine J_iconst (x := 2) dL_law_801 (by decide) ?_
    refine J_iadd dL_law_802 ?_
    refine J_topi (y := nI (i + 2)) (nI_add (i) (2)) ?_
    refine J_sld (kq := i + 2) dL_law_803 (by omega) ?_
    refine J_aload_ns (4) dL_law_804 rfl rfl ?_
    refine J_iload dL_law_805 rfl ?_
    refine J_iconst (x := 3) dL_law_807 (by decide) ?_
    refine J_iadd dL_law_808 ?_
    refine J_topi (y := nI (i + 3)) (nI_add (i) (3)) ?_
    refine J_sld (kq := i + 3) dL_law_809 (by omega) ?_
    refine J_if_eq dL_law_810 (tgt := 817) (by decide) (fun c810 => ?_) (fun c810 => ?_)
    · refine J_iconst (x := 0) dL_law_817 (by decide) ?_
      refine J_calli (jrunV (As := [.int (jSX dA (i + 1)), .int (jSX dA (i + 2)), .int (0)]) (ct_X8_contains l D dA hst M1 (v + 36) A hab1.2.1 hz.1 ((jSX dA (i + 1))) ((jSX dA (i + 2))) false) dL_law_818 yY_X8_contains gL_law_X8_contains rfl cs11 (show v + 36 < jn M1 by have := hab1.1.1.1; omega) hab1.2.1.1.2.1 rfl ⟨by omega, by omega⟩ ⟨Nat.zero_le _, Nat.zero_le _⟩ rfl (Nat.le_of_ble_eq_true rfl)) ⟨Nat.zero_le _, Nat.zero_le _⟩ (Or.inr ⟨(jOk.fs (jOk.ref (show v < jn M1 by have := hab1.1.1.1; omega) (jOk.ref (show v + 36 < jn M1 by have := hab1.1.1.1; omega) (jOk.ref (show v + 50 < jn M1 by have := hab1.1.1.1; omega) (jOk.ref (show v + 51 < jn M1 by have := hab1.1.1.1; omega) (jOk.int (jOk.int (jOk.float (jOk.float jOk.nil))))))))), jOk.nil⟩) (fun E M9 hp _ => by obtain ⟨_, _, _, u, hu⟩ := hp; exact nomatch hu) (fun x7 M2 hq hle2 => ?_)
      obtain ⟨hq1, hq2, hq3, hq4⟩ := hq
      have hab2 := hab1.mf hq2 hq3
      have hcd : ji M2 (v + 36) 11 = x6 := l_code (by decide +kernel) hq1 hq4 h6
      have hz2 : zA A := hz
      have hcl : True := trivial
      refine J_istore (lv' := [.retAddr (4), .ref (v), .ref (v + 36), .ref (v + 50), .ref (v + 51), .int (nI (i)), .int (x6), .int (x7), .float 0]) dL_law_821 (by decide) rfl rfl ?_
      refine J_aload_n (v + 36) dL_law_823 rfl rfl ?_
      refine J_calli0 (jrunV (As := []) (ct_X8_thrown l D dA hst M2 (v + 36) hab2.2.1.1) dL_law_824 yY_X8_thrown gL_law_X8_thrown rfl cs11 (show v + 36 < jn M2 by have := hab2.1.1.1; omega) hab2.2.1.1.2.1 rfl ⟨by omega, by omega⟩ ⟨Nat.zero_le _, Nat.zero_le _⟩ rfl (Nat.le_of_ble_eq_true rfl)) (rfl) (rfl) ?_
      refine J_topi (y := (x6)) (by exact hcd) ?_
      refine J_iload dL_law_827 rfl ?_
      refine J_icmp_eq dL_law_829 (tgt := 834) (by decide) (fun c829 => ?_) (fun c829 => ?_)
      · refine J_iload dL_law_834 rfl ?_
        refine J_if_ne dL_law_836 (tgt := 858) (by decide) (fun c836 => ?_) (fun c836 => ?_)
        · refine J_goto (tgt := 1952) dL_law_858 (by decide) ?_
          refine J_fg 6 (lv' := [.retAddr (4), .ref (v), .ref (v + 36), .ref (v + 50), .ref (v + 51), .int (nI (i)), .float 0, .int (x7), .float 0]) rfl ?_
          refine J_fg 7 (lv' := [.retAddr (4), .ref (v), .ref (v + 36), .ref (v + 50), .ref (v + 51), .int (nI (i)), .float 0, .float 0, .float 0]) rfl ?_
          refine J_less (bc' := 400 * k) (bs' := 13000 * k + 1000 * cL A) (by omega) (by omega) ?_
          exact next _ _ hab2 hz2
        · obtain ⟨y, hy, hjl⟩ := hout c836
          have hxy := (l_out hq1 ⟨_, hy⟩).2.symm.trans hy
          have hxy : x7 = y := by cases hxy; rfl
          have hv7 : jl M2 (v + 50) 0 = if x7 = 0 then 0 else 1 := by rw [hq3.2.2.2.2.1, hjl, hxy]
          refine J_aload_n (v + 50) dL_law_839 rfl rfl ?_
          refine J_iconst (x := 0) dL_law_840 (by decide) ?_
          refine J_lald (i := (0)) dL_law_841 (show v + 50 < jn M2 by have := hab2.1.1.1; omega) hab2.2.2.1.1 (by rw [hab2.2.2.1.2]; exact vpin0) ?_
          refine J_iload dL_law_842 rfl ?_
          refine J_if_eq dL_law_844 (tgt := 851) (by decide) (fun c844 => ?_) (fun c844 => ?_)
          · refine J_lconst (x := 0) dL_law_851 (by decide) ?_
            refine J_lcmp dL_law_852 ?_
            refine J_if_eq dL_law_853 (tgt := 858) (by decide) (fun c853 => ?_) (fun c853 => ?_)
            · refine J_goto (tgt := 1952) dL_law_858 (by decide) ?_
              refine J_fg 6 (lv' := [.retAddr (4), .ref (v), .ref (v + 36), .ref (v + 50), .ref (v + 51), .int (nI (i)), .float 0, .int (x7), .float 0]) rfl ?_
              refine J_fg 7 (lv' := [.retAddr (4), .ref (v), .ref (v + 36), .ref (v + 50), .ref (v + 51), .int (nI (i)), .float 0, .float 0, .float 0]) rfl ?_
              refine J_less (bc' := 400 * k) (bs' := 13000 * k + 1000 * cL A) (by omega) (by omega) ?_
              exact next _ _ hab2 hz2
            · exact absurd (by rw [show jl M2 (v + 50) (Int32.toNatClampNeg 0) = _ from hv7]; first | (rw [if_pos c844]; exact lg_cmp_self) | (rw [if_neg c844]; exact lg_cmp_self)) c853
          · refine J_lconst (x := 1) dL_law_847 (by decide) ?_
            refine J_goto (tgt := 852) dL_law_848 (by decide) ?_
            refine J_lcmp dL_law_852 ?_
            refine J_if_eq dL_law_853 (tgt := 858) (by decide) (fun c853 => ?_) (fun c853 => ?_)
            · refine J_goto (tgt := 1952) dL_law_858 (by decide) ?_
              refine J_fg 6 (lv' := [.retAddr (4), .ref (v), .ref (v + 36), .ref (v + 50), .ref (v + 51), .int (nI (i)), .float 0, .int (x7), .float 0]) rfl ?_
              refine J_fg 7 (lv' := [.retAddr (4), .ref (v), .ref (v + 36), .ref (v + 50), .ref (v + 51), .int (nI (i)), .float 0, .float 0, .float 0]) rfl ?_
              refine J_less (bc' := 400 * k) (bs' := 13000 * k + 1000 * cL A) (by omega) (by omega) ?_
              exact next _ _ hab2 hz2
            · exact absurd (by rw [show jl M2 (v + 50) (Int32.toNatClampNeg 0) = _ from hv7]; first | (rw [if_pos c844]; exact lg_cmp_self) | (rw [if_neg c844]; exact lg_cmp_self)) c853
      · exact absurd rfl c829
    · exact absurd c777 c810
  · refine J_iconst (x := 1) dL_law_780 (by decide) ?_
    refine J_goto (tgt := 785) dL_law_781 (by decide) ?_
    refine J_aload_n (v + 50) dL_law_785 rfl rfl ?_
    refine J_calli (jrunSH (As := [.ref (v), .int (jSX dA (i + 1)), .int (jSX dA (i + 2)), .int (1), .ref (v + 50)]) (ct_L_contains l D dA hst M v A h.1 ((jSX dA (i + 1))) ((jSX dA (i + 2))) true  (v + 50) (show v + 50 < jn M by have := h.1.1.1; omega) h.2.2.1.1 h.2.2.1.2) dL_law_786 yYH_L_contains gL_law_L_contains rfl ⟨by omega, by omega⟩ ⟨by omega, by omega⟩ rfl (Nat.le_of_ble_eq_true rfl)) ⟨by omega, by omega⟩ (Or.inr ⟨(jOk.fs (jOk.ref (show v < jn M by have := h.1.1.1; omega) (jOk.ref (show v + 36 < jn M by have := h.1.1.1; omega) (jOk.ref (show v + 50 < jn M by have := h.1.1.1; omega) (jOk.ref (show v + 51 < jn M by have := h.1.1.1; omega) (jOk.int (jOk.float (jOk.float (jOk.float jOk.nil))))))))), jOk.nil⟩) (fun E M9 hp _ => by obtain ⟨K, _, _, h9⟩ := hp; rcases h9 with ⟨h9, _⟩ | ⟨_, _, _, _, _, h9, _⟩ <;> exact nomatch h9) (fun x6 M1 hp hle => ?_)
    obtain ⟨hab1, h6, hout⟩ := lPr.z h hp
    refine J_istore (lv' := [.retAddr (4), .ref (v), .ref (v + 36), .ref (v + 50), .ref (v + 51), .int (nI (i)), .int (x6), .float 0, .float 0]) dL_law_789 (by decide) rfl rfl ?_
    refine J_aload_n (v + 36) dL_law_791 rfl rfl ?_
    refine J_aload_ns (4) dL_law_792 rfl rfl ?_
    refine J_iload dL_law_793 rfl ?_
    refine J_iconst (x := 1) dL_law_795 (by decide) ?_
    refine J_iadd dL_law_796 ?_
    refine J_topi (y := nI (i + 1)) (nI_add (i) (1)) ?_
    refine J_sld (kq := i + 1) dL_law_797 (by omega) ?_
    refine J_aload_ns (4) dL_law_798 rfl rfl ?_
    refine J_iload dL_law_799 rfl ?_
    refine J_iconst (x := 2) dL_law_801 (by decide) ?_
    refine J_iadd dL_law_802 ?_
    refine J_topi (y := nI (i + 2)) (nI_add (i) (2)) ?_
    refine J_sld (kq := i + 2) dL_law_803 (by omega) ?_
    refine J_aload_ns (4) dL_law_804 rfl rfl ?_
    refine J_iload dL_law_805 rfl ?_
    refine J_iconst (x := 3) dL_law_807 (by decide) ?_
    refine J_iadd dL_law_808 ?_
    refine J_topi (y := nI (i + 3)) (nI_add (i) (3)) ?_
    refine J_sld (kq := i + 3) dL_law_809 (by omega) ?_
    refine J_if_eq dL_law_810 (tgt := 817) (by decide) (fun c810 => ?_) (fun c810 => ?_)
    · exact absurd c810 c777
    · refine J_iconst (x := 1) dL_law_813 (by decide) ?_
      refine J_goto (tgt := 818) dL_law_814 (by decide) ?_
      refine J_calli (jrunV (As := [.int (jSX dA (i + 1)), .int (jSX dA (i + 2)), .int (1)]) (ct_X8_contains l D dA hst M1 (v + 36) A hab1.2.1 hz.1 ((jSX dA (i + 1))) ((jSX dA (i + 2))) true) dL_law_818 yY_X8_contains gL_law_X8_contains rfl cs11 (show v + 36 < jn M1 by have := hab1.1.1.1; omega) hab1.2.1.1.2.1 rfl ⟨by omega, by omega⟩ ⟨Nat.zero_le _, Nat.zero_le _⟩ rfl (Nat.le_of_ble_eq_true rfl)) ⟨Nat.zero_le _, Nat.zero_le _⟩ (Or.inr ⟨(jOk.fs (jOk.ref (show v < jn M1 by have := hab1.1.1.1; omega) (jOk.ref (show v + 36 < jn M1 by have := hab1.1.1.1; omega) (jOk.ref (show v + 50 < jn M1 by have := hab1.1.1.1; omega) (jOk.ref (show v + 51 < jn M1 by have := hab1.1.1.1; omega) (jOk.int (jOk.int (jOk.float (jOk.float jOk.nil))))))))), jOk.nil⟩) (fun E M9 hp _ => by obtain ⟨_, _, _, u, hu⟩ := hp; exact nomatch hu) (fun x7 M2 hq hle2 => ?_)
      obtain ⟨hq1, hq2, hq3, hq4⟩ := hq
      have hab2 := hab1.mf hq2 hq3
      have hcd : ji M2 (v + 36) 11 = x6 := l_code (by decide +kernel) hq1 hq4 h6
      have hz2 : zA A := hz
      have hcl : True := trivial
      refine J_istore (lv' := [.retAddr (4), .ref (v), .ref (v + 36), .ref (v + 50), .ref (v + 51), .int (nI (i)), .int (x6), .int (x7), .float 0]) dL_law_821 (by decide) rfl rfl ?_
      refine J_aload_n (v + 36) dL_law_823 rfl rfl ?_
      refine J_calli0 (jrunV (As := []) (ct_X8_thrown l D dA hst M2 (v + 36) hab2.2.1.1) dL_law_824 yY_X8_thrown gL_law_X8_thrown rfl cs11 (show v + 36 < jn M2 by have := hab2.1.1.1; omega) hab2.2.1.1.2.1 rfl ⟨by omega, by omega⟩ ⟨Nat.zero_le _, Nat.zero_le _⟩ rfl (Nat.le_of_ble_eq_true rfl)) (rfl) (rfl) ?_
      refine J_topi (y := (x6)) (by exact hcd) ?_
      refine J_iload dL_law_827 rfl ?_
      refine J_icmp_eq dL_law_829 (tgt := 834) (by decide) (fun c829 => ?_) (fun c829 => ?_)
      · refine J_iload dL_law_834 rfl ?_
        refine J_if_ne dL_law_836 (tgt := 858) (by decide) (fun c836 => ?_) (fun c836 => ?_)
        · refine J_goto (tgt := 1952) dL_law_858 (by decide) ?_
          refine J_fg 6 (lv' := [.retAddr (4), .ref (v), .ref (v + 36), .ref (v + 50), .ref (v + 51), .int (nI (i)), .float 0, .int (x7), .float 0]) rfl ?_
          refine J_fg 7 (lv' := [.retAddr (4), .ref (v), .ref (v + 36), .ref (v + 50), .ref (v + 51), .int (nI (i)), .float 0, .float 0, .float 0]) rfl ?_
          refine J_less (bc' := 400 * k) (bs' := 13000 * k + 1000 * cL A) (by omega) (by omega) ?_
          exact next _ _ hab2 hz2
        · obtain ⟨y, hy, hjl⟩ := hout c836
          have hxy := (l_out hq1 ⟨_, hy⟩).2.symm.trans hy
          have hxy : x7 = y := by cases hxy; rfl
          have hv7 : jl M2 (v + 50) 0 = if x7 = 0 then 0 else 1 := by rw [hq3.2.2.2.2.1, hjl, hxy]
          refine J_aload_n (v + 50) dL_law_839 rfl rfl ?_
          refine J_iconst (x := 0) dL_law_840 (by decide) ?_
          refine J_lald (i := (0)) dL_law_841 (show v + 50 < jn M2 by have := hab2.1.1.1; omega) hab2.2.2.1.1 (by rw [hab2.2.2.1.2]; exact vpin0) ?_
          refine J_iload dL_law_842 rfl ?_
          refine J_if_eq dL_law_844 (tgt := 851) (by decide) (fun c844 => ?_) (fun c844 => ?_)
          · refine J_lconst (x := 0) dL_law_851 (by decide) ?_
            refine J_lcmp dL_law_852 ?_
            refine J_if_eq dL_law_853 (tgt := 858) (by decide) (fun c853 => ?_) (fun c853 => ?_)
            · refine J_goto (tgt := 1952) dL_law_858 (by decide) ?_
              refine J_fg 6 (lv' := [.retAddr (4), .ref (v), .ref (v + 36), .ref (v + 50), .ref (v + 51), .int (nI (i)), .float 0, .int (x7), .float 0]) rfl ?_
              refine J_fg 7 (lv' := [.retAddr (4), .ref (v), .ref (v + 36), .ref (v + 50), .ref (v + 51), .int (nI (i)), .float 0, .float 0, .float 0]) rfl ?_
              refine J_less (bc' := 400 * k) (bs' := 13000 * k + 1000 * cL A) (by omega) (by omega) ?_
              exact next _ _ hab2 hz2
            · exact absurd (by rw [show jl M2 (v + 50) (Int32.toNatClampNeg 0) = _ from hv7]; first | (rw [if_pos c844]; exact lg_cmp_self) | (rw [if_neg c844]; exact lg_cmp_self)) c853
          · refine J_lconst (x := 1) dL_law_847 (by decide) ?_
            refine J_goto (tgt := 852) dL_law_848 (by decide) ?_
            refine J_lcmp dL_law_852 ?_
            refine J_if_eq dL_law_853 (tgt := 858) (by decide) (fun c853 => ?_) (fun c853 => ?_)
            · refine J_goto (tgt := 1952) dL_law_858 (by decide) ?_
              refine J_fg 6 (lv' := [.retAddr (4), .ref (v), .ref (v + 36), .ref (v + 50), .ref (v + 51), .int (nI (i)), .float 0, .int (x7), .float 0]) rfl ?_
              refine J_fg 7 (lv' := [.retAddr (4), .ref (v), .ref (v + 36), .ref (v + 50), .ref (v + 51), .int (nI (i)), .float 0, .float 0, .float 0]) rfl ?_
              refine J_less (bc' := 400 * k) (bs' := 13000 * k + 1000 * cL A) (by omega) (by omega) ?_
              exact next _ _ hab2 hz2
            · exact absurd (by rw [show jl M2 (v + 50) (Int32.toNatClampNeg 0) = _ from hv7]; first | (rw [if_pos c844]; exact lg_cmp_self) | (rw [if_neg c844]; exact lg_cmp_self)) c853
      · exact absurd rfl c829

theorem dL_law_861 : decode cL_law 861 = .ok (.aload_n 1, 1) := by decide +kernel
theorem dL_law_862 : decode cL_law 862 = .ok (.aload_n 0, 1) := by decide +kernel
theorem dL_law_863 : decode cL_law 863 = .ok (.iload 5, 2) := by decide +kernel
theorem dL_law_865 : decode cL_law 865 = .ok (.iconst 1, 1) := by decide +kernel
theorem dL_law_866 : decode cL_law 866 = .ok (.iadd, 1) := by decide +kernel
theorem dL_law_867 : decode cL_law 867 = .ok (.iaload, 1) := by decide +kernel
theorem dL_law_868 : decode cL_law 868 = .ok (.aload_n 0, 1) := by decide +kernel
theorem dL_law_869 : decode cL_law 869 = .ok (.iload 5, 2) := by decide +kernel
theorem dL_law_871 : decode cL_law 871 = .ok (.iconst 2, 1) := by decide +kernel
theorem dL_law_872 : decode cL_law 872 = .ok (.iadd, 1) := by decide +kernel
theorem dL_law_873 : decode cL_law 873 = .ok (.iaload, 1) := by decide +kernel
theorem dL_law_874 : decode cL_law 874 = .ok (.aload_n 3, 1) := by decide +kernel
theorem dL_law_875 : decode cL_law 875 = .ok (.invokestatic 162, 3) := by decide +kernel
set_option maxRecDepth 20000 in
theorem ggL_law_L_from : GoodIn wsL_law wsL_from := goodIn_ca (goodIn_ca (goodIn_ca (goodIn_ca (goodIn_r _ [706, 117, 118, 626, 707, 708, 709, 2, 710, 635, 636, 127, 128, 129, 130, 131, 580, 581, 582, 285, 286, 583, 631, 632, 633, 634, 23, 599, 505, 506, 22, 507, 38, 711, 712, 713, 157, 714, 715, 152, 149, 153, 243, 244, 245, 246, 165, 234, 235, 236, 237, 247, 248, 249, 250, 1318, 1319, 1320, 1321, 1322, 1323, 1324, 1325, 1326, 1327, 1359, 1360, 1361, 1386] (by decide +kernel) (by decide +kernel)) (goodIn_sub (fun _ h => List.mem_append_left _ (List.mem_append_left _ (List.mem_append_left _ (List.mem_append_left _ (List.mem_append_left _ (List.mem_append_left _ (List.mem_append_left _ (List.mem_append_right _ h)))))))) (by decide +kernel))) (goodIn_sub (fun _ h => List.mem_append_left _ (List.mem_append_right _ h)) (by decide +kernel))) (goodIn_sub (fun _ h => List.mem_append_left _ (List.mem_append_left _ (List.mem_append_left _ (List.mem_append_left _ (List.mem_append_left _ (List.mem_append_right _ h)))))) (by decide +kernel))) (goodIn_sub (fun _ h => List.mem_append_left _ (List.mem_append_left _ (List.mem_append_left _ (List.mem_append_left _ (List.mem_append_right _ h))))) (by decide +kernel))
set_option maxRecDepth 20000 in
theorem gL_law_L_from : GoodIn wsL_law (va_wsS RL 162 yL_from wsL_from) := goodIn_app (goodIn_of _ (by decide +kernel)) ggL_law_L_from
theorem yYH_L_from : jYH yL_from wsL_from cL_from 5 (some .int) [(0, 10, 13, 19), (0, 10, 17, 21), (0, 10, 21, 43)] 4 := ⟨⟨_, rfl⟩, by decide +kernel, by decide +kernel, by decide +kernel⟩
theorem dL_law_878 : decode cL_law 878 = .ok (.istore 6, 2) := by decide +kernel
theorem dL_law_880 : decode cL_law 880 = .ok (.aload_n 2, 1) := by decide +kernel
theorem dL_law_881 : decode cL_law 881 = .ok (.aload_n 0, 1) := by decide +kernel
theorem dL_law_882 : decode cL_law 882 = .ok (.iload 5, 2) := by decide +kernel
theorem dL_law_884 : decode cL_law 884 = .ok (.iconst 1, 1) := by decide +kernel
theorem dL_law_885 : decode cL_law 885 = .ok (.iadd, 1) := by decide +kernel
theorem dL_law_886 : decode cL_law 886 = .ok (.iaload, 1) := by decide +kernel
theorem dL_law_887 : decode cL_law 887 = .ok (.aload_n 0, 1) := by decide +kernel
theorem dL_law_888 : decode cL_law 888 = .ok (.iload 5, 2) := by decide +kernel
theorem dL_law_890 : decode cL_law 890 = .ok (.iconst 2, 1) := by decide +kernel
theorem dL_law_891 : decode cL_law 891 = .ok (.iadd, 1) := by decide +kernel
theorem dL_law_892 : decode cL_law 892 = .ok (.iaload, 1) := by decide +kernel
theorem dL_law_893 : decode cL_law 893 = .ok (.invokevirtual 164, 3) := by decide +kernel
set_option maxRecDepth 20000 in
theorem ggL_law_X8_from : GoodIn wsL_law wsX8_from := goodIn_ca (goodIn_r _ [719, 74, 353, 693, 694, 695, 5, 696, 342, 343, 344, 589, 590, 591, 553, 554, 555, 556, 105, 106, 107, 108, 109, 697, 698, 699, 700, 414, 410, 411, 412, 413, 701, 702, 703, 407, 408, 409, 397, 1328, 1329, 1330, 1331, 1332, 1333, 1334, 1335, 1336, 1337, 1338, 1339, 1340, 1341, 1342, 1343, 1344, 1345, 1346, 1347, 1348, 1349, 1350, 1351, 1352, 1353, 1354, 1355, 1356, 1357, 1358] (by decide +kernel) (by decide +kernel)) (goodIn_sub (fun _ h => List.mem_append_left _ (List.mem_append_left _ (List.mem_append_left _ (List.mem_append_left _ (List.mem_append_left _ (List.mem_append_left _ (List.mem_append_left _ (List.mem_append_right _ h)))))))) (by decide +kernel))
set_option maxRecDepth 20000 in
theorem gL_law_X8_from : GoodIn wsL_law (wsV RL 164 RX8 yX8_from wsX8_from) := goodIn_app (goodIn_of _ (by decide +kernel)) ggL_law_X8_from
theorem yY_X8_from : jY yX8_from wsX8_from cX8_from 4 (some .int) 2 := ⟨⟨_, rfl⟩, by decide +kernel, by decide +kernel, by decide +kernel⟩
theorem dL_law_896 : decode cL_law 896 = .ok (.istore 7, 2) := by decide +kernel
theorem dL_law_898 : decode cL_law 898 = .ok (.aload_n 2, 1) := by decide +kernel
theorem dL_law_899 : decode cL_law 899 = .ok (.invokevirtual 124, 3) := by decide +kernel
theorem dL_law_902 : decode cL_law 902 = .ok (.iload 6, 2) := by decide +kernel
theorem dL_law_904 : decode cL_law 904 = .ok (.if_icmp .eq 5, 3) := by decide +kernel
theorem dL_law_909 : decode cL_law 909 = .ok (.iload 6, 2) := by decide +kernel
theorem dL_law_911 : decode cL_law 911 = .ok (.ifCond .ne 15, 3) := by decide +kernel
theorem dL_law_926 : decode cL_law 926 = .ok (.goto 1026, 3) := by decide +kernel
theorem dL_law_914 : decode cL_law 914 = .ok (.aload_n 3, 1) := by decide +kernel
theorem dL_law_915 : decode cL_law 915 = .ok (.iconst 0, 1) := by decide +kernel
theorem dL_law_916 : decode cL_law 916 = .ok (.laload, 1) := by decide +kernel
theorem dL_law_917 : decode cL_law 917 = .ok (.iload 7, 2) := by decide +kernel
theorem dL_law_919 : decode cL_law 919 = .ok (.i2l, 1) := by decide +kernel
theorem dL_law_920 : decode cL_law 920 = .ok (.lcmp, 1) := by decide +kernel
theorem dL_law_921 : decode cL_law 921 = .ok (.ifCond .eq 5, 3) := by decide +kernel
set_option maxHeartbeats 1000000 in
set_option maxRecDepth 20000 in
theorem law_861 (l : Launch) (D : va_G) (dA : Nat → ClassId) (hst : l.stackTraces = false) {F : jFin} {n0 : Nat} {hh : List (Nat × Nat × Nat × Nat)} {fr lo : Nat} (hfr : 700 ≤ fr) (hlo : 9000 ≤ lo) (M : jM) (v i k : Nat) (A : cA) (h : lAb M v A A) (hz : zA A) (hi : i + 5 ≤ jSL dA) (hL : jSL dA ≤ 2560) (next : ∀ M1 A1, lAb M1 v A1 A1 → zA A1 → J l D dA RL cL_law wsL_law 9 false (some .boolean) hh fr lo F n0 (400 * k) (13000 * k + 1000 * cL A1) M1 1952 [.retAddr 4, .ref v, .ref (v + 36), .ref (v + 50), .ref (v + 51), .int (nI i), .float 0, .float 0, .float 0] []) : J l D dA RL cL_law wsL_law 9 false (some .boolean) hh fr lo F n0 (400 * (k + 1)) (13000 * (k + 1) + 1000 * cL A) (M) 861 [.retAddr (4), .ref (v), .ref (v + 36), .ref (v + 50), .ref (v + 51), .int (nI (i)), .float 0, .float 0, .float 0] [] := by
  have h60 : cL A ≤ 60 := h.1.2.2.1.2.2.2.2.2.2.2.2.1
  refine J_aload_n (v) dL_law_861 rfl rfl ?_
  refine J_aload_ns (4) dL_law_862 rfl rfl ?_
  refine J_iload dL_law_863 rfl ?_
  refine J_iconst (x := 1) dL_law_865 (by decide) ?_
  refine J_iadd dL_law_866 ?_
  refine J_topi (y := nI (i + 1)) (nI_add (i) (1)) ?_
  refine J_sld (kq := i + 1) dL_law_867 (by omega) ?_
  refine J_aload_ns (4) dL_law_868 rfl rfl ?_
  refine J_iload dL_law_869 rfl ?_
  refine J_iconst (x := 2) dL_law_871 (by decide) ?_
  refine J_iadd dL_law_872 ?_
  refine J_topi (y := nI (i + 2)) (nI_add (i) (2)) ?_
  refine J_sld (kq := i + 2) dL_law_873 (by omega) ?_
  refine J_aload_n (v + 50) dL_law_874 rfl rfl ?_
  refine J_calli (jrunSH (As := [.ref (v), .int (jSX dA (i + 1)), .int (jSX dA (i + 2)), .ref (v + 50)]) (ct_L_from l D dA hst M v A h.1 ((jSX dA (i + 1))) ((jSX dA (i + 2)))  (v + 50) (show v + 50 < jn M by have := h.1.1.1; omega) h.2.2.1.1 h.2.2.1.2) dL_law_875 yYH_L_from gL_law_L_from rfl ⟨by omega, by omega⟩ ⟨by omega, by omega⟩ rfl (Nat.le_of_ble_eq_true rfl)) ⟨by omega, by omega⟩ (Or.inr ⟨(jOk.fs (jOk.ref (show v < jn M by have := h.1.1.1; omega) (jOk.ref (show v + 36 < jn M by have := h.1.1.1; omega) (jOk.ref (show v + 50 < jn M by have := h.1.1.1; omega) (jOk.ref (show v + 51 < jn M by have := h.1.1.1; omega) (jOk.int (jOk.float (jOk.float (jOk.float jOk.nil))))))))), jOk.nil⟩) (fun E M9 hp _ => by obtain ⟨K, _, _, h9⟩ := hp; rcases h9 with ⟨h9, _⟩ | ⟨_, _, _, _, _, h9, _⟩ <;> exact nomatch h9) (fun x6 M1 hp hle => ?_)
  obtain ⟨hab1, h6, hout⟩ := lPr.i h hp
  refine J_istore (lv' := [.retAddr (4), .ref (v), .ref (v + 36), .ref (v + 50), .ref (v + 51), .int (nI (i)), .int (x6), .float 0, .float 0]) dL_law_878 (by decide) rfl rfl ?_
  refine J_aload_n (v + 36) dL_law_880 rfl rfl ?_
  refine J_aload_ns (4) dL_law_881 rfl rfl ?_
  refine J_iload dL_law_882 rfl ?_
  refine J_iconst (x := 1) dL_law_884 (by decide) ?_
  refine J_iadd dL_law_885 ?_
  refine J_topi (y := nI (i + 1)) (nI_add (i) (1)) ?_
  refine J_sld (kq := i + 1) dL_law_886 (by omega) ?_
  refine J_aload_ns (4) dL_law_887 rfl rfl ?_
  refine J_iload dL_law_888 rfl ?_
  refine J_iconst (x := 2) dL_law_890 (by decide) ?_
  refine J_iadd dL_law_891 ?_
  refine J_topi (y := nI (i + 2)) (nI_add (i) (2)) ?_
  refine J_sld (kq := i + 2) dL_law_892 (by omega) ?_
  refine J_calli (jrunV (As := [.int (jSX dA (i + 1)), .int (jSX dA (i + 2))]) (ct_X8_from l D dA hst M1 (v + 36) A hab1.2.1 hz.1 ((jSX dA (i + 1))) ((jSX dA (i + 2)))) dL_law_893 yY_X8_from gL_law_X8_from rfl cs11 (show v + 36 < jn M1 by have := hab1.1.1.1; omega) hab1.2.1.1.2.1 rfl ⟨by omega, by omega⟩ ⟨Nat.zero_le _, Nat.zero_le _⟩ rfl (Nat.le_of_ble_eq_true rfl)) ⟨Nat.zero_le _, Nat.zero_le _⟩ (Or.inr ⟨(jOk.fs (jOk.ref (show v < jn M1 by have := hab1.1.1.1; omega) (jOk.ref (show v + 36 < jn M1 by have := hab1.1.1.1; omega) (jOk.ref (show v + 50 < jn M1 by have := hab1.1.1.1; omega) (jOk.ref (show v + 51 < jn M1 by have := hab1.1.1.1; omega) (jOk.int (jOk.int (jOk.float (jOk.float jOk.nil))))))))), jOk.nil⟩) (fun E M9 hp _ => by obtain ⟨_, _, _, u, hu⟩ := hp; exact nomatch hu) (fun x7 M2 hq hle2 => ?_)
  obtain ⟨hq1, hq2, hq3, hq4⟩ := hq
  have hab2 := hab1.mf hq2 hq3
  have hcd : ji M2 (v + 36) 11 = x6 := l_code (by decide +kernel) hq1 hq4 h6
  have hz2 : zA A := hz
  have hcl : True := trivial
  refine J_istore (lv' := [.retAddr (4), .ref (v), .ref (v + 36), .ref (v + 50), .ref (v + 51), .int (nI (i)), .int (x6), .int (x7), .float 0]) dL_law_896 (by decide) rfl rfl ?_
  refine J_aload_n (v + 36) dL_law_898 rfl rfl ?_
  refine J_calli0 (jrunV (As := []) (ct_X8_thrown l D dA hst M2 (v + 36) hab2.2.1.1) dL_law_899 yY_X8_thrown gL_law_X8_thrown rfl cs11 (show v + 36 < jn M2 by have := hab2.1.1.1; omega) hab2.2.1.1.2.1 rfl ⟨by omega, by omega⟩ ⟨Nat.zero_le _, Nat.zero_le _⟩ rfl (Nat.le_of_ble_eq_true rfl)) (rfl) (rfl) ?_
  refine J_topi (y := (x6)) (by exact hcd) ?_
  refine J_iload dL_law_902 rfl ?_
  refine J_icmp_eq dL_law_904 (tgt := 909) (by decide) (fun c904 => ?_) (fun c904 => ?_)
  · refine J_iload dL_law_909 rfl ?_
    refine J_if_ne dL_law_911 (tgt := 926) (by decide) (fun c911 => ?_) (fun c911 => ?_)
    · refine J_goto (tgt := 1952) dL_law_926 (by decide) ?_
      refine J_fg 6 (lv' := [.retAddr (4), .ref (v), .ref (v + 36), .ref (v + 50), .ref (v + 51), .int (nI (i)), .float 0, .int (x7), .float 0]) rfl ?_
      refine J_fg 7 (lv' := [.retAddr (4), .ref (v), .ref (v + 36), .ref (v + 50), .ref (v + 51), .int (nI (i)), .float 0, .float 0, .float 0]) rfl ?_
      refine J_less (bc' := 400 * k) (bs' := 13000 * k + 1000 * cL A) (by omega) (by omega) ?_
      exact next _ _ hab2 hz2
    · obtain ⟨y, hy, hjl⟩ := hout c911
      have hxy := (l_out hq1 ⟨_, hy⟩).2.symm.trans hy
      have hxy : x7 = y := by cases hxy; rfl
      have hv7 : jl M2 (v + 50) 0 = x7.toInt64 := by rw [hq3.2.2.2.2.1, hjl, hxy]
      refine J_aload_n (v + 50) dL_law_914 rfl rfl ?_
      refine J_iconst (x := 0) dL_law_915 (by decide) ?_
      refine J_lald (i := (0)) dL_law_916 (show v + 50 < jn M2 by have := hab2.1.1.1; omega) hab2.2.2.1.1 (by rw [hab2.2.2.1.2]; exact vpin0) ?_
      refine J_iload dL_law_917 rfl ?_
      refine J_i2l dL_law_919 ?_
      refine J_lcmp dL_law_920 ?_
      refine J_if_eq dL_law_921 (tgt := 926) (by decide) (fun c921 => ?_) (fun c921 => ?_)
      · refine J_goto (tgt := 1952) dL_law_926 (by decide) ?_
        refine J_fg 6 (lv' := [.retAddr (4), .ref (v), .ref (v + 36), .ref (v + 50), .ref (v + 51), .int (nI (i)), .float 0, .int (x7), .float 0]) rfl ?_
        refine J_fg 7 (lv' := [.retAddr (4), .ref (v), .ref (v + 36), .ref (v + 50), .ref (v + 51), .int (nI (i)), .float 0, .float 0, .float 0]) rfl ?_
        refine J_less (bc' := 400 * k) (bs' := 13000 * k + 1000 * cL A) (by omega) (by omega) ?_
        exact next _ _ hab2 hz2
      · exact absurd (by rw [show jl M2 (v + 50) (Int32.toNatClampNeg 0) = x7.toInt64 from hv7]; exact lg_cmp_self) c921
  · exact absurd rfl c904

