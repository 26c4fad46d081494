theorem dL_law_1740 : decode cL_law 1740 = .ok (.aload_n 1, 1) := by decide +kernel
theorem dL_law_1741 : decode cL_law 1741 = .ok (.aload_n 0, 1) := by decide +kernel
theorem dL_law_1742 : decode cL_law 1742 = .ok (.iload 5, 2) := by decide +kernel
theorem dL_law_1744 : decode cL_law 1744 = .ok (.iconst 1, 1) := by decide +kernel
theorem dL_law_1745 : decode cL_law 1745 = .ok (.iadd, 1) := by decide +kernel
theorem dL_law_1746 : decode cL_law 1746 = .ok (.iaload, 1) := by decide +kernel
theorem dL_law_1747 : decode cL_law 1747 = .ok (.aload 4, 2) := by decide +kernel
theorem dL_law_1749 : decode cL_law 1749 = .ok (.invokestatic 204, 3) := by decide +kernel
set_option maxRecDepth 20000 in
theorem ggL_law_L_share : GoodIn wsL_law wsL_share := goodIn_ca (goodIn_ca (goodIn_ca (goodIn_ca (goodIn_r _ [1219, 117, 626, 1220, 1221, 1222, 1223, 2, 1224, 1225, 1226, 23, 631, 632, 633, 634, 635, 636, 127, 128, 129, 130, 131, 599, 505, 506, 22, 507, 38, 1129, 775, 776, 777, 41, 1205, 1206, 1207, 1208, 1138, 779, 780, 781, 40, 1193, 681, 682, 157, 683, 255, 256, 257, 258, 243, 244, 245, 246, 165, 234, 235, 236, 237, 247, 248, 249, 250, 684, 685, 686, 687, 688, 251, 252, 253, 254, 1318, 1319, 1320, 1321, 1322, 1323, 1324, 1325, 1326, 1327, 1359, 1360, 1361, 1386] (by decide +kernel) (by decide +kernel)) (goodIn_sub (fun _ h => List.mem_append_left _ (List.mem_append_left _ (List.mem_append_left _ (List.mem_append_left _ (List.mem_append_left _ (List.mem_append_left _ (List.mem_append_left _ (List.mem_append_right _ h)))))))) (by decide +kernel))) (goodIn_sub (fun _ h => List.mem_append_right _ h) (by decide +kernel))) (goodIn_sub (fun _ h => List.mem_append_left _ (List.mem_append_right _ h)) (by decide +kernel))) (goodIn_sub (fun _ h => List.mem_append_left _ (List.mem_append_left _ (List.mem_append_left _ (List.mem_append_left _ (List.mem_append_left _ (List.mem_append_right _ h)))))) (by decide +kernel))
set_option maxRecDepth 20000 in
theorem gL_law_L_share : GoodIn wsL_law (va_wsS RL 204 yL_share wsL_share) := goodIn_app (goodIn_of _ (by decide +kernel)) ggL_law_L_share
theorem yYH_L_share : jYH yL_share wsL_share cL_share 4 (some .int) [(0, 8, 11, 19), (0, 8, 14, 43), (0, 8, 17, 103)] 3 := ⟨⟨_, rfl⟩, by decide +kernel, by decide +kernel, by decide +kernel⟩
theorem dL_law_1752 : decode cL_law 1752 = .ok (.istore 6, 2) := by decide +kernel
theorem dL_law_1754 : decode cL_law 1754 = .ok (.aload_n 2, 1) := by decide +kernel
theorem dL_law_1755 : decode cL_law 1755 = .ok (.aload_n 0, 1) := by decide +kernel
theorem dL_law_1756 : decode cL_law 1756 = .ok (.iload 5, 2) := by decide +kernel
theorem dL_law_1758 : decode cL_law 1758 = .ok (.iconst 1, 1) := by decide +kernel
theorem dL_law_1759 : decode cL_law 1759 = .ok (.iadd, 1) := by decide +kernel
theorem dL_law_1760 : decode cL_law 1760 = .ok (.iaload, 1) := by decide +kernel
theorem dL_law_1761 : decode cL_law 1761 = .ok (.invokevirtual 207, 3) := by decide +kernel
set_option maxRecDepth 20000 in
theorem ggL_law_X8_share : GoodIn wsL_law wsX8_share := goodIn_ca (goodIn_r _ [1230, 74, 641, 642, 643, 5, 644, 342, 343, 344, 553, 554, 555, 556, 105, 106, 107, 108, 109, 1213, 1214, 1215, 1216, 697, 698, 699, 700, 414, 410, 411, 412, 413, 701, 702, 703, 1328, 1329, 1330, 1331, 1332, 1333, 1334, 1335, 1336, 1337, 1338, 1339, 1340, 1341, 1342, 1343, 1344, 1345, 1346, 1347, 1348, 1349, 1350, 1351, 1352, 1353, 1354, 1355, 1356, 1357, 1358] (by decide +kernel) (by decide +kernel)) (goodIn_sub (fun _ h => List.mem_append_left _ (List.mem_append_left _ (List.mem_append_left _ (List.mem_append_left _ (List.mem_append_left _ (List.mem_append_left _ (List.mem_append_left _ (List.mem_append_right _ h)))))))) (by decide +kernel))
set_option maxRecDepth 20000 in
theorem gL_law_X8_share : GoodIn wsL_law (wsV RL 207 RX8 yX8_share wsX8_share) := goodIn_app (goodIn_of _ (by decide +kernel)) ggL_law_X8_share
theorem yY_X8_share : jY yX8_share wsX8_share cX8_share 2 (some .double) 1 := ⟨⟨_, rfl⟩, by decide +kernel, by decide +kernel, by decide +kernel⟩
theorem dL_law_1764 : decode cL_law 1764 = .ok (.dstore 7, 2) := by decide +kernel
theorem dL_law_1766 : decode cL_law 1766 = .ok (.aload_n 2, 1) := by decide +kernel
theorem dL_law_1767 : decode cL_law 1767 = .ok (.invokevirtual 124, 3) := by decide +kernel
theorem dL_law_1770 : decode cL_law 1770 = .ok (.iload 6, 2) := by decide +kernel
theorem dL_law_1772 : decode cL_law 1772 = .ok (.if_icmp .eq 5, 3) := by decide +kernel
theorem dL_law_1777 : decode cL_law 1777 = .ok (.iload 6, 2) := by decide +kernel
theorem dL_law_1779 : decode cL_law 1779 = .ok (.ifCond .ne 35, 3) := by decide +kernel
theorem dL_law_1814 : decode cL_law 1814 = .ok (.goto 138, 3) := by decide +kernel
theorem dL_law_1782 : decode cL_law 1782 = .ok (.aload 4, 2) := by decide +kernel
theorem dL_law_1784 : decode cL_law 1784 = .ok (.iconst 0, 1) := by decide +kernel
theorem dL_law_1785 : decode cL_law 1785 = .ok (.daload, 1) := by decide +kernel
theorem dL_law_1786 : decode cL_law 1786 = .ok (.dload 7, 2) := by decide +kernel
theorem dL_law_1788 : decode cL_law 1788 = .ok (.dcmp .l, 1) := by decide +kernel
theorem dL_law_1789 : decode cL_law 1789 = .ok (.ifCond .eq 25, 3) := by decide +kernel
theorem dL_law_1792 : decode cL_law 1792 = .ok (.aload 4, 2) := by decide +kernel
theorem dL_law_1794 : decode cL_law 1794 = .ok (.iconst 0, 1) := by decide +kernel
theorem dL_law_1795 : decode cL_law 1795 = .ok (.daload, 1) := by decide +kernel
theorem dL_law_1796 : decode cL_law 1796 = .ok (.aload 4, 2) := by decide +kernel
theorem dL_law_1798 : decode cL_law 1798 = .ok (.iconst 0, 1) := by decide +kernel
theorem dL_law_1799 : decode cL_law 1799 = .ok (.daload, 1) := by decide +kernel
theorem dL_law_1800 : decode cL_law 1800 = .ok (.dcmp .l, 1) := by decide +kernel
theorem dL_law_1801 : decode cL_law 1801 = .ok (.ifCond .eq 11, 3) := by decide +kernel
theorem dL_law_1804 : decode cL_law 1804 = .ok (.dload 7, 2) := by decide +kernel
theorem dL_law_1806 : decode cL_law 1806 = .ok (.dload 7, 2) := by decide +kernel
theorem dL_law_1808 : decode cL_law 1808 = .ok (.dcmp .l, 1) := by decide +kernel
theorem dL_law_1809 : decode cL_law 1809 = .ok (.ifCond .ne 5, 3) := by decide +kernel
set_option maxHeartbeats 1000000 in
set_option maxRecDepth 20000 in
theorem law_1740 (l : Launch) (D : va_G) (dA : Nat → ClassId) (hst : l.stackTraces = false) {F : jFin} {n0 : Nat} {hh : List (Nat × Nat × Nat × Nat)} {fr lo : Nat} (hfr : 700 ≤ fr) (hlo : 9000 ≤ lo) (M : jM) (v i k : Nat) (A : cA) (h : lAb M v A A) (hz : zA A) (hi : i + 5 ≤ jSL dA) (hL : jSL dA ≤ 2560) (next : ∀ M1 A1, lAb M1 v A1 A1 → zA A1 → J l D dA RL cL_law wsL_law 9 false (some .boolean) hh fr lo F n0 (400 * k) (13000 * k + 1000 * cL A1) M1 1952 [.retAddr 4, .ref v, .ref (v + 36), .ref (v + 50), .ref (v + 51), .int (nI i), .float 0, .float 0, .float 0] []) : J l D dA RL cL_law wsL_law 9 false (some .boolean) hh fr lo F n0 (400 * (k + 1)) (13000 * (k + 1) + 1000 * cL A) (M) 1740 [.retAddr (4), .ref (v), .ref (v + 36), .ref (v + 50), .ref (v + 51), .int (nI (i)), .float 0, .float 0, .float 0] [] := by
  have h60 : cL A ≤ 60 := h.1.2.2.1.2.2.2.2.2.2.2.2.1
  refine J_aload_n (v) dL_law_1740 rfl rfl ?_
  refine J_aload_ns (4) dL_law_1741 rfl rfl ?_
  refine J_iload dL_law_1742 rfl ?_
  refine J_iconst (x := 1) dL_law_1744 (by decide) ?_
  refine J_iadd dL_law_1745 ?_
  refine J_topi (y := nI (i + 1)) (nI_add (i) (1)) ?_
  refine J_sld (kq := i + 1) dL_law_1746 (by omega) ?_
  refine J_aload (v + 51) dL_law_1747 rfl ?_
  refine J_calli (jrunSH (As := [.ref (v), .int (jSX dA (i + 1)), .ref (v + 51)]) (ct_L_share l D dA hst M v A h.1 ((jSX dA (i + 1)))  (v + 51) (show v + 51 < jn M by have := h.1.1.1; omega) h.2.2.2.1 h.2.2.2.2) dL_law_1749 yYH_L_share gL_law_L_share rfl ⟨by omega, by omega⟩ ⟨by omega, by omega⟩ rfl (Nat.le_of_ble_eq_true rfl)) ⟨by omega, by omega⟩ (Or.inr ⟨(jOk.fs (jOk.ref (show v < jn M by have := h.1.1.1; omega) (jOk.ref (show v + 36 < jn M by have := h.1.1.1; omega) (jOk.ref (show v + 50 < jn M by have := h.1.1.1; omega) (jOk.ref (show v + 51 < jn M by have := h.1.1.1; omega) (jOk.int (jOk.float (jOk.float (jOk.float jOk.nil))))))))), jOk.nil⟩) (fun E M9 hp _ => by obtain ⟨K, _, _, h9⟩ := hp; rcases h9 with ⟨h9, _⟩ | ⟨_, _, _, _, _, h9, _⟩ <;> exact nomatch h9) (fun x6 M1 hp hle => ?_)
  obtain ⟨hab1, h6, hout⟩ := lPr.d h hp
  refine J_istore (lv' := [.retAddr (4), .ref (v), .ref (v + 36), .ref (v + 50), .ref (v + 51), .int (nI (i)), .int (x6), .float 0, .float 0]) dL_law_1752 (by decide) rfl rfl ?_
  refine J_aload_n (v + 36) dL_law_1754 rfl rfl ?_
  refine J_aload_ns (4) dL_law_1755 rfl rfl ?_
  refine J_iload dL_law_1756 rfl ?_
  refine J_iconst (x := 1) dL_law_1758 (by decide) ?_
  refine J_iadd dL_law_1759 ?_
  refine J_topi (y := nI (i + 1)) (nI_add (i) (1)) ?_
  refine J_sld (kq := i + 1) dL_law_1760 (by omega) ?_
  refine J_calld (jrunV (As := [.int (jSX dA (i + 1))]) (ct_X8_share l D dA hst M1 (v + 36) A hab1.2.1 hz.1 ((jSX dA (i + 1)))) dL_law_1761 yY_X8_share gL_law_X8_share rfl cs11 (show v + 36 < jn M1 by have := hab1.1.1.1; omega) hab1.2.1.1.2.1 rfl ⟨by omega, by omega⟩ ⟨Nat.zero_le _, Nat.zero_le _⟩ rfl (Nat.le_of_ble_eq_true rfl)) ⟨Nat.zero_le _, Nat.zero_le _⟩ (Or.inr ⟨(jOk.fs (jOk.ref (show v < jn M1 by have := hab1.1.1.1; omega) (jOk.ref (show v + 36 < jn M1 by have := hab1.1.1.1; omega) (jOk.ref (show v + 50 < jn M1 by have := hab1.1.1.1; omega) (jOk.ref (show v + 51 < jn M1 by have := hab1.1.1.1; omega) (jOk.int (jOk.int (jOk.float (jOk.float jOk.nil))))))))), jOk.nil⟩) (fun E M9 hp _ => by obtain ⟨_, _, _, u, hu⟩ := hp; exact nomatch hu) (fun x7 M2 hq hle2 => ?_)
  obtain ⟨hq1, hq2, hq3, hq4⟩ := hq
  have hab2 := hab1.mf hq2 hq3
  have hcd : ji M2 (v + 36) 11 = x6 := l_code (by decide +kernel) hq1 hq4 h6
  have hz2 : zA A := hz
  have hcl : True := trivial
  refine J_dstore (lv' := [.retAddr (4), .ref (v), .ref (v + 36), .ref (v + 50), .ref (v + 51), .int (nI (i)), .int (x6), .double (x7), .float 0]) dL_law_1764 (by decide) rfl rfl ?_
  refine J_aload_n (v + 36) dL_law_1766 rfl rfl ?_
  refine J_calli0 (jrunV (As := []) (ct_X8_thrown l D dA hst M2 (v + 36) hab2.2.1.1) dL_law_1767 yY_X8_thrown gL_law_X8_thrown rfl cs11 (show v + 36 < jn M2 by have := hab2.1.1.1; omega) hab2.2.1.1.2.1 rfl ⟨by omega, by omega⟩ ⟨Nat.zero_le _, Nat.zero_le _⟩ rfl (Nat.le_of_ble_eq_true rfl)) (rfl) (rfl) ?_
  refine J_topi (y := (x6)) (by exact hcd) ?_
  refine J_iload dL_law_1770 rfl ?_
  refine J_icmp_eq dL_law_1772 (tgt := 1777) (by decide) (fun c1772 => ?_) (fun c1772 => ?_)
  · refine J_iload dL_law_1777 rfl ?_
    refine J_if_ne dL_law_1779 (tgt := 1814) (by decide) (fun c1779 => ?_) (fun c1779 => ?_)
    · refine J_goto (tgt := 1952) dL_law_1814 (by decide) ?_
      refine J_fg 6 (lv' := [.retAddr (4), .ref (v), .ref (v + 36), .ref (v + 50), .ref (v + 51), .int (nI (i)), .float 0, .double (x7), .float 0]) rfl ?_
      refine J_fg 7 (lv' := [.retAddr (4), .ref (v), .ref (v + 36), .ref (v + 50), .ref (v + 51), .int (nI (i)), .float 0, .float 0, .float 0]) rfl ?_
      refine J_less (bc' := 400 * k) (bs' := 13000 * k + 1000 * cL A) (by omega) (by omega) ?_
      exact next _ _ hab2 hz2
    · obtain ⟨y, hy, hjl⟩ := hout c1779
      have hxy := (l_out hq1 ⟨_, hy⟩).2.symm.trans hy
      have hxy : x7 = y := by cases hxy; rfl
      have hv7 : jd M2 (v + 51) (Int32.toNatClampNeg 0) = x7 := by show jd M2 (v + 51) 0 = x7; rw [hq3.2.2.2.2.2.1, hjl, hxy]
      refine J_aload (v + 51) dL_law_1782 rfl ?_
      refine J_iconst (x := 0) dL_law_1784 (by decide) ?_
      refine J_dald (i := (0)) dL_law_1785 (show v + 51 < jn M2 by have := hab2.1.1.1; omega) hab2.2.2.2.1 (by rw [hab2.2.2.2.2]; exact vpin0) ?_
      refine J_dload dL_law_1786 rfl ?_
      refine J_dcmp dL_law_1788 ?_
      refine J_if_eq dL_law_1789 (tgt := 1814) (by decide) (fun c1789 => ?_) (fun c1789 => ?_)
      · refine J_goto (tgt := 1952) dL_law_1814 (by decide) ?_
        refine J_fg 6 (lv' := [.retAddr (4), .ref (v), .ref (v + 36), .ref (v + 50), .ref (v + 51), .int (nI (i)), .float 0, .double (x7), .float 0]) rfl ?_
        refine J_fg 7 (lv' := [.retAddr (4), .ref (v), .ref (v + 36), .ref (v + 50), .ref (v + 51), .int (nI (i)), .float 0, .float 0, .float 0]) rfl ?_
        refine J_less (bc' := 400 * k) (bs' := 13000 * k + 1000 * cL A) (by omega) (by omega) ?_
        exact next _ _ hab2 hz2
      · rw [hv7] at c1789
        refine J_aload (v + 51) dL_law_1792 rfl ?_
        refine J_iconst (x := 0) dL_law_1794 (by decide) ?_
        refine J_dald (i := (0)) dL_law_1795 (show v + 51 < jn M2 by have := hab2.1.1.1; omega) hab2.2.2.2.1 (by rw [hab2.2.2.2.2]; exact vpin0) ?_
        refine J_aload (v + 51) dL_law_1796 rfl ?_
        refine J_iconst (x := 0) dL_law_1798 (by decide) ?_
        refine J_dald (i := (0)) dL_law_1799 (show v + 51 < jn M2 by have := hab2.1.1.1; omega) hab2.2.2.2.1 (by rw [hab2.2.2.2.2]; exact vpin0) ?_
        refine J_dcmp dL_law_1800 ?_
        refine J_if_eq dL_law_1801 (tgt := 1812) (by decide) (fun c1801 => ?_) (fun c1801 => ?_)
        · rw [hv7] at c1801; exact absurd c1801 c1789
        · refine J_dload dL_law_1804 rfl ?_
          refine J_dload dL_law_1806 rfl ?_
          refine J_dcmp dL_law_1808 ?_
          refine J_if_ne dL_law_1809 (tgt := 1814) (by decide) (fun c1809 => ?_) (fun c1809 => ?_)
          · refine J_goto (tgt := 1952) dL_law_1814 (by decide) ?_
            refine J_fg 6 (lv' := [.retAddr (4), .ref (v), .ref (v + 36), .ref (v + 50), .ref (v + 51), .int (nI (i)), .float 0, .double (x7), .float 0]) rfl ?_
            refine J_fg 7 (lv' := [.retAddr (4), .ref (v), .ref (v + 36), .ref (v + 50), .ref (v + 51), .int (nI (i)), .float 0, .float 0, .float 0]) rfl ?_
            refine J_less (bc' := 400 * k) (bs' := 13000 * k + 1000 * cL A) (by omega) (by omega) ?_
            exact next _ _ hab2 hz2
          · exact absurd c1809 c1789
  · exact absurd rfl c1772

theorem dL_law_1817 : decode cL_law 1817 = .ok (.aload_n 1, 1) := by decide +kernel
theorem dL_law_1818 : decode cL_law 1818 = .ok (.aload_n 0, 1) := by decide +kernel
theorem dL_law_1819 : decode cL_law 1819 = .ok (.iload 5, 2) := by decide +kernel
theorem dL_law_1821 : decode cL_law 1821 = .ok (.iconst 1, 1) := by decide +kernel
theorem dL_law_1822 : decode cL_law 1822 = .ok (.iadd, 1) := by decide +kernel
theorem dL_law_1823 : decode cL_law 1823 = .ok (.iaload, 1) := by decide +kernel
theorem dL_law_1824 : decode cL_law 1824 = .ok (.aload_n 3, 1) := by decide +kernel
theorem dL_law_1825 : decode cL_law 1825 = .ok (.invokestatic 208, 3) := by decide +kernel
set_option maxRecDepth 20000 in
theorem ggL_law_L_account : GoodIn wsL_law wsL_account := goodIn_ca (goodIn_ca (goodIn_r _ [1233, 118, 1234, 1235, 1236, 2, 1237, 285, 286, 23, 16, 611, 612, 613, 22, 614, 38, 1238, 1239, 1240, 1241, 1242, 235, 236, 157, 237, 165, 1243, 1244, 1245, 1246, 1247, 152, 149, 153, 1129, 775, 776, 777, 41, 1248, 1249, 1250, 1251, 1138, 779, 780, 781, 40, 684, 685, 1252, 1253, 1254, 1255, 1256, 1257, 1258, 1259, 1260, 256, 257, 258, 243, 244, 245, 246, 234, 247, 248, 249, 250, 1261, 1262, 1263, 1264, 1265, 729, 730, 731, 1318, 1319, 1320, 1321, 1322, 1323, 1324, 1325, 1326, 1327, 1359, 1360, 1361, 1386] (by decide +kernel) (by decide +kernel)) (goodIn_sub (fun _ h => List.mem_append_left _ (List.mem_append_left _ (List.mem_append_left _ (List.mem_append_left _ (List.mem_append_left _ (List.mem_append_left _ (List.mem_append_left _ (List.mem_append_right _ h)))))))) (by decide +kernel))) (goodIn_sub (fun _ h => List.mem_append_left _ (List.mem_append_left _ (List.mem_append_left _ (List.mem_append_left _ (List.mem_append_right _ h))))) (by decide +kernel))
set_option maxRecDepth 20000 in
theorem gL_law_L_account : GoodIn wsL_law (va_wsS RL 208 yL_account wsL_account) := goodIn_app (goodIn_of _ (by decide +kernel)) ggL_law_L_account
theorem yYH_L_account : jYH yL_account wsL_account cL_account 4 (some .int) [(0, 9, 12, 21)] 3 := ⟨⟨_, rfl⟩, by decide +kernel, by decide +kernel, by decide +kernel⟩
theorem dL_law_1828 : decode cL_law 1828 = .ok (.istore 6, 2) := by decide +kernel
theorem dL_law_1830 : decode cL_law 1830 = .ok (.aload_n 2, 1) := by decide +kernel
theorem dL_law_1831 : decode cL_law 1831 = .ok (.aload_n 0, 1) := by decide +kernel
theorem dL_law_1832 : decode cL_law 1832 = .ok (.iload 5, 2) := by decide +kernel
theorem dL_law_1834 : decode cL_law 1834 = .ok (.iconst 1, 1) := by decide +kernel
theorem dL_law_1835 : decode cL_law 1835 = .ok (.iadd, 1) := by decide +kernel
theorem dL_law_1836 : decode cL_law 1836 = .ok (.iaload, 1) := by decide +kernel
theorem dL_law_1837 : decode cL_law 1837 = .ok (.invokevirtual 210, 3) := by decide +kernel
set_option maxRecDepth 20000 in
theorem ggL_law_X8_account : GoodIn wsL_law wsX8_account := goodIn_ca (goodIn_r _ [1269, 74, 104, 105, 106, 107, 5, 108, 109, 619, 620, 621, 622, 553, 554, 555, 556, 701, 702, 703, 1270, 1271, 1272, 1273, 697, 698, 699, 700, 414, 410, 411, 412, 413, 1328, 1329, 1330, 1331, 1332, 1333, 1334, 1335, 1336, 1337, 1338, 1339, 1340, 1341, 1342, 1343, 1344, 1345, 1346, 1347, 1348, 1349, 1350, 1351, 1352, 1353, 1354, 1355, 1356, 1357, 1358] (by decide +kernel) (by decide +kernel)) (goodIn_sub (fun _ h => List.mem_append_left _ (List.mem_append_left _ (List.mem_append_left _ (List.mem_append_left _ (List.mem_append_left _ (List.mem_append_left _ (List.mem_append_left _ (List.mem_append_right _ h)))))))) (by decide +kernel))
set_option maxRecDepth 20000 in
theorem gL_law_X8_account : GoodIn wsL_law (wsV RL 210 RX8 yX8_account wsX8_account) := goodIn_app (goodIn_of _ (by decide +kernel)) ggL_law_X8_account
theorem yY_X8_account : jY yX8_account wsX8_account cX8_account 4 (some .int) 1 := ⟨⟨_, rfl⟩, by decide +kernel, by decide +kernel, by decide +kernel⟩
theorem dL_law_1840 : decode cL_law 1840 = .ok (.istore 7, 2) := by decide +kernel
theorem dL_law_1842 : decode cL_law 1842 = .ok (.aload_n 2, 1) := by decide +kernel
theorem dL_law_1843 : decode cL_law 1843 = .ok (.invokevirtual 124, 3) := by decide +kernel
theorem dL_law_1846 : decode cL_law 1846 = .ok (.iload 6, 2) := by decide +kernel
theorem dL_law_1848 : decode cL_law 1848 = .ok (.if_icmp .eq 5, 3) := by decide +kernel
theorem dL_law_1853 : decode cL_law 1853 = .ok (.iload 6, 2) := by decide +kernel
theorem dL_law_1855 : decode cL_law 1855 = .ok (.ifCond .ne 15, 3) := by decide +kernel
theorem dL_law_1870 : decode cL_law 1870 = .ok (.goto 82, 3) := by decide +kernel
theorem dL_law_1858 : decode cL_law 1858 = .ok (.aload_n 3, 1) := by decide +kernel
theorem dL_law_1859 : decode cL_law 1859 = .ok (.iconst 0, 1) := by decide +kernel
theorem dL_law_1860 : decode cL_law 1860 = .ok (.laload, 1) := by decide +kernel
theorem dL_law_1861 : decode cL_law 1861 = .ok (.iload 7, 2) := by decide +kernel
theorem dL_law_1863 : decode cL_law 1863 = .ok (.i2l, 1) := by decide +kernel
theorem dL_law_1864 : decode cL_law 1864 = .ok (.lcmp, 1) := by decide +kernel
theorem dL_law_1865 : decode cL_law 1865 = .ok (.ifCond .eq 5, 3) := by decide +kernel
set_option maxHeartbeats 1000000 in
set_option maxRecDepth 20000 in
theorem law_1817 (l : Launch) (D : va_G) (dA : Nat → ClassId) (hst : l.stackTraces = false) {F : jFin} {n0 : Nat} {hh : List (Nat × Nat × Nat × Nat)} {fr lo : Nat} (hfr : 700 ≤ fr) (hlo : 9000 ≤ lo) (M : jM) (v i k : Nat) (A : cA) (h : lAb M v A A) (hz : zA A) (hi : i + 5 ≤ jSL dA) (hL : jSL dA ≤ 2560) (next : ∀ M1 A1, lAb M1 v A1 A1 → zA A1 → J l D dA RL cL_law wsL_law 9 false (some .boolean) hh fr lo F n0 (400 * k) (13000 * k + 1000 * cL A1) M1 1952 [.retAddr 4, .ref v, .ref (v + 36), .ref (v + 50), .ref (v + 51), .int (nI i), .float 0, .float 0, .float 0] []) : J l D dA RL cL_law wsL_law 9 false (some .boolean) hh fr lo F n0 (400 * (k + 1)) (13000 * (k + 1) + 1000 * cL A) (M) 1817 [.retAddr (4), .ref (v), .ref (v + 36), .ref (v + 50), .ref (v + 51), .int (nI (i)), .float 0, .float 0, .float 0] [] := by
  have h60 : cL A ≤ 60 := h.1.2.2.1.2.2.2.2.2.2.2.2.1
  refine J_aload_n (v) dL_law_1817 rfl rfl ?_
  refine J_aload_ns (4) dL_law_1818 rfl rfl ?_
  refine J_iload dL_law_1819 rfl ?_
  refine J_iconst (x := 1) dL_law_1821 (by decide) ?_
  refine J_iadd dL_law_1822 ?_
  refine J_topi (y := nI (i + 1)) (nI_add (i) (1)) ?_
  refine J_sld (kq := i + 1) dL_law_1823 (by omega) ?_
  refine J_aload_n (v + 50) dL_law_1824 rfl rfl ?_
  refine J_calli (jrunSH (As := [.ref (v), .int (jSX dA (i + 1)), .ref (v + 50)]) (ct_L_account l D dA hst M v A h.1 ((jSX dA (i + 1)))  (v + 50) (show v + 50 < jn M by have := h.1.1.1; omega) h.2.2.1.1 h.2.2.1.2) dL_law_1825 yYH_L_account gL_law_L_account rfl ⟨by omega, by omega⟩ ⟨by omega, by omega⟩ rfl (Nat.le_of_ble_eq_true rfl)) ⟨by omega, by omega⟩ (Or.inr ⟨(jOk.fs (jOk.ref (show v < jn M by have := h.1.1.1; omega) (jOk.ref (show v + 36 < jn M by have := h.1.1.1; omega) (jOk.ref (show v + 50 < jn M by have := h.1.1.1; omega) (jOk.ref (show v + 51 < jn M by have := h.1.1.1; omega) (jOk.int (jOk.float (jOk.float (jOk.float jOk.nil))))))))), jOk.nil⟩) (fun E M9 hp _ => by obtain ⟨K, _, _, h9⟩ := hp; rcases h9 with ⟨h9, _⟩ | ⟨_, _, _, _, _, h9, _⟩ <;> exact nomatch h9) (fun x6 M1 hp hle => ?_)
  obtain ⟨hab1, h6, hout⟩ := lPr.i h hp
  refine J_istore (lv' := [.retAddr (4), .ref (v), .ref (v + 36), .ref (v + 50), .ref (v + 51), .int (nI (i)), .int (x6), .float 0, .float 0]) dL_law_1828 (by decide) rfl rfl ?_
  refine J_aload_n (v + 36) dL_law_1830 rfl rfl ?_
  refine J_aload_ns (4) dL_law_1831 rfl rfl ?_
  refine J_iload dL_law_1832 rfl ?_
  refine J_iconst (x := 1) dL_law_1834 (by decide) ?_
  refine J_iadd dL_law_1835 ?_
  refine J_topi (y := nI (i + 1)) (nI_add (i) (1)) ?_
  refine J_sld (kq := i + 1) dL_law_1836 (by omega) ?_
  refine J_calli (jrunV (As := [.int (jSX dA (i + 1))]) (ct_X8_account l D dA hst M1 (v + 36) A hab1.2.1 hz.1 ((jSX dA (i + 1)))) dL_law_1837 yY_X8_account gL_law_X8_account rfl cs11 (show v + 36 < jn M1 by have := hab1.1.1.1; omega) hab1.2.1.1.2.1 rfl ⟨by omega, by omega⟩ ⟨Nat.zero_le _, Nat.zero_le _⟩ rfl (Nat.le_of_ble_eq_true rfl)) ⟨Nat.zero_le _, Nat.zero_le _⟩ (Or.inr ⟨(jOk.fs (jOk.ref (show v < jn M1 by have := hab1.1.1.1; omega) (jOk.ref (show v + 36 < jn M1 by have := hab1.1.1.1; omega) (jOk.ref (show v + 50 < jn M1 by have := hab1.1.1.1; omega) (jOk.ref (show v + 51 < jn M1 by have := hab1.1.1.1; omega) (jOk.int (jOk.int (jOk.float (jOk.float jOk.nil))))))))), jOk.nil⟩) (fun E M9 hp _ => by obtain ⟨_, _, _, u, hu⟩ := hp; exact nomatch hu) (fun x7 M2 hq hle2 => ?_)
  obtain ⟨hq1, hq2, hq3, hq4⟩ := hq
  have hab2 := hab1.mf hq2 hq3
  have hcd : ji M2 (v + 36) 11 = x6 := l_code (by decide +kernel) hq1 hq4 h6
  have hz2 : zA A := hz
  have hcl : True := trivial
  refine J_istore (lv' := [.retAddr (4), .ref (v), .ref (v + 36), .ref (v + 50), .ref (v + 51), .int (nI (i)), .int (x6), .int (x7), .float 0]) dL_law_1840 (by decide) rfl rfl ?_
  refine J_aload_n (v + 36) dL_law_1842 rfl rfl ?_
  refine J_calli0 (jrunV (As := []) (ct_X8_thrown l D dA hst M2 (v + 36) hab2.2.1.1) dL_law_1843 yY_X8_thrown gL_law_X8_thrown rfl cs11 (show v + 36 < jn M2 by have := hab2.1.1.1; omega) hab2.2.1.1.2.1 rfl ⟨by omega, by omega⟩ ⟨Nat.zero_le _, Nat.zero_le _⟩ rfl (Nat.le_of_ble_eq_true rfl)) (rfl) (rfl) ?_
  refine J_topi (y := (x6)) (by exact hcd) ?_
  refine J_iload dL_law_1846 rfl ?_
  refine J_icmp_eq dL_law_1848 (tgt := 1853) (by decide) (fun c1848 => ?_) (fun c1848 => ?_)
  · refine J_iload dL_law_1853 rfl ?_
    refine J_if_ne dL_law_1855 (tgt := 1870) (by decide) (fun c1855 => ?_) (fun c1855 => ?_)
    · refine J_goto (tgt := 1952) dL_law_1870 (by decide) ?_
      refine J_fg 6 (lv' := [.retAddr (4), .ref (v), .ref (v + 36), .ref (v + 50), .ref (v + 51), .int (nI (i)), .float 0, .int (x7), .float 0]) rfl ?_
      refine J_fg 7 (lv' := [.retAddr (4), .ref (v), .ref (v + 36), .ref (v + 50), .ref (v + 51), .int (nI (i)), .float 0, .float 0, .float 0]) rfl ?_
      refine J_less (bc' := 400 * k) (bs' := 13000 * k + 1000 * cL A) (by omega) (by omega) ?_
      exact next _ _ hab2 hz2
    · obtain ⟨y, hy, hjl⟩ := hout c1855
      have hxy := (l_out hq1 ⟨_, hy⟩).2.symm.trans hy
      have hxy : x7 = y := by cases hxy; rfl
      have hv7 : jl M2 (v + 50) 0 = x7.toInt64 := by rw [hq3.2.2.2.2.1, hjl, hxy]
      refine J_aload_n (v + 50) dL_law_1858 rfl rfl ?_
      refine J_iconst (x := 0) dL_law_1859 (by decide) ?_
      refine J_lald (i := (0)) dL_law_1860 (show v + 50 < jn M2 by have := hab2.1.1.1; omega) hab2.2.2.1.1 (by rw [hab2.2.2.1.2]; exact vpin0) ?_
      refine J_iload dL_law_1861 rfl ?_
      refine J_i2l dL_law_1863 ?_
      refine J_lcmp dL_law_1864 ?_
      refine J_if_eq dL_law_1865 (tgt := 1870) (by decide) (fun c1865 => ?_) (fun c1865 => ?_)
      · refine J_goto (tgt := 1952) dL_law_1870 (by decide) ?_
        refine J_fg 6 (lv' := [.retAddr (4), .ref (v), .ref (v + 36), .ref (v + 50), .ref (v + 51), .int (nI (i)), .float 0, .int (x7), .float 0]) rfl ?_
        refine J_fg 7 (lv' := [.retAddr (4), .ref (v), .ref (v + 36), .ref (v + 50), .ref (v + 51), .int (nI (i)), .float 0, .float 0, .float 0]) rfl ?_
        refine J_less (bc' := 400 * k) (bs' := 13000 * k + 1000 * cL A) (by omega) (by omega) ?_
        exact next _ _ hab2 hz2
      · exact absurd (by rw [show jl M2 (v + 50) (Int32.toNatClampNeg 0) = x7.toInt64 from hv7]; exact lg_cmp_self) c1865
  · exact absurd rfl c1848

theorem dL_law_1873 : decode cL_law 1873 = .ok (.aload_n 1, 1) := by decide +kernel
theorem dL_law_1874 : decode cL_law 1874 = .ok (.aload_n 3, 1) := by decide +kernel
theorem dL_law_1875 : decode cL_law 1875 = .ok (.invokestatic 211, 3) := by decide +kernel
set_option maxRecDepth 20000 in
theorem ggL_law_L_undo : GoodIn wsL_law wsL_undo := goodIn_ca (goodIn_ca (goodIn_r _ [1276, 93, 1277, 1278, 1279, 2, 1280, 98, 99, 29, 23, 1281, 1282, 1283, 28, 1284, 49, 1285, 1286, 1287, 1288, 48, 47, 325, 326, 327, 328, 320, 321, 322, 22, 323, 38, 40, 324, 273, 274, 275, 41, 1318, 1319, 1320, 1321, 1322, 1323, 1324, 1325, 1326, 1327, 1362, 1363, 1364, 1359, 1360, 1361] (by decide +kernel) (by decide +kernel)) (goodIn_sub (fun _ h => List.mem_append_left _ (List.mem_append_left _ (List.mem_append_left _ (List.mem_append_left _ (List.mem_append_left _ (List.mem_append_left _ (List.mem_append_left _ (List.mem_append_right _ h)))))))) (by decide +kernel))) (goodIn_sub (fun _ h => List.mem_append_left _ (List.mem_append_left _ (List.mem_append_left _ (List.mem_append_left _ (List.mem_append_left _ (List.mem_append_left _ (List.mem_append_right _ h))))))) (by decide +kernel))
set_option maxRecDepth 20000 in
theorem gL_law_L_undo : GoodIn wsL_law (va_wsS RL 211 yL_undo wsL_undo) := goodIn_app (goodIn_of _ (by decide +kernel)) ggL_law_L_undo
theorem yYH_L_undo : jYH yL_undo wsL_undo cL_undo 3 (some .int) [(0, 8, 11, 13)] 2 := ⟨⟨_, rfl⟩, by decide +kernel, by decide +kernel, by decide +kernel⟩
theorem dL_law_1878 : decode cL_law 1878 = .ok (.istore 6, 2) := by decide +kernel
theorem dL_law_1880 : decode cL_law 1880 = .ok (.aload_n 2, 1) := by decide +kernel
theorem dL_law_1881 : decode cL_law 1881 = .ok (.invokevirtual 213, 3) := by decide +kernel
set_option maxRecDepth 20000 in
theorem ggL_law_X8_undo : GoodIn wsL_law wsX8_undo := goodIn_ca (goodIn_r _ [1292, 426, 74, 75, 105, 106, 107, 5, 108, 109, 1328, 1329, 1330, 1331, 1332, 1333, 1334, 1335, 1336, 1337, 1338, 1339, 1340, 1341, 1342, 1343, 1344, 1345, 1346, 1347, 1348, 1349, 1350, 1351, 1352, 1353, 1354, 1355, 1356, 1357, 1358] (by decide +kernel) (by decide +kernel)) (goodIn_sub (fun _ h => List.mem_append_left _ (List.mem_append_left _ (List.mem_append_left _ (List.mem_append_left _ (List.mem_append_left _ (List.mem_append_left _ (List.mem_append_left _ (List.mem_append_right _ h)))))))) (by decide +kernel))
set_option maxRecDepth 20000 in
theorem gL_law_X8_undo : GoodIn wsL_law (wsV RL 213 RX8 yX8_undo wsX8_undo) := goodIn_app (goodIn_of _ (by decide +kernel)) ggL_law_X8_undo
theorem yY_X8_undo : jY yX8_undo wsX8_undo cX8_undo 2 (some .int) 0 := ⟨⟨_, rfl⟩, by decide +kernel, by decide +kernel, by decide +kernel⟩
theorem dL_law_1884 : decode cL_law 1884 = .ok (.istore 7, 2) := by decide +kernel
theorem dL_law_1886 : decode cL_law 1886 = .ok (.aload_n 2, 1) := by decide +kernel
theorem dL_law_1887 : decode cL_law 1887 = .ok (.invokevirtual 124, 3) := by decide +kernel
theorem dL_law_1890 : decode cL_law 1890 = .ok (.iload 6, 2) := by decide +kernel
theorem dL_law_1892 : decode cL_law 1892 = .ok (.if_icmp .eq 5, 3) := by decide +kernel
theorem dL_law_1897 : decode cL_law 1897 = .ok (.iload 6, 2) := by decide +kernel
theorem dL_law_1899 : decode cL_law 1899 = .ok (.ifCond .ne 15, 3) := by decide +kernel
theorem dL_law_1914 : decode cL_law 1914 = .ok (.goto 38, 3) := by decide +kernel
theorem dL_law_1902 : decode cL_law 1902 = .ok (.aload_n 3, 1) := by decide +kernel
theorem dL_law_1903 : decode cL_law 1903 = .ok (.iconst 0, 1) := by decide +kernel
theorem dL_law_1904 : decode cL_law 1904 = .ok (.laload, 1) := by decide +kernel
theorem dL_law_1905 : decode cL_law 1905 = .ok (.iload 7, 2) := by decide +kernel
theorem dL_law_1907 : decode cL_law 1907 = .ok (.i2l, 1) := by decide +kernel
theorem dL_law_1908 : decode cL_law 1908 = .ok (.lcmp, 1) := by decide +kernel
theorem dL_law_1909 : decode cL_law 1909 = .ok (.ifCond .eq 5, 3) := by decide +kernel
set_option maxHeartbeats 1000000 in
set_option maxRecDepth 20000 in
theorem law_1873 (l : Launch) (D : va_G) (dA : Nat → ClassId) (hst : l.stackTraces = false) {F : jFin} {n0 : Nat} {hh : List (Nat × Nat × Nat × Nat)} {fr lo : Nat} (hfr : 700 ≤ fr) (hlo : 9000 ≤ lo) (M : jM) (v i k : Nat) (A : cA) (h : lAb M v A A) (hz : zA A) (hi : i + 5 ≤ jSL dA) (hL : jSL dA ≤ 2560) (next : ∀ M1 A1, lAb M1 v A1 A1 → zA A1 → J l D dA RL cL_law wsL_law 9 false (some .boolean) hh fr lo F n0 (400 * k) (13000 * k + 1000 * cL A1) M1 1952 [.retAddr 4, .ref v, .ref (v + 36), .ref (v + 50), .ref (v + 51), .int (nI i), .float 0, .float 0, .float 0] []) : J l D dA RL cL_law wsL_law 9 false (some .boolean) hh fr lo F n0 (400 * (k + 1)) (13000 * (k + 1) + 1000 * cL A) (M) 1873 [.retAddr (4), .ref (v), .ref (v + 36), .ref (v + 50), .ref (v + 51), .int (nI (i)), .float 0, .float 0, .float 0] [] := by
  have h60 : cL A ≤ 60 := h.1.2.2.1.2.2.2.2.2.2.2.2.1
  refine J_aload_n (v) dL_law_1873 rfl rfl ?_
  refine J_aload_n (v + 50) dL_law_1874 rfl rfl ?_
  refine J_calli (jrunSH (As := [.ref (v), .ref (v + 50)]) (ct_L_undo l D dA hst M v A h.1   (v + 50) (show v + 50 < jn M by have := h.1.1.1; omega) h.2.2.1.1 h.2.2.1.2) dL_law_1875 yYH_L_undo gL_law_L_undo rfl ⟨by omega, by omega⟩ ⟨by omega, by omega⟩ rfl (Nat.le_of_ble_eq_true rfl)) ⟨by omega, by omega⟩ (Or.inr ⟨(jOk.fs (jOk.ref (show v < jn M by have := h.1.1.1; omega) (jOk.ref (show v + 36 < jn M by have := h.1.1.1; omega) (jOk.ref (show v + 50 < jn M by have := h.1.1.1; omega) (jOk.ref (show v + 51 < jn M by have := h.1.1.1; omega) (jOk.int (jOk.float (jOk.float (jOk.float jOk.nil))))))))), jOk.nil⟩) (fun E M9 hp _ => by obtain ⟨K, _, _, h9⟩ := hp; rcases h9 with ⟨h9, _⟩ | ⟨_, _, _, _, _, h9, _⟩ <;> exact nomatch h9) (fun x6 M1 hp hle => ?_)
  obtain ⟨hab1, h6, hout⟩ := lPr.i h hp
  refine J_istore (lv' := [.retAddr (4), .ref (v), .ref (v + 36), .ref (v + 50), .ref (v + 51), .int (nI (i)), .int (x6), .float 0, .float 0]) dL_law_1878 (by decide) rfl rfl ?_
  refine J_aload_n (v + 36) dL_law_1880 rfl rfl ?_
  refine J_calli (jrunV (As := []) (ct_X8_undo l D dA hst M1 (v + 36) A hab1.2.1 hz.1 ) dL_law_1881 yY_X8_undo gL_law_X8_undo rfl cs11 (show v + 36 < jn M1 by have := hab1.1.1.1; omega) hab1.2.1.1.2.1 rfl ⟨by omega, by omega⟩ ⟨Nat.zero_le _, Nat.zero_le _⟩ rfl (Nat.le_of_ble_eq_true rfl)) ⟨Nat.zero_le _, Nat.zero_le _⟩ (Or.inr ⟨(jOk.fs (jOk.ref (show v < jn M1 by have := hab1.1.1.1; omega) (jOk.ref (show v + 36 < jn M1 by have := hab1.1.1.1; omega) (jOk.ref (show v + 50 < jn M1 by have := hab1.1.1.1; omega) (jOk.ref (show v + 51 < jn M1 by have := hab1.1.1.1; omega) (jOk.int (jOk.int (jOk.float (jOk.float jOk.nil))))))))), jOk.nil⟩) (fun E M9 hp _ => by obtain ⟨_, _, _, u, hu⟩ := hp; exact nomatch hu) (fun x7 M2 hq hle2 => ?_)
  obtain ⟨hq1, hq2, hq3, hq4⟩ := hq
  have hab2 := hab1.mf hq2 hq3
  have hcd : ji M2 (v + 36) 11 = x6 := l_code (by decide +kernel) hq1 hq4 h6
  have hz2 : zA ((sUnd A).2) := hz.und
  have hcl : cL (sUnd A).2 = cL A := cLz_und
  refine J_istore (lv' := [.retAddr (4), .ref (v), .ref (v + 36), .ref (v + 50), .ref (v + 51), .int (nI (i)), .int (x6), .int (x7), .float 0]) dL_law_1884 (by decide) rfl rfl ?_
  refine J_aload_n (v + 36) dL_law_1886 rfl rfl ?_
  refine J_calli0 (jrunV (As := []) (ct_X8_thrown l D dA hst M2 (v + 36) hab2.2.1.1) dL_law_1887 yY_X8_thrown gL_law_X8_thrown rfl cs11 (show v + 36 < jn M2 by have := hab2.1.1.1; omega) hab2.2.1.1.2.1 rfl ⟨by omega, by omega⟩ ⟨Nat.zero_le _, Nat.zero_le _⟩ rfl (Nat.le_of_ble_eq_true rfl)) (rfl) (rfl) ?_
  refine J_topi (y := (x6)) (by exact hcd) ?_
  refine J_iload dL_law_1890 rfl ?_
  refine J_icmp_eq dL_law_1892 (tgt := 1897) (by decide) (fun c1892 => ?_) (fun c1892 => ?_)
  · refine J_iload dL_law_1897 rfl ?_
    refine J_if_ne dL_law_1899 (tgt := 1914) (by decide) (fun c1899 => ?_) (fun c1899 => ?_)
    · refine J_goto (tgt := 1952) dL_law_1914 (by decide) ?_
      refine J_fg 6 (lv' := [.retAddr (4), .ref (v), .ref (v + 36), .ref (v + 50), .ref (v + 51), .int (nI (i)), .float 0, .int (x7), .float 0]) rfl ?_
      refine J_fg 7 (lv' := [.retAddr (4), .ref (v), .ref (v + 36), .ref (v + 50), .ref (v + 51), .int (nI (i)), .float 0, .float 0, .float 0]) rfl ?_
      refine J_less (bc' := 400 * k) (bs' := 13000 * k + 1000 * cL ((sUnd A).2)) (by omega) (by omega) ?_
      exact next _ _ hab2 hz2
    · obtain ⟨y, hy, hjl⟩ := hout c1899
      have hxy := (l_out hq1 ⟨_, hy⟩).2.symm.trans hy
      have hxy : x7 = y := by cases hxy; rfl
      have hv7 : jl M2 (v + 50) 0 = x7.toInt64 := by rw [hq3.2.2.2.2.1, hjl, hxy]
      refine J_aload_n (v + 50) dL_law_1902 rfl rfl ?_
      refine J_iconst (x := 0) dL_law_1903 (by decide) ?_
      refine J_lald (i := (0)) dL_law_1904 (show v + 50 < jn M2 by have := hab2.1.1.1; omega) hab2.2.2.1.1 (by rw [hab2.2.2.1.2]; exact vpin0) ?_
      refine J_iload dL_law_1905 rfl ?_
      refine J_i2l dL_law_1907 ?_
      refine J_lcmp dL_law_1908 ?_
      refine J_if_eq dL_law_1909 (tgt := 1914) (by decide) (fun c1909 => ?_) (fun c1909 => ?_)
      · refine J_goto (tgt := 1952) dL_law_1914 (by decide) ?_
        refine J_fg 6 (lv' := [.retAddr (4), .ref (v), .ref (v + 36), .ref (v + 50), .ref (v + 51), .int (nI (i)), .float 0, .int (x7), .float 0]) rfl ?_
        refine J_fg 7 (lv' := [.retAddr (4), .ref (v), .ref (v + 36), .ref (v + 50), .ref (v + 51), .int (nI (i)), .float 0, .float 0, .float 0]) rfl ?_
        refine J_less (bc' := 400 * k) (bs' := 13000 * k + 1000 * cL ((sUnd A).2)) (by omega) (by omega) ?_
        exact next _ _ hab2 hz2
      · exact absurd (by rw [show jl M2 (v + 50) (Int32.toNatClampNeg 0) = x7.toInt64 from hv7]; exact lg_cmp_self) c1909
  · exact absurd rfl c1892

theorem dL_law_1928 : decode cL_law 1928 = .ok (.aload_n 1, 1) := by decide +kernel
theorem dL_law_1929 : decode cL_law 1929 = .ok (.invokestatic 218, 3) := by decide +kernel
set_option maxRecDepth 20000 in
theorem ggL_law_L_restore : GoodIn wsL_law wsL_restore := goodIn_ca (goodIn_r _ [1305, 93, 1306, 1307, 1308, 2, 1309, 98, 99, 25, 23, 24, 29, 1297, 321, 322, 22, 323, 38, 40, 324, 273, 274, 275, 41, 1310, 1311, 1312, 28, 1313, 49, 1318, 1319, 1320, 1321, 1322, 1323, 1324, 1325, 1326, 1327, 1359, 1360, 1361, 1362, 1363, 1364] (by decide +kernel) (by decide +kernel)) (goodIn_sub (fun _ h => List.mem_append_left _ (List.mem_append_left _ (List.mem_append_left _ (List.mem_append_left _ (List.mem_append_left _ (List.mem_append_left _ (List.mem_append_right _ h))))))) (by decide +kernel))
set_option maxRecDepth 20000 in
theorem gL_law_L_restore : GoodIn wsL_law (va_wsS RL 218 yL_restore wsL_restore) := goodIn_app (goodIn_of _ (by decide +kernel)) ggL_law_L_restore
theorem yYH_L_restore : jYH yL_restore wsL_restore cL_restore 2 (some .int) [(0, 4, 7, 13)] 1 := ⟨⟨_, rfl⟩, by decide +kernel, by decide +kernel, by decide +kernel⟩
theorem dL_law_1932 : decode cL_law 1932 = .ok (.istore 6, 2) := by decide +kernel
theorem dL_law_1934 : decode cL_law 1934 = .ok (.aload_n 2, 1) := by decide +kernel
theorem dL_law_1935 : decode cL_law 1935 = .ok (.invokevirtual 221, 3) := by decide +kernel
set_option maxRecDepth 20000 in
theorem ggL_law_X8_restore : GoodIn wsL_law wsX8_restore := goodIn_ca (goodIn_r _ [1317, 1302, 426, 74, 76, 105, 106, 107, 5, 108, 109, 1328, 1329, 1330, 1331, 1332, 1333, 1334, 1335, 1336, 1337, 1338, 1339, 1340, 1341, 1342, 1343, 1344, 1345, 1346, 1347, 1348, 1349, 1350, 1351, 1352, 1353, 1354, 1355, 1356, 1357, 1358] (by decide +kernel) (by decide +kernel)) (goodIn_sub (fun _ h => List.mem_append_left _ (List.mem_append_left _ (List.mem_append_left _ (List.mem_append_left _ (List.mem_append_left _ (List.mem_append_left _ (List.mem_append_left _ (List.mem_append_right _ h)))))))) (by decide +kernel))
set_option maxRecDepth 20000 in
theorem gL_law_X8_restore : GoodIn wsL_law (wsV RL 221 RX8 yX8_restore wsX8_restore) := goodIn_app (goodIn_of _ (by decide +kernel)) ggL_law_X8_restore
theorem yY_X8_restore : jY yX8_restore wsX8_restore cX8_restore 2 none 0 := ⟨⟨_, rfl⟩, by decide +kernel, by decide +kernel, by decide +kernel⟩
theorem dL_law_1938 : decode cL_law 1938 = .ok (.aload_n 2, 1) := by decide +kernel
theorem dL_law_1939 : decode cL_law 1939 = .ok (.invokevirtual 124, 3) := by decide +kernel
theorem dL_law_1942 : decode cL_law 1942 = .ok (.iload 6, 2) := by decide +kernel
theorem dL_law_1944 : decode cL_law 1944 = .ok (.if_icmp .eq 5, 3) := by decide +kernel
theorem dL_law_1949 : decode cL_law 1949 = .ok (.goto 3, 3) := by decide +kernel
set_option maxHeartbeats 1000000 in
set_option maxRecDepth 20000 in
theorem law_1928 (l : Launch) (D : va_G) (dA : Nat → ClassId) (hst : l.stackTraces = false) {F : jFin} {n0 : Nat} {hh : List (Nat × Nat × Nat × Nat)} {fr lo : Nat} (hfr : 700 ≤ fr) (hlo : 9000 ≤ lo) (M : jM) (v i k : Nat) (A : cA) (h : lAb M v A A) (hz : zA A) (hi : i + 5 ≤ jSL dA) (hL : jSL dA ≤ 2560) (next : ∀ M1 A1, lAb M1 v A1 A1 → zA A1 → J l D dA RL cL_law wsL_law 9 false (some .boolean) hh fr lo F n0 (400 * k) (13000 * k + 1000 * cL A1) M1 1952 [.retAddr 4, .ref v, .ref (v + 36), .ref (v + 50), .ref (v + 51), .int (nI i), .float 0, .float 0, .float 0] []) : J l D dA RL cL_law wsL_law 9 false (some .boolean) hh fr lo F n0 (400 * (k + 1)) (13000 * (k + 1) + 1000 * cL A) (M) 1928 [.retAddr (4), .ref (v), .ref (v + 36), .ref (v + 50), .ref (v + 51), .int (nI (i)), .float 0, .float 0, .float 0] [] := by
  have h60 : cL A ≤ 60 := h.1.2.2.1.2.2.2.2.2.2.2.2.1
  refine J_aload_n (v) dL_law_1928 rfl rfl ?_
  refine J_calli (jrunSH (As := [.ref (v)]) (ct_L_restore l D dA hst M v A h.1  ) dL_law_1929 yYH_L_restore gL_law_L_restore rfl ⟨by omega, by omega⟩ ⟨by omega, by omega⟩ rfl (Nat.le_of_ble_eq_true rfl)) ⟨by omega, by omega⟩ (Or.inr ⟨(jOk.fs (jOk.ref (show v < jn M by have := h.1.1.1; omega) (jOk.ref (show v + 36 < jn M by have := h.1.1.1; omega) (jOk.ref (show v + 50 < jn M by have := h.1.1.1; omega) (jOk.ref (show v + 51 < jn M by have := h.1.1.1; omega) (jOk.int (jOk.float (jOk.float (jOk.float jOk.nil))))))))), jOk.nil⟩) (fun E M9 hp _ => by obtain ⟨K, _, _, h9⟩ := hp; rcases h9 with ⟨h9, _⟩ | ⟨_, _, _, _, _, h9, _⟩ <;> exact nomatch h9) (fun x6 M1 hp hle => ?_)
  obtain ⟨hab1, h6⟩ := lPr.v h hp
  refine J_istore (lv' := [.retAddr (4), .ref (v), .ref (v + 36), .ref (v + 50), .ref (v + 51), .int (nI (i)), .int (x6), .float 0, .float 0]) dL_law_1932 (by decide) rfl rfl ?_
  refine J_aload_n (v + 36) dL_law_1934 rfl rfl ?_
  refine J_callv (jrunV (As := []) (ct_X8_restore l D dA hst M1 (v + 36) A hab1.2.1 hz.1 ) dL_law_1935 yY_X8_restore gL_law_X8_restore rfl cs11 (show v + 36 < jn M1 by have := hab1.1.1.1; omega) hab1.2.1.1.2.1 rfl ⟨by omega, by omega⟩ ⟨Nat.zero_le _, Nat.zero_le _⟩ rfl (Nat.le_of_ble_eq_true rfl)) ⟨Nat.zero_le _, Nat.zero_le _⟩ (Or.inr ⟨(jOk.fs (jOk.ref (show v < jn M1 by have := hab1.1.1.1; omega) (jOk.ref (show v + 36 < jn M1 by have := hab1.1.1.1; omega) (jOk.ref (show v + 50 < jn M1 by have := hab1.1.1.1; omega) (jOk.ref (show v + 51 < jn M1 by have := hab1.1.1.1; omega) (jOk.int (jOk.int (jOk.float (jOk.float jOk.nil))))))))), jOk.nil⟩) (fun E M9 hp _ => by obtain ⟨_, _, _, u, hu⟩ := hp; exact nomatch hu) (fun M2 hq hle2 => ?_)
  obtain ⟨hq1, hq2, hq3, hq4⟩ := hq
  have hab2 := hab1.mf hq2 hq3
  have hcd : ji M2 (v + 36) 11 = x6 := l_code (by decide +kernel) hq1 hq4 h6
  have hz2 : zA ((sRes A).2) := hz.res
  have hcl : cL (sRes A).2 = cL A := cLz_res
  refine J_aload_n (v + 36) dL_law_1938 rfl rfl ?_
  refine J_calli0 (jrunV (As := []) (ct_X8_thrown l D dA hst M2 (v + 36) hab2.2.1.1) dL_law_1939 yY_X8_thrown gL_law_X8_thrown rfl cs11 (show v + 36 < jn M2 by have := hab2.1.1.1; omega) hab2.2.1.1.2.1 rfl ⟨by omega, by omega⟩ ⟨Nat.zero_le _, Nat.zero_le _⟩ rfl (Nat.le_of_ble_eq_true rfl)) (rfl) (rfl) ?_
  refine J_topi (y := (x6)) (by exact hcd) ?_
  refine J_iload dL_law_1942 rfl ?_
  refine J_icmp_eq dL_law_1944 (tgt := 1949) (by decide) (fun c1944 => ?_) (fun c1944 => ?_)
  · refine J_goto (tgt := 1952) dL_law_1949 (by decide) ?_
    refine J_fg 6 (lv' := [.retAddr (4), .ref (v), .ref (v + 36), .ref (v + 50), .ref (v + 51), .int (nI (i)), .float 0, .float 0, .float 0]) rfl ?_
    refine J_less (bc' := 400 * k) (bs' := 13000 * k + 1000 * cL ((sRes A).2)) (by omega) (by omega) ?_
    exact next _ _ hab2 hz2
  · exact absurd rfl c1944

