theorem dL_law_326 : decode cL_law 326 = .ok (.aload_n 1, 1) := by decide +kernel
theorem dL_law_327 : decode cL_law 327 = .ok (.invokevirtual 134, 3) := by decide +kernel
set_option maxRecDepth 20000 in
theorem ggL_law_X7_faultPosition : GoodIn wsL_law wsX7_faultPosition := goodIn_r _ [568, 17, 1318, 1319, 1320, 1321, 1322, 1323, 1324, 1325, 1326, 1327] (by decide +kernel) (by decide +kernel)
set_option maxRecDepth 20000 in
theorem gL_law_X7_faultPosition : GoodIn wsL_law (wsV RL 134 RX7 yX7_faultPosition wsX7_faultPosition) := goodIn_app (goodIn_of _ (by decide +kernel)) ggL_law_X7_faultPosition
theorem yY_X7_faultPosition : jY yX7_faultPosition wsX7_faultPosition cX7_faultPosition 1 (some .int) 0 := ⟨⟨_, rfl⟩, by decide +kernel, by decide +kernel, by decide +kernel⟩
theorem dL_law_330 : decode cL_law 330 = .ok (.aload_n 2, 1) := by decide +kernel
theorem dL_law_331 : decode cL_law 331 = .ok (.invokevirtual 137, 3) := by decide +kernel
set_option maxRecDepth 20000 in
theorem ggL_law_X8_faultPosition : GoodIn wsL_law wsX8_faultPosition := goodIn_r _ [572, 109, 78, 1328, 1329, 1330, 1331, 1332, 1333, 1334, 1335, 1336, 1337, 1338, 1339, 1340, 1341, 1342, 1343, 1344, 1345, 1346, 1347, 1348, 1349, 1350, 1351, 1352, 1353, 1354, 1355, 1356, 1357, 1358] (by decide +kernel) (by decide +kernel)
set_option maxRecDepth 20000 in
theorem gL_law_X8_faultPosition : GoodIn wsL_law (wsV RL 137 RX8 yX8_faultPosition wsX8_faultPosition) := goodIn_app (goodIn_of _ (by decide +kernel)) ggL_law_X8_faultPosition
theorem yY_X8_faultPosition : jY yX8_faultPosition wsX8_faultPosition cX8_faultPosition 1 (some .int) 0 := ⟨⟨_, rfl⟩, by decide +kernel, by decide +kernel, by decide +kernel⟩
theorem dL_law_334 : decode cL_law 334 = .ok (.if_icmp .eq 1618, 3) := by decide +kernel
set_option maxHeartbeats 1000000 in
set_option maxRecDepth 20000 in
theorem law_326 (l : Launch) (D : va_G) (dA : Nat → ClassId) (hst : l.stackTraces = false) {F : jFin} {n0 : Nat} {hh : List (Nat × Nat × Nat × Nat)} {fr lo : Nat} (hfr : 700 ≤ fr) (hlo : 9000 ≤ lo) (M : jM) (v i k : Nat) (A : cA) (h : lAb M v A A) (hz : zA A) (hi : i + 5 ≤ jSL dA) (hL : jSL dA ≤ 2560) (next : ∀ M1 A1, lAb M1 v A1 A1 → zA A1 → J l D dA RL cL_law wsL_law 9 false (some .boolean) hh fr lo F n0 (400 * k) (13000 * k + 1000 * cL A1) M1 1952 [.retAddr 4, .ref v, .ref (v + 36), .ref (v + 50), .ref (v + 51), .int (nI i), .float 0, .float 0, .float 0] []) : J l D dA RL cL_law wsL_law 9 false (some .boolean) hh fr lo F n0 (400 * (k + 1)) (13000 * (k + 1) + 1000 * cL A) (M) 326 [.retAddr (4), .ref (v), .ref (v + 36), .ref (v + 50), .ref (v + 51), .int (nI (i)), .float 0, .float 0, .float 0] [] := by
  have h60 : cL A ≤ 60 := h.1.2.2.1.2.2.2.2.2.2.2.2.1
  refine J_aload_n (v) dL_law_326 rfl rfl ?_
  refine J_calliB (jrunV (As := []) (ct_X7_faultPosition l D dA hst M v A h.1) dL_law_327 yY_X7_faultPosition gL_law_X7_faultPosition rfl cs10 (show v < jn M by have := h.1.1.1; omega) h.1.1.2.1 rfl ⟨by omega, by omega⟩ ⟨by omega, by omega⟩ rfl (Nat.le_of_ble_eq_true rfl)) (rfl) (rfl) ⟨by omega, by omega⟩ ?_
  refine J_aload_n (v + 36) dL_law_330 rfl rfl ?_
  refine J_calli (jrunV (As := []) (ct_X8_faultPosition l D dA hst M (v + 36) A h.2.1 hz.1) dL_law_331 yY_X8_faultPosition gL_law_X8_faultPosition rfl cs11 (show v + 36 < jn M by have := h.1.1.1; omega) h.2.1.1.2.1 rfl ⟨by omega, by omega⟩ ⟨Nat.zero_le _, Nat.zero_le _⟩ rfl (Nat.le_of_ble_eq_true rfl)) ⟨Nat.zero_le _, Nat.zero_le _⟩ (Or.inr ⟨(jOk.fs (jOk.ref (show v < jn M by have := h.1.1.1; omega) (jOk.ref (show v + 36 < jn M by have := h.1.1.1; omega) (jOk.ref (show v + 50 < jn M by have := h.1.1.1; omega) (jOk.ref (show v + 51 < jn M by have := h.1.1.1; omega) (jOk.int (jOk.float (jOk.float (jOk.float jOk.nil))))))))), (jOk.int jOk.nil)⟩) (fun E M9 hp _ => by obtain ⟨_, _, _, u, hu⟩ := hp; exact nomatch hu) (fun x7 M2 hq hle2 => ?_)
  obtain ⟨hq1, hq2, hq3, hq4⟩ := hq
  have hab2 := h.mf hq2 hq3
  have hx7 : cFl A = x7 := by have h9 := (l_out hq1 ⟨_, rfl⟩).2; cases h9; rfl
  refine J_icmp_eq dL_law_334 (tgt := 1952) (by decide) (fun c334 => ?_) (fun c334 => ?_)
  · refine J_less (bc' := 400 * k) (bs' := 13000 * k + 1000 * cL A) (by omega) (by omega) ?_
    exact next _ _ hab2 hz
  · exact absurd hx7 c334

theorem dL_law_1917 : decode cL_law 1917 = .ok (.aload_n 1, 1) := by decide +kernel
theorem dL_law_1918 : decode cL_law 1918 = .ok (.invokevirtual 214, 3) := by decide +kernel
set_option maxRecDepth 20000 in
theorem ggL_law_X7_save : GoodIn wsL_law wsX7_save := goodIn_r _ [1296, 24, 23, 25, 1297, 321, 322, 22, 323, 38, 40, 324, 273, 274, 275, 41, 1318, 1319, 1320, 1321, 1322, 1323, 1324, 1325, 1326, 1327, 1359, 1360, 1361] (by decide +kernel) (by decide +kernel)
set_option maxRecDepth 20000 in
theorem gL_law_X7_save : GoodIn wsL_law (wsV RL 214 RX7 yX7_save wsX7_save) := goodIn_app (goodIn_of _ (by decide +kernel)) ggL_law_X7_save
theorem yY_X7_save : jY yX7_save wsX7_save cX7_save 1 none 0 := ⟨⟨_, rfl⟩, by decide +kernel, by decide +kernel, by decide +kernel⟩
theorem dL_law_1921 : decode cL_law 1921 = .ok (.aload_n 2, 1) := by decide +kernel
theorem dL_law_1922 : decode cL_law 1922 = .ok (.invokevirtual 217, 3) := by decide +kernel
set_option maxRecDepth 20000 in
theorem ggL_law_X8_save : GoodIn wsL_law wsX8_save := goodIn_ca (goodIn_r _ [1301, 109, 1302, 76, 74, 1328, 1329, 1330, 1331, 1332, 1333, 1334, 1335, 1336, 1337, 1338, 1339, 1340, 1341, 1342, 1343, 1344, 1345, 1346, 1347, 1348, 1349, 1350, 1351, 1352, 1353, 1354, 1355, 1356, 1357, 1358] (by decide +kernel) (by decide +kernel)) (goodIn_sub (fun _ h => List.mem_append_left _ (List.mem_append_left _ (List.mem_append_left _ (List.mem_append_left _ (List.mem_append_left _ (List.mem_append_left _ (List.mem_append_left _ (List.mem_append_right _ h)))))))) (by decide +kernel))
set_option maxRecDepth 20000 in
theorem gL_law_X8_save : GoodIn wsL_law (wsV RL 217 RX8 yX8_save wsX8_save) := goodIn_app (goodIn_of _ (by decide +kernel)) ggL_law_X8_save
theorem yY_X8_save : jY yX8_save wsX8_save cX8_save 2 none 0 := ⟨⟨_, rfl⟩, by decide +kernel, by decide +kernel, by decide +kernel⟩
theorem dL_law_1925 : decode cL_law 1925 = .ok (.goto 27, 3) := by decide +kernel
set_option maxHeartbeats 1000000 in
set_option maxRecDepth 20000 in
theorem law_1917 (l : Launch) (D : va_G) (dA : Nat → ClassId) (hst : l.stackTraces = false) {F : jFin} {n0 : Nat} {hh : List (Nat × Nat × Nat × Nat)} {fr lo : Nat} (hfr : 700 ≤ fr) (hlo : 9000 ≤ lo) (M : jM) (v i k : Nat) (A : cA) (h : lAb M v A A) (hz : zA A) (hi : i + 5 ≤ jSL dA) (hL : jSL dA ≤ 2560) (next : ∀ M1 A1, lAb M1 v A1 A1 → zA A1 → J l D dA RL cL_law wsL_law 9 false (some .boolean) hh fr lo F n0 (400 * k) (13000 * k + 1000 * cL A1) M1 1952 [.retAddr 4, .ref v, .ref (v + 36), .ref (v + 50), .ref (v + 51), .int (nI i), .float 0, .float 0, .float 0] []) : J l D dA RL cL_law wsL_law 9 false (some .boolean) hh fr lo F n0 (400 * (k + 1)) (13000 * (k + 1) + 1000 * cL A) (M) 1917 [.retAddr (4), .ref (v), .ref (v + 36), .ref (v + 50), .ref (v + 51), .int (nI (i)), .float 0, .float 0, .float 0] [] := by
  have h60 : cL A ≤ 60 := h.1.2.2.1.2.2.2.2.2.2.2.2.1
  refine J_aload_n (v) dL_law_1917 rfl rfl ?_
  refine J_callv (jrunV (As := []) (ct_X7_save l D dA hst M v A h.1) dL_law_1918 yY_X7_save gL_law_X7_save rfl cs10 (show v < jn M by have := h.1.1.1; omega) h.1.1.2.1 rfl ⟨by omega, by omega⟩ ⟨by omega, by omega⟩ rfl (Nat.le_of_ble_eq_true rfl)) ⟨by omega, by omega⟩ (Or.inr ⟨(jOk.fs (jOk.ref (show v < jn M by have := h.1.1.1; omega) (jOk.ref (show v + 36 < jn M by have := h.1.1.1; omega) (jOk.ref (show v + 50 < jn M by have := h.1.1.1; omega) (jOk.ref (show v + 51 < jn M by have := h.1.1.1; omega) (jOk.int (jOk.float (jOk.float (jOk.float jOk.nil))))))))), jOk.nil⟩) (fun E M9 hp _ => by cases hp.1) (fun M1 hp hle => ?_)
  have hab1 : lAb M1 v (sSav A).2 A := h.fv hp.2.1 hp.2.2
  refine J_aload_n (v + 36) dL_law_1921 rfl rfl ?_
  refine J_callv (jrunV (As := []) (ct_X8_save l D dA hst M1 (v + 36) A hab1.2.1 hz.1) dL_law_1922 yY_X8_save gL_law_X8_save rfl cs11 (show v + 36 < jn M1 by have := hab1.1.1.1; omega) hab1.2.1.1.2.1 rfl ⟨by omega, by omega⟩ ⟨Nat.zero_le _, Nat.zero_le _⟩ rfl (Nat.le_of_ble_eq_true rfl)) ⟨Nat.zero_le _, Nat.zero_le _⟩ (Or.inr ⟨(jOk.fs (jOk.ref (show v < jn M1 by have := hab1.1.1.1; omega) (jOk.ref (show v + 36 < jn M1 by have := hab1.1.1.1; omega) (jOk.ref (show v + 50 < jn M1 by have := hab1.1.1.1; omega) (jOk.ref (show v + 51 < jn M1 by have := hab1.1.1.1; omega) (jOk.int (jOk.float (jOk.float (jOk.float jOk.nil))))))))), jOk.nil⟩) (fun E M9 hp _ => by obtain ⟨_, _, _, u, hu⟩ := hp; exact nomatch hu) (fun M2 hq hle2 => ?_)
  obtain ⟨hq1, hq2, hq3, hq4⟩ := hq
  have hab2 := hab1.mf hq2 hq3
  have hcl : cL (sSav A).2 = cL A := rfl
  refine J_goto (tgt := 1952) dL_law_1925 (by decide) ?_
  refine J_less (bc' := 400 * k) (bs' := 13000 * k + 1000 * cL ((sSav A).2)) (by omega) (by omega) ?_
  exact next _ _ hab2 hz.sav

theorem law_214 (l : Launch) (D : va_G) (dA : Nat → ClassId) (hst : l.stackTraces = false) {F : jFin} {n0 : Nat} {hh : List (Nat × Nat × Nat × Nat)} {fr lo : Nat} (hfr : 700 ≤ fr) (hlo : 9000 ≤ lo) (M : jM) (v i k : Nat) (A : cA) (h : lAb M v A A) (hz : zA A) (hi : i + 5 ≤ jSL dA) (hL : jSL dA ≤ 2560) (next : ∀ M1 A1, lAb M1 v A1 A1 → zA A1 → J l D dA RL cL_law wsL_law 9 false (some .boolean) hh fr lo F n0 (400 * k) (13000 * k + 1000 * cL A1) M1 1952 [.retAddr 4, .ref v, .ref (v + 36), .ref (v + 50), .ref (v + 51), .int (nI i), .float 0, .float 0, .float 0] []) : J l D dA RL cL_law wsL_law 9 false (some .boolean) hh fr lo F n0 (400 * (k + 1)) (13000 * (k + 1) + 1000 * cL A) (M) 214 [.retAddr (4), .ref (v), .ref (v + 36), .ref (v + 50), .ref (v + 51), .int (nI (i)), .float 0, .float 0, .float 0] [] := by
  rcases Bool.eq_false_or_eq_true (okSlot (jSX dA (i + 1))) with ok1 | ok1
  · exact law_214a l D dA hst hfr hlo M v i k A h hz hi hL ok1 next
  · exact law_214b l D dA hst hfr hlo M v i k A h hz hi hL ok1 next
theorem law_lt {L i : Nat} (hL : L ≤ 2560) (hi : i ≤ 3000) : (nI L - 5 < nI i) ↔ L < i + 5 := by
  by_cases h5 : 5 ≤ L
  · have e : nI L - 5 = nI (L - 5) := by
      have := nI_add (L - 5) 5
      rw [show L - 5 + 5 = L from by omega] at this
      rw [← this]
      exact Int32.add_sub_cancel _ _
    rw [e, nI_ltI (by omega) (by omega)]
    omega
  · have h0 : nI L - 5 < 0 := by
      rcases (show L = 0 ∨ L = 1 ∨ L = 2 ∨ L = 3 ∨ L = 4 from by omega) with rfl | rfl | rfl | rfl | rfl <;> decide
    have h1 : ¬ nI i < 0 := nI_pos (by omega)
    exact ⟨fun _ => by omega, fun _ => Int32.lt_of_lt_of_le h0 (Int32.not_lt.mp h1)⟩
theorem dL_law_28 : decode cL_law 28 = .ok (.iload 5, 2) := by decide +kernel
theorem dL_law_30 : decode cL_law 30 = .ok (.aload_n 0, 1) := by decide +kernel
theorem dL_law_31 : decode cL_law 31 = .ok (.arraylength, 1) := by decide +kernel
theorem dL_law_32 : decode cL_law 32 = .ok (.iconst 5, 1) := by decide +kernel
theorem dL_law_33 : decode cL_law 33 = .ok (.isub, 1) := by decide +kernel
theorem dL_law_34 : decode cL_law 34 = .ok (.if_icmp .gt 1924, 3) := by decide +kernel
theorem dL_law_37 : decode cL_law 37 = .ok (.aload_n 0, 1) := by decide +kernel
theorem dL_law_38 : decode cL_law 38 = .ok (.iload 5, 2) := by decide +kernel
theorem dL_law_40 : decode cL_law 40 = .ok (.iaload, 1) := by decide +kernel
theorem dL_law_41 : decode cL_law 41 = .ok (.bipush 31, 2) := by decide +kernel
theorem dL_law_43 : decode cL_law 43 = .ok (.iand, 1) := by decide +kernel
theorem dL_law_44 : decode cL_law 44 = .ok (.tableswitch 1908 0 28 #[132, 170, 226, 282, 295, 375, 438, 506, 562, 658, 714, 817, 885, 953, 1052, 1136, 1192, 1260, 1304, 1360, 1416, 1472, 1528, 1612, 1696, 1773, 1829, 1873, 1884], 132) := by decide +kernel
theorem dL_law_1952 : decode cL_law 1952 = .ok (.iinc 5 5, 3) := by decide +kernel
theorem dL_law_1955 : decode cL_law 1955 = .ok (.goto (-1927), 3) := by decide +kernel
set_option maxHeartbeats 2000000 in
set_option maxRecDepth 20000 in
/-- THE LAW'S LOOP -/
theorem law_loop (l : Launch) (D : va_G) (dA : Nat → ClassId) (hst : l.stackTraces = false) {F : jFin} {n0 : Nat} {hh : List (Nat × Nat × Nat × Nat)} {fr lo : Nat} (hfr : 700 ≤ fr) (hlo : 9000 ≤ lo) (v : Nat) (hL : jSL dA ≤ 2560) (hx1 : ∀ M lv, J l D dA RL cL_law wsL_law 9 false (some .boolean) hh fr lo F n0 0 0 M 1958 lv []) : ∀ (k : Nat) (M : jM) (A : cA) (i : Nat), lAb M v A A → zA A → i ≤ 3000 → jSL dA < i + 5 * k + 5 → J l D dA RL cL_law wsL_law 9 false (some .boolean) hh fr lo F n0 (400 * k) (13000 * k + 1000 * cL A) (M) 28 [.retAddr (4), .ref (v), .ref (v + 36), .ref (v + 50), .ref (v + 51), .int (nI (i)), .float 0, .float 0, .float 0] [] := by
  intro k
  induction k using Nat.strongRecOn with
  | _ k ih =>
    intro M A i h hz hi hk
    refine J_iload dL_law_28 rfl ?_
    refine J_aload_ns (4) dL_law_30 rfl rfl ?_
    refine J_slen dL_law_31 ?_
    refine J_iconst (x := 5) dL_law_32 (by decide) ?_
    refine J_isub dL_law_33 ?_
    refine J_icmp_gt dL_law_34 (tgt := 1958) (by decide) (fun c34 => ?_) (fun c34 => ?_)
    · have c34x := c34
      refine J_less (bc' := 0) (bs' := 0) (Nat.zero_le _) (Nat.zero_le _) ?_
      exact hx1 _ _
    · have c34x := c34
      have hi5 : i + 5 ≤ jSL dA := Nat.not_lt.mp (fun h8 => c34 ((law_lt hL hi).mpr h8))
      cases k with
      | zero => exact absurd hk (by omega)
      | succ k =>
        have next : ∀ M1 A1, lAb M1 v A1 A1 → zA A1 → J l D dA RL cL_law wsL_law 9 false (some .boolean) hh fr lo F n0 (400 * k) (13000 * k + 1000 * cL A1) M1 1952 [.retAddr 4, .ref v, .ref (v + 36), .ref (v + 50), .ref (v + 51), .int (nI i), .float 0, .float 0, .float 0] [] := fun M1 A1 h1 z1 => by
          refine J_iinc (y := nI (i + 5)) (lv' := [.retAddr (4), .ref (v), .ref (v + 36), .ref (v + 50), .ref (v + 51), .int (nI (i + 5)), .float 0, .float 0, .float 0]) dL_law_1952 rfl (by rw [show Int32.ofInt 5 = nI 5 from by decide]; exact nI_add _ _) (by decide) rfl rfl ?_
          refine J_goto (tgt := 28) dL_law_1955 (by decide) ?_
          exact ih k (Nat.lt_succ_self k) M1 A1 (i + 5) h1 z1 (by omega) (by omega)
        refine J_aload_ns (4) dL_law_37 rfl rfl ?_
        refine J_iload dL_law_38 rfl ?_
        refine J_sld (kq := i) dL_law_40 (by omega) ?_
        refine J_bipush (x := 31) dL_law_41 (by decide) ?_
        refine J_iand dL_law_43 ?_
        by_cases s_0 : (((jSX dA i) &&& (31))) = 0
        · refine J_tableIn (off := 132) (tgt := 176) dL_law_44 (by rw [s_0]; decide) (by rw [s_0]; decide) (by rw [s_0]; rfl) (by decide) ?_
          exact law_176 l D dA hst hfr hlo M v i k A h hz hi5 hL next
        by_cases s_1 : (((jSX dA i) &&& (31))) = 1
        · refine J_tableIn (off := 170) (tgt := 214) dL_law_44 (by rw [s_1]; decide) (by rw [s_1]; decide) (by rw [s_1]; rfl) (by decide) ?_
          exact law_214 l D dA hst hfr hlo M v i k A h hz hi5 hL next
        by_cases s_2 : (((jSX dA i) &&& (31))) = 2
        · refine J_tableIn (off := 226) (tgt := 270) dL_law_44 (by rw [s_2]; decide) (by rw [s_2]; decide) (by rw [s_2]; rfl) (by decide) ?_
          exact law_270 l D dA hst hfr hlo M v i k A h hz hi5 hL next
        by_cases s_3 : (((jSX dA i) &&& (31))) = 3
        · refine J_tableIn (off := 282) (tgt := 326) dL_law_44 (by rw [s_3]; decide) (by rw [s_3]; decide) (by rw [s_3]; rfl) (by decide) ?_
          exact law_326 l D dA hst hfr hlo M v i k A h hz hi5 hL next
        by_cases s_4 : (((jSX dA i) &&& (31))) = 4
        · refine J_tableIn (off := 295) (tgt := 339) dL_law_44 (by rw [s_4]; decide) (by rw [s_4]; decide) (by rw [s_4]; rfl) (by decide) ?_
          exact law_339 l D dA hst hfr hlo M v i k A h hz hi5 hL next
        by_cases s_5 : (((jSX dA i) &&& (31))) = 5
        · refine J_tableIn (off := 375) (tgt := 419) dL_law_44 (by rw [s_5]; decide) (by rw [s_5]; decide) (by rw [s_5]; rfl) (by decide) ?_
          exact law_419 l D dA hst hfr hlo M v i k A h hz hi5 hL next
        by_cases s_6 : (((jSX dA i) &&& (31))) = 6
        · refine J_tableIn (off := 438) (tgt := 482) dL_law_44 (by rw [s_6]; decide) (by rw [s_6]; decide) (by rw [s_6]; rfl) (by decide) ?_
          exact law_482 l D dA hst hfr hlo M v i k A h hz hi5 hL next
        by_cases s_7 : (((jSX dA i) &&& (31))) = 7
        · refine J_tableIn (off := 506) (tgt := 550) dL_law_44 (by rw [s_7]; decide) (by rw [s_7]; decide) (by rw [s_7]; rfl) (by decide) ?_
          exact law_550 l D dA hst hfr hlo M v i k A h hz hi5 hL next
        by_cases s_8 : (((jSX dA i) &&& (31))) = 8
        · refine J_tableIn (off := 562) (tgt := 606) dL_law_44 (by rw [s_8]; decide) (by rw [s_8]; decide) (by rw [s_8]; rfl) (by decide) ?_
          exact law_606 l D dA hst hfr hlo M v i k A h hz hi5 hL next
        by_cases s_9 : (((jSX dA i) &&& (31))) = 9
        · refine J_tableIn (off := 658) (tgt := 702) dL_law_44 (by rw [s_9]; decide) (by rw [s_9]; decide) (by rw [s_9]; rfl) (by decide) ?_
          exact law_702 l D dA hst hfr hlo M v i k A h hz hi5 hL next
        by_cases s_10 : (((jSX dA i) &&& (31))) = 10
        · refine J_tableIn (off := 714) (tgt := 758) dL_law_44 (by rw [s_10]; decide) (by rw [s_10]; decide) (by rw [s_10]; rfl) (by decide) ?_
          exact law_758 l D dA hst hfr hlo M v i k A h hz hi5 hL next
        by_cases s_11 : (((jSX dA i) &&& (31))) = 11
        · refine J_tableIn (off := 817) (tgt := 861) dL_law_44 (by rw [s_11]; decide) (by rw [s_11]; decide) (by rw [s_11]; rfl) (by decide) ?_
          exact law_861 l D dA hst hfr hlo M v i k A h hz hi5 hL next
        by_cases s_12 : (((jSX dA i) &&& (31))) = 12
        · refine J_tableIn (off := 885) (tgt := 929) dL_law_44 (by rw [s_12]; decide) (by rw [s_12]; decide) (by rw [s_12]; rfl) (by decide) ?_
          exact law_929 l D dA hst hfr hlo M v i k A h hz hi5 hL next
        by_cases s_13 : (((jSX dA i) &&& (31))) = 13
        · refine J_tableIn (off := 953) (tgt := 997) dL_law_44 (by rw [s_13]; decide) (by rw [s_13]; decide) (by rw [s_13]; rfl) (by decide) ?_
          exact law_997 l D dA hst hfr hlo M v i k A h hz hi5 hL next
        by_cases s_14 : (((jSX dA i) &&& (31))) = 14
        · refine J_tableIn (off := 1052) (tgt := 1096) dL_law_44 (by rw [s_14]; decide) (by rw [s_14]; decide) (by rw [s_14]; rfl) (by decide) ?_
          exact law_1096 l D dA hst hfr hlo M v i k A h hz hi5 hL next
        by_cases s_15 : (((jSX dA i) &&& (31))) = 15
        · refine J_tableIn (off := 1136) (tgt := 1180) dL_law_44 (by rw [s_15]; decide) (by rw [s_15]; decide) (by rw [s_15]; rfl) (by decide) ?_
          exact law_1180 l D dA hst hfr hlo M v i k A h hz hi5 hL next
        by_cases s_16 : (((jSX dA i) &&& (31))) = 16
        · refine J_tableIn (off := 1192) (tgt := 1236) dL_law_44 (by rw [s_16]; decide) (by rw [s_16]; decide) (by rw [s_16]; rfl) (by decide) ?_
          exact law_1236 l D dA hst hfr hlo M v i k A h hz hi5 hL next
        by_cases s_17 : (((jSX dA i) &&& (31))) = 17
        · refine J_tableIn (off := 1260) (tgt := 1304) dL_law_44 (by rw [s_17]; decide) (by rw [s_17]; decide) (by rw [s_17]; rfl) (by decide) ?_
          exact law_1304 l D dA hst hfr hlo M v i k A h hz hi5 hL next
        by_cases s_18 : (((jSX dA i) &&& (31))) = 18
        · refine J_tableIn (off := 1304) (tgt := 1348) dL_law_44 (by rw [s_18]; decide) (by rw [s_18]; decide) (by rw [s_18]; rfl) (by decide) ?_
          exact law_1348 l D dA hst hfr hlo M v i k A h hz hi5 hL next
        by_cases s_19 : (((jSX dA i) &&& (31))) = 19
        · refine J_tableIn (off := 1360) (tgt := 1404) dL_law_44 (by rw [s_19]; decide) (by rw [s_19]; decide) (by rw [s_19]; rfl) (by decide) ?_
          exact law_1404 l D dA hst hfr hlo M v i k A h hz hi5 hL next
        by_cases s_20 : (((jSX dA i) &&& (31))) = 20
        · refine J_tableIn (off := 1416) (tgt := 1460) dL_law_44 (by rw [s_20]; decide) (by rw [s_20]; decide) (by rw [s_20]; rfl) (by decide) ?_
          exact law_1460 l D dA hst hfr hlo M v i k A h hz hi5 hL next
        by_cases s_21 : (((jSX dA i) &&& (31))) = 21
        · refine J_tableIn (off := 1472) (tgt := 1516) dL_law_44 (by rw [s_21]; decide) (by rw [s_21]; decide) (by rw [s_21]; rfl) (by decide) ?_
          exact law_1516 l D dA hst hfr hlo M v i k A h hz hi5 hL next
        by_cases s_22 : (((jSX dA i) &&& (31))) = 22
        · refine J_tableIn (off := 1528) (tgt := 1572) dL_law_44 (by rw [s_22]; decide) (by rw [s_22]; decide) (by rw [s_22]; rfl) (by decide) ?_
          exact law_1572 l D dA hst hfr hlo M v i k A h hz hi5 hL next
        by_cases s_23 : (((jSX dA i) &&& (31))) = 23
        · refine J_tableIn (off := 1612) (tgt := 1656) dL_law_44 (by rw [s_23]; decide) (by rw [s_23]; decide) (by rw [s_23]; rfl) (by decide) ?_
          exact law_1656 l D dA hst hfr hlo M v i k A h hz hi5 hL next
        by_cases s_24 : (((jSX dA i) &&& (31))) = 24
        · refine J_tableIn (off := 1696) (tgt := 1740) dL_law_44 (by rw [s_24]; decide) (by rw [s_24]; decide) (by rw [s_24]; rfl) (by decide) ?_
          exact law_1740 l D dA hst hfr hlo M v i k A h hz hi5 hL next
        by_cases s_25 : (((jSX dA i) &&& (31))) = 25
        · refine J_tableIn (off := 1773) (tgt := 1817) dL_law_44 (by rw [s_25]; decide) (by rw [s_25]; decide) (by rw [s_25]; rfl) (by decide) ?_
          exact law_1817 l D dA hst hfr hlo M v i k A h hz hi5 hL next
        by_cases s_26 : (((jSX dA i) &&& (31))) = 26
        · refine J_tableIn (off := 1829) (tgt := 1873) dL_law_44 (by rw [s_26]; decide) (by rw [s_26]; decide) (by rw [s_26]; rfl) (by decide) ?_
          exact law_1873 l D dA hst hfr hlo M v i k A h hz hi5 hL next
        by_cases s_27 : (((jSX dA i) &&& (31))) = 27
        · refine J_tableIn (off := 1873) (tgt := 1917) dL_law_44 (by rw [s_27]; decide) (by rw [s_27]; decide) (by rw [s_27]; rfl) (by decide) ?_
          exact law_1917 l D dA hst hfr hlo M v i k A h hz hi5 hL next
        by_cases s_28 : (((jSX dA i) &&& (31))) = 28
        · refine J_tableIn (off := 1884) (tgt := 1928) dL_law_44 (by rw [s_28]; decide) (by rw [s_28]; decide) (by rw [s_28]; rfl) (by decide) ?_
          exact law_1928 l D dA hst hfr hlo M v i k A h hz hi5 hL next
        refine J_tableOut (tgt := 1952) dL_law_44 (by have : ((((jSX dA i) &&& (31)))).toInt ≠ 0 := fun h9 => s_0 (Int32.toInt_inj.mp (h9.trans (show (0 : Int) = (0 : Int32).toInt by decide))); have : ((((jSX dA i) &&& (31)))).toInt ≠ 1 := fun h9 => s_1 (Int32.toInt_inj.mp (h9.trans (show (1 : Int) = (1 : Int32).toInt by decide))); have : ((((jSX dA i) &&& (31)))).toInt ≠ 2 := fun h9 => s_2 (Int32.toInt_inj.mp (h9.trans (show (2 : Int) = (2 : Int32).toInt by decide))); have : ((((jSX dA i) &&& (31)))).toInt ≠ 3 := fun h9 => s_3 (Int32.toInt_inj.mp (h9.trans (show (3 : Int) = (3 : Int32).toInt by decide))); have : ((((jSX dA i) &&& (31)))).toInt ≠ 4 := fun h9 => s_4 (Int32.toInt_inj.mp (h9.trans (show (4 : Int) = (4 : Int32).toInt by decide))); have : ((((jSX dA i) &&& (31)))).toInt ≠ 5 := fun h9 => s_5 (Int32.toInt_inj.mp (h9.trans (show (5 : Int) = (5 : Int32).toInt by decide))); have : ((((jSX dA i) &&& (31)))).toInt ≠ 6 := fun h9 => s_6 (Int32.toInt_inj.mp (h9.trans (show (6 : Int) = (6 : Int32).toInt by decide))); have : ((((jSX dA i) &&& (31)))).toInt ≠ 7 := fun h9 => s_7 (Int32.toInt_inj.mp (h9.trans (show (7 : Int) = (7 : Int32).toInt by decide))); have : ((((jSX dA i) &&& (31)))).toInt ≠ 8 := fun h9 => s_8 (Int32.toInt_inj.mp (h9.trans (show (8 : Int) = (8 : Int32).toInt by decide))); have : ((((jSX dA i) &&& (31)))).toInt ≠ 9 := fun h9 => s_9 (Int32.toInt_inj.mp (h9.trans (show (9 : Int) = (9 : Int32).toInt by decide))); have : ((((jSX dA i) &&& (31)))).toInt ≠ 10 := fun h9 => s_10 (Int32.toInt_inj.mp (h9.trans (show (10 : Int) = (10 : Int32).toInt by decide))); have : ((((jSX dA i) &&& (31)))).toInt ≠ 11 := fun h9 => s_11 (Int32.toInt_inj.mp (h9.trans (show (11 : Int) = (11 : Int32).toInt by decide))); have : ((((jSX dA i) &&& (31)))).toInt ≠ 12 := fun h9 => s_12 (Int32.toInt_inj.mp (h9.trans (show (12 : Int) = (12 : Int32).toInt by decide))); have : ((((jSX dA i) &&& (31)))).toInt ≠ 13 := fun h9 => s_13 (Int32.toInt_inj.mp (h9.trans (show (13 : Int) = (13 : Int32).toInt by decide))); have : ((((jSX dA i) &&& (31)))).toInt ≠ 14 := fun h9 => s_14 (Int32.toInt_inj.mp (h9.trans (show (14 : Int) = (14 : Int32).toInt by decide))); have : ((((jSX dA i) &&& (31)))).toInt ≠ 15 := fun h9 => s_15 (Int32.toInt_inj.mp (h9.trans (show (15 : Int) = (15 : Int32).toInt by decide))); have : ((((jSX dA i) &&& (31)))).toInt ≠ 16 := fun h9 => s_16 (Int32.toInt_inj.mp (h9.trans (show (16 : Int) = (16 : Int32).toInt by decide))); have : ((((jSX dA i) &&& (31)))).toInt ≠ 17 := fun h9 => s_17 (Int32.toInt_inj.mp (h9.trans (show (17 : Int) = (17 : Int32).toInt by decide))); have : ((((jSX dA i) &&& (31)))).toInt ≠ 18 := fun h9 => s_18 (Int32.toInt_inj.mp (h9.trans (show (18 : Int) = (18 : Int32).toInt by decide))); have : ((((jSX dA i) &&& (31)))).toInt ≠ 19 := fun h9 => s_19 (Int32.toInt_inj.mp (h9.trans (show (19 : Int) = (19 : Int32).toInt by decide))); have : ((((jSX dA i) &&& (31)))).toInt ≠ 20 := fun h9 => s_20 (Int32.toInt_inj.mp (h9.trans (show (20 : Int) = (20 : Int32).toInt by decide))); have : ((((jSX dA i) &&& (31)))).toInt ≠ 21 := fun h9 => s_21 (Int32.toInt_inj.mp (h9.trans (show (21 : Int) = (21 : Int32).toInt by decide))); have : ((((jSX dA i) &&& (31)))).toInt ≠ 22 := fun h9 => s_22 (Int32.toInt_inj.mp (h9.trans (show (22 : Int) = (22 : Int32).toInt by decide))); have : ((((jSX dA i) &&& (31)))).toInt ≠ 23 := fun h9 => s_23 (Int32.toInt_inj.mp (h9.trans (show (23 : Int) = (23 : Int32).toInt by decide))); have : ((((jSX dA i) &&& (31)))).toInt ≠ 24 := fun h9 => s_24 (Int32.toInt_inj.mp (h9.trans (show (24 : Int) = (24 : Int32).toInt by decide))); have : ((((jSX dA i) &&& (31)))).toInt ≠ 25 := fun h9 => s_25 (Int32.toInt_inj.mp (h9.trans (show (25 : Int) = (25 : Int32).toInt by decide))); have : ((((jSX dA i) &&& (31)))).toInt ≠ 26 := fun h9 => s_26 (Int32.toInt_inj.mp (h9.trans (show (26 : Int) = (26 : Int32).toInt by decide))); have : ((((jSX dA i) &&& (31)))).toInt ≠ 27 := fun h9 => s_27 (Int32.toInt_inj.mp (h9.trans (show (27 : Int) = (27 : Int32).toInt by decide))); have : ((((jSX dA i) &&& (31)))).toInt ≠ 28 := fun h9 => s_28 (Int32.toInt_inj.mp (h9.trans (show (28 : Int) = (28 : Int32).toInt by decide))); omega) (by decide) ?_
        refine J_less (bc' := 400 * k) (bs' := 13000 * k + 1000 * cL A) (by omega) (by omega) ?_
        exact next M A h hz

