/-- no cell -/
def jM0 : jM := (0, fun _ => 0, fun _ => 0, fun _ _ => 0, fun _ _ => none, fun _ _ => 0, fun _ _ => 0)
theorem yY_X7_init : jY yX7_init wsX7_init cX7_init 1 none 0 := ⟨⟨_, rfl⟩, by decide +kernel, by decide +kernel, by decide +kernel⟩
theorem yY_X8_init : jY yX8_init wsX8_init cX8_init 2 none 0 := ⟨⟨_, rfl⟩, by decide +kernel, by decide +kernel, by decide +kernel⟩
theorem lwm_c7 : Cond.classLink RL 8 RX7 ∈ wsL_law := by decide +kernel
theorem lwm_i7 : Cond.instantiable RX7 10 ∈ wsL_law := by decide +kernel
theorem lwm_n7 : Cond.initialized RX7 ∈ wsL_law := by decide +kernel
theorem lwm_l7 : Cond.methodLink RL 114 yX7_init ∈ wsL_law := by decide +kernel
theorem lwm_m7 : Cond.instanceMethod yX7_init ∈ wsL_law := by decide +kernel
theorem lwm_c8 : Cond.classLink RL 115 RX8 ∈ wsL_law := by decide +kernel
theorem lwm_i8 : Cond.instantiable RX8 31 ∈ wsL_law := by decide +kernel
theorem lwm_n8 : Cond.initialized RX8 ∈ wsL_law := by decide +kernel
theorem lwm_l8 : Cond.methodLink RL 117 yX8_init ∈ wsL_law := by decide +kernel
theorem lwm_m8 : Cond.instanceMethod yX8_init ∈ wsL_law := by decide +kernel
theorem lwm_al : Cond.arrayClass (newarray.typeOf .long) ∈ wsL_law := by decide +kernel
theorem lwm_ad : Cond.arrayClass (newarray.typeOf .double) ∈ wsL_law := by decide +kernel
theorem lwi_X7 : ∀ w ∈ u_ws RX7 TX7 10, w ∈ wsL_law := by decide +kernel
theorem lwi_X8 : ∀ w ∈ u_ws RX8 TX8 31, w ∈ wsL_law := by decide +kernel
theorem dL_law_0 : decode cL_law 0 = .ok (.new 8, 3) := by decide +kernel
theorem dL_law_3 : decode cL_law 3 = .ok (.dup, 1) := by decide +kernel
theorem dL_law_4 : decode cL_law 4 = .ok (.invokespecial 114, 3) := by decide +kernel
theorem dL_law_7 : decode cL_law 7 = .ok (.astore_n 1, 1) := by decide +kernel
theorem dL_law_8 : decode cL_law 8 = .ok (.new 115, 3) := by decide +kernel
theorem dL_law_11 : decode cL_law 11 = .ok (.dup, 1) := by decide +kernel
theorem dL_law_12 : decode cL_law 12 = .ok (.invokespecial 117, 3) := by decide +kernel
theorem dL_law_15 : decode cL_law 15 = .ok (.astore_n 2, 1) := by decide +kernel
theorem dL_law_16 : decode cL_law 16 = .ok (.iconst 1, 1) := by decide +kernel
theorem dL_law_17 : decode cL_law 17 = .ok (.newarray .long, 2) := by decide +kernel
theorem dL_law_19 : decode cL_law 19 = .ok (.astore_n 3, 1) := by decide +kernel
theorem dL_law_20 : decode cL_law 20 = .ok (.iconst 1, 1) := by decide +kernel
theorem dL_law_21 : decode cL_law 21 = .ok (.newarray .double, 2) := by decide +kernel
theorem dL_law_23 : decode cL_law 23 = .ok (.astore 4, 2) := by decide +kernel
theorem dL_law_25 : decode cL_law 25 = .ok (.iconst 0, 1) := by decide +kernel
theorem dL_law_26 : decode cL_law 26 = .ok (.istore 5, 2) := by decide +kernel
set_option maxRecDepth 20000 in
theorem ggL_law_X7_init : GoodIn wsL_law wsX7_init := goodIn_r _ [10, 11, 12, 13, 14, 15, 16, 17, 18, 19, 20, 21, 22, 23, 24, 25, 26, 27, 28, 29, 30, 31, 32, 33, 34, 35, 36, 37, 38, 39, 40, 41, 42, 43, 44, 45, 46, 47, 48, 49, 50, 51, 52, 53, 54, 55, 56, 57, 58, 59, 60, 61, 62, 63, 64, 65, 66, 67, 68, 69, 1318, 1319, 1320, 1321, 1322, 1323, 1324, 1325, 1326, 1327, 1359, 1360, 1361, 1362, 1363, 1364, 1365, 1366, 1367, 1368] (by decide +kernel) (by decide +kernel)
set_option maxRecDepth 20000 in
theorem gL_law_X7_init : GoodIn wsL_law (wsX7_init) := ggL_law_X7_init
set_option maxRecDepth 20000 in
theorem ggL_law_X8_init : GoodIn wsL_law wsX8_init := goodIn_ca (goodIn_r _ [72, 73, 12, 13, 39, 74, 75, 76, 77, 78, 79, 80, 81, 82, 83, 84, 85, 86, 87, 88, 1328, 1329, 1330, 1331, 1332, 1333, 1334, 1335, 1336, 1337, 1338, 1339, 1340, 1341, 1342, 1343, 1344, 1345, 1346, 1347, 1348, 1349, 1350, 1351, 1352, 1353, 1354, 1355, 1356, 1357, 1358] (by decide +kernel) (by decide +kernel)) (goodIn_sub (fun _ h => List.mem_append_left _ (List.mem_append_left _ (List.mem_append_left _ (List.mem_append_left _ (List.mem_append_left _ (List.mem_append_left _ (List.mem_append_left _ (List.mem_append_right _ h)))))))) (by decide +kernel))
set_option maxRecDepth 20000 in
theorem gL_law_X8_init : GoodIn wsL_law (wsX8_init) := ggL_law_X8_init
set_option maxHeartbeats 1000000 in
set_option maxRecDepth 20000 in
/-- THE LAW FROM ITS ENTRY -/
theorem law_start (l : Launch) (D : va_G) (dA : Nat → ClassId) (hst : l.stackTraces = false) {F : jFin} {n0 : Nat} {hh : List (Nat × Nat × Nat × Nat)} {fr lo : Nat} (hfr : 700 ≤ fr) (hlo : 9000 ≤ lo) (hL : jSL dA ≤ 2560) (hx1 : ∀ M lv, J l D dA RL cL_law wsL_law 9 false (some .boolean) hh fr lo F n0 0 0 M 1958 lv []) : J l D dA RL cL_law wsL_law 9 false (some .boolean) hh fr lo F n0 603072 7182442 jM0 0 [.retAddr 4, .float 0, .float 0, .float 0, .float 0, .float 0, .float 0, .float 0, .float 0] [] := by
  have c0 : jCl jM0 := fun a j q ha => absurd ha (Nat.not_lt_zero _)
  have c1 : jCl (jNw jM0 10 0) := jCl_Nw c0
  refine J_new (ci := 10) dL_law_0 lwi_X7 cs10 cty10 lwm_c7 lwm_i7 lwm_n7 (by omega) (by omega) c0 (jOk.fs (jOk.float (jOk.float (jOk.float (jOk.float (jOk.float (jOk.float (jOk.float (jOk.float jOk.nil))))))))) jOk.nil ?_
  refine J_dup dL_law_3 rfl ?_
  refine J_callv (jrunI (ret := none) (As := []) (ct_X7_init l D dA hst (jNw jM0 10 0) c1 0 rfl rfl) dL_law_4 yY_X7_init gL_law_X7_init rfl lwm_n7 lwm_l7 lwm_m7 rfl ⟨by omega, by omega⟩ ⟨by omega, by omega⟩ rfl (Nat.le_of_ble_eq_true rfl)) ⟨by omega, by omega⟩ (Or.inr ⟨(jOk.fs (jOk.float (jOk.float (jOk.float (jOk.float (jOk.float (jOk.float (jOk.float (jOk.float jOk.nil))))))))), jOk.ref (Nat.lt_succ_self _) jOk.nil⟩) (fun E M9 hp _ => by cases hp.1) (fun M1 hp hle => ?_)
  obtain ⟨-, hm7, hx7⟩ := hp
  have hn1 : jn M1 = 36 := hm7.1.trans (Nat.zero_add _)
  refine J_astore_n (lv' := [.retAddr 4, .ref 0, .float 0, .float 0, .float 0, .float 0, .float 0, .float 0, .float 0]) dL_law_7 rfl (by decide) rfl rfl ?_
  refine J_new (ci := 11) dL_law_8 lwi_X8 cs11 cty11 lwm_c8 lwm_i8 lwm_n8 (by omega) (by omega) hm7.2.1 (jOk.fs (jOk.ref (show 0 < jn M1 by omega) (jOk.float (jOk.float (jOk.float (jOk.float (jOk.float (jOk.float (jOk.float jOk.nil))))))))) jOk.nil ?_
  rw [hn1]
  refine J_dup dL_law_11 rfl ?_
  refine J_callv (jrunI (ret := none) (As := []) (ct_X8_init l D dA hst (jNw M1 11 0) (jCl_Nw hm7.2.1) 36 (by rw [jn_Nw, hn1]) (by rw [jk_Nw, if_pos hn1.symm]) (fun f => by rw [ji_Nw, if_pos hn1.symm])) dL_law_12 yY_X8_init gL_law_X8_init rfl lwm_n8 lwm_l8 lwm_m8 rfl ⟨by omega, by omega⟩ ⟨by omega, by omega⟩ rfl (Nat.le_of_ble_eq_true rfl)) ⟨by omega, by omega⟩ (Or.inr ⟨(jOk.fs (jOk.ref (show 0 < jn (jNw M1 11 0) by rw [jn_Nw]; omega) (jOk.float (jOk.float (jOk.float (jOk.float (jOk.float (jOk.float (jOk.float jOk.nil))))))))), jOk.ref (show 36 < jn (jNw M1 11 0) by rw [jn_Nw]; omega) jOk.nil⟩) (fun E M9 hp _ => by cases hp.1) (fun M2 hp hle2 => ?_)
  obtain ⟨-, hA8, hx8, hc8, hn8⟩ := hp
  have hn2 : jn M2 = 50 := hn8
  refine J_astore_n (lv' := [.retAddr 4, .ref 0, .ref 36, .float 0, .float 0, .float 0, .float 0, .float 0, .float 0]) dL_law_15 rfl (by decide) rfl rfl ?_
  refine J_iconst (x := 1) dL_law_16 (by decide) ?_
  refine J_newl (N' := 1) (n := 1) dL_law_17 lwm_al (by decide) (by decide) (by simp [newarray.typeOf, componentBytes]) (by omega) (by omega) hc8 (jOk.fs (jOk.ref (show 0 < jn M2 by omega) (jOk.ref (show 36 < jn M2 by omega) (jOk.float (jOk.float (jOk.float (jOk.float (jOk.float (jOk.float jOk.nil))))))))) jOk.nil ?_
  rw [hn2]
  refine J_astore_n (lv' := [.retAddr 4, .ref 0, .ref 36, .ref 50, .float 0, .float 0, .float 0, .float 0, .float 0]) dL_law_19 rfl (by decide) rfl rfl ?_
  refine J_iconst (x := 1) dL_law_20 (by decide) ?_
  have hn3 : jn (jNw M2 25 1) = 51 := by rw [jn_Nw, hn2]
  refine J_newd (N' := 1) (n := 1) dL_law_21 lwm_ad (by decide) (by decide) (by simp [newarray.typeOf, componentBytes]) (by omega) (by omega) (jCl_Nw hc8) (jOk.fs (jOk.ref (show 0 < jn (jNw M2 25 1) by omega) (jOk.ref (show 36 < jn (jNw M2 25 1) by omega) (jOk.ref (show 50 < jn (jNw M2 25 1) by omega) (jOk.float (jOk.float (jOk.float (jOk.float (jOk.float jOk.nil))))))))) jOk.nil ?_
  rw [hn3]
  refine J_astore (lv' := [.retAddr 4, .ref 0, .ref 36, .ref 50, .ref 51, .float 0, .float 0, .float 0, .float 0]) dL_law_23 (by decide) rfl rfl ?_
  refine J_iconst (x := 0) dL_law_25 (by decide) ?_
  refine J_istore (lv' := [.retAddr 4, .ref 0, .ref 36, .ref 50, .ref 51, .int 0, .float 0, .float 0, .float 0]) dL_law_26 (by decide) rfl rfl ?_
  obtain ⟨M3, hM3⟩ : ∃ M3, M3 = jNw (jNw M2 25 1) 26 1 := ⟨_, rfl⟩
  refine J_mem (M' := M3) hM3.symm ?_
  have hn4 : jn M3 = 52 := by rw [hM3, jn_Nw, hn3]
  have hc3 : jCl M3 := by rw [hM3]; exact jCl_Nw (jCl_Nw hc8)
  have xt : jExt M2 M3 := by rw [hM3]; exact jExt.nw.tr jExt.nw
  have hB : jAb M3 0 cA0 := hm7.2.2 M3 (by omega) hc3 (fun a _ h2 => by
    have e1 : jEq M1 (jNw M1 11 0) a := jEq.nw (by omega)
    have e2 : jEq (jNw M1 11 0) M2 a := hx8.eq (by rw [jn_Nw]; omega) (by omega)
    exact (e1.tr e2).tr (xt.2 a (by omega)))
  have hm9 : mAb M3 (0 + 36) cA0 := mAb.fv (v := 0) (m := 0 + 36) hA8 xt.fv (Nat.le_refl _)
  have hab : lAb M3 0 cA0 cA0 := ⟨hB, hm9, by rw [hM3]; simp [jk_Nw, jz_Nw, jn_Nw, hn2], by rw [hM3]; simp [jk_Nw, jz_Nw, jn_Nw, hn2]⟩
  refine J_less (bc' := 400 * 512) (bs' := 13000 * 512 + 1000 * cL cA0) (by omega) (by show 13000 * 512 + 1000 * 0 ≤ _; omega) ?_
  exact law_loop l D dA hst hfr hlo 0 hL hx1 512 M3 cA0 0 hab zA_0 (by omega) (by omega)

