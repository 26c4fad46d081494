theorem dL_law_339 : decode cL_law 339 = .ok (.aload_n 1, 1) := by decide +kernel
theorem dL_law_340 : decode cL_law 340 = .ok (.aload_n 0, 1) := by decide +kernel
theorem dL_law_341 : decode cL_law 341 = .ok (.iload 5, 2) := by decide +kernel
theorem dL_law_343 : decode cL_law 343 = .ok (.iconst 1, 1) := by decide +kernel
theorem dL_law_344 : decode cL_law 344 = .ok (.iadd, 1) := by decide +kernel
theorem dL_law_345 : decode cL_law 345 = .ok (.iaload, 1) := by decide +kernel
theorem dL_law_346 : decode cL_law 346 = .ok (.aload_n 0, 1) := by decide +kernel
theorem dL_law_347 : decode cL_law 347 = .ok (.iload 5, 2) := by decide +kernel
theorem dL_law_349 : decode cL_law 349 = .ok (.iconst 2, 1) := by decide +kernel
theorem dL_law_350 : decode cL_law 350 = .ok (.iadd, 1) := by decide +kernel
theorem dL_law_351 : decode cL_law 351 = .ok (.iaload, 1) := by decide +kernel
theorem dL_law_352 : decode cL_law 352 = .ok (.aload_n 0, 1) := by decide +kernel
theorem dL_law_353 : decode cL_law 353 = .ok (.iload 5, 2) := by decide +kernel
theorem dL_law_355 : decode cL_law 355 = .ok (.iconst 3, 1) := by decide +kernel
theorem dL_law_356 : decode cL_law 356 = .ok (.iadd, 1) := by decide +kernel
theorem dL_law_357 : decode cL_law 357 = .ok (.iaload, 1) := by decide +kernel
theorem dL_law_358 : decode cL_law 358 = .ok (.aload_n 3, 1) := by decide +kernel
theorem dL_law_359 : decode cL_law 359 = .ok (.invokestatic 138, 3) := by decide +kernel
set_option maxRecDepth 20000 in
theorem ggL_law_L_put : GoodIn wsL_law wsL_put := goodIn_ca (goodIn_ca (goodIn_ca (goodIn_r _ [575, 117, 118, 576, 577, 578, 2, 579, 285, 286, 127, 128, 129, 130, 131, 580, 581, 582, 583, 584, 156, 157, 158, 159, 160, 39, 161, 162, 163, 164, 12, 13, 165, 311, 312, 313, 314, 29, 23, 315, 316, 317, 28, 318, 47, 48, 49, 319, 148, 149, 150, 320, 321, 322, 22, 323, 38, 40, 324, 273, 274, 275, 41, 325, 326, 327, 328, 329, 330, 331, 332, 1386, 1318, 1319, 1320, 1321, 1322, 1323, 1324, 1325, 1326, 1327, 1362, 1363, 1364, 1359, 1360, 1361] (by decide +kernel) (by decide +kernel)) (goodIn_sub (fun _ h => List.mem_append_left _ (List.mem_append_left _ (List.mem_append_left _ (List.mem_append_left _ (List.mem_append_left _ (List.mem_append_left _ (List.mem_append_left _ (List.mem_append_right _ h)))))))) (by decide +kernel))) (goodIn_sub (fun _ h => List.mem_append_left _ (List.mem_append_left _ (List.mem_append_left _ (List.mem_append_left _ (List.mem_append_right _ h))))) (by decide +kernel))) (goodIn_sub (fun _ h => List.mem_append_left _ (List.mem_append_left _ (List.mem_append_left _ (List.mem_append_left _ (List.mem_append_left _ (List.mem_append_right _ h)))))) (by decide +kernel))
set_option maxRecDepth 20000 in
theorem gL_law_L_put : GoodIn wsL_law (va_wsS RL 138 yL_put wsL_put) := goodIn_app (goodIn_of _ (by decide +kernel)) ggL_law_L_put
theorem yYH_L_put : jYH yL_put wsL_put cL_put 6 (some .int) [(0, 12, 15, 19), (0, 12, 19, 21)] 5 := ⟨⟨_, rfl⟩, by decide +kernel, by decide +kernel, by decide +kernel⟩
theorem dL_law_362 : decode cL_law 362 = .ok (.istore 6, 2) := by decide +kernel
theorem dL_law_364 : decode cL_law 364 = .ok (.aload_n 2, 1) := by decide +kernel
theorem dL_law_365 : decode cL_law 365 = .ok (.aload_n 0, 1) := by decide +kernel
theorem dL_law_366 : decode cL_law 366 = .ok (.iload 5, 2) := by decide +kernel
theorem dL_law_368 : decode cL_law 368 = .ok (.iconst 1, 1) := by decide +kernel
theorem dL_law_369 : decode cL_law 369 = .ok (.iadd, 1) := by decide +kernel
theorem dL_law_370 : decode cL_law 370 = .ok (.iaload, 1) := by decide +kernel
theorem dL_law_371 : decode cL_law 371 = .ok (.aload_n 0, 1) := by decide +kernel
theorem dL_law_372 : decode cL_law 372 = .ok (.iload 5, 2) := by decide +kernel
theorem dL_law_374 : decode cL_law 374 = .ok (.iconst 2, 1) := by decide +kernel
theorem dL_law_375 : decode cL_law 375 = .ok (.iadd, 1) := by decide +kernel
theorem dL_law_376 : decode cL_law 376 = .ok (.iaload, 1) := by decide +kernel
theorem dL_law_377 : decode cL_law 377 = .ok (.aload_n 0, 1) := by decide +kernel
theorem dL_law_378 : decode cL_law 378 = .ok (.iload 5, 2) := by decide +kernel
theorem dL_law_380 : decode cL_law 380 = .ok (.iconst 3, 1) := by decide +kernel
theorem dL_law_381 : decode cL_law 381 = .ok (.iadd, 1) := by decide +kernel
theorem dL_law_382 : decode cL_law 382 = .ok (.iaload, 1) := by decide +kernel
theorem dL_law_383 : decode cL_law 383 = .ok (.invokevirtual 141, 3) := by decide +kernel
set_option maxRecDepth 20000 in
theorem ggL_law_X8_put : GoodIn wsL_law wsX8_put := goodIn_ca (goodIn_r _ [588, 81, 342, 343, 5, 344, 589, 590, 591, 353, 105, 106, 107, 108, 109, 418, 419, 420, 421, 74, 422, 423, 424, 425, 426, 75, 1328, 1329, 1330, 1331, 1332, 1333, 1334, 1335, 1336, 1337, 1338, 1339, 1340, 1341, 1342, 1343, 1344, 1345, 1346, 1347, 1348, 1349, 1350, 1351, 1352, 1353, 1354, 1355, 1356, 1357, 1358] (by decide +kernel) (by decide +kernel)) (goodIn_sub (fun _ h => List.mem_append_left _ (List.mem_append_left _ (List.mem_append_left _ (List.mem_append_left _ (List.mem_append_left _ (List.mem_append_left _ (List.mem_append_left _ (List.mem_append_right _ h)))))))) (by decide +kernel))
set_option maxRecDepth 20000 in
theorem gL_law_X8_put : GoodIn wsL_law (wsV RL 141 RX8 yX8_put wsX8_put) := goodIn_app (goodIn_of _ (by decide +kernel)) ggL_law_X8_put
theorem yY_X8_put : jY yX8_put wsX8_put cX8_put 4 (some .int) 3 := ⟨⟨_, rfl⟩, by decide +kernel, by decide +kernel, by decide +kernel⟩
theorem dL_law_386 : decode cL_law 386 = .ok (.istore 7, 2) := by decide +kernel
theorem dL_law_388 : decode cL_law 388 = .ok (.aload_n 2, 1) := by decide +kernel
theorem dL_law_389 : decode cL_law 389 = .ok (.invokevirtual 124, 3) := by decide +kernel
theorem dL_law_392 : decode cL_law 392 = .ok (.iload 6, 2) := by decide +kernel
theorem dL_law_394 : decode cL_law 394 = .ok (.if_icmp .eq 5, 3) := by decide +kernel
theorem dL_law_399 : decode cL_law 399 = .ok (.iload 6, 2) := by decide +kernel
theorem dL_law_401 : decode cL_law 401 = .ok (.ifCond .ne 15, 3) := by decide +kernel
theorem dL_law_416 : decode cL_law 416 = .ok (.goto 1536, 3) := by decide +kernel
theorem dL_law_404 : decode cL_law 404 = .ok (.aload_n 3, 1) := by decide +kernel
theorem dL_law_405 : decode cL_law 405 = .ok (.iconst 0, 1) := by decide +kernel
theorem dL_law_406 : decode cL_law 406 = .ok (.laload, 1) := by decide +kernel
theorem dL_law_407 : decode cL_law 407 = .ok (.iload 7, 2) := by decide +kernel
theorem dL_law_409 : decode cL_law 409 = .ok (.i2l, 1) := by decide +kernel
theorem dL_law_410 : decode cL_law 410 = .ok (.lcmp, 1) := by decide +kernel
theorem dL_law_411 : decode cL_law 411 = .ok (.ifCond .eq 5, 3) := by decide +kernel
set_option maxHeartbeats 1000000 in
set_option maxRecDepth 20000 in
theorem law_339 (l : Launch) (D : va_G) (dA : Nat → ClassId) (hst : l.stackTraces = false) {F : jFin} {n0 : Nat} {hh : List (Nat × Nat × Nat × Nat)} {fr lo : Nat} (hfr : 700 ≤ fr) (hlo : 9000 ≤ lo) (M : jM) (v i k : Nat) (A : cA) (h : lAb M v A A) (hz : zA A) (hi : i + 5 ≤ jSL dA) (hL : jSL dA ≤ 2560) (next : ∀ M1 A1, lAb M1 v A1 A1 → zA A1 → J l D dA RL cL_law wsL_law 9 false (some .boolean) hh fr lo F n0 (400 * k) (13000 * k + 1000 * cL A1) M1 1952 [.retAddr 4, .ref v, .ref (v + 36), .ref (v + 50), .ref (v + 51), .int (nI i), .float 0, .float 0, .float 0] []) : J l D dA RL cL_law wsL_law 9 false (some .boolean) hh fr lo F n0 (400 * (k + 1)) (13000 * (k + 1) + 1000 * cL A) (M) 339 [.retAddr (4), .ref (v), .ref (v + 36), .ref (v + 50), .ref (v + 51), .int (nI (i)), .float 0, .float 0, .float 0] [] := by
  have h60 : cL A ≤ 60 := h.1.2.2.1.2.2.2.2.2.2.2.2.1
  refine J_aload_n (v) dL_law_339 rfl rfl ?_
  refine J_aload_ns (4) dL_law_340 rfl rfl ?_
  refine J_iload dL_law_341 rfl ?_
  refine J_iconst (x := 1) dL_law_343 (by decide) ?_
  refine J_iadd dL_law_344 ?_
  refine J_topi (y := nI (i + 1)) (nI_add (i) (1)) ?_
  refine J_sld (kq := i + 1) dL_law_345 (by omega) ?_
  refine J_aload_ns (4) dL_law_346 rfl rfl ?_
  refine J_iload dL_law_347 rfl ?_
  refine J_iconst (x := 2) dL_law_349 (by decide) ?_
  refine J_iadd dL_law_350 ?_
  refine J_topi (y := nI (i + 2)) (nI_add (i) (2)) ?_
  refine J_sld (kq := i + 2) dL_law_351 (by omega) ?_
  refine J_aload_ns (4) dL_law_352 rfl rfl ?_
  refine J_iload dL_law_353 rfl ?_
  refine J_iconst (x := 3) dL_law_355 (by decide) ?_
  refine J_iadd dL_law_356 ?_
  refine J_topi (y := nI (i + 3)) (nI_add (i) (3)) ?_
  refine J_sld (kq := i + 3) dL_law_357 (by omega) ?_
  refine J_aload_n (v + 50) dL_law_358 rfl rfl ?_
  refine J_calli (jrunSH (As := [.ref (v), .int (jSX dA (i + 1)), .int (jSX dA (i + 2)), .int (jSX dA (i + 3)), .ref (v + 50)]) (ct_L_put l D dA hst M v A h.1 ((jSX dA (i + 1))) ((jSX dA (i + 2))) ((jSX dA (i + 3)))  (v + 50) (show v + 50 < jn M by have := h.1.1.1; omega) h.2.2.1.1 h.2.2.1.2) dL_law_359 yYH_L_put gL_law_L_put rfl ⟨by omega, by omega⟩ ⟨by omega, by omega⟩ rfl (Nat.le_of_ble_eq_true rfl)) ⟨by omega, by omega⟩ (Or.inr ⟨(jOk.fs (jOk.ref (show v < jn M by have := h.1.1.1; omega) (jOk.ref (show v + 36 < jn M by have := h.1.1.1; omega) (jOk.ref (show v + 50 < jn M by have := h.1.1.1; omega) (jOk.ref (show v + 51 < jn M by have := h.1.1.1; omega) (jOk.int (jOk.float (jOk.float (jOk.float jOk.nil))))))))), jOk.nil⟩) (fun E M9 hp _ => by obtain ⟨K, _, _, h9⟩ := hp; rcases h9 with ⟨h9, _⟩ | ⟨_, _, _, _, _, h9, _⟩ <;> exact nomatch h9) (fun x6 M1 hp hle => ?_)
  obtain ⟨hab1, h6, hout⟩ := lPr.i h hp
  refine J_istore (lv' := [.retAddr (4), .ref (v), .ref (v + 36), .ref (v + 50), .ref (v + 51), .int (nI (i)), .int (x6), .float 0, .float 0]) dL_law_362 (by decide) rfl rfl ?_
  refine J_aload_n (v + 36) dL_law_364 rfl rfl ?_
  refine J_aload_ns (4) dL_law_365 rfl rfl ?_
  refine J_iload dL_law_366 rfl ?_
  refine J_iconst (x := 1) dL_law_368 (by decide) ?_
  refine J_iadd dL_law_369 ?_
  refine J_topi (y := nI (i + 1)) (nI_add (i) (1)) ?_
  refine J_sld (kq := i + 1) dL_law_370 (by omega) ?_
  refine J_aload_ns (4) dL_law_371 rfl rfl ?_
  refine J_iload dL_law_372 rfl ?_
  refine J_iconst (x := 2) dL_law_374 (by decide) ?_
  refine J_iadd dL_law_375 ?_
  refine J_topi (y := nI (i + 2)) (nI_add (i) (2)) ?_
  refine J_sld (kq := i + 2) dL_law_376 (by omega) ?_
  refine J_aload_ns (4) dL_law_377 rfl rfl ?_
  refine J_iload dL_law_378 rfl ?_
  refine J_iconst (x := 3) dL_law_380 (by decide) ?_
  refine J_iadd dL_law_381 ?_
  refine J_topi (y := nI (i + 3)) (nI_add (i) (3)) ?_
  refine J_sld (kq := i + 3) dL_law_382 (by omega) ?_
  refine J_calli (jrunV (As := [.int (jSX dA (i + 1)), .int (jSX dA (i + 2)), .int (jSX dA (i + 3))]) (ct_X8_put l D dA hst M1 (v + 36) A hab1.2.1 hz.1 ((jSX dA (i + 1))) ((jSX dA (i + 2))) ((jSX dA (i + 3)))) dL_law_383 yY_X8_put gL_law_X8_put rfl cs11 (show v + 36 < jn M1 by have := hab1.1.1.1; omega) hab1.2.1.1.2.1 rfl ⟨by omega, by omega⟩ ⟨Nat.zero_le _, Nat.zero_le _⟩ rfl (Nat.le_of_ble_eq_true rfl)) ⟨Nat.zero_le _, Nat.zero_le _⟩ (Or.inr ⟨(jOk.fs (jOk.ref (show v < jn M1 by have := hab1.1.1.1; omega) (jOk.ref (show v + 36 < jn M1 by have := hab1.1.1.1; omega) (jOk.ref (show v + 50 < jn M1 by have := hab1.1.1.1; omega) (jOk.ref (show v + 51 < jn M1 by have := hab1.1.1.1; omega) (jOk.int (jOk.int (jOk.float (jOk.float jOk.nil))))))))), jOk.nil⟩) (fun E M9 hp _ => by obtain ⟨_, _, _, u, hu⟩ := hp; exact nomatch hu) (fun x7 M2 hq hle2 => ?_)
  obtain ⟨hq1, hq2, hq3, hq4⟩ := hq
  have hab2 := hab1.mf hq2 hq3
  have hcd : ji M2 (v + 36) 11 = x6 := l_code (by decide +kernel) hq1 hq4 h6
  have hz2 : zA ((sPut A (jSX dA (i + 1)) (jSX dA (i + 2)) (jSX dA (i + 3))).2) := hz.sput
  have hcl : cL (sPut A (jSX dA (i + 1)) (jSX dA (i + 2)) (jSX dA (i + 3))).2 = cL A := cLz_put
  refine J_istore (lv' := [.retAddr (4), .ref (v), .ref (v + 36), .ref (v + 50), .ref (v + 51), .int (nI (i)), .int (x6), .int (x7), .float 0]) dL_law_386 (by decide) rfl rfl ?_
  refine J_aload_n (v + 36) dL_law_388 rfl rfl ?_
  refine J_calli0 (jrunV (As := []) (ct_X8_thrown l D dA hst M2 (v + 36) hab2.2.1.1) dL_law_389 yY_X8_thrown gL_law_X8_thrown rfl cs11 (show v + 36 < jn M2 by have := hab2.1.1.1; omega) hab2.2.1.1.2.1 rfl ⟨by omega, by omega⟩ ⟨Nat.zero_le _, Nat.zero_le _⟩ rfl (Nat.le_of_ble_eq_true rfl)) (rfl) (rfl) ?_
  refine J_topi (y := (x6)) (by exact hcd) ?_
  refine J_iload dL_law_392 rfl ?_
  refine J_icmp_eq dL_law_394 (tgt := 399) (by decide) (fun c394 => ?_) (fun c394 => ?_)
  · refine J_iload dL_law_399 rfl ?_
    refine J_if_ne dL_law_401 (tgt := 416) (by decide) (fun c401 => ?_) (fun c401 => ?_)
    · refine J_goto (tgt := 1952) dL_law_416 (by decide) ?_
      refine J_fg 6 (lv' := [.retAddr (4), .ref (v), .ref (v + 36), .ref (v + 50), .ref (v + 51), .int (nI (i)), .float 0, .int (x7), .float 0]) rfl ?_
      refine J_fg 7 (lv' := [.retAddr (4), .ref (v), .ref (v + 36), .ref (v + 50), .ref (v + 51), .int (nI (i)), .float 0, .float 0, .float 0]) rfl ?_
      refine J_less (bc' := 400 * k) (bs' := 13000 * k + 1000 * cL ((sPut A (jSX dA (i + 1)) (jSX dA (i + 2)) (jSX dA (i + 3))).2)) (by omega) (by omega) ?_
      exact next _ _ hab2 hz2
    · obtain ⟨y, hy, hjl⟩ := hout c401
      have hxy := (l_out hq1 ⟨_, hy⟩).2.symm.trans hy
      have hxy : x7 = y := by cases hxy; rfl
      have hv7 : jl M2 (v + 50) 0 = x7.toInt64 := by rw [hq3.2.2.2.2.1, hjl, hxy]
      refine J_aload_n (v + 50) dL_law_404 rfl rfl ?_
      refine J_iconst (x := 0) dL_law_405 (by decide) ?_
      refine J_lald (i := (0)) dL_law_406 (show v + 50 < jn M2 by have := hab2.1.1.1; omega) hab2.2.2.1.1 (by rw [hab2.2.2.1.2]; exact vpin0) ?_
      refine J_iload dL_law_407 rfl ?_
      refine J_i2l dL_law_409 ?_
      refine J_lcmp dL_law_410 ?_
      refine J_if_eq dL_law_411 (tgt := 416) (by decide) (fun c411 => ?_) (fun c411 => ?_)
      · refine J_goto (tgt := 1952) dL_law_416 (by decide) ?_
        refine J_fg 6 (lv' := [.retAddr (4), .ref (v), .ref (v + 36), .ref (v + 50), .ref (v + 51), .int (nI (i)), .float 0, .int (x7), .float 0]) rfl ?_
        refine J_fg 7 (lv' := [.retAddr (4), .ref (v), .ref (v + 36), .ref (v + 50), .ref (v + 51), .int (nI (i)), .float 0, .float 0, .float 0]) rfl ?_
        refine J_less (bc' := 400 * k) (bs' := 13000 * k + 1000 * cL ((sPut A (jSX dA (i + 1)) (jSX dA (i + 2)) (jSX dA (i + 3))).2)) (by omega) (by omega) ?_
        exact next _ _ hab2 hz2
      · exact absurd (by rw [show jl M2 (v + 50) (Int32.toNatClampNeg 0) = x7.toInt64 from hv7]; exact lg_cmp_self) c411
  · exact absurd rfl c394

theorem dL_law_419 : decode cL_law 419 = .ok (.aload_n 1, 1) := by decide +kernel
theorem dL_law_420 : decode cL_law 420 = .ok (.aload_n 0, 1) := by decide +kernel
theorem dL_law_421 : decode cL_law 421 = .ok (.iload 5, 2) := by decide +kernel
theorem dL_law_423 : decode cL_law 423 = .ok (.iconst 1, 1) := by decide +kernel
theorem dL_law_424 : decode cL_law 424 = .ok (.iadd, 1) := by decide +kernel
theorem dL_law_425 : decode cL_law 425 = .ok (.iaload, 1) := by decide +kernel
theorem dL_law_426 : decode cL_law 426 = .ok (.aload_n 3, 1) := by decide +kernel
theorem dL_law_427 : decode cL_law 427 = .ok (.invokestatic 142, 3) := by decide +kernel
set_option maxRecDepth 20000 in
theorem ggL_law_L_clear : GoodIn wsL_law wsL_clear := goodIn_ca (goodIn_ca (goodIn_r _ [594, 117, 595, 596, 597, 2, 598, 23, 127, 128, 129, 130, 131, 599, 505, 506, 22, 507, 38, 311, 312, 313, 314, 29, 315, 316, 317, 28, 318, 47, 48, 49, 319, 148, 149, 150, 320, 321, 322, 323, 40, 324, 273, 274, 275, 41, 325, 326, 327, 328, 329, 330, 331, 332, 1318, 1319, 1320, 1321, 1322, 1323, 1324, 1325, 1326, 1327, 1359, 1360, 1361, 1362, 1363, 1364] (by decide +kernel) (by decide +kernel)) (goodIn_sub (fun _ h => List.mem_append_left _ (List.mem_append_left _ (List.mem_append_left _ (List.mem_append_left _ (List.mem_append_left _ (List.mem_append_left _ (List.mem_append_left _ (List.mem_append_right _ h)))))))) (by decide +kernel))) (goodIn_sub (fun _ h => List.mem_append_left _ (List.mem_append_left _ (List.mem_append_left _ (List.mem_append_left _ (List.mem_append_left _ (List.mem_append_right _ h)))))) (by decide +kernel))
set_option maxRecDepth 20000 in
theorem gL_law_L_clear : GoodIn wsL_law (va_wsS RL 142 yL_clear wsL_clear) := goodIn_app (goodIn_of _ (by decide +kernel)) ggL_law_L_clear
theorem yYH_L_clear : jYH yL_clear wsL_clear cL_clear 4 (some .int) [(0, 16, 19, 19)] 3 := ⟨⟨_, rfl⟩, by decide +kernel, by decide +kernel, by decide +kernel⟩
theorem dL_law_430 : decode cL_law 430 = .ok (.istore 6, 2) := by decide +kernel
theorem dL_law_432 : decode cL_law 432 = .ok (.aload_n 2, 1) := by decide +kernel
theorem dL_law_433 : decode cL_law 433 = .ok (.aload_n 0, 1) := by decide +kernel
theorem dL_law_434 : decode cL_law 434 = .ok (.iload 5, 2) := by decide +kernel
theorem dL_law_436 : decode cL_law 436 = .ok (.iconst 1, 1) := by decide +kernel
theorem dL_law_437 : decode cL_law 437 = .ok (.iadd, 1) := by decide +kernel
theorem dL_law_438 : decode cL_law 438 = .ok (.iaload, 1) := by decide +kernel
theorem dL_law_439 : decode cL_law 439 = .ok (.invokevirtual 144, 3) := by decide +kernel
set_option maxRecDepth 20000 in
theorem ggL_law_X8_clear : GoodIn wsL_law wsX8_clear := goodIn_ca (goodIn_r _ [603, 74, 342, 343, 5, 344, 105, 106, 107, 108, 109, 553, 554, 555, 556, 422, 423, 424, 425, 426, 75, 1328, 1329, 1330, 1331, 1332, 1333, 1334, 1335, 1336, 1337, 1338, 1339, 1340, 1341, 1342, 1343, 1344, 1345, 1346, 1347, 1348, 1349, 1350, 1351, 1352, 1353, 1354, 1355, 1356, 1357, 1358] (by decide +kernel) (by decide +kernel)) (goodIn_sub (fun _ h => List.mem_append_left _ (List.mem_append_left _ (List.mem_append_left _ (List.mem_append_left _ (List.mem_append_left _ (List.mem_append_left _ (List.mem_append_left _ (List.mem_append_right _ h)))))))) (by decide +kernel))
set_option maxRecDepth 20000 in
theorem gL_law_X8_clear : GoodIn wsL_law (wsV RL 144 RX8 yX8_clear wsX8_clear) := goodIn_app (goodIn_of _ (by decide +kernel)) ggL_law_X8_clear
theorem yY_X8_clear : jY yX8_clear wsX8_clear cX8_clear 4 (some .boolean) 1 := ⟨⟨_, rfl⟩, by decide +kernel, by decide +kernel, by decide +kernel⟩
theorem dL_law_442 : decode cL_law 442 = .ok (.istore 7, 2) := by decide +kernel
theorem dL_law_444 : decode cL_law 444 = .ok (.aload_n 2, 1) := by decide +kernel
theorem dL_law_445 : decode cL_law 445 = .ok (.invokevirtual 124, 3) := by decide +kernel
theorem dL_law_448 : decode cL_law 448 = .ok (.iload 6, 2) := by decide +kernel
theorem dL_law_450 : decode cL_law 450 = .ok (.if_icmp .eq 5, 3) := by decide +kernel
theorem dL_law_455 : decode cL_law 455 = .ok (.iload 6, 2) := by decide +kernel
theorem dL_law_457 : decode cL_law 457 = .ok (.ifCond .ne 22, 3) := by decide +kernel
theorem dL_law_479 : decode cL_law 479 = .ok (.goto 1473, 3) := by decide +kernel
theorem dL_law_460 : decode cL_law 460 = .ok (.aload_n 3, 1) := by decide +kernel
theorem dL_law_461 : decode cL_law 461 = .ok (.iconst 0, 1) := by decide +kernel
theorem dL_law_462 : decode cL_law 462 = .ok (.laload, 1) := by decide +kernel
theorem dL_law_463 : decode cL_law 463 = .ok (.iload 7, 2) := by decide +kernel
theorem dL_law_465 : decode cL_law 465 = .ok (.ifCond .eq 7, 3) := by decide +kernel
theorem dL_law_472 : decode cL_law 472 = .ok (.lconst 0, 1) := by decide +kernel
theorem dL_law_473 : decode cL_law 473 = .ok (.lcmp, 1) := by decide +kernel
theorem dL_law_474 : decode cL_law 474 = .ok (.ifCond .eq 5, 3) := by decide +kernel
theorem dL_law_468 : decode cL_law 468 = .ok (.lconst 1, 1) := by decide +kernel
theorem dL_law_469 : decode cL_law 469 = .ok (.goto 4, 3) := by decide +kernel
set_option maxHeartbeats 1000000 in
set_option maxRecDepth 20000 in
theorem law_419 (l : Launch) (D : va_G) (dA : Nat → ClassId) (hst : l.stackTraces = false) {F : jFin} {n0 : Nat} {hh : List (Nat × Nat × Nat × Nat)} {fr lo : Nat} (hfr : 700 ≤ fr) (hlo : 9000 ≤ lo) (M : jM) (v i k : Nat) (A : cA) (h : lAb M v A A) (hz : zA A) (hi : i + 5 ≤ jSL dA) (hL : jSL dA ≤ 2560) (next : ∀ M1 A1, lAb M1 v A1 A1 → zA A1 → J l D dA RL cL_law wsL_law 9 false (some .boolean) hh fr lo F n0 (400 * k) (13000 * k + 1000 * cL A1) M1 1952 [.retAddr 4, .ref v, .ref (v + 36), .ref (v + 50), .ref (v + 51), .int (nI i), .float 0, .float 0, .float 0] []) : J l D dA RL cL_law wsL_law 9 false (some .boolean) hh fr lo F n0 (400 * (k + 1)) (13000 * (k + 1) + 1000 * cL A) (M) 419 [.retAddr (4), .ref (v), .ref (v + 36), .ref (v + 50), .ref (v + 51), .int (nI (i)), .float 0, .float 0, .float 0] [] := by
  have h60 : cL A ≤ 60 := h.1.2.2.1.2.2.2.2.2.2.2.2.1
  refine J_aload_n (v) dL_law_419 rfl rfl ?_
  refine J_aload_ns (4) dL_law_420 rfl rfl ?_
  refine J_iload dL_law_421 rfl ?_
  refine J_iconst (x := 1) dL_law_423 (by decide) ?_
  refine J_iadd dL_law_424 ?_
  refine J_topi (y := nI (i + 1)) (nI_add (i) (1)) ?_
  refine J_sld (kq := i + 1) dL_law_425 (by omega) ?_
  refine J_aload_n (v + 50) dL_law_426 rfl rfl ?_
  refine J_calli (jrunSH (As := [.ref (v), .int (jSX dA (i + 1)), .ref (v + 50)]) (ct_L_clear l D dA hst M v A h.1 ((jSX dA (i + 1)))  (v + 50) (show v + 50 < jn M by have := h.1.1.1; omega) h.2.2.1.1 h.2.2.1.2) dL_law_427 yYH_L_clear gL_law_L_clear rfl ⟨by omega, by omega⟩ ⟨by omega, by omega⟩ rfl (Nat.le_of_ble_eq_true rfl)) ⟨by omega, by omega⟩ (Or.inr ⟨(jOk.fs (jOk.ref (show v < jn M by have := h.1.1.1; omega) (jOk.ref (show v + 36 < jn M by have := h.1.1.1; omega) (jOk.ref (show v + 50 < jn M by have := h.1.1.1; omega) (jOk.ref (show v + 51 < jn M by have := h.1.1.1; omega) (jOk.int (jOk.float (jOk.float (jOk.float jOk.nil))))))))), jOk.nil⟩) (fun E M9 hp _ => by obtain ⟨K, _, _, h9⟩ := hp; rcases h9 with ⟨h9, _⟩ | ⟨_, _, _, _, _, h9, _⟩ <;> exact nomatch h9) (fun x6 M1 hp hle => ?_)
  obtain ⟨hab1, h6, hout⟩ := lPr.z h hp
  refine J_istore (lv' := [.retAddr (4), .ref (v), .ref (v + 36), .ref (v + 50), .ref (v + 51), .int (nI (i)), .int (x6), .float 0, .float 0]) dL_law_430 (by decide) rfl rfl ?_
  refine J_aload_n (v + 36) dL_law_432 rfl rfl ?_
  refine J_aload_ns (4) dL_law_433 rfl rfl ?_
  refine J_iload dL_law_434 rfl ?_
  refine J_iconst (x := 1) dL_law_436 (by decide) ?_
  refine J_iadd dL_law_437 ?_
  refine J_topi (y := nI (i + 1)) (nI_add (i) (1)) ?_
  refine J_sld (kq := i + 1) dL_law_438 (by omega) ?_
  refine J_calli (jrunV (As := [.int (jSX dA (i + 1))]) (ct_X8_clear l D dA hst M1 (v + 36) A hab1.2.1 hz.1 ((jSX dA (i + 1)))) dL_law_439 yY_X8_clear gL_law_X8_clear rfl cs11 (show v + 36 < jn M1 by have := hab1.1.1.1; omega) hab1.2.1.1.2.1 rfl ⟨by omega, by omega⟩ ⟨Nat.zero_le _, Nat.zero_le _⟩ rfl (Nat.le_of_ble_eq_true rfl)) ⟨Nat.zero_le _, Nat.zero_le _⟩ (Or.inr ⟨(jOk.fs (jOk.ref (show v < jn M1 by have := hab1.1.1.1; omega) (jOk.ref (show v + 36 < jn M1 by have := hab1.1.1.1; omega) (jOk.ref (show v + 50 < jn M1 by have := hab1.1.1.1; omega) (jOk.ref (show v + 51 < jn M1 by have := hab1.1.1.1; omega) (jOk.int (jOk.int (jOk.float (jOk.float jOk.nil))))))))), jOk.nil⟩) (fun E M9 hp _ => by obtain ⟨_, _, _, u, hu⟩ := hp; exact nomatch hu) (fun x7 M2 hq hle2 => ?_)
  obtain ⟨hq1, hq2, hq3, hq4⟩ := hq
  have hab2 := hab1.mf hq2 hq3
  have hcd : ji M2 (v + 36) 11 = x6 := l_code (by decide +kernel) hq1 hq4 h6
  have hz2 : zA ((sClr A (jSX dA (i + 1))).2) := hz.clr
  have hcl : cL (sClr A (jSX dA (i + 1))).2 = cL A := cLz_clr
  refine J_istore (lv' := [.retAddr (4), .ref (v), .ref (v + 36), .ref (v + 50), .ref (v + 51), .int (nI (i)), .int (x6), .int (x7), .float 0]) dL_law_442 (by decide) rfl rfl ?_
  refine J_aload_n (v + 36) dL_law_444 rfl rfl ?_
  refine J_calli0 (jrunV (As := []) (ct_X8_thrown l D dA hst M2 (v + 36) hab2.2.1.1) dL_law_445 yY_X8_thrown gL_law_X8_thrown rfl cs11 (show v + 36 < jn M2 by have := hab2.1.1.1; omega) hab2.2.1.1.2.1 rfl ⟨by omega, by omega⟩ ⟨Nat.zero_le _, Nat.zero_le _⟩ rfl (Nat.le_of_ble_eq_true rfl)) (rfl) (rfl) ?_
  refine J_topi (y := (x6)) (by exact hcd) ?_
  refine J_iload dL_law_448 rfl ?_
  refine J_icmp_eq dL_law_450 (tgt := 455) (by decide) (fun c450 => ?_) (fun c450 => ?_)
  · refine J_iload dL_law_455 rfl ?_
    refine J_if_ne dL_law_457 (tgt := 479) (by decide) (fun c457 => ?_) (fun c457 => ?_)
    · refine J_goto (tgt := 1952) dL_law_479 (by decide) ?_
      refine J_fg 6 (lv' := [.retAddr (4), .ref (v), .ref (v + 36), .ref (v + 50), .ref (v + 51), .int (nI (i)), .float 0, .int (x7), .float 0]) rfl ?_
      refine J_fg 7 (lv' := [.retAddr (4), .ref (v), .ref (v + 36), .ref (v + 50), .ref (v + 51), .int (nI (i)), .float 0, .float 0, .float 0]) rfl ?_
      refine J_less (bc' := 400 * k) (bs' := 13000 * k + 1000 * cL ((sClr A (jSX dA (i + 1))).2)) (by omega) (by omega) ?_
      exact next _ _ hab2 hz2
    · obtain ⟨y, hy, hjl⟩ := hout c457
      have hxy := (l_out hq1 ⟨_, hy⟩).2.symm.trans hy
      have hxy : x7 = y := by cases hxy; rfl
      have hv7 : jl M2 (v + 50) 0 = if x7 = 0 then 0 else 1 := by rw [hq3.2.2.2.2.1, hjl, hxy]
      refine J_aload_n (v + 50) dL_law_460 rfl rfl ?_
      refine J_iconst (x := 0) dL_law_461 (by decide) ?_
      refine J_lald (i := (0)) dL_law_462 (show v + 50 < jn M2 by have := hab2.1.1.1; omega) hab2.2.2.1.1 (by rw [hab2.2.2.1.2]; exact vpin0) ?_
      refine J_iload dL_law_463 rfl ?_
      refine J_if_eq dL_law_465 (tgt := 472) (by decide) (fun c465 => ?_) (fun c465 => ?_)
      · refine J_lconst (x := 0) dL_law_472 (by decide) ?_
        refine J_lcmp dL_law_473 ?_
        refine J_if_eq dL_law_474 (tgt := 479) (by decide) (fun c474 => ?_) (fun c474 => ?_)
        · refine J_goto (tgt := 1952) dL_law_479 (by decide) ?_
          refine J_fg 6 (lv' := [.retAddr (4), .ref (v), .ref (v + 36), .ref (v + 50), .ref (v + 51), .int (nI (i)), .float 0, .int (x7), .float 0]) rfl ?_
          refine J_fg 7 (lv' := [.retAddr (4), .ref (v), .ref (v + 36), .ref (v + 50), .ref (v + 51), .int (nI (i)), .float 0, .float 0, .float 0]) rfl ?_
          refine J_less (bc' := 400 * k) (bs' := 13000 * k + 1000 * cL ((sClr A (jSX dA (i + 1))).2)) (by omega) (by omega) ?_
          exact next _ _ hab2 hz2
        · exact absurd (by rw [show jl M2 (v + 50) (Int32.toNatClampNeg 0) = _ from hv7]; first | (rw [if_pos c465]; exact lg_cmp_self) | (rw [if_neg c465]; exact lg_cmp_self)) c474
      · refine J_lconst (x := 1) dL_law_468 (by decide) ?_
        refine J_goto (tgt := 473) dL_law_469 (by decide) ?_
        refine J_lcmp dL_law_473 ?_
        refine J_if_eq dL_law_474 (tgt := 479) (by decide) (fun c474 => ?_) (fun c474 => ?_)
        · refine J_goto (tgt := 1952) dL_law_479 (by decide) ?_
          refine J_fg 6 (lv' := [.retAddr (4), .ref (v), .ref (v + 36), .ref (v + 50), .ref (v + 51), .int (nI (i)), .float 0, .int (x7), .float 0]) rfl ?_
          refine J_fg 7 (lv' := [.retAddr (4), .ref (v), .ref (v + 36), .ref (v + 50), .ref (v + 51), .int (nI (i)), .float 0, .float 0, .float 0]) rfl ?_
          refine J_less (bc' := 400 * k) (bs' := 13000 * k + 1000 * cL ((sClr A (jSX dA (i + 1))).2)) (by omega) (by omega) ?_
          exact next _ _ hab2 hz2
        · exact absurd (by rw [show jl M2 (v + 50) (Int32.toNatClampNeg 0) = _ from hv7]; first | (rw [if_pos c465]; exact lg_cmp_self) | (rw [if_neg c465]; exact lg_cmp_self)) c474
  · exact absurd rfl c450

theorem dL_law_482 : decode cL_law 482 = .ok (.aload_n 1, 1) := by decide +kernel
theorem dL_law_483 : decode cL_law 483 = .ok (.aload_n 0, 1) := by decide +kernel
theorem dL_law_484 : decode cL_law 484 = .ok (.iload 5, 2) := by decide +kernel
theorem dL_law_486 : decode cL_law 486 = .ok (.iconst 1, 1) := by decide +kernel
theorem dL_law_487 : decode cL_law 487 = .ok (.iadd, 1) := by decide +kernel
theorem dL_law_488 : decode cL_law 488 = .ok (.iaload, 1) := by decide +kernel
theorem dL_law_489 : decode cL_law 489 = .ok (.aload_n 0, 1) := by decide +kernel
theorem dL_law_490 : decode cL_law 490 = .ok (.iload 5, 2) := by decide +kernel
theorem dL_law_492 : decode cL_law 492 = .ok (.iconst 2, 1) := by decide +kernel
theorem dL_law_493 : decode cL_law 493 = .ok (.iadd, 1) := by decide +kernel
theorem dL_law_494 : decode cL_law 494 = .ok (.iaload, 1) := by decide +kernel
theorem dL_law_495 : decode cL_law 495 = .ok (.aload_n 3, 1) := by decide +kernel
theorem dL_law_496 : decode cL_law 496 = .ok (.invokestatic 145, 3) := by decide +kernel
set_option maxRecDepth 20000 in
theorem ggL_law_L_copy : GoodIn wsL_law wsL_copy := goodIn_ca (goodIn_ca (goodIn_r _ [606, 117, 607, 608, 609, 2, 610, 23, 127, 128, 129, 130, 131, 599, 505, 506, 22, 507, 38, 311, 312, 313, 314, 29, 315, 316, 317, 28, 318, 47, 48, 49, 319, 148, 149, 150, 320, 321, 322, 323, 40, 324, 273, 274, 275, 41, 325, 326, 327, 328, 329, 330, 331, 332, 611, 612, 613, 614, 1318, 1319, 1320, 1321, 1322, 1323, 1324, 1325, 1326, 1327, 1359, 1360, 1361, 1362, 1363, 1364] (by decide +kernel) (by decide +kernel)) (goodIn_sub (fun _ h => List.mem_append_left _ (List.mem_append_left _ (List.mem_append_left _ (List.mem_append_left _ (List.mem_append_left _ (List.mem_append_left _ (List.mem_append_left _ (List.mem_append_right _ h)))))))) (by decide +kernel))) (goodIn_sub (fun _ h => List.mem_append_left _ (List.mem_append_left _ (List.mem_append_left _ (List.mem_append_left _ (List.mem_append_left _ (List.mem_append_right _ h)))))) (by decide +kernel))
set_option maxRecDepth 20000 in
theorem gL_law_L_copy : GoodIn wsL_law (va_wsS RL 145 yL_copy wsL_copy) := goodIn_app (goodIn_of _ (by decide +kernel)) ggL_law_L_copy
theorem yYH_L_copy : jYH yL_copy wsL_copy cL_copy 5 (some .int) [(0, 10, 13, 19)] 4 := ⟨⟨_, rfl⟩, by decide +kernel, by decide +kernel, by decide +kernel⟩
theorem dL_law_499 : decode cL_law 499 = .ok (.istore 6, 2) := by decide +kernel
theorem dL_law_501 : decode cL_law 501 = .ok (.aload_n 2, 1) := by decide +kernel
theorem dL_law_502 : decode cL_law 502 = .ok (.aload_n 0, 1) := by decide +kernel
theorem dL_law_503 : decode cL_law 503 = .ok (.iload 5, 2) := by decide +kernel
theorem dL_law_505 : decode cL_law 505 = .ok (.iconst 1, 1) := by decide +kernel
theorem dL_law_506 : decode cL_law 506 = .ok (.iadd, 1) := by decide +kernel
theorem dL_law_507 : decode cL_law 507 = .ok (.iaload, 1) := by decide +kernel
theorem dL_law_508 : decode cL_law 508 = .ok (.aload_n 0, 1) := by decide +kernel
theorem dL_law_509 : decode cL_law 509 = .ok (.iload 5, 2) := by decide +kernel
theorem dL_law_511 : decode cL_law 511 = .ok (.iconst 2, 1) := by decide +kernel
theorem dL_law_512 : decode cL_law 512 = .ok (.iadd, 1) := by decide +kernel
theorem dL_law_513 : decode cL_law 513 = .ok (.iaload, 1) := by decide +kernel
theorem dL_law_514 : decode cL_law 514 = .ok (.invokevirtual 148, 3) := by decide +kernel
set_option maxRecDepth 20000 in
theorem ggL_law_X8_copy : GoodIn wsL_law wsX8_copy := goodIn_ca (goodIn_r _ [618, 74, 342, 343, 5, 344, 105, 106, 107, 108, 109, 422, 423, 424, 425, 426, 75, 619, 620, 621, 622, 553, 554, 555, 556, 1328, 1329, 1330, 1331, 1332, 1333, 1334, 1335, 1336, 1337, 1338, 1339, 1340, 1341, 1342, 1343, 1344, 1345, 1346, 1347, 1348, 1349, 1350, 1351, 1352, 1353, 1354, 1355, 1356, 1357, 1358] (by decide +kernel) (by decide +kernel)) (goodIn_sub (fun _ h => List.mem_append_left _ (List.mem_append_left _ (List.mem_append_left _ (List.mem_append_left _ (List.mem_append_left _ (List.mem_append_left _ (List.mem_append_left _ (List.mem_append_right _ h)))))))) (by decide +kernel))
set_option maxRecDepth 20000 in
theorem gL_law_X8_copy : GoodIn wsL_law (wsV RL 148 RX8 yX8_copy wsX8_copy) := goodIn_app (goodIn_of _ (by decide +kernel)) ggL_law_X8_copy
theorem yY_X8_copy : jY yX8_copy wsX8_copy cX8_copy 4 (some .int) 2 := ⟨⟨_, rfl⟩, by decide +kernel, by decide +kernel, by decide +kernel⟩
theorem dL_law_517 : decode cL_law 517 = .ok (.istore 7, 2) := by decide +kernel
theorem dL_law_519 : decode cL_law 519 = .ok (.aload_n 2, 1) := by decide +kernel
theorem dL_law_520 : decode cL_law 520 = .ok (.invokevirtual 124, 3) := by decide +kernel
theorem dL_law_523 : decode cL_law 523 = .ok (.iload 6, 2) := by decide +kernel
theorem dL_law_525 : decode cL_law 525 = .ok (.if_icmp .eq 5, 3) := by decide +kernel
theorem dL_law_530 : decode cL_law 530 = .ok (.iload 6, 2) := by decide +kernel
theorem dL_law_532 : decode cL_law 532 = .ok (.ifCond .ne 15, 3) := by decide +kernel
theorem dL_law_547 : decode cL_law 547 = .ok (.goto 1405, 3) := by decide +kernel
theorem dL_law_535 : decode cL_law 535 = .ok (.aload_n 3, 1) := by decide +kernel
theorem dL_law_536 : decode cL_law 536 = .ok (.iconst 0, 1) := by decide +kernel
theorem dL_law_537 : decode cL_law 537 = .ok (.laload, 1) := by decide +kernel
theorem dL_law_538 : decode cL_law 538 = .ok (.iload 7, 2) := by decide +kernel
theorem dL_law_540 : decode cL_law 540 = .ok (.i2l, 1) := by decide +kernel
theorem dL_law_541 : decode cL_law 541 = .ok (.lcmp, 1) := by decide +kernel
theorem dL_law_542 : decode cL_law 542 = .ok (.ifCond .eq 5, 3) := by decide +kernel
set_option maxHeartbeats 1000000 in
set_option maxRecDepth 20000 in
theorem law_482 (l : Launch) (D : va_G) (dA : Nat → ClassId) (hst : l.stackTraces = false) {F : jFin} {n0 : Nat} {hh : List (Nat × Nat × Nat × Nat)} {fr lo : Nat} (hfr : 700 ≤ fr) (hlo : 9000 ≤ lo) (M : jM) (v i k : Nat) (A : cA) (h : lAb M v A A) (hz : zA A) (hi : i + 5 ≤ jSL dA) (hL : jSL dA ≤ 2560) (next : ∀ M1 A1, lAb M1 v A1 A1 → zA A1 → J l D dA RL cL_law wsL_law 9 false (some .boolean) hh fr lo F n0 (400 * k) (13000 * k + 1000 * cL A1) M1 1952 [.retAddr 4, .ref v, .ref (v + 36), .ref (v + 50), .ref (v + 51), .int (nI i), .float 0, .float 0, .float 0] []) : J l D dA RL cL_law wsL_law 9 false (some .boolean) hh fr lo F n0 (400 * (k + 1)) (13000 * (k + 1) + 1000 * cL A) (M) 482 [.retAddr (4), .ref (v), .ref (v + 36), .ref (v + 50), .ref (v + 51), .int (nI (i)), .float 0, .float 0, .float 0] [] := by
  have h60 : cL A ≤ 60 := h.1.2.2.1.2.2.2.2.2.2.2.2.1
  refine J_aload_n (v) dL_law_482 rfl rfl ?_
  refine J_aload_ns (4) dL_law_483 rfl rfl ?_
  refine J_iload dL_law_484 rfl ?_
  refine J_iconst (x := 1) dL_law_486 (by decide) ?_
  refine J_iadd dL_law_487 ?_
  refine J_topi (y := nI (i + 1)) (nI_add (i) (1)) ?_
  refine J_sld (kq := i + 1) dL_law_488 (by omega) ?_
  refine J_aload_ns (4) dL_law_489 rfl rfl ?_
  refine J_iload dL_law_490 rfl ?_
  refine J_iconst (x := 2) dL_law_492 (by decide) ?_
  refine J_iadd dL_law_493 ?_
  refine J_topi (y := nI (i + 2)) (nI_add (i) (2)) ?_
  refine J_sld (kq := i + 2) dL_law_494 (by omega) ?_
  refine J_aload_n (v + 50) dL_law_495 rfl rfl ?_
  refine J_calli (jrunSH (As := [.ref (v), .int (jSX dA (i + 1)), .int (jSX dA (i + 2)), .ref (v + 50)]) (ct_L_copy l D dA hst M v A h.1 ((jSX dA (i + 1))) ((jSX dA (i + 2)))  (v + 50) (show v + 50 < jn M by have := h.1.1.1; omega) h.2.2.1.1 h.2.2.1.2) dL_law_496 yYH_L_copy gL_law_L_copy rfl ⟨by omega, by omega⟩ ⟨by omega, by omega⟩ rfl (Nat.le_of_ble_eq_true rfl)) ⟨by omega, by omega⟩ (Or.inr ⟨(jOk.fs (jOk.ref (show v < jn M by have := h.1.1.1; omega) (jOk.ref (show v + 36 < jn M by have := h.1.1.1; omega) (jOk.ref (show v + 50 < jn M by have := h.1.1.1; omega) (jOk.ref (show v + 51 < jn M by have := h.1.1.1; omega) (jOk.int (jOk.float (jOk.float (jOk.float jOk.nil))))))))), jOk.nil⟩) (fun E M9 hp _ => by obtain ⟨K, _, _, h9⟩ := hp; rcases h9 with ⟨h9, _⟩ | ⟨_, _, _, _, _, h9, _⟩ <;> exact nomatch h9) (fun x6 M1 hp hle => ?_)
  obtain ⟨hab1, h6, hout⟩ := lPr.i h hp
  refine J_istore (lv' := [.retAddr (4), .ref (v), .ref (v + 36), .ref (v + 50), .ref (v + 51), .int (nI (i)), .int (x6), .float 0, .float 0]) dL_law_499 (by decide) rfl rfl ?_
  refine J_aload_n (v + 36) dL_law_501 rfl rfl ?_
  refine J_aload_ns (4) dL_law_502 rfl rfl ?_
  refine J_iload dL_law_503 rfl ?_
  refine J_iconst (x := 1) dL_law_505 (by decide) ?_
  refine J_iadd dL_law_506 ?_
  refine J_topi (y := nI (i + 1)) (nI_add (i) (1)) ?_
  refine J_sld (kq := i + 1) dL_law_507 (by omega) ?_
  refine J_aload_ns (4) dL_law_508 rfl rfl ?_
  refine J_iload dL_law_509 rfl ?_
  refine J_iconst (x := 2) dL_law_511 (by decide) ?_
  refine J_iadd dL_law_512 ?_
  refine J_topi (y := nI (i + 2)) (nI_add (i) (2)) ?_
  refine J_sld (kq := i + 2) dL_law_513 (by omega) ?_
  refine J_calli (jrunV (As := [.int (jSX dA (i + 1)), .int (jSX dA (i + 2))]) (ct_X8_copy l D dA hst M1 (v + 36) A hab1.2.1 hz.1 ((jSX dA (i + 1))) ((jSX dA (i + 2)))) dL_law_514 yY_X8_copy gL_law_X8_copy rfl cs11 (show v + 36 < jn M1 by have := hab1.1.1.1; omega) hab1.2.1.1.2.1 rfl ⟨by omega, by omega⟩ ⟨Nat.zero_le _, Nat.zero_le _⟩ rfl (Nat.le_of_ble_eq_true rfl)) ⟨Nat.zero_le _, Nat.zero_le _⟩ (Or.inr ⟨(jOk.fs (jOk.ref (show v < jn M1 by have := hab1.1.1.1; omega) (jOk.ref (show v + 36 < jn M1 by have := hab1.1.1.1; omega) (jOk.ref (show v + 50 < jn M1 by have := hab1.1.1.1; omega) (jOk.ref (show v + 51 < jn M1 by have := hab1.1.1.1; omega) (jOk.int (jOk.int (jOk.float (jOk.float jOk.nil))))))))), jOk.nil⟩) (fun E M9 hp _ => by obtain ⟨_, _, _, u, hu⟩ := hp; exact nomatch hu) (fun x7 M2 hq hle2 => ?_)
  obtain ⟨hq1, hq2, hq3, hq4⟩ := hq
  have hab2 := hab1.mf hq2 hq3
  have hcd : ji M2 (v + 36) 11 = x6 := l_code (by decide +kernel) hq1 hq4 h6
  have hz2 : zA ((sCpy A (jSX dA (i + 1)) (jSX dA (i + 2))).2) := hz.cpy
  have hcl : cL (sCpy A (jSX dA (i + 1)) (jSX dA (i + 2))).2 = cL A := cLz_cpy
  refine J_istore (lv' := [.retAddr (4), .ref (v), .ref (v + 36), .ref (v + 50), .ref (v + 51), .int (nI (i)), .int (x6), .int (x7), .float 0]) dL_law_517 (by decide) rfl rfl ?_
  refine J_aload_n (v + 36) dL_law_519 rfl rfl ?_
  refine J_calli0 (jrunV (As := []) (ct_X8_thrown l D dA hst M2 (v + 36) hab2.2.1.1) dL_law_520 yY_X8_thrown gL_law_X8_thrown rfl cs11 (show v + 36 < jn M2 by have := hab2.1.1.1; omega) hab2.2.1.1.2.1 rfl ⟨by omega, by omega⟩ ⟨Nat.zero_le _, Nat.zero_le _⟩ rfl (Nat.le_of_ble_eq_true rfl)) (rfl) (rfl) ?_
  refine J_topi (y := (x6)) (by exact hcd) ?_
  refine J_iload dL_law_523 rfl ?_
  refine J_icmp_eq dL_law_525 (tgt := 530) (by decide) (fun c525 => ?_) (fun c525 => ?_)
  · refine J_iload dL_law_530 rfl ?_
    refine J_if_ne dL_law_532 (tgt := 547) (by decide) (fun c532 => ?_) (fun c532 => ?_)
    · refine J_goto (tgt := 1952) dL_law_547 (by decide) ?_
      refine J_fg 6 (lv' := [.retAddr (4), .ref (v), .ref (v + 36), .ref (v + 50), .ref (v + 51), .int (nI (i)), .float 0, .int (x7), .float 0]) rfl ?_
      refine J_fg 7 (lv' := [.retAddr (4), .ref (v), .ref (v + 36), .ref (v + 50), .ref (v + 51), .int (nI (i)), .float 0, .float 0, .float 0]) rfl ?_
      refine J_less (bc' := 400 * k) (bs' := 13000 * k + 1000 * cL ((sCpy A (jSX dA (i + 1)) (jSX dA (i + 2))).2)) (by omega) (by omega) ?_
      exact next _ _ hab2 hz2
    · obtain ⟨y, hy, hjl⟩ := hout c532
      have hxy := (l_out hq1 ⟨_, hy⟩).2.symm.trans hy
      have hxy : x7 = y := by cases hxy; rfl
      have hv7 : jl M2 (v + 50) 0 = x7.toInt64 := by rw [hq3.2.2.2.2.1, hjl, hxy]
      refine J_aload_n (v + 50) dL_law_535 rfl rfl ?_
      refine J_iconst (x := 0) dL_law_536 (by decide) ?_
      refine J_lald (i := (0)) dL_law_537 (show v + 50 < jn M2 by have := hab2.1.1.1; omega) hab2.2.2.1.1 (by rw [hab2.2.2.1.2]; exact vpin0) ?_
      refine J_iload dL_law_538 rfl ?_
      refine J_i2l dL_law_540 ?_
      refine J_lcmp dL_law_541 ?_
      refine J_if_eq dL_law_542 (tgt := 547) (by decide) (fun c542 => ?_) (fun c542 => ?_)
      · refine J_goto (tgt := 1952) dL_law_547 (by decide) ?_
        refine J_fg 6 (lv' := [.retAddr (4), .ref (v), .ref (v + 36), .ref (v + 50), .ref (v + 51), .int (nI (i)), .float 0, .int (x7), .float 0]) rfl ?_
        refine J_fg 7 (lv' := [.retAddr (4), .ref (v), .ref (v + 36), .ref (v + 50), .ref (v + 51), .int (nI (i)), .float 0, .float 0, .float 0]) rfl ?_
        refine J_less (bc' := 400 * k) (bs' := 13000 * k + 1000 * cL ((sCpy A (jSX dA (i + 1)) (jSX dA (i + 2))).2)) (by omega) (by omega) ?_
        exact next _ _ hab2 hz2
      · exact absurd (by rw [show jl M2 (v + 50) (Int32.toNatClampNeg 0) = x7.toInt64 from hv7]; exact lg_cmp_self) c542
  · exact absurd rfl c525

theorem dL_law_550 : decode cL_law 550 = .ok (.aload_n 1, 1) := by decide +kernel
theorem dL_law_551 : decode cL_law 551 = .ok (.aload_n 0, 1) := by decide +kernel
theorem dL_law_552 : decode cL_law 552 = .ok (.iload 5, 2) := by decide +kernel
theorem dL_law_554 : decode cL_law 554 = .ok (.iconst 1, 1) := by decide +kernel
theorem dL_law_555 : decode cL_law 555 = .ok (.iadd, 1) := by decide +kernel
theorem dL_law_556 : decode cL_law 556 = .ok (.iaload, 1) := by decide +kernel
theorem dL_law_557 : decode cL_law 557 = .ok (.aload_n 3, 1) := by decide +kernel
theorem dL_law_558 : decode cL_law 558 = .ok (.invokestatic 149, 3) := by decide +kernel
set_option maxRecDepth 20000 in
theorem ggL_law_L_spans : GoodIn wsL_law wsL_spans := goodIn_ca (goodIn_ca (goodIn_ca (goodIn_r _ [625, 117, 626, 627, 628, 629, 2, 630, 631, 632, 633, 634, 635, 636, 23, 127, 128, 129, 130, 131, 599, 505, 506, 22, 507, 38, 333, 235, 236, 157, 237, 165, 1318, 1319, 1320, 1321, 1322, 1323, 1324, 1325, 1326, 1327, 1359, 1360, 1361, 1386] (by decide +kernel) (by decide +kernel)) (goodIn_sub (fun _ h => List.mem_append_left _ (List.mem_append_left _ (List.mem_append_left _ (List.mem_append_left _ (List.mem_append_left _ (List.mem_append_left _ (List.mem_append_left _ (List.mem_append_right _ h)))))))) (by decide +kernel))) (goodIn_sub (fun _ h => List.mem_append_left _ (List.mem_append_right _ h)) (by decide +kernel))) (goodIn_sub (fun _ h => List.mem_append_left _ (List.mem_append_left _ (List.mem_append_left _ (List.mem_append_left _ (List.mem_append_left _ (List.mem_append_right _ h)))))) (by decide +kernel))
set_option maxRecDepth 20000 in
theorem gL_law_L_spans : GoodIn wsL_law (va_wsS RL 149 yL_spans wsL_spans) := goodIn_app (goodIn_of _ (by decide +kernel)) ggL_law_L_spans
theorem yYH_L_spans : jYH yL_spans wsL_spans cL_spans 4 (some .int) [(0, 9, 12, 19), (0, 9, 15, 43)] 3 := ⟨⟨_, rfl⟩, by decide +kernel, by decide +kernel, by decide +kernel⟩
theorem dL_law_561 : decode cL_law 561 = .ok (.istore 6, 2) := by decide +kernel
theorem dL_law_563 : decode cL_law 563 = .ok (.aload_n 2, 1) := by decide +kernel
theorem dL_law_564 : decode cL_law 564 = .ok (.aload_n 0, 1) := by decide +kernel
theorem dL_law_565 : decode cL_law 565 = .ok (.iload 5, 2) := by decide +kernel
theorem dL_law_567 : decode cL_law 567 = .ok (.iconst 1, 1) := by decide +kernel
theorem dL_law_568 : decode cL_law 568 = .ok (.iadd, 1) := by decide +kernel
theorem dL_law_569 : decode cL_law 569 = .ok (.iaload, 1) := by decide +kernel
theorem dL_law_570 : decode cL_law 570 = .ok (.invokevirtual 151, 3) := by decide +kernel
set_option maxRecDepth 20000 in
theorem ggL_law_X8_spans : GoodIn wsL_law wsX8_spans := goodIn_ca (goodIn_r _ [640, 74, 641, 642, 643, 5, 644, 342, 343, 344, 553, 554, 555, 556, 105, 106, 107, 108, 109, 1328, 1329, 1330, 1331, 1332, 1333, 1334, 1335, 1336, 1337, 1338, 1339, 1340, 1341, 1342, 1343, 1344, 1345, 1346, 1347, 1348, 1349, 1350, 1351, 1352, 1353, 1354, 1355, 1356, 1357, 1358] (by decide +kernel) (by decide +kernel)) (goodIn_sub (fun _ h => List.mem_append_left _ (List.mem_append_left _ (List.mem_append_left _ (List.mem_append_left _ (List.mem_append_left _ (List.mem_append_left _ (List.mem_append_left _ (List.mem_append_right _ h)))))))) (by decide +kernel))
set_option maxRecDepth 20000 in
theorem gL_law_X8_spans : GoodIn wsL_law (wsV RL 151 RX8 yX8_spans wsX8_spans) := goodIn_app (goodIn_of _ (by decide +kernel)) ggL_law_X8_spans
theorem yY_X8_spans : jY yX8_spans wsX8_spans cX8_spans 2 (some .int) 1 := ⟨⟨_, rfl⟩, by decide +kernel, by decide +kernel, by decide +kernel⟩
theorem dL_law_573 : decode cL_law 573 = .ok (.istore 7, 2) := by decide +kernel
theorem dL_law_575 : decode cL_law 575 = .ok (.aload_n 2, 1) := by decide +kernel
theorem dL_law_576 : decode cL_law 576 = .ok (.invokevirtual 124, 3) := by decide +kernel
theorem dL_law_579 : decode cL_law 579 = .ok (.iload 6, 2) := by decide +kernel
theorem dL_law_581 : decode cL_law 581 = .ok (.if_icmp .eq 5, 3) := by decide +kernel
theorem dL_law_586 : decode cL_law 586 = .ok (.iload 6, 2) := by decide +kernel
theorem dL_law_588 : decode cL_law 588 = .ok (.ifCond .ne 15, 3) := by decide +kernel
theorem dL_law_603 : decode cL_law 603 = .ok (.goto 1349, 3) := by decide +kernel
theorem dL_law_591 : decode cL_law 591 = .ok (.aload_n 3, 1) := by decide +kernel
theorem dL_law_592 : decode cL_law 592 = .ok (.iconst 0, 1) := by decide +kernel
theorem dL_law_593 : decode cL_law 593 = .ok (.laload, 1) := by decide +kernel
theorem dL_law_594 : decode cL_law 594 = .ok (.iload 7, 2) := by decide +kernel
theorem dL_law_596 : decode cL_law 596 = .ok (.i2l, 1) := by decide +kernel
theorem dL_law_597 : decode cL_law 597 = .ok (.lcmp, 1) := by decide +kernel
theorem dL_law_598 : decode cL_law 598 = .ok (.ifCond .eq 5, 3) := by decide +kernel
set_option maxHeartbeats 1000000 in
set_option maxRecDepth 20000 in
theorem law_550 (l : Launch) (D : va_G) (dA : Nat → ClassId) (hst : l.stackTraces = false) {F : jFin} {n0 : Nat} {hh : List (Nat × Nat × Nat × Nat)} {fr lo : Nat} (hfr : 700 ≤ fr) (hlo : 9000 ≤ lo) (M : jM) (v i k : Nat) (A : cA) (h : lAb M v A A) (hz : zA A) (hi : i + 5 ≤ jSL dA) (hL : jSL dA ≤ 2560) (next : ∀ M1 A1, lAb M1 v A1 A1 → zA A1 → J l D dA RL cL_law wsL_law 9 false (some .boolean) hh fr lo F n0 (400 * k) (13000 * k + 1000 * cL A1) M1 1952 [.retAddr 4, .ref v, .ref (v + 36), .ref (v + 50), .ref (v + 51), .int (nI i), .float 0, .float 0, .float 0] []) : J l D dA RL cL_law wsL_law 9 false (some .boolean) hh fr lo F n0 (400 * (k + 1)) (13000 * (k + 1) + 1000 * cL A) (M) 550 [.retAddr (4), .ref (v), .ref (v + 36), .ref (v + 50), .ref (v + 51), .int (nI (i)), .float 0, .float 0, .float 0] [] := by
  have h60 : cL A ≤ 60 := h.1.2.2.1.2.2.2.2.2.2.2.2.1
  refine J_aload_n (v) dL_law_550 rfl rfl ?_
  refine J_aload_ns (4) dL_law_551 rfl rfl ?_
  refine J_iload dL_law_552 rfl ?_
  refine J_iconst (x := 1) dL_law_554 (by decide) ?_
  refine J_iadd dL_law_555 ?_
  refine J_topi (y := nI (i + 1)) (nI_add (i) (1)) ?_
  refine J_sld (kq := i + 1) dL_law_556 (by omega) ?_
  refine J_aload_n (v + 50) dL_law_557 rfl rfl ?_
  refine J_calli (jrunSH (As := [.ref (v), .int (jSX dA (i + 1)), .ref (v + 50)]) (ct_L_spans l D dA hst M v A h.1 ((jSX dA (i + 1)))  (v + 50) (show v + 50 < jn M by have := h.1.1.1; omega) h.2.2.1.1 h.2.2.1.2) dL_law_558 yYH_L_spans gL_law_L_spans rfl ⟨by omega, by omega⟩ ⟨by omega, by omega⟩ rfl (Nat.le_of_ble_eq_true rfl)) ⟨by omega, by omega⟩ (Or.inr ⟨(jOk.fs (jOk.ref (show v < jn M by have := h.1.1.1; omega) (jOk.ref (show v + 36 < jn M by have := h.1.1.1; omega) (jOk.ref (show v + 50 < jn M by have := h.1.1.1; omega) (jOk.ref (show v + 51 < jn M by have := h.1.1.1; omega) (jOk.int (jOk.float (jOk.float (jOk.float jOk.nil))))))))), jOk.nil⟩) (fun E M9 hp _ => by obtain ⟨K, _, _, h9⟩ := hp; rcases h9 with ⟨h9, _⟩ | ⟨_, _, _, _, _, h9, _⟩ <;> exact nomatch h9) (fun x6 M1 hp hle => ?_)
  obtain ⟨hab1, h6, hout⟩ := lPr.i h hp
  refine J_istore (lv' := [.retAddr (4), .ref (v), .ref (v + 36), .ref (v + 50), .ref (v + 51), .int (nI (i)), .int (x6), .float 0, .float 0]) dL_law_561 (by decide) rfl rfl ?_
  refine J_aload_n (v + 36) dL_law_563 rfl rfl ?_
  refine J_aload_ns (4) dL_law_564 rfl rfl ?_
  refine J_iload dL_law_565 rfl ?_
  refine J_iconst (x := 1) dL_law_567 (by decide) ?_
  refine J_iadd dL_law_568 ?_
  refine J_topi (y := nI (i + 1)) (nI_add (i) (1)) ?_
  refine J_sld (kq := i + 1) dL_law_569 (by omega) ?_
  refine J_calli (jrunV (As := [.int (jSX dA (i + 1))]) (ct_X8_spans l D dA hst M1 (v + 36) A hab1.2.1 hz.1 ((jSX dA (i + 1)))) dL_law_570 yY_X8_spans gL_law_X8_spans rfl cs11 (show v + 36 < jn M1 by have := hab1.1.1.1; omega) hab1.2.1.1.2.1 rfl ⟨by omega, by omega⟩ ⟨Nat.zero_le _, Nat.zero_le _⟩ rfl (Nat.le_of_ble_eq_true rfl)) ⟨Nat.zero_le _, Nat.zero_le _⟩ (Or.inr ⟨(jOk.fs (jOk.ref (show v < jn M1 by have := hab1.1.1.1; omega) (jOk.ref (show v + 36 < jn M1 by have := hab1.1.1.1; omega) (jOk.ref (show v + 50 < jn M1 by have := hab1.1.1.1; omega) (jOk.ref (show v + 51 < jn M1 by have := hab1.1.1.1; omega) (jOk.int (jOk.int (jOk.float (jOk.float jOk.nil))))))))), jOk.nil⟩) (fun E M9 hp _ => by obtain ⟨_, _, _, u, hu⟩ := hp; exact nomatch hu) (fun x7 M2 hq hle2 => ?_)
  obtain ⟨hq1, hq2, hq3, hq4⟩ := hq
  have hab2 := hab1.mf hq2 hq3
  have hcd : ji M2 (v + 36) 11 = x6 := l_code (by decide +kernel) hq1 hq4 h6
  have hz2 : zA A := hz
  have hcl : True := trivial
  refine J_istore (lv' := [.retAddr (4), .ref (v), .ref (v + 36), .ref (v + 50), .ref (v + 51), .int (nI (i)), .int (x6), .int (x7), .float 0]) dL_law_573 (by decide) rfl rfl ?_
  refine J_aload_n (v + 36) dL_law_575 rfl rfl ?_
  refine J_calli0 (jrunV (As := []) (ct_X8_thrown l D dA hst M2 (v + 36) hab2.2.1.1) dL_law_576 yY_X8_thrown gL_law_X8_thrown rfl cs11 (show v + 36 < jn M2 by have := hab2.1.1.1; omega) hab2.2.1.1.2.1 rfl ⟨by omega, by omega⟩ ⟨Nat.zero_le _, Nat.zero_le _⟩ rfl (Nat.le_of_ble_eq_true rfl)) (rfl) (rfl) ?_
  refine J_topi (y := (x6)) (by exact hcd) ?_
  refine J_iload dL_law_579 rfl ?_
  refine J_icmp_eq dL_law_581 (tgt := 586) (by decide) (fun c581 => ?_) (fun c581 => ?_)
  · refine J_iload dL_law_586 rfl ?_
    refine J_if_ne dL_law_588 (tgt := 603) (by decide) (fun c588 => ?_) (fun c588 => ?_)
    · refine J_goto (tgt := 1952) dL_law_603 (by decide) ?_
      refine J_fg 6 (lv' := [.retAddr (4), .ref (v), .ref (v + 36), .ref (v + 50), .ref (v + 51), .int (nI (i)), .float 0, .int (x7), .float 0]) rfl ?_
      refine J_fg 7 (lv' := [.retAddr (4), .ref (v), .ref (v + 36), .ref (v + 50), .ref (v + 51), .int (nI (i)), .float 0, .float 0, .float 0]) rfl ?_
      refine J_less (bc' := 400 * k) (bs' := 13000 * k + 1000 * cL A) (by omega) (by omega) ?_
      exact next _ _ hab2 hz2
    · obtain ⟨y, hy, hjl⟩ := hout c588
      have hxy := (l_out hq1 ⟨_, hy⟩).2.symm.trans hy
      have hxy : x7 = y := by cases hxy; rfl
      have hv7 : jl M2 (v + 50) 0 = x7.toInt64 := by rw [hq3.2.2.2.2.1, hjl, hxy]
      refine J_aload_n (v + 50) dL_law_591 rfl rfl ?_
      refine J_iconst (x := 0) dL_law_592 (by decide) ?_
      refine J_lald (i := (0)) dL_law_593 (show v + 50 < jn M2 by have := hab2.1.1.1; omega) hab2.2.2.1.1 (by rw [hab2.2.2.1.2]; exact vpin0) ?_
      refine J_iload dL_law_594 rfl ?_
      refine J_i2l dL_law_596 ?_
      refine J_lcmp dL_law_597 ?_
      refine J_if_eq dL_law_598 (tgt := 603) (by decide) (fun c598 => ?_) (fun c598 => ?_)
      · refine J_goto (tgt := 1952) dL_law_603 (by decide) ?_
        refine J_fg 6 (lv' := [.retAddr (4), .ref (v), .ref (v + 36), .ref (v + 50), .ref (v + 51), .int (nI (i)), .float 0, .int (x7), .float 0]) rfl ?_
        refine J_fg 7 (lv' := [.retAddr (4), .ref (v), .ref (v + 36), .ref (v + 50), .ref (v + 51), .int (nI (i)), .float 0, .float 0, .float 0]) rfl ?_
        refine J_less (bc' := 400 * k) (bs' := 13000 * k + 1000 * cL A) (by omega) (by omega) ?_
        exact next _ _ hab2 hz2
      · exact absurd (by rw [show jl M2 (v + 50) (Int32.toNatClampNeg 0) = x7.toInt64 from hv7]; exact lg_cmp_self) c598
  · exact absurd rfl c581

