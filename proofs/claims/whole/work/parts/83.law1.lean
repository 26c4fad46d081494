theorem dL_law_176 : decode cL_law 176 = .ok (.aload_n 1, 1) := by decide +kernel
theorem dL_law_177 : decode cL_law 177 = .ok (.aload_n 0, 1) := by decide +kernel
theorem dL_law_178 : decode cL_law 178 = .ok (.iload 5, 2) := by decide +kernel
theorem dL_law_180 : decode cL_law 180 = .ok (.iconst 1, 1) := by decide +kernel
theorem dL_law_181 : decode cL_law 181 = .ok (.iadd, 1) := by decide +kernel
theorem dL_law_182 : decode cL_law 182 = .ok (.iaload, 1) := by decide +kernel
theorem dL_law_183 : decode cL_law 183 = .ok (.i2c, 1) := by decide +kernel
theorem dL_law_184 : decode cL_law 184 = .ok (.invokestatic 118, 3) := by decide +kernel
set_option maxRecDepth 20000 in
theorem ggL_law_L_append : GoodIn wsL_law wsL_append := goodIn_ca (goodIn_ca (goodIn_r _ [92, 93, 94, 95, 96, 2, 97, 98, 99, 16, 15, 1318, 1319, 1320, 1321, 1322, 1323, 1324, 1325, 1326, 1327] (by decide +kernel) (by decide +kernel)) (goodIn_sub (fun _ h => List.mem_append_left _ (List.mem_append_left _ (List.mem_append_left _ (List.mem_append_left _ (List.mem_append_left _ (List.mem_append_left _ (List.mem_append_right _ h))))))) (by decide +kernel))) (goodIn_sub (fun _ h => List.mem_append_left _ (List.mem_append_left _ (List.mem_append_left _ (List.mem_append_left _ (List.mem_append_left _ (List.mem_append_left _ (List.mem_append_left _ (List.mem_append_right _ h)))))))) (by decide +kernel))
set_option maxRecDepth 20000 in
theorem gL_law_L_append : GoodIn wsL_law (va_wsS RL 118 yL_append wsL_append) := goodIn_app (goodIn_of _ (by decide +kernel)) ggL_law_L_append
theorem yYH_L_append : jYH yL_append wsL_append cL_append 3 (some .int) [(0, 5, 8, 13)] 2 := ⟨⟨_, rfl⟩, by decide +kernel, by decide +kernel, by decide +kernel⟩
theorem dL_law_187 : decode cL_law 187 = .ok (.istore 6, 2) := by decide +kernel
theorem dL_law_189 : decode cL_law 189 = .ok (.aload_n 2, 1) := by decide +kernel
theorem dL_law_190 : decode cL_law 190 = .ok (.aload_n 0, 1) := by decide +kernel
theorem dL_law_191 : decode cL_law 191 = .ok (.iload 5, 2) := by decide +kernel
theorem dL_law_193 : decode cL_law 193 = .ok (.iconst 1, 1) := by decide +kernel
theorem dL_law_194 : decode cL_law 194 = .ok (.iadd, 1) := by decide +kernel
theorem dL_law_195 : decode cL_law 195 = .ok (.iaload, 1) := by decide +kernel
theorem dL_law_196 : decode cL_law 196 = .ok (.i2c, 1) := by decide +kernel
theorem dL_law_197 : decode cL_law 197 = .ok (.invokevirtual 123, 3) := by decide +kernel
set_option maxRecDepth 20000 in
theorem ggL_law_X8_append : GoodIn wsL_law wsX8_append := goodIn_ca (goodIn_r _ [103, 104, 77, 105, 106, 107, 5, 108, 109, 1328, 1329, 1330, 1331, 1332, 1333, 1334, 1335, 1336, 1337, 1338, 1339, 1340, 1341, 1342, 1343, 1344, 1345, 1346, 1347, 1348, 1349, 1350, 1351, 1352, 1353, 1354, 1355, 1356, 1357, 1358] (by decide +kernel) (by decide +kernel)) (goodIn_sub (fun _ h => List.mem_append_left _ (List.mem_append_left _ (List.mem_append_left _ (List.mem_append_left _ (List.mem_append_left _ (List.mem_append_left _ (List.mem_append_left _ (List.mem_append_right _ h)))))))) (by decide +kernel))
set_option maxRecDepth 20000 in
theorem gL_law_X8_append : GoodIn wsL_law (wsV RL 123 RX8 yX8_append wsX8_append) := goodIn_app (goodIn_of _ (by decide +kernel)) ggL_law_X8_append
theorem yY_X8_append : jY yX8_append wsX8_append cX8_append 2 none 1 := ⟨⟨_, rfl⟩, by decide +kernel, by decide +kernel, by decide +kernel⟩
theorem dL_law_200 : decode cL_law 200 = .ok (.aload_n 2, 1) := by decide +kernel
theorem dL_law_201 : decode cL_law 201 = .ok (.invokevirtual 124, 3) := by decide +kernel
set_option maxRecDepth 20000 in
theorem ggL_law_X8_thrown : GoodIn wsL_law wsX8_thrown := goodIn_r _ [113, 109, 1328, 1329, 1330, 1331, 1332, 1333, 1334, 1335, 1336, 1337, 1338, 1339, 1340, 1341, 1342, 1343, 1344, 1345, 1346, 1347, 1348, 1349, 1350, 1351, 1352, 1353, 1354, 1355, 1356, 1357, 1358] (by decide +kernel) (by decide +kernel)
set_option maxRecDepth 20000 in
theorem gL_law_X8_thrown : GoodIn wsL_law (wsV RL 124 RX8 yX8_thrown wsX8_thrown) := goodIn_app (goodIn_of _ (by decide +kernel)) ggL_law_X8_thrown
theorem yY_X8_thrown : jY yX8_thrown wsX8_thrown cX8_thrown 1 (some .int) 0 := ⟨⟨_, rfl⟩, by decide +kernel, by decide +kernel, by decide +kernel⟩
theorem dL_law_204 : decode cL_law 204 = .ok (.iload 6, 2) := by decide +kernel
theorem dL_law_206 : decode cL_law 206 = .ok (.if_icmp .eq 5, 3) := by decide +kernel
theorem dL_law_211 : decode cL_law 211 = .ok (.goto 1741, 3) := by decide +kernel
set_option maxHeartbeats 1000000 in
set_option maxRecDepth 20000 in
theorem law_176 (l : Launch) (D : va_G) (dA : Nat → ClassId) (hst : l.stackTraces = false) {F : jFin} {n0 : Nat} {hh : List (Nat × Nat × Nat × Nat)} {fr lo : Nat} (hfr : 700 ≤ fr) (hlo : 9000 ≤ lo) (M : jM) (v i k : Nat) (A : cA) (h : lAb M v A A) (hz : zA A) (hi : i + 5 ≤ jSL dA) (hL : jSL dA ≤ 2560) (next : ∀ M1 A1, lAb M1 v A1 A1 → zA A1 → J l D dA RL cL_law wsL_law 9 false (some .boolean) hh fr lo F n0 (400 * k) (13000 * k + 1000 * cL A1) M1 1952 [.retAddr 4, .ref v, .ref (v + 36), .ref (v + 50), .ref (v + 51), .int (nI i), .float 0, .float 0, .float 0] []) : J l D dA RL cL_law wsL_law 9 false (some .boolean) hh fr lo F n0 (400 * (k + 1)) (13000 * (k + 1) + 1000 * cL A) (M) 176 [.retAddr (4), .ref (v), .ref (v + 36), .ref (v + 50), .ref (v + 51), .int (nI (i)), .float 0, .float 0, .float 0] [] := by
  have h60 : cL A ≤ 60 := h.1.2.2.1.2.2.2.2.2.2.2.2.1
  refine J_aload_n (v) dL_law_176 rfl rfl ?_
  refine J_aload_ns (4) dL_law_177 rfl rfl ?_
  refine J_iload dL_law_178 rfl ?_
  refine J_iconst (x := 1) dL_law_180 (by decide) ?_
  refine J_iadd dL_law_181 ?_
  refine J_topi (y := nI (i + 1)) (nI_add (i) (1)) ?_
  refine J_sld (kq := i + 1) dL_law_182 (by omega) ?_
  refine J_i2c dL_law_183 ?_
  refine J_calli (jrunSH (As := [.ref (v), .int ((((jSX dA (i + 1)) : Int32).toUInt32 % 65536).toInt32)]) (ct_L_append l D dA hst M v A h.1 (((((jSX dA (i + 1)) : Int32).toUInt32 % 65536).toInt32)) (i2c_nar _)) dL_law_184 yYH_L_append gL_law_L_append rfl ⟨by omega, by omega⟩ ⟨by omega, by omega⟩ rfl (Nat.le_of_ble_eq_true rfl)) ⟨by omega, by omega⟩ (Or.inr ⟨(jOk.fs (jOk.ref (show v < jn M by have := h.1.1.1; omega) (jOk.ref (show v + 36 < jn M by have := h.1.1.1; omega) (jOk.ref (show v + 50 < jn M by have := h.1.1.1; omega) (jOk.ref (show v + 51 < jn M by have := h.1.1.1; omega) (jOk.int (jOk.float (jOk.float (jOk.float jOk.nil))))))))), jOk.nil⟩) (fun E M9 hp _ => by obtain ⟨K, _, _, h9⟩ := hp; rcases h9 with ⟨h9, _⟩ | ⟨_, _, _, _, _, h9, _⟩ <;> exact nomatch h9) (fun x6 M1 hp hle => ?_)
  obtain ⟨hab1, h6⟩ := lPr.v h hp
  refine J_istore (lv' := [.retAddr (4), .ref (v), .ref (v + 36), .ref (v + 50), .ref (v + 51), .int (nI (i)), .int (x6), .float 0, .float 0]) dL_law_187 (by decide) rfl rfl ?_
  refine J_aload_n (v + 36) dL_law_189 rfl rfl ?_
  refine J_aload_ns (4) dL_law_190 rfl rfl ?_
  refine J_iload dL_law_191 rfl ?_
  refine J_iconst (x := 1) dL_law_193 (by decide) ?_
  refine J_iadd dL_law_194 ?_
  refine J_topi (y := nI (i + 1)) (nI_add (i) (1)) ?_
  refine J_sld (kq := i + 1) dL_law_195 (by omega) ?_
  refine J_i2c dL_law_196 ?_
  refine J_callv (jrunV (As := [.int ((((jSX dA (i + 1)) : Int32).toUInt32 % 65536).toInt32)]) (ct_X8_append l D dA hst M1 (v + 36) A hab1.2.1 hz.1 (((((jSX dA (i + 1)) : Int32).toUInt32 % 65536).toInt32))) dL_law_197 yY_X8_append gL_law_X8_append rfl cs11 (show v + 36 < jn M1 by have := hab1.1.1.1; omega) hab1.2.1.1.2.1 rfl ⟨by omega, by omega⟩ ⟨Nat.zero_le _, Nat.zero_le _⟩ rfl (Nat.le_of_ble_eq_true rfl)) ⟨Nat.zero_le _, Nat.zero_le _⟩ (Or.inr ⟨(jOk.fs (jOk.ref (show v < jn M1 by have := hab1.1.1.1; omega) (jOk.ref (show v + 36 < jn M1 by have := hab1.1.1.1; omega) (jOk.ref (show v + 50 < jn M1 by have := hab1.1.1.1; omega) (jOk.ref (show v + 51 < jn M1 by have := hab1.1.1.1; omega) (jOk.int (jOk.int (jOk.float (jOk.float jOk.nil))))))))), jOk.nil⟩) (fun E M9 hp _ => by obtain ⟨_, _, _, u, hu⟩ := hp; exact nomatch hu) (fun M2 hq hle2 => ?_)
  obtain ⟨hq1, hq2, hq3, hq4⟩ := hq
  have hab2 := hab1.mf hq2 hq3
  have hcd : ji M2 (v + 36) 11 = x6 := l_code (by decide +kernel) hq1 hq4 h6
  have hz2 : zA ((sApp A (((jSX dA (i + 1)) : Int32).toUInt32 % 65536).toInt32).2) := hz.app
  have hcl : cL (sApp A (((jSX dA (i + 1)) : Int32).toUInt32 % 65536).toInt32).2 ≤ cL A + 1 := cLz_app
  refine J_aload_n (v + 36) dL_law_200 rfl rfl ?_
  refine J_calli0 (jrunV (As := []) (ct_X8_thrown l D dA hst M2 (v + 36) hab2.2.1.1) dL_law_201 yY_X8_thrown gL_law_X8_thrown rfl cs11 (show v + 36 < jn M2 by have := hab2.1.1.1; omega) hab2.2.1.1.2.1 rfl ⟨by omega, by omega⟩ ⟨Nat.zero_le _, Nat.zero_le _⟩ rfl (Nat.le_of_ble_eq_true rfl)) (rfl) (rfl) ?_
  refine J_topi (y := (x6)) (by exact hcd) ?_
  refine J_iload dL_law_204 rfl ?_
  refine J_icmp_eq dL_law_206 (tgt := 211) (by decide) (fun c206 => ?_) (fun c206 => ?_)
  · refine J_goto (tgt := 1952) dL_law_211 (by decide) ?_
    refine J_fg 6 (lv' := [.retAddr (4), .ref (v), .ref (v + 36), .ref (v + 50), .ref (v + 51), .int (nI (i)), .float 0, .float 0, .float 0]) rfl ?_
    refine J_less (bc' := 400 * k) (bs' := 13000 * k + 1000 * cL ((sApp A (((jSX dA (i + 1)) : Int32).toUInt32 % 65536).toInt32).2)) (by omega) (by omega) ?_
    exact next _ _ hab2 hz2
  · exact absurd rfl c206

theorem dL_law_214 : decode cL_law 214 = .ok (.aload_n 1, 1) := by decide +kernel
theorem dL_law_215 : decode cL_law 215 = .ok (.aload_n 0, 1) := by decide +kernel
theorem dL_law_216 : decode cL_law 216 = .ok (.iload 5, 2) := by decide +kernel
theorem dL_law_218 : decode cL_law 218 = .ok (.iconst 1, 1) := by decide +kernel
theorem dL_law_219 : decode cL_law 219 = .ok (.iadd, 1) := by decide +kernel
theorem dL_law_220 : decode cL_law 220 = .ok (.iaload, 1) := by decide +kernel
theorem dL_law_221 : decode cL_law 221 = .ok (.aload_n 3, 1) := by decide +kernel
theorem dL_law_222 : decode cL_law 222 = .ok (.invokestatic 127, 3) := by decide +kernel
set_option maxRecDepth 20000 in
theorem ggL_law_L_read : GoodIn wsL_law wsL_read := goodIn_ca (goodIn_ca (goodIn_ca (goodIn_ca (goodIn_r _ [116, 117, 118, 119, 120, 121, 122, 2, 123, 124, 125, 126, 15, 16, 127, 128, 129, 130, 131, 132, 133, 134, 135, 136, 137, 138, 139, 140, 141, 142, 143, 144, 12, 13, 145, 146, 147, 148, 149, 150, 151, 152, 153, 154, 155, 156, 157, 158, 159, 160, 39, 161, 162, 163, 164, 165, 166, 167, 168, 169, 170, 171, 172, 173, 174, 175, 176, 177, 178, 179, 180, 181, 182, 183, 184, 185, 186, 187, 188, 189, 190, 191, 192, 193, 194, 195, 196, 197, 198, 199, 200, 201, 202, 203, 204, 205, 206, 207, 208, 209, 210, 211, 212, 213, 214, 215, 216, 217, 218, 219, 220, 221, 222, 223, 224, 225, 226, 227, 228, 229, 230, 231, 232, 233, 234, 235, 236, 237, 238, 239, 240, 241, 242, 243, 244, 245, 246, 247, 248, 249, 250, 251, 252, 253, 254, 255, 256, 257, 258, 259, 260, 261, 262, 263, 264, 265, 266, 267, 268, 269, 270, 271, 272, 273, 274, 275, 276, 277, 278, 279, 280, 281, 282, 283, 284, 285, 286, 17, 287, 288, 289, 290, 291, 292, 293, 294, 295, 296, 297, 298, 299, 300, 301, 302, 18, 303, 304, 305, 306, 307, 308, 309, 310, 311, 312, 313, 314, 29, 23, 315, 316, 317, 28, 318, 47, 48, 49, 319, 320, 321, 322, 22, 323, 38, 40, 324, 41, 325, 326, 327, 328, 329, 330, 331, 332, 333, 1369, 1370, 1371, 1372, 1373, 1374, 1375, 1318, 1319, 1320, 1321, 1322, 1323, 1324, 1325, 1326, 1327, 1376, 1377, 1378, 1379, 1380, 1381, 1382, 1383, 1384, 1385, 1386, 1362, 1363, 1364, 1359, 1360, 1361] (by decide +kernel) (by decide +kernel)) (goodIn_sub (fun _ h => List.mem_append_left _ (List.mem_append_left _ (List.mem_append_left _ (List.mem_append_left _ (List.mem_append_left _ (List.mem_append_left _ (List.mem_append_left _ (List.mem_append_right _ h)))))))) (by decide +kernel))) (goodIn_sub (fun _ h => List.mem_append_left _ (List.mem_append_left _ (List.mem_append_left _ (List.mem_append_left _ (List.mem_append_left _ (List.mem_append_right _ h)))))) (by decide +kernel))) (goodIn_sub (fun _ h => List.mem_append_left _ (List.mem_append_left _ (List.mem_append_left _ (List.mem_append_left _ (List.mem_append_right _ h))))) (by decide +kernel))) (goodIn_sub (fun _ h => List.mem_append_left _ (List.mem_append_left _ (List.mem_append_left _ (List.mem_append_right _ h)))) (by decide +kernel))
set_option maxRecDepth 20000 in
theorem gL_law_L_read : GoodIn wsL_law (va_wsS RL 127 yL_read wsL_read) := goodIn_app (goodIn_of _ (by decide +kernel)) ggL_law_L_read
theorem yYH_L_read : jYH yL_read wsL_read cL_read 4 (some .int) [(0, 9, 12, 19), (0, 9, 15, 21), (0, 9, 18, 23)] 3 := ⟨⟨_, rfl⟩, by decide +kernel, by decide +kernel, by decide +kernel⟩
theorem dL_law_225 : decode cL_law 225 = .ok (.istore 6, 2) := by decide +kernel
theorem dL_law_227 : decode cL_law 227 = .ok (.aload_n 2, 1) := by decide +kernel
theorem dL_law_228 : decode cL_law 228 = .ok (.aload_n 0, 1) := by decide +kernel
theorem dL_law_229 : decode cL_law 229 = .ok (.iload 5, 2) := by decide +kernel
theorem dL_law_231 : decode cL_law 231 = .ok (.iconst 1, 1) := by decide +kernel
theorem dL_law_232 : decode cL_law 232 = .ok (.iadd, 1) := by decide +kernel
theorem dL_law_233 : decode cL_law 233 = .ok (.iaload, 1) := by decide +kernel
theorem dL_law_234 : decode cL_law 234 = .ok (.invokevirtual 130, 3) := by decide +kernel
set_option maxRecDepth 20000 in
theorem ggL_law_X8_read : GoodIn wsL_law wsX8_read := goodIn_ca (goodIn_ca (goodIn_r _ [337, 104, 338, 339, 78, 340, 341, 109, 342, 343, 5, 344, 105, 106, 107, 108, 345, 346, 347, 348, 349, 350, 351, 352, 81, 353, 354, 355, 356, 357, 358, 359, 360, 361, 362, 363, 364, 365, 366, 367, 77, 368, 369, 370, 371, 372, 373, 374, 375, 376, 377, 378, 379, 380, 381, 382, 383, 384, 385, 386, 387, 388, 389, 390, 391, 392, 393, 394, 395, 396, 397, 398, 399, 400, 401, 402, 403, 404, 405, 406, 82, 407, 408, 409, 410, 411, 412, 413, 414, 415, 416, 417, 418, 419, 420, 421, 74, 422, 423, 424, 425, 426, 75, 1328, 1329, 1330, 1331, 1332, 1333, 1334, 1335, 1336, 1337, 1338, 1339, 1340, 1341, 1342, 1343, 1344, 1345, 1346, 1347, 1348, 1349, 1350, 1351, 1352, 1353, 1354, 1355, 1356, 1357, 1358] (by decide +kernel) (by decide +kernel)) (goodIn_sub (fun _ h => List.mem_append_left _ (List.mem_append_left _ (List.mem_append_left _ (List.mem_append_left _ (List.mem_append_left _ (List.mem_append_left _ (List.mem_append_left _ (List.mem_append_right _ h)))))))) (by decide +kernel))) (goodIn_sub (fun _ h => List.mem_append_left _ (List.mem_append_left _ (List.mem_append_right _ h))) (by decide +kernel))
set_option maxRecDepth 20000 in
theorem gL_law_X8_read : GoodIn wsL_law (wsV RL 130 RX8 yX8_read wsX8_read) := goodIn_app (goodIn_of _ (by decide +kernel)) ggL_law_X8_read
theorem yY_X8_read : jY yX8_read wsX8_read cX8_read 4 (some .int) 1 := ⟨⟨_, rfl⟩, by decide +kernel, by decide +kernel, by decide +kernel⟩
theorem dL_law_237 : decode cL_law 237 = .ok (.istore 7, 2) := by decide +kernel
theorem dL_law_239 : decode cL_law 239 = .ok (.aload_n 2, 1) := by decide +kernel
theorem dL_law_240 : decode cL_law 240 = .ok (.invokevirtual 124, 3) := by decide +kernel
theorem dL_law_243 : decode cL_law 243 = .ok (.iload 6, 2) := by decide +kernel
theorem dL_law_245 : decode cL_law 245 = .ok (.if_icmp .eq 5, 3) := by decide +kernel
theorem dL_law_250 : decode cL_law 250 = .ok (.iload 6, 2) := by decide +kernel
theorem dL_law_252 : decode cL_law 252 = .ok (.ifCond .ne 15, 3) := by decide +kernel
theorem dL_law_267 : decode cL_law 267 = .ok (.goto 1685, 3) := by decide +kernel
theorem dL_law_255 : decode cL_law 255 = .ok (.aload_n 3, 1) := by decide +kernel
theorem dL_law_256 : decode cL_law 256 = .ok (.iconst 0, 1) := by decide +kernel
theorem dL_law_257 : decode cL_law 257 = .ok (.laload, 1) := by decide +kernel
theorem dL_law_258 : decode cL_law 258 = .ok (.iload 7, 2) := by decide +kernel
theorem dL_law_260 : decode cL_law 260 = .ok (.i2l, 1) := by decide +kernel
theorem dL_law_261 : decode cL_law 261 = .ok (.lcmp, 1) := by decide +kernel
theorem dL_law_262 : decode cL_law 262 = .ok (.ifCond .eq 5, 3) := by decide +kernel
set_option maxHeartbeats 1000000 in
set_option maxRecDepth 20000 in
theorem law_214a (l : Launch) (D : va_G) (dA : Nat → ClassId) (hst : l.stackTraces = false) {F : jFin} {n0 : Nat} {hh : List (Nat × Nat × Nat × Nat)} {fr lo : Nat} (hfr : 700 ≤ fr) (hlo : 9000 ≤ lo) (M : jM) (v i k : Nat) (A : cA) (h : lAb M v A A) (hz : zA A) (hi : i + 5 ≤ jSL dA) (hL : jSL dA ≤ 2560) (ok1 : okSlot (jSX dA (i + 1)) = true) (next : ∀ M1 A1, lAb M1 v A1 A1 → zA A1 → J l D dA RL cL_law wsL_law 9 false (some .boolean) hh fr lo F n0 (400 * k) (13000 * k + 1000 * cL A1) M1 1952 [.retAddr 4, .ref v, .ref (v + 36), .ref (v + 50), .ref (v + 51), .int (nI i), .float 0, .float 0, .float 0] []) : J l D dA RL cL_law wsL_law 9 false (some .boolean) hh fr lo F n0 (400 * (k + 1)) (13000 * (k + 1) + 1000 * cL A) (M) 214 [.retAddr (4), .ref (v), .ref (v + 36), .ref (v + 50), .ref (v + 51), .int (nI (i)), .float 0, .float 0, .float 0] [] := by
  have h60 : cL A ≤ 60 := h.1.2.2.1.2.2.2.2.2.2.2.2.1
  refine J_aload_n (v) dL_law_214 rfl rfl ?_
  refine J_aload_ns (4) dL_law_215 rfl rfl ?_
  refine J_iload dL_law_216 rfl ?_
  refine J_iconst (x := 1) dL_law_218 (by decide) ?_
  refine J_iadd dL_law_219 ?_
  refine J_topi (y := nI (i + 1)) (nI_add (i) (1)) ?_
  refine J_sld (kq := i + 1) dL_law_220 (by omega) ?_
  refine J_aload_n (v + 50) dL_law_221 rfl rfl ?_
  refine J_calli (jrunSH (As := [.ref (v), .int (jSX dA (i + 1)), .ref (v + 50)]) (ct_L_read l D dA hst M v A h.1 ((jSX dA (i + 1)))  (v + 50) (show v + 50 < jn M by have := h.1.1.1; omega) h.2.2.1.1 h.2.2.1.2) dL_law_222 yYH_L_read gL_law_L_read rfl ⟨by omega, by omega⟩ ⟨by omega, by omega⟩ rfl (Nat.le_of_ble_eq_true rfl)) ⟨by omega, by omega⟩ (Or.inr ⟨(jOk.fs (jOk.ref (show v < jn M by have := h.1.1.1; omega) (jOk.ref (show v + 36 < jn M by have := h.1.1.1; omega) (jOk.ref (show v + 50 < jn M by have := h.1.1.1; omega) (jOk.ref (show v + 51 < jn M by have := h.1.1.1; omega) (jOk.int (jOk.float (jOk.float (jOk.float jOk.nil))))))))), jOk.nil⟩) (fun E M9 hp _ => by obtain ⟨K, _, _, h9⟩ := hp; rcases h9 with ⟨h9, _⟩ | ⟨_, _, _, _, _, h9, _⟩ <;> exact nomatch h9) (fun x6 M1 hp hle => ?_)
  obtain ⟨hab1, h6, hout⟩ := lPr.i h hp
  refine J_istore (lv' := [.retAddr (4), .ref (v), .ref (v + 36), .ref (v + 50), .ref (v + 51), .int (nI (i)), .int (x6), .float 0, .float 0]) dL_law_225 (by decide) rfl rfl ?_
  refine J_aload_n (v + 36) dL_law_227 rfl rfl ?_
  refine J_aload_ns (4) dL_law_228 rfl rfl ?_
  refine J_iload dL_law_229 rfl ?_
  refine J_iconst (x := 1) dL_law_231 (by decide) ?_
  refine J_iadd dL_law_232 ?_
  refine J_topi (y := nI (i + 1)) (nI_add (i) (1)) ?_
  refine J_sld (kq := i + 1) dL_law_233 (by omega) ?_
  refine J_calli (jrunV (As := [.int (jSX dA (i + 1))]) (ct_X8_read l D dA hst M1 (v + 36) A hab1.2.1 hz.1 ((jSX dA (i + 1)))) dL_law_234 yY_X8_read gL_law_X8_read rfl cs11 (show v + 36 < jn M1 by have := hab1.1.1.1; omega) hab1.2.1.1.2.1 rfl ⟨by omega, by omega⟩ ⟨Nat.zero_le _, Nat.zero_le _⟩ rfl (Nat.le_of_ble_eq_true rfl)) ⟨Nat.zero_le _, Nat.zero_le _⟩ (Or.inr ⟨(jOk.fs (jOk.ref (show v < jn M1 by have := hab1.1.1.1; omega) (jOk.ref (show v + 36 < jn M1 by have := hab1.1.1.1; omega) (jOk.ref (show v + 50 < jn M1 by have := hab1.1.1.1; omega) (jOk.ref (show v + 51 < jn M1 by have := hab1.1.1.1; omega) (jOk.int (jOk.int (jOk.float (jOk.float jOk.nil))))))))), jOk.nil⟩) (fun E M9 hp _ => by obtain ⟨_, _, _, u, hu⟩ := hp; exact nomatch hu) (fun x7 M2 hq hle2 => ?_)
  obtain ⟨hq1, hq2, hq3, hq4⟩ := hq
  have hab2 := hab1.mf hq2 hq3
  have hcd : ji M2 (v + 36) 11 = x6 := l_code (by decide +kernel) hq1 hq4 h6
  have hz2 : zA ((sRead A (jSX dA (i + 1))).2) := hz.read
  have hcl : cL (sRead A (jSX dA (i + 1))).2 = 0 := cLz_read ok1
  refine J_istore (lv' := [.retAddr (4), .ref (v), .ref (v + 36), .ref (v + 50), .ref (v + 51), .int (nI (i)), .int (x6), .int (x7), .float 0]) dL_law_237 (by decide) rfl rfl ?_
  refine J_aload_n (v + 36) dL_law_239 rfl rfl ?_
  refine J_calli0 (jrunV (As := []) (ct_X8_thrown l D dA hst M2 (v + 36) hab2.2.1.1) dL_law_240 yY_X8_thrown gL_law_X8_thrown rfl cs11 (show v + 36 < jn M2 by have := hab2.1.1.1; omega) hab2.2.1.1.2.1 rfl ⟨by omega, by omega⟩ ⟨Nat.zero_le _, Nat.zero_le _⟩ rfl (Nat.le_of_ble_eq_true rfl)) (rfl) (rfl) ?_
  refine J_topi (y := (x6)) (by exact hcd) ?_
  refine J_iload dL_law_243 rfl ?_
  refine J_icmp_eq dL_law_245 (tgt := 250) (by decide) (fun c245 => ?_) (fun c245 => ?_)
  · refine J_iload dL_law_250 rfl ?_
    refine J_if_ne dL_law_252 (tgt := 267) (by decide) (fun c252 => ?_) (fun c252 => ?_)
    · refine J_goto (tgt := 1952) dL_law_267 (by decide) ?_
      refine J_fg 6 (lv' := [.retAddr (4), .ref (v), .ref (v + 36), .ref (v + 50), .ref (v + 51), .int (nI (i)), .float 0, .int (x7), .float 0]) rfl ?_
      refine J_fg 7 (lv' := [.retAddr (4), .ref (v), .ref (v + 36), .ref (v + 50), .ref (v + 51), .int (nI (i)), .float 0, .float 0, .float 0]) rfl ?_
      refine J_less (bc' := 400 * k) (bs' := 13000 * k + 1000 * cL ((sRead A (jSX dA (i + 1))).2)) (by omega) (by omega) ?_
      exact next _ _ hab2 hz2
    · obtain ⟨y, hy, hjl⟩ := hout c252
      have hxy := (l_out hq1 ⟨_, hy⟩).2.symm.trans hy
      have hxy : x7 = y := by cases hxy; rfl
      have hv7 : jl M2 (v + 50) 0 = x7.toInt64 := by rw [hq3.2.2.2.2.1, hjl, hxy]
      refine J_aload_n (v + 50) dL_law_255 rfl rfl ?_
      refine J_iconst (x := 0) dL_law_256 (by decide) ?_
      refine J_lald (i := (0)) dL_law_257 (show v + 50 < jn M2 by have := hab2.1.1.1; omega) hab2.2.2.1.1 (by rw [hab2.2.2.1.2]; exact vpin0) ?_
      refine J_iload dL_law_258 rfl ?_
      refine J_i2l dL_law_260 ?_
      refine J_lcmp dL_law_261 ?_
      refine J_if_eq dL_law_262 (tgt := 267) (by decide) (fun c262 => ?_) (fun c262 => ?_)
      · refine J_goto (tgt := 1952) dL_law_267 (by decide) ?_
        refine J_fg 6 (lv' := [.retAddr (4), .ref (v), .ref (v + 36), .ref (v + 50), .ref (v + 51), .int (nI (i)), .float 0, .int (x7), .float 0]) rfl ?_
        refine J_fg 7 (lv' := [.retAddr (4), .ref (v), .ref (v + 36), .ref (v + 50), .ref (v + 51), .int (nI (i)), .float 0, .float 0, .float 0]) rfl ?_
        refine J_less (bc' := 400 * k) (bs' := 13000 * k + 1000 * cL ((sRead A (jSX dA (i + 1))).2)) (by omega) (by omega) ?_
        exact next _ _ hab2 hz2
      · exact absurd (by rw [show jl M2 (v + 50) (Int32.toNatClampNeg 0) = x7.toInt64 from hv7]; exact lg_cmp_self) c262
  · exact absurd rfl c245

set_option maxHeartbeats 1000000 in
set_option maxRecDepth 20000 in
theorem law_214b (l : Launch) (D : va_G) (dA : Nat → ClassId) (hst : l.stackTraces = false) {F : jFin} {n0 : Nat} {hh : List (Nat × Nat × Nat × Nat)} {fr lo : Nat} (hfr : 700 ≤ fr) (hlo : 9000 ≤ lo) (M : jM) (v i k : Nat) (A : cA) (h : lAb M v A A) (hz : zA A) (hi : i + 5 ≤ jSL dA) (hL : jSL dA ≤ 2560) (ok1 : okSlot (jSX dA (i + 1)) = false) (next : ∀ M1 A1, lAb M1 v A1 A1 → zA A1 → J l D dA RL cL_law wsL_law 9 false (some .boolean) hh fr lo F n0 (400 * k) (13000 * k + 1000 * cL A1) M1 1952 [.retAddr 4, .ref v, .ref (v + 36), .ref (v + 50), .ref (v + 51), .int (nI i), .float 0, .float 0, .float 0] []) : J l D dA RL cL_law wsL_law 9 false (some .boolean) hh fr lo F n0 (400 * (k + 1)) (13000 * (k + 1) + 1000 * cL A) (M) 214 [.retAddr (4), .ref (v), .ref (v + 36), .ref (v + 50), .ref (v + 51), .int (nI (i)), .float 0, .float 0, .float 0] [] := by
  have h60 : cL A ≤ 60 := h.1.2.2.1.2.2.2.2.2.2.2.2.1
  refine J_aload_n (v) dL_law_214 rfl rfl ?_
  refine J_aload_ns (4) dL_law_215 rfl rfl ?_
  refine J_iload dL_law_216 rfl ?_
  refine J_iconst (x := 1) dL_law_218 (by decide) ?_
  refine J_iadd dL_law_219 ?_
  refine J_topi (y := nI (i + 1)) (nI_add (i) (1)) ?_
  refine J_sld (kq := i + 1) dL_law_220 (by omega) ?_
  refine J_aload_n (v + 50) dL_law_221 rfl rfl ?_
  refine J_calli (jrunSH (As := [.ref (v), .int (jSX dA (i + 1)), .ref (v + 50)]) (ct_L_read_bad l D dA hst M v A h.1 ((jSX dA (i + 1))) ok1 (v + 50) (show v + 50 < jn M by have := h.1.1.1; omega) h.2.2.1.1 h.2.2.1.2) dL_law_222 yYH_L_read gL_law_L_read rfl ⟨by omega, by omega⟩ ⟨by omega, by omega⟩ rfl (Nat.le_of_ble_eq_true rfl)) ⟨by omega, by omega⟩ (Or.inr ⟨(jOk.fs (jOk.ref (show v < jn M by have := h.1.1.1; omega) (jOk.ref (show v + 36 < jn M by have := h.1.1.1; omega) (jOk.ref (show v + 50 < jn M by have := h.1.1.1; omega) (jOk.ref (show v + 51 < jn M by have := h.1.1.1; omega) (jOk.int (jOk.float (jOk.float (jOk.float jOk.nil))))))))), jOk.nil⟩) (fun E M9 hp _ => by obtain ⟨K, _, _, h9⟩ := hp; rcases h9 with ⟨h9, _⟩ | ⟨_, _, _, _, _, h9, _⟩ <;> exact nomatch h9) (fun x6 M1 hp hle => ?_)
  obtain ⟨hab1, h6, hout⟩ := lPr.i h hp
  refine J_istore (lv' := [.retAddr (4), .ref (v), .ref (v + 36), .ref (v + 50), .ref (v + 51), .int (nI (i)), .int (x6), .float 0, .float 0]) dL_law_225 (by decide) rfl rfl ?_
  refine J_aload_n (v + 36) dL_law_227 rfl rfl ?_
  refine J_aload_ns (4) dL_law_228 rfl rfl ?_
  refine J_iload dL_law_229 rfl ?_
  refine J_iconst (x := 1) dL_law_231 (by decide) ?_
  refine J_iadd dL_law_232 ?_
  refine J_topi (y := nI (i + 1)) (nI_add (i) (1)) ?_
  refine J_sld (kq := i + 1) dL_law_233 (by omega) ?_
  refine J_calli (jrunV (As := [.int (jSX dA (i + 1))]) (ct_X8_read l D dA hst M1 (v + 36) A hab1.2.1 hz.1 ((jSX dA (i + 1)))) dL_law_234 yY_X8_read gL_law_X8_read rfl cs11 (show v + 36 < jn M1 by have := hab1.1.1.1; omega) hab1.2.1.1.2.1 rfl ⟨by omega, by omega⟩ ⟨Nat.zero_le _, Nat.zero_le _⟩ rfl (Nat.le_of_ble_eq_true rfl)) ⟨Nat.zero_le _, Nat.zero_le _⟩ (Or.inr ⟨(jOk.fs (jOk.ref (show v < jn M1 by have := hab1.1.1.1; omega) (jOk.ref (show v + 36 < jn M1 by have := hab1.1.1.1; omega) (jOk.ref (show v + 50 < jn M1 by have := hab1.1.1.1; omega) (jOk.ref (show v + 51 < jn M1 by have := hab1.1.1.1; omega) (jOk.int (jOk.int (jOk.float (jOk.float jOk.nil))))))))), jOk.nil⟩) (fun E M9 hp _ => by obtain ⟨_, _, _, u, hu⟩ := hp; exact nomatch hu) (fun x7 M2 hq hle2 => ?_)
  obtain ⟨hq1, hq2, hq3, hq4⟩ := hq
  have hab2 := hab1.mf hq2 hq3
  have hcd : ji M2 (v + 36) 11 = x6 := l_code (by decide +kernel) hq1 hq4 h6
  have hz2 : zA ((sRead A (jSX dA (i + 1))).2) := hz.read
  have hcl : cL (sRead A (jSX dA (i + 1))).2 = cL A := cLz_readb ok1
  refine J_istore (lv' := [.retAddr (4), .ref (v), .ref (v + 36), .ref (v + 50), .ref (v + 51), .int (nI (i)), .int (x6), .int (x7), .float 0]) dL_law_237 (by decide) rfl rfl ?_
  refine J_aload_n (v + 36) dL_law_239 rfl rfl ?_
  refine J_calli0 (jrunV (As := []) (ct_X8_thrown l D dA hst M2 (v + 36) hab2.2.1.1) dL_law_240 yY_X8_thrown gL_law_X8_thrown rfl cs11 (show v + 36 < jn M2 by have := hab2.1.1.1; omega) hab2.2.1.1.2.1 rfl ⟨by omega, by omega⟩ ⟨Nat.zero_le _, Nat.zero_le _⟩ rfl (Nat.le_of_ble_eq_true rfl)) (rfl) (rfl) ?_
  refine J_topi (y := (x6)) (by exact hcd) ?_
  refine J_iload dL_law_243 rfl ?_
  refine J_icmp_eq dL_law_245 (tgt := 250) (by decide) (fun c245 => ?_) (fun c245 => ?_)
  · refine J_iload dL_law_250 rfl ?_
    refine J_if_ne dL_law_252 (tgt := 267) (by decide) (fun c252 => ?_) (fun c252 => ?_)
    · refine J_goto (tgt := 1952) dL_law_267 (by decide) ?_
      refine J_fg 6 (lv' := [.retAddr (4), .ref (v), .ref (v + 36), .ref (v + 50), .ref (v + 51), .int (nI (i)), .float 0, .int (x7), .float 0]) rfl ?_
      refine J_fg 7 (lv' := [.retAddr (4), .ref (v), .ref (v + 36), .ref (v + 50), .ref (v + 51), .int (nI (i)), .float 0, .float 0, .float 0]) rfl ?_
      refine J_less (bc' := 400 * k) (bs' := 13000 * k + 1000 * cL ((sRead A (jSX dA (i + 1))).2)) (by omega) (by omega) ?_
      exact next _ _ hab2 hz2
    · obtain ⟨y, hy, hjl⟩ := hout c252
      have hxy := (l_out hq1 ⟨_, hy⟩).2.symm.trans hy
      have hxy : x7 = y := by cases hxy; rfl
      have hv7 : jl M2 (v + 50) 0 = x7.toInt64 := by rw [hq3.2.2.2.2.1, hjl, hxy]
      refine J_aload_n (v + 50) dL_law_255 rfl rfl ?_
      refine J_iconst (x := 0) dL_law_256 (by decide) ?_
      refine J_lald (i := (0)) dL_law_257 (show v + 50 < jn M2 by have := hab2.1.1.1; omega) hab2.2.2.1.1 (by rw [hab2.2.2.1.2]; exact vpin0) ?_
      refine J_iload dL_law_258 rfl ?_
      refine J_i2l dL_law_260 ?_
      refine J_lcmp dL_law_261 ?_
      refine J_if_eq dL_law_262 (tgt := 267) (by decide) (fun c262 => ?_) (fun c262 => ?_)
      · refine J_goto (tgt := 1952) dL_law_267 (by decide) ?_
        refine J_fg 6 (lv' := [.retAddr (4), .ref (v), .ref (v + 36), .ref (v + 50), .ref (v + 51), .int (nI (i)), .float 0, .int (x7), .float 0]) rfl ?_
        refine J_fg 7 (lv' := [.retAddr (4), .ref (v), .ref (v + 36), .ref (v + 50), .ref (v + 51), .int (nI (i)), .float 0, .float 0, .float 0]) rfl ?_
        refine J_less (bc' := 400 * k) (bs' := 13000 * k + 1000 * cL ((sRead A (jSX dA (i + 1))).2)) (by omega) (by omega) ?_
        exact next _ _ hab2 hz2
      · exact absurd (by rw [show jl M2 (v + 50) (Int32.toNatClampNeg 0) = x7.toInt64 from hv7]; exact lg_cmp_self) c262
  · exact absurd rfl c245

theorem dL_law_270 : decode cL_law 270 = .ok (.aload_n 1, 1) := by decide +kernel
theorem dL_law_271 : decode cL_law 271 = .ok (.aload_n 0, 1) := by decide +kernel
theorem dL_law_272 : decode cL_law 272 = .ok (.iload 5, 2) := by decide +kernel
theorem dL_law_274 : decode cL_law 274 = .ok (.iconst 1, 1) := by decide +kernel
theorem dL_law_275 : decode cL_law 275 = .ok (.iadd, 1) := by decide +kernel
theorem dL_law_276 : decode cL_law 276 = .ok (.iaload, 1) := by decide +kernel
theorem dL_law_277 : decode cL_law 277 = .ok (.aload_n 3, 1) := by decide +kernel
theorem dL_law_278 : decode cL_law 278 = .ok (.invokestatic 131, 3) := by decide +kernel
set_option maxRecDepth 20000 in
theorem ggL_law_L_evaluate : GoodIn wsL_law wsL_evaluate := goodIn_ca (goodIn_ca (goodIn_ca (goodIn_ca (goodIn_r _ [429, 117, 118, 119, 430, 431, 432, 2, 433, 434, 435, 436, 15, 16, 23, 19, 127, 128, 129, 130, 131, 437, 438, 439, 440, 441, 39, 442, 443, 444, 445, 446, 447, 141, 142, 143, 144, 12, 13, 145, 146, 147, 148, 149, 150, 151, 152, 153, 154, 448, 449, 450, 173, 174, 451, 452, 453, 454, 455, 456, 457, 458, 459, 460, 461, 462, 463, 464, 192, 193, 465, 466, 467, 468, 469, 470, 471, 290, 291, 472, 473, 474, 187, 188, 189, 190, 191, 194, 475, 476, 477, 478, 479, 480, 481, 482, 483, 484, 485, 486, 487, 488, 202, 203, 204, 205, 206, 207, 208, 209, 489, 490, 491, 492, 493, 279, 280, 281, 282, 283, 284, 285, 286, 17, 287, 288, 289, 292, 494, 495, 496, 497, 498, 499, 500, 501, 502, 503, 504, 505, 506, 22, 507, 38, 508, 509, 510, 511, 156, 157, 158, 159, 160, 161, 162, 163, 164, 165, 512, 230, 231, 232, 233, 234, 235, 236, 237, 238, 239, 240, 241, 242, 243, 244, 245, 246, 247, 248, 249, 250, 251, 252, 253, 254, 255, 256, 257, 258, 259, 260, 261, 262, 263, 264, 265, 266, 267, 268, 269, 270, 271, 272, 273, 274, 275, 513, 308, 309, 310, 514, 515, 516, 517, 518, 519, 520, 521, 522, 523, 524, 525, 297, 298, 299, 300, 301, 302, 18, 311, 312, 313, 314, 29, 315, 316, 317, 28, 318, 47, 48, 49, 319, 320, 321, 322, 323, 40, 324, 41, 325, 326, 327, 328, 329, 330, 331, 332, 333, 1376, 1377, 1378, 1379, 1380, 1381, 1382, 1383, 1384, 1385, 1318, 1319, 1320, 1321, 1322, 1323, 1324, 1325, 1326, 1327, 1369, 1370, 1371, 1372, 1373, 1374, 1375, 1359, 1360, 1361, 1386, 1362, 1363, 1364] (by decide +kernel) (by decide +kernel)) (goodIn_sub (fun _ h => List.mem_append_left _ (List.mem_append_left _ (List.mem_append_left _ (List.mem_append_left _ (List.mem_append_left _ (List.mem_append_left _ (List.mem_append_left _ (List.mem_append_right _ h)))))))) (by decide +kernel))) (goodIn_sub (fun _ h => List.mem_append_left _ (List.mem_append_left _ (List.mem_append_left _ (List.mem_append_left _ (List.mem_append_left _ (List.mem_append_right _ h)))))) (by decide +kernel))) (goodIn_sub (fun _ h => List.mem_append_left _ (List.mem_append_left _ (List.mem_append_left _ (List.mem_append_left _ (List.mem_append_right _ h))))) (by decide +kernel))) (goodIn_sub (fun _ h => List.mem_append_left _ (List.mem_append_left _ (List.mem_append_left _ (List.mem_append_right _ h)))) (by decide +kernel))
set_option maxRecDepth 20000 in
theorem gL_law_L_evaluate : GoodIn wsL_law (va_wsS RL 131 yL_evaluate wsL_evaluate) := goodIn_app (goodIn_of _ (by decide +kernel)) ggL_law_L_evaluate
theorem yYH_L_evaluate : jYH yL_evaluate wsL_evaluate cL_evaluate 4 (some .int) [(0, 9, 12, 19), (0, 9, 15, 21), (0, 9, 18, 23)] 3 := ⟨⟨_, rfl⟩, by decide +kernel, by decide +kernel, by decide +kernel⟩
theorem dL_law_281 : decode cL_law 281 = .ok (.istore 6, 2) := by decide +kernel
theorem dL_law_283 : decode cL_law 283 = .ok (.aload_n 2, 1) := by decide +kernel
theorem dL_law_284 : decode cL_law 284 = .ok (.aload_n 0, 1) := by decide +kernel
theorem dL_law_285 : decode cL_law 285 = .ok (.iload 5, 2) := by decide +kernel
theorem dL_law_287 : decode cL_law 287 = .ok (.iconst 1, 1) := by decide +kernel
theorem dL_law_288 : decode cL_law 288 = .ok (.iadd, 1) := by decide +kernel
theorem dL_law_289 : decode cL_law 289 = .ok (.iaload, 1) := by decide +kernel
theorem dL_law_290 : decode cL_law 290 = .ok (.invokevirtual 133, 3) := by decide +kernel
set_option maxRecDepth 20000 in
theorem ggL_law_X8_evaluate : GoodIn wsL_law wsX8_evaluate := goodIn_ca (goodIn_r _ [529, 530, 531, 338, 339, 104, 78, 532, 341, 109, 342, 343, 5, 344, 105, 106, 107, 108, 345, 346, 347, 348, 340, 533, 534, 535, 536, 537, 538, 539, 364, 365, 366, 367, 77, 540, 541, 542, 543, 83, 84, 85, 86, 544, 373, 382, 383, 384, 385, 545, 546, 547, 386, 387, 388, 389, 360, 361, 362, 363, 374, 375, 376, 377, 378, 379, 380, 381, 548, 549, 550, 551, 552, 87, 81, 553, 554, 555, 556, 74, 557, 558, 559, 560, 80, 79, 561, 562, 563, 564, 403, 404, 405, 406, 353, 82, 407, 408, 409, 397, 410, 411, 412, 413, 414, 415, 416, 417, 418, 419, 420, 421, 422, 423, 424, 425, 426, 75, 1328, 1329, 1330, 1331, 1332, 1333, 1334, 1335, 1336, 1337, 1338, 1339, 1340, 1341, 1342, 1343, 1344, 1345, 1346, 1347, 1348, 1349, 1350, 1351, 1352, 1353, 1354, 1355, 1356, 1357, 1358] (by decide +kernel) (by decide +kernel)) (goodIn_sub (fun _ h => List.mem_append_left _ (List.mem_append_left _ (List.mem_append_left _ (List.mem_append_left _ (List.mem_append_left _ (List.mem_append_left _ (List.mem_append_left _ (List.mem_append_right _ h)))))))) (by decide +kernel))
set_option maxRecDepth 20000 in
theorem gL_law_X8_evaluate : GoodIn wsL_law (wsV RL 133 RX8 yX8_evaluate wsX8_evaluate) := goodIn_app (goodIn_of _ (by decide +kernel)) ggL_law_X8_evaluate
theorem yY_X8_evaluate : jY yX8_evaluate wsX8_evaluate cX8_evaluate 3 (some .int) 1 := ⟨⟨_, rfl⟩, by decide +kernel, by decide +kernel, by decide +kernel⟩
theorem dL_law_293 : decode cL_law 293 = .ok (.istore 7, 2) := by decide +kernel
theorem dL_law_295 : decode cL_law 295 = .ok (.aload_n 2, 1) := by decide +kernel
theorem dL_law_296 : decode cL_law 296 = .ok (.invokevirtual 124, 3) := by decide +kernel
theorem dL_law_299 : decode cL_law 299 = .ok (.iload 6, 2) := by decide +kernel
theorem dL_law_301 : decode cL_law 301 = .ok (.if_icmp .eq 5, 3) := by decide +kernel
theorem dL_law_306 : decode cL_law 306 = .ok (.iload 6, 2) := by decide +kernel
theorem dL_law_308 : decode cL_law 308 = .ok (.ifCond .ne 15, 3) := by decide +kernel
theorem dL_law_323 : decode cL_law 323 = .ok (.goto 1629, 3) := by decide +kernel
theorem dL_law_311 : decode cL_law 311 = .ok (.aload_n 3, 1) := by decide +kernel
theorem dL_law_312 : decode cL_law 312 = .ok (.iconst 0, 1) := by decide +kernel
theorem dL_law_313 : decode cL_law 313 = .ok (.laload, 1) := by decide +kernel
theorem dL_law_314 : decode cL_law 314 = .ok (.iload 7, 2) := by decide +kernel
theorem dL_law_316 : decode cL_law 316 = .ok (.i2l, 1) := by decide +kernel
theorem dL_law_317 : decode cL_law 317 = .ok (.lcmp, 1) := by decide +kernel
theorem dL_law_318 : decode cL_law 318 = .ok (.ifCond .eq 5, 3) := by decide +kernel
set_option maxHeartbeats 1000000 in
set_option maxRecDepth 20000 in
theorem law_270 (l : Launch) (D : va_G) (dA : Nat → ClassId) (hst : l.stackTraces = false) {F : jFin} {n0 : Nat} {hh : List (Nat × Nat × Nat × Nat)} {fr lo : Nat} (hfr : 700 ≤ fr) (hlo : 9000 ≤ lo) (M : jM) (v i k : Nat) (A : cA) (h : lAb M v A A) (hz : zA A) (hi : i + 5 ≤ jSL dA) (hL : jSL dA ≤ 2560) (next : ∀ M1 A1, lAb M1 v A1 A1 → zA A1 → J l D dA RL cL_law wsL_law 9 false (some .boolean) hh fr lo F n0 (400 * k) (13000 * k + 1000 * cL A1) M1 1952 [.retAddr 4, .ref v, .ref (v + 36), .ref (v + 50), .ref (v + 51), .int (nI i), .float 0, .float 0, .float 0] []) : J l D dA RL cL_law wsL_law 9 false (some .boolean) hh fr lo F n0 (400 * (k + 1)) (13000 * (k + 1) + 1000 * cL A) (M) 270 [.retAddr (4), .ref (v), .ref (v + 36), .ref (v + 50), .ref (v + 51), .int (nI (i)), .float 0, .float 0, .float 0] [] := by
  have h60 : cL A ≤ 60 := h.1.2.2.1.2.2.2.2.2.2.2.2.1
  refine J_aload_n (v) dL_law_270 rfl rfl ?_
  refine J_aload_ns (4) dL_law_271 rfl rfl ?_
  refine J_iload dL_law_272 rfl ?_
  refine J_iconst (x := 1) dL_law_274 (by decide) ?_
  refine J_iadd dL_law_275 ?_
  refine J_topi (y := nI (i + 1)) (nI_add (i) (1)) ?_
  refine J_sld (kq := i + 1) dL_law_276 (by omega) ?_
  refine J_aload_n (v + 50) dL_law_277 rfl rfl ?_
  refine J_calli (jrunSH (As := [.ref (v), .int (jSX dA (i + 1)), .ref (v + 50)]) (ct_L_evaluate l D dA hst M v A h.1 ((jSX dA (i + 1)))  (v + 50) (show v + 50 < jn M by have := h.1.1.1; omega) h.2.2.1.1 h.2.2.1.2) dL_law_278 yYH_L_evaluate gL_law_L_evaluate rfl ⟨by omega, by omega⟩ ⟨by omega, by omega⟩ rfl (Nat.le_of_ble_eq_true rfl)) ⟨by omega, by omega⟩ (Or.inr ⟨(jOk.fs (jOk.ref (show v < jn M by have := h.1.1.1; omega) (jOk.ref (show v + 36 < jn M by have := h.1.1.1; omega) (jOk.ref (show v + 50 < jn M by have := h.1.1.1; omega) (jOk.ref (show v + 51 < jn M by have := h.1.1.1; omega) (jOk.int (jOk.float (jOk.float (jOk.float jOk.nil))))))))), jOk.nil⟩) (fun E M9 hp _ => by obtain ⟨K, _, _, h9⟩ := hp; rcases h9 with ⟨h9, _⟩ | ⟨_, _, _, _, _, h9, _⟩ <;> exact nomatch h9) (fun x6 M1 hp hle => ?_)
  obtain ⟨hab1, h6, hout⟩ := lPr.i h hp
  refine J_istore (lv' := [.retAddr (4), .ref (v), .ref (v + 36), .ref (v + 50), .ref (v + 51), .int (nI (i)), .int (x6), .float 0, .float 0]) dL_law_281 (by decide) rfl rfl ?_
  refine J_aload_n (v + 36) dL_law_283 rfl rfl ?_
  refine J_aload_ns (4) dL_law_284 rfl rfl ?_
  refine J_iload dL_law_285 rfl ?_
  refine J_iconst (x := 1) dL_law_287 (by decide) ?_
  refine J_iadd dL_law_288 ?_
  refine J_topi (y := nI (i + 1)) (nI_add (i) (1)) ?_
  refine J_sld (kq := i + 1) dL_law_289 (by omega) ?_
  refine J_calli (jrunV (As := [.int (jSX dA (i + 1))]) (ct_X8_evaluate l D dA hst M1 (v + 36) A hab1.2.1 hz.1 ((jSX dA (i + 1)))) dL_law_290 yY_X8_evaluate gL_law_X8_evaluate rfl cs11 (show v + 36 < jn M1 by have := hab1.1.1.1; omega) hab1.2.1.1.2.1 rfl ⟨by omega, by omega⟩ ⟨Nat.zero_le _, Nat.zero_le _⟩ rfl (Nat.le_of_ble_eq_true rfl)) ⟨Nat.zero_le _, Nat.zero_le _⟩ (Or.inr ⟨(jOk.fs (jOk.ref (show v < jn M1 by have := hab1.1.1.1; omega) (jOk.ref (show v + 36 < jn M1 by have := hab1.1.1.1; omega) (jOk.ref (show v + 50 < jn M1 by have := hab1.1.1.1; omega) (jOk.ref (show v + 51 < jn M1 by have := hab1.1.1.1; omega) (jOk.int (jOk.int (jOk.float (jOk.float jOk.nil))))))))), jOk.nil⟩) (fun E M9 hp _ => by obtain ⟨_, _, _, u, hu⟩ := hp; exact nomatch hu) (fun x7 M2 hq hle2 => ?_)
  obtain ⟨hq1, hq2, hq3, hq4⟩ := hq
  have hab2 := hab1.mf hq2 hq3
  have hcd : ji M2 (v + 36) 11 = x6 := l_code (by decide +kernel) hq1 hq4 h6
  have hz2 : zA ((sEval A (jSX dA (i + 1))).2) := hz.eval
  have hcl : cL (sEval A (jSX dA (i + 1))).2 ≤ cL A := cLz_eval
  refine J_istore (lv' := [.retAddr (4), .ref (v), .ref (v + 36), .ref (v + 50), .ref (v + 51), .int (nI (i)), .int (x6), .int (x7), .float 0]) dL_law_293 (by decide) rfl rfl ?_
  refine J_aload_n (v + 36) dL_law_295 rfl rfl ?_
  refine J_calli0 (jrunV (As := []) (ct_X8_thrown l D dA hst M2 (v + 36) hab2.2.1.1) dL_law_296 yY_X8_thrown gL_law_X8_thrown rfl cs11 (show v + 36 < jn M2 by have := hab2.1.1.1; omega) hab2.2.1.1.2.1 rfl ⟨by omega, by omega⟩ ⟨Nat.zero_le _, Nat.zero_le _⟩ rfl (Nat.le_of_ble_eq_true rfl)) (rfl) (rfl) ?_
  refine J_topi (y := (x6)) (by exact hcd) ?_
  refine J_iload dL_law_299 rfl ?_
  refine J_icmp_eq dL_law_301 (tgt := 306) (by decide) (fun c301 => ?_) (fun c301 => ?_)
  · refine J_iload dL_law_306 rfl ?_
    refine J_if_ne dL_law_308 (tgt := 323) (by decide) (fun c308 => ?_) (fun c308 => ?_)
    · refine J_goto (tgt := 1952) dL_law_323 (by decide) ?_
      refine J_fg 6 (lv' := [.retAddr (4), .ref (v), .ref (v + 36), .ref (v + 50), .ref (v + 51), .int (nI (i)), .float 0, .int (x7), .float 0]) rfl ?_
      refine J_fg 7 (lv' := [.retAddr (4), .ref (v), .ref (v + 36), .ref (v + 50), .ref (v + 51), .int (nI (i)), .float 0, .float 0, .float 0]) rfl ?_
      refine J_less (bc' := 400 * k) (bs' := 13000 * k + 1000 * cL ((sEval A (jSX dA (i + 1))).2)) (by omega) (by omega) ?_
      exact next _ _ hab2 hz2
    · obtain ⟨y, hy, hjl⟩ := hout c308
      have hxy := (l_out hq1 ⟨_, hy⟩).2.symm.trans hy
      have hxy : x7 = y := by cases hxy; rfl
      have hv7 : jl M2 (v + 50) 0 = x7.toInt64 := by rw [hq3.2.2.2.2.1, hjl, hxy]
      refine J_aload_n (v + 50) dL_law_311 rfl rfl ?_
      refine J_iconst (x := 0) dL_law_312 (by decide) ?_
      refine J_lald (i := (0)) dL_law_313 (show v + 50 < jn M2 by have := hab2.1.1.1; omega) hab2.2.2.1.1 (by rw [hab2.2.2.1.2]; exact vpin0) ?_
      refine J_iload dL_law_314 rfl ?_
      refine J_i2l dL_law_316 ?_
      refine J_lcmp dL_law_317 ?_
      refine J_if_eq dL_law_318 (tgt := 323) (by decide) (fun c318 => ?_) (fun c318 => ?_)
      · refine J_goto (tgt := 1952) dL_law_323 (by decide) ?_
        refine J_fg 6 (lv' := [.retAddr (4), .ref (v), .ref (v + 36), .ref (v + 50), .ref (v + 51), .int (nI (i)), .float 0, .int (x7), .float 0]) rfl ?_
        refine J_fg 7 (lv' := [.retAddr (4), .ref (v), .ref (v + 36), .ref (v + 50), .ref (v + 51), .int (nI (i)), .float 0, .float 0, .float 0]) rfl ?_
        refine J_less (bc' := 400 * k) (bs' := 13000 * k + 1000 * cL ((sEval A (jSX dA (i + 1))).2)) (by omega) (by omega) ?_
        exact next _ _ hab2 hz2
      · exact absurd (by rw [show jl M2 (v + 50) (Int32.toNatClampNeg 0) = x7.toInt64 from hv7]; exact lg_cmp_self) c318
  · exact absurd rfl c301

