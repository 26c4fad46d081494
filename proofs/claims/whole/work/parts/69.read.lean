theorem rd_beg {M : jM} {m : Nat} {A : cA} {x : Int32} (h : mAb M m A) : mRd (jSi (jSi (jSi (jSi M m 11 x) m 15 0) m 16 0) m 17 0) m (cC A) (cL A) (0, false, false, ji M m 18, ji M m 19, ji M m 20) := by
  obtain ⟨a1, a2, a3, a4, ⟨a5, a6, a7⟩, a8, a9, a10⟩ := h
  have hf : ∀ f, f ≠ 11 → f ≠ 15 → f ≠ 16 → f ≠ 17 → ji (jSi (jSi (jSi (jSi M m 11 x) m 15 0) m 16 0) m 17 0) m f = ji M m f := fun f h1 h2 h3 h4 => by rw [ji_Sik h4, ji_Sik h3, ji_Sik h2, ji_Sik h1]
  refine ⟨a1, ?_, a6, fun j hj => ?_, Nat.zero_le _, ?_, ?_, ?_, ?_, ?_, ?_⟩
  · rw [hf 6 (by decide) (by decide) (by decide) (by decide)]; exact a5
  · rw [ji_Sin (by omega), ji_Sin (by omega), ji_Sin (by omega), ji_Sin (by omega)]; exact a7 j hj
  · rw [ji_Sik (by decide), ji_Sik (by decide)]; exact ji_Sis
  · rw [ji_Sik (by decide)]; exact ji_Sis
  · exact ji_Sis
  · exact hf 18 (by decide) (by decide) (by decide) (by decide)
  · exact hf 19 (by decide) (by decide) (by decide) (by decide)
  · exact hf 20 (by decide) (by decide) (by decide) (by decide)
theorem mAb.beg {M : jM} {m : Nat} {A : cA} {x : Int32} (h : mAb M m A) : mAb (jSi (jSi (jSi (jSi M m 11 x) m 15 0) m 16 0) m 17 0) m A := (((h.si rfl).si rfl).si rfl).si rfl
theorem mFr.beg {M : jM} {m : Nat} {x : Int32} : mFr m M (jSi (jSi (jSi (jSi M m 11 x) m 15 0) m 16 0) m 17 0) := (((mFr.rf.si ⟨by omega, by omega⟩).si ⟨by omega, by omega⟩).si ⟨by omega, by omega⟩).si ⟨by omega, by omega⟩
theorem mAb.fin {M : jM} {m : Nat} {A : cA} {f : Int32} (h : mAb M m A) : mAb (jSi (jSi M m 6 0) m 7 f) m (cFin A f) := by
  obtain ⟨a1, a2, a3, a4, a5, a6, a7, a8⟩ := h
  have hR : ∀ a, a ≠ m → ji (jSi (jSi M m 6 0) m 7 f) a = ji M a := fun a ha => funext fun j => by rw [ji_Sin ha, ji_Sin ha]
  have hS : ∀ k, k ≠ 6 → k ≠ 7 → ji (jSi (jSi M m 6 0) m 7 f) m k = ji M m k := fun k h8 h11 => by rw [ji_Sik h11, ji_Sik h8]
  have hC : mCh (jSi (jSi M m 6 0) m 7 f) m (cCh A) := by
    cases hc : cCh A with
    | none => rw [hc] at a8; exact (hS 10 (by decide) (by decide)).trans a8
    | some w => rw [hc] at a8; exact ⟨(hS 10 (by decide) (by decide)).trans a8.1, a8.2.1, fun j hj => by rw [hR (m + 5) (by omega)]; exact a8.2.2 j hj⟩
  refine ⟨a1, ?_, ?_, ?_, ⟨?_, Nat.zero_le _, fun j hj => absurd hj (Nat.not_lt_zero _)⟩, ?_, ?_, hC⟩
  · rw [hR (m + 1) (by omega)]; exact a2
  · rw [hR (m + 2) (by omega), hS 4 (by decide) (by decide)]; exact a3
  · rw [hR (m + 3) (by omega), hS 3 (by decide) (by decide)]; exact a4
  · rw [ji_Sik (by decide)]; exact ji_Sis
  · exact ji_Sis
  · rw [hS 8 (by decide) (by decide)]; exact a7
theorem mAb.re8 {M : jM} {m : Nat} {A : cA} {k : Int32} (h : mAb M m A) (hk : 0 < k) : mAb (jSi M m 8 k) m (cRef A k) := by
  obtain ⟨a1, a2, a3, a4, a5, a6, a7, a8⟩ := h
  have hR : ∀ a, a ≠ m → ji (jSi M m 8 k) a = ji M a := fun a ha => funext fun j => ji_Sin ha
  have hS : ∀ f, f ≠ 8 → ji (jSi M m 8 k) m f = ji M m f := fun f h8 => ji_Sik h8
  have hC : mCh (jSi M m 8 k) m (cCh A) := by
    cases hc : cCh A with
    | none => rw [hc] at a8; exact (hS 10 (by decide)).trans a8
    | some w => rw [hc] at a8; exact ⟨(hS 10 (by decide)).trans a8.1, a8.2.1, fun j hj => by rw [hR (m + 5) (by omega)]; exact a8.2.2 j hj⟩
  refine ⟨a1, ?_, ?_, ?_, ?_, ?_, ?_, hC⟩
  · rw [hR (m + 1) (by omega)]; exact a2
  · rw [hR (m + 2) (by omega), hS 4 (by decide)]; exact a3
  · rw [hR (m + 3) (by omega), hS 3 (by decide)]; exact a4
  · rw [hR (m + 4) (by omega), hS 6 (by decide)]; exact a5
  · rw [hS 7 (by decide)]; exact a6
  · have h1 : k ≠ -1 := fun e => by rw [e] at hk; exact absurd hk (by decide)
    rw [ji_Sis]
    exact ⟨(if_neg h1).symm, Or.inr hk⟩
theorem rd_u {A : cA} {x : Int32} (h : okSlot x = true) : sRead A x = sRdZ A x (rdZ A) := by unfold sRead; exact sSl_t h
theorem rd_f {A : cA} {x : Int32} (h : okSlot x = false) : sRead A x = (oX xIOOBE, A) := by unfold sRead; exact sSl_f h
theorem rdz_b {A : cA} {x : Int32} {z : rZ} (h : z.1.1 = false) : sRdZ A x z = (oX xIAE, cFin A (nI z.1.2.1)) := by unfold sRdZ; rw [if_neg (by rw [h]; decide)]
theorem rdz_2 {A : cA} {x : Int32} {z : rZ} (h : z.1.1 = true) (h2 : z.1.2.2.2.2 = true) : sRdZ A x z = (oX xUOE, cRef (cFin A (-1)) 2) := by unfold sRdZ; rw [if_pos h, if_pos h2]
theorem rdz_t {A : cA} {x : Int32} {z : rZ} (h : z.1.1 = true) (h2 : z.1.2.2.2.2 = false) (h3 : z.2.1 ≤ 16) : sRdZ A x z = (oI (nI z.2.1), cPut (cFin A (-1)) x.toNatClampNeg (some z.2)) := by unfold sRdZ; rw [if_pos h, if_neg (by rw [h2]; decide), if_neg (by omega)]
theorem dX8_read_0 : decode cX8_read 0 = .ok (.aload_n 0, 1) := by decide +kernel
theorem dX8_read_1 : decode cX8_read 1 = .ok (.iload_n 1, 1) := by decide +kernel
theorem dX8_read_2 : decode cX8_read 2 = .ok (.invokestatic 151, 3) := by decide +kernel
set_option maxRecDepth 20000 in
theorem ggX8_read_X8_isSlot : GoodIn wsX8_read wsX8_isSlot := goodIn_r _ [11] (by decide +kernel) (by decide +kernel)
set_option maxRecDepth 20000 in
theorem gX8_read_X8_isSlot : GoodIn wsX8_read (va_wsS RX8 151 yX8_isSlot wsX8_isSlot) := goodIn_app (goodIn_of _ (by decide +kernel)) ggX8_read_X8_isSlot
theorem dX8_read_5 : decode cX8_read 5 = .ok (.ifCond .eq 7, 3) := by decide +kernel
theorem dX8_read_12 : decode cX8_read 12 = .ok (.iconst 1, 1) := by decide +kernel
theorem dX8_read_13 : decode cX8_read 13 = .ok (.invokevirtual 148, 3) := by decide +kernel
set_option maxRecDepth 20000 in
theorem ggX8_read_X8_fails : GoodIn wsX8_read wsX8_fails := goodIn_r _ [15, 7, 103, 104, 105, 106, 107, 108, 109, 110, 111, 112, 113, 114, 115, 116, 117, 118, 119, 120, 121, 122, 123, 124, 125, 126, 127, 128, 129, 130, 131, 132, 133] (by decide +kernel) (by decide +kernel)
set_option maxRecDepth 20000 in
theorem gX8_read_X8_fails : GoodIn wsX8_read (wsV RX8 148 RX8 yX8_fails wsX8_fails) := goodIn_app (goodIn_of _ (by decide +kernel)) ggX8_read_X8_fails
theorem dX8_read_16 : decode cX8_read 16 = .ok (.ifCond .eq 5, 3) := by decide +kernel
theorem dX8_read_19 : decode cX8_read 19 = .ok (.iconst 0, 1) := by decide +kernel
theorem dX8_read_20 : decode cX8_read 20 = .ok (.ireturn, 1) := by decide +kernel
theorem dX8_read_8 : decode cX8_read 8 = .ok (.iconst 0, 1) := by decide +kernel
theorem dX8_read_9 : decode cX8_read 9 = .ok (.goto 4, 3) := by decide +kernel
theorem dX8_read_21 : decode cX8_read 21 = .ok (.aload_n 0, 1) := by decide +kernel
theorem dX8_read_22 : decode cX8_read 22 = .ok (.invokevirtual 154, 3) := by decide +kernel
set_option maxRecDepth 20000 in
theorem ggX8_read_X8_begins : GoodIn wsX8_read wsX8_begins := goodIn_r _ [19, 3, 2, 5, 103, 104, 105, 106, 107, 108, 109, 110, 111, 112, 113, 114, 115, 116, 117, 118, 119, 120, 121, 122, 123, 124, 125, 126, 127, 128, 129, 130, 131, 132, 133] (by decide +kernel) (by decide +kernel)
set_option maxRecDepth 20000 in
theorem gX8_read_X8_begins : GoodIn wsX8_read (wsV RX8 154 RX8 yX8_begins wsX8_begins) := goodIn_app (goodIn_of _ (by decide +kernel)) ggX8_read_X8_begins
theorem yY_X8_begins : jY yX8_begins wsX8_begins cX8_begins 1 none 0 := ⟨⟨_, rfl⟩, by decide +kernel, by decide +kernel, by decide +kernel⟩
theorem dX8_read_25 : decode cX8_read 25 = .ok (.aload_n 0, 1) := by decide +kernel
theorem dX8_read_26 : decode cX8_read 26 = .ok (.invokevirtual 157, 3) := by decide +kernel
set_option maxRecDepth 20000 in
theorem ggX8_read_X8_readRange : GoodIn wsX8_read wsX8_readRange := goodIn_ca (goodIn_ca (goodIn_r _ [23, 24, 25, 26, 27, 2, 3, 1, 28, 29, 30, 10, 31, 32, 33, 34, 35, 36, 37, 38, 39, 40, 41, 42, 43, 44, 45, 46, 47, 48, 49, 50, 51, 52, 53, 54, 55, 56, 57, 58, 59, 60, 61, 62, 63, 64, 65, 66, 5, 67, 68, 69, 70, 71, 72, 73, 74, 75, 76, 77, 78, 79, 80, 81, 82, 83, 84, 85, 86, 87, 88, 89, 90, 91, 103, 104, 105, 106, 107, 108, 109, 110, 111, 112, 113, 114, 115, 116, 117, 118, 119, 120, 121, 122, 123, 124, 125, 126, 127, 128, 129, 130, 131, 132, 133] (by decide +kernel) (by decide +kernel)) (goodIn_sub (fun _ h => List.mem_cons_of_mem _ (List.mem_append_left _ (List.mem_append_right _ h))) (by decide +kernel))) (goodIn_sub (fun _ h => List.mem_cons_of_mem _ (List.mem_append_right _ h)) (by decide +kernel))
set_option maxRecDepth 20000 in
theorem gX8_read_X8_readRange : GoodIn wsX8_read (wsV RX8 157 RX8 yX8_readRange wsX8_readRange) := goodIn_app (goodIn_of _ (by decide +kernel)) ggX8_read_X8_readRange
theorem yY_X8_readRange : jY yX8_readRange wsX8_readRange cX8_readRange 4 (some .boolean) 0 := ⟨⟨_, rfl⟩, by decide +kernel, by decide +kernel, by decide +kernel⟩
theorem dX8_read_29 : decode cX8_read 29 = .ok (.istore_n 2, 1) := by decide +kernel
theorem dX8_read_30 : decode cX8_read 30 = .ok (.aload_n 0, 1) := by decide +kernel
theorem dX8_read_31 : decode cX8_read 31 = .ok (.iconst 0, 1) := by decide +kernel
theorem dX8_read_32 : decode cX8_read 32 = .ok (.putfield 84, 3) := by decide +kernel
theorem dX8_read_35 : decode cX8_read 35 = .ok (.aload_n 0, 1) := by decide +kernel
theorem dX8_read_36 : decode cX8_read 36 = .ok (.aload_n 0, 1) := by decide +kernel
theorem dX8_read_37 : decode cX8_read 37 = .ok (.getfield 87, 3) := by decide +kernel
theorem dX8_read_40 : decode cX8_read 40 = .ok (.ifCond .eq 10, 3) := by decide +kernel
theorem dX8_read_50 : decode cX8_read 50 = .ok (.iconst (-1), 1) := by decide +kernel
theorem dX8_read_51 : decode cX8_read 51 = .ok (.putfield 22, 3) := by decide +kernel
theorem dX8_read_54 : decode cX8_read 54 = .ok (.aload_n 0, 1) := by decide +kernel
theorem dX8_read_55 : decode cX8_read 55 = .ok (.aload_n 0, 1) := by decide +kernel
theorem dX8_read_56 : decode cX8_read 56 = .ok (.getfield 87, 3) := by decide +kernel
theorem dX8_read_59 : decode cX8_read 59 = .ok (.ifCond .eq 7, 3) := by decide +kernel
theorem dX8_read_66 : decode cX8_read 66 = .ok (.iconst 0, 1) := by decide +kernel
theorem dX8_read_67 : decode cX8_read 67 = .ok (.invokevirtual 148, 3) := by decide +kernel
theorem dX8_read_70 : decode cX8_read 70 = .ok (.ifCond .eq 5, 3) := by decide +kernel
theorem dX8_read_75 : decode cX8_read 75 = .ok (.aload_n 0, 1) := by decide +kernel
theorem dX8_read_76 : decode cX8_read 76 = .ok (.getfield 112, 3) := by decide +kernel
theorem dX8_read_79 : decode cX8_read 79 = .ok (.ifCond .eq 7, 3) := by decide +kernel
theorem dX8_read_86 : decode cX8_read 86 = .ok (.iload_n 2, 1) := by decide +kernel
theorem dX8_read_87 : decode cX8_read 87 = .ok (.ifCond .eq 7, 3) := by decide +kernel
theorem dX8_read_90 : decode cX8_read 90 = .ok (.iconst 0, 1) := by decide +kernel
theorem dX8_read_91 : decode cX8_read 91 = .ok (.goto 4, 3) := by decide +kernel
theorem dX8_read_95 : decode cX8_read 95 = .ok (.istore_n 3, 1) := by decide +kernel
theorem dX8_read_96 : decode cX8_read 96 = .ok (.iload_n 3, 1) := by decide +kernel
theorem dX8_read_97 : decode cX8_read 97 = .ok (.ifCond .le 15, 3) := by decide +kernel
theorem dX8_read_112 : decode cX8_read 112 = .ok (.aload_n 0, 1) := by decide +kernel
theorem dX8_read_113 : decode cX8_read 113 = .ok (.iload_n 1, 1) := by decide +kernel
theorem dX8_read_114 : decode cX8_read 114 = .ok (.invokevirtual 163, 3) := by decide +kernel
set_option maxRecDepth 20000 in
theorem ggX8_read_X8_lays : GoodIn wsX8_read wsX8_lays := goodIn_ca (goodIn_r _ [95, 96, 24, 97, 98, 99, 10, 100, 101, 102, 103, 104, 105, 106, 107, 108, 109, 110, 111, 112, 113, 114, 115, 116, 117, 118, 119, 120, 121, 122, 123, 124, 125, 126, 127, 128, 129, 130, 131, 132, 133] (by decide +kernel) (by decide +kernel)) (goodIn_sub (fun _ h => List.mem_cons_of_mem _ (List.mem_append_left _ (List.mem_append_right _ h))) (by decide +kernel))
set_option maxRecDepth 20000 in
theorem gX8_read_X8_lays : GoodIn wsX8_read (wsV RX8 163 RX8 yX8_lays wsX8_lays) := goodIn_app (goodIn_of _ (by decide +kernel)) ggX8_read_X8_lays
theorem dX8_read_117 : decode cX8_read 117 = .ok (.ireturn, 1) := by decide +kernel
theorem dX8_read_82 : decode cX8_read 82 = .ok (.iconst 2, 1) := by decide +kernel
theorem dX8_read_83 : decode cX8_read 83 = .ok (.goto 12, 3) := by decide +kernel
theorem dX8_read_100 : decode cX8_read 100 = .ok (.aload_n 0, 1) := by decide +kernel
theorem dX8_read_101 : decode cX8_read 101 = .ok (.iload_n 3, 1) := by decide +kernel
theorem dX8_read_102 : decode cX8_read 102 = .ok (.putfield 160, 3) := by decide +kernel
theorem dX8_read_105 : decode cX8_read 105 = .ok (.aload_n 0, 1) := by decide +kernel
theorem dX8_read_106 : decode cX8_read 106 = .ok (.iconst 3, 1) := by decide +kernel
theorem dX8_read_107 : decode cX8_read 107 = .ok (.putfield 56, 3) := by decide +kernel
theorem dX8_read_110 : decode cX8_read 110 = .ok (.iconst 0, 1) := by decide +kernel
theorem dX8_read_111 : decode cX8_read 111 = .ok (.ireturn, 1) := by decide +kernel
theorem dX8_read_43 : decode cX8_read 43 = .ok (.aload_n 0, 1) := by decide +kernel
theorem dX8_read_44 : decode cX8_read 44 = .ok (.getfield 81, 3) := by decide +kernel
theorem dX8_read_47 : decode cX8_read 47 = .ok (.goto 4, 3) := by decide +kernel
theorem dX8_read_62 : decode cX8_read 62 = .ok (.iconst 2, 1) := by decide +kernel
theorem dX8_read_63 : decode cX8_read 63 = .ok (.goto 4, 3) := by decide +kernel
theorem dX8_read_73 : decode cX8_read 73 = .ok (.iconst 0, 1) := by decide +kernel
theorem dX8_read_74 : decode cX8_read 74 = .ok (.ireturn, 1) := by decide +kernel
set_option maxHeartbeats 400000 in
set_option maxRecDepth 20000 in
theorem ct_X8_read (l : Launch) (D : va_G) (dA : Nat → ClassId) (hst : l.stackTraces = false) (M : jM) (m : Nat) (A : cA) (hA : mAb M m A) (hW : zWf (cNw A)) (s : Int32) : jCT l D dA yX8_read wsX8_read (28) (780) (0) (0) 1 [.ref (m), .int (s)] M (mRl M m [xIOOBE, xIAE, xUOE] (sRead A s).1 (sRead A s).2) := by
  refine jBody (cc := cX8_read) (nL := 4) (rt := (some .int)) (ini := false) (by decide) rfl hst (Nat.le_of_ble_eq_true rfl) (by simp [Value.category]) (by intro h9; first | exact absurd h9 (by decide) | rfl) ?_
  show J l D dA RX8 cX8_read wsX8_read 4 false (some .int) [] (28) (780) (jF D dA (jn M) (mRl M m [xIOOBE, xIAE, xUOE] (sRead A s).1 (sRead A s).2) 1) (jn M) (0) (0) (M) 0 [.ref (m), .int (s), .float 0, .float 0] []
  obtain ⟨hM, hz, ⟨hKn, hK8, hKs⟩, ⟨hHs, hHz⟩, ⟨hLn, hL6, hLc⟩, hFl, ⟨hRs, hRp⟩, hCh⟩ := id hA
  obtain ⟨m1, m2, ⟨r1, r2, r3, r4, r5, r6, r7, r8, r9, r10, r11, r12, r13⟩, ⟨k1, k2, k3, k4, k5, k6, k7, k8, k9, k10, k11, k12, k13⟩, z1, z2, z3, z4, z5, z6, z7, z8, z9, z10, z11, z12, z13⟩ := id hM
  refine J_aload_n (m) dX8_read_0 rfl rfl ?_
  refine J_iload_n dX8_read_1 rfl rfl ?_
  refine J_calli0 (jrunS (As := [.int (s)]) (ct_X8_isSlot l D dA hst M ((s))) dX8_read_2 yY_X8_isSlot gX8_read_X8_isSlot rfl ⟨by omega, by omega⟩ ⟨Nat.zero_le _, Nat.zero_le _⟩ rfl (Nat.le_of_ble_eq_true rfl)) (rfl) (rfl) ?_
  refine J_if_eq dX8_read_5 (tgt := 12) (by decide) (fun c5 => ?_) (fun c5 => ?_)
  · have c5 := jb0T c5
    refine J_iconst (x := 1) dX8_read_12 (by decide) ?_
    refine J_calli0 (jrunV (As := [.int (1)]) (ct_X8_fails l D dA hst M m hM ((1))) dX8_read_13 yY_X8_fails gX8_read_X8_fails rfl cs11 (show m < jn M from by omega) m2 rfl ⟨by omega, by omega⟩ ⟨Nat.zero_le _, Nat.zero_le _⟩ rfl (Nat.le_of_ble_eq_true rfl)) (rfl) (rfl) ?_
    refine J_if_eq dX8_read_16 (tgt := 21) (by decide) (fun c16 => ?_) (fun c16 => ?_)
    · exact absurd c16 (by decide)
    · have c16 := jeqF (a := 1) (b := 0) (by omega) (by omega) c16
      refine J_iconst (x := 0) dX8_read_19 (by decide) ?_
      exact J_iret (ty := .int) dX8_read_20 rfl (rfl) (by rw [rd_f c5]; exact ⟨mAg.x 0 xIOOBE rfl (by decide) ji_Sis rfl, (hA).si rfl, (mFr.rf).si ⟨by omega, by omega⟩, _, rfl⟩)
  · have c5 := jb0F c5
    refine J_iconst (x := 0) dX8_read_8 (by decide) ?_
    refine J_goto (tgt := 13) dX8_read_9 (by decide) ?_
    refine J_calli0 (jrunV (As := [.int (0)]) (ct_X8_fails l D dA hst M m hM ((0))) dX8_read_13 yY_X8_fails gX8_read_X8_fails rfl cs11 (show m < jn M from by omega) m2 rfl ⟨by omega, by omega⟩ ⟨Nat.zero_le _, Nat.zero_le _⟩ rfl (Nat.le_of_ble_eq_true rfl)) (rfl) (rfl) ?_
    refine J_if_eq dX8_read_16 (tgt := 21) (by decide) (fun c16 => ?_) (fun c16 => ?_)
    · have c16 := jeqT (a := 0) (b := 0) (by omega) (by omega) c16
      obtain ⟨k, hk, rfl⟩ := okSlot_of c5
      refine J_aload_n (m) dX8_read_21 rfl rfl ?_
      refine J_callv0 (jrunV (As := []) (ct_X8_begins l D dA hst (jSi M m 11 ((0))) m hM) dX8_read_22 yY_X8_begins gX8_read_X8_begins rfl cs11 (show m < jn M from by omega) m2 rfl ⟨by omega, by omega⟩ ⟨Nat.zero_le _, Nat.zero_le _⟩ rfl (Nat.le_of_ble_eq_true rfl)) (rfl) (rfl) ?_
      refine J_aload_n (m) dX8_read_25 rfl rfl ?_
      refine J_calli (jrunV (As := []) (ct_X8_readRange l D dA hst (jSi (jSi (jSi (jSi M m 11 ((0))) m 15 0) m 16 0) m 17 0) m (cC A) (cL A) _ _ _ (rd_beg hA) (rdZ A) rfl) dX8_read_26 yY_X8_readRange gX8_read_X8_readRange rfl cs11 (show m < jn M from by omega) m2 rfl ⟨by omega, by omega⟩ ⟨Nat.zero_le _, Nat.zero_le _⟩ rfl (Nat.le_of_ble_eq_true rfl)) ⟨Nat.zero_le _, Nat.zero_le _⟩ (Or.inr ⟨(jOk.ref (show m < jn M from by omega) (jOk.int (jOk.float (jOk.float jOk.nil)))), jOk.nil⟩) (fun E M9 hp _ => by obtain ⟨_, _, h1, _⟩ := hp; cases h1) (fun x9 K hp26 hle26 => ?_)
      obtain ⟨b9, s9, he9, hd9, hb9, hp9, hF9, hE9, hc9, hok9⟩ := hp26
      cases he9
      obtain ⟨Km1, Km2, ⟨Kr1, Kr2, Kr3, Kr4, Kr5, Kr6, Kr7, Kr8, Kr9, Kr10, Kr11, Kr12, Kr13⟩, ⟨Kk1, Kk2, Kk3, Kk4, Kk5, Kk6, Kk7, Kk8, Kk9, Kk10, Kk11, Kk12, Kk13⟩, Kz1, Kz2, Kz3, Kz4, Kz5, Kz6, Kz7, Kz8, Kz9, Kz10, Kz11, Kz12, Kz13⟩ := id hd9.1
      have hAK : mAb K m A := hA.beg.q hF9 hE9
      have hFK : mFr m M K := mFr.beg.tr hF9
      rcases Bool.eq_false_or_eq_true (rdZ A).1.1 with hz | hz
      · have hb8 : s9.2.1 = false := by rw [hb9, hz]; rfl
        obtain ⟨rfl, hl9, hsl9, h169, hw9⟩ := hok9 hz
        refine J_istore_n (lv' := [.ref (m), .int (nI (k)), .int (jb (true)), .float 0]) dX8_read_29 rfl (by decide) rfl rfl ?_
        refine J_aload_n (m) dX8_read_30 rfl rfl ?_
        refine J_iconst (x := 0) dX8_read_31 (by decide) ?_
        refine J_puti (j := 6) (x := (0)) dX8_read_32 (fun _ h => List.mem_cons_of_mem _ (List.mem_append_left _ (List.mem_append_left _ (List.mem_append_right _ (h))))) cs11 cty11 (by decide) rfl (List.mem_of_getElem? (i := 1) rfl) rfl rfl ⟨rfl, rfl⟩ (show m < jn K from by omega) Km2 ?_
        refine J_aload_n (m) dX8_read_35 rfl rfl ?_
        refine J_aload_n (m) dX8_read_36 rfl rfl ?_
        refine J_geti (j := 16) dX8_read_37 (fun _ h => List.mem_cons_of_mem _ (List.mem_append_left _ (List.mem_append_left _ (List.mem_append_right _ (h))))) cs11 (by decide) rfl (List.mem_of_getElem? (i := 2) rfl) rfl (show m < jn K from by omega) Km2 ?_
        refine J_topi (y := jb (false)) ((ji_ne_i (by omega) (hd9.f16.trans (congrArg jb hb8)))) ?_
        refine J_if_eq dX8_read_40 (tgt := 50) (by decide) (fun c40 => ?_) (fun c40 => ?_)
        · have c40 := jb0T c40
          refine J_iconst (x := (-1)) dX8_read_50 (by decide) ?_
          refine J_puti (j := 7) (x := (-1)) dX8_read_51 (fun _ h => List.mem_cons_of_mem _ (List.mem_append_left _ (List.mem_append_left _ (List.mem_append_right _ (h))))) cs11 cty11 (by decide) rfl (List.mem_of_getElem? (i := 4) rfl) rfl rfl ⟨rfl, rfl⟩ (show m < jn K from by omega) Km2 ?_
          refine J_aload_n (m) dX8_read_54 rfl rfl ?_
          refine J_aload_n (m) dX8_read_55 rfl rfl ?_
          refine J_geti (j := 16) dX8_read_56 (fun _ h => List.mem_cons_of_mem _ (List.mem_append_left _ (List.mem_append_left _ (List.mem_append_right _ (h))))) cs11 (by decide) rfl (List.mem_of_getElem? (i := 2) rfl) rfl (show m < jn K from by omega) Km2 ?_
          refine J_topi (y := jb (false)) ((ji_ne_i (by omega) (ji_ne_i (by omega) (hd9.f16.trans (congrArg jb hb8))))) ?_
          refine J_if_eq dX8_read_59 (tgt := 66) (by decide) (fun c59 => ?_) (fun c59 => ?_)
          · have c59 := jb0T c59
            refine J_iconst (x := 0) dX8_read_66 (by decide) ?_
            refine J_calli0 (jrunV (As := [.int (0)]) (ct_X8_fails l D dA hst (jSi (jSi K m 6 ((0))) m 7 ((-1))) m hd9.1 ((0))) dX8_read_67 yY_X8_fails gX8_read_X8_fails rfl cs11 (show m < jn K from by omega) Km2 rfl ⟨by omega, by omega⟩ ⟨Nat.zero_le _, Nat.zero_le _⟩ rfl (Nat.le_of_ble_eq_true rfl)) (rfl) (rfl) ?_
            refine J_if_eq dX8_read_70 (tgt := 75) (by decide) (fun c70 => ?_) (fun c70 => ?_)
            · have c70 := jeqT (a := 0) (b := 0) (by omega) (by omega) c70
              refine J_aload_n (m) dX8_read_75 rfl rfl ?_
              refine J_geti (j := 17) dX8_read_76 (fun _ h => List.mem_cons_of_mem _ (List.mem_append_left _ (List.mem_append_left _ (List.mem_append_right _ (h))))) cs11 (by decide) rfl (List.mem_of_getElem? (i := 5) rfl) rfl (show m < jn K from by omega) Km2 ?_
              refine J_topi (y := jb (s9.2.2.1)) (((ji_Sik (show 17 ≠ 11 by decide)).trans (ji_ne_i (by omega) (ji_ne_i (by omega) hd9.f17)))) ?_
              refine J_if_eq dX8_read_79 (tgt := 86) (by decide) (fun c79 => ?_) (fun c79 => ?_)
              · have c79 := jb0T c79
                refine J_iload_n dX8_read_86 rfl rfl ?_
                refine J_if_eq dX8_read_87 (tgt := 94) (by decide) (fun c87 => ?_) (fun c87 => ?_)
                · exact absurd c87 (by decide)
                · have c87 := jb0F c87
                  refine J_iconst (x := 0) dX8_read_90 (by decide) ?_
                  refine J_goto (tgt := 95) dX8_read_91 (by decide) ?_
                  refine J_istore_n (lv' := [.ref (m), .int (nI (k)), .int (jb (true)), .int (0)]) dX8_read_95 rfl (by decide) rfl rfl ?_
                  refine J_iload_n dX8_read_96 rfl rfl ?_
                  refine J_if_le dX8_read_97 (tgt := 112) (by decide) (fun c97 => ?_) (fun c97 => ?_)
                  · have c97 := jleT (a := 0) (b := 0) (by omega) (by omega) c97
                    refine J_aload_n (m) dX8_read_112 rfl rfl ?_
                    have hxl : mSlot (ji (jSi (jSi (jSi K m 6 0) m 7 (-1)) m 11 0) (m + 6)) 0 (some (rdZ A).2) := by rw [show ji (jSi (jSi (jSi K m 6 0) m 7 (-1)) m 11 0) (m + 6) = ji K (m + 6) from funext fun j => by rw [ji_Sin (by omega), ji_Sin (by omega), ji_Sin (by omega)]]; exact hsl9
                    refine J_iload_n dX8_read_113 rfl rfl ?_
                    refine J_calli (jrunV (As := [.int (nI (k))]) (ct_X8_lays l D dA hst (jSi (jSi (jSi K m 6 ((0))) m 7 ((-1))) m 11 ((0))) m (cFin A (-1)) (hAK.fin.si rfl) k hk (rdZ A).2 hxl) dX8_read_114 yY_X8_lays gX8_read_X8_lays rfl cs11 (show m < jn K from by omega) Km2 rfl ⟨by omega, by omega⟩ ⟨Nat.zero_le _, Nat.zero_le _⟩ rfl (Nat.le_of_ble_eq_true rfl)) ⟨Nat.zero_le _, Nat.zero_le _⟩ (Or.inr ⟨(jOk.ref (show m < jn K from by omega) (jOk.int (jOk.int (jOk.int jOk.nil)))), jOk.nil⟩) (fun E M9 hp _ => by cases hp.1) (fun x9 K2 hp114 hle114 => ?_)
                    obtain ⟨he8, hB2, hF2, h112⟩ := hp114
                    cases he8
                    exact J_iret (ty := .int) dX8_read_117 rfl (rfl) (by rw [rd_u c5, rdz_t hz (hl9.symm.trans c79) h169, nI_clamp (by omega)]; exact ⟨Or.inl ⟨h112.trans ji_Sis, rfl⟩, hB2, (((hFK.si ⟨by omega, by omega⟩).si ⟨by omega, by omega⟩).si ⟨by omega, by omega⟩).tr hF2, _, rfl⟩)
                  · exact absurd c97 (by decide)
              · have c79 := jb0F c79
                refine J_iconst (x := 2) dX8_read_82 (by decide) ?_
                refine J_goto (tgt := 95) dX8_read_83 (by decide) ?_
                refine J_istore_n (lv' := [.ref (m), .int (nI (k)), .int (jb (true)), .int (2)]) dX8_read_95 rfl (by decide) rfl rfl ?_
                refine J_iload_n dX8_read_96 rfl rfl ?_
                refine J_if_le dX8_read_97 (tgt := 112) (by decide) (fun c97 => ?_) (fun c97 => ?_)
                · exact absurd c97 (by decide)
                · have c97 := jleF (a := 2) (b := 0) (by omega) (by omega) c97
                  refine J_aload_n (m) dX8_read_100 rfl rfl ?_
                  refine J_iload_n dX8_read_101 rfl rfl ?_
                  refine J_puti (j := 8) (x := (2)) dX8_read_102 (fun _ h => List.mem_cons_of_mem _ (List.mem_append_left _ (List.mem_append_left _ (List.mem_append_right _ (h))))) cs11 cty11 (by decide) rfl (List.mem_of_getElem? (i := 6) rfl) rfl rfl ⟨rfl, rfl⟩ (show m < jn K from by omega) Km2 ?_
                  refine J_aload_n (m) dX8_read_105 rfl rfl ?_
                  refine J_iconst (x := 3) dX8_read_106 (by decide) ?_
                  refine J_puti (j := 11) (x := (3)) dX8_read_107 (fun _ h => List.mem_cons_of_mem _ (List.mem_append_left _ (List.mem_append_left _ (List.mem_append_right _ (h))))) cs11 cty11 (by decide) rfl (List.mem_of_getElem? (i := 7) rfl) rfl rfl ⟨rfl, rfl⟩ (show m < jn K from by omega) Km2 ?_
                  refine J_iconst (x := 0) dX8_read_110 (by decide) ?_
                  exact J_iret (ty := .int) dX8_read_111 rfl (rfl) (by rw [rd_u c5, rdz_2 hz (hl9.symm.trans c79)]; exact ⟨mAg.x 2 xUOE rfl (by decide) ji_Sis rfl, ((hAK.fin.si rfl).re8 (by decide)).si rfl, ((((hFK.si ⟨by omega, by omega⟩).si ⟨by omega, by omega⟩).si ⟨by omega, by omega⟩).si ⟨by omega, by omega⟩).si ⟨by omega, by omega⟩, _, rfl⟩)
            · exact absurd c70 (by decide)
          · exact absurd c59 (by decide)
        · exact absurd c40 (by decide)
      · have hb8 : s9.2.1 = true := by rw [hb9, hz]; rfl
        refine J_istore_n (lv' := [.ref (m), .int (nI (k)), .int (jb (b9)), .float 0]) dX8_read_29 rfl (by decide) rfl rfl ?_
        refine J_aload_n (m) dX8_read_30 rfl rfl ?_
        refine J_iconst (x := 0) dX8_read_31 (by decide) ?_
        refine J_puti (j := 6) (x := (0)) dX8_read_32 (fun _ h => List.mem_cons_of_mem _ (List.mem_append_left _ (List.mem_append_left _ (List.mem_append_right _ (h))))) cs11 cty11 (by decide) rfl (List.mem_of_getElem? (i := 1) rfl) rfl rfl ⟨rfl, rfl⟩ (show m < jn K from by omega) Km2 ?_
        refine J_aload_n (m) dX8_read_35 rfl rfl ?_
        refine J_aload_n (m) dX8_read_36 rfl rfl ?_
        refine J_geti (j := 16) dX8_read_37 (fun _ h => List.mem_cons_of_mem _ (List.mem_append_left _ (List.mem_append_left _ (List.mem_append_right _ (h))))) cs11 (by decide) rfl (List.mem_of_getElem? (i := 2) rfl) rfl (show m < jn K from by omega) Km2 ?_
        refine J_topi (y := jb (true)) ((ji_ne_i (by omega) (hd9.f16.trans (congrArg jb hb8)))) ?_
        refine J_if_eq dX8_read_40 (tgt := 50) (by decide) (fun c40 => ?_) (fun c40 => ?_)
        · exact absurd c40 (by decide)
        · have c40 := jb0F c40
          refine J_aload_n (m) dX8_read_43 rfl rfl ?_
          refine J_geti (j := 15) dX8_read_44 (fun _ h => List.mem_cons_of_mem _ (List.mem_append_left _ (List.mem_append_left _ (List.mem_append_right _ (h))))) cs11 (by decide) rfl (List.mem_of_getElem? (i := 3) rfl) rfl (show m < jn K from by omega) Km2 ?_
          refine J_topi (y := nI ((rdZ A).1.2.1)) ((ji_ne_i (by omega) (hd9.f15.trans (congrArg nI hp9)))) ?_
          refine J_goto (tgt := 51) dX8_read_47 (by decide) ?_
          refine J_puti (j := 7) (x := nI ((rdZ A).1.2.1)) dX8_read_51 (fun _ h => List.mem_cons_of_mem _ (List.mem_append_left _ (List.mem_append_left _ (List.mem_append_right _ (h))))) cs11 cty11 (by decide) rfl (List.mem_of_getElem? (i := 4) rfl) rfl rfl ⟨rfl, rfl⟩ (show m < jn K from by omega) Km2 ?_
          refine J_aload_n (m) dX8_read_54 rfl rfl ?_
          refine J_aload_n (m) dX8_read_55 rfl rfl ?_
          refine J_geti (j := 16) dX8_read_56 (fun _ h => List.mem_cons_of_mem _ (List.mem_append_left _ (List.mem_append_left _ (List.mem_append_right _ (h))))) cs11 (by decide) rfl (List.mem_of_getElem? (i := 2) rfl) rfl (show m < jn K from by omega) Km2 ?_
          refine J_topi (y := jb (true)) ((ji_ne_i (by omega) (ji_ne_i (by omega) (hd9.f16.trans (congrArg jb hb8))))) ?_
          refine J_if_eq dX8_read_59 (tgt := 66) (by decide) (fun c59 => ?_) (fun c59 => ?_)
          · exact absurd c59 (by decide)
          · have c59 := jb0F c59
            refine J_iconst (x := 2) dX8_read_62 (by decide) ?_
            refine J_goto (tgt := 67) dX8_read_63 (by decide) ?_
            refine J_calli0 (jrunV (As := [.int (2)]) (ct_X8_fails l D dA hst (jSi (jSi K m 6 ((0))) m 7 (nI ((rdZ A).1.2.1))) m hd9.1 ((2))) dX8_read_67 yY_X8_fails gX8_read_X8_fails rfl cs11 (show m < jn K from by omega) Km2 rfl ⟨by omega, by omega⟩ ⟨Nat.zero_le _, Nat.zero_le _⟩ rfl (Nat.le_of_ble_eq_true rfl)) (rfl) (rfl) ?_
            refine J_if_eq dX8_read_70 (tgt := 75) (by decide) (fun c70 => ?_) (fun c70 => ?_)
            · exact absurd c70 (by decide)
            · have c70 := jeqF (a := 1) (b := 0) (by omega) (by omega) c70
              refine J_iconst (x := 0) dX8_read_73 (by decide) ?_
              exact J_iret (ty := .int) dX8_read_74 rfl (rfl) (by rw [rd_u c5, rdz_b hz]; exact ⟨mAg.x 1 xIAE rfl (by decide) ji_Sis rfl, hAK.fin.si rfl, ((hFK.si ⟨by omega, by omega⟩).si ⟨by omega, by omega⟩).si ⟨by omega, by omega⟩, _, rfl⟩)
    · exact absurd c16 (by decide)

