theorem cpy_f1 {A : cA} {x y : Int32} (h : okSlot x = false) : sCpy A x y = (oX xIOOBE, A) := by unfold sCpy; exact sSl_f h
theorem cpy_f2 {A : cA} {x y : Int32} (h : okSlot x = true) (h2 : okSlot y = false) : sCpy A x y = (oX xIOOBE, A) := by unfold sCpy; rw [sSl_t h, sSl_f h2]
theorem cpy_t {A : cA} {x y : Int32} (h : okSlot x = true) (h2 : okSlot y = true) : sCpy A x y = (oI (nI (cFull (cNw (cPut A y.toNatClampNeg (cAt (cNw A) x))))), cPut A y.toNatClampNeg (cAt (cNw A) x)) := by unfold sCpy; rw [sSl_t h, sSl_t h2]
theorem mAb.z {M : jM} {m : Nat} {A : cA} (h : mAb M m A) : mSt (ji M (m + 1)) 0 (cNw A) := h.2.1
theorem dX8_copy_0 : decode cX8_copy 0 = .ok (.aload_n 0, 1) := by decide +kernel
theorem dX8_copy_1 : decode cX8_copy 1 = .ok (.iload_n 1, 1) := by decide +kernel
theorem dX8_copy_2 : decode cX8_copy 2 = .ok (.invokestatic 151, 3) := by decide +kernel
set_option maxRecDepth 20000 in
theorem ggX8_copy_X8_isSlot : GoodIn wsX8_copy wsX8_isSlot := goodIn_r _ [5] (by decide +kernel) (by decide +kernel)
set_option maxRecDepth 20000 in
theorem gX8_copy_X8_isSlot : GoodIn wsX8_copy (va_wsS RX8 151 yX8_isSlot wsX8_isSlot) := goodIn_app (goodIn_of _ (by decide +kernel)) ggX8_copy_X8_isSlot
theorem dX8_copy_5 : decode cX8_copy 5 = .ok (.ifCond .eq 14, 3) := by decide +kernel
theorem dX8_copy_19 : decode cX8_copy 19 = .ok (.iconst 1, 1) := by decide +kernel
theorem dX8_copy_20 : decode cX8_copy 20 = .ok (.invokevirtual 148, 3) := by decide +kernel
set_option maxRecDepth 20000 in
theorem ggX8_copy_X8_fails : GoodIn wsX8_copy wsX8_fails := goodIn_r _ [9, 10, 25, 26, 27, 28, 29, 30, 31, 32, 33, 34, 35, 36, 37, 38, 39, 40, 41, 42, 43, 44, 45, 46, 47, 48, 49, 50, 51, 52, 53, 54, 55] (by decide +kernel) (by decide +kernel)
set_option maxRecDepth 20000 in
theorem gX8_copy_X8_fails : GoodIn wsX8_copy (wsV RX8 148 RX8 yX8_fails wsX8_fails) := goodIn_app (goodIn_of _ (by decide +kernel)) ggX8_copy_X8_fails
theorem dX8_copy_23 : decode cX8_copy 23 = .ok (.ifCond .eq 5, 3) := by decide +kernel
theorem dX8_copy_26 : decode cX8_copy 26 = .ok (.iconst 0, 1) := by decide +kernel
theorem dX8_copy_27 : decode cX8_copy 27 = .ok (.ireturn, 1) := by decide +kernel
theorem dX8_copy_8 : decode cX8_copy 8 = .ok (.iload_n 2, 1) := by decide +kernel
theorem dX8_copy_9 : decode cX8_copy 9 = .ok (.invokestatic 151, 3) := by decide +kernel
theorem dX8_copy_12 : decode cX8_copy 12 = .ok (.ifCond .eq 7, 3) := by decide +kernel
theorem dX8_copy_15 : decode cX8_copy 15 = .ok (.iconst 0, 1) := by decide +kernel
theorem dX8_copy_16 : decode cX8_copy 16 = .ok (.goto 4, 3) := by decide +kernel
theorem dX8_copy_28 : decode cX8_copy 28 = .ok (.aload_n 0, 1) := by decide +kernel
theorem dX8_copy_29 : decode cX8_copy 29 = .ok (.invokevirtual 79, 3) := by decide +kernel
set_option maxRecDepth 20000 in
theorem ggX8_copy_X8_changes : GoodIn wsX8_copy wsX8_changes := goodIn_ca (goodIn_r _ [14, 15, 16, 1, 25, 26, 27, 28, 29, 30, 31, 32, 33, 34, 35, 36, 37, 38, 39, 40, 41, 42, 43, 44, 45, 46, 47, 48, 49, 50, 51, 52, 53, 54, 55] (by decide +kernel) (by decide +kernel)) (goodIn_sub (fun _ h => List.mem_cons_of_mem _ (List.mem_append_right _ h)) (by decide +kernel))
set_option maxRecDepth 20000 in
theorem gX8_copy_X8_changes : GoodIn wsX8_copy (wsV RX8 79 RX8 yX8_changes wsX8_changes) := goodIn_app (goodIn_of _ (by decide +kernel)) ggX8_copy_X8_changes
theorem dX8_copy_32 : decode cX8_copy 32 = .ok (.iconst 0, 1) := by decide +kernel
theorem dX8_copy_34 : decode cX8_copy 34 = .ok (.iload_n 3, 1) := by decide +kernel
theorem dX8_copy_35 : decode cX8_copy 35 = .ok (.bipush 33, 2) := by decide +kernel
theorem dX8_copy_37 : decode cX8_copy 37 = .ok (.if_icmp .ge 31, 3) := by decide +kernel
theorem dX8_copy_68 : decode cX8_copy 68 = .ok (.aload_n 0, 1) := by decide +kernel
theorem dX8_copy_69 : decode cX8_copy 69 = .ok (.invokevirtual 205, 3) := by decide +kernel
set_option maxRecDepth 20000 in
theorem ggX8_copy_X8_full : GoodIn wsX8_copy wsX8_full := goodIn_ca (goodIn_r _ [20, 21, 22, 23, 4, 24, 1, 25, 26, 27, 28, 29, 30, 31, 32, 33, 34, 35, 36, 37, 38, 39, 40, 41, 42, 43, 44, 45, 46, 47, 48, 49, 50, 51, 52, 53, 54, 55] (by decide +kernel) (by decide +kernel)) (goodIn_sub (fun _ h => List.mem_cons_of_mem _ (List.mem_append_right _ h)) (by decide +kernel))
set_option maxRecDepth 20000 in
theorem gX8_copy_X8_full : GoodIn wsX8_copy (wsV RX8 205 RX8 yX8_full wsX8_full) := goodIn_app (goodIn_of _ (by decide +kernel)) ggX8_copy_X8_full
theorem yY_X8_full : jY yX8_full wsX8_full cX8_full 3 (some .int) 0 := ⟨⟨_, rfl⟩, by decide +kernel, by decide +kernel, by decide +kernel⟩
theorem dX8_copy_72 : decode cX8_copy 72 = .ok (.ireturn, 1) := by decide +kernel
theorem dX8_copy_40 : decode cX8_copy 40 = .ok (.aload_n 0, 1) := by decide +kernel
theorem dX8_copy_41 : decode cX8_copy 41 = .ok (.getfield 9, 3) := by decide +kernel
theorem dX8_copy_44 : decode cX8_copy 44 = .ok (.bipush 33, 2) := by decide +kernel
theorem dX8_copy_46 : decode cX8_copy 46 = .ok (.iload_n 2, 1) := by decide +kernel
theorem dX8_copy_47 : decode cX8_copy 47 = .ok (.imul, 1) := by decide +kernel
theorem dX8_copy_48 : decode cX8_copy 48 = .ok (.iload_n 3, 1) := by decide +kernel
theorem dX8_copy_49 : decode cX8_copy 49 = .ok (.iadd, 1) := by decide +kernel
theorem dX8_copy_50 : decode cX8_copy 50 = .ok (.aload_n 0, 1) := by decide +kernel
theorem dX8_copy_51 : decode cX8_copy 51 = .ok (.getfield 9, 3) := by decide +kernel
theorem dX8_copy_54 : decode cX8_copy 54 = .ok (.bipush 33, 2) := by decide +kernel
theorem dX8_copy_56 : decode cX8_copy 56 = .ok (.iload_n 1, 1) := by decide +kernel
theorem dX8_copy_57 : decode cX8_copy 57 = .ok (.imul, 1) := by decide +kernel
theorem dX8_copy_58 : decode cX8_copy 58 = .ok (.iload_n 3, 1) := by decide +kernel
theorem dX8_copy_59 : decode cX8_copy 59 = .ok (.iadd, 1) := by decide +kernel
theorem dX8_copy_60 : decode cX8_copy 60 = .ok (.iaload, 1) := by decide +kernel
theorem dX8_copy_61 : decode cX8_copy 61 = .ok (.iastore, 1) := by decide +kernel
theorem dX8_copy_62 : decode cX8_copy 62 = .ok (.iinc 3 1, 3) := by decide +kernel
theorem dX8_copy_65 : decode cX8_copy 65 = .ok (.goto (-31), 3) := by decide +kernel
theorem dX8_copy_33 : decode cX8_copy 33 = .ok (.istore_n 3, 1) := by decide +kernel
set_option maxHeartbeats 400000 in
set_option maxRecDepth 20000 in
theorem ct_X8_copy (l : Launch) (D : va_G) (dA : Nat → ClassId) (hst : l.stackTraces = false) (M : jM) (m : Nat) (A : cA) (hA : mAb M m A) (hW : zWf (cNw A)) (s t : Int32) : jCT l D dA yX8_copy wsX8_copy (22) (420) (0) (0) 1 [.ref (m), .int (s), .int (t)] M (mRl M m [xIOOBE] (sCpy A s t).1 (sCpy A s t).2) := by
  refine jBody (cc := cX8_copy) (nL := 4) (rt := (some .int)) (ini := false) (by decide) rfl hst (Nat.le_of_ble_eq_true rfl) (by simp [Value.category]) (by intro h9; first | exact absurd h9 (by decide) | rfl) ?_
  show J l D dA RX8 cX8_copy wsX8_copy 4 false (some .int) [] (22) (420) (jF D dA (jn M) (mRl M m [xIOOBE] (sCpy A s t).1 (sCpy A s t).2) 1) (jn M) (0) (0) (M) 0 [.ref (m), .int (s), .int (t), .float 0] []
  obtain ⟨hM, hz, ⟨hKn, hK8, hKs⟩, ⟨hHs, hHz⟩, ⟨hLn, hL6, hLc⟩, hFl, ⟨hRs, hRp⟩, hCh⟩ := id hA
  obtain ⟨m1, m2, ⟨r1, r2, r3, r4, r5, r6, r7, r8, r9, r10, r11, r12, r13⟩, ⟨k1, k2, k3, k4, k5, k6, k7, k8, k9, k10, k11, k12, k13⟩, z1, z2, z3, z4, z5, z6, z7, z8, z9, z10, z11, z12, z13⟩ := id hM
  refine J_aload_n (m) dX8_copy_0 rfl rfl ?_
  refine J_iload_n dX8_copy_1 rfl rfl ?_
  refine J_calli0 (jrunS (As := [.int (s)]) (ct_X8_isSlot l D dA hst M ((s))) dX8_copy_2 yY_X8_isSlot gX8_copy_X8_isSlot rfl ⟨by omega, by omega⟩ ⟨Nat.zero_le _, Nat.zero_le _⟩ rfl (Nat.le_of_ble_eq_true rfl)) (rfl) (rfl) ?_
  refine J_if_eq dX8_copy_5 (tgt := 19) (by decide) (fun c5 => ?_) (fun c5 => ?_)
  · have c5 := jb0T c5
    refine J_iconst (x := 1) dX8_copy_19 (by decide) ?_
    refine J_calli0 (jrunV (As := [.int (1)]) (ct_X8_fails l D dA hst M m hM ((1))) dX8_copy_20 yY_X8_fails gX8_copy_X8_fails rfl cs11 (show m < jn M from by omega) m2 rfl ⟨by omega, by omega⟩ ⟨Nat.zero_le _, Nat.zero_le _⟩ rfl (Nat.le_of_ble_eq_true rfl)) (rfl) (rfl) ?_
    refine J_if_eq dX8_copy_23 (tgt := 28) (by decide) (fun c23 => ?_) (fun c23 => ?_)
    · exact absurd c23 (by decide)
    · have c23 := jeqF (a := 1) (b := 0) (by omega) (by omega) c23
      refine J_iconst (x := 0) dX8_copy_26 (by decide) ?_
      exact J_iret (ty := .int) dX8_copy_27 rfl (rfl) (by first | (rw [cpy_f1 c5]; exact ⟨mAg.x 0 xIOOBE rfl (by decide) ji_Sis rfl, (hA).si rfl, (mFr.rf).si ⟨by omega, by omega⟩, _, rfl⟩) | (rw [cpy_f2 c5 c12]; exact ⟨mAg.x 0 xIOOBE rfl (by decide) ji_Sis rfl, (hA).si rfl, (mFr.rf).si ⟨by omega, by omega⟩, _, rfl⟩))
  · have c5 := jb0F c5
    refine J_iload_n dX8_copy_8 rfl rfl ?_
    refine J_calli0 (jrunS (As := [.int (t)]) (ct_X8_isSlot l D dA hst M ((t))) dX8_copy_9 yY_X8_isSlot gX8_copy_X8_isSlot rfl ⟨by omega, by omega⟩ ⟨Nat.zero_le _, Nat.zero_le _⟩ rfl (Nat.le_of_ble_eq_true rfl)) (rfl) (rfl) ?_
    refine J_if_eq dX8_copy_12 (tgt := 19) (by decide) (fun c12 => ?_) (fun c12 => ?_)
    · have c12 := jb0T c12
      refine J_iconst (x := 1) dX8_copy_19 (by decide) ?_
      refine J_calli0 (jrunV (As := [.int (1)]) (ct_X8_fails l D dA hst M m hM ((1))) dX8_copy_20 yY_X8_fails gX8_copy_X8_fails rfl cs11 (show m < jn M from by omega) m2 rfl ⟨by omega, by omega⟩ ⟨Nat.zero_le _, Nat.zero_le _⟩ rfl (Nat.le_of_ble_eq_true rfl)) (rfl) (rfl) ?_
      refine J_if_eq dX8_copy_23 (tgt := 28) (by decide) (fun c23 => ?_) (fun c23 => ?_)
      · exact absurd c23 (by decide)
      · have c23 := jeqF (a := 1) (b := 0) (by omega) (by omega) c23
        refine J_iconst (x := 0) dX8_copy_26 (by decide) ?_
        exact J_iret (ty := .int) dX8_copy_27 rfl (rfl) (by first | (rw [cpy_f1 c5]; exact ⟨mAg.x 0 xIOOBE rfl (by decide) ji_Sis rfl, (hA).si rfl, (mFr.rf).si ⟨by omega, by omega⟩, _, rfl⟩) | (rw [cpy_f2 c5 c12]; exact ⟨mAg.x 0 xIOOBE rfl (by decide) ji_Sis rfl, (hA).si rfl, (mFr.rf).si ⟨by omega, by omega⟩, _, rfl⟩))
    · have c12 := jb0F c12
      refine J_iconst (x := 0) dX8_copy_15 (by decide) ?_
      refine J_goto (tgt := 20) dX8_copy_16 (by decide) ?_
      refine J_calli0 (jrunV (As := [.int (0)]) (ct_X8_fails l D dA hst M m hM ((0))) dX8_copy_20 yY_X8_fails gX8_copy_X8_fails rfl cs11 (show m < jn M from by omega) m2 rfl ⟨by omega, by omega⟩ ⟨Nat.zero_le _, Nat.zero_le _⟩ rfl (Nat.le_of_ble_eq_true rfl)) (rfl) (rfl) ?_
      refine J_if_eq dX8_copy_23 (tgt := 28) (by decide) (fun c23 => ?_) (fun c23 => ?_)
      · have c23 := jeqT (a := 0) (b := 0) (by omega) (by omega) c23
        obtain ⟨k, hk, rfl⟩ := okSlot_of c5
        obtain ⟨q, hq, rfl⟩ := okSlot_of c12
        refine J_aload_n (m) dX8_copy_28 rfl rfl ?_
        refine J_callv (jrunV (As := []) (ct_X8_changes l D dA hst (jSi M m 11 ((0))) m A ((hA).si rfl)) dX8_copy_29 yY_X8_changes gX8_copy_X8_changes rfl cs11 (show m < jn M from by omega) m2 rfl ⟨by omega, by omega⟩ ⟨Nat.zero_le _, Nat.zero_le _⟩ rfl (Nat.le_of_ble_eq_true rfl)) ⟨Nat.zero_le _, Nat.zero_le _⟩ (Or.inr ⟨(jOk.ref (show m < jn M from by omega) (jOk.int (jOk.int (jOk.float jOk.nil)))), jOk.nil⟩) (fun E M9 hp _ => by cases hp.1) (fun K hp29 hle29 => ?_)
        obtain ⟨_, hB, hF1, hR1, hS1⟩ := hp29
        obtain ⟨Km1, Km2, ⟨Kr1, Kr2, Kr3, Kr4, Kr5, Kr6, Kr7, Kr8, Kr9, Kr10, Kr11, Kr12, Kr13⟩, ⟨Kk1, Kk2, Kk3, Kk4, Kk5, Kk6, Kk7, Kk8, Kk9, Kk10, Kk11, Kk12, Kk13⟩, Kz1, Kz2, Kz3, Kz4, Kz5, Kz6, Kz7, Kz8, Kz9, Kz10, Kz11, Kz12, Kz13⟩ := id hB.1
        refine J_iconst (x := 0) dX8_copy_32 (by decide) ?_
        refine J_mem (M' := jSv K (m + 1) (mCp (ji K (m + 1)) (33 * q) (fun i => ji K (m + 1) (33 * k + i)) 0)) (by rw [mCp_0]; exact (jSv_self _ _).symm) ?_
        have hxk : mSlot (ji K (m + 1)) (33 * k) ((cNw A).1 k) := hB.z.at0 hk
        have L34 : ∀ (fuel : Nat) (j : Nat) (hj : j ≤ 33), 33 - j < fuel → J l D dA RX8 cX8_copy wsX8_copy 4 false (some .int) [] (22) (420) (jF D dA (jn M) (mRl M m [xIOOBE] (sCpy A (nI k) (nI q)).1 (sCpy A (nI k) (nI q)).2) 1) (jn M) (0) (0) ((jSv K (m + 1) (mCp (ji K (m + 1)) (33 * q) (fun i => ji K (m + 1) (33 * k + i)) j))) 34 [.ref (m), .int (nI (k)), .int (nI (q)), .int (nI (j))] [] := by
          intro fuel
          induction fuel with
          | zero => intro j hj hm; exact absurd hm (Nat.not_lt_zero _)
          | succ fuel ih34 =>
            intro j hj hm34
            refine J_iload_n dX8_copy_34 rfl rfl ?_
            refine J_bipush (x := 33) dX8_copy_35 (by decide) ?_
            refine J_icmp_ge dX8_copy_37 (tgt := 68) (by decide) (fun c37 => ?_) (fun c37 => ?_)
            · have c37 := jleT (a := 33) (b := j) (by omega) (by omega) c37
              refine J_mem (M' := jSv K (m + 1) (mCp (ji K (m + 1)) (33 * q) (fun i => ji K (m + 1) (33 * k + i)) 33)) (by rw [show j = 33 from by omega]) ?_
              have hB2 : mAb (jSv K (m + 1) (mCp (ji K (m + 1)) (33 * q) (fun i => ji K (m + 1) (33 * k + i)) 33)) m (cPut A q ((cNw A).1 k)) := hB.set hq hxk.row
              refine J_aload_n (m) dX8_copy_68 rfl rfl ?_
              refine J_calli0 (jrunV (As := []) (ct_X8_full l D dA hst (jSv K (m + 1) (mCp (ji K (m + 1)) (33 * q) (fun i => ji K (m + 1) (33 * k + i)) 33)) m hB2.1 (cNw (cPut A q ((cNw A).1 k))) hB2.z) dX8_copy_69 yY_X8_full gX8_copy_X8_full rfl cs11 (show m < jn K from by omega) Km2 rfl ⟨by omega, by omega⟩ ⟨Nat.zero_le _, Nat.zero_le _⟩ rfl (Nat.le_of_ble_eq_true rfl)) (rfl) (rfl) ?_
              exact J_iret (ty := .int) dX8_copy_72 rfl (rfl) (by rw [cpy_t c5 c12, nI_clamp (by omega), cAt_n hk]; refine ⟨Or.inl ⟨?_, rfl⟩, hB2, (mFr.rf.si ⟨by omega, by omega⟩).tr (hF1.sv ⟨by omega, by omega⟩), _, rfl⟩; rw [ji_Svn (by omega), hS1 11 (by decide)]; exact ji_Sis)
            · have c37 := jleF (a := 33) (b := j) (by omega) (by omega) c37
              refine J_aload_n (m) dX8_copy_40 rfl rfl ?_
              refine J_getrs (q := m + 1) Kr1 dX8_copy_41 (fun _ h => List.mem_cons_of_mem _ (List.mem_append_left _ (List.mem_append_right _ (h)))) cs11 (by decide) rfl (List.mem_of_getElem? (i := 1) rfl) rfl (show m < jn K from by omega) Km2 ?_
              refine J_bipush (x := 33) dX8_copy_44 (by decide) ?_
              refine J_iload_n dX8_copy_46 rfl rfl ?_
              refine J_imul dX8_copy_47 ?_
              refine J_topi (y := nI (33 * q)) (pk_mul (33) (q)) ?_
              refine J_iload_n dX8_copy_48 rfl rfl ?_
              refine J_iadd dX8_copy_49 ?_
              refine J_topi (y := nI (33 * q + j)) (nI_add (33 * q) (j)) ?_
              refine J_aload_n (m) dX8_copy_50 rfl rfl ?_
              refine J_getrs (q := m + 1) Kr1 dX8_copy_51 (fun _ h => List.mem_cons_of_mem _ (List.mem_append_left _ (List.mem_append_right _ (h)))) cs11 (by decide) rfl (List.mem_of_getElem? (i := 1) rfl) rfl (show m < jn K from by omega) Km2 ?_
              refine J_bipush (x := 33) dX8_copy_54 (by decide) ?_
              refine J_iload_n dX8_copy_56 rfl rfl ?_
              refine J_imul dX8_copy_57 ?_
              refine J_topi (y := nI (33 * k)) (pk_mul (33) (k)) ?_
              refine J_iload_n dX8_copy_58 rfl rfl ?_
              refine J_iadd dX8_copy_59 ?_
              refine J_topi (y := nI (33 * k + j)) (nI_add (33 * k) (j)) ?_
              refine J_ialdN (k := 33 * k + j) dX8_copy_60 (show m + 1 < jn K from by omega) Kk1 (by exact Nat.lt_of_lt_of_eq (show _ < 427 by omega) (Eq.symm Kz1)) (by exact Nat.lt_of_le_of_lt (Nat.le_of_eq Kz1) (show 427 < 2 ^ 31 by omega)) ?_
              refine J_topi (y := (ji K (m + 1) (33 * k + j))) (by rw [ji_Sv, if_pos rfl]; exact mCp_out (by omega)) ?_
              refine J_iastN (k := 33 * q + j) dX8_copy_61 (show m + 1 < jn K from by omega) Kk1 (by exact Nat.lt_of_lt_of_eq (show _ < 427 by omega) (Eq.symm Kz1)) (by exact Nat.lt_of_le_of_lt (Nat.le_of_eq Kz1) (show 427 < 2 ^ 31 by omega)) ?_
              refine J_mem (M' := jSv K (m + 1) (mCp (ji K (m + 1)) (33 * q) (fun i => ji K (m + 1) (33 * k + i)) (j + 1))) (by exact (jSi_Sv _ _ _ _ _).trans (congrArg (jSv K (m + 1)) mCp_s)) ?_
              refine J_iinc (y := nI (j + 1)) (lv' := [.ref (m), .int (nI (k)), .int (nI (q)), .int (nI (j + 1))]) dX8_copy_62 rfl (jinc (j)) (by decide) rfl rfl ?_
              refine J_goto (tgt := 34) dX8_copy_65 (by decide) ?_
              exact ih34 (j + 1) (by omega) (by omega)
        refine J_istore_n (lv' := [.ref (m), .int (nI (k)), .int (nI (q)), .int (0)]) dX8_copy_33 rfl (by decide) rfl rfl ?_
        exact L34 _ (0) (by omega) (Nat.lt_succ_self _)
      · exact absurd c23 (by decide)

