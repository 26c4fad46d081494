theorem mAb.set {K : jM} {m k : Nat} {B : cA} {x : Option rVl} {G : Nat → Int32} (h : mAb K m B) (hk : k < 12) (hx : mSlot G 0 x) : mAb (jSv K (m + 1) (mCp (ji K (m + 1)) (33 * k) G 33)) m (cSet B k x) := by
  have hR : ∀ i, i ≠ 1 → ji (jSv K (m + 1) (mCp (ji K (m + 1)) (33 * k) G 33)) (m + i) = ji K (m + i) := fun i hi => funext fun j => ji_Svn (by omega)
  have hS : ∀ f, ji (jSv K (m + 1) (mCp (ji K (m + 1)) (33 * k) G 33)) m f = ji K m f := fun f => ji_Svn (by omega)
  have h1 : ji (jSv K (m + 1) (mCp (ji K (m + 1)) (33 * k) G 33)) (m + 1) = mCp (ji K (m + 1)) (33 * k) G 33 := funext fun j => by rw [ji_Sv, if_pos rfl]
  have hO : mOk (jSv K (m + 1) (mCp (ji K (m + 1)) (33 * k) G 33)) m := h.1
  generalize jSv K (m + 1) (mCp (ji K (m + 1)) (33 * k) G 33) = N at hR hS h1 hO ⊢
  obtain ⟨a1, a2, a3, a4, a5, a6, a7, a8⟩ := h
  have hC : mCh N m (cCh B) := by
    cases hc : cCh B with
    | none => rw [hc] at a8; exact (hS 10).trans a8
    | some w => rw [hc] at a8; exact ⟨(hS 10).trans a8.1, a8.2.1, fun j hj => by rw [hR 5 (by decide)]; exact a8.2.2 j hj⟩
  refine ⟨hO, ?_, ?_, ?_, ?_, ?_, ?_, hC⟩
  · rw [h1]
    obtain ⟨s1, s2, s3, s4⟩ := a2
    refine ⟨fun j hj => ?_, ?_, s3, fun i hi => ?_⟩
    · show mSlot _ _ (if j = k then x else (cNw B).1 j)
      by_cases hjk : j = k
      · subst hjk
        rw [if_pos rfl]
        exact hx.cong (fun i hi => by rw [Nat.zero_add, mCp_in hi, Nat.zero_add])
      · rw [if_neg hjk]
        exact (s1 j hj).cong (fun i hi => by rw [mCp_out (by omega)])
    · rw [mCp_out (by omega)]; exact s2
    · have h30 : i < 30 := Nat.lt_of_lt_of_le hi s3
      rw [mCp_out (by omega)]; exact s4 i hi
  · rw [hR 2 (by decide), hS 4]; exact a3
  · rw [hR 3 (by decide), hS 3]; exact a4
  · rw [hR 4 (by decide), hS 6]; exact a5
  · rw [hS 7]; exact a6
  · rw [hS 8]; exact a7
def mTk (h : Nat → Int32) (n : Nat) : Nat → Int32 := fun i => if i = 0 ∨ i ≤ 2 * n then h i else 0
theorem mTk_sl {h : Nat → Int32} {w : rVl} (hx : mSlot h 0 (some w)) : mSlot (mTk h w.1) 0 (some w) := by
  refine ⟨?_, hx.2.1, fun i hi => ?_⟩
  · unfold mTk; rw [if_pos (Or.inl rfl)]; exact hx.1
  · unfold mTk; rw [if_pos (Or.inr (by omega))]; exact hx.2.2 i hi
def mLy (M : jM) (m : Nat) (A : cA) (k : Nat) (w : rVl) : jP := fun o M1 => o = oI (nI w.1) ∧ mAb M1 m (cPut A k (some w)) ∧ mFr m M M1 ∧ ji M1 m 11 = ji M m 11
theorem mHd {K : jM} {m : Nat} {w : rVl} {g : Nat → Int32} (hx : mSlot (ji K (m + 6)) 0 (some w)) : ji (jSv K (m + 1) g) (m + 6) 0 = nI w.1 := by rw [ji_Svn (by omega)]; exact hx.1
theorem dX8_lays_0 : decode cX8_lays 0 = .ok (.aload_n 0, 1) := by decide +kernel
theorem dX8_lays_1 : decode cX8_lays 1 = .ok (.invokevirtual 79, 3) := by decide +kernel
set_option maxRecDepth 20000 in
theorem ggX8_lays_X8_changes : GoodIn wsX8_lays wsX8_changes := goodIn_ca (goodIn_r _ [7, 8, 9, 1, 10, 11, 12, 13, 14, 15, 16, 17, 18, 19, 20, 21, 22, 23, 24, 25, 26, 27, 28, 29, 30, 31, 32, 33, 34, 35, 36, 37, 38, 39, 40] (by decide +kernel) (by decide +kernel)) (goodIn_sub (fun _ h => List.mem_cons_of_mem _ (List.mem_append_right _ h)) (by decide +kernel))
set_option maxRecDepth 20000 in
theorem gX8_lays_X8_changes : GoodIn wsX8_lays (wsV RX8 79 RX8 yX8_changes wsX8_changes) := goodIn_app (goodIn_of _ (by decide +kernel)) ggX8_lays_X8_changes
theorem yY_X8_changes : jY yX8_changes wsX8_changes cX8_changes 2 none 0 := ⟨⟨_, rfl⟩, by decide +kernel, by decide +kernel, by decide +kernel⟩
theorem dX8_lays_4 : decode cX8_lays 4 = .ok (.iconst 0, 1) := by decide +kernel
theorem dX8_lays_6 : decode cX8_lays 6 = .ok (.iload_n 2, 1) := by decide +kernel
theorem dX8_lays_7 : decode cX8_lays 7 = .ok (.bipush 33, 2) := by decide +kernel
theorem dX8_lays_9 : decode cX8_lays 9 = .ok (.if_icmp .ge 46, 3) := by decide +kernel
theorem dX8_lays_55 : decode cX8_lays 55 = .ok (.aload_n 0, 1) := by decide +kernel
theorem dX8_lays_56 : decode cX8_lays 56 = .ok (.getfield 32, 3) := by decide +kernel
theorem dX8_lays_59 : decode cX8_lays 59 = .ok (.iconst 0, 1) := by decide +kernel
theorem dX8_lays_60 : decode cX8_lays 60 = .ok (.iaload, 1) := by decide +kernel
theorem dX8_lays_61 : decode cX8_lays 61 = .ok (.ireturn, 1) := by decide +kernel
theorem dX8_lays_12 : decode cX8_lays 12 = .ok (.aload_n 0, 1) := by decide +kernel
theorem dX8_lays_13 : decode cX8_lays 13 = .ok (.getfield 9, 3) := by decide +kernel
theorem dX8_lays_16 : decode cX8_lays 16 = .ok (.bipush 33, 2) := by decide +kernel
theorem dX8_lays_18 : decode cX8_lays 18 = .ok (.iload_n 1, 1) := by decide +kernel
theorem dX8_lays_19 : decode cX8_lays 19 = .ok (.imul, 1) := by decide +kernel
theorem dX8_lays_20 : decode cX8_lays 20 = .ok (.iload_n 2, 1) := by decide +kernel
theorem dX8_lays_21 : decode cX8_lays 21 = .ok (.iadd, 1) := by decide +kernel
theorem dX8_lays_22 : decode cX8_lays 22 = .ok (.iload_n 2, 1) := by decide +kernel
theorem dX8_lays_23 : decode cX8_lays 23 = .ok (.ifCond .eq 15, 3) := by decide +kernel
theorem dX8_lays_38 : decode cX8_lays 38 = .ok (.aload_n 0, 1) := by decide +kernel
theorem dX8_lays_39 : decode cX8_lays 39 = .ok (.getfield 32, 3) := by decide +kernel
theorem dX8_lays_42 : decode cX8_lays 42 = .ok (.iload_n 2, 1) := by decide +kernel
theorem dX8_lays_43 : decode cX8_lays 43 = .ok (.iaload, 1) := by decide +kernel
theorem dX8_lays_44 : decode cX8_lays 44 = .ok (.goto 4, 3) := by decide +kernel
theorem dX8_lays_48 : decode cX8_lays 48 = .ok (.iastore, 1) := by decide +kernel
theorem dX8_lays_49 : decode cX8_lays 49 = .ok (.iinc 2 1, 3) := by decide +kernel
theorem dX8_lays_52 : decode cX8_lays 52 = .ok (.goto (-46), 3) := by decide +kernel
theorem dX8_lays_26 : decode cX8_lays 26 = .ok (.iload_n 2, 1) := by decide +kernel
theorem dX8_lays_27 : decode cX8_lays 27 = .ok (.iconst 2, 1) := by decide +kernel
theorem dX8_lays_28 : decode cX8_lays 28 = .ok (.aload_n 0, 1) := by decide +kernel
theorem dX8_lays_29 : decode cX8_lays 29 = .ok (.getfield 32, 3) := by decide +kernel
theorem dX8_lays_32 : decode cX8_lays 32 = .ok (.iconst 0, 1) := by decide +kernel
theorem dX8_lays_33 : decode cX8_lays 33 = .ok (.iaload, 1) := by decide +kernel
theorem dX8_lays_34 : decode cX8_lays 34 = .ok (.imul, 1) := by decide +kernel
theorem dX8_lays_35 : decode cX8_lays 35 = .ok (.if_icmp .gt 12, 3) := by decide +kernel
theorem dX8_lays_47 : decode cX8_lays 47 = .ok (.iconst 0, 1) := by decide +kernel
theorem dX8_lays_5 : decode cX8_lays 5 = .ok (.istore_n 2, 1) := by decide +kernel
set_option maxHeartbeats 400000 in
set_option maxRecDepth 20000 in
theorem ct_X8_lays (l : Launch) (D : va_G) (dA : Nat → ClassId) (hst : l.stackTraces = false) (M : jM) (m : Nat) (A : cA) (hA : mAb M m A) (k : Nat) (hk : k < 12) (w : rVl) (hx : mSlot (ji M (m + 6)) 0 (some w)) : jCT l D dA yX8_lays wsX8_lays (21) (360) (0) (0) 1 [.ref (m), .int (nI (k))] M (mLy M m A k w) := by
  refine jBody (cc := cX8_lays) (nL := 3) (rt := (some .int)) (ini := false) (by decide) rfl hst (Nat.le_of_ble_eq_true rfl) (by simp [Value.category]) (by intro h9; first | exact absurd h9 (by decide) | rfl) ?_
  show J l D dA RX8 cX8_lays wsX8_lays 3 false (some .int) [] (21) (360) (jF D dA (jn M) (mLy M m A k w) 1) (jn M) (0) (0) (M) 0 [.ref (m), .int (nI (k)), .float 0] []
  obtain ⟨hM, hz, ⟨hKn, hK8, hKs⟩, ⟨hHs, hHz⟩, ⟨hLn, hL6, hLc⟩, hFl, ⟨hRs, hRp⟩, hCh⟩ := id hA
  obtain ⟨m1, m2, ⟨r1, r2, r3, r4, r5, r6, r7, r8, r9, r10, r11, r12, r13⟩, ⟨k1, k2, k3, k4, k5, k6, k7, k8, k9, k10, k11, k12, k13⟩, z1, z2, z3, z4, z5, z6, z7, z8, z9, z10, z11, z12, z13⟩ := id hM
  have h16 := hx.2.1
  refine J_aload_n (m) dX8_lays_0 rfl rfl ?_
  refine J_callv (jrunV (As := []) (ct_X8_changes l D dA hst M m A (hA)) dX8_lays_1 yY_X8_changes gX8_lays_X8_changes rfl cs11 (show m < jn M from by omega) m2 rfl ⟨by omega, by omega⟩ ⟨Nat.zero_le _, Nat.zero_le _⟩ rfl (Nat.le_of_ble_eq_true rfl)) ⟨Nat.zero_le _, Nat.zero_le _⟩ (Or.inr ⟨(jOk.ref (show m < jn M from by omega) (jOk.int (jOk.float jOk.nil))), jOk.nil⟩) (fun E M9 hp _ => by cases hp.1) (fun K hp1 hle1 => ?_)
  obtain ⟨_, hB, hF1, hR1, hS1⟩ := hp1
  obtain ⟨Km1, Km2, ⟨Kr1, Kr2, Kr3, Kr4, Kr5, Kr6, Kr7, Kr8, Kr9, Kr10, Kr11, Kr12, Kr13⟩, ⟨Kk1, Kk2, Kk3, Kk4, Kk5, Kk6, Kk7, Kk8, Kk9, Kk10, Kk11, Kk12, Kk13⟩, Kz1, Kz2, Kz3, Kz4, Kz5, Kz6, Kz7, Kz8, Kz9, Kz10, Kz11, Kz12, Kz13⟩ := id hB.1
  have hxK : mSlot (ji K (m + 6)) 0 (some w) := by rw [hR1 (m + 6) (by omega) (by omega)]; exact hx
  refine J_iconst (x := 0) dX8_lays_4 (by decide) ?_
  refine J_mem (M' := jSv K (m + 1) (mCp (ji K (m + 1)) (33 * k) (mTk (ji K (m + 6)) w.1) 0)) (by rw [mCp_0]; exact (jSv_self _ _).symm) ?_
  have L6 : ∀ (fuel : Nat) (j : Nat) (hj : j ≤ 33), 33 - j < fuel → J l D dA RX8 cX8_lays wsX8_lays 3 false (some .int) [] (21) (360) (jF D dA (jn M) (mLy M m A k w) 1) (jn M) (0) (0) ((jSv K (m + 1) (mCp (ji K (m + 1)) (33 * k) (mTk (ji K (m + 6)) w.1) j))) 6 [.ref (m), .int (nI (k)), .int (nI (j))] [] := by
    intro fuel
    induction fuel with
    | zero => intro j hj hm; exact absurd hm (Nat.not_lt_zero _)
    | succ fuel ih6 =>
      intro j hj hm6
      refine J_iload_n dX8_lays_6 rfl rfl ?_
      refine J_bipush (x := 33) dX8_lays_7 (by decide) ?_
      refine J_icmp_ge dX8_lays_9 (tgt := 55) (by decide) (fun c9 => ?_) (fun c9 => ?_)
      · have c9 := jleT (a := 33) (b := j) (by omega) (by omega) c9
        refine J_aload_n (m) dX8_lays_55 rfl rfl ?_
        refine J_getrs (q := m + 6) Kr6 dX8_lays_56 (fun _ h => List.mem_cons_of_mem _ (List.mem_append_left _ (List.mem_append_right _ (h)))) cs11 (by decide) rfl (List.mem_of_getElem? (i := 2) rfl) rfl (show m < jn K from by omega) Km2 ?_
        refine J_iconst (x := 0) dX8_lays_59 (by decide) ?_
        refine J_ialdN (k := 0) dX8_lays_60 (show m + 6 < jn K from by omega) Kk6 (by exact Nat.lt_of_lt_of_eq (show _ < 2112 by omega) (Eq.symm Kz6)) (by exact Nat.lt_of_le_of_lt (Nat.le_of_eq Kz6) (show 2112 < 2 ^ 31 by omega)) ?_
        refine J_topi (y := nI (w.1)) (by exact mHd hxK) ?_
        exact J_iret (ty := .int) dX8_lays_61 rfl (rfl) (by rw [show j = 33 from by omega]; exact ⟨rfl, hB.set hk (mTk_sl hxK), hF1.sv ⟨by omega, by omega⟩, (ji_Svn (by omega)).trans (hS1 11 (by decide))⟩)
      · have c9 := jleF (a := 33) (b := j) (by omega) (by omega) c9
        refine J_aload_n (m) dX8_lays_12 rfl rfl ?_
        refine J_getrs (q := m + 1) Kr1 dX8_lays_13 (fun _ h => List.mem_cons_of_mem _ (List.mem_append_left _ (List.mem_append_right _ (h)))) cs11 (by decide) rfl (List.mem_of_getElem? (i := 1) rfl) rfl (show m < jn K from by omega) Km2 ?_
        refine J_bipush (x := 33) dX8_lays_16 (by decide) ?_
        refine J_iload_n dX8_lays_18 rfl rfl ?_
        refine J_imul dX8_lays_19 ?_
        refine J_topi (y := nI (33 * k)) (pk_mul (33) (k)) ?_
        refine J_iload_n dX8_lays_20 rfl rfl ?_
        refine J_iadd dX8_lays_21 ?_
        refine J_topi (y := nI (33 * k + j)) (nI_add (33 * k) (j)) ?_
        refine J_iload_n dX8_lays_22 rfl rfl ?_
        refine J_if_eq dX8_lays_23 (tgt := 38) (by decide) (fun c23 => ?_) (fun c23 => ?_)
        · have c23 := jeqT (a := j) (b := 0) (by omega) (by omega) c23
          refine J_aload_n (m) dX8_lays_38 rfl rfl ?_
          refine J_getrs (q := m + 6) Kr6 dX8_lays_39 (fun _ h => List.mem_cons_of_mem _ (List.mem_append_left _ (List.mem_append_right _ (h)))) cs11 (by decide) rfl (List.mem_of_getElem? (i := 2) rfl) rfl (show m < jn K from by omega) Km2 ?_
          refine J_iload_n dX8_lays_42 rfl rfl ?_
          refine J_ialdN (k := j) dX8_lays_43 (show m + 6 < jn K from by omega) Kk6 (by exact Nat.lt_of_lt_of_eq (show _ < 2112 by omega) (Eq.symm Kz6)) (by exact Nat.lt_of_le_of_lt (Nat.le_of_eq Kz6) (show 2112 < 2 ^ 31 by omega)) ?_
          refine J_goto (tgt := 48) dX8_lays_44 (by decide) ?_
          refine J_topi (y := mTk (ji K (m + 6)) w.1 j) (by unfold mTk; first | (rw [if_pos (by omega), ji_Svn (by omega)]; done) | (rw [if_neg (by omega)]; done) | (rw [if_pos (Or.inl (by omega))]; rw [ji_Svn (by omega)])) ?_
          refine J_iastN (k := 33 * k + j) dX8_lays_48 (show m + 1 < jn K from by omega) Kk1 (by exact Nat.lt_of_lt_of_eq (show _ < 427 by omega) (Eq.symm Kz1)) (by exact Nat.lt_of_le_of_lt (Nat.le_of_eq Kz1) (show 427 < 2 ^ 31 by omega)) ?_
          refine J_mem (M' := jSv K (m + 1) (mCp (ji K (m + 1)) (33 * k) (mTk (ji K (m + 6)) w.1) (j + 1))) (by exact (jSi_Sv _ _ _ _ _).trans (congrArg (jSv K (m + 1)) mCp_s)) ?_
          refine J_iinc (y := nI (j + 1)) (lv' := [.ref (m), .int (nI (k)), .int (nI (j + 1))]) dX8_lays_49 rfl (jinc (j)) (by decide) rfl rfl ?_
          refine J_goto (tgt := 6) dX8_lays_52 (by decide) ?_
          exact ih6 (j + 1) (by omega) (by omega)
        · have c23 := jeqF (a := j) (b := 0) (by omega) (by omega) c23
          refine J_iload_n dX8_lays_26 rfl rfl ?_
          refine J_iconst (x := 2) dX8_lays_27 (by decide) ?_
          refine J_aload_n (m) dX8_lays_28 rfl rfl ?_
          refine J_getrs (q := m + 6) Kr6 dX8_lays_29 (fun _ h => List.mem_cons_of_mem _ (List.mem_append_left _ (List.mem_append_right _ (h)))) cs11 (by decide) rfl (List.mem_of_getElem? (i := 2) rfl) rfl (show m < jn K from by omega) Km2 ?_
          refine J_iconst (x := 0) dX8_lays_32 (by decide) ?_
          refine J_ialdN (k := 0) dX8_lays_33 (show m + 6 < jn K from by omega) Kk6 (by exact Nat.lt_of_lt_of_eq (show _ < 2112 by omega) (Eq.symm Kz6)) (by exact Nat.lt_of_le_of_lt (Nat.le_of_eq Kz6) (show 2112 < 2 ^ 31 by omega)) ?_
          refine J_topi (y := nI (w.1)) (by exact mHd hxK) ?_
          refine J_imul dX8_lays_34 ?_
          refine J_topi (y := nI (2 * (w.1))) (pk_mul (2) (w.1)) ?_
          refine J_icmp_gt dX8_lays_35 (tgt := 47) (by decide) (fun c35 => ?_) (fun c35 => ?_)
          · have c35 := jltT (a := 2 * (w.1)) (b := j) (by omega) (by omega) c35
            refine J_iconst (x := 0) dX8_lays_47 (by decide) ?_
            refine J_topi (y := mTk (ji K (m + 6)) w.1 j) (by unfold mTk; first | (rw [if_pos (by omega), ji_Svn (by omega)]; done) | (rw [if_neg (by omega)]; done) | (rw [if_pos (Or.inl (by omega))]; rw [ji_Svn (by omega)])) ?_
            refine J_iastN (k := 33 * k + j) dX8_lays_48 (show m + 1 < jn K from by omega) Kk1 (by exact Nat.lt_of_lt_of_eq (show _ < 427 by omega) (Eq.symm Kz1)) (by exact Nat.lt_of_le_of_lt (Nat.le_of_eq Kz1) (show 427 < 2 ^ 31 by omega)) ?_
            refine J_mem (M' := jSv K (m + 1) (mCp (ji K (m + 1)) (33 * k) (mTk (ji K (m + 6)) w.1) (j + 1))) (by exact (jSi_Sv _ _ _ _ _).trans (congrArg (jSv K (m + 1)) mCp_s)) ?_
            refine J_iinc (y := nI (j + 1)) (lv' := [.ref (m), .int (nI (k)), .int (nI (j + 1))]) dX8_lays_49 rfl (jinc (j)) (by decide) rfl rfl ?_
            refine J_goto (tgt := 6) dX8_lays_52 (by decide) ?_
            exact ih6 (j + 1) (by omega) (by omega)
          · have c35 := jltF (a := 2 * (w.1)) (b := j) (by omega) (by omega) c35
            refine J_aload_n (m) dX8_lays_38 rfl rfl ?_
            refine J_getrs (q := m + 6) Kr6 dX8_lays_39 (fun _ h => List.mem_cons_of_mem _ (List.mem_append_left _ (List.mem_append_right _ (h)))) cs11 (by decide) rfl (List.mem_of_getElem? (i := 2) rfl) rfl (show m < jn K from by omega) Km2 ?_
            refine J_iload_n dX8_lays_42 rfl rfl ?_
            refine J_ialdN (k := j) dX8_lays_43 (show m + 6 < jn K from by omega) Kk6 (by exact Nat.lt_of_lt_of_eq (show _ < 2112 by omega) (Eq.symm Kz6)) (by exact Nat.lt_of_le_of_lt (Nat.le_of_eq Kz6) (show 2112 < 2 ^ 31 by omega)) ?_
            refine J_goto (tgt := 48) dX8_lays_44 (by decide) ?_
            refine J_topi (y := mTk (ji K (m + 6)) w.1 j) (by unfold mTk; first | (rw [if_pos (by omega), ji_Svn (by omega)]; done) | (rw [if_neg (by omega)]; done) | (rw [if_pos (Or.inl (by omega))]; rw [ji_Svn (by omega)])) ?_
            refine J_iastN (k := 33 * k + j) dX8_lays_48 (show m + 1 < jn K from by omega) Kk1 (by exact Nat.lt_of_lt_of_eq (show _ < 427 by omega) (Eq.symm Kz1)) (by exact Nat.lt_of_le_of_lt (Nat.le_of_eq Kz1) (show 427 < 2 ^ 31 by omega)) ?_
            refine J_mem (M' := jSv K (m + 1) (mCp (ji K (m + 1)) (33 * k) (mTk (ji K (m + 6)) w.1) (j + 1))) (by exact (jSi_Sv _ _ _ _ _).trans (congrArg (jSv K (m + 1)) mCp_s)) ?_
            refine J_iinc (y := nI (j + 1)) (lv' := [.ref (m), .int (nI (k)), .int (nI (j + 1))]) dX8_lays_49 rfl (jinc (j)) (by decide) rfl rfl ?_
            refine J_goto (tgt := 6) dX8_lays_52 (by decide) ?_
            exact ih6 (j + 1) (by omega) (by omega)
  refine J_istore_n (lv' := [.ref (m), .int (nI (k)), .int (0)]) dX8_lays_5 rfl (by decide) rfl rfl ?_
  exact L6 _ (0) (by omega) (Nat.lt_succ_self _)

theorem ji_Sis {M : jM} {a k : Nat} {x : Int32} : ji (jSi M a k x) a k = x := by rw [ji_Si, if_pos ⟨rfl, rfl⟩]
theorem sl_none {G : Nat → Int32} (h : G 0 = -1) : mSlot G 0 none := h
def mCl : Nat → Int32 := fun i => if i = 0 then -1 else 0
theorem mSlot.row {row : Nat → Int32} {p : Nat} {x : Option rVl} (h : mSlot row p x) : mSlot (fun i => row (p + i)) 0 x := h.cong (fun j _ => by rw [Nat.zero_add])
theorem isSome_n {x : Option rVl} : jb x.isSome = jb (!x.isNone) := by cases x <;> rfl
theorem dX8_clear_0 : decode cX8_clear 0 = .ok (.aload_n 0, 1) := by decide +kernel
theorem dX8_clear_1 : decode cX8_clear 1 = .ok (.iload_n 1, 1) := by decide +kernel
theorem dX8_clear_2 : decode cX8_clear 2 = .ok (.invokestatic 151, 3) := by decide +kernel
set_option maxRecDepth 20000 in
theorem ggX8_clear_X8_isSlot : GoodIn wsX8_clear wsX8_isSlot := goodIn_r _ [5] (by decide +kernel) (by decide +kernel)
set_option maxRecDepth 20000 in
theorem gX8_clear_X8_isSlot : GoodIn wsX8_clear (va_wsS RX8 151 yX8_isSlot wsX8_isSlot) := goodIn_app (goodIn_of _ (by decide +kernel)) ggX8_clear_X8_isSlot
theorem dX8_clear_5 : decode cX8_clear 5 = .ok (.ifCond .eq 7, 3) := by decide +kernel
theorem dX8_clear_12 : decode cX8_clear 12 = .ok (.iconst 1, 1) := by decide +kernel
theorem dX8_clear_13 : decode cX8_clear 13 = .ok (.invokevirtual 148, 3) := by decide +kernel
set_option maxRecDepth 20000 in
theorem ggX8_clear_X8_fails : GoodIn wsX8_clear wsX8_fails := goodIn_r _ [9, 10, 21, 22, 23, 24, 25, 26, 27, 28, 29, 30, 31, 32, 33, 34, 35, 36, 37, 38, 39, 40, 41, 42, 43, 44, 45, 46, 47, 48, 49, 50, 51] (by decide +kernel) (by decide +kernel)
set_option maxRecDepth 20000 in
theorem gX8_clear_X8_fails : GoodIn wsX8_clear (wsV RX8 148 RX8 yX8_fails wsX8_fails) := goodIn_app (goodIn_of _ (by decide +kernel)) ggX8_clear_X8_fails
theorem dX8_clear_16 : decode cX8_clear 16 = .ok (.ifCond .eq 5, 3) := by decide +kernel
theorem dX8_clear_19 : decode cX8_clear 19 = .ok (.iconst 0, 1) := by decide +kernel
theorem dX8_clear_20 : decode cX8_clear 20 = .ok (.ireturn, 1) := by decide +kernel
theorem dX8_clear_8 : decode cX8_clear 8 = .ok (.iconst 0, 1) := by decide +kernel
theorem dX8_clear_9 : decode cX8_clear 9 = .ok (.goto 4, 3) := by decide +kernel
theorem dX8_clear_21 : decode cX8_clear 21 = .ok (.aload_n 0, 1) := by decide +kernel
theorem dX8_clear_22 : decode cX8_clear 22 = .ok (.iload_n 1, 1) := by decide +kernel
theorem dX8_clear_23 : decode cX8_clear 23 = .ok (.invokevirtual 188, 3) := by decide +kernel
set_option maxRecDepth 20000 in
theorem ggX8_clear_X8_isEmpty : GoodIn wsX8_clear wsX8_isEmpty := goodIn_ca (goodIn_r _ [14, 1, 21, 22, 23, 24, 25, 26, 27, 28, 29, 30, 31, 32, 33, 34, 35, 36, 37, 38, 39, 40, 41, 42, 43, 44, 45, 46, 47, 48, 49, 50, 51] (by decide +kernel) (by decide +kernel)) (goodIn_sub (fun _ h => List.mem_cons_of_mem _ (List.mem_append_right _ h)) (by decide +kernel))
set_option maxRecDepth 20000 in
theorem gX8_clear_X8_isEmpty : GoodIn wsX8_clear (wsV RX8 188 RX8 yX8_isEmpty wsX8_isEmpty) := goodIn_app (goodIn_of _ (by decide +kernel)) ggX8_clear_X8_isEmpty
theorem dX8_clear_26 : decode cX8_clear 26 = .ok (.ifCond .ne 7, 3) := by decide +kernel
theorem dX8_clear_33 : decode cX8_clear 33 = .ok (.iconst 0, 1) := by decide +kernel
theorem dX8_clear_34 : decode cX8_clear 34 = .ok (.istore_n 2, 1) := by decide +kernel
theorem dX8_clear_35 : decode cX8_clear 35 = .ok (.aload_n 0, 1) := by decide +kernel
theorem dX8_clear_36 : decode cX8_clear 36 = .ok (.invokevirtual 79, 3) := by decide +kernel
set_option maxRecDepth 20000 in
theorem ggX8_clear_X8_changes : GoodIn wsX8_clear wsX8_changes := goodIn_ca (goodIn_r _ [18, 19, 20, 1, 21, 22, 23, 24, 25, 26, 27, 28, 29, 30, 31, 32, 33, 34, 35, 36, 37, 38, 39, 40, 41, 42, 43, 44, 45, 46, 47, 48, 49, 50, 51] (by decide +kernel) (by decide +kernel)) (goodIn_sub (fun _ h => List.mem_cons_of_mem _ (List.mem_append_right _ h)) (by decide +kernel))
set_option maxRecDepth 20000 in
theorem gX8_clear_X8_changes : GoodIn wsX8_clear (wsV RX8 79 RX8 yX8_changes wsX8_changes) := goodIn_app (goodIn_of _ (by decide +kernel)) ggX8_clear_X8_changes
theorem dX8_clear_41 : decode cX8_clear 41 = .ok (.iload_n 3, 1) := by decide +kernel
theorem dX8_clear_42 : decode cX8_clear 42 = .ok (.bipush 33, 2) := by decide +kernel
theorem dX8_clear_44 : decode cX8_clear 44 = .ok (.if_icmp .ge 29, 3) := by decide +kernel
theorem dX8_clear_73 : decode cX8_clear 73 = .ok (.iload_n 2, 1) := by decide +kernel
theorem dX8_clear_74 : decode cX8_clear 74 = .ok (.ireturn, 1) := by decide +kernel
theorem dX8_clear_47 : decode cX8_clear 47 = .ok (.aload_n 0, 1) := by decide +kernel
theorem dX8_clear_48 : decode cX8_clear 48 = .ok (.getfield 9, 3) := by decide +kernel
theorem dX8_clear_51 : decode cX8_clear 51 = .ok (.bipush 33, 2) := by decide +kernel
theorem dX8_clear_53 : decode cX8_clear 53 = .ok (.iload_n 1, 1) := by decide +kernel
theorem dX8_clear_54 : decode cX8_clear 54 = .ok (.imul, 1) := by decide +kernel
theorem dX8_clear_55 : decode cX8_clear 55 = .ok (.iload_n 3, 1) := by decide +kernel
theorem dX8_clear_56 : decode cX8_clear 56 = .ok (.iadd, 1) := by decide +kernel
theorem dX8_clear_57 : decode cX8_clear 57 = .ok (.iload_n 3, 1) := by decide +kernel
theorem dX8_clear_58 : decode cX8_clear 58 = .ok (.ifCond .ne 7, 3) := by decide +kernel
theorem dX8_clear_65 : decode cX8_clear 65 = .ok (.iconst 0, 1) := by decide +kernel
theorem dX8_clear_66 : decode cX8_clear 66 = .ok (.iastore, 1) := by decide +kernel
theorem dX8_clear_67 : decode cX8_clear 67 = .ok (.iinc 3 1, 3) := by decide +kernel
theorem dX8_clear_70 : decode cX8_clear 70 = .ok (.goto (-29), 3) := by decide +kernel
theorem dX8_clear_61 : decode cX8_clear 61 = .ok (.iconst (-1), 1) := by decide +kernel
theorem dX8_clear_62 : decode cX8_clear 62 = .ok (.goto 4, 3) := by decide +kernel
theorem dX8_clear_39 : decode cX8_clear 39 = .ok (.iconst 0, 1) := by decide +kernel
theorem dX8_clear_40 : decode cX8_clear 40 = .ok (.istore_n 3, 1) := by decide +kernel
theorem dX8_clear_29 : decode cX8_clear 29 = .ok (.iconst 1, 1) := by decide +kernel
theorem dX8_clear_30 : decode cX8_clear 30 = .ok (.goto 4, 3) := by decide +kernel
set_option maxHeartbeats 400000 in
set_option maxRecDepth 20000 in
theorem ct_X8_clear (l : Launch) (D : va_G) (dA : Nat → ClassId) (hst : l.stackTraces = false) (M : jM) (m : Nat) (A : cA) (hA : mAb M m A) (hW : zWf (cNw A)) (s : Int32) : jCT l D dA yX8_clear wsX8_clear (22) (420) (0) (0) 1 [.ref (m), .int (s)] M (mRl M m [xIOOBE] (sClr A s).1 (sClr A s).2) := by
  refine jBody (cc := cX8_clear) (nL := 4) (rt := (some .boolean)) (ini := false) (by decide) rfl hst (Nat.le_of_ble_eq_true rfl) (by simp [Value.category]) (by intro h9; first | exact absurd h9 (by decide) | rfl) ?_
  show J l D dA RX8 cX8_clear wsX8_clear 4 false (some .boolean) [] (22) (420) (jF D dA (jn M) (mRl M m [xIOOBE] (sClr A s).1 (sClr A s).2) 1) (jn M) (0) (0) (M) 0 [.ref (m), .int (s), .float 0, .float 0] []
  obtain ⟨hM, hz, ⟨hKn, hK8, hKs⟩, ⟨hHs, hHz⟩, ⟨hLn, hL6, hLc⟩, hFl, ⟨hRs, hRp⟩, hCh⟩ := id hA
  obtain ⟨m1, m2, ⟨r1, r2, r3, r4, r5, r6, r7, r8, r9, r10, r11, r12, r13⟩, ⟨k1, k2, k3, k4, k5, k6, k7, k8, k9, k10, k11, k12, k13⟩, z1, z2, z3, z4, z5, z6, z7, z8, z9, z10, z11, z12, z13⟩ := id hM
  refine J_aload_n (m) dX8_clear_0 rfl rfl ?_
  refine J_iload_n dX8_clear_1 rfl rfl ?_
  refine J_calli0 (jrunS (As := [.int (s)]) (ct_X8_isSlot l D dA hst M ((s))) dX8_clear_2 yY_X8_isSlot gX8_clear_X8_isSlot rfl ⟨by omega, by omega⟩ ⟨Nat.zero_le _, Nat.zero_le _⟩ rfl (Nat.le_of_ble_eq_true rfl)) (rfl) (rfl) ?_
  refine J_if_eq dX8_clear_5 (tgt := 12) (by decide) (fun c5 => ?_) (fun c5 => ?_)
  · have c5 := jb0T c5
    refine J_iconst (x := 1) dX8_clear_12 (by decide) ?_
    refine J_calli0 (jrunV (As := [.int (1)]) (ct_X8_fails l D dA hst M m hM ((1))) dX8_clear_13 yY_X8_fails gX8_clear_X8_fails rfl cs11 (show m < jn M from by omega) m2 rfl ⟨by omega, by omega⟩ ⟨Nat.zero_le _, Nat.zero_le _⟩ rfl (Nat.le_of_ble_eq_true rfl)) (rfl) (rfl) ?_
    refine J_if_eq dX8_clear_16 (tgt := 21) (by decide) (fun c16 => ?_) (fun c16 => ?_)
    · exact absurd c16 (by decide)
    · have c16 := jeqF (a := 1) (b := 0) (by omega) (by omega) c16
      refine J_iconst (x := 0) dX8_clear_19 (by decide) ?_
      exact J_iret (ty := .boolean) dX8_clear_20 rfl (by rfl) (by unfold sClr; rw [sSl_f c5]; exact ⟨mAg.x 0 xIOOBE rfl (by decide) ji_Sis rfl, (hA).si rfl, (mFr.rf).si ⟨by omega, by omega⟩, _, rfl⟩)
  · have c5 := jb0F c5
    refine J_iconst (x := 0) dX8_clear_8 (by decide) ?_
    refine J_goto (tgt := 13) dX8_clear_9 (by decide) ?_
    refine J_calli0 (jrunV (As := [.int (0)]) (ct_X8_fails l D dA hst M m hM ((0))) dX8_clear_13 yY_X8_fails gX8_clear_X8_fails rfl cs11 (show m < jn M from by omega) m2 rfl ⟨by omega, by omega⟩ ⟨Nat.zero_le _, Nat.zero_le _⟩ rfl (Nat.le_of_ble_eq_true rfl)) (rfl) (rfl) ?_
    refine J_if_eq dX8_clear_16 (tgt := 21) (by decide) (fun c16 => ?_) (fun c16 => ?_)
    · have c16 := jeqT (a := 0) (b := 0) (by omega) (by omega) c16
      obtain ⟨k, hk, rfl⟩ := okSlot_of c5
      refine J_aload_n (m) dX8_clear_21 rfl rfl ?_
      refine J_iload_n dX8_clear_22 rfl rfl ?_
      refine J_calli0 (jrunV (As := [.int (nI (k))]) (ct_X8_isEmpty l D dA hst (jSi M m 11 ((0))) m hM k hk ((cNw A).1 k) (((hz.at0 hk)).si (by omega))) dX8_clear_23 yY_X8_isEmpty gX8_clear_X8_isEmpty rfl cs11 (show m < jn M from by omega) m2 rfl ⟨by omega, by omega⟩ ⟨Nat.zero_le _, Nat.zero_le _⟩ rfl (Nat.le_of_ble_eq_true rfl)) (rfl) (rfl) ?_
      refine J_if_ne dX8_clear_26 (tgt := 33) (by decide) (fun c26 => ?_) (fun c26 => ?_)
      · have c26 := jb0F c26
        refine J_iconst (x := 0) dX8_clear_33 (by decide) ?_
        refine J_topi (y := jb (!((cNw A).1 k).isNone)) (by rw [c26]; rfl) ?_
        refine J_istore_n (lv' := [.ref (m), .int (nI (k)), .int (jb (!((cNw A).1 k).isNone)), .float 0]) dX8_clear_34 rfl (by decide) rfl rfl ?_
        refine J_aload_n (m) dX8_clear_35 rfl rfl ?_
        refine J_callv (jrunV (As := []) (ct_X8_changes l D dA hst (jSi M m 11 ((0))) m A ((hA).si rfl)) dX8_clear_36 yY_X8_changes gX8_clear_X8_changes rfl cs11 (show m < jn M from by omega) m2 rfl ⟨by omega, by omega⟩ ⟨Nat.zero_le _, Nat.zero_le _⟩ rfl (Nat.le_of_ble_eq_true rfl)) ⟨Nat.zero_le _, Nat.zero_le _⟩ (Or.inr ⟨(jOk.ref (show m < jn M from by omega) (jOk.int (jOk.int (jOk.float jOk.nil)))), jOk.nil⟩) (fun E M9 hp _ => by cases hp.1) (fun K hp36 hle36 => ?_)
        obtain ⟨_, hB, hF1, hR1, hS1⟩ := hp36
        obtain ⟨Km1, Km2, ⟨Kr1, Kr2, Kr3, Kr4, Kr5, Kr6, Kr7, Kr8, Kr9, Kr10, Kr11, Kr12, Kr13⟩, ⟨Kk1, Kk2, Kk3, Kk4, Kk5, Kk6, Kk7, Kk8, Kk9, Kk10, Kk11, Kk12, Kk13⟩, Kz1, Kz2, Kz3, Kz4, Kz5, Kz6, Kz7, Kz8, Kz9, Kz10, Kz11, Kz12, Kz13⟩ := id hB.1
        refine J_mem (M' := jSv K (m + 1) (mCp (ji K (m + 1)) (33 * k) mCl 0)) (by rw [mCp_0]; exact (jSv_self _ _).symm) ?_
        have L41 : ∀ (fuel : Nat) (j : Nat) (hj : j ≤ 33), 33 - j < fuel → J l D dA RX8 cX8_clear wsX8_clear 4 false (some .boolean) [] (22) (420) (jF D dA (jn M) (mRl M m [xIOOBE] (sClr A (nI k)).1 (sClr A (nI k)).2) 1) (jn M) (0) (0) ((jSv K (m + 1) (mCp (ji K (m + 1)) (33 * k) mCl j))) 41 [.ref (m), .int (nI (k)), .int (jb (!((cNw A).1 k).isNone)), .int (nI (j))] [] := by
          intro fuel
          induction fuel with
          | zero => intro j hj hm; exact absurd hm (Nat.not_lt_zero _)
          | succ fuel ih41 =>
            intro j hj hm41
            refine J_iload_n dX8_clear_41 rfl rfl ?_
            refine J_bipush (x := 33) dX8_clear_42 (by decide) ?_
            refine J_icmp_ge dX8_clear_44 (tgt := 73) (by decide) (fun c44 => ?_) (fun c44 => ?_)
            · have c44 := jleT (a := 33) (b := j) (by omega) (by omega) c44
              refine J_iload_n dX8_clear_73 rfl rfl ?_
              exact J_iret (ty := .boolean) dX8_clear_74 rfl (jb_n _) (by rw [show j = 33 from by omega]; unfold sClr; rw [sSl_t c5, nI_clamp (by omega)]; refine ⟨Or.inl ⟨?_, ?_⟩, hB.set hk (sl_none rfl), (mFr.rf.si ⟨by omega, by omega⟩).tr (hF1.sv ⟨by omega, by omega⟩), _, rfl⟩; (rw [ji_Svn (by omega), hS1 11 (by decide), ji_Si, if_pos ⟨rfl, rfl⟩]); (show oI _ = _; rw [cAt_n hk, isSome_n]))
            · have c44 := jleF (a := 33) (b := j) (by omega) (by omega) c44
              refine J_aload_n (m) dX8_clear_47 rfl rfl ?_
              refine J_getrs (q := m + 1) Kr1 dX8_clear_48 (fun _ h => List.mem_cons_of_mem _ (List.mem_append_left _ (List.mem_append_right _ (h)))) cs11 (by decide) rfl (List.mem_of_getElem? (i := 1) rfl) rfl (show m < jn K from by omega) Km2 ?_
              refine J_bipush (x := 33) dX8_clear_51 (by decide) ?_
              refine J_iload_n dX8_clear_53 rfl rfl ?_
              refine J_imul dX8_clear_54 ?_
              refine J_topi (y := nI (33 * k)) (pk_mul (33) (k)) ?_
              refine J_iload_n dX8_clear_55 rfl rfl ?_
              refine J_iadd dX8_clear_56 ?_
              refine J_topi (y := nI (33 * k + j)) (nI_add (33 * k) (j)) ?_
              refine J_iload_n dX8_clear_57 rfl rfl ?_
              refine J_if_ne dX8_clear_58 (tgt := 65) (by decide) (fun c58 => ?_) (fun c58 => ?_)
              · have c58 := jeqF (a := j) (b := 0) (by omega) (by omega) c58
                refine J_iconst (x := 0) dX8_clear_65 (by decide) ?_
                refine J_topi (y := mCl j) (by unfold mCl; first | (rw [if_pos (by omega)]; done) | (rw [if_neg (by omega)]; done)) ?_
                refine J_iastN (k := 33 * k + j) dX8_clear_66 (show m + 1 < jn K from by omega) Kk1 (by exact Nat.lt_of_lt_of_eq (show _ < 427 by omega) (Eq.symm Kz1)) (by exact Nat.lt_of_le_of_lt (Nat.le_of_eq Kz1) (show 427 < 2 ^ 31 by omega)) ?_
                refine J_mem (M' := jSv K (m + 1) (mCp (ji K (m + 1)) (33 * k) mCl (j + 1))) (by exact (jSi_Sv _ _ _ _ _).trans (congrArg (jSv K (m + 1)) mCp_s)) ?_
                refine J_iinc (y := nI (j + 1)) (lv' := [.ref (m), .int (nI (k)), .int (jb (!((cNw A).1 k).isNone)), .int (nI (j + 1))]) dX8_clear_67 rfl (jinc (j)) (by decide) rfl rfl ?_
                refine J_goto (tgt := 41) dX8_clear_70 (by decide) ?_
                exact ih41 (j + 1) (by omega) (by omega)
              · have c58 := jeqT (a := j) (b := 0) (by omega) (by omega) c58
                refine J_iconst (x := (-1)) dX8_clear_61 (by decide) ?_
                refine J_goto (tgt := 66) dX8_clear_62 (by decide) ?_
                refine J_topi (y := mCl j) (by unfold mCl; first | (rw [if_pos (by omega)]; done) | (rw [if_neg (by omega)]; done)) ?_
                refine J_iastN (k := 33 * k + j) dX8_clear_66 (show m + 1 < jn K from by omega) Kk1 (by exact Nat.lt_of_lt_of_eq (show _ < 427 by omega) (Eq.symm Kz1)) (by exact Nat.lt_of_le_of_lt (Nat.le_of_eq Kz1) (show 427 < 2 ^ 31 by omega)) ?_
                refine J_mem (M' := jSv K (m + 1) (mCp (ji K (m + 1)) (33 * k) mCl (j + 1))) (by exact (jSi_Sv _ _ _ _ _).trans (congrArg (jSv K (m + 1)) mCp_s)) ?_
                refine J_iinc (y := nI (j + 1)) (lv' := [.ref (m), .int (nI (k)), .int (jb (!((cNw A).1 k).isNone)), .int (nI (j + 1))]) dX8_clear_67 rfl (jinc (j)) (by decide) rfl rfl ?_
                refine J_goto (tgt := 41) dX8_clear_70 (by decide) ?_
                exact ih41 (j + 1) (by omega) (by omega)
        refine J_iconst (x := 0) dX8_clear_39 (by decide) ?_
        refine J_istore_n (lv' := [.ref (m), .int (nI (k)), .int (jb (!((cNw A).1 k).isNone)), .int (0)]) dX8_clear_40 rfl (by decide) rfl rfl ?_
        exact L41 _ (0) (by omega) (Nat.lt_succ_self _)
      · have c26 := jb0T c26
        refine J_iconst (x := 1) dX8_clear_29 (by decide) ?_
        refine J_goto (tgt := 34) dX8_clear_30 (by decide) ?_
        refine J_topi (y := jb (!((cNw A).1 k).isNone)) (by rw [c26]; rfl) ?_
        refine J_istore_n (lv' := [.ref (m), .int (nI (k)), .int (jb (!((cNw A).1 k).isNone)), .float 0]) dX8_clear_34 rfl (by decide) rfl rfl ?_
        refine J_aload_n (m) dX8_clear_35 rfl rfl ?_
        refine J_callv (jrunV (As := []) (ct_X8_changes l D dA hst (jSi M m 11 ((0))) m A ((hA).si rfl)) dX8_clear_36 yY_X8_changes gX8_clear_X8_changes rfl cs11 (show m < jn M from by omega) m2 rfl ⟨by omega, by omega⟩ ⟨Nat.zero_le _, Nat.zero_le _⟩ rfl (Nat.le_of_ble_eq_true rfl)) ⟨Nat.zero_le _, Nat.zero_le _⟩ (Or.inr ⟨(jOk.ref (show m < jn M from by omega) (jOk.int (jOk.int (jOk.float jOk.nil)))), jOk.nil⟩) (fun E M9 hp _ => by cases hp.1) (fun K hp36 hle36 => ?_)
        obtain ⟨_, hB, hF1, hR1, hS1⟩ := hp36
        obtain ⟨Km1, Km2, ⟨Kr1, Kr2, Kr3, Kr4, Kr5, Kr6, Kr7, Kr8, Kr9, Kr10, Kr11, Kr12, Kr13⟩, ⟨Kk1, Kk2, Kk3, Kk4, Kk5, Kk6, Kk7, Kk8, Kk9, Kk10, Kk11, Kk12, Kk13⟩, Kz1, Kz2, Kz3, Kz4, Kz5, Kz6, Kz7, Kz8, Kz9, Kz10, Kz11, Kz12, Kz13⟩ := id hB.1
        refine J_mem (M' := jSv K (m + 1) (mCp (ji K (m + 1)) (33 * k) mCl 0)) (by rw [mCp_0]; exact (jSv_self _ _).symm) ?_
        have L41 : ∀ (fuel : Nat) (j : Nat) (hj : j ≤ 33), 33 - j < fuel → J l D dA RX8 cX8_clear wsX8_clear 4 false (some .boolean) [] (22) (420) (jF D dA (jn M) (mRl M m [xIOOBE] (sClr A (nI k)).1 (sClr A (nI k)).2) 1) (jn M) (0) (0) ((jSv K (m + 1) (mCp (ji K (m + 1)) (33 * k) mCl j))) 41 [.ref (m), .int (nI (k)), .int (jb (!((cNw A).1 k).isNone)), .int (nI (j))] [] := by
          intro fuel
          induction fuel with
          | zero => intro j hj hm; exact absurd hm (Nat.not_lt_zero _)
          | succ fuel ih41 =>
            intro j hj hm41
            refine J_iload_n dX8_clear_41 rfl rfl ?_
            refine J_bipush (x := 33) dX8_clear_42 (by decide) ?_
            refine J_icmp_ge dX8_clear_44 (tgt := 73) (by decide) (fun c44 => ?_) (fun c44 => ?_)
            · have c44 := jleT (a := 33) (b := j) (by omega) (by omega) c44
              refine J_iload_n dX8_clear_73 rfl rfl ?_
              exact J_iret (ty := .boolean) dX8_clear_74 rfl (jb_n _) (by rw [show j = 33 from by omega]; unfold sClr; rw [sSl_t c5, nI_clamp (by omega)]; refine ⟨Or.inl ⟨?_, ?_⟩, hB.set hk (sl_none rfl), (mFr.rf.si ⟨by omega, by omega⟩).tr (hF1.sv ⟨by omega, by omega⟩), _, rfl⟩; (rw [ji_Svn (by omega), hS1 11 (by decide), ji_Si, if_pos ⟨rfl, rfl⟩]); (show oI _ = _; rw [cAt_n hk, isSome_n]))
            · have c44 := jleF (a := 33) (b := j) (by omega) (by omega) c44
              refine J_aload_n (m) dX8_clear_47 rfl rfl ?_
              refine J_getrs (q := m + 1) Kr1 dX8_clear_48 (fun _ h => List.mem_cons_of_mem _ (List.mem_append_left _ (List.mem_append_right _ (h)))) cs11 (by decide) rfl (List.mem_of_getElem? (i := 1) rfl) rfl (show m < jn K from by omega) Km2 ?_
              refine J_bipush (x := 33) dX8_clear_51 (by decide) ?_
              refine J_iload_n dX8_clear_53 rfl rfl ?_
              refine J_imul dX8_clear_54 ?_
              refine J_topi (y := nI (33 * k)) (pk_mul (33) (k)) ?_
              refine J_iload_n dX8_clear_55 rfl rfl ?_
              refine J_iadd dX8_clear_56 ?_
              refine J_topi (y := nI (33 * k + j)) (nI_add (33 * k) (j)) ?_
              refine J_iload_n dX8_clear_57 rfl rfl ?_
              refine J_if_ne dX8_clear_58 (tgt := 65) (by decide) (fun c58 => ?_) (fun c58 => ?_)
              · have c58 := jeqF (a := j) (b := 0) (by omega) (by omega) c58
                refine J_iconst (x := 0) dX8_clear_65 (by decide) ?_
                refine J_topi (y := mCl j) (by unfold mCl; first | (rw [if_pos (by omega)]; done) | (rw [if_neg (by omega)]; done)) ?_
                refine J_iastN (k := 33 * k + j) dX8_clear_66 (show m + 1 < jn K from by omega) Kk1 (by exact Nat.lt_of_lt_of_eq (show _ < 427 by omega) (Eq.symm Kz1)) (by exact Nat.lt_of_le_of_lt (Nat.le_of_eq Kz1) (show 427 < 2 ^ 31 by omega)) ?_
                refine J_mem (M' := jSv K (m + 1) (mCp (ji K (m + 1)) (33 * k) mCl (j + 1))) (by exact (jSi_Sv _ _ _ _ _).trans (congrArg (jSv K (m + 1)) mCp_s)) ?_
                refine J_iinc (y := nI (j + 1)) (lv' := [.ref (m), .int (nI (k)), .int (jb (!((cNw A).1 k).isNone)), .int (nI (j + 1))]) dX8_clear_67 rfl (jinc (j)) (by decide) rfl rfl ?_
                refine J_goto (tgt := 41) dX8_clear_70 (by decide) ?_
                exact ih41 (j + 1) (by omega) (by omega)
              · have c58 := jeqT (a := j) (b := 0) (by omega) (by omega) c58
                refine J_iconst (x := (-1)) dX8_clear_61 (by decide) ?_
                refine J_goto (tgt := 66) dX8_clear_62 (by decide) ?_
                refine J_topi (y := mCl j) (by unfold mCl; first | (rw [if_pos (by omega)]; done) | (rw [if_neg (by omega)]; done)) ?_
                refine J_iastN (k := 33 * k + j) dX8_clear_66 (show m + 1 < jn K from by omega) Kk1 (by exact Nat.lt_of_lt_of_eq (show _ < 427 by omega) (Eq.symm Kz1)) (by exact Nat.lt_of_le_of_lt (Nat.le_of_eq Kz1) (show 427 < 2 ^ 31 by omega)) ?_
                refine J_mem (M' := jSv K (m + 1) (mCp (ji K (m + 1)) (33 * k) mCl (j + 1))) (by exact (jSi_Sv _ _ _ _ _).trans (congrArg (jSv K (m + 1)) mCp_s)) ?_
                refine J_iinc (y := nI (j + 1)) (lv' := [.ref (m), .int (nI (k)), .int (jb (!((cNw A).1 k).isNone)), .int (nI (j + 1))]) dX8_clear_67 rfl (jinc (j)) (by decide) rfl rfl ?_
                refine J_goto (tgt := 41) dX8_clear_70 (by decide) ?_
                exact ih41 (j + 1) (by omega) (by omega)
        refine J_iconst (x := 0) dX8_clear_39 (by decide) ?_
        refine J_istore_n (lv' := [.ref (m), .int (nI (k)), .int (jb (!((cNw A).1 k).isNone)), .int (0)]) dX8_clear_40 rfl (by decide) rfl rfl ?_
        exact L41 _ (0) (by omega) (Nat.lt_succ_self _)
    · exact absurd c16 (by decide)

theorem full_s {z : cSt} {j : Nat} : jcnt (fun i => (z.1 i).isSome) (j + 1) = jcnt (fun i => (z.1 i).isSome) j + (if (z.1 j).isNone = true then 0 else 1) := by
  show jcnt _ j + (if (z.1 j).isSome = true then 1 else 0) = _
  cases z.1 j <;> rfl
theorem dX8_full_4 : decode cX8_full 4 = .ok (.iload_n 2, 1) := by decide +kernel
theorem dX8_full_5 : decode cX8_full 5 = .ok (.bipush 12, 2) := by decide +kernel
theorem dX8_full_7 : decode cX8_full 7 = .ok (.if_icmp .ge 25, 3) := by decide +kernel
theorem dX8_full_32 : decode cX8_full 32 = .ok (.iload_n 1, 1) := by decide +kernel
theorem dX8_full_33 : decode cX8_full 33 = .ok (.ireturn, 1) := by decide +kernel
theorem dX8_full_10 : decode cX8_full 10 = .ok (.iload_n 1, 1) := by decide +kernel
theorem dX8_full_11 : decode cX8_full 11 = .ok (.aload_n 0, 1) := by decide +kernel
theorem dX8_full_12 : decode cX8_full 12 = .ok (.iload_n 2, 1) := by decide +kernel
theorem dX8_full_13 : decode cX8_full 13 = .ok (.invokevirtual 188, 3) := by decide +kernel
set_option maxRecDepth 20000 in
theorem ggX8_full_X8_isEmpty : GoodIn wsX8_full wsX8_isEmpty := goodIn_ca (goodIn_r _ [5, 6, 7, 8, 9, 10, 11, 12, 13, 14, 15, 16, 17, 18, 19, 20, 21, 22, 23, 24, 25, 26, 27, 28, 29, 30, 31, 32, 33, 34, 35, 36, 37] (by decide +kernel) (by decide +kernel)) (goodIn_sub (fun _ h => List.mem_cons_of_mem _ (List.mem_append_right _ h)) (by decide +kernel))
set_option maxRecDepth 20000 in
theorem gX8_full_X8_isEmpty : GoodIn wsX8_full (wsV RX8 188 RX8 yX8_isEmpty wsX8_isEmpty) := goodIn_app (goodIn_of _ (by decide +kernel)) ggX8_full_X8_isEmpty
theorem dX8_full_16 : decode cX8_full 16 = .ok (.ifCond .eq 7, 3) := by decide +kernel
theorem dX8_full_23 : decode cX8_full 23 = .ok (.iconst 1, 1) := by decide +kernel
theorem dX8_full_24 : decode cX8_full 24 = .ok (.iadd, 1) := by decide +kernel
theorem dX8_full_25 : decode cX8_full 25 = .ok (.istore_n 1, 1) := by decide +kernel
theorem dX8_full_26 : decode cX8_full 26 = .ok (.iinc 2 1, 3) := by decide +kernel
theorem dX8_full_29 : decode cX8_full 29 = .ok (.goto (-25), 3) := by decide +kernel
theorem dX8_full_19 : decode cX8_full 19 = .ok (.iconst 0, 1) := by decide +kernel
theorem dX8_full_20 : decode cX8_full 20 = .ok (.goto 4, 3) := by decide +kernel
theorem dX8_full_0 : decode cX8_full 0 = .ok (.iconst 0, 1) := by decide +kernel
theorem dX8_full_1 : decode cX8_full 1 = .ok (.istore_n 1, 1) := by decide +kernel
theorem dX8_full_2 : decode cX8_full 2 = .ok (.iconst 0, 1) := by decide +kernel
theorem dX8_full_3 : decode cX8_full 3 = .ok (.istore_n 2, 1) := by decide +kernel
set_option maxHeartbeats 400000 in
set_option maxRecDepth 20000 in
theorem ct_X8_full (l : Launch) (D : va_G) (dA : Nat → ClassId) (hst : l.stackTraces = false) (M : jM) (m : Nat) (hM : mOk M m) (z : cSt) (hz : mSt (ji M (m + 1)) 0 z) : jCT l D dA yX8_full wsX8_full (21) (360) (0) (0) 1 [.ref (m)] M (jPo (oI (nI (cFull z))) (M)) := by
  refine jBody (cc := cX8_full) (nL := 3) (rt := (some .int)) (ini := false) (by decide) rfl hst (Nat.le_of_ble_eq_true rfl) (by simp [Value.category]) (by intro h9; first | exact absurd h9 (by decide) | rfl) ?_
  show J l D dA RX8 cX8_full wsX8_full 3 false (some .int) [] (21) (360) (jF D dA (jn M) (jPo (oI (nI (cFull z))) (M)) 1) (jn M) (0) (0) (M) 0 [.ref (m), .float 0, .float 0] []
  obtain ⟨m1, m2, ⟨r1, r2, r3, r4, r5, r6, r7, r8, r9, r10, r11, r12, r13⟩, ⟨k1, k2, k3, k4, k5, k6, k7, k8, k9, k10, k11, k12, k13⟩, z1, z2, z3, z4, z5, z6, z7, z8, z9, z10, z11, z12, z13⟩ := id hM
  have L4 : ∀ (fuel : Nat) (j : Nat) (hj : j ≤ 12) (hb : jcnt (fun i => (z.1 i).isSome) j ≤ j), 12 - j < fuel → J l D dA RX8 cX8_full wsX8_full 3 false (some .int) [] (21) (360) (jF D dA (jn M) (jPo (oI (nI (cFull z))) (M)) 1) (jn M) (0) (0) (M) 4 [.ref (m), .int (nI (jcnt (fun i => (z.1 i).isSome) j)), .int (nI (j))] [] := by
    intro fuel
    induction fuel with
    | zero => intro j hj hb hm; exact absurd hm (Nat.not_lt_zero _)
    | succ fuel ih4 =>
      intro j hj hb hm4
      refine J_iload_n dX8_full_4 rfl rfl ?_
      refine J_bipush (x := 12) dX8_full_5 (by decide) ?_
      refine J_icmp_ge dX8_full_7 (tgt := 32) (by decide) (fun c7 => ?_) (fun c7 => ?_)
      · have c7 := jleT (a := 12) (b := j) (by omega) (by omega) c7
        refine J_iload_n dX8_full_32 rfl rfl ?_
        exact J_iret (ty := .int) dX8_full_33 rfl (rfl) ⟨(by rw [show j = 12 from by omega]; rfl), (by rfl)⟩
      · have c7 := jleF (a := 12) (b := j) (by omega) (by omega) c7
        refine J_iload_n dX8_full_10 rfl rfl ?_
        refine J_aload_n (m) dX8_full_11 rfl rfl ?_
        refine J_iload_n dX8_full_12 rfl rfl ?_
        refine J_calli0 (jrunV (As := [.int (nI (j))]) (ct_X8_isEmpty l D dA hst M m hM j (by omega) (z.1 j) ((hz.at0 (by omega)))) dX8_full_13 yY_X8_isEmpty gX8_full_X8_isEmpty rfl cs11 (show m < jn M from by omega) m2 rfl ⟨by omega, by omega⟩ ⟨Nat.zero_le _, Nat.zero_le _⟩ rfl (Nat.le_of_ble_eq_true rfl)) (rfl) (rfl) ?_
        refine J_if_eq dX8_full_16 (tgt := 23) (by decide) (fun c16 => ?_) (fun c16 => ?_)
        · have c16 := jb0T c16
          refine J_iconst (x := 1) dX8_full_23 (by decide) ?_
          refine J_iadd dX8_full_24 ?_
          refine J_topi (y := nI (jcnt (fun i => (z.1 i).isSome) j + 1)) (nI_add (jcnt (fun i => (z.1 i).isSome) j) (1)) ?_
          refine J_topi (y := nI (jcnt (fun i => (z.1 i).isSome) (j + 1))) (by rw [full_s]; first | (rw [if_pos c16]; done) | (rw [if_neg (by rw [c16]; decide)]; done) | (rw [if_pos c16]; rfl) | (rw [if_neg (by rw [c16]; decide)]; rfl)) ?_
          refine J_istore_n (lv' := [.ref (m), .int (nI (jcnt (fun i => (z.1 i).isSome) (j + 1))), .int (nI (j))]) dX8_full_25 rfl (by decide) rfl rfl ?_
          refine J_iinc (y := nI (j + 1)) (lv' := [.ref (m), .int (nI (jcnt (fun i => (z.1 i).isSome) (j + 1))), .int (nI (j + 1))]) dX8_full_26 rfl (jinc (j)) (by decide) rfl rfl ?_
          refine J_goto (tgt := 4) dX8_full_29 (by decide) ?_
          exact ih4 (j + 1) (by omega) (by rw [full_s]; split <;> omega) (by omega)
        · have c16 := jb0F c16
          refine J_iconst (x := 0) dX8_full_19 (by decide) ?_
          refine J_goto (tgt := 24) dX8_full_20 (by decide) ?_
          refine J_iadd dX8_full_24 ?_
          refine J_topi (y := nI (jcnt (fun i => (z.1 i).isSome) j + 0)) (nI_add (jcnt (fun i => (z.1 i).isSome) j) (0)) ?_
          refine J_topi (y := nI (jcnt (fun i => (z.1 i).isSome) (j + 1))) (by rw [full_s]; first | (rw [if_pos c16]; done) | (rw [if_neg (by rw [c16]; decide)]; done) | (rw [if_pos c16]; rfl) | (rw [if_neg (by rw [c16]; decide)]; rfl)) ?_
          refine J_istore_n (lv' := [.ref (m), .int (nI (jcnt (fun i => (z.1 i).isSome) (j + 1))), .int (nI (j))]) dX8_full_25 rfl (by decide) rfl rfl ?_
          refine J_iinc (y := nI (j + 1)) (lv' := [.ref (m), .int (nI (jcnt (fun i => (z.1 i).isSome) (j + 1))), .int (nI (j + 1))]) dX8_full_26 rfl (jinc (j)) (by decide) rfl rfl ?_
          refine J_goto (tgt := 4) dX8_full_29 (by decide) ?_
          exact ih4 (j + 1) (by omega) (by rw [full_s]; split <;> omega) (by omega)
  refine J_iconst (x := 0) dX8_full_0 (by decide) ?_
  refine J_istore_n (lv' := [.ref (m), .int (0), .float 0]) dX8_full_1 rfl (by decide) rfl rfl ?_
  refine J_iconst (x := 0) dX8_full_2 (by decide) ?_
  refine J_istore_n (lv' := [.ref (m), .int (0), .int (0)]) dX8_full_3 rfl (by decide) rfl rfl ?_
  exact L4 _ (0) (by omega) (by exact Nat.le_refl _) (Nat.lt_succ_self _)

theorem put_f {A : cA} {x y z : Int32} (h : okSlot x = true) (h2 : okVer y = false ∨ okVer z = false ∨ z < y) : sPut A x y z = (oX xIAE, A) := by
  unfold sPut sVe
  rw [sSl_t h]
  by_cases a : okVer y = true
  · rw [if_pos a]
    by_cases c : okVer z = true
    · rw [if_pos c]
      rcases h2 with h3 | h3 | h3
      · rw [a] at h3; exact nomatch h3
      · rw [c] at h3; exact nomatch h3
      · rw [if_pos h3]
    · rw [if_neg c]
  · rw [if_neg a]
theorem put_t {A : cA} {x y z : Int32} (h : okSlot x = true) (h2 : okVer y = true) (h3 : okVer z = true) (h4 : ¬ z < y) : sPut A x y z = (oI (z - y + 1), cPut A x.toNatClampNeg (some (1, fun j => if j = 0 then y else z))) := by
  unfold sPut sVe
  rw [sSl_t h, if_pos h2, if_pos h3, if_neg h4]
theorem put_h {M : jM} {m : Nat} {y z : Int32} : mSlot (ji (jSi (jSi (jSi M (m + 6) 0 1) (m + 6) 1 y) (m + 6) 2 z) (m + 6)) 0 (some (1, fun j => if j = 0 then y else z)) := by
  refine ⟨by simp [ji_Si]; rfl, by show 1 ≤ 16; decide, fun i hi => ?_⟩
  have h2 : i < 2 := hi
  rcases (show i = 0 ∨ i = 1 from by omega) with rfl | rfl
  · simp [ji_Si]
  · simp [ji_Si]
theorem mAb.sr {m a k : Nat} {x : Int32} {M : jM} {A : cA} (h : mAb M m A) (h1 : m + 5 < a ∧ a ≤ m + 13) : mAb (jSi M a k x) m A := h.q (mFr.rf.si ⟨by omega, h1.2⟩) (mE.rf.sr h1.1)
theorem dX8_put_0 : decode cX8_put 0 = .ok (.aload_n 0, 1) := by decide +kernel
theorem dX8_put_1 : decode cX8_put 1 = .ok (.iload_n 1, 1) := by decide +kernel
theorem dX8_put_2 : decode cX8_put 2 = .ok (.invokestatic 151, 3) := by decide +kernel
set_option maxRecDepth 20000 in
theorem ggX8_put_X8_isSlot : GoodIn wsX8_put wsX8_isSlot := goodIn_r _ [5] (by decide +kernel) (by decide +kernel)
set_option maxRecDepth 20000 in
theorem gX8_put_X8_isSlot : GoodIn wsX8_put (va_wsS RX8 151 yX8_isSlot wsX8_isSlot) := goodIn_app (goodIn_of _ (by decide +kernel)) ggX8_put_X8_isSlot
theorem dX8_put_5 : decode cX8_put 5 = .ok (.ifCond .ne 7, 3) := by decide +kernel
theorem dX8_put_12 : decode cX8_put 12 = .ok (.iload_n 2, 1) := by decide +kernel
theorem dX8_put_13 : decode cX8_put 13 = .ok (.invokestatic 202, 3) := by decide +kernel
set_option maxRecDepth 20000 in
theorem ggX8_put_X8_isVersion : GoodIn wsX8_put wsX8_isVersion := goodIn_r _ [8, 9] (by decide +kernel) (by decide +kernel)
set_option maxRecDepth 20000 in
theorem gX8_put_X8_isVersion : GoodIn wsX8_put (va_wsS RX8 202 yX8_isVersion wsX8_isVersion) := goodIn_app (goodIn_of _ (by decide +kernel)) ggX8_put_X8_isVersion
theorem dX8_put_16 : decode cX8_put 16 = .ok (.ifCond .eq 15, 3) := by decide +kernel
theorem dX8_put_31 : decode cX8_put 31 = .ok (.iconst 2, 1) := by decide +kernel
theorem dX8_put_32 : decode cX8_put 32 = .ok (.goto 4, 3) := by decide +kernel
theorem dX8_put_36 : decode cX8_put 36 = .ok (.invokevirtual 148, 3) := by decide +kernel
set_option maxRecDepth 20000 in
theorem ggX8_put_X8_fails : GoodIn wsX8_put wsX8_fails := goodIn_r _ [13, 14, 26, 27, 28, 29, 30, 31, 32, 33, 34, 35, 36, 37, 38, 39, 40, 41, 42, 43, 44, 45, 46, 47, 48, 49, 50, 51, 52, 53, 54, 55, 56] (by decide +kernel) (by decide +kernel)
set_option maxRecDepth 20000 in
theorem gX8_put_X8_fails : GoodIn wsX8_put (wsV RX8 148 RX8 yX8_fails wsX8_fails) := goodIn_app (goodIn_of _ (by decide +kernel)) ggX8_put_X8_fails
theorem dX8_put_39 : decode cX8_put 39 = .ok (.ifCond .eq 5, 3) := by decide +kernel
theorem dX8_put_42 : decode cX8_put 42 = .ok (.iconst 0, 1) := by decide +kernel
theorem dX8_put_43 : decode cX8_put 43 = .ok (.ireturn, 1) := by decide +kernel
theorem dX8_put_19 : decode cX8_put 19 = .ok (.iload_n 3, 1) := by decide +kernel
theorem dX8_put_20 : decode cX8_put 20 = .ok (.invokestatic 202, 3) := by decide +kernel
theorem dX8_put_23 : decode cX8_put 23 = .ok (.ifCond .eq 8, 3) := by decide +kernel
theorem dX8_put_26 : decode cX8_put 26 = .ok (.iload_n 3, 1) := by decide +kernel
theorem dX8_put_27 : decode cX8_put 27 = .ok (.iload_n 2, 1) := by decide +kernel
theorem dX8_put_28 : decode cX8_put 28 = .ok (.if_icmp .ge 7, 3) := by decide +kernel
theorem dX8_put_35 : decode cX8_put 35 = .ok (.iconst 0, 1) := by decide +kernel
theorem dX8_put_44 : decode cX8_put 44 = .ok (.aload_n 0, 1) := by decide +kernel
theorem dX8_put_45 : decode cX8_put 45 = .ok (.getfield 32, 3) := by decide +kernel
theorem dX8_put_48 : decode cX8_put 48 = .ok (.iconst 0, 1) := by decide +kernel
theorem dX8_put_49 : decode cX8_put 49 = .ok (.iconst 1, 1) := by decide +kernel
theorem dX8_put_50 : decode cX8_put 50 = .ok (.iastore, 1) := by decide +kernel
theorem dX8_put_51 : decode cX8_put 51 = .ok (.aload_n 0, 1) := by decide +kernel
theorem dX8_put_52 : decode cX8_put 52 = .ok (.getfield 32, 3) := by decide +kernel
theorem dX8_put_55 : decode cX8_put 55 = .ok (.iconst 1, 1) := by decide +kernel
theorem dX8_put_56 : decode cX8_put 56 = .ok (.iload_n 2, 1) := by decide +kernel
theorem dX8_put_57 : decode cX8_put 57 = .ok (.iastore, 1) := by decide +kernel
theorem dX8_put_58 : decode cX8_put 58 = .ok (.aload_n 0, 1) := by decide +kernel
theorem dX8_put_59 : decode cX8_put 59 = .ok (.getfield 32, 3) := by decide +kernel
theorem dX8_put_62 : decode cX8_put 62 = .ok (.iconst 2, 1) := by decide +kernel
theorem dX8_put_63 : decode cX8_put 63 = .ok (.iload_n 3, 1) := by decide +kernel
theorem dX8_put_64 : decode cX8_put 64 = .ok (.iastore, 1) := by decide +kernel
theorem dX8_put_65 : decode cX8_put 65 = .ok (.aload_n 0, 1) := by decide +kernel
theorem dX8_put_66 : decode cX8_put 66 = .ok (.iload_n 1, 1) := by decide +kernel
theorem dX8_put_67 : decode cX8_put 67 = .ok (.invokevirtual 163, 3) := by decide +kernel
set_option maxRecDepth 20000 in
theorem ggX8_put_X8_lays : GoodIn wsX8_put wsX8_lays := goodIn_ca (goodIn_r _ [18, 19, 1, 20, 21, 22, 4, 23, 24, 25, 26, 27, 28, 29, 30, 31, 32, 33, 34, 35, 36, 37, 38, 39, 40, 41, 42, 43, 44, 45, 46, 47, 48, 49, 50, 51, 52, 53, 54, 55, 56] (by decide +kernel) (by decide +kernel)) (goodIn_sub (fun _ h => List.mem_cons_of_mem _ (List.mem_append_right _ h)) (by decide +kernel))
set_option maxRecDepth 20000 in
theorem gX8_put_X8_lays : GoodIn wsX8_put (wsV RX8 163 RX8 yX8_lays wsX8_lays) := goodIn_app (goodIn_of _ (by decide +kernel)) ggX8_put_X8_lays
theorem yY_X8_lays : jY yX8_lays wsX8_lays cX8_lays 3 (some .int) 1 := ⟨⟨_, rfl⟩, by decide +kernel, by decide +kernel, by decide +kernel⟩
theorem dX8_put_70 : decode cX8_put 70 = .ok (.iload_n 3, 1) := by decide +kernel
theorem dX8_put_71 : decode cX8_put 71 = .ok (.iload_n 2, 1) := by decide +kernel
theorem dX8_put_72 : decode cX8_put 72 = .ok (.isub, 1) := by decide +kernel
theorem dX8_put_73 : decode cX8_put 73 = .ok (.iconst 1, 1) := by decide +kernel
theorem dX8_put_74 : decode cX8_put 74 = .ok (.iadd, 1) := by decide +kernel
theorem dX8_put_75 : decode cX8_put 75 = .ok (.imul, 1) := by decide +kernel
theorem dX8_put_76 : decode cX8_put 76 = .ok (.ireturn, 1) := by decide +kernel
theorem dX8_put_8 : decode cX8_put 8 = .ok (.iconst 1, 1) := by decide +kernel
theorem dX8_put_9 : decode cX8_put 9 = .ok (.goto 27, 3) := by decide +kernel
set_option maxHeartbeats 400000 in
set_option maxRecDepth 20000 in
theorem ct_X8_put (l : Launch) (D : va_G) (dA : Nat → ClassId) (hst : l.stackTraces = false) (M : jM) (m : Nat) (A : cA) (hA : mAb M m A) (hW : zWf (cNw A)) (s y z : Int32) : jCT l D dA yX8_put wsX8_put (22) (420) (0) (0) 1 [.ref (m), .int (s), .int (y), .int (z)] M (mRl M m [xIOOBE, xIAE] (sPut A s y z).1 (sPut A s y z).2) := by
  refine jBody (cc := cX8_put) (nL := 4) (rt := (some .int)) (ini := false) (by decide) rfl hst (Nat.le_of_ble_eq_true rfl) (by simp [Value.category]) (by intro h9; first | exact absurd h9 (by decide) | rfl) ?_
  show J l D dA RX8 cX8_put wsX8_put 4 false (some .int) [] (22) (420) (jF D dA (jn M) (mRl M m [xIOOBE, xIAE] (sPut A s y z).1 (sPut A s y z).2) 1) (jn M) (0) (0) (M) 0 [.ref (m), .int (s), .int (y), .int (z)] []
  obtain ⟨hM, hz, ⟨hKn, hK8, hKs⟩, ⟨hHs, hHz⟩, ⟨hLn, hL6, hLc⟩, hFl, ⟨hRs, hRp⟩, hCh⟩ := id hA
  obtain ⟨m1, m2, ⟨r1, r2, r3, r4, r5, r6, r7, r8, r9, r10, r11, r12, r13⟩, ⟨k1, k2, k3, k4, k5, k6, k7, k8, k9, k10, k11, k12, k13⟩, z1, z2, z3, z4, z5, z6, z7, z8, z9, z10, z11, z12, z13⟩ := id hM
  refine J_aload_n (m) dX8_put_0 rfl rfl ?_
  refine J_iload_n dX8_put_1 rfl rfl ?_
  refine J_calli0 (jrunS (As := [.int (s)]) (ct_X8_isSlot l D dA hst M ((s))) dX8_put_2 yY_X8_isSlot gX8_put_X8_isSlot rfl ⟨by omega, by omega⟩ ⟨Nat.zero_le _, Nat.zero_le _⟩ rfl (Nat.le_of_ble_eq_true rfl)) (rfl) (rfl) ?_
  refine J_if_ne dX8_put_5 (tgt := 12) (by decide) (fun c5 => ?_) (fun c5 => ?_)
  · have c5 := jb0F c5
    refine J_iload_n dX8_put_12 rfl rfl ?_
    refine J_calli0 (jrunS (As := [.int (y)]) (ct_X8_isVersion l D dA hst M ((y))) dX8_put_13 yY_X8_isVersion gX8_put_X8_isVersion rfl ⟨by omega, by omega⟩ ⟨Nat.zero_le _, Nat.zero_le _⟩ rfl (Nat.le_of_ble_eq_true rfl)) (rfl) (rfl) ?_
    refine J_if_eq dX8_put_16 (tgt := 31) (by decide) (fun c16 => ?_) (fun c16 => ?_)
    · have c16 := jb0T c16
      refine J_iconst (x := 2) dX8_put_31 (by decide) ?_
      refine J_goto (tgt := 36) dX8_put_32 (by decide) ?_
      refine J_calli0 (jrunV (As := [.int (2)]) (ct_X8_fails l D dA hst M m hM ((2))) dX8_put_36 yY_X8_fails gX8_put_X8_fails rfl cs11 (show m < jn M from by omega) m2 rfl ⟨by omega, by omega⟩ ⟨Nat.zero_le _, Nat.zero_le _⟩ rfl (Nat.le_of_ble_eq_true rfl)) (rfl) (rfl) ?_
      refine J_if_eq dX8_put_39 (tgt := 44) (by decide) (fun c39 => ?_) (fun c39 => ?_)
      · exact absurd c39 (by decide)
      · have c39 := jeqF (a := 1) (b := 0) (by omega) (by omega) c39
        refine J_iconst (x := 0) dX8_put_42 (by decide) ?_
        exact J_iret (ty := .int) dX8_put_43 rfl (rfl) (by rw [put_f c5 (by first | exact Or.inl c16 | exact Or.inr (Or.inl c23) | exact Or.inr (Or.inr (Int32.not_le.mp c28)) | exact Or.inr (Or.inr c28))]; exact ⟨mAg.x 1 xIAE rfl (by decide) ji_Sis rfl, (hA).si rfl, (mFr.rf).si ⟨by omega, by omega⟩, _, rfl⟩)
    · have c16 := jb0F c16
      refine J_iload_n dX8_put_19 rfl rfl ?_
      refine J_calli0 (jrunS (As := [.int (z)]) (ct_X8_isVersion l D dA hst M ((z))) dX8_put_20 yY_X8_isVersion gX8_put_X8_isVersion rfl ⟨by omega, by omega⟩ ⟨Nat.zero_le _, Nat.zero_le _⟩ rfl (Nat.le_of_ble_eq_true rfl)) (rfl) (rfl) ?_
      refine J_if_eq dX8_put_23 (tgt := 31) (by decide) (fun c23 => ?_) (fun c23 => ?_)
      · have c23 := jb0T c23
        refine J_iconst (x := 2) dX8_put_31 (by decide) ?_
        refine J_goto (tgt := 36) dX8_put_32 (by decide) ?_
        refine J_calli0 (jrunV (As := [.int (2)]) (ct_X8_fails l D dA hst M m hM ((2))) dX8_put_36 yY_X8_fails gX8_put_X8_fails rfl cs11 (show m < jn M from by omega) m2 rfl ⟨by omega, by omega⟩ ⟨Nat.zero_le _, Nat.zero_le _⟩ rfl (Nat.le_of_ble_eq_true rfl)) (rfl) (rfl) ?_
        refine J_if_eq dX8_put_39 (tgt := 44) (by decide) (fun c39 => ?_) (fun c39 => ?_)
        · exact absurd c39 (by decide)
        · have c39 := jeqF (a := 1) (b := 0) (by omega) (by omega) c39
          refine J_iconst (x := 0) dX8_put_42 (by decide) ?_
          exact J_iret (ty := .int) dX8_put_43 rfl (rfl) (by rw [put_f c5 (by first | exact Or.inl c16 | exact Or.inr (Or.inl c23) | exact Or.inr (Or.inr (Int32.not_le.mp c28)) | exact Or.inr (Or.inr c28))]; exact ⟨mAg.x 1 xIAE rfl (by decide) ji_Sis rfl, (hA).si rfl, (mFr.rf).si ⟨by omega, by omega⟩, _, rfl⟩)
      · have c23 := jb0F c23
        refine J_iload_n dX8_put_26 rfl rfl ?_
        refine J_iload_n dX8_put_27 rfl rfl ?_
        refine J_icmp_ge dX8_put_28 (tgt := 35) (by decide) (fun c28 => ?_) (fun c28 => ?_)
        · refine J_iconst (x := 0) dX8_put_35 (by decide) ?_
          refine J_calli0 (jrunV (As := [.int (0)]) (ct_X8_fails l D dA hst M m hM ((0))) dX8_put_36 yY_X8_fails gX8_put_X8_fails rfl cs11 (show m < jn M from by omega) m2 rfl ⟨by omega, by omega⟩ ⟨Nat.zero_le _, Nat.zero_le _⟩ rfl (Nat.le_of_ble_eq_true rfl)) (rfl) (rfl) ?_
          refine J_if_eq dX8_put_39 (tgt := 44) (by decide) (fun c39 => ?_) (fun c39 => ?_)
          · have c39 := jeqT (a := 0) (b := 0) (by omega) (by omega) c39
            obtain ⟨k, hk, rfl⟩ := okSlot_of c5
            refine J_aload_n (m) dX8_put_44 rfl rfl ?_
            refine J_getrs (q := m + 6) r6 dX8_put_45 (fun _ h => List.mem_cons_of_mem _ (List.mem_append_left _ (List.mem_append_right _ (h)))) cs11 (by decide) rfl (List.mem_of_getElem? (i := 1) rfl) rfl (show m < jn M from by omega) m2 ?_
            refine J_iconst (x := 0) dX8_put_48 (by decide) ?_
            refine J_iconst (x := 1) dX8_put_49 (by decide) ?_
            refine J_iastN (k := 0) dX8_put_50 (show m + 6 < jn M from by omega) k6 (by exact Nat.lt_of_lt_of_eq (show _ < 2112 by omega) (Eq.symm z6)) (by exact Nat.lt_of_le_of_lt (Nat.le_of_eq z6) (show 2112 < 2 ^ 31 by omega)) ?_
            refine J_aload_n (m) dX8_put_51 rfl rfl ?_
            refine J_getrs (q := m + 6) r6 dX8_put_52 (fun _ h => List.mem_cons_of_mem _ (List.mem_append_left _ (List.mem_append_right _ (h)))) cs11 (by decide) rfl (List.mem_of_getElem? (i := 1) rfl) rfl (show m < jn M from by omega) m2 ?_
            refine J_iconst (x := 1) dX8_put_55 (by decide) ?_
            refine J_iload_n dX8_put_56 rfl rfl ?_
            refine J_iastN (k := 1) dX8_put_57 (show m + 6 < jn M from by omega) k6 (by exact Nat.lt_of_lt_of_eq (show _ < 2112 by omega) (Eq.symm z6)) (by exact Nat.lt_of_le_of_lt (Nat.le_of_eq z6) (show 2112 < 2 ^ 31 by omega)) ?_
            refine J_aload_n (m) dX8_put_58 rfl rfl ?_
            refine J_getrs (q := m + 6) r6 dX8_put_59 (fun _ h => List.mem_cons_of_mem _ (List.mem_append_left _ (List.mem_append_right _ (h)))) cs11 (by decide) rfl (List.mem_of_getElem? (i := 1) rfl) rfl (show m < jn M from by omega) m2 ?_
            refine J_iconst (x := 2) dX8_put_62 (by decide) ?_
            refine J_iload_n dX8_put_63 rfl rfl ?_
            refine J_iastN (k := 2) dX8_put_64 (show m + 6 < jn M from by omega) k6 (by exact Nat.lt_of_lt_of_eq (show _ < 2112 by omega) (Eq.symm z6)) (by exact Nat.lt_of_le_of_lt (Nat.le_of_eq z6) (show 2112 < 2 ^ 31 by omega)) ?_
            refine J_aload_n (m) dX8_put_65 rfl rfl ?_
            refine J_iload_n dX8_put_66 rfl rfl ?_
            refine J_calli (jrunV (As := [.int (nI (k))]) (ct_X8_lays l D dA hst (jSi (jSi (jSi (jSi M m 11 ((0))) (m + 6) 0 ((1))) (m + 6) 1 ((y))) (m + 6) 2 ((z))) m A (((hA.si rfl).sr ⟨by omega, by omega⟩).sr ⟨by omega, by omega⟩ |>.sr ⟨by omega, by omega⟩) k hk (1, fun j => if j = 0 then y else z) put_h) dX8_put_67 yY_X8_lays gX8_put_X8_lays rfl cs11 (show m < jn M from by omega) m2 rfl ⟨by omega, by omega⟩ ⟨Nat.zero_le _, Nat.zero_le _⟩ rfl (Nat.le_of_ble_eq_true rfl)) ⟨Nat.zero_le _, Nat.zero_le _⟩ (Or.inr ⟨(jOk.ref (show m < jn M from by omega) (jOk.int (jOk.int (jOk.int jOk.nil)))), jOk.nil⟩) (fun E M9 hp _ => by cases hp.1) (fun x9 K2 hp67 hle67 => ?_)
            obtain ⟨he9, hB2, hF2, h112⟩ := hp67
            cases he9
            have hs9 : okSlot (nI k) = true := c5
            refine J_iload_n dX8_put_70 rfl rfl ?_
            refine J_iload_n dX8_put_71 rfl rfl ?_
            refine J_isub dX8_put_72 ?_
            refine J_iconst (x := 1) dX8_put_73 (by decide) ?_
            refine J_iadd dX8_put_74 ?_
            refine J_imul dX8_put_75 ?_
            exact J_iret (ty := .int) dX8_put_76 rfl (rfl) (by rw [put_t c5 c16 c23 (Int32.not_lt.mpr c28), nI_clamp (by omega)]; refine ⟨Or.inl ⟨?_, ?_⟩, hB2, ((((mFr.rf.si ⟨by omega, by omega⟩).si ⟨by omega, by omega⟩).si ⟨by omega, by omega⟩).si ⟨by omega, by omega⟩).tr hF2, _, rfl⟩; (rw [h112, ji_Sin (by omega), ji_Sin (by omega), ji_Sin (by omega)]; exact ji_Sis); (show oI _ = oI _; congr 1; first | rfl | (show z - y + 1 = nI 1 * (z - y + 1); rw [show (nI 1 : Int32) = 1 from rfl, Int32.one_mul]) | simp))
          · exact absurd c39 (by decide)
        · refine J_iconst (x := 2) dX8_put_31 (by decide) ?_
          refine J_goto (tgt := 36) dX8_put_32 (by decide) ?_
          refine J_calli0 (jrunV (As := [.int (2)]) (ct_X8_fails l D dA hst M m hM ((2))) dX8_put_36 yY_X8_fails gX8_put_X8_fails rfl cs11 (show m < jn M from by omega) m2 rfl ⟨by omega, by omega⟩ ⟨Nat.zero_le _, Nat.zero_le _⟩ rfl (Nat.le_of_ble_eq_true rfl)) (rfl) (rfl) ?_
          refine J_if_eq dX8_put_39 (tgt := 44) (by decide) (fun c39 => ?_) (fun c39 => ?_)
          · exact absurd c39 (by decide)
          · have c39 := jeqF (a := 1) (b := 0) (by omega) (by omega) c39
            refine J_iconst (x := 0) dX8_put_42 (by decide) ?_
            exact J_iret (ty := .int) dX8_put_43 rfl (rfl) (by rw [put_f c5 (by first | exact Or.inl c16 | exact Or.inr (Or.inl c23) | exact Or.inr (Or.inr (Int32.not_le.mp c28)) | exact Or.inr (Or.inr c28))]; exact ⟨mAg.x 1 xIAE rfl (by decide) ji_Sis rfl, (hA).si rfl, (mFr.rf).si ⟨by omega, by omega⟩, _, rfl⟩)
  · have c5 := jb0T c5
    refine J_iconst (x := 1) dX8_put_8 (by decide) ?_
    refine J_goto (tgt := 36) dX8_put_9 (by decide) ?_
    refine J_calli0 (jrunV (As := [.int (1)]) (ct_X8_fails l D dA hst M m hM ((1))) dX8_put_36 yY_X8_fails gX8_put_X8_fails rfl cs11 (show m < jn M from by omega) m2 rfl ⟨by omega, by omega⟩ ⟨Nat.zero_le _, Nat.zero_le _⟩ rfl (Nat.le_of_ble_eq_true rfl)) (rfl) (rfl) ?_
    refine J_if_eq dX8_put_39 (tgt := 44) (by decide) (fun c39 => ?_) (fun c39 => ?_)
    · exact absurd c39 (by decide)
    · have c39 := jeqF (a := 1) (b := 0) (by omega) (by omega) c39
      refine J_iconst (x := 0) dX8_put_42 (by decide) ?_
      exact J_iret (ty := .int) dX8_put_43 rfl (rfl) (by unfold sPut; rw [sSl_f c5]; exact ⟨mAg.x 0 xIOOBE rfl (by decide) ji_Sis rfl, (hA).si rfl, (mFr.rf).si ⟨by omega, by omega⟩, _, rfl⟩)

