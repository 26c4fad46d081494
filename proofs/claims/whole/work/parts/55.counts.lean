def aN (M : jM) (m L : Nat) (c : Int32) : jM := jSi (jSi (jSi M m 11 0) (m + 4) L c) m 6 (nI (L + 1))
theorem mAb.app {M : jM} {m : Nat} {A : cA} {c : Int32} (h : mAb M m A) (hl : cL A < 60) : mAb (aN M m (cL A) c) m (cApp A c) := by
  obtain ⟨a1, a2, a3, a4, a5, a6, a7, a8⟩ := h
  have hR : ∀ i, 0 < i → i ≠ 4 → ji (aN M m (cL A) c) (m + i) = ji M (m + i) := fun i h0 h4 => funext fun j => by unfold aN; rw [ji_Sin (by omega), ji_Sin (by omega), ji_Sin (by omega)]
  have hS : ∀ f, f ≠ 6 → f ≠ 11 → ji (aN M m (cL A) c) m f = ji M m f := fun f h6 h11 => by unfold aN; rw [ji_Sik h6, ji_Sin (by omega), ji_Sik h11]
  have hC : mCh (aN M m (cL A) c) m (cCh A) := by
    cases hc : cCh A with
    | none => rw [hc] at a8; exact (hS 10 (by decide) (by decide)).trans a8
    | some w => rw [hc] at a8; exact ⟨(hS 10 (by decide) (by decide)).trans a8.1, a8.2.1, fun j hj => by rw [hR 5 (by decide) (by decide)]; exact a8.2.2 j hj⟩
  refine ⟨a1, ?_, ?_, ?_, ⟨?_, ?_, fun j hj => ?_⟩, ?_, ?_, hC⟩
  · rw [hR 1 (by decide) (by decide)]; exact a2
  · rw [hR 2 (by decide) (by decide), hS 4 (by decide) (by decide)]; exact a3
  · rw [hR 3 (by decide) (by decide), hS 3 (by decide) (by decide)]; exact a4
  · unfold aN; exact ji_Sis
  · show cL A + 1 ≤ 60; omega
  · have hj2 : j < cL A + 1 := hj
    show _ = if j = cL A then c else cC A j
    unfold aN
    rw [ji_Sin (by omega), ji_Si]
    by_cases e : j = cL A
    · rw [if_pos ⟨rfl, e⟩, if_pos e]
    · rw [if_neg (fun h9 => e h9.2), if_neg e, ji_Sin (by omega)]; exact a5.2.2 j (by omega)
  · rw [hS 7 (by decide) (by decide)]; exact a6
  · rw [hS 8 (by decide) (by decide)]; exact a7
theorem aN_f {M : jM} {m L : Nat} {c : Int32} : mFr m M (aN M m L c) := ((mFr.rf.si ⟨by omega, by omega⟩).si ⟨by omega, by omega⟩).si ⟨by omega, by omega⟩
theorem aN_c {M : jM} {m L : Nat} {c : Int32} : ji (aN M m L c) m 11 = 0 := by unfold aN; rw [ji_Sik (by decide), ji_Sin (by omega)]; exact ji_Sis
theorem fit_app {A : cA} {c : Int32} (h : cL A = 60) : sApp A c = (oX xISE, A) := by unfold sApp; rw [if_pos (by omega)]
theorem app_t {A : cA} {c : Int32} (h : cL A < 60) : sApp A c = (oV, cApp A c) := by unfold sApp; rw [if_neg (by omega)]
def mMt (M : jM) (m n : Nat) : jP := fun o M1 => ∃ y, o = oI (nI n) ∧ M1 = jSi M m 14 y
theorem jcnt_le9 (p : Nat → Bool) : ∀ k, jcnt p k ≤ k
  | 0 => Nat.le_refl _
  | k + 1 => by have := jcnt_le9 p k; show jcnt p k + _ ≤ _; split <;> omega
theorem jcnt_s {p : Nat → Bool} {k : Nat} : jcnt p (k + 1) = jcnt p k + (if p k = true then 1 else 0) := rfl
theorem dX8_append_0 : decode cX8_append 0 = .ok (.aload_n 0, 1) := by decide +kernel
theorem dX8_append_1 : decode cX8_append 1 = .ok (.aload_n 0, 1) := by decide +kernel
theorem dX8_append_2 : decode cX8_append 2 = .ok (.getfield 84, 3) := by decide +kernel
theorem dX8_append_5 : decode cX8_append 5 = .ok (.bipush 60, 2) := by decide +kernel
theorem dX8_append_7 : decode cX8_append 7 = .ok (.if_icmp .ne 7, 3) := by decide +kernel
theorem dX8_append_14 : decode cX8_append 14 = .ok (.iconst 0, 1) := by decide +kernel
theorem dX8_append_15 : decode cX8_append 15 = .ok (.invokevirtual 148, 3) := by decide +kernel
set_option maxRecDepth 20000 in
theorem ggX8_append_X8_fails : GoodIn wsX8_append wsX8_fails := goodIn_r _ [7, 8, 9, 10, 11, 12, 13, 14, 15, 16, 17, 18, 19, 20, 21, 22, 23, 24, 25, 26, 27, 28, 29, 30, 31, 32, 33, 34, 35, 36, 37, 38, 39] (by decide +kernel) (by decide +kernel)
set_option maxRecDepth 20000 in
theorem gX8_append_X8_fails : GoodIn wsX8_append (wsV RX8 148 RX8 yX8_fails wsX8_fails) := goodIn_app (goodIn_of _ (by decide +kernel)) ggX8_append_X8_fails
theorem dX8_append_18 : decode cX8_append 18 = .ok (.ifCond .eq 4, 3) := by decide +kernel
theorem dX8_append_22 : decode cX8_append 22 = .ok (.aload_n 0, 1) := by decide +kernel
theorem dX8_append_23 : decode cX8_append 23 = .ok (.getfield 19, 3) := by decide +kernel
theorem dX8_append_26 : decode cX8_append 26 = .ok (.aload_n 0, 1) := by decide +kernel
theorem dX8_append_27 : decode cX8_append 27 = .ok (.getfield 84, 3) := by decide +kernel
theorem dX8_append_30 : decode cX8_append 30 = .ok (.iload_n 1, 1) := by decide +kernel
theorem dX8_append_31 : decode cX8_append 31 = .ok (.iastore, 1) := by decide +kernel
theorem dX8_append_32 : decode cX8_append 32 = .ok (.aload_n 0, 1) := by decide +kernel
theorem dX8_append_33 : decode cX8_append 33 = .ok (.dup, 1) := by decide +kernel
theorem dX8_append_34 : decode cX8_append 34 = .ok (.getfield 84, 3) := by decide +kernel
theorem dX8_append_37 : decode cX8_append 37 = .ok (.iconst 1, 1) := by decide +kernel
theorem dX8_append_38 : decode cX8_append 38 = .ok (.iadd, 1) := by decide +kernel
theorem dX8_append_39 : decode cX8_append 39 = .ok (.putfield 84, 3) := by decide +kernel
theorem dX8_append_42 : decode cX8_append 42 = .ok (.return_, 1) := by decide +kernel
theorem dX8_append_10 : decode cX8_append 10 = .ok (.iconst 1, 1) := by decide +kernel
theorem dX8_append_11 : decode cX8_append 11 = .ok (.goto 4, 3) := by decide +kernel
theorem dX8_append_21 : decode cX8_append 21 = .ok (.return_, 1) := by decide +kernel
set_option maxHeartbeats 400000 in
set_option maxRecDepth 20000 in
theorem ct_X8_append (l : Launch) (D : va_G) (dA : Nat → ClassId) (hst : l.stackTraces = false) (M : jM) (m : Nat) (A : cA) (hA : mAb M m A) (hW : zWf (cNw A)) (c : Int32) : jCT l D dA yX8_append wsX8_append (22) (420) (0) (0) 0 [.ref (m), .int (c)] M (mRl M m [xISE] (sApp A c).1 (sApp A c).2) := by
  refine jBody (cc := cX8_append) (nL := 2) (rt := none) (ini := false) (by decide) rfl hst (Nat.le_of_ble_eq_true rfl) (by simp [Value.category]) (by intro h9; first | exact absurd h9 (by decide) | rfl) ?_
  show J l D dA RX8 cX8_append wsX8_append 2 false none [] (22) (420) (jF D dA (jn M) (mRl M m [xISE] (sApp A c).1 (sApp A c).2) 0) (jn M) (0) (0) (M) 0 [.ref (m), .int (c)] []
  obtain ⟨hM, hz, ⟨hKn, hK8, hKs⟩, ⟨hHs, hHz⟩, ⟨hLn, hL6, hLc⟩, hFl, ⟨hRs, hRp⟩, hCh⟩ := id hA
  obtain ⟨m1, m2, ⟨r1, r2, r3, r4, r5, r6, r7, r8, r9, r10, r11, r12, r13⟩, ⟨k1, k2, k3, k4, k5, k6, k7, k8, k9, k10, k11, k12, k13⟩, z1, z2, z3, z4, z5, z6, z7, z8, z9, z10, z11, z12, z13⟩ := id hM
  refine J_aload_n (m) dX8_append_0 rfl rfl ?_
  refine J_aload_n (m) dX8_append_1 rfl rfl ?_
  refine J_geti (j := 6) dX8_append_2 (fun _ h => List.mem_cons_of_mem _ (List.mem_append_left _ (List.mem_append_right _ (h)))) cs11 (by decide) rfl (List.mem_of_getElem? (i := 1) rfl) rfl (show m < jn M from by omega) m2 ?_
  refine J_topi (y := nI (cL A)) (hLn) ?_
  refine J_bipush (x := 60) dX8_append_5 (by decide) ?_
  refine J_icmp_ne dX8_append_7 (tgt := 14) (by decide) (fun c7 => ?_) (fun c7 => ?_)
  · have c7 := jeqF (a := cL A) (b := 60) (by omega) (by omega) c7
    refine J_iconst (x := 0) dX8_append_14 (by decide) ?_
    refine J_calli0 (jrunV (As := [.int (0)]) (ct_X8_fails l D dA hst M m hM ((0))) dX8_append_15 yY_X8_fails gX8_append_X8_fails rfl cs11 (show m < jn M from by omega) m2 rfl ⟨by omega, by omega⟩ ⟨Nat.zero_le _, Nat.zero_le _⟩ rfl (Nat.le_of_ble_eq_true rfl)) (rfl) (rfl) ?_
    refine J_if_eq dX8_append_18 (tgt := 22) (by decide) (fun c18 => ?_) (fun c18 => ?_)
    · have c18 := jeqT (a := 0) (b := 0) (by omega) (by omega) c18
      refine J_aload_n (m) dX8_append_22 rfl rfl ?_
      refine J_getrs (q := m + 4) r4 dX8_append_23 (fun _ h => List.mem_cons_of_mem _ (List.mem_append_left _ (List.mem_append_right _ (h)))) cs11 (by decide) rfl (List.mem_of_getElem? (i := 2) rfl) rfl (show m < jn M from by omega) m2 ?_
      refine J_aload_n (m) dX8_append_26 rfl rfl ?_
      refine J_geti (j := 6) dX8_append_27 (fun _ h => List.mem_cons_of_mem _ (List.mem_append_left _ (List.mem_append_right _ (h)))) cs11 (by decide) rfl (List.mem_of_getElem? (i := 1) rfl) rfl (show m < jn M from by omega) m2 ?_
      refine J_topi (y := nI (cL A)) (((ji_Sik (show 6 ≠ 11 by decide)).trans hLn)) ?_
      refine J_iload_n dX8_append_30 rfl rfl ?_
      refine J_iastN (k := cL A) dX8_append_31 (show m + 4 < jn M from by omega) k4 (by exact Nat.lt_of_lt_of_eq (show _ < 60 by omega) (Eq.symm z4)) (by exact Nat.lt_of_le_of_lt (Nat.le_of_eq z4) (show 60 < 2 ^ 31 by omega)) ?_
      refine J_aload_n (m) dX8_append_32 rfl rfl ?_
      refine J_dup dX8_append_33 rfl ?_
      refine J_geti (j := 6) dX8_append_34 (fun _ h => List.mem_cons_of_mem _ (List.mem_append_left _ (List.mem_append_right _ (h)))) cs11 (by decide) rfl (List.mem_of_getElem? (i := 1) rfl) rfl (show m < jn M from by omega) m2 ?_
      refine J_topi (y := nI (cL A)) ((ji_ne_i (by omega) ((ji_Sik (show 6 ≠ 11 by decide)).trans hLn))) ?_
      refine J_iconst (x := 1) dX8_append_37 (by decide) ?_
      refine J_iadd dX8_append_38 ?_
      refine J_topi (y := nI (cL A + 1)) (nI_add (cL A) (1)) ?_
      refine J_puti (j := 6) (x := nI (cL A + 1)) dX8_append_39 (fun _ h => List.mem_cons_of_mem _ (List.mem_append_left _ (List.mem_append_right _ (h)))) cs11 cty11 (by decide) rfl (List.mem_of_getElem? (i := 1) rfl) rfl rfl ⟨rfl, rfl⟩ (show m < jn M from by omega) m2 ?_
      exact J_vret dX8_append_42 rfl (by rw [app_t (by omega)]; exact ⟨Or.inl ⟨aN_c, rfl⟩, hA.app (by omega), aN_f, _, rfl⟩)
    · exact absurd c18 (by decide)
  · have c7 := jeqT (a := cL A) (b := 60) (by omega) (by omega) c7
    refine J_iconst (x := 1) dX8_append_10 (by decide) ?_
    refine J_goto (tgt := 15) dX8_append_11 (by decide) ?_
    refine J_calli0 (jrunV (As := [.int (1)]) (ct_X8_fails l D dA hst M m hM ((1))) dX8_append_15 yY_X8_fails gX8_append_X8_fails rfl cs11 (show m < jn M from by omega) m2 rfl ⟨by omega, by omega⟩ ⟨Nat.zero_le _, Nat.zero_le _⟩ rfl (Nat.le_of_ble_eq_true rfl)) (rfl) (rfl) ?_
    refine J_if_eq dX8_append_18 (tgt := 22) (by decide) (fun c18 => ?_) (fun c18 => ?_)
    · exact absurd c18 (by decide)
    · have c18 := jeqF (a := 1) (b := 0) (by omega) (by omega) c18
      exact J_vret dX8_append_21 rfl (by rw [fit_app (by omega)]; exact ⟨mAg.x 0 xISE rfl (by decide) ji_Sis rfl, (hA).si rfl, (mFr.rf).si ⟨by omega, by omega⟩, _, rfl⟩)

theorem dX8_faultPosition_0 : decode cX8_faultPosition 0 = .ok (.aload_n 0, 1) := by decide +kernel
theorem dX8_faultPosition_1 : decode cX8_faultPosition 1 = .ok (.iconst 0, 1) := by decide +kernel
theorem dX8_faultPosition_2 : decode cX8_faultPosition 2 = .ok (.putfield 56, 3) := by decide +kernel
theorem dX8_faultPosition_5 : decode cX8_faultPosition 5 = .ok (.aload_n 0, 1) := by decide +kernel
theorem dX8_faultPosition_6 : decode cX8_faultPosition 6 = .ok (.getfield 22, 3) := by decide +kernel
theorem dX8_faultPosition_9 : decode cX8_faultPosition 9 = .ok (.ireturn, 1) := by decide +kernel
set_option maxHeartbeats 400000 in
set_option maxRecDepth 20000 in
theorem ct_X8_faultPosition (l : Launch) (D : va_G) (dA : Nat → ClassId) (hst : l.stackTraces = false) (M : jM) (m : Nat) (A : cA) (hA : mAb M m A) (hW : zWf (cNw A)) : jCT l D dA yX8_faultPosition wsX8_faultPosition (21) (360) (0) (0) 1 [.ref (m)] M (mRl M m [] (oI (cFl A)) A) := by
  refine jBody (cc := cX8_faultPosition) (nL := 1) (rt := (some .int)) (ini := false) (by decide) rfl hst (Nat.le_of_ble_eq_true rfl) (by simp [Value.category]) (by intro h9; first | exact absurd h9 (by decide) | rfl) ?_
  show J l D dA RX8 cX8_faultPosition wsX8_faultPosition 1 false (some .int) [] (21) (360) (jF D dA (jn M) (mRl M m [] (oI (cFl A)) A) 1) (jn M) (0) (0) (M) 0 [.ref (m)] []
  obtain ⟨hM, hz, ⟨hKn, hK8, hKs⟩, ⟨hHs, hHz⟩, ⟨hLn, hL6, hLc⟩, hFl, ⟨hRs, hRp⟩, hCh⟩ := id hA
  obtain ⟨m1, m2, ⟨r1, r2, r3, r4, r5, r6, r7, r8, r9, r10, r11, r12, r13⟩, ⟨k1, k2, k3, k4, k5, k6, k7, k8, k9, k10, k11, k12, k13⟩, z1, z2, z3, z4, z5, z6, z7, z8, z9, z10, z11, z12, z13⟩ := id hM
  refine J_aload_n (m) dX8_faultPosition_0 rfl rfl ?_
  refine J_iconst (x := 0) dX8_faultPosition_1 (by decide) ?_
  refine J_puti (j := 11) (x := (0)) dX8_faultPosition_2 (fun _ h => List.mem_cons_of_mem _ (List.mem_append_right _ (h))) cs11 cty11 (by decide) rfl (List.mem_of_getElem? (i := 1) rfl) rfl rfl ⟨rfl, rfl⟩ (show m < jn M from by omega) m2 ?_
  refine J_aload_n (m) dX8_faultPosition_5 rfl rfl ?_
  refine J_geti (j := 7) dX8_faultPosition_6 (fun _ h => List.mem_cons_of_mem _ (List.mem_append_right _ (h))) cs11 (by decide) rfl (List.mem_of_getElem? (i := 2) rfl) rfl (show m < jn M from by omega) m2 ?_
  refine J_topi (y := (cFl A)) ((ji_ne_i (by omega) hFl)) ?_
  exact J_iret (ty := .int) dX8_faultPosition_9 rfl (rfl) (by exact ⟨Or.inl ⟨ji_Sis, rfl⟩, (hA).si rfl, (mFr.rf).si ⟨by omega, by omega⟩, _, rfl⟩)

theorem dX8_size_0 : decode cX8_size 0 = .ok (.aload_n 0, 1) := by decide +kernel
theorem dX8_size_1 : decode cX8_size 1 = .ok (.iload_n 1, 1) := by decide +kernel
theorem dX8_size_2 : decode cX8_size 2 = .ok (.invokevirtual 208, 3) := by decide +kernel
set_option maxRecDepth 20000 in
theorem ggX8_size_X8_fails1 : GoodIn wsX8_size wsX8_fails1 := goodIn_ca (goodIn_r _ [6, 7, 8, 5, 9, 10, 11, 12, 13, 1, 14, 15, 16, 17, 18, 19, 20, 21, 22, 23, 24, 25, 26, 27, 28, 29, 30, 31, 32, 33, 34, 35, 36, 37, 38, 39, 40, 41, 42, 43, 44, 45, 46, 47, 48, 49] (by decide +kernel) (by decide +kernel)) (goodIn_sub (fun _ h => List.mem_cons_of_mem _ (List.mem_append_right _ h)) (by decide +kernel))
set_option maxRecDepth 20000 in
theorem gX8_size_X8_fails1 : GoodIn wsX8_size (wsV RX8 208 RX8 yX8_fails1 wsX8_fails1) := goodIn_app (goodIn_of _ (by decide +kernel)) ggX8_size_X8_fails1
theorem dX8_size_5 : decode cX8_size 5 = .ok (.ifCond .eq 5, 3) := by decide +kernel
theorem dX8_size_10 : decode cX8_size 10 = .ok (.iconst 0, 1) := by decide +kernel
theorem dX8_size_11 : decode cX8_size 11 = .ok (.istore_n 2, 1) := by decide +kernel
theorem dX8_size_12 : decode cX8_size 12 = .ok (.iconst 0, 1) := by decide +kernel
theorem dX8_size_14 : decode cX8_size 14 = .ok (.iload_n 3, 1) := by decide +kernel
theorem dX8_size_15 : decode cX8_size 15 = .ok (.aload_n 0, 1) := by decide +kernel
theorem dX8_size_16 : decode cX8_size 16 = .ok (.getfield 9, 3) := by decide +kernel
theorem dX8_size_19 : decode cX8_size 19 = .ok (.bipush 33, 2) := by decide +kernel
theorem dX8_size_21 : decode cX8_size 21 = .ok (.iload_n 1, 1) := by decide +kernel
theorem dX8_size_22 : decode cX8_size 22 = .ok (.imul, 1) := by decide +kernel
theorem dX8_size_23 : decode cX8_size 23 = .ok (.iaload, 1) := by decide +kernel
theorem dX8_size_24 : decode cX8_size 24 = .ok (.if_icmp .ge 45, 3) := by decide +kernel
theorem dX8_size_69 : decode cX8_size 69 = .ok (.iload_n 2, 1) := by decide +kernel
theorem dX8_size_70 : decode cX8_size 70 = .ok (.ireturn, 1) := by decide +kernel
theorem dX8_size_27 : decode cX8_size 27 = .ok (.iload_n 2, 1) := by decide +kernel
theorem dX8_size_28 : decode cX8_size 28 = .ok (.aload_n 0, 1) := by decide +kernel
theorem dX8_size_29 : decode cX8_size 29 = .ok (.getfield 9, 3) := by decide +kernel
theorem dX8_size_32 : decode cX8_size 32 = .ok (.bipush 33, 2) := by decide +kernel
theorem dX8_size_34 : decode cX8_size 34 = .ok (.iload_n 1, 1) := by decide +kernel
theorem dX8_size_35 : decode cX8_size 35 = .ok (.imul, 1) := by decide +kernel
theorem dX8_size_36 : decode cX8_size 36 = .ok (.iconst 2, 1) := by decide +kernel
theorem dX8_size_37 : decode cX8_size 37 = .ok (.iadd, 1) := by decide +kernel
theorem dX8_size_38 : decode cX8_size 38 = .ok (.iconst 2, 1) := by decide +kernel
theorem dX8_size_39 : decode cX8_size 39 = .ok (.iload_n 3, 1) := by decide +kernel
theorem dX8_size_40 : decode cX8_size 40 = .ok (.imul, 1) := by decide +kernel
theorem dX8_size_41 : decode cX8_size 41 = .ok (.iadd, 1) := by decide +kernel
theorem dX8_size_42 : decode cX8_size 42 = .ok (.iaload, 1) := by decide +kernel
theorem dX8_size_43 : decode cX8_size 43 = .ok (.aload_n 0, 1) := by decide +kernel
theorem dX8_size_44 : decode cX8_size 44 = .ok (.getfield 9, 3) := by decide +kernel
theorem dX8_size_47 : decode cX8_size 47 = .ok (.bipush 33, 2) := by decide +kernel
theorem dX8_size_49 : decode cX8_size 49 = .ok (.iload_n 1, 1) := by decide +kernel
theorem dX8_size_50 : decode cX8_size 50 = .ok (.imul, 1) := by decide +kernel
theorem dX8_size_51 : decode cX8_size 51 = .ok (.iconst 1, 1) := by decide +kernel
theorem dX8_size_52 : decode cX8_size 52 = .ok (.iadd, 1) := by decide +kernel
theorem dX8_size_53 : decode cX8_size 53 = .ok (.iconst 2, 1) := by decide +kernel
theorem dX8_size_54 : decode cX8_size 54 = .ok (.iload_n 3, 1) := by decide +kernel
theorem dX8_size_55 : decode cX8_size 55 = .ok (.imul, 1) := by decide +kernel
theorem dX8_size_56 : decode cX8_size 56 = .ok (.iadd, 1) := by decide +kernel
theorem dX8_size_57 : decode cX8_size 57 = .ok (.iaload, 1) := by decide +kernel
theorem dX8_size_58 : decode cX8_size 58 = .ok (.isub, 1) := by decide +kernel
theorem dX8_size_59 : decode cX8_size 59 = .ok (.iconst 1, 1) := by decide +kernel
theorem dX8_size_60 : decode cX8_size 60 = .ok (.iadd, 1) := by decide +kernel
theorem dX8_size_61 : decode cX8_size 61 = .ok (.iadd, 1) := by decide +kernel
theorem dX8_size_62 : decode cX8_size 62 = .ok (.istore_n 2, 1) := by decide +kernel
theorem dX8_size_63 : decode cX8_size 63 = .ok (.iinc 3 1, 3) := by decide +kernel
theorem dX8_size_66 : decode cX8_size 66 = .ok (.goto (-52), 3) := by decide +kernel
theorem dX8_size_13 : decode cX8_size 13 = .ok (.istore_n 3, 1) := by decide +kernel
theorem dX8_size_8 : decode cX8_size 8 = .ok (.iconst 0, 1) := by decide +kernel
theorem dX8_size_9 : decode cX8_size 9 = .ok (.ireturn, 1) := by decide +kernel
set_option maxHeartbeats 400000 in
set_option maxRecDepth 20000 in
theorem ct_X8_size (l : Launch) (D : va_G) (dA : Nat → ClassId) (hst : l.stackTraces = false) (M : jM) (m : Nat) (A : cA) (hA : mAb M m A) (hW : zWf (cNw A))(s : Int32) : jCT l D dA yX8_size wsX8_size (22) (420) (0) (0) 1 [.ref (m), .int (s)] M (mRl M m [xIOOBE, xNSE] (oSl s (oRn A s (fun w => oI (rSize w.2 w.1 w.1)))) A) := by
  refine jBody (cc := cX8_size) (nL := 4) (rt := (some .int)) (ini := false) (by decide) rfl hst (Nat.le_of_ble_eq_true rfl) (by simp [Value.category]) (by intro h9; first | exact absurd h9 (by decide) | rfl) ?_
  show J l D dA RX8 cX8_size wsX8_size 4 false (some .int) [] (22) (420) (jF D dA (jn M) (mRl M m [xIOOBE, xNSE] (oSl s (oRn A s (fun w => oI (rSize w.2 w.1 w.1)))) A) 1) (jn M) (0) (0) (M) 0 [.ref (m), .int (s), .float 0, .float 0] []
  obtain ⟨hM, hz, ⟨hKn, hK8, hKs⟩, ⟨hHs, hHz⟩, ⟨hLn, hL6, hLc⟩, hFl, ⟨hRs, hRp⟩, hCh⟩ := id hA
  obtain ⟨m1, m2, ⟨r1, r2, r3, r4, r5, r6, r7, r8, r9, r10, r11, r12, r13⟩, ⟨k1, k2, k3, k4, k5, k6, k7, k8, k9, k10, k11, k12, k13⟩, z1, z2, z3, z4, z5, z6, z7, z8, z9, z10, z11, z12, z13⟩ := id hM
  refine J_aload_n (m) dX8_size_0 rfl rfl ?_
  refine J_iload_n dX8_size_1 rfl rfl ?_
  refine J_calli0 (jrunV (As := [.int (s)]) (ct_X8_fails1 l D dA hst M m hM (cNw A) hz ((s))) dX8_size_2 yY_X8_fails1 gX8_size_X8_fails1 rfl cs11 (show m < jn M from by omega) m2 rfl ⟨by omega, by omega⟩ ⟨Nat.zero_le _, Nat.zero_le _⟩ rfl (Nat.le_of_ble_eq_true rfl)) (rfl) (rfl) ?_
  refine J_if_eq dX8_size_5 (tgt := 10) (by decide) (fun c5 => ?_) (fun c5 => ?_)
  · have c5 := jb0T c5
    obtain ⟨hf0, hs0, k, w, hk, rfl, hzk, hat⟩ := mF1_ok (of_decide_eq_false c5)
    have hx := hz.at0 hk; rw [hzk] at hx
    have h16 := hx.2.1
    have hw := hW.1 _ _ hzk
    refine J_mem (M' := jSi M m 11 0) (by rw [hf0]) ?_
    refine J_iconst (x := 0) dX8_size_10 (by decide) ?_
    refine J_istore_n (lv' := [.ref (m), .int (nI (k)), .int (0), .float 0]) dX8_size_11 rfl (by decide) rfl rfl ?_
    refine J_iconst (x := 0) dX8_size_12 (by decide) ?_
    have L14 : ∀ (fuel : Nat) (j : Nat) (hj : j ≤ w.1), w.1 - j < fuel → J l D dA RX8 cX8_size wsX8_size 4 false (some .int) [] (22) (420) (jF D dA (jn M) (mRl M m [xIOOBE, xNSE] (oSl (nI k) (oRn A (nI k) (fun w => oI (rSize w.2 w.1 w.1)))) A) 1) (jn M) (0) (0) ((jSi M m 11 (0))) 14 [.ref (m), .int (nI (k)), .int (rSize w.2 w.1 j), .int (nI (j))] [] := by
      intro fuel
      induction fuel with
      | zero => intro j hj hm; exact absurd hm (Nat.not_lt_zero _)
      | succ fuel ih14 =>
        intro j hj hm14
        refine J_iload_n dX8_size_14 rfl rfl ?_
        refine J_aload_n (m) dX8_size_15 rfl rfl ?_
        refine J_getrs (q := m + 1) r1 dX8_size_16 (fun _ h => List.mem_cons_of_mem _ (List.mem_append_left _ (List.mem_append_right _ (h)))) cs11 (by decide) rfl (List.mem_of_getElem? (i := 1) rfl) rfl (show m < jn M from by omega) m2 ?_
        refine J_bipush (x := 33) dX8_size_19 (by decide) ?_
        refine J_iload_n dX8_size_21 rfl rfl ?_
        refine J_imul dX8_size_22 ?_
        refine J_topi (y := nI (33 * k)) (pk_mul (33) (k)) ?_
        refine J_ialdN (k := 33 * k) dX8_size_23 (show m + 1 < jn M from by omega) k1 (by exact Nat.lt_of_lt_of_eq (show _ < 427 by omega) (Eq.symm z1)) (by exact Nat.lt_of_le_of_lt (Nat.le_of_eq z1) (show 427 < 2 ^ 31 by omega)) ?_
        refine J_topi (y := nI (w.1)) (by rw [ji_Sin (by omega)]; exact hx.hd) ?_
        refine J_icmp_ge dX8_size_24 (tgt := 69) (by decide) (fun c24 => ?_) (fun c24 => ?_)
        · have c24 := jleT (a := w.1) (b := j) (by omega) (by omega) c24
          refine J_iload_n dX8_size_69 rfl rfl ?_
          exact J_iret (ty := .int) dX8_size_70 rfl (rfl) (by rw [show j = w.1 from by omega]; exact ⟨Or.inl ⟨ji_Sis, by rw [oSl_t hs0, oRn_s hat]⟩, (hA).si rfl, (mFr.rf).si ⟨by omega, by omega⟩, _, rfl⟩)
        · have c24 := jleF (a := w.1) (b := j) (by omega) (by omega) c24
          refine J_iload_n dX8_size_27 rfl rfl ?_
          refine J_aload_n (m) dX8_size_28 rfl rfl ?_
          refine J_getrs (q := m + 1) r1 dX8_size_29 (fun _ h => List.mem_cons_of_mem _ (List.mem_append_left _ (List.mem_append_right _ (h)))) cs11 (by decide) rfl (List.mem_of_getElem? (i := 1) rfl) rfl (show m < jn M from by omega) m2 ?_
          refine J_bipush (x := 33) dX8_size_32 (by decide) ?_
          refine J_iload_n dX8_size_34 rfl rfl ?_
          refine J_imul dX8_size_35 ?_
          refine J_topi (y := nI (33 * k)) (pk_mul (33) (k)) ?_
          refine J_iconst (x := 2) dX8_size_36 (by decide) ?_
          refine J_iadd dX8_size_37 ?_
          refine J_topi (y := nI (33 * k + 2)) (nI_add (33 * k) (2)) ?_
          refine J_iconst (x := 2) dX8_size_38 (by decide) ?_
          refine J_iload_n dX8_size_39 rfl rfl ?_
          refine J_imul dX8_size_40 ?_
          refine J_topi (y := nI (2 * j)) (pk_mul (2) (j)) ?_
          refine J_iadd dX8_size_41 ?_
          refine J_topi (y := nI (33 * k + 2 + 2 * j)) (nI_add (33 * k + 2) (2 * j)) ?_
          refine J_ialdN (k := 33 * k + 2 + 2 * j) dX8_size_42 (show m + 1 < jn M from by omega) k1 (by exact Nat.lt_of_lt_of_eq (show _ < 427 by omega) (Eq.symm z1)) (by exact Nat.lt_of_le_of_lt (Nat.le_of_eq z1) (show 427 < 2 ^ 31 by omega)) ?_
          refine J_topi (y := (rLast w.2 w.1 j)) (by rw [ji_Sin (by omega)]; unfold rLast; rw [if_pos (by omega)]; exact (congrArg _ (by omega)).trans (hx.hi (k := j) (by omega))) ?_
          refine J_aload_n (m) dX8_size_43 rfl rfl ?_
          refine J_getrs (q := m + 1) r1 dX8_size_44 (fun _ h => List.mem_cons_of_mem _ (List.mem_append_left _ (List.mem_append_right _ (h)))) cs11 (by decide) rfl (List.mem_of_getElem? (i := 1) rfl) rfl (show m < jn M from by omega) m2 ?_
          refine J_bipush (x := 33) dX8_size_47 (by decide) ?_
          refine J_iload_n dX8_size_49 rfl rfl ?_
          refine J_imul dX8_size_50 ?_
          refine J_topi (y := nI (33 * k)) (pk_mul (33) (k)) ?_
          refine J_iconst (x := 1) dX8_size_51 (by decide) ?_
          refine J_iadd dX8_size_52 ?_
          refine J_topi (y := nI (33 * k + 1)) (nI_add (33 * k) (1)) ?_
          refine J_iconst (x := 2) dX8_size_53 (by decide) ?_
          refine J_iload_n dX8_size_54 rfl rfl ?_
          refine J_imul dX8_size_55 ?_
          refine J_topi (y := nI (2 * j)) (pk_mul (2) (j)) ?_
          refine J_iadd dX8_size_56 ?_
          refine J_topi (y := nI (33 * k + 1 + 2 * j)) (nI_add (33 * k + 1) (2 * j)) ?_
          refine J_ialdN (k := 33 * k + 1 + 2 * j) dX8_size_57 (show m + 1 < jn M from by omega) k1 (by exact Nat.lt_of_lt_of_eq (show _ < 427 by omega) (Eq.symm z1)) (by exact Nat.lt_of_le_of_lt (Nat.le_of_eq z1) (show 427 < 2 ^ 31 by omega)) ?_
          refine J_topi (y := (rFirst w.2 w.1 j)) (by rw [ji_Sin (by omega)]; unfold rFirst; rw [if_pos (by omega)]; exact (congrArg _ (by omega)).trans (hx.lo (k := j) (by omega))) ?_
          refine J_isub dX8_size_58 ?_
          refine J_iconst (x := 1) dX8_size_59 (by decide) ?_
          refine J_iadd dX8_size_60 ?_
          refine J_iadd dX8_size_61 ?_
          refine J_topi (y := rSize w.2 w.1 (j + 1)) (by rfl) ?_
          refine J_istore_n (lv' := [.ref (m), .int (nI (k)), .int (rSize w.2 w.1 (j + 1)), .int (nI (j))]) dX8_size_62 rfl (by decide) rfl rfl ?_
          refine J_iinc (y := nI (j + 1)) (lv' := [.ref (m), .int (nI (k)), .int (rSize w.2 w.1 (j + 1)), .int (nI (j + 1))]) dX8_size_63 rfl (jinc (j)) (by decide) rfl rfl ?_
          refine J_goto (tgt := 14) dX8_size_66 (by decide) ?_
          exact ih14 (j + 1) (by omega) (by omega)
    refine J_istore_n (lv' := [.ref (m), .int (nI (k)), .int (0), .int (0)]) dX8_size_13 rfl (by decide) rfl rfl ?_
    exact L14 _ (0) (by omega) (Nat.lt_succ_self _)
  · have c5 := jb0F c5
    refine J_iconst (x := 0) dX8_size_8 (by decide) ?_
    exact J_iret (ty := .int) dX8_size_9 rfl (rfl) (by refine ⟨?_, (hA).si rfl, (mFr.rf).si ⟨by omega, by omega⟩, _, rfl⟩; simp only [ji_Si, and_self, if_true, reduceIte, reduceCtorEq, and_false, if_false, Nat.reduceEqDiff]; first | exact mF1_x (of_decide_eq_true c5) | fail "rl")

theorem dX8_matches_5 : decode cX8_matches 5 = .ok (.iload 4, 2) := by decide +kernel
theorem dX8_matches_7 : decode cX8_matches 7 = .ok (.aload_n 0, 1) := by decide +kernel
theorem dX8_matches_8 : decode cX8_matches 8 = .ok (.getfield 9, 3) := by decide +kernel
theorem dX8_matches_11 : decode cX8_matches 11 = .ok (.sipush 396, 3) := by decide +kernel
theorem dX8_matches_14 : decode cX8_matches 14 = .ok (.iaload, 1) := by decide +kernel
theorem dX8_matches_15 : decode cX8_matches 15 = .ok (.if_icmp .ge 37, 3) := by decide +kernel
theorem dX8_matches_52 : decode cX8_matches 52 = .ok (.iload_n 3, 1) := by decide +kernel
theorem dX8_matches_53 : decode cX8_matches 53 = .ok (.ireturn, 1) := by decide +kernel
theorem dX8_matches_18 : decode cX8_matches 18 = .ok (.iload_n 3, 1) := by decide +kernel
theorem dX8_matches_19 : decode cX8_matches 19 = .ok (.aload_n 0, 1) := by decide +kernel
theorem dX8_matches_20 : decode cX8_matches 20 = .ok (.iload_n 1, 1) := by decide +kernel
theorem dX8_matches_21 : decode cX8_matches 21 = .ok (.aload_n 0, 1) := by decide +kernel
theorem dX8_matches_22 : decode cX8_matches 22 = .ok (.getfield 9, 3) := by decide +kernel
theorem dX8_matches_25 : decode cX8_matches 25 = .ok (.sipush 397, 3) := by decide +kernel
theorem dX8_matches_28 : decode cX8_matches 28 = .ok (.iload 4, 2) := by decide +kernel
theorem dX8_matches_30 : decode cX8_matches 30 = .ok (.iadd, 1) := by decide +kernel
theorem dX8_matches_31 : decode cX8_matches 31 = .ok (.iaload, 1) := by decide +kernel
theorem dX8_matches_32 : decode cX8_matches 32 = .ok (.iload_n 2, 1) := by decide +kernel
theorem dX8_matches_33 : decode cX8_matches 33 = .ok (.invokevirtual 218, 3) := by decide +kernel
set_option maxRecDepth 20000 in
theorem ggX8_matches_X8_isIn : GoodIn wsX8_matches wsX8_isIn := goodIn_ca (goodIn_r _ [6, 1, 7, 8, 9, 10, 5, 11, 12, 13, 14, 15, 16, 17, 18, 19, 20, 21, 22, 23, 24, 25, 26, 27, 28, 29, 30, 31, 32, 33, 34, 35, 36, 37, 38, 39, 40, 41, 42, 43, 44, 45] (by decide +kernel) (by decide +kernel)) (goodIn_sub (fun _ h => List.mem_cons_of_mem _ (List.mem_append_right _ h)) (by decide +kernel))
set_option maxRecDepth 20000 in
theorem gX8_matches_X8_isIn : GoodIn wsX8_matches (wsV RX8 218 RX8 yX8_isIn wsX8_isIn) := goodIn_app (goodIn_of _ (by decide +kernel)) ggX8_matches_X8_isIn
theorem dX8_matches_36 : decode cX8_matches 36 = .ok (.ifCond .eq 7, 3) := by decide +kernel
theorem dX8_matches_43 : decode cX8_matches 43 = .ok (.iconst 0, 1) := by decide +kernel
theorem dX8_matches_44 : decode cX8_matches 44 = .ok (.iadd, 1) := by decide +kernel
theorem dX8_matches_45 : decode cX8_matches 45 = .ok (.istore_n 3, 1) := by decide +kernel
theorem dX8_matches_46 : decode cX8_matches 46 = .ok (.iinc 4 1, 3) := by decide +kernel
theorem dX8_matches_49 : decode cX8_matches 49 = .ok (.goto (-44), 3) := by decide +kernel
theorem dX8_matches_39 : decode cX8_matches 39 = .ok (.iconst 1, 1) := by decide +kernel
theorem dX8_matches_40 : decode cX8_matches 40 = .ok (.goto 4, 3) := by decide +kernel
theorem dX8_matches_0 : decode cX8_matches 0 = .ok (.iconst 0, 1) := by decide +kernel
theorem dX8_matches_1 : decode cX8_matches 1 = .ok (.istore_n 3, 1) := by decide +kernel
theorem dX8_matches_2 : decode cX8_matches 2 = .ok (.iconst 0, 1) := by decide +kernel
theorem dX8_matches_3 : decode cX8_matches 3 = .ok (.istore 4, 2) := by decide +kernel
set_option maxHeartbeats 400000 in
set_option maxRecDepth 20000 in
theorem ct_X8_matches (l : Launch) (D : va_G) (dA : Nat → ClassId) (hst : l.stackTraces = false) (M : jM) (m : Nat) (hM : mOk M m) (z : cSt) (hz : mSt (ji M (m + 1)) 0 z) (k : Nat) (hk : k < 12) (w : rVl) (hw : rWf w) (hx : mSlot (ji M (m + 1)) (33 * k) (some w)) (b : Bool) : jCT l D dA yX8_matches wsX8_matches (23) (480) (0) (0) 1 [.ref (m), .int (nI (k)), .int (jb (b))] M (mMt M m (jcnt (fun p => rHoldsFor w.2 w.1 b (z.2.2 p)) z.2.1)) := by
  refine jBody (cc := cX8_matches) (nL := 5) (rt := (some .int)) (ini := false) (by decide) rfl hst (Nat.le_of_ble_eq_true rfl) (by simp [Value.category]) (by intro h9; first | exact absurd h9 (by decide) | rfl) ?_
  show J l D dA RX8 cX8_matches wsX8_matches 5 false (some .int) [] (23) (480) (jF D dA (jn M) (mMt M m (jcnt (fun p => rHoldsFor w.2 w.1 b (z.2.2 p)) z.2.1)) 1) (jn M) (0) (0) (M) 0 [.ref (m), .int (nI (k)), .int (jb (b)), .float 0, .float 0] []
  obtain ⟨m1, m2, ⟨r1, r2, r3, r4, r5, r6, r7, r8, r9, r10, r11, r12, r13⟩, ⟨k1, k2, k3, k4, k5, k6, k7, k8, k9, k10, k11, k12, k13⟩, z1, z2, z3, z4, z5, z6, z7, z8, z9, z10, z11, z12, z13⟩ := id hM
  have h16 := hx.2.1
  have hc30 := hz.2.2.1
  have L5 : ∀ (fuel : Nat) (j : Nat) (y : Int32) (hj : j ≤ z.2.1), z.2.1 - j < fuel → J l D dA RX8 cX8_matches wsX8_matches 5 false (some .int) [] (23) (480) (jF D dA (jn M) (mMt M m (jcnt (fun p => rHoldsFor w.2 w.1 b (z.2.2 p)) z.2.1)) 1) (jn M) (0) (0) ((jSi M m 14 y)) 5 [.ref (m), .int (nI (k)), .int (jb (b)), .int (nI (jcnt (fun p => rHoldsFor w.2 w.1 b (z.2.2 p)) j)), .int (nI (j))] [] := by
    intro fuel
    induction fuel with
    | zero => intro j y hj hm; exact absurd hm (Nat.not_lt_zero _)
    | succ fuel ih5 =>
      intro j y hj hm5
      have hcl := jcnt_le9 (fun p => rHoldsFor w.2 w.1 b (z.2.2 p)) j
      refine J_iload dX8_matches_5 rfl ?_
      refine J_aload_n (m) dX8_matches_7 rfl rfl ?_
      refine J_getrs (q := m + 1) r1 dX8_matches_8 (fun _ h => List.mem_cons_of_mem _ (List.mem_append_left _ (List.mem_append_right _ (h)))) cs11 (by decide) rfl (List.mem_of_getElem? (i := 1) rfl) rfl (show m < jn M from by omega) m2 ?_
      refine J_sipush (x := 396) dX8_matches_11 (by decide) ?_
      refine J_ialdN (k := 396) dX8_matches_14 (show m + 1 < jn M from by omega) k1 (by exact Nat.lt_of_lt_of_eq (show _ < 427 by omega) (Eq.symm z1)) (by exact Nat.lt_of_le_of_lt (Nat.le_of_eq z1) (show 427 < 2 ^ 31 by omega)) ?_
      refine J_topi (y := nI (z.2.1)) (by rw [ji_Sin (by omega)]; exact hz.2.1) ?_
      refine J_icmp_ge dX8_matches_15 (tgt := 52) (by decide) (fun c15 => ?_) (fun c15 => ?_)
      · have c15 := jleT (a := z.2.1) (b := j) (by omega) (by omega) c15
        refine J_iload_n dX8_matches_52 rfl rfl ?_
        exact J_iret (ty := .int) dX8_matches_53 rfl (rfl) (by rw [show j = z.2.1 from by omega]; exact ⟨_, rfl, rfl⟩)
      · have c15 := jleF (a := z.2.1) (b := j) (by omega) (by omega) c15
        refine J_iload_n dX8_matches_18 rfl rfl ?_
        refine J_aload_n (m) dX8_matches_19 rfl rfl ?_
        refine J_iload_n dX8_matches_20 rfl rfl ?_
        refine J_aload_n (m) dX8_matches_21 rfl rfl ?_
        refine J_getrs (q := m + 1) r1 dX8_matches_22 (fun _ h => List.mem_cons_of_mem _ (List.mem_append_left _ (List.mem_append_right _ (h)))) cs11 (by decide) rfl (List.mem_of_getElem? (i := 1) rfl) rfl (show m < jn M from by omega) m2 ?_
        refine J_sipush (x := 397) dX8_matches_25 (by decide) ?_
        refine J_iload dX8_matches_28 rfl ?_
        refine J_iadd dX8_matches_30 ?_
        refine J_topi (y := nI (397 + j)) (nI_add (397) (j)) ?_
        refine J_ialdN (k := 397 + j) dX8_matches_31 (show m + 1 < jn M from by omega) k1 (by exact Nat.lt_of_lt_of_eq (show _ < 427 by omega) (Eq.symm z1)) (by exact Nat.lt_of_le_of_lt (Nat.le_of_eq z1) (show 427 < 2 ^ 31 by omega)) ?_
        refine J_topi (y := (z.2.2 j)) (by rw [ji_Sin (by omega)]; exact hz.2.2.2 j (by omega)) ?_
        refine J_iload_n dX8_matches_32 rfl rfl ?_
        refine J_calli (jrunV (As := [.int (nI (k)), .int (z.2.2 j), .int (jb (b))]) (ct_X8_isIn l D dA hst ((jSi M m 14 y)) m hM k hk w hw ((hx).si (by omega)) ((z.2.2 j)) (b)) dX8_matches_33 yY_X8_isIn gX8_matches_X8_isIn rfl cs11 (show m < jn M from by omega) m2 rfl ⟨by omega, by omega⟩ ⟨Nat.zero_le _, Nat.zero_le _⟩ rfl (Nat.le_of_ble_eq_true rfl)) ⟨Nat.zero_le _, Nat.zero_le _⟩ (Or.inr ⟨(jOk.ref (show m < jn M from by omega) (jOk.int (jOk.int (jOk.int (jOk.int jOk.nil))))), (jOk.int jOk.nil)⟩) (fun E M9 hp _ => by obtain ⟨_, h1, _⟩ := hp; cases h1) (fun x9 M1 hp33 hle33 => ?_)
        obtain ⟨xi33, he, rfl⟩ := hp33
        cases he
        refine J_mem (M' := jSi M m 14 xi33) (by exact jSi_jSi _ _ _ _ _) ?_
        refine J_if_eq dX8_matches_36 (tgt := 43) (by decide) (fun c36 => ?_) (fun c36 => ?_)
        · have c36 := jb0T c36
          refine J_iconst (x := 0) dX8_matches_43 (by decide) ?_
          refine J_iadd dX8_matches_44 ?_
          refine J_topi (y := nI (jcnt (fun p => rHoldsFor w.2 w.1 b (z.2.2 p)) j + 0)) (nI_add (jcnt (fun p => rHoldsFor w.2 w.1 b (z.2.2 p)) j) (0)) ?_
          refine J_topi (y := nI (jcnt (fun p => rHoldsFor w.2 w.1 b (z.2.2 p)) (j + 1))) (by rw [jcnt_s]; first | (rw [if_pos c36]; done) | (rw [if_neg (by rw [c36]; decide)]; done) | (rw [if_pos c36]; rfl) | (rw [if_neg (by rw [c36]; decide)]; rfl)) ?_
          refine J_istore_n (lv' := [.ref (m), .int (nI (k)), .int (jb (b)), .int (nI (jcnt (fun p => rHoldsFor w.2 w.1 b (z.2.2 p)) (j + 1))), .int (nI (j))]) dX8_matches_45 rfl (by decide) rfl rfl ?_
          refine J_iinc (y := nI (j + 1)) (lv' := [.ref (m), .int (nI (k)), .int (jb (b)), .int (nI (jcnt (fun p => rHoldsFor w.2 w.1 b (z.2.2 p)) (j + 1))), .int (nI (j + 1))]) dX8_matches_46 rfl (jinc (j)) (by decide) rfl rfl ?_
          refine J_goto (tgt := 5) dX8_matches_49 (by decide) ?_
          exact ih5 (j + 1) (xi33) (by omega) (by omega)
        · have c36 := jb0F c36
          refine J_iconst (x := 1) dX8_matches_39 (by decide) ?_
          refine J_goto (tgt := 44) dX8_matches_40 (by decide) ?_
          refine J_iadd dX8_matches_44 ?_
          refine J_topi (y := nI (jcnt (fun p => rHoldsFor w.2 w.1 b (z.2.2 p)) j + 1)) (nI_add (jcnt (fun p => rHoldsFor w.2 w.1 b (z.2.2 p)) j) (1)) ?_
          refine J_topi (y := nI (jcnt (fun p => rHoldsFor w.2 w.1 b (z.2.2 p)) (j + 1))) (by rw [jcnt_s]; first | (rw [if_pos c36]; done) | (rw [if_neg (by rw [c36]; decide)]; done) | (rw [if_pos c36]; rfl) | (rw [if_neg (by rw [c36]; decide)]; rfl)) ?_
          refine J_istore_n (lv' := [.ref (m), .int (nI (k)), .int (jb (b)), .int (nI (jcnt (fun p => rHoldsFor w.2 w.1 b (z.2.2 p)) (j + 1))), .int (nI (j))]) dX8_matches_45 rfl (by decide) rfl rfl ?_
          refine J_iinc (y := nI (j + 1)) (lv' := [.ref (m), .int (nI (k)), .int (jb (b)), .int (nI (jcnt (fun p => rHoldsFor w.2 w.1 b (z.2.2 p)) (j + 1))), .int (nI (j + 1))]) dX8_matches_46 rfl (jinc (j)) (by decide) rfl rfl ?_
          refine J_goto (tgt := 5) dX8_matches_49 (by decide) ?_
          exact ih5 (j + 1) (xi33) (by omega) (by omega)
  refine J_iconst (x := 0) dX8_matches_0 (by decide) ?_
  refine J_istore_n (lv' := [.ref (m), .int (nI (k)), .int (jb (b)), .int (0), .float 0]) dX8_matches_1 rfl (by decide) rfl rfl ?_
  refine J_iconst (x := 0) dX8_matches_2 (by decide) ?_
  refine J_mem (M' := jSi M m 14 (ji M m 14)) (by exact (jSi_self rfl).symm) ?_
  refine J_istore (lv' := [.ref (m), .int (nI (k)), .int (jb (b)), .int (0), .int (0)]) dX8_matches_3 (by decide) rfl rfl ?_
  exact L5 _ (0) (ji M m 14) (by omega) (Nat.lt_succ_self _)

