theorem mAb.upd {M N : jM} {m : Nat} {A B : cA} (h : mAb M m A) (hO : mOk N m) (hL : B.1 = A.1) (hF : cFl B = cFl A) (hR : cRs B = cRs A) (hC : cCh B = cCh A) (e4 : ji N (m + 4) = ji M (m + 4)) (e5 : ji N (m + 5) = ji M (m + 5)) (f : ∀ k, k ≠ 3 → k ≠ 4 → k ≠ 11 → ji N m k = ji M m k) (hz : mSt (ji N (m + 1)) 0 (cNw B)) (hK : ji N m 4 = nI (cKp B) ∧ cKp B ≤ 8 ∧ ∀ i, i < cKp B → mSt (ji N (m + 2)) (427 * i) (cHi B i)) (hs : ji N m 3 = jb (cHs B) ∧ (cHs B = true → mSt (ji N (m + 3)) 0 (cSn B))) : mAb N m B := by
  obtain ⟨a1, a2, a3, a4, a5, a6, a7, a8⟩ := h
  refine ⟨hO, hz, hK, hs, ?_, ?_, ?_, ?_⟩
  · have e1 : cL B = cL A := congrArg Prod.fst hL
    have e2 : cC B = cC A := congrArg Prod.snd hL
    rw [e1, e2, e4, f 6 (by decide) (by decide) (by decide)]; exact a5
  · rw [hF, f 7 (by decide) (by decide) (by decide)]; exact a6
  · rw [hR, f 8 (by decide) (by decide) (by decide)]; exact a7
  · rw [hC]
    cases hc : cCh A with
    | none => rw [hc] at a8; exact (f 10 (by decide) (by decide) (by decide)).trans a8
    | some w => rw [hc] at a8; exact ⟨(f 10 (by decide) (by decide) (by decide)).trans a8.1, a8.2.1, fun j hj => by rw [e5]; exact a8.2.2 j hj⟩
theorem mCp_s0 {f g : Nat → Int32} {k : Nat} : (fun j => if j = k then g k else mCp f 0 g k j) = mCp f 0 g (k + 1) := by
  have h := @mCp_s f 0 g k
  simp only [Nat.zero_add] at h
  exact h
theorem mSt.copy {f row : Nat → Int32} {p : Nat} {z : cSt} (h : mSt row p z) : mSt (mCp f 0 (fun i => row (p + i)) 427) 0 z := h.cong (fun j hj => by rw [mCp_in hj])
def uN (M : jM) (m c k : Nat) : jM := jSv (jSi (jSi M m 11 0) m 4 (nI c)) (m + 1) (mCp (ji M (m + 1)) 0 (fun i => ji M (m + 2) (427 * c + i)) k)
theorem mAb.und {M : jM} {m : Nat} {A : cA} (h : mAb M m A) (hk : cKp A ≠ 0) : mAb (uN M m (cKp A - 1) 427) m (cUnd A) := by
  refine h.upd h.1 rfl rfl rfl rfl (funext fun j => ?_) (funext fun j => ?_) (fun k h3 h4 h11 => ?_) ?_ ⟨?_, ?_, fun i hi => ?_⟩ ⟨?_, fun hs => ?_⟩
  · unfold uN; rw [ji_Svn (by omega), ji_Sin (by omega), ji_Sin (by omega)]
  · unfold uN; rw [ji_Svn (by omega), ji_Sin (by omega), ji_Sin (by omega)]
  · unfold uN; rw [ji_Svn (by omega), ji_Sik h4, ji_Sik h11]
  · have e : ji (uN M m (cKp A - 1) 427) (m + 1) = mCp (ji M (m + 1)) 0 (fun i => ji M (m + 2) (427 * (cKp A - 1) + i)) 427 := funext fun j => by unfold uN; rw [ji_Sv, if_pos rfl]
    rw [e]; exact (h.2.2.1.2.2 (cKp A - 1) (by omega)).copy
  · unfold uN; rw [ji_Svn (by omega)]; exact ji_Sis
  · have := h.2.2.1.2.1; show cKp A - 1 ≤ 8; omega
  · have h9 : i < cKp A - 1 := hi
    have e : ji (uN M m (cKp A - 1) 427) (m + 2) = ji M (m + 2) := funext fun j => by unfold uN; rw [ji_Svn (by omega), ji_Sin (by omega), ji_Sin (by omega)]
    rw [e]; exact h.2.2.1.2.2 i (by omega)
  · unfold uN; rw [ji_Svn (by omega), ji_Sik (by decide), ji_Sik (by decide)]; exact h.2.2.2.1.1
  · have e : ji (uN M m (cKp A - 1) 427) (m + 3) = ji M (m + 3) := funext fun j => by unfold uN; rw [ji_Svn (by omega), ji_Sin (by omega), ji_Sin (by omega)]
    rw [e]; exact h.2.2.2.1.2 hs
theorem uN_f {M : jM} {m c k : Nat} : mFr m M (uN M m c k) := ((mFr.rf.si ⟨by omega, by omega⟩).si ⟨by omega, by omega⟩).sv ⟨by omega, by omega⟩
theorem uN_0 {M : jM} {m c : Nat} : jSi (jSi M m 11 0) m 4 (nI c) = uN M m c 0 := by unfold uN; rw [mCp_0]; exact (jSv_g (funext fun j => by rw [ji_Sin (by omega), ji_Sin (by omega)])).symm
theorem uN_s {M : jM} {m c k : Nat} : jSi (uN M m c k) (m + 1) k (ji M (m + 2) (427 * c + k)) = uN M m c (k + 1) := (jSi_Sv _ _ _ _ _).trans (congrArg (jSv _ _) (mCp_s0 (g := fun i => ji M (m + 2) (427 * c + i))))
def rN (M : jM) (m k : Nat) : jM := jSv (jSi (jSi M m 11 0) m 4 0) (m + 1) (mCp (ji M (m + 1)) 0 (fun i => ji M (m + 3) (0 + i)) k)
theorem mAb.res {M : jM} {m : Nat} {A : cA} (h : mAb M m A) (hs9 : cHs A = true) : mAb (rN M m 427) m (cRes A) := by
  refine h.upd h.1 rfl rfl rfl rfl (funext fun j => ?_) (funext fun j => ?_) (fun k h3 h4 h11 => ?_) ?_ ⟨?_, Nat.zero_le _, fun i hi => absurd hi (Nat.not_lt_zero _)⟩ ⟨?_, fun hs => ?_⟩
  · unfold rN; rw [ji_Svn (by omega), ji_Sin (by omega), ji_Sin (by omega)]
  · unfold rN; rw [ji_Svn (by omega), ji_Sin (by omega), ji_Sin (by omega)]
  · unfold rN; rw [ji_Svn (by omega), ji_Sik h4, ji_Sik h11]
  · have e : ji (rN M m 427) (m + 1) = mCp (ji M (m + 1)) 0 (fun i => ji M (m + 3) (0 + i)) 427 := funext fun j => by unfold rN; rw [ji_Sv, if_pos rfl]
    rw [e]; exact (h.2.2.2.1.2 hs9).copy
  · unfold rN; rw [ji_Svn (by omega)]; exact ji_Sis
  · unfold rN; rw [ji_Svn (by omega), ji_Sik (by decide), ji_Sik (by decide)]; exact h.2.2.2.1.1
  · have e : ji (rN M m 427) (m + 3) = ji M (m + 3) := funext fun j => by unfold rN; rw [ji_Svn (by omega), ji_Sin (by omega), ji_Sin (by omega)]
    rw [e]; exact h.2.2.2.1.2 hs
theorem rN_f {M : jM} {m k : Nat} : mFr m M (rN M m k) := ((mFr.rf.si ⟨by omega, by omega⟩).si ⟨by omega, by omega⟩).sv ⟨by omega, by omega⟩
theorem rN_0 {M : jM} {m : Nat} : jSi (jSi M m 11 0) m 4 0 = rN M m 0 := by unfold rN; rw [mCp_0]; exact (jSv_g (funext fun j => by rw [ji_Sin (by omega), ji_Sin (by omega)])).symm
theorem rN_s {M : jM} {m k : Nat} : jSi (rN M m k) (m + 1) k (ji M (m + 3) k) = rN M m (k + 1) := by
  have h := (jSi_Sv (jSi (jSi M m 11 0) m 4 0) (m + 1) k (mCp (ji M (m + 1)) 0 (fun i => ji M (m + 3) (0 + i)) k) (ji M (m + 3) (0 + k))).trans (congrArg (jSv _ _) (mCp_s0 (g := fun i => ji M (m + 3) (0 + i))))
  rw [Nat.zero_add] at h
  exact h
def sN (M : jM) (m k : Nat) : jM := jSv (jSi (jSi M m 11 0) m 3 1) (m + 3) (mCp (ji M (m + 3)) 0 (fun i => ji M (m + 1) (0 + i)) k)
theorem mAb.sav {M : jM} {m : Nat} {A : cA} (h : mAb M m A) : mAb (sN M m 427) m (cSav A) := by
  refine h.upd h.1 rfl rfl rfl rfl (funext fun j => ?_) (funext fun j => ?_) (fun k h3 h4 h11 => ?_) ?_ ⟨?_, h.2.2.1.2.1, fun i hi => ?_⟩ ⟨?_, fun hs => ?_⟩
  · unfold sN; rw [ji_Svn (by omega), ji_Sin (by omega), ji_Sin (by omega)]
  · unfold sN; rw [ji_Svn (by omega), ji_Sin (by omega), ji_Sin (by omega)]
  · unfold sN; rw [ji_Svn (by omega), ji_Sik h3, ji_Sik h11]
  · have e : ji (sN M m 427) (m + 1) = ji M (m + 1) := funext fun j => by unfold sN; rw [ji_Svn (by omega), ji_Sin (by omega), ji_Sin (by omega)]
    rw [e]; exact h.2.1
  · unfold sN; rw [ji_Svn (by omega), ji_Sik (by decide), ji_Sik (by decide)]; exact h.2.2.1.1
  · have e : ji (sN M m 427) (m + 2) = ji M (m + 2) := funext fun j => by unfold sN; rw [ji_Svn (by omega), ji_Sin (by omega), ji_Sin (by omega)]
    rw [e]; exact h.2.2.1.2.2 i hi
  · unfold sN; rw [ji_Svn (by omega)]; exact ji_Sis
  · have e : ji (sN M m 427) (m + 3) = mCp (ji M (m + 3)) 0 (fun i => ji M (m + 1) (0 + i)) 427 := funext fun j => by unfold sN; rw [ji_Sv, if_pos rfl]
    rw [e]; exact h.2.1.copy
theorem sN_f {M : jM} {m k : Nat} : mFr m M (sN M m k) := ((mFr.rf.si ⟨by omega, by omega⟩).si ⟨by omega, by omega⟩).sv ⟨by omega, by omega⟩
theorem sN_0 {M : jM} {m : Nat} : jSi (jSi M m 11 0) m 3 1 = sN M m 0 := by unfold sN; rw [mCp_0]; exact (jSv_g (funext fun j => by rw [ji_Sin (by omega), ji_Sin (by omega)])).symm
theorem sN_s {M : jM} {m k : Nat} : jSi (sN M m k) (m + 3) k (ji M (m + 1) k) = sN M m (k + 1) := by
  have h := (jSi_Sv (jSi (jSi M m 11 0) m 3 1) (m + 3) k (mCp (ji M (m + 3)) 0 (fun i => ji M (m + 1) (0 + i)) k) (ji M (m + 1) (0 + k))).trans (congrArg (jSv _ _) (mCp_s0 (g := fun i => ji M (m + 1) (0 + i))))
  rw [Nat.zero_add] at h
  exact h
theorem dX8_undo_0 : decode cX8_undo 0 = .ok (.aload_n 0, 1) := by decide +kernel
theorem dX8_undo_1 : decode cX8_undo 1 = .ok (.aload_n 0, 1) := by decide +kernel
theorem dX8_undo_2 : decode cX8_undo 2 = .ok (.getfield 60, 3) := by decide +kernel
theorem dX8_undo_5 : decode cX8_undo 5 = .ok (.ifCond .ne 7, 3) := by decide +kernel
theorem dX8_undo_12 : decode cX8_undo 12 = .ok (.iconst 0, 1) := by decide +kernel
theorem dX8_undo_13 : decode cX8_undo 13 = .ok (.invokevirtual 148, 3) := by decide +kernel
set_option maxRecDepth 20000 in
theorem ggX8_undo_X8_fails : GoodIn wsX8_undo wsX8_fails := goodIn_r _ [8, 9, 10, 11, 12, 13, 14, 15, 16, 17, 18, 19, 20, 21, 22, 23, 24, 25, 26, 27, 28, 29, 30, 31, 32, 33, 34, 35, 36, 37, 38, 39, 40] (by decide +kernel) (by decide +kernel)
set_option maxRecDepth 20000 in
theorem gX8_undo_X8_fails : GoodIn wsX8_undo (wsV RX8 148 RX8 yX8_fails wsX8_fails) := goodIn_app (goodIn_of _ (by decide +kernel)) ggX8_undo_X8_fails
theorem dX8_undo_16 : decode cX8_undo 16 = .ok (.ifCond .eq 5, 3) := by decide +kernel
theorem dX8_undo_21 : decode cX8_undo 21 = .ok (.aload_n 0, 1) := by decide +kernel
theorem dX8_undo_22 : decode cX8_undo 22 = .ok (.dup, 1) := by decide +kernel
theorem dX8_undo_23 : decode cX8_undo 23 = .ok (.getfield 60, 3) := by decide +kernel
theorem dX8_undo_26 : decode cX8_undo 26 = .ok (.iconst 1, 1) := by decide +kernel
theorem dX8_undo_27 : decode cX8_undo 27 = .ok (.isub, 1) := by decide +kernel
theorem dX8_undo_28 : decode cX8_undo 28 = .ok (.putfield 60, 3) := by decide +kernel
theorem dX8_undo_31 : decode cX8_undo 31 = .ok (.iconst 0, 1) := by decide +kernel
theorem dX8_undo_33 : decode cX8_undo 33 = .ok (.iload_n 1, 1) := by decide +kernel
theorem dX8_undo_34 : decode cX8_undo 34 = .ok (.sipush 427, 3) := by decide +kernel
theorem dX8_undo_37 : decode cX8_undo 37 = .ok (.if_icmp .ge 30, 3) := by decide +kernel
theorem dX8_undo_67 : decode cX8_undo 67 = .ok (.aload_n 0, 1) := by decide +kernel
theorem dX8_undo_68 : decode cX8_undo 68 = .ok (.getfield 60, 3) := by decide +kernel
theorem dX8_undo_71 : decode cX8_undo 71 = .ok (.ireturn, 1) := by decide +kernel
theorem dX8_undo_40 : decode cX8_undo 40 = .ok (.aload_n 0, 1) := by decide +kernel
theorem dX8_undo_41 : decode cX8_undo 41 = .ok (.getfield 9, 3) := by decide +kernel
theorem dX8_undo_44 : decode cX8_undo 44 = .ok (.iload_n 1, 1) := by decide +kernel
theorem dX8_undo_45 : decode cX8_undo 45 = .ok (.aload_n 0, 1) := by decide +kernel
theorem dX8_undo_46 : decode cX8_undo 46 = .ok (.getfield 13, 3) := by decide +kernel
theorem dX8_undo_49 : decode cX8_undo 49 = .ok (.sipush 427, 3) := by decide +kernel
theorem dX8_undo_52 : decode cX8_undo 52 = .ok (.aload_n 0, 1) := by decide +kernel
theorem dX8_undo_53 : decode cX8_undo 53 = .ok (.getfield 60, 3) := by decide +kernel
theorem dX8_undo_56 : decode cX8_undo 56 = .ok (.imul, 1) := by decide +kernel
theorem dX8_undo_57 : decode cX8_undo 57 = .ok (.iload_n 1, 1) := by decide +kernel
theorem dX8_undo_58 : decode cX8_undo 58 = .ok (.iadd, 1) := by decide +kernel
theorem dX8_undo_59 : decode cX8_undo 59 = .ok (.iaload, 1) := by decide +kernel
theorem dX8_undo_60 : decode cX8_undo 60 = .ok (.iastore, 1) := by decide +kernel
theorem dX8_undo_61 : decode cX8_undo 61 = .ok (.iinc 1 1, 3) := by decide +kernel
theorem dX8_undo_64 : decode cX8_undo 64 = .ok (.goto (-31), 3) := by decide +kernel
theorem dX8_undo_32 : decode cX8_undo 32 = .ok (.istore_n 1, 1) := by decide +kernel
theorem dX8_undo_8 : decode cX8_undo 8 = .ok (.iconst 1, 1) := by decide +kernel
theorem dX8_undo_9 : decode cX8_undo 9 = .ok (.goto 4, 3) := by decide +kernel
theorem dX8_undo_19 : decode cX8_undo 19 = .ok (.iconst 0, 1) := by decide +kernel
theorem dX8_undo_20 : decode cX8_undo 20 = .ok (.ireturn, 1) := by decide +kernel
set_option maxHeartbeats 400000 in
set_option maxRecDepth 20000 in
theorem ct_X8_undo (l : Launch) (D : va_G) (dA : Nat → ClassId) (hst : l.stackTraces = false) (M : jM) (m : Nat) (A : cA) (hA : mAb M m A) (hW : zWf (cNw A)) : jCT l D dA yX8_undo wsX8_undo (22) (420) (0) (0) 1 [.ref (m)] M (mRl M m [xISE] (sUnd A).1 (sUnd A).2) := by
  refine jBody (cc := cX8_undo) (nL := 2) (rt := (some .int)) (ini := false) (by decide) rfl hst (Nat.le_of_ble_eq_true rfl) (by simp [Value.category]) (by intro h9; first | exact absurd h9 (by decide) | rfl) ?_
  show J l D dA RX8 cX8_undo wsX8_undo 2 false (some .int) [] (22) (420) (jF D dA (jn M) (mRl M m [xISE] (sUnd A).1 (sUnd A).2) 1) (jn M) (0) (0) (M) 0 [.ref (m), .float 0] []
  obtain ⟨hM, hz, ⟨hKn, hK8, hKs⟩, ⟨hHs, hHz⟩, ⟨hLn, hL6, hLc⟩, hFl, ⟨hRs, hRp⟩, hCh⟩ := id hA
  obtain ⟨m1, m2, ⟨r1, r2, r3, r4, r5, r6, r7, r8, r9, r10, r11, r12, r13⟩, ⟨k1, k2, k3, k4, k5, k6, k7, k8, k9, k10, k11, k12, k13⟩, z1, z2, z3, z4, z5, z6, z7, z8, z9, z10, z11, z12, z13⟩ := id hM
  refine J_aload_n (m) dX8_undo_0 rfl rfl ?_
  refine J_aload_n (m) dX8_undo_1 rfl rfl ?_
  refine J_geti (j := 4) dX8_undo_2 (fun _ h => List.mem_cons_of_mem _ (List.mem_append_left _ (List.mem_append_right _ (h)))) cs11 (by decide) rfl (List.mem_of_getElem? (i := 1) rfl) rfl (show m < jn M from by omega) m2 ?_
  refine J_topi (y := nI (cKp A)) (hKn) ?_
  refine J_if_ne dX8_undo_5 (tgt := 12) (by decide) (fun c5 => ?_) (fun c5 => ?_)
  · have c5 := jeqF (a := cKp A) (b := 0) (by omega) (by omega) c5
    refine J_iconst (x := 0) dX8_undo_12 (by decide) ?_
    refine J_calli0 (jrunV (As := [.int (0)]) (ct_X8_fails l D dA hst M m hM ((0))) dX8_undo_13 yY_X8_fails gX8_undo_X8_fails rfl cs11 (show m < jn M from by omega) m2 rfl ⟨by omega, by omega⟩ ⟨Nat.zero_le _, Nat.zero_le _⟩ rfl (Nat.le_of_ble_eq_true rfl)) (rfl) (rfl) ?_
    refine J_if_eq dX8_undo_16 (tgt := 21) (by decide) (fun c16 => ?_) (fun c16 => ?_)
    · have c16 := jeqT (a := 0) (b := 0) (by omega) (by omega) c16
      refine J_aload_n (m) dX8_undo_21 rfl rfl ?_
      refine J_dup dX8_undo_22 rfl ?_
      refine J_geti (j := 4) dX8_undo_23 (fun _ h => List.mem_cons_of_mem _ (List.mem_append_left _ (List.mem_append_right _ (h)))) cs11 (by decide) rfl (List.mem_of_getElem? (i := 1) rfl) rfl (show m < jn M from by omega) m2 ?_
      refine J_topi (y := nI (cKp A)) (((ji_Sik (show 4 ≠ 11 by decide)).trans hKn)) ?_
      refine J_iconst (x := 1) dX8_undo_26 (by decide) ?_
      refine J_isub dX8_undo_27 ?_
      refine J_topi (y := nI (cKp A - 1)) (pk_sub (a := cKp A) (b := 1) (by omega)) ?_
      refine J_puti (j := 4) (x := nI (cKp A - 1)) dX8_undo_28 (fun _ h => List.mem_cons_of_mem _ (List.mem_append_left _ (List.mem_append_right _ (h)))) cs11 cty11 (by decide) rfl (List.mem_of_getElem? (i := 1) rfl) rfl rfl ⟨rfl, rfl⟩ (show m < jn M from by omega) m2 ?_
      refine J_iconst (x := 0) dX8_undo_31 (by decide) ?_
      refine J_mem (M' := uN M m (cKp A - 1) 0) (by exact uN_0) ?_
      have L33 : ∀ (fuel : Nat) (k : Nat) (hk : k ≤ 427), 427 - k < fuel → J l D dA RX8 cX8_undo wsX8_undo 2 false (some .int) [] (22) (420) (jF D dA (jn M) (mRl M m [xISE] (sUnd A).1 (sUnd A).2) 1) (jn M) (0) (0) ((uN M m (cKp A - 1) k)) 33 [.ref (m), .int (nI (k))] [] := by
        intro fuel
        induction fuel with
        | zero => intro k hk hm; exact absurd hm (Nat.not_lt_zero _)
        | succ fuel ih33 =>
          intro k hk hm33
          refine J_iload_n dX8_undo_33 rfl rfl ?_
          refine J_sipush (x := 427) dX8_undo_34 (by decide) ?_
          refine J_icmp_ge dX8_undo_37 (tgt := 67) (by decide) (fun c37 => ?_) (fun c37 => ?_)
          · have c37 := jleT (a := 427) (b := k) (by omega) (by omega) c37
            refine J_aload_n (m) dX8_undo_67 rfl rfl ?_
            refine J_geti (j := 4) dX8_undo_68 (fun _ h => List.mem_cons_of_mem _ (List.mem_append_left _ (List.mem_append_right _ (h)))) cs11 (by decide) rfl (List.mem_of_getElem? (i := 1) rfl) rfl (show m < jn M from by omega) m2 ?_
            refine J_topi (y := nI (cKp A - 1)) ((by unfold uN; rw [ji_Svn (by omega)]; exact ji_Sis)) ?_
            exact J_iret (ty := .int) dX8_undo_71 rfl (rfl) (by rw [show k = 427 from by omega]; unfold sUnd; rw [if_neg c5]; exact ⟨Or.inl ⟨by unfold uN; rw [ji_Svn (by omega), ji_Sik (by decide)]; exact ji_Sis, rfl⟩, hA.und c5, uN_f, _, rfl⟩)
          · have c37 := jleF (a := 427) (b := k) (by omega) (by omega) c37
            refine J_aload_n (m) dX8_undo_40 rfl rfl ?_
            refine J_getrs (q := m + 1) r1 dX8_undo_41 (fun _ h => List.mem_cons_of_mem _ (List.mem_append_left _ (List.mem_append_right _ (h)))) cs11 (by decide) rfl (List.mem_of_getElem? (i := 2) rfl) rfl (show m < jn M from by omega) m2 ?_
            refine J_iload_n dX8_undo_44 rfl rfl ?_
            refine J_aload_n (m) dX8_undo_45 rfl rfl ?_
            refine J_getrs (q := m + 2) r2 dX8_undo_46 (fun _ h => List.mem_cons_of_mem _ (List.mem_append_left _ (List.mem_append_right _ (h)))) cs11 (by decide) rfl (List.mem_of_getElem? (i := 3) rfl) rfl (show m < jn M from by omega) m2 ?_
            refine J_sipush (x := 427) dX8_undo_49 (by decide) ?_
            refine J_aload_n (m) dX8_undo_52 rfl rfl ?_
            refine J_geti (j := 4) dX8_undo_53 (fun _ h => List.mem_cons_of_mem _ (List.mem_append_left _ (List.mem_append_right _ (h)))) cs11 (by decide) rfl (List.mem_of_getElem? (i := 1) rfl) rfl (show m < jn M from by omega) m2 ?_
            refine J_topi (y := nI (cKp A - 1)) ((by unfold uN; rw [ji_Svn (by omega)]; exact ji_Sis)) ?_
            refine J_imul dX8_undo_56 ?_
            refine J_topi (y := nI (427 * (cKp A - 1))) (pk_mul (427) (cKp A - 1)) ?_
            refine J_iload_n dX8_undo_57 rfl rfl ?_
            refine J_iadd dX8_undo_58 ?_
            refine J_topi (y := nI (427 * (cKp A - 1) + k)) (nI_add (427 * (cKp A - 1)) (k)) ?_
            refine J_ialdN (k := 427 * (cKp A - 1) + k) dX8_undo_59 (show m + 2 < jn M from by omega) k2 (by exact Nat.lt_of_lt_of_eq (show _ < 3416 by omega) (Eq.symm z2)) (by exact Nat.lt_of_le_of_lt (Nat.le_of_eq z2) (show 3416 < 2 ^ 31 by omega)) ?_
            refine J_topi (y := (ji M (m + 2) (427 * (cKp A - 1) + k))) (by unfold uN; rw [ji_Svn (by omega), ji_Sin (by omega), ji_Sin (by omega)]) ?_
            refine J_iastN (k := k) dX8_undo_60 (show m + 1 < jn M from by omega) k1 (by exact Nat.lt_of_lt_of_eq (show _ < 427 by omega) (Eq.symm z1)) (by exact Nat.lt_of_le_of_lt (Nat.le_of_eq z1) (show 427 < 2 ^ 31 by omega)) ?_
            refine J_mem (M' := uN M m (cKp A - 1) (k + 1)) (by exact uN_s) ?_
            refine J_iinc (y := nI (k + 1)) (lv' := [.ref (m), .int (nI (k + 1))]) dX8_undo_61 rfl (jinc (k)) (by decide) rfl rfl ?_
            refine J_goto (tgt := 33) dX8_undo_64 (by decide) ?_
            exact ih33 (k + 1) (by omega) (by omega)
      refine J_istore_n (lv' := [.ref (m), .int (0)]) dX8_undo_32 rfl (by decide) rfl rfl ?_
      exact L33 _ (0) (by omega) (Nat.lt_succ_self _)
    · exact absurd c16 (by decide)
  · have c5 := jeqT (a := cKp A) (b := 0) (by omega) (by omega) c5
    refine J_iconst (x := 1) dX8_undo_8 (by decide) ?_
    refine J_goto (tgt := 13) dX8_undo_9 (by decide) ?_
    refine J_calli0 (jrunV (As := [.int (1)]) (ct_X8_fails l D dA hst M m hM ((1))) dX8_undo_13 yY_X8_fails gX8_undo_X8_fails rfl cs11 (show m < jn M from by omega) m2 rfl ⟨by omega, by omega⟩ ⟨Nat.zero_le _, Nat.zero_le _⟩ rfl (Nat.le_of_ble_eq_true rfl)) (rfl) (rfl) ?_
    refine J_if_eq dX8_undo_16 (tgt := 21) (by decide) (fun c16 => ?_) (fun c16 => ?_)
    · exact absurd c16 (by decide)
    · have c16 := jeqF (a := 1) (b := 0) (by omega) (by omega) c16
      refine J_iconst (x := 0) dX8_undo_19 (by decide) ?_
      exact J_iret (ty := .int) dX8_undo_20 rfl (rfl) (by unfold sUnd; rw [if_pos c5]; exact ⟨mAg.x 0 xISE rfl (by decide) ji_Sis rfl, (hA).si rfl, (mFr.rf).si ⟨by omega, by omega⟩, _, rfl⟩)

theorem dX8_save_0 : decode cX8_save 0 = .ok (.aload_n 0, 1) := by decide +kernel
theorem dX8_save_1 : decode cX8_save 1 = .ok (.iconst 0, 1) := by decide +kernel
theorem dX8_save_2 : decode cX8_save 2 = .ok (.putfield 56, 3) := by decide +kernel
theorem dX8_save_5 : decode cX8_save 5 = .ok (.aload_n 0, 1) := by decide +kernel
theorem dX8_save_6 : decode cX8_save 6 = .ok (.iconst 1, 1) := by decide +kernel
theorem dX8_save_7 : decode cX8_save 7 = .ok (.putfield 267, 3) := by decide +kernel
theorem dX8_save_10 : decode cX8_save 10 = .ok (.iconst 0, 1) := by decide +kernel
theorem dX8_save_12 : decode cX8_save 12 = .ok (.iload_n 1, 1) := by decide +kernel
theorem dX8_save_13 : decode cX8_save 13 = .ok (.sipush 427, 3) := by decide +kernel
theorem dX8_save_16 : decode cX8_save 16 = .ok (.if_icmp .ge 21, 3) := by decide +kernel
theorem dX8_save_37 : decode cX8_save 37 = .ok (.return_, 1) := by decide +kernel
theorem dX8_save_19 : decode cX8_save 19 = .ok (.aload_n 0, 1) := by decide +kernel
theorem dX8_save_20 : decode cX8_save 20 = .ok (.getfield 16, 3) := by decide +kernel
theorem dX8_save_23 : decode cX8_save 23 = .ok (.iload_n 1, 1) := by decide +kernel
theorem dX8_save_24 : decode cX8_save 24 = .ok (.aload_n 0, 1) := by decide +kernel
theorem dX8_save_25 : decode cX8_save 25 = .ok (.getfield 9, 3) := by decide +kernel
theorem dX8_save_28 : decode cX8_save 28 = .ok (.iload_n 1, 1) := by decide +kernel
theorem dX8_save_29 : decode cX8_save 29 = .ok (.iaload, 1) := by decide +kernel
theorem dX8_save_30 : decode cX8_save 30 = .ok (.iastore, 1) := by decide +kernel
theorem dX8_save_31 : decode cX8_save 31 = .ok (.iinc 1 1, 3) := by decide +kernel
theorem dX8_save_34 : decode cX8_save 34 = .ok (.goto (-22), 3) := by decide +kernel
theorem dX8_save_11 : decode cX8_save 11 = .ok (.istore_n 1, 1) := by decide +kernel
set_option maxHeartbeats 400000 in
set_option maxRecDepth 20000 in
theorem ct_X8_save (l : Launch) (D : va_G) (dA : Nat → ClassId) (hst : l.stackTraces = false) (M : jM) (m : Nat) (A : cA) (hA : mAb M m A) (hW : zWf (cNw A)) : jCT l D dA yX8_save wsX8_save (22) (420) (0) (0) 0 [.ref (m)] M (mRl M m [] (sSav A).1 (sSav A).2) := by
  refine jBody (cc := cX8_save) (nL := 2) (rt := none) (ini := false) (by decide) rfl hst (Nat.le_of_ble_eq_true rfl) (by simp [Value.category]) (by intro h9; first | exact absurd h9 (by decide) | rfl) ?_
  show J l D dA RX8 cX8_save wsX8_save 2 false none [] (22) (420) (jF D dA (jn M) (mRl M m [] (sSav A).1 (sSav A).2) 0) (jn M) (0) (0) (M) 0 [.ref (m), .float 0] []
  obtain ⟨hM, hz, ⟨hKn, hK8, hKs⟩, ⟨hHs, hHz⟩, ⟨hLn, hL6, hLc⟩, hFl, ⟨hRs, hRp⟩, hCh⟩ := id hA
  obtain ⟨m1, m2, ⟨r1, r2, r3, r4, r5, r6, r7, r8, r9, r10, r11, r12, r13⟩, ⟨k1, k2, k3, k4, k5, k6, k7, k8, k9, k10, k11, k12, k13⟩, z1, z2, z3, z4, z5, z6, z7, z8, z9, z10, z11, z12, z13⟩ := id hM
  refine J_aload_n (m) dX8_save_0 rfl rfl ?_
  refine J_iconst (x := 0) dX8_save_1 (by decide) ?_
  refine J_puti (j := 11) (x := (0)) dX8_save_2 (fun _ h => List.mem_cons_of_mem _ (List.mem_append_left _ (List.mem_append_right _ (h)))) cs11 cty11 (by decide) rfl (List.mem_of_getElem? (i := 1) rfl) rfl rfl ⟨rfl, rfl⟩ (show m < jn M from by omega) m2 ?_
  refine J_aload_n (m) dX8_save_5 rfl rfl ?_
  refine J_iconst (x := 1) dX8_save_6 (by decide) ?_
  refine J_puti (j := 3) (x := (1)) dX8_save_7 (fun _ h => List.mem_cons_of_mem _ (List.mem_append_left _ (List.mem_append_right _ (h)))) cs11 cty11 (by decide) rfl (List.mem_of_getElem? (i := 2) rfl) rfl rfl ⟨rfl, rfl⟩ (show m < jn M from by omega) m2 ?_
  refine J_iconst (x := 0) dX8_save_10 (by decide) ?_
  refine J_mem (M' := sN M m 0) (by exact sN_0) ?_
  have L12 : ∀ (fuel : Nat) (k : Nat) (hk : k ≤ 427), 427 - k < fuel → J l D dA RX8 cX8_save wsX8_save 2 false none [] (22) (420) (jF D dA (jn M) (mRl M m [] (sSav A).1 (sSav A).2) 0) (jn M) (0) (0) ((sN M m k)) 12 [.ref (m), .int (nI (k))] [] := by
    intro fuel
    induction fuel with
    | zero => intro k hk hm; exact absurd hm (Nat.not_lt_zero _)
    | succ fuel ih12 =>
      intro k hk hm12
      refine J_iload_n dX8_save_12 rfl rfl ?_
      refine J_sipush (x := 427) dX8_save_13 (by decide) ?_
      refine J_icmp_ge dX8_save_16 (tgt := 37) (by decide) (fun c16 => ?_) (fun c16 => ?_)
      · have c16 := jleT (a := 427) (b := k) (by omega) (by omega) c16
        exact J_vret dX8_save_37 rfl (by rw [show k = 427 from by omega]; exact ⟨Or.inl ⟨by unfold sN; rw [ji_Svn (by omega), ji_Sik (by decide)]; exact ji_Sis, rfl⟩, hA.sav, sN_f, _, rfl⟩)
      · have c16 := jleF (a := 427) (b := k) (by omega) (by omega) c16
        refine J_aload_n (m) dX8_save_19 rfl rfl ?_
        refine J_getrs (q := m + 3) r3 dX8_save_20 (fun _ h => List.mem_cons_of_mem _ (List.mem_append_left _ (List.mem_append_right _ (h)))) cs11 (by decide) rfl (List.mem_of_getElem? (i := 3) rfl) rfl (show m < jn M from by omega) m2 ?_
        refine J_iload_n dX8_save_23 rfl rfl ?_
        refine J_aload_n (m) dX8_save_24 rfl rfl ?_
        refine J_getrs (q := m + 1) r1 dX8_save_25 (fun _ h => List.mem_cons_of_mem _ (List.mem_append_left _ (List.mem_append_right _ (h)))) cs11 (by decide) rfl (List.mem_of_getElem? (i := 4) rfl) rfl (show m < jn M from by omega) m2 ?_
        refine J_iload_n dX8_save_28 rfl rfl ?_
        refine J_ialdN (k := k) dX8_save_29 (show m + 1 < jn M from by omega) k1 (by exact Nat.lt_of_lt_of_eq (show _ < 427 by omega) (Eq.symm z1)) (by exact Nat.lt_of_le_of_lt (Nat.le_of_eq z1) (show 427 < 2 ^ 31 by omega)) ?_
        refine J_topi (y := (ji M (m + 1) k)) (by unfold sN; rw [ji_Svn (by omega), ji_Sin (by omega), ji_Sin (by omega)]) ?_
        refine J_iastN (k := k) dX8_save_30 (show m + 3 < jn M from by omega) k3 (by exact Nat.lt_of_lt_of_eq (show _ < 427 by omega) (Eq.symm z3)) (by exact Nat.lt_of_le_of_lt (Nat.le_of_eq z3) (show 427 < 2 ^ 31 by omega)) ?_
        refine J_mem (M' := sN M m (k + 1)) (by exact sN_s) ?_
        refine J_iinc (y := nI (k + 1)) (lv' := [.ref (m), .int (nI (k + 1))]) dX8_save_31 rfl (jinc (k)) (by decide) rfl rfl ?_
        refine J_goto (tgt := 12) dX8_save_34 (by decide) ?_
        exact ih12 (k + 1) (by omega) (by omega)
  refine J_istore_n (lv' := [.ref (m), .int (0)]) dX8_save_11 rfl (by decide) rfl rfl ?_
  exact L12 _ (0) (by omega) (Nat.lt_succ_self _)

theorem dX8_restore_0 : decode cX8_restore 0 = .ok (.aload_n 0, 1) := by decide +kernel
theorem dX8_restore_1 : decode cX8_restore 1 = .ok (.aload_n 0, 1) := by decide +kernel
theorem dX8_restore_2 : decode cX8_restore 2 = .ok (.getfield 267, 3) := by decide +kernel
theorem dX8_restore_5 : decode cX8_restore 5 = .ok (.ifCond .eq 7, 3) := by decide +kernel
theorem dX8_restore_12 : decode cX8_restore 12 = .ok (.iconst 1, 1) := by decide +kernel
theorem dX8_restore_13 : decode cX8_restore 13 = .ok (.invokevirtual 148, 3) := by decide +kernel
set_option maxRecDepth 20000 in
theorem ggX8_restore_X8_fails : GoodIn wsX8_restore wsX8_fails := goodIn_r _ [9, 10, 11, 12, 13, 14, 15, 16, 17, 18, 19, 20, 21, 22, 23, 24, 25, 26, 27, 28, 29, 30, 31, 32, 33, 34, 35, 36, 37, 38, 39, 40, 41] (by decide +kernel) (by decide +kernel)
set_option maxRecDepth 20000 in
theorem gX8_restore_X8_fails : GoodIn wsX8_restore (wsV RX8 148 RX8 yX8_fails wsX8_fails) := goodIn_app (goodIn_of _ (by decide +kernel)) ggX8_restore_X8_fails
theorem dX8_restore_16 : decode cX8_restore 16 = .ok (.ifCond .eq 4, 3) := by decide +kernel
theorem dX8_restore_19 : decode cX8_restore 19 = .ok (.return_, 1) := by decide +kernel
theorem dX8_restore_8 : decode cX8_restore 8 = .ok (.iconst 0, 1) := by decide +kernel
theorem dX8_restore_9 : decode cX8_restore 9 = .ok (.goto 4, 3) := by decide +kernel
theorem dX8_restore_20 : decode cX8_restore 20 = .ok (.aload_n 0, 1) := by decide +kernel
theorem dX8_restore_21 : decode cX8_restore 21 = .ok (.iconst 0, 1) := by decide +kernel
theorem dX8_restore_22 : decode cX8_restore 22 = .ok (.putfield 60, 3) := by decide +kernel
theorem dX8_restore_25 : decode cX8_restore 25 = .ok (.iconst 0, 1) := by decide +kernel
theorem dX8_restore_27 : decode cX8_restore 27 = .ok (.iload_n 1, 1) := by decide +kernel
theorem dX8_restore_28 : decode cX8_restore 28 = .ok (.sipush 427, 3) := by decide +kernel
theorem dX8_restore_31 : decode cX8_restore 31 = .ok (.if_icmp .ge 21, 3) := by decide +kernel
theorem dX8_restore_52 : decode cX8_restore 52 = .ok (.return_, 1) := by decide +kernel
theorem dX8_restore_34 : decode cX8_restore 34 = .ok (.aload_n 0, 1) := by decide +kernel
theorem dX8_restore_35 : decode cX8_restore 35 = .ok (.getfield 9, 3) := by decide +kernel
theorem dX8_restore_38 : decode cX8_restore 38 = .ok (.iload_n 1, 1) := by decide +kernel
theorem dX8_restore_39 : decode cX8_restore 39 = .ok (.aload_n 0, 1) := by decide +kernel
theorem dX8_restore_40 : decode cX8_restore 40 = .ok (.getfield 16, 3) := by decide +kernel
theorem dX8_restore_43 : decode cX8_restore 43 = .ok (.iload_n 1, 1) := by decide +kernel
theorem dX8_restore_44 : decode cX8_restore 44 = .ok (.iaload, 1) := by decide +kernel
theorem dX8_restore_45 : decode cX8_restore 45 = .ok (.iastore, 1) := by decide +kernel
theorem dX8_restore_46 : decode cX8_restore 46 = .ok (.iinc 1 1, 3) := by decide +kernel
theorem dX8_restore_49 : decode cX8_restore 49 = .ok (.goto (-22), 3) := by decide +kernel
theorem dX8_restore_26 : decode cX8_restore 26 = .ok (.istore_n 1, 1) := by decide +kernel
set_option maxHeartbeats 400000 in
set_option maxRecDepth 20000 in
theorem ct_X8_restore (l : Launch) (D : va_G) (dA : Nat → ClassId) (hst : l.stackTraces = false) (M : jM) (m : Nat) (A : cA) (hA : mAb M m A) (hW : zWf (cNw A)) : jCT l D dA yX8_restore wsX8_restore (22) (420) (0) (0) 0 [.ref (m)] M (mRl M m [xISE] (sRes A).1 (sRes A).2) := by
  refine jBody (cc := cX8_restore) (nL := 2) (rt := none) (ini := false) (by decide) rfl hst (Nat.le_of_ble_eq_true rfl) (by simp [Value.category]) (by intro h9; first | exact absurd h9 (by decide) | rfl) ?_
  show J l D dA RX8 cX8_restore wsX8_restore 2 false none [] (22) (420) (jF D dA (jn M) (mRl M m [xISE] (sRes A).1 (sRes A).2) 0) (jn M) (0) (0) (M) 0 [.ref (m), .float 0] []
  obtain ⟨hM, hz, ⟨hKn, hK8, hKs⟩, ⟨hHs, hHz⟩, ⟨hLn, hL6, hLc⟩, hFl, ⟨hRs, hRp⟩, hCh⟩ := id hA
  obtain ⟨m1, m2, ⟨r1, r2, r3, r4, r5, r6, r7, r8, r9, r10, r11, r12, r13⟩, ⟨k1, k2, k3, k4, k5, k6, k7, k8, k9, k10, k11, k12, k13⟩, z1, z2, z3, z4, z5, z6, z7, z8, z9, z10, z11, z12, z13⟩ := id hM
  refine J_aload_n (m) dX8_restore_0 rfl rfl ?_
  refine J_aload_n (m) dX8_restore_1 rfl rfl ?_
  refine J_geti (j := 3) dX8_restore_2 (fun _ h => List.mem_cons_of_mem _ (List.mem_append_left _ (List.mem_append_right _ (h)))) cs11 (by decide) rfl (List.mem_of_getElem? (i := 1) rfl) rfl (show m < jn M from by omega) m2 ?_
  refine J_topi (y := jb (cHs A)) (hHs) ?_
  refine J_if_eq dX8_restore_5 (tgt := 12) (by decide) (fun c5 => ?_) (fun c5 => ?_)
  · have c5 := jb0T c5
    refine J_iconst (x := 1) dX8_restore_12 (by decide) ?_
    refine J_calli0 (jrunV (As := [.int (1)]) (ct_X8_fails l D dA hst M m hM ((1))) dX8_restore_13 yY_X8_fails gX8_restore_X8_fails rfl cs11 (show m < jn M from by omega) m2 rfl ⟨by omega, by omega⟩ ⟨Nat.zero_le _, Nat.zero_le _⟩ rfl (Nat.le_of_ble_eq_true rfl)) (rfl) (rfl) ?_
    refine J_if_eq dX8_restore_16 (tgt := 20) (by decide) (fun c16 => ?_) (fun c16 => ?_)
    · exact absurd c16 (by decide)
    · have c16 := jeqF (a := 1) (b := 0) (by omega) (by omega) c16
      exact J_vret dX8_restore_19 rfl (by unfold sRes; rw [if_neg (by rw [c5]; decide)]; exact ⟨mAg.x 0 xISE rfl (by decide) ji_Sis rfl, (hA).si rfl, (mFr.rf).si ⟨by omega, by omega⟩, _, rfl⟩)
  · have c5 := jb0F c5
    refine J_iconst (x := 0) dX8_restore_8 (by decide) ?_
    refine J_goto (tgt := 13) dX8_restore_9 (by decide) ?_
    refine J_calli0 (jrunV (As := [.int (0)]) (ct_X8_fails l D dA hst M m hM ((0))) dX8_restore_13 yY_X8_fails gX8_restore_X8_fails rfl cs11 (show m < jn M from by omega) m2 rfl ⟨by omega, by omega⟩ ⟨Nat.zero_le _, Nat.zero_le _⟩ rfl (Nat.le_of_ble_eq_true rfl)) (rfl) (rfl) ?_
    refine J_if_eq dX8_restore_16 (tgt := 20) (by decide) (fun c16 => ?_) (fun c16 => ?_)
    · have c16 := jeqT (a := 0) (b := 0) (by omega) (by omega) c16
      refine J_aload_n (m) dX8_restore_20 rfl rfl ?_
      refine J_iconst (x := 0) dX8_restore_21 (by decide) ?_
      refine J_puti (j := 4) (x := (0)) dX8_restore_22 (fun _ h => List.mem_cons_of_mem _ (List.mem_append_left _ (List.mem_append_right _ (h)))) cs11 cty11 (by decide) rfl (List.mem_of_getElem? (i := 2) rfl) rfl rfl ⟨rfl, rfl⟩ (show m < jn M from by omega) m2 ?_
      refine J_iconst (x := 0) dX8_restore_25 (by decide) ?_
      refine J_mem (M' := rN M m 0) (by exact rN_0) ?_
      have L27 : ∀ (fuel : Nat) (k : Nat) (hk : k ≤ 427), 427 - k < fuel → J l D dA RX8 cX8_restore wsX8_restore 2 false none [] (22) (420) (jF D dA (jn M) (mRl M m [xISE] (sRes A).1 (sRes A).2) 0) (jn M) (0) (0) ((rN M m k)) 27 [.ref (m), .int (nI (k))] [] := by
        intro fuel
        induction fuel with
        | zero => intro k hk hm; exact absurd hm (Nat.not_lt_zero _)
        | succ fuel ih27 =>
          intro k hk hm27
          refine J_iload_n dX8_restore_27 rfl rfl ?_
          refine J_sipush (x := 427) dX8_restore_28 (by decide) ?_
          refine J_icmp_ge dX8_restore_31 (tgt := 52) (by decide) (fun c31 => ?_) (fun c31 => ?_)
          · have c31 := jleT (a := 427) (b := k) (by omega) (by omega) c31
            exact J_vret dX8_restore_52 rfl (by rw [show k = 427 from by omega]; unfold sRes; rw [if_pos c5]; exact ⟨Or.inl ⟨by unfold rN; rw [ji_Svn (by omega), ji_Sik (by decide)]; exact ji_Sis, rfl⟩, hA.res c5, rN_f, _, rfl⟩)
          · have c31 := jleF (a := 427) (b := k) (by omega) (by omega) c31
            refine J_aload_n (m) dX8_restore_34 rfl rfl ?_
            refine J_getrs (q := m + 1) r1 dX8_restore_35 (fun _ h => List.mem_cons_of_mem _ (List.mem_append_left _ (List.mem_append_right _ (h)))) cs11 (by decide) rfl (List.mem_of_getElem? (i := 3) rfl) rfl (show m < jn M from by omega) m2 ?_
            refine J_iload_n dX8_restore_38 rfl rfl ?_
            refine J_aload_n (m) dX8_restore_39 rfl rfl ?_
            refine J_getrs (q := m + 3) r3 dX8_restore_40 (fun _ h => List.mem_cons_of_mem _ (List.mem_append_left _ (List.mem_append_right _ (h)))) cs11 (by decide) rfl (List.mem_of_getElem? (i := 4) rfl) rfl (show m < jn M from by omega) m2 ?_
            refine J_iload_n dX8_restore_43 rfl rfl ?_
            refine J_ialdN (k := k) dX8_restore_44 (show m + 3 < jn M from by omega) k3 (by exact Nat.lt_of_lt_of_eq (show _ < 427 by omega) (Eq.symm z3)) (by exact Nat.lt_of_le_of_lt (Nat.le_of_eq z3) (show 427 < 2 ^ 31 by omega)) ?_
            refine J_topi (y := (ji M (m + 3) k)) (by unfold rN; rw [ji_Svn (by omega), ji_Sin (by omega), ji_Sin (by omega)]) ?_
            refine J_iastN (k := k) dX8_restore_45 (show m + 1 < jn M from by omega) k1 (by exact Nat.lt_of_lt_of_eq (show _ < 427 by omega) (Eq.symm z1)) (by exact Nat.lt_of_le_of_lt (Nat.le_of_eq z1) (show 427 < 2 ^ 31 by omega)) ?_
            refine J_mem (M' := rN M m (k + 1)) (by exact rN_s) ?_
            refine J_iinc (y := nI (k + 1)) (lv' := [.ref (m), .int (nI (k + 1))]) dX8_restore_46 rfl (jinc (k)) (by decide) rfl rfl ?_
            refine J_goto (tgt := 27) dX8_restore_49 (by decide) ?_
            exact ih27 (k + 1) (by omega) (by omega)
      refine J_istore_n (lv' := [.ref (m), .int (0)]) dX8_restore_26 rfl (by decide) rfl rfl ?_
      exact L27 _ (0) (by omega) (Nat.lt_succ_self _)
    · exact absurd c16 (by decide)

