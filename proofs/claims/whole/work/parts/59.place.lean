/-- the place of a version in a row, or -1 -/
def mPl (f : Nat → Int32) (x : Int32) (n : Nat) : Int32 := if jfind (fun k => decide (f k = x)) n 0 < n then nI (jfind (fun k => decide (f k = x)) n 0) else -1
theorem dX8_placeOf_2 : decode cX8_placeOf 2 = .ok (.iload_n 2, 1) := by decide +kernel
theorem dX8_placeOf_3 : decode cX8_placeOf 3 = .ok (.aload_n 0, 1) := by decide +kernel
theorem dX8_placeOf_4 : decode cX8_placeOf 4 = .ok (.getfield 9, 3) := by decide +kernel
theorem dX8_placeOf_7 : decode cX8_placeOf 7 = .ok (.sipush 396, 3) := by decide +kernel
theorem dX8_placeOf_10 : decode cX8_placeOf 10 = .ok (.iaload, 1) := by decide +kernel
theorem dX8_placeOf_11 : decode cX8_placeOf 11 = .ok (.if_icmp .ge 25, 3) := by decide +kernel
theorem dX8_placeOf_36 : decode cX8_placeOf 36 = .ok (.iconst (-1), 1) := by decide +kernel
theorem dX8_placeOf_37 : decode cX8_placeOf 37 = .ok (.ireturn, 1) := by decide +kernel
theorem dX8_placeOf_14 : decode cX8_placeOf 14 = .ok (.aload_n 0, 1) := by decide +kernel
theorem dX8_placeOf_15 : decode cX8_placeOf 15 = .ok (.getfield 9, 3) := by decide +kernel
theorem dX8_placeOf_18 : decode cX8_placeOf 18 = .ok (.sipush 397, 3) := by decide +kernel
theorem dX8_placeOf_21 : decode cX8_placeOf 21 = .ok (.iload_n 2, 1) := by decide +kernel
theorem dX8_placeOf_22 : decode cX8_placeOf 22 = .ok (.iadd, 1) := by decide +kernel
theorem dX8_placeOf_23 : decode cX8_placeOf 23 = .ok (.iaload, 1) := by decide +kernel
theorem dX8_placeOf_24 : decode cX8_placeOf 24 = .ok (.iload_n 1, 1) := by decide +kernel
theorem dX8_placeOf_25 : decode cX8_placeOf 25 = .ok (.if_icmp .ne 5, 3) := by decide +kernel
theorem dX8_placeOf_30 : decode cX8_placeOf 30 = .ok (.iinc 2 1, 3) := by decide +kernel
theorem dX8_placeOf_33 : decode cX8_placeOf 33 = .ok (.goto (-31), 3) := by decide +kernel
theorem dX8_placeOf_28 : decode cX8_placeOf 28 = .ok (.iload_n 2, 1) := by decide +kernel
theorem dX8_placeOf_29 : decode cX8_placeOf 29 = .ok (.ireturn, 1) := by decide +kernel
theorem dX8_placeOf_0 : decode cX8_placeOf 0 = .ok (.iconst 0, 1) := by decide +kernel
theorem dX8_placeOf_1 : decode cX8_placeOf 1 = .ok (.istore_n 2, 1) := by decide +kernel
set_option maxHeartbeats 400000 in
set_option maxRecDepth 20000 in
theorem ct_X8_placeOf (l : Launch) (D : va_G) (dA : Nat → ClassId) (hst : l.stackTraces = false) (M : jM) (m : Nat) (hM : mOk M m) (z : cSt) (hz : mSt (ji M (m + 1)) 0 z) (x : Int32) : jCT l D dA yX8_placeOf wsX8_placeOf (21) (360) (0) (0) 1 [.ref (m), .int (x)] M (jPo (oI (mPl z.2.2 x z.2.1)) (M)) := by
  refine jBody (cc := cX8_placeOf) (nL := 3) (rt := (some .int)) (ini := false) (by decide) rfl hst (Nat.le_of_ble_eq_true rfl) (by simp [Value.category]) (by intro h9; first | exact absurd h9 (by decide) | rfl) ?_
  show J l D dA RX8 cX8_placeOf wsX8_placeOf 3 false (some .int) [] (21) (360) (jF D dA (jn M) (jPo (oI (mPl z.2.2 x z.2.1)) (M)) 1) (jn M) (0) (0) (M) 0 [.ref (m), .int (x), .float 0] []
  obtain ⟨m1, m2, ⟨r1, r2, r3, r4, r5, r6, r7, r8, r9, r10, r11, r12, r13⟩, ⟨k1, k2, k3, k4, k5, k6, k7, k8, k9, k10, k11, k12, k13⟩, z1, z2, z3, z4, z5, z6, z7, z8, z9, z10, z11, z12, z13⟩ := id hM
  have hc30 := hz.2.2.1
  have L2 : ∀ (fuel : Nat) (j : Nat) (hj : j ≤ z.2.1) (hI : jfind (fun k => decide (z.2.2 k = x)) (z.2.1 - j) j = jfind (fun k => decide (z.2.2 k = x)) z.2.1 0), z.2.1 - j < fuel → J l D dA RX8 cX8_placeOf wsX8_placeOf 3 false (some .int) [] (21) (360) (jF D dA (jn M) (jPo (oI (mPl z.2.2 x z.2.1)) (M)) 1) (jn M) (0) (0) (M) 2 [.ref (m), .int (x), .int (nI (j))] [] := by
    intro fuel
    induction fuel with
    | zero => intro j hj hI hm; exact absurd hm (Nat.not_lt_zero _)
    | succ fuel ih2 =>
      intro j hj hI hm2
      refine J_iload_n dX8_placeOf_2 rfl rfl ?_
      refine J_aload_n (m) dX8_placeOf_3 rfl rfl ?_
      refine J_getrs (q := m + 1) r1 dX8_placeOf_4 (fun _ h => List.mem_cons_of_mem _ (List.mem_append_left _ (List.mem_append_right _ (h)))) cs11 (by decide) rfl (List.mem_of_getElem? (i := 1) rfl) rfl (show m < jn M from by omega) m2 ?_
      refine J_sipush (x := 396) dX8_placeOf_7 (by decide) ?_
      refine J_ialdN (k := 396) dX8_placeOf_10 (show m + 1 < jn M from by omega) k1 (by exact Nat.lt_of_lt_of_eq (show _ < 427 by omega) (Eq.symm z1)) (by exact Nat.lt_of_le_of_lt (Nat.le_of_eq z1) (show 427 < 2 ^ 31 by omega)) ?_
      refine J_topi (y := nI (z.2.1)) (by exact hz.2.1) ?_
      refine J_icmp_ge dX8_placeOf_11 (tgt := 36) (by decide) (fun c11 => ?_) (fun c11 => ?_)
      · have c11 := jleT (a := z.2.1) (b := j) (by omega) (by omega) c11
        refine J_iconst (x := (-1)) dX8_placeOf_36 (by decide) ?_
        exact J_iret (ty := .int) dX8_placeOf_37 rfl (rfl) ⟨(by unfold mPl; rw [← hI, show z.2.1 - j = 0 from by omega]; unfold jfind; rw [if_neg (by omega)]), (by rfl)⟩
      · have c11 := jleF (a := z.2.1) (b := j) (by omega) (by omega) c11
        refine J_aload_n (m) dX8_placeOf_14 rfl rfl ?_
        refine J_getrs (q := m + 1) r1 dX8_placeOf_15 (fun _ h => List.mem_cons_of_mem _ (List.mem_append_left _ (List.mem_append_right _ (h)))) cs11 (by decide) rfl (List.mem_of_getElem? (i := 1) rfl) rfl (show m < jn M from by omega) m2 ?_
        refine J_sipush (x := 397) dX8_placeOf_18 (by decide) ?_
        refine J_iload_n dX8_placeOf_21 rfl rfl ?_
        refine J_iadd dX8_placeOf_22 ?_
        refine J_topi (y := nI (397 + j)) (nI_add (397) (j)) ?_
        refine J_ialdN (k := 397 + j) dX8_placeOf_23 (show m + 1 < jn M from by omega) k1 (by exact Nat.lt_of_lt_of_eq (show _ < 427 by omega) (Eq.symm z1)) (by exact Nat.lt_of_le_of_lt (Nat.le_of_eq z1) (show 427 < 2 ^ 31 by omega)) ?_
        refine J_topi (y := (z.2.2 j)) (by exact hz.2.2.2 j (by omega)) ?_
        refine J_iload_n dX8_placeOf_24 rfl rfl ?_
        refine J_icmp_ne dX8_placeOf_25 (tgt := 30) (by decide) (fun c25 => ?_) (fun c25 => ?_)
        · refine J_iinc (y := nI (j + 1)) (lv' := [.ref (m), .int (x), .int (nI (j + 1))]) dX8_placeOf_30 rfl (jinc (j)) (by decide) rfl rfl ?_
          refine J_goto (tgt := 2) dX8_placeOf_33 (by decide) ?_
          exact ih2 (j + 1) (by omega) (by rw [← hI]; obtain ⟨y9, hy⟩ : ∃ y9, z.2.1 - j = y9 + 1 := ⟨z.2.1 - j - 1, by omega⟩; rw [hy, show z.2.1 - (j + 1) = y9 from by omega]; conv => rhs; unfold jfind; rw [if_neg (by simpa using c25)]) (by omega)
        · refine J_iload_n dX8_placeOf_28 rfl rfl ?_
          exact J_iret (ty := .int) dX8_placeOf_29 rfl (rfl) ⟨(by unfold mPl; rw [← hI]; obtain ⟨y9, hy⟩ : ∃ y9, z.2.1 - j = y9 + 1 := ⟨z.2.1 - j - 1, by omega⟩; have e9 : jfind (fun k => decide (z.2.2 k = x)) (y9 + 1) j = j := (by unfold jfind; rw [if_pos (by simpa using c25)]); rw [hy, e9, if_pos (by omega)]), (by rfl)⟩
  refine J_iconst (x := 0) dX8_placeOf_0 (by decide) ?_
  refine J_istore_n (lv' := [.ref (m), .int (x), .int (0)]) dX8_placeOf_1 rfl (by decide) rfl rfl ?_
  exact L2 _ (0) (by omega) (by rfl) (Nat.lt_succ_self _)

