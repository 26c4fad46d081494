/-- what finding a version in a row leaves: the place of its span, if it is there -/
def mBp (M : jM) (m : Nat) (b : Bool) (k : Nat) : jP := fun o M1 => ∃ x, o = oI (jb b) ∧ M1 = jSi M m 14 x ∧ (b = true → x = nI k)
theorem mSlot.hd {row : Nat → Int32} {p : Nat} {w : rVl} (h : mSlot row p (some w)) : row p = nI w.1 := h.1
theorem mSlot.lo {row : Nat → Int32} {p k : Nat} {w : rVl} (h : mSlot row p (some w)) (hk : k < w.1) : row (p + 1 + 2 * k) = w.2 (2 * k) := h.2.2 _ (by omega)
theorem mSlot.hi {row : Nat → Int32} {p k : Nat} {w : rVl} (h : mSlot row p (some w)) (hk : k < w.1) : row (p + 2 + 2 * k) = w.2 (2 * k + 1) := by
  have := h.2.2 (2 * k + 1) (by omega)
  rw [← this]; congr 1; omega
theorem ji_Sin {M : jM} {a m k j : Nat} {x : Int32} (h : a ≠ m) : ji (jSi M m k x) a j = ji M a j := by rw [ji_Si, if_neg (fun h9 => h h9.1)]
theorem mSlot.si {M : jM} {a m k p : Nat} {x : Int32} {z : Option rVl} (h : mSlot (ji M a) p z) (hne : a ≠ m) : mSlot (ji (jSi M m k x) a) p z := by
  have e : ji (jSi M m k x) a = ji M a := funext fun j => ji_Sin hne
  rw [e]; exact h
theorem mOk.si {M : jM} {m a k : Nat} {x : Int32} (h : mOk M m) : mOk (jSi M a k x) m := h
theorem mOk.sv {M : jM} {m a : Nat} {g : Nat → Int32} (h : mOk M m) : mOk (jSv M a g) m := h
theorem dX8_belongs_3 : decode cX8_belongs 3 = .ok (.iload 4, 2) := by decide +kernel
theorem dX8_belongs_5 : decode cX8_belongs 5 = .ok (.aload_n 1, 1) := by decide +kernel
theorem dX8_belongs_6 : decode cX8_belongs 6 = .ok (.iload_n 2, 1) := by decide +kernel
theorem dX8_belongs_7 : decode cX8_belongs 7 = .ok (.iaload, 1) := by decide +kernel
theorem dX8_belongs_8 : decode cX8_belongs 8 = .ok (.if_icmp .ge 45, 3) := by decide +kernel
theorem dX8_belongs_53 : decode cX8_belongs 53 = .ok (.iconst 0, 1) := by decide +kernel
theorem dX8_belongs_54 : decode cX8_belongs 54 = .ok (.ireturn, 1) := by decide +kernel
theorem dX8_belongs_11 : decode cX8_belongs 11 = .ok (.aload_n 0, 1) := by decide +kernel
theorem dX8_belongs_12 : decode cX8_belongs 12 = .ok (.iload_n 2, 1) := by decide +kernel
theorem dX8_belongs_13 : decode cX8_belongs 13 = .ok (.iconst 1, 1) := by decide +kernel
theorem dX8_belongs_14 : decode cX8_belongs 14 = .ok (.iadd, 1) := by decide +kernel
theorem dX8_belongs_15 : decode cX8_belongs 15 = .ok (.iconst 2, 1) := by decide +kernel
theorem dX8_belongs_16 : decode cX8_belongs 16 = .ok (.iload 4, 2) := by decide +kernel
theorem dX8_belongs_18 : decode cX8_belongs 18 = .ok (.imul, 1) := by decide +kernel
theorem dX8_belongs_19 : decode cX8_belongs 19 = .ok (.iadd, 1) := by decide +kernel
theorem dX8_belongs_20 : decode cX8_belongs 20 = .ok (.putfield 63, 3) := by decide +kernel
theorem dX8_belongs_23 : decode cX8_belongs 23 = .ok (.aload_n 1, 1) := by decide +kernel
theorem dX8_belongs_24 : decode cX8_belongs 24 = .ok (.aload_n 0, 1) := by decide +kernel
theorem dX8_belongs_25 : decode cX8_belongs 25 = .ok (.getfield 63, 3) := by decide +kernel
theorem dX8_belongs_28 : decode cX8_belongs 28 = .ok (.iaload, 1) := by decide +kernel
theorem dX8_belongs_29 : decode cX8_belongs 29 = .ok (.iload_n 3, 1) := by decide +kernel
theorem dX8_belongs_30 : decode cX8_belongs 30 = .ok (.if_icmp .gt 17, 3) := by decide +kernel
theorem dX8_belongs_47 : decode cX8_belongs 47 = .ok (.iinc 4 1, 3) := by decide +kernel
theorem dX8_belongs_50 : decode cX8_belongs 50 = .ok (.goto (-47), 3) := by decide +kernel
theorem dX8_belongs_33 : decode cX8_belongs 33 = .ok (.iload_n 3, 1) := by decide +kernel
theorem dX8_belongs_34 : decode cX8_belongs 34 = .ok (.aload_n 1, 1) := by decide +kernel
theorem dX8_belongs_35 : decode cX8_belongs 35 = .ok (.aload_n 0, 1) := by decide +kernel
theorem dX8_belongs_36 : decode cX8_belongs 36 = .ok (.getfield 63, 3) := by decide +kernel
theorem dX8_belongs_39 : decode cX8_belongs 39 = .ok (.iconst 1, 1) := by decide +kernel
theorem dX8_belongs_40 : decode cX8_belongs 40 = .ok (.iadd, 1) := by decide +kernel
theorem dX8_belongs_41 : decode cX8_belongs 41 = .ok (.iaload, 1) := by decide +kernel
theorem dX8_belongs_42 : decode cX8_belongs 42 = .ok (.if_icmp .gt 5, 3) := by decide +kernel
theorem dX8_belongs_45 : decode cX8_belongs 45 = .ok (.iconst 1, 1) := by decide +kernel
theorem dX8_belongs_46 : decode cX8_belongs 46 = .ok (.ireturn, 1) := by decide +kernel
theorem dX8_belongs_0 : decode cX8_belongs 0 = .ok (.iconst 0, 1) := by decide +kernel
theorem dX8_belongs_1 : decode cX8_belongs 1 = .ok (.istore 4, 2) := by decide +kernel
set_option maxHeartbeats 400000 in
set_option maxRecDepth 20000 in
theorem ct_X8_belongs (l : Launch) (D : va_G) (dA : Nat → ClassId) (hst : l.stackTraces = false) (M : jM) (m : Nat) (hM : mOk M m) (a Z p : Nat) (la : a < jn M) (ka : jk M a = 22) (za : jz M a = Z) (hZ : p + 33 ≤ Z) (hZ2 : Z < 5000) (hne : a ≠ m) (w : rVl) (hw : rWf w) (hx : mSlot (ji M a) p (some w)) (x : Int32) : jCT l D dA yX8_belongs wsX8_belongs (20) (300) (0) (0) 1 [.ref (m), .ref (a), .int (nI (p)), .int (x)] M (mBp M m (rHolds w.2 w.1 x) (p + 1 + 2 * rsf w.2 w.1 x)) := by
  refine jBody (cc := cX8_belongs) (nL := 5) (rt := (some .boolean)) (ini := false) (by decide) rfl hst (Nat.le_of_ble_eq_true rfl) (by simp [Value.category]) (by intro h9; first | exact absurd h9 (by decide) | rfl) ?_
  show J l D dA RX8 cX8_belongs wsX8_belongs 5 false (some .boolean) [] (20) (300) (jF D dA (jn M) (mBp M m (rHolds w.2 w.1 x) (p + 1 + 2 * rsf w.2 w.1 x)) 1) (jn M) (0) (0) (M) 0 [.ref (m), .ref (a), .int (nI (p)), .int (x), .float 0] []
  obtain ⟨m1, m2, ⟨r1, r2, r3, r4, r5, r6, r7, r8, r9, r10, r11, r12, r13⟩, ⟨k1, k2, k3, k4, k5, k6, k7, k8, k9, k10, k11, k12, k13⟩, z1, z2, z3, z4, z5, z6, z7, z8, z9, z10, z11, z12, z13⟩ := id hM
  have h16 := hx.2.1
  have L3 : ∀ (fuel : Nat) (k : Nat) (y : Int32) (hk : k ≤ w.1) (hI : ∀ j, j < k → ¬ (w.2 (2 * j) ≤ x ∧ x ≤ w.2 (2 * j + 1))), w.1 - k < fuel → J l D dA RX8 cX8_belongs wsX8_belongs 5 false (some .boolean) [] (20) (300) (jF D dA (jn M) (mBp M m (rHolds w.2 w.1 x) (p + 1 + 2 * rsf w.2 w.1 x)) 1) (jn M) (0) (0) ((jSi M m 14 y)) 3 [.ref (m), .ref (a), .int (nI (p)), .int (x), .int (nI (k))] [] := by
    intro fuel
    induction fuel with
    | zero => intro k y hk hI hm; exact absurd hm (Nat.not_lt_zero _)
    | succ fuel ih3 =>
      intro k y hk hI hm3
      refine J_iload dX8_belongs_3 rfl ?_
      refine J_aload_n (a) dX8_belongs_5 rfl rfl ?_
      refine J_iload_n dX8_belongs_6 rfl rfl ?_
      refine J_ialdN (k := p) dX8_belongs_7 la ka (by exact Nat.lt_of_lt_of_eq (show _ < Z by omega) (Eq.symm za)) (by exact Nat.lt_of_le_of_lt (Nat.le_of_eq za) (show Z < 2 ^ 31 by omega)) ?_
      refine J_topi (y := nI (w.1)) (by rw [ji_Sin hne]; exact hx.hd) ?_
      refine J_icmp_ge dX8_belongs_8 (tgt := 53) (by decide) (fun c8 => ?_) (fun c8 => ?_)
      · have c8 := jleT (a := w.1) (b := k) (by omega) (by omega) c8
        refine J_iconst (x := 0) dX8_belongs_53 (by decide) ?_
        exact J_iret (ty := .boolean) dX8_belongs_54 rfl (by rfl) (by refine ⟨y, ?_, rfl, fun h => ?_⟩; rw [rHolds_out (fun k9 h9 => hI k9 (by omega))]; rfl; rw [rHolds_out (fun k9 h9 => hI k9 (by omega))] at h; exact nomatch h)
      · have c8 := jleF (a := w.1) (b := k) (by omega) (by omega) c8
        refine J_aload_n (m) dX8_belongs_11 rfl rfl ?_
        refine J_iload_n dX8_belongs_12 rfl rfl ?_
        refine J_iconst (x := 1) dX8_belongs_13 (by decide) ?_
        refine J_iadd dX8_belongs_14 ?_
        refine J_topi (y := nI (p + 1)) (nI_add (p) (1)) ?_
        refine J_iconst (x := 2) dX8_belongs_15 (by decide) ?_
        refine J_iload dX8_belongs_16 rfl ?_
        refine J_imul dX8_belongs_18 ?_
        refine J_topi (y := nI (2 * k)) (pk_mul (2) (k)) ?_
        refine J_iadd dX8_belongs_19 ?_
        refine J_topi (y := nI (p + 1 + 2 * k)) (nI_add (p + 1) (2 * k)) ?_
        refine J_puti (j := 14) (x := nI (p + 1 + 2 * k)) dX8_belongs_20 (fun _ h => List.mem_cons_of_mem _ (List.mem_append_left _ (List.mem_append_right _ (h)))) cs11 cty11 (by decide) rfl (List.mem_of_getElem? (i := 1) rfl) rfl rfl ⟨rfl, rfl⟩ (show m < jn M from by omega) m2 ?_
        refine J_mem (M' := jSi M m 14 (nI (p + 1 + 2 * k))) (by exact jSi_jSi _ _ _ _ _) ?_
        refine J_aload_n (a) dX8_belongs_23 rfl rfl ?_
        refine J_aload_n (m) dX8_belongs_24 rfl rfl ?_
        refine J_geti (j := 14) dX8_belongs_25 (fun _ h => List.mem_cons_of_mem _ (List.mem_append_left _ (List.mem_append_right _ (h)))) cs11 (by decide) rfl (List.mem_of_getElem? (i := 1) rfl) rfl (show m < jn M from by omega) m2 ?_
        refine J_topi (y := nI (p + 1 + 2 * k)) ((by simp [ji_Si])) ?_
        refine J_topi (y := nI (p + 1 + 2 * k)) (by rfl) ?_
        refine J_ialdN (k := p + 1 + 2 * k) dX8_belongs_28 la ka (by exact Nat.lt_of_lt_of_eq (show _ < Z by omega) (Eq.symm za)) (by exact Nat.lt_of_le_of_lt (Nat.le_of_eq za) (show Z < 2 ^ 31 by omega)) ?_
        refine J_topi (y := (w.2 (2 * k))) (by rw [ji_Sin hne]; exact hx.lo (by omega)) ?_
        refine J_iload_n dX8_belongs_29 rfl rfl ?_
        refine J_icmp_gt dX8_belongs_30 (tgt := 47) (by decide) (fun c30 => ?_) (fun c30 => ?_)
        · refine J_iinc (y := nI (k + 1)) (lv' := [.ref (m), .ref (a), .int (nI (p)), .int (x), .int (nI (k + 1))]) dX8_belongs_47 rfl (jinc (k)) (by decide) rfl rfl ?_
          refine J_goto (tgt := 3) dX8_belongs_50 (by decide) ?_
          exact ih3 (k + 1) (nI (p + 1 + 2 * k)) (by omega) (by intro j hj hj2; rcases Nat.lt_succ_iff_lt_or_eq.mp hj with h9 | rfl; exact hI j h9 hj2; first | exact absurd hj2.1 (Int32.not_le.mpr c30) | exact absurd hj2.2 (Int32.not_le.mpr c42)) (by omega)
        · refine J_iload_n dX8_belongs_33 rfl rfl ?_
          refine J_aload_n (a) dX8_belongs_34 rfl rfl ?_
          refine J_aload_n (m) dX8_belongs_35 rfl rfl ?_
          refine J_geti (j := 14) dX8_belongs_36 (fun _ h => List.mem_cons_of_mem _ (List.mem_append_left _ (List.mem_append_right _ (h)))) cs11 (by decide) rfl (List.mem_of_getElem? (i := 1) rfl) rfl (show m < jn M from by omega) m2 ?_
          refine J_topi (y := nI (p + 1 + 2 * k)) ((by simp [ji_Si])) ?_
          refine J_iconst (x := 1) dX8_belongs_39 (by decide) ?_
          refine J_iadd dX8_belongs_40 ?_
          refine J_topi (y := nI (p + 1 + 2 * k + 1)) (nI_add (p + 1 + 2 * k) (1)) ?_
          refine J_ialdN (k := p + 1 + 2 * k + 1) dX8_belongs_41 la ka (by exact Nat.lt_of_lt_of_eq (show _ < Z by omega) (Eq.symm za)) (by exact Nat.lt_of_le_of_lt (Nat.le_of_eq za) (show Z < 2 ^ 31 by omega)) ?_
          refine J_topi (y := (w.2 (2 * k + 1))) (by rw [ji_Sin hne]; exact (congrArg _ (by omega)).trans (hx.hi (k := k) (by omega))) ?_
          refine J_icmp_gt dX8_belongs_42 (tgt := 47) (by decide) (fun c42 => ?_) (fun c42 => ?_)
          · refine J_iinc (y := nI (k + 1)) (lv' := [.ref (m), .ref (a), .int (nI (p)), .int (x), .int (nI (k + 1))]) dX8_belongs_47 rfl (jinc (k)) (by decide) rfl rfl ?_
            refine J_goto (tgt := 3) dX8_belongs_50 (by decide) ?_
            exact ih3 (k + 1) (nI (p + 1 + 2 * k)) (by omega) (by intro j hj hj2; rcases Nat.lt_succ_iff_lt_or_eq.mp hj with h9 | rfl; exact hI j h9 hj2; first | exact absurd hj2.1 (Int32.not_le.mpr c30) | exact absurd hj2.2 (Int32.not_le.mpr c42)) (by omega)
          · refine J_iconst (x := 1) dX8_belongs_45 (by decide) ?_
            exact J_iret (ty := .boolean) dX8_belongs_46 rfl (by rfl) (by have h9 := rHolds_in hw (k := k) (by omega) (Int32.not_lt.mp c30) (Int32.not_lt.mp c42); refine ⟨nI (p + 1 + 2 * k), ?_, rfl, fun _ => ?_⟩; rw [h9.1]; rfl; rw [h9.2])
  refine J_mem (M' := jSi M m 14 (ji M m 14)) (by exact (jSi_self rfl).symm) ?_
  refine J_iconst (x := 0) dX8_belongs_0 (by decide) ?_
  refine J_istore (lv' := [.ref (m), .ref (a), .int (nI (p)), .int (x), .int (0)]) dX8_belongs_1 (by decide) rfl rfl ?_
  exact L3 _ (0) (ji M m 14) (by omega) (by intro j hj; exact absurd hj (Nat.not_lt_zero _)) (Nat.lt_succ_self _)

theorem mF1_f {z : cSt} {x : Int32} (h : okSlot x = false) : mF1 z x = 1 := by unfold mF1; rw [h]; rfl
theorem mF1_n {z : cSt} {k : Nat} (hk : k < 12) : mF1 z (nI k) = if (z.1 k).isNone then 2 else 0 := by unfold mF1; rw [okSlot_c (nI_pos (by omega)) (nI_lt (b := 12) hk (by omega)), cAt_n hk]; rfl
theorem mF2_f {z : cSt} {x y : Int32} (h : okSlot x = false) : mF2 z x y = 1 := by unfold mF2; rw [h]; rfl
theorem mF2_n {z : cSt} {k : Nat} {y : Int32} (hk : k < 12) : mF2 z (nI k) y = if okVer y then (if (z.1 k).isNone then 3 else 0) else 2 := by unfold mF2; rw [okSlot_c (nI_pos (by omega)) (nI_lt (b := 12) hk (by omega)), cAt_n hk]; rfl
theorem mSt.at0 {row : Nat → Int32} {z : cSt} {k : Nat} (h : mSt row 0 z) (hk : k < 12) : mSlot row (33 * k) (z.1 k) := by have h9 := h.1 k hk; rwa [Nat.zero_add] at h9
theorem rHolds_lt {e : Nat → Int32} {n : Nat} {x : Int32} (h : rHolds e n x = true) : rsf e n x < n := by unfold rHolds at h; rw [Bool.and_eq_true] at h; exact of_decide_eq_true h.1
def mBq (M : jM) (m : Nat) (b : Bool) : jP := fun o M1 => ∃ x, o = oI (jb b) ∧ M1 = jSi M m 14 x
theorem dX8_turn_10 : decode cX8_turn 10 = .ok (.iload 4, 2) := by decide +kernel
theorem dX8_turn_12 : decode cX8_turn 12 = .ok (.ifCond .lt 64, 3) := by decide +kernel
theorem dX8_turn_76 : decode cX8_turn 76 = .ok (.iload_n 3, 1) := by decide +kernel
theorem dX8_turn_77 : decode cX8_turn 77 = .ok (.ireturn, 1) := by decide +kernel
theorem dX8_turn_15 : decode cX8_turn 15 = .ok (.aload_n 0, 1) := by decide +kernel
theorem dX8_turn_16 : decode cX8_turn 16 = .ok (.iload_n 1, 1) := by decide +kernel
theorem dX8_turn_17 : decode cX8_turn 17 = .ok (.iconst 1, 1) := by decide +kernel
theorem dX8_turn_18 : decode cX8_turn 18 = .ok (.iadd, 1) := by decide +kernel
theorem dX8_turn_19 : decode cX8_turn 19 = .ok (.iconst 2, 1) := by decide +kernel
theorem dX8_turn_20 : decode cX8_turn 20 = .ok (.iload 4, 2) := by decide +kernel
theorem dX8_turn_22 : decode cX8_turn 22 = .ok (.imul, 1) := by decide +kernel
theorem dX8_turn_23 : decode cX8_turn 23 = .ok (.iadd, 1) := by decide +kernel
theorem dX8_turn_24 : decode cX8_turn 24 = .ok (.iaload, 1) := by decide +kernel
theorem dX8_turn_25 : decode cX8_turn 25 = .ok (.iload_n 2, 1) := by decide +kernel
theorem dX8_turn_26 : decode cX8_turn 26 = .ok (.if_icmp .le 17, 3) := by decide +kernel
theorem dX8_turn_43 : decode cX8_turn 43 = .ok (.aload_n 0, 1) := by decide +kernel
theorem dX8_turn_44 : decode cX8_turn 44 = .ok (.iload_n 1, 1) := by decide +kernel
theorem dX8_turn_45 : decode cX8_turn 45 = .ok (.iconst 2, 1) := by decide +kernel
theorem dX8_turn_46 : decode cX8_turn 46 = .ok (.iadd, 1) := by decide +kernel
theorem dX8_turn_47 : decode cX8_turn 47 = .ok (.iconst 2, 1) := by decide +kernel
theorem dX8_turn_48 : decode cX8_turn 48 = .ok (.iload 4, 2) := by decide +kernel
theorem dX8_turn_50 : decode cX8_turn 50 = .ok (.imul, 1) := by decide +kernel
theorem dX8_turn_51 : decode cX8_turn 51 = .ok (.iadd, 1) := by decide +kernel
theorem dX8_turn_52 : decode cX8_turn 52 = .ok (.iaload, 1) := by decide +kernel
theorem dX8_turn_53 : decode cX8_turn 53 = .ok (.iload_n 2, 1) := by decide +kernel
theorem dX8_turn_54 : decode cX8_turn 54 = .ok (.if_icmp .lt 16, 3) := by decide +kernel
theorem dX8_turn_70 : decode cX8_turn 70 = .ok (.iinc 4 (-1), 3) := by decide +kernel
theorem dX8_turn_73 : decode cX8_turn 73 = .ok (.goto (-63), 3) := by decide +kernel
theorem dX8_turn_57 : decode cX8_turn 57 = .ok (.aload_n 0, 1) := by decide +kernel
theorem dX8_turn_58 : decode cX8_turn 58 = .ok (.iload_n 1, 1) := by decide +kernel
theorem dX8_turn_59 : decode cX8_turn 59 = .ok (.iconst 2, 1) := by decide +kernel
theorem dX8_turn_60 : decode cX8_turn 60 = .ok (.iadd, 1) := by decide +kernel
theorem dX8_turn_61 : decode cX8_turn 61 = .ok (.iconst 2, 1) := by decide +kernel
theorem dX8_turn_62 : decode cX8_turn 62 = .ok (.iload 4, 2) := by decide +kernel
theorem dX8_turn_64 : decode cX8_turn 64 = .ok (.imul, 1) := by decide +kernel
theorem dX8_turn_65 : decode cX8_turn 65 = .ok (.iadd, 1) := by decide +kernel
theorem dX8_turn_66 : decode cX8_turn 66 = .ok (.iaload, 1) := by decide +kernel
theorem dX8_turn_67 : decode cX8_turn 67 = .ok (.iconst 1, 1) := by decide +kernel
theorem dX8_turn_68 : decode cX8_turn 68 = .ok (.iadd, 1) := by decide +kernel
theorem dX8_turn_69 : decode cX8_turn 69 = .ok (.ireturn, 1) := by decide +kernel
theorem dX8_turn_29 : decode cX8_turn 29 = .ok (.aload_n 0, 1) := by decide +kernel
theorem dX8_turn_30 : decode cX8_turn 30 = .ok (.iload_n 1, 1) := by decide +kernel
theorem dX8_turn_31 : decode cX8_turn 31 = .ok (.iconst 1, 1) := by decide +kernel
theorem dX8_turn_32 : decode cX8_turn 32 = .ok (.iadd, 1) := by decide +kernel
theorem dX8_turn_33 : decode cX8_turn 33 = .ok (.iconst 2, 1) := by decide +kernel
theorem dX8_turn_34 : decode cX8_turn 34 = .ok (.iload 4, 2) := by decide +kernel
theorem dX8_turn_36 : decode cX8_turn 36 = .ok (.imul, 1) := by decide +kernel
theorem dX8_turn_37 : decode cX8_turn 37 = .ok (.iadd, 1) := by decide +kernel
theorem dX8_turn_38 : decode cX8_turn 38 = .ok (.iaload, 1) := by decide +kernel
theorem dX8_turn_39 : decode cX8_turn 39 = .ok (.istore_n 3, 1) := by decide +kernel
theorem dX8_turn_40 : decode cX8_turn 40 = .ok (.goto 30, 3) := by decide +kernel
theorem dX8_turn_0 : decode cX8_turn 0 = .ok (.ldc 66, 2) := by decide +kernel
theorem dX8_turn_2 : decode cX8_turn 2 = .ok (.istore_n 3, 1) := by decide +kernel
theorem dX8_turn_3 : decode cX8_turn 3 = .ok (.aload_n 0, 1) := by decide +kernel
theorem dX8_turn_4 : decode cX8_turn 4 = .ok (.iload_n 1, 1) := by decide +kernel
theorem dX8_turn_5 : decode cX8_turn 5 = .ok (.iaload, 1) := by decide +kernel
theorem dX8_turn_6 : decode cX8_turn 6 = .ok (.iconst 1, 1) := by decide +kernel
theorem dX8_turn_7 : decode cX8_turn 7 = .ok (.isub, 1) := by decide +kernel
theorem dX8_turn_8 : decode cX8_turn 8 = .ok (.istore 4, 2) := by decide +kernel
set_option maxHeartbeats 400000 in
set_option maxRecDepth 20000 in
theorem ct_X8_turn (l : Launch) (D : va_G) (dA : Nat → ClassId) (hst : l.stackTraces = false) (M : jM) (a Z p : Nat) (la : a < jn M) (ka : jk M a = 22) (za : jz M a = Z) (hZ : p + 33 ≤ Z) (hZ2 : Z < 5000) (w : rVl) (hx : mSlot (ji M a) p (some w)) (x : Int32) : jCT l D dA yX8_turn wsX8_turn (20) (300) (0) (0) 1 [.ref (a), .int (nI (p)), .int (x)] M (jPo (oI (mTurn w.2 x w.1 100000000)) (M)) := by
  refine jBody (cc := cX8_turn) (nL := 5) (rt := (some .int)) (ini := false) (by decide) rfl hst (Nat.le_of_ble_eq_true rfl) (by simp [Value.category]) (by intro h9; first | exact absurd h9 (by decide) | rfl) ?_
  show J l D dA RX8 cX8_turn wsX8_turn 5 false (some .int) [] (20) (300) (jF D dA (jn M) (jPo (oI (mTurn w.2 x w.1 100000000)) (M)) 1) (jn M) (0) (0) (M) 0 [.ref (a), .int (nI (p)), .int (x), .float 0, .float 0] []
  have h16 := hx.2.1
  have L10 : ∀ (fuel : Nat) (k : Nat) (nx : Int32) (hk : k ≤ w.1) (hI : mTurn w.2 x k nx = mTurn w.2 x w.1 100000000), k < fuel → J l D dA RX8 cX8_turn wsX8_turn 5 false (some .int) [] (20) (300) (jF D dA (jn M) (jPo (oI (mTurn w.2 x w.1 100000000)) (M)) 1) (jn M) (0) (0) (M) 10 [.ref (a), .int (nI (p)), .int (x), .int (nx), .int (nI k - 1)] [] := by
    intro fuel
    induction fuel with
    | zero => intro k nx hk hI hm; exact absurd hm (Nat.not_lt_zero _)
    | succ fuel ih10 =>
      intro k nx hk hI hm10
      rcases Nat.eq_zero_or_pos k with rfl | hk0
      · refine J_conv (M' := M) (lv' := [.ref (a), .int (nI (p)), .int (x), .int (nx), .int (-1)]) (st' := []) rfl rfl rfl ?_
        refine J_iload dX8_turn_10 rfl ?_
        refine J_if_lt dX8_turn_12 (tgt := 76) (by decide) (fun c12 => ?_) (fun c12 => ?_)
        · refine J_iload_n dX8_turn_76 rfl rfl ?_
          exact J_iret (ty := .int) dX8_turn_77 rfl (rfl) ⟨(by first | (exfalso; omega) | (rw [← hI]; rfl)), (by rfl)⟩
        · exact absurd c12 (by decide)
      · refine J_conv (M' := M) (lv' := [.ref (a), .int (nI (p)), .int (x), .int (nx), .int (nI (k - 1))]) (st' := []) rfl (by rw [show nI k - 1 = nI (k - 1) from pk_sub (a := k) (b := 1) hk0]) rfl ?_
        refine J_iload dX8_turn_10 rfl ?_
        refine J_if_lt dX8_turn_12 (tgt := 76) (by decide) (fun c12 => ?_) (fun c12 => ?_)
        · have c12 := jltT (a := k - 1) (b := 0) (by omega) (by omega) c12
          refine J_iload_n dX8_turn_76 rfl rfl ?_
          exact J_iret (ty := .int) dX8_turn_77 rfl (rfl) ⟨(by first | (exfalso; omega) | (rw [← hI]; rfl)), (by rfl)⟩
        · have c12 := jltF (a := k - 1) (b := 0) (by omega) (by omega) c12
          refine J_aload_n (a) dX8_turn_15 rfl rfl ?_
          refine J_iload_n dX8_turn_16 rfl rfl ?_
          refine J_iconst (x := 1) dX8_turn_17 (by decide) ?_
          refine J_iadd dX8_turn_18 ?_
          refine J_topi (y := nI (p + 1)) (nI_add (p) (1)) ?_
          refine J_iconst (x := 2) dX8_turn_19 (by decide) ?_
          refine J_iload dX8_turn_20 rfl ?_
          refine J_imul dX8_turn_22 ?_
          refine J_topi (y := nI (2 * (k - 1))) (pk_mul (2) (k - 1)) ?_
          refine J_iadd dX8_turn_23 ?_
          refine J_topi (y := nI (p + 1 + 2 * (k - 1))) (nI_add (p + 1) (2 * (k - 1))) ?_
          refine J_ialdN (k := p + 1 + 2 * (k - 1)) dX8_turn_24 la ka (by exact Nat.lt_of_lt_of_eq (show _ < Z by omega) (Eq.symm za)) (by exact Nat.lt_of_le_of_lt (Nat.le_of_eq za) (show Z < 2 ^ 31 by omega)) ?_
          refine J_topi (y := (w.2 (2 * (k - 1)))) (by exact (congrArg _ (by omega)).trans (hx.lo (k := k - 1) (by omega))) ?_
          refine J_iload_n dX8_turn_25 rfl rfl ?_
          refine J_icmp_le dX8_turn_26 (tgt := 43) (by decide) (fun c26 => ?_) (fun c26 => ?_)
          · refine J_aload_n (a) dX8_turn_43 rfl rfl ?_
            refine J_iload_n dX8_turn_44 rfl rfl ?_
            refine J_iconst (x := 2) dX8_turn_45 (by decide) ?_
            refine J_iadd dX8_turn_46 ?_
            refine J_topi (y := nI (p + 2)) (nI_add (p) (2)) ?_
            refine J_iconst (x := 2) dX8_turn_47 (by decide) ?_
            refine J_iload dX8_turn_48 rfl ?_
            refine J_imul dX8_turn_50 ?_
            refine J_topi (y := nI (2 * (k - 1))) (pk_mul (2) (k - 1)) ?_
            refine J_iadd dX8_turn_51 ?_
            refine J_topi (y := nI (p + 2 + 2 * (k - 1))) (nI_add (p + 2) (2 * (k - 1))) ?_
            refine J_ialdN (k := p + 2 + 2 * (k - 1)) dX8_turn_52 la ka (by exact Nat.lt_of_lt_of_eq (show _ < Z by omega) (Eq.symm za)) (by exact Nat.lt_of_le_of_lt (Nat.le_of_eq za) (show Z < 2 ^ 31 by omega)) ?_
            refine J_topi (y := (w.2 (2 * (k - 1) + 1))) (by exact (congrArg _ (by omega)).trans (hx.hi (k := k - 1) (by omega))) ?_
            refine J_iload_n dX8_turn_53 rfl rfl ?_
            refine J_icmp_lt dX8_turn_54 (tgt := 70) (by decide) (fun c54 => ?_) (fun c54 => ?_)
            · refine J_iinc (y := (nI (k - 1) - 1)) (lv' := [.ref (a), .int (nI (p)), .int (x), .int (nx), .int (nI (k - 1) - 1)]) dX8_turn_70 rfl (jdecm _) (by decide) rfl rfl ?_
              refine J_goto (tgt := 10) dX8_turn_73 (by decide) ?_
              exact ih10 (k - 1) (nx) (by omega) (by rw [← hI]; obtain ⟨z, rfl⟩ : ∃ z, k = z + 1 := ⟨k - 1, by omega⟩; simp only [Nat.add_sub_cancel] at *; conv => rhs; unfold mTurn; rw [if_neg (Int32.not_lt.mpr c26), if_neg (Int32.not_le.mpr c54)]) (by omega)
            · refine J_aload_n (a) dX8_turn_57 rfl rfl ?_
              refine J_iload_n dX8_turn_58 rfl rfl ?_
              refine J_iconst (x := 2) dX8_turn_59 (by decide) ?_
              refine J_iadd dX8_turn_60 ?_
              refine J_topi (y := nI (p + 2)) (nI_add (p) (2)) ?_
              refine J_iconst (x := 2) dX8_turn_61 (by decide) ?_
              refine J_iload dX8_turn_62 rfl ?_
              refine J_imul dX8_turn_64 ?_
              refine J_topi (y := nI (2 * (k - 1))) (pk_mul (2) (k - 1)) ?_
              refine J_iadd dX8_turn_65 ?_
              refine J_topi (y := nI (p + 2 + 2 * (k - 1))) (nI_add (p + 2) (2 * (k - 1))) ?_
              refine J_ialdN (k := p + 2 + 2 * (k - 1)) dX8_turn_66 la ka (by exact Nat.lt_of_lt_of_eq (show _ < Z by omega) (Eq.symm za)) (by exact Nat.lt_of_le_of_lt (Nat.le_of_eq za) (show Z < 2 ^ 31 by omega)) ?_
              refine J_topi (y := (w.2 (2 * (k - 1) + 1))) (by exact (congrArg _ (by omega)).trans (hx.hi (k := k - 1) (by omega))) ?_
              refine J_iconst (x := 1) dX8_turn_67 (by decide) ?_
              refine J_iadd dX8_turn_68 ?_
              exact J_iret (ty := .int) dX8_turn_69 rfl (rfl) ⟨(by rw [← hI]; obtain ⟨z, rfl⟩ : ∃ z, k = z + 1 := ⟨k - 1, by omega⟩; simp only [Nat.add_sub_cancel] at *; unfold mTurn; rw [if_neg (Int32.not_lt.mpr c26), if_pos (Int32.not_lt.mp c54)]), (by rfl)⟩
          · refine J_aload_n (a) dX8_turn_29 rfl rfl ?_
            refine J_iload_n dX8_turn_30 rfl rfl ?_
            refine J_iconst (x := 1) dX8_turn_31 (by decide) ?_
            refine J_iadd dX8_turn_32 ?_
            refine J_topi (y := nI (p + 1)) (nI_add (p) (1)) ?_
            refine J_iconst (x := 2) dX8_turn_33 (by decide) ?_
            refine J_iload dX8_turn_34 rfl ?_
            refine J_imul dX8_turn_36 ?_
            refine J_topi (y := nI (2 * (k - 1))) (pk_mul (2) (k - 1)) ?_
            refine J_iadd dX8_turn_37 ?_
            refine J_topi (y := nI (p + 1 + 2 * (k - 1))) (nI_add (p + 1) (2 * (k - 1))) ?_
            refine J_ialdN (k := p + 1 + 2 * (k - 1)) dX8_turn_38 la ka (by exact Nat.lt_of_lt_of_eq (show _ < Z by omega) (Eq.symm za)) (by exact Nat.lt_of_le_of_lt (Nat.le_of_eq za) (show Z < 2 ^ 31 by omega)) ?_
            refine J_topi (y := (w.2 (2 * (k - 1)))) (by exact (congrArg _ (by omega)).trans (hx.lo (k := k - 1) (by omega))) ?_
            refine J_istore_n (lv' := [.ref (a), .int (nI (p)), .int (x), .int (w.2 (2 * (k - 1))), .int (nI (k - 1))]) dX8_turn_39 rfl (by decide) rfl rfl ?_
            refine J_goto (tgt := 70) dX8_turn_40 (by decide) ?_
            refine J_iinc (y := (nI (k - 1) - 1)) (lv' := [.ref (a), .int (nI (p)), .int (x), .int (w.2 (2 * (k - 1))), .int (nI (k - 1) - 1)]) dX8_turn_70 rfl (jdecm _) (by decide) rfl rfl ?_
            refine J_goto (tgt := 10) dX8_turn_73 (by decide) ?_
            exact ih10 (k - 1) (w.2 (2 * (k - 1))) (by omega) (by rw [← hI]; obtain ⟨z, rfl⟩ : ∃ z, k = z + 1 := ⟨k - 1, by omega⟩; simp only [Nat.add_sub_cancel] at *; conv => rhs; unfold mTurn; rw [if_pos (Int32.not_le.mp c26)]) (by omega)
  refine J_ldc (x := 100000000) dX8_turn_0 (List.mem_of_getElem? (i := 1) rfl) ?_
  refine J_istore_n (lv' := [.ref (a), .int (nI (p)), .int (x), .int (100000000), .float 0]) dX8_turn_2 rfl (by decide) rfl rfl ?_
  refine J_aload_n (a) dX8_turn_3 rfl rfl ?_
  refine J_iload_n dX8_turn_4 rfl rfl ?_
  refine J_ialdN (k := p) dX8_turn_5 la ka (by exact Nat.lt_of_lt_of_eq (show _ < Z by omega) (Eq.symm za)) (by exact Nat.lt_of_le_of_lt (Nat.le_of_eq za) (show Z < 2 ^ 31 by omega)) ?_
  refine J_topi (y := nI (w.1)) (by exact hx.hd) ?_
  refine J_iconst (x := 1) dX8_turn_6 (by decide) ?_
  refine J_isub dX8_turn_7 ?_
  refine J_istore (lv' := [.ref (a), .int (nI (p)), .int (x), .int (100000000), .int (nI (w.1) - (1))]) dX8_turn_8 (by decide) rfl rfl ?_
  exact L10 _ (w.1) (100000000) (by omega) (by rfl) (Nat.lt_succ_self _)

theorem dX8_fails1_0 : decode cX8_fails1 0 = .ok (.aload_n 0, 1) := by decide +kernel
theorem dX8_fails1_1 : decode cX8_fails1 1 = .ok (.iload_n 1, 1) := by decide +kernel
theorem dX8_fails1_2 : decode cX8_fails1 2 = .ok (.invokestatic 151, 3) := by decide +kernel
set_option maxRecDepth 20000 in
theorem ggX8_fails1_X8_isSlot : GoodIn wsX8_fails1 wsX8_isSlot := goodIn_r _ [4] (by decide +kernel) (by decide +kernel)
set_option maxRecDepth 20000 in
theorem gX8_fails1_X8_isSlot : GoodIn wsX8_fails1 (va_wsS RX8 151 yX8_isSlot wsX8_isSlot) := goodIn_app (goodIn_of _ (by decide +kernel)) ggX8_fails1_X8_isSlot
theorem yY_X8_isSlot : jY yX8_isSlot wsX8_isSlot cX8_isSlot 1 (some .boolean) 1 := ⟨⟨_, rfl⟩, by decide +kernel, by decide +kernel, by decide +kernel⟩
theorem dX8_fails1_5 : decode cX8_fails1 5 = .ok (.ifCond .ne 7, 3) := by decide +kernel
theorem dX8_fails1_12 : decode cX8_fails1 12 = .ok (.aload_n 0, 1) := by decide +kernel
theorem dX8_fails1_13 : decode cX8_fails1 13 = .ok (.iload_n 1, 1) := by decide +kernel
theorem dX8_fails1_14 : decode cX8_fails1 14 = .ok (.invokevirtual 188, 3) := by decide +kernel
set_option maxRecDepth 20000 in
theorem ggX8_fails1_X8_isEmpty : GoodIn wsX8_fails1 wsX8_isEmpty := goodIn_ca (goodIn_r _ [8, 9, 15, 16, 17, 18, 19, 20, 21, 22, 23, 24, 25, 26, 27, 28, 29, 30, 31, 32, 33, 34, 35, 36, 37, 38, 39, 40, 41, 42, 43, 44, 45] (by decide +kernel) (by decide +kernel)) (goodIn_sub (fun _ h => List.mem_cons_of_mem _ (List.mem_append_right _ h)) (by decide +kernel))
set_option maxRecDepth 20000 in
theorem gX8_fails1_X8_isEmpty : GoodIn wsX8_fails1 (wsV RX8 188 RX8 yX8_isEmpty wsX8_isEmpty) := goodIn_app (goodIn_of _ (by decide +kernel)) ggX8_fails1_X8_isEmpty
theorem yY_X8_isEmpty : jY yX8_isEmpty wsX8_isEmpty cX8_isEmpty 2 (some .boolean) 1 := ⟨⟨_, rfl⟩, by decide +kernel, by decide +kernel, by decide +kernel⟩
theorem dX8_fails1_17 : decode cX8_fails1 17 = .ok (.ifCond .eq 7, 3) := by decide +kernel
theorem dX8_fails1_24 : decode cX8_fails1 24 = .ok (.iconst 0, 1) := by decide +kernel
theorem dX8_fails1_25 : decode cX8_fails1 25 = .ok (.invokevirtual 148, 3) := by decide +kernel
set_option maxRecDepth 20000 in
theorem ggX8_fails1_X8_fails : GoodIn wsX8_fails1 wsX8_fails := goodIn_r _ [13, 14, 15, 16, 17, 18, 19, 20, 21, 22, 23, 24, 25, 26, 27, 28, 29, 30, 31, 32, 33, 34, 35, 36, 37, 38, 39, 40, 41, 42, 43, 44, 45] (by decide +kernel) (by decide +kernel)
set_option maxRecDepth 20000 in
theorem gX8_fails1_X8_fails : GoodIn wsX8_fails1 (wsV RX8 148 RX8 yX8_fails wsX8_fails) := goodIn_app (goodIn_of _ (by decide +kernel)) ggX8_fails1_X8_fails
theorem yY_X8_fails : jY yX8_fails wsX8_fails cX8_fails 2 (some .boolean) 1 := ⟨⟨_, rfl⟩, by decide +kernel, by decide +kernel, by decide +kernel⟩
theorem dX8_fails1_28 : decode cX8_fails1 28 = .ok (.ireturn, 1) := by decide +kernel
theorem dX8_fails1_20 : decode cX8_fails1 20 = .ok (.iconst 2, 1) := by decide +kernel
theorem dX8_fails1_21 : decode cX8_fails1 21 = .ok (.goto 4, 3) := by decide +kernel
theorem dX8_fails1_8 : decode cX8_fails1 8 = .ok (.iconst 1, 1) := by decide +kernel
theorem dX8_fails1_9 : decode cX8_fails1 9 = .ok (.goto 16, 3) := by decide +kernel
set_option maxHeartbeats 400000 in
set_option maxRecDepth 20000 in
theorem ct_X8_fails1 (l : Launch) (D : va_G) (dA : Nat → ClassId) (hst : l.stackTraces = false) (M : jM) (m : Nat) (hM : mOk M m) (z : cSt) (hz : mSt (ji M (m + 1)) 0 z) (s : Int32) : jCT l D dA yX8_fails1 wsX8_fails1 (21) (360) (0) (0) 1 [.ref (m), .int (s)] M (jPo (oI (jb (decide (0 < mF1 z s)))) (jSi M m 11 (mF1 z s))) := by
  refine jBody (cc := cX8_fails1) (nL := 2) (rt := (some .boolean)) (ini := false) (by decide) rfl hst (Nat.le_of_ble_eq_true rfl) (by simp [Value.category]) (by intro h9; first | exact absurd h9 (by decide) | rfl) ?_
  show J l D dA RX8 cX8_fails1 wsX8_fails1 2 false (some .boolean) [] (21) (360) (jF D dA (jn M) (jPo (oI (jb (decide (0 < mF1 z s)))) (jSi M m 11 (mF1 z s))) 1) (jn M) (0) (0) (M) 0 [.ref (m), .int (s)] []
  obtain ⟨m1, m2, ⟨r1, r2, r3, r4, r5, r6, r7, r8, r9, r10, r11, r12, r13⟩, ⟨k1, k2, k3, k4, k5, k6, k7, k8, k9, k10, k11, k12, k13⟩, z1, z2, z3, z4, z5, z6, z7, z8, z9, z10, z11, z12, z13⟩ := id hM
  refine J_aload_n (m) dX8_fails1_0 rfl rfl ?_
  refine J_iload_n dX8_fails1_1 rfl rfl ?_
  refine J_calli0 (jrunS (As := [.int (s)]) (ct_X8_isSlot l D dA hst M ((s))) dX8_fails1_2 yY_X8_isSlot gX8_fails1_X8_isSlot rfl ⟨by omega, by omega⟩ ⟨Nat.zero_le _, Nat.zero_le _⟩ rfl (Nat.le_of_ble_eq_true rfl)) (rfl) (rfl) ?_
  refine J_if_ne dX8_fails1_5 (tgt := 12) (by decide) (fun c5 => ?_) (fun c5 => ?_)
  · have c5 := jb0F c5
    obtain ⟨k, hk, rfl⟩ := okSlot_of c5
    refine J_aload_n (m) dX8_fails1_12 rfl rfl ?_
    refine J_iload_n dX8_fails1_13 rfl rfl ?_
    refine J_calli0 (jrunV (As := [.int (nI (k))]) (ct_X8_isEmpty l D dA hst M m hM k hk (z.1 k) (hz.at0 hk)) dX8_fails1_14 yY_X8_isEmpty gX8_fails1_X8_isEmpty rfl cs11 (show m < jn M from by omega) m2 rfl ⟨by omega, by omega⟩ ⟨Nat.zero_le _, Nat.zero_le _⟩ rfl (Nat.le_of_ble_eq_true rfl)) (rfl) (rfl) ?_
    refine J_if_eq dX8_fails1_17 (tgt := 24) (by decide) (fun c17 => ?_) (fun c17 => ?_)
    · have c17 := jb0T c17
      refine J_iconst (x := 0) dX8_fails1_24 (by decide) ?_
      refine J_calli0 (jrunV (As := [.int (0)]) (ct_X8_fails l D dA hst M m hM ((0))) dX8_fails1_25 yY_X8_fails gX8_fails1_X8_fails rfl cs11 (show m < jn M from by omega) m2 rfl ⟨by omega, by omega⟩ ⟨Nat.zero_le _, Nat.zero_le _⟩ rfl (Nat.le_of_ble_eq_true rfl)) (rfl) (rfl) ?_
      exact J_iret (ty := .boolean) dX8_fails1_28 rfl (jb_n _) ⟨(by first | (rw [mF1_f c5]; done) | (rw [mF1_f c5]; rfl) | (rw [mF1_n hk]; simp [*]; done) | fail "f"), (by first | (rw [mF1_f c5]; done) | (rw [mF1_f c5]; rfl) | (rw [mF1_n hk]; simp [*]; done) | fail "f")⟩
    · have c17 := jb0F c17
      refine J_iconst (x := 2) dX8_fails1_20 (by decide) ?_
      refine J_goto (tgt := 25) dX8_fails1_21 (by decide) ?_
      refine J_calli0 (jrunV (As := [.int (2)]) (ct_X8_fails l D dA hst M m hM ((2))) dX8_fails1_25 yY_X8_fails gX8_fails1_X8_fails rfl cs11 (show m < jn M from by omega) m2 rfl ⟨by omega, by omega⟩ ⟨Nat.zero_le _, Nat.zero_le _⟩ rfl (Nat.le_of_ble_eq_true rfl)) (rfl) (rfl) ?_
      exact J_iret (ty := .boolean) dX8_fails1_28 rfl (jb_n _) ⟨(by first | (rw [mF1_f c5]; done) | (rw [mF1_f c5]; rfl) | (rw [mF1_n hk]; simp [*]; done) | fail "f"), (by first | (rw [mF1_f c5]; done) | (rw [mF1_f c5]; rfl) | (rw [mF1_n hk]; simp [*]; done) | fail "f")⟩
  · have c5 := jb0T c5
    refine J_iconst (x := 1) dX8_fails1_8 (by decide) ?_
    refine J_goto (tgt := 25) dX8_fails1_9 (by decide) ?_
    refine J_calli0 (jrunV (As := [.int (1)]) (ct_X8_fails l D dA hst M m hM ((1))) dX8_fails1_25 yY_X8_fails gX8_fails1_X8_fails rfl cs11 (show m < jn M from by omega) m2 rfl ⟨by omega, by omega⟩ ⟨Nat.zero_le _, Nat.zero_le _⟩ rfl (Nat.le_of_ble_eq_true rfl)) (rfl) (rfl) ?_
    exact J_iret (ty := .boolean) dX8_fails1_28 rfl (jb_n _) ⟨(by first | (rw [mF1_f c5]; done) | (rw [mF1_f c5]; rfl) | (rw [mF1_n hk]; simp [*]; done) | fail "f"), (by first | (rw [mF1_f c5]; done) | (rw [mF1_f c5]; rfl) | (rw [mF1_n hk]; simp [*]; done) | fail "f")⟩

theorem dX8_fails2_0 : decode cX8_fails2 0 = .ok (.aload_n 0, 1) := by decide +kernel
theorem dX8_fails2_1 : decode cX8_fails2 1 = .ok (.iload_n 1, 1) := by decide +kernel
theorem dX8_fails2_2 : decode cX8_fails2 2 = .ok (.invokestatic 151, 3) := by decide +kernel
set_option maxRecDepth 20000 in
theorem ggX8_fails2_X8_isSlot : GoodIn wsX8_fails2 wsX8_isSlot := goodIn_r _ [4] (by decide +kernel) (by decide +kernel)
set_option maxRecDepth 20000 in
theorem gX8_fails2_X8_isSlot : GoodIn wsX8_fails2 (va_wsS RX8 151 yX8_isSlot wsX8_isSlot) := goodIn_app (goodIn_of _ (by decide +kernel)) ggX8_fails2_X8_isSlot
theorem dX8_fails2_5 : decode cX8_fails2 5 = .ok (.ifCond .ne 7, 3) := by decide +kernel
theorem dX8_fails2_12 : decode cX8_fails2 12 = .ok (.iload_n 2, 1) := by decide +kernel
theorem dX8_fails2_13 : decode cX8_fails2 13 = .ok (.invokestatic 202, 3) := by decide +kernel
set_option maxRecDepth 20000 in
theorem ggX8_fails2_X8_isVersion : GoodIn wsX8_fails2 wsX8_isVersion := goodIn_r _ [7, 8] (by decide +kernel) (by decide +kernel)
set_option maxRecDepth 20000 in
theorem gX8_fails2_X8_isVersion : GoodIn wsX8_fails2 (va_wsS RX8 202 yX8_isVersion wsX8_isVersion) := goodIn_app (goodIn_of _ (by decide +kernel)) ggX8_fails2_X8_isVersion
theorem yY_X8_isVersion : jY yX8_isVersion wsX8_isVersion cX8_isVersion 1 (some .boolean) 1 := ⟨⟨_, rfl⟩, by decide +kernel, by decide +kernel, by decide +kernel⟩
theorem dX8_fails2_16 : decode cX8_fails2 16 = .ok (.ifCond .ne 7, 3) := by decide +kernel
theorem dX8_fails2_23 : decode cX8_fails2 23 = .ok (.aload_n 0, 1) := by decide +kernel
theorem dX8_fails2_24 : decode cX8_fails2 24 = .ok (.iload_n 1, 1) := by decide +kernel
theorem dX8_fails2_25 : decode cX8_fails2 25 = .ok (.invokevirtual 188, 3) := by decide +kernel
set_option maxRecDepth 20000 in
theorem ggX8_fails2_X8_isEmpty : GoodIn wsX8_fails2 wsX8_isEmpty := goodIn_ca (goodIn_r _ [12, 13, 19, 20, 21, 22, 23, 24, 25, 26, 27, 28, 29, 30, 31, 32, 33, 34, 35, 36, 37, 38, 39, 40, 41, 42, 43, 44, 45, 46, 47, 48, 49] (by decide +kernel) (by decide +kernel)) (goodIn_sub (fun _ h => List.mem_cons_of_mem _ (List.mem_append_right _ h)) (by decide +kernel))
set_option maxRecDepth 20000 in
theorem gX8_fails2_X8_isEmpty : GoodIn wsX8_fails2 (wsV RX8 188 RX8 yX8_isEmpty wsX8_isEmpty) := goodIn_app (goodIn_of _ (by decide +kernel)) ggX8_fails2_X8_isEmpty
theorem dX8_fails2_28 : decode cX8_fails2 28 = .ok (.ifCond .eq 7, 3) := by decide +kernel
theorem dX8_fails2_35 : decode cX8_fails2 35 = .ok (.iconst 0, 1) := by decide +kernel
theorem dX8_fails2_36 : decode cX8_fails2 36 = .ok (.invokevirtual 148, 3) := by decide +kernel
set_option maxRecDepth 20000 in
theorem ggX8_fails2_X8_fails : GoodIn wsX8_fails2 wsX8_fails := goodIn_r _ [17, 18, 19, 20, 21, 22, 23, 24, 25, 26, 27, 28, 29, 30, 31, 32, 33, 34, 35, 36, 37, 38, 39, 40, 41, 42, 43, 44, 45, 46, 47, 48, 49] (by decide +kernel) (by decide +kernel)
set_option maxRecDepth 20000 in
theorem gX8_fails2_X8_fails : GoodIn wsX8_fails2 (wsV RX8 148 RX8 yX8_fails wsX8_fails) := goodIn_app (goodIn_of _ (by decide +kernel)) ggX8_fails2_X8_fails
theorem dX8_fails2_39 : decode cX8_fails2 39 = .ok (.ireturn, 1) := by decide +kernel
theorem dX8_fails2_31 : decode cX8_fails2 31 = .ok (.iconst 3, 1) := by decide +kernel
theorem dX8_fails2_32 : decode cX8_fails2 32 = .ok (.goto 4, 3) := by decide +kernel
theorem dX8_fails2_19 : decode cX8_fails2 19 = .ok (.iconst 2, 1) := by decide +kernel
theorem dX8_fails2_20 : decode cX8_fails2 20 = .ok (.goto 16, 3) := by decide +kernel
theorem dX8_fails2_8 : decode cX8_fails2 8 = .ok (.iconst 1, 1) := by decide +kernel
theorem dX8_fails2_9 : decode cX8_fails2 9 = .ok (.goto 27, 3) := by decide +kernel
set_option maxHeartbeats 400000 in
set_option maxRecDepth 20000 in
theorem ct_X8_fails2 (l : Launch) (D : va_G) (dA : Nat → ClassId) (hst : l.stackTraces = false) (M : jM) (m : Nat) (hM : mOk M m) (z : cSt) (hz : mSt (ji M (m + 1)) 0 z) (s y : Int32) : jCT l D dA yX8_fails2 wsX8_fails2 (21) (360) (0) (0) 1 [.ref (m), .int (s), .int (y)] M (jPo (oI (jb (decide (0 < mF2 z s y)))) (jSi M m 11 (mF2 z s y))) := by
  refine jBody (cc := cX8_fails2) (nL := 3) (rt := (some .boolean)) (ini := false) (by decide) rfl hst (Nat.le_of_ble_eq_true rfl) (by simp [Value.category]) (by intro h9; first | exact absurd h9 (by decide) | rfl) ?_
  show J l D dA RX8 cX8_fails2 wsX8_fails2 3 false (some .boolean) [] (21) (360) (jF D dA (jn M) (jPo (oI (jb (decide (0 < mF2 z s y)))) (jSi M m 11 (mF2 z s y))) 1) (jn M) (0) (0) (M) 0 [.ref (m), .int (s), .int (y)] []
  obtain ⟨m1, m2, ⟨r1, r2, r3, r4, r5, r6, r7, r8, r9, r10, r11, r12, r13⟩, ⟨k1, k2, k3, k4, k5, k6, k7, k8, k9, k10, k11, k12, k13⟩, z1, z2, z3, z4, z5, z6, z7, z8, z9, z10, z11, z12, z13⟩ := id hM
  refine J_aload_n (m) dX8_fails2_0 rfl rfl ?_
  refine J_iload_n dX8_fails2_1 rfl rfl ?_
  refine J_calli0 (jrunS (As := [.int (s)]) (ct_X8_isSlot l D dA hst M ((s))) dX8_fails2_2 yY_X8_isSlot gX8_fails2_X8_isSlot rfl ⟨by omega, by omega⟩ ⟨Nat.zero_le _, Nat.zero_le _⟩ rfl (Nat.le_of_ble_eq_true rfl)) (rfl) (rfl) ?_
  refine J_if_ne dX8_fails2_5 (tgt := 12) (by decide) (fun c5 => ?_) (fun c5 => ?_)
  · have c5 := jb0F c5
    obtain ⟨k, hk, rfl⟩ := okSlot_of c5
    refine J_iload_n dX8_fails2_12 rfl rfl ?_
    refine J_calli0 (jrunS (As := [.int (y)]) (ct_X8_isVersion l D dA hst M ((y))) dX8_fails2_13 yY_X8_isVersion gX8_fails2_X8_isVersion rfl ⟨by omega, by omega⟩ ⟨Nat.zero_le _, Nat.zero_le _⟩ rfl (Nat.le_of_ble_eq_true rfl)) (rfl) (rfl) ?_
    refine J_if_ne dX8_fails2_16 (tgt := 23) (by decide) (fun c16 => ?_) (fun c16 => ?_)
    · have c16 := jb0F c16
      refine J_aload_n (m) dX8_fails2_23 rfl rfl ?_
      refine J_iload_n dX8_fails2_24 rfl rfl ?_
      refine J_calli0 (jrunV (As := [.int (nI (k))]) (ct_X8_isEmpty l D dA hst M m hM k hk (z.1 k) (hz.at0 hk)) dX8_fails2_25 yY_X8_isEmpty gX8_fails2_X8_isEmpty rfl cs11 (show m < jn M from by omega) m2 rfl ⟨by omega, by omega⟩ ⟨Nat.zero_le _, Nat.zero_le _⟩ rfl (Nat.le_of_ble_eq_true rfl)) (rfl) (rfl) ?_
      refine J_if_eq dX8_fails2_28 (tgt := 35) (by decide) (fun c28 => ?_) (fun c28 => ?_)
      · have c28 := jb0T c28
        refine J_iconst (x := 0) dX8_fails2_35 (by decide) ?_
        refine J_calli0 (jrunV (As := [.int (0)]) (ct_X8_fails l D dA hst M m hM ((0))) dX8_fails2_36 yY_X8_fails gX8_fails2_X8_fails rfl cs11 (show m < jn M from by omega) m2 rfl ⟨by omega, by omega⟩ ⟨Nat.zero_le _, Nat.zero_le _⟩ rfl (Nat.le_of_ble_eq_true rfl)) (rfl) (rfl) ?_
        exact J_iret (ty := .boolean) dX8_fails2_39 rfl (jb_n _) ⟨(by first | (rw [mF2_f c5]; done) | (rw [mF2_f c5]; rfl) | (rw [mF2_n hk]; simp [*]; done) | fail "f"), (by first | (rw [mF2_f c5]; done) | (rw [mF2_f c5]; rfl) | (rw [mF2_n hk]; simp [*]; done) | fail "f")⟩
      · have c28 := jb0F c28
        refine J_iconst (x := 3) dX8_fails2_31 (by decide) ?_
        refine J_goto (tgt := 36) dX8_fails2_32 (by decide) ?_
        refine J_calli0 (jrunV (As := [.int (3)]) (ct_X8_fails l D dA hst M m hM ((3))) dX8_fails2_36 yY_X8_fails gX8_fails2_X8_fails rfl cs11 (show m < jn M from by omega) m2 rfl ⟨by omega, by omega⟩ ⟨Nat.zero_le _, Nat.zero_le _⟩ rfl (Nat.le_of_ble_eq_true rfl)) (rfl) (rfl) ?_
        exact J_iret (ty := .boolean) dX8_fails2_39 rfl (jb_n _) ⟨(by first | (rw [mF2_f c5]; done) | (rw [mF2_f c5]; rfl) | (rw [mF2_n hk]; simp [*]; done) | fail "f"), (by first | (rw [mF2_f c5]; done) | (rw [mF2_f c5]; rfl) | (rw [mF2_n hk]; simp [*]; done) | fail "f")⟩
    · have c16 := jb0T c16
      refine J_iconst (x := 2) dX8_fails2_19 (by decide) ?_
      refine J_goto (tgt := 36) dX8_fails2_20 (by decide) ?_
      refine J_calli0 (jrunV (As := [.int (2)]) (ct_X8_fails l D dA hst M m hM ((2))) dX8_fails2_36 yY_X8_fails gX8_fails2_X8_fails rfl cs11 (show m < jn M from by omega) m2 rfl ⟨by omega, by omega⟩ ⟨Nat.zero_le _, Nat.zero_le _⟩ rfl (Nat.le_of_ble_eq_true rfl)) (rfl) (rfl) ?_
      exact J_iret (ty := .boolean) dX8_fails2_39 rfl (jb_n _) ⟨(by first | (rw [mF2_f c5]; done) | (rw [mF2_f c5]; rfl) | (rw [mF2_n hk]; simp [*]; done) | fail "f"), (by first | (rw [mF2_f c5]; done) | (rw [mF2_f c5]; rfl) | (rw [mF2_n hk]; simp [*]; done) | fail "f")⟩
  · have c5 := jb0T c5
    refine J_iconst (x := 1) dX8_fails2_8 (by decide) ?_
    refine J_goto (tgt := 36) dX8_fails2_9 (by decide) ?_
    refine J_calli0 (jrunV (As := [.int (1)]) (ct_X8_fails l D dA hst M m hM ((1))) dX8_fails2_36 yY_X8_fails gX8_fails2_X8_fails rfl cs11 (show m < jn M from by omega) m2 rfl ⟨by omega, by omega⟩ ⟨Nat.zero_le _, Nat.zero_le _⟩ rfl (Nat.le_of_ble_eq_true rfl)) (rfl) (rfl) ?_
    exact J_iret (ty := .boolean) dX8_fails2_39 rfl (jb_n _) ⟨(by first | (rw [mF2_f c5]; done) | (rw [mF2_f c5]; rfl) | (rw [mF2_n hk]; simp [*]; done) | fail "f"), (by first | (rw [mF2_f c5]; done) | (rw [mF2_f c5]; rfl) | (rw [mF2_n hk]; simp [*]; done) | fail "f")⟩

theorem dX8_isIn_0 : decode cX8_isIn 0 = .ok (.aload_n 0, 1) := by decide +kernel
theorem dX8_isIn_1 : decode cX8_isIn 1 = .ok (.aload_n 0, 1) := by decide +kernel
theorem dX8_isIn_2 : decode cX8_isIn 2 = .ok (.getfield 9, 3) := by decide +kernel
theorem dX8_isIn_5 : decode cX8_isIn 5 = .ok (.bipush 33, 2) := by decide +kernel
theorem dX8_isIn_7 : decode cX8_isIn 7 = .ok (.iload_n 1, 1) := by decide +kernel
theorem dX8_isIn_8 : decode cX8_isIn 8 = .ok (.imul, 1) := by decide +kernel
theorem dX8_isIn_9 : decode cX8_isIn 9 = .ok (.iload_n 2, 1) := by decide +kernel
theorem dX8_isIn_10 : decode cX8_isIn 10 = .ok (.invokevirtual 71, 3) := by decide +kernel
set_option maxRecDepth 20000 in
theorem ggX8_isIn_X8_belongs : GoodIn wsX8_isIn wsX8_belongs := goodIn_ca (goodIn_r _ [7, 2, 11, 12, 13, 14, 15, 16, 17, 18, 19, 20, 21, 22, 23, 24, 25, 26, 27, 28, 29, 30, 31, 32, 33, 34, 35, 36, 37, 38, 39, 40, 41] (by decide +kernel) (by decide +kernel)) (goodIn_sub (fun _ h => List.mem_cons_of_mem _ (List.mem_append_right _ h)) (by decide +kernel))
set_option maxRecDepth 20000 in
theorem gX8_isIn_X8_belongs : GoodIn wsX8_isIn (wsV RX8 71 RX8 yX8_belongs wsX8_belongs) := goodIn_app (goodIn_of _ (by decide +kernel)) ggX8_isIn_X8_belongs
theorem yY_X8_belongs : jY yX8_belongs wsX8_belongs cX8_belongs 5 (some .boolean) 3 := ⟨⟨_, rfl⟩, by decide +kernel, by decide +kernel, by decide +kernel⟩
theorem dX8_isIn_13 : decode cX8_isIn 13 = .ok (.ifCond .ne 5, 3) := by decide +kernel
theorem dX8_isIn_18 : decode cX8_isIn 18 = .ok (.iload_n 3, 1) := by decide +kernel
theorem dX8_isIn_19 : decode cX8_isIn 19 = .ok (.ifCond .eq 10, 3) := by decide +kernel
theorem dX8_isIn_29 : decode cX8_isIn 29 = .ok (.iconst 1, 1) := by decide +kernel
theorem dX8_isIn_30 : decode cX8_isIn 30 = .ok (.ireturn, 1) := by decide +kernel
theorem dX8_isIn_22 : decode cX8_isIn 22 = .ok (.iload_n 2, 1) := by decide +kernel
theorem dX8_isIn_23 : decode cX8_isIn 23 = .ok (.invokestatic 211, 3) := by decide +kernel
set_option maxRecDepth 20000 in
theorem ggX8_isIn_X8_isEarly : GoodIn wsX8_isIn wsX8_isEarly := goodIn_r _ [10] (by decide +kernel) (by decide +kernel)
set_option maxRecDepth 20000 in
theorem gX8_isIn_X8_isEarly : GoodIn wsX8_isIn (va_wsS RX8 211 yX8_isEarly wsX8_isEarly) := goodIn_app (goodIn_of _ (by decide +kernel)) ggX8_isIn_X8_isEarly
theorem yY_X8_isEarly : jY yX8_isEarly wsX8_isEarly cX8_isEarly 1 (some .boolean) 1 := ⟨⟨_, rfl⟩, by decide +kernel, by decide +kernel, by decide +kernel⟩
theorem dX8_isIn_26 : decode cX8_isIn 26 = .ok (.ifCond .ne 5, 3) := by decide +kernel
theorem dX8_isIn_31 : decode cX8_isIn 31 = .ok (.aload_n 0, 1) := by decide +kernel
theorem dX8_isIn_32 : decode cX8_isIn 32 = .ok (.getfield 9, 3) := by decide +kernel
theorem dX8_isIn_35 : decode cX8_isIn 35 = .ok (.aload_n 0, 1) := by decide +kernel
theorem dX8_isIn_36 : decode cX8_isIn 36 = .ok (.getfield 63, 3) := by decide +kernel
theorem dX8_isIn_39 : decode cX8_isIn 39 = .ok (.iaload, 1) := by decide +kernel
theorem dX8_isIn_40 : decode cX8_isIn 40 = .ok (.istore 4, 2) := by decide +kernel
theorem dX8_isIn_42 : decode cX8_isIn 42 = .ok (.aload_n 0, 1) := by decide +kernel
theorem dX8_isIn_43 : decode cX8_isIn 43 = .ok (.getfield 9, 3) := by decide +kernel
theorem dX8_isIn_46 : decode cX8_isIn 46 = .ok (.aload_n 0, 1) := by decide +kernel
theorem dX8_isIn_47 : decode cX8_isIn 47 = .ok (.getfield 63, 3) := by decide +kernel
theorem dX8_isIn_50 : decode cX8_isIn 50 = .ok (.iconst 1, 1) := by decide +kernel
theorem dX8_isIn_51 : decode cX8_isIn 51 = .ok (.iadd, 1) := by decide +kernel
theorem dX8_isIn_52 : decode cX8_isIn 52 = .ok (.iaload, 1) := by decide +kernel
theorem dX8_isIn_53 : decode cX8_isIn 53 = .ok (.istore 5, 2) := by decide +kernel
theorem dX8_isIn_55 : decode cX8_isIn 55 = .ok (.iload 4, 2) := by decide +kernel
theorem dX8_isIn_57 : decode cX8_isIn 57 = .ok (.bipush 100, 2) := by decide +kernel
theorem dX8_isIn_59 : decode cX8_isIn 59 = .ok (.idiv, 1) := by decide +kernel
theorem dX8_isIn_60 : decode cX8_isIn 60 = .ok (.iload_n 2, 1) := by decide +kernel
theorem dX8_isIn_61 : decode cX8_isIn 61 = .ok (.bipush 100, 2) := by decide +kernel
theorem dX8_isIn_63 : decode cX8_isIn 63 = .ok (.idiv, 1) := by decide +kernel
theorem dX8_isIn_64 : decode cX8_isIn 64 = .ok (.if_icmp .ne 11, 3) := by decide +kernel
theorem dX8_isIn_75 : decode cX8_isIn 75 = .ok (.iload 5, 2) := by decide +kernel
theorem dX8_isIn_77 : decode cX8_isIn 77 = .ok (.bipush 100, 2) := by decide +kernel
theorem dX8_isIn_79 : decode cX8_isIn 79 = .ok (.idiv, 1) := by decide +kernel
theorem dX8_isIn_80 : decode cX8_isIn 80 = .ok (.iload_n 2, 1) := by decide +kernel
theorem dX8_isIn_81 : decode cX8_isIn 81 = .ok (.bipush 100, 2) := by decide +kernel
theorem dX8_isIn_83 : decode cX8_isIn 83 = .ok (.idiv, 1) := by decide +kernel
theorem dX8_isIn_84 : decode cX8_isIn 84 = .ok (.if_icmp .ne 15, 3) := by decide +kernel
theorem dX8_isIn_99 : decode cX8_isIn 99 = .ok (.iconst 0, 1) := by decide +kernel
theorem dX8_isIn_100 : decode cX8_isIn 100 = .ok (.ireturn, 1) := by decide +kernel
theorem dX8_isIn_87 : decode cX8_isIn 87 = .ok (.iload 5, 2) := by decide +kernel
theorem dX8_isIn_89 : decode cX8_isIn 89 = .ok (.invokestatic 211, 3) := by decide +kernel
theorem dX8_isIn_92 : decode cX8_isIn 92 = .ok (.ifCond .eq 7, 3) := by decide +kernel
theorem dX8_isIn_95 : decode cX8_isIn 95 = .ok (.iconst 1, 1) := by decide +kernel
theorem dX8_isIn_96 : decode cX8_isIn 96 = .ok (.goto 4, 3) := by decide +kernel
theorem dX8_isIn_67 : decode cX8_isIn 67 = .ok (.iload 4, 2) := by decide +kernel
theorem dX8_isIn_69 : decode cX8_isIn 69 = .ok (.invokestatic 211, 3) := by decide +kernel
theorem dX8_isIn_72 : decode cX8_isIn 72 = .ok (.ifCond .ne 23, 3) := by decide +kernel
theorem dX8_isIn_16 : decode cX8_isIn 16 = .ok (.iconst 0, 1) := by decide +kernel
theorem dX8_isIn_17 : decode cX8_isIn 17 = .ok (.ireturn, 1) := by decide +kernel
set_option maxHeartbeats 400000 in
set_option maxRecDepth 20000 in
theorem ct_X8_isIn (l : Launch) (D : va_G) (dA : Nat → ClassId) (hst : l.stackTraces = false) (M : jM) (m : Nat) (hM : mOk M m) (k : Nat) (hk : k < 12) (w : rVl) (hw : rWf w) (hx : mSlot (ji M (m + 1)) (33 * k) (some w)) (y : Int32) (b : Bool) : jCT l D dA yX8_isIn wsX8_isIn (22) (420) (0) (0) 1 [.ref (m), .int (nI (k)), .int (y), .int (jb (b))] M (mBq M m (rHoldsFor w.2 w.1 b y)) := by
  refine jBody (cc := cX8_isIn) (nL := 6) (rt := (some .boolean)) (ini := false) (by decide) rfl hst (Nat.le_of_ble_eq_true rfl) (by simp [Value.category]) (by intro h9; first | exact absurd h9 (by decide) | rfl) ?_
  show J l D dA RX8 cX8_isIn wsX8_isIn 6 false (some .boolean) [] (22) (420) (jF D dA (jn M) (mBq M m (rHoldsFor w.2 w.1 b y)) 1) (jn M) (0) (0) (M) 0 [.ref (m), .int (nI (k)), .int (y), .int (jb (b)), .float 0, .float 0] []
  obtain ⟨m1, m2, ⟨r1, r2, r3, r4, r5, r6, r7, r8, r9, r10, r11, r12, r13⟩, ⟨k1, k2, k3, k4, k5, k6, k7, k8, k9, k10, k11, k12, k13⟩, z1, z2, z3, z4, z5, z6, z7, z8, z9, z10, z11, z12, z13⟩ := id hM
  have h16 := hx.2.1
  refine J_aload_n (m) dX8_isIn_0 rfl rfl ?_
  refine J_aload_n (m) dX8_isIn_1 rfl rfl ?_
  refine J_getrs (q := m + 1) r1 dX8_isIn_2 (fun _ h => List.mem_cons_of_mem _ (List.mem_append_left _ (List.mem_append_right _ (h)))) cs11 (by decide) rfl (List.mem_of_getElem? (i := 1) rfl) rfl (show m < jn M from by omega) m2 ?_
  refine J_bipush (x := 33) dX8_isIn_5 (by decide) ?_
  refine J_iload_n dX8_isIn_7 rfl rfl ?_
  refine J_imul dX8_isIn_8 ?_
  refine J_topi (y := nI (33 * k)) (pk_mul (33) (k)) ?_
  refine J_iload_n dX8_isIn_9 rfl rfl ?_
  refine J_calli (jrunV (As := [.ref (m + 1), .int (nI (33 * k)), .int (y)]) (ct_X8_belongs l D dA hst M m hM (m + 1) 427 (33 * k) (by omega) k1 z1 (by omega) (by omega) (by omega) w hw hx ((y))) dX8_isIn_10 yY_X8_belongs gX8_isIn_X8_belongs rfl cs11 (show m < jn M from by omega) m2 rfl ⟨by omega, by omega⟩ ⟨Nat.zero_le _, Nat.zero_le _⟩ rfl (Nat.le_of_ble_eq_true rfl)) ⟨Nat.zero_le _, Nat.zero_le _⟩ (Or.inr ⟨(jOk.ref (show m < jn M from by omega) (jOk.int (jOk.int (jOk.int (jOk.float (jOk.float jOk.nil)))))), jOk.nil⟩) (fun E M9 hp _ => by obtain ⟨_, h1, _⟩ := hp; cases h1) (fun x9 M1 hp10 hle10 => ?_)
  obtain ⟨xs10, he, rfl, hxs10⟩ := hp10
  cases he
  refine J_if_ne dX8_isIn_13 (tgt := 18) (by decide) (fun c13 => ?_) (fun c13 => ?_)
  · have c13 := jb0F c13
    have hr9 := rHolds_lt c13
    obtain rfl := hxs10 c13
    refine J_iload_n dX8_isIn_18 rfl rfl ?_
    refine J_if_eq dX8_isIn_19 (tgt := 29) (by decide) (fun c19 => ?_) (fun c19 => ?_)
    · have c19 := jb0T c19
      refine J_iconst (x := 1) dX8_isIn_29 (by decide) ?_
      exact J_iret (ty := .boolean) dX8_isIn_30 rfl (by rfl) (by refine ⟨_, ?_, rfl⟩; unfold rHoldsFor; first | (simp [vBeside, jb, oI, *]; done) | (simp_all [vBeside, jb, oI]; done) | fail "in")
    · have c19 := jb0F c19
      refine J_iload_n dX8_isIn_22 rfl rfl ?_
      refine J_calli0 (jrunS (As := [.int (y)]) (ct_X8_isEarly l D dA hst ((jSi M m 14 (nI (33 * k + 1 + 2 * rsf w.2 w.1 y)))) ((y))) dX8_isIn_23 yY_X8_isEarly gX8_isIn_X8_isEarly rfl ⟨by omega, by omega⟩ ⟨Nat.zero_le _, Nat.zero_le _⟩ rfl (Nat.le_of_ble_eq_true rfl)) (rfl) (rfl) ?_
      refine J_if_ne dX8_isIn_26 (tgt := 31) (by decide) (fun c26 => ?_) (fun c26 => ?_)
      · have c26 := jb0F c26
        refine J_aload_n (m) dX8_isIn_31 rfl rfl ?_
        refine J_getrs (q := m + 1) r1 dX8_isIn_32 (fun _ h => List.mem_cons_of_mem _ (List.mem_append_left _ (List.mem_append_right _ (h)))) cs11 (by decide) rfl (List.mem_of_getElem? (i := 1) rfl) rfl (show m < jn M from by omega) m2 ?_
        refine J_aload_n (m) dX8_isIn_35 rfl rfl ?_
        refine J_geti (j := 14) dX8_isIn_36 (fun _ h => List.mem_cons_of_mem _ (List.mem_append_left _ (List.mem_append_right _ (h)))) cs11 (by decide) rfl (List.mem_of_getElem? (i := 2) rfl) rfl (show m < jn M from by omega) m2 ?_
        refine J_topi (y := nI (33 * k + 1 + 2 * rsf w.2 w.1 y)) (by rw [ji_Si, if_pos ⟨rfl, rfl⟩]) ?_
        refine J_ialdN (k := 33 * k + 1 + 2 * rsf w.2 w.1 y) dX8_isIn_39 (show m + 1 < jn M from by omega) k1 (by exact Nat.lt_of_lt_of_eq (show _ < 427 by omega) (Eq.symm z1)) (by exact Nat.lt_of_le_of_lt (Nat.le_of_eq z1) (show 427 < 2 ^ 31 by omega)) ?_
        refine J_topi (y := (rFirst w.2 w.1 (rsf w.2 w.1 y))) (by rw [ji_Sin (by omega), rFirst, if_pos hr9]; exact hx.lo hr9) ?_
        refine J_istore (lv' := [.ref (m), .int (nI (k)), .int (y), .int (jb (b)), .int (rFirst w.2 w.1 (rsf w.2 w.1 y)), .float 0]) dX8_isIn_40 (by decide) rfl rfl ?_
        refine J_aload_n (m) dX8_isIn_42 rfl rfl ?_
        refine J_getrs (q := m + 1) r1 dX8_isIn_43 (fun _ h => List.mem_cons_of_mem _ (List.mem_append_left _ (List.mem_append_right _ (h)))) cs11 (by decide) rfl (List.mem_of_getElem? (i := 1) rfl) rfl (show m < jn M from by omega) m2 ?_
        refine J_aload_n (m) dX8_isIn_46 rfl rfl ?_
        refine J_geti (j := 14) dX8_isIn_47 (fun _ h => List.mem_cons_of_mem _ (List.mem_append_left _ (List.mem_append_right _ (h)))) cs11 (by decide) rfl (List.mem_of_getElem? (i := 2) rfl) rfl (show m < jn M from by omega) m2 ?_
        refine J_topi (y := nI (33 * k + 1 + 2 * rsf w.2 w.1 y)) (by rw [ji_Si, if_pos ⟨rfl, rfl⟩]) ?_
        refine J_iconst (x := 1) dX8_isIn_50 (by decide) ?_
        refine J_iadd dX8_isIn_51 ?_
        refine J_topi (y := nI (33 * k + 1 + 2 * rsf w.2 w.1 y + 1)) (nI_add (33 * k + 1 + 2 * rsf w.2 w.1 y) (1)) ?_
        refine J_ialdN (k := 33 * k + 1 + 2 * rsf w.2 w.1 y + 1) dX8_isIn_52 (show m + 1 < jn M from by omega) k1 (by exact Nat.lt_of_lt_of_eq (show _ < 427 by omega) (Eq.symm z1)) (by exact Nat.lt_of_le_of_lt (Nat.le_of_eq z1) (show 427 < 2 ^ 31 by omega)) ?_
        refine J_topi (y := (rLast w.2 w.1 (rsf w.2 w.1 y))) (by rw [ji_Sin (by omega), rLast, if_pos hr9]; exact (congrArg _ (by omega)).trans (hx.hi hr9)) ?_
        refine J_istore (lv' := [.ref (m), .int (nI (k)), .int (y), .int (jb (b)), .int (rFirst w.2 w.1 (rsf w.2 w.1 y)), .int (rLast w.2 w.1 (rsf w.2 w.1 y))]) dX8_isIn_53 (by decide) rfl rfl ?_
        refine J_iload dX8_isIn_55 rfl ?_
        refine J_bipush (x := 100) dX8_isIn_57 (by decide) ?_
        refine J_idiv dX8_isIn_59 (by decide) ?_
        refine J_iload_n dX8_isIn_60 rfl rfl ?_
        refine J_bipush (x := 100) dX8_isIn_61 (by decide) ?_
        refine J_idiv dX8_isIn_63 (by decide) ?_
        refine J_icmp_ne dX8_isIn_64 (tgt := 75) (by decide) (fun c64 => ?_) (fun c64 => ?_)
        · refine J_iload dX8_isIn_75 rfl ?_
          refine J_bipush (x := 100) dX8_isIn_77 (by decide) ?_
          refine J_idiv dX8_isIn_79 (by decide) ?_
          refine J_iload_n dX8_isIn_80 rfl rfl ?_
          refine J_bipush (x := 100) dX8_isIn_81 (by decide) ?_
          refine J_idiv dX8_isIn_83 (by decide) ?_
          refine J_icmp_ne dX8_isIn_84 (tgt := 99) (by decide) (fun c84 => ?_) (fun c84 => ?_)
          · refine J_iconst (x := 0) dX8_isIn_99 (by decide) ?_
            exact J_iret (ty := .boolean) dX8_isIn_100 rfl (by rfl) (by refine ⟨_, ?_, rfl⟩; unfold rHoldsFor; first | (simp [vBeside, jb, oI, *]; done) | (simp_all [vBeside, jb, oI]; done) | fail "in")
          · refine J_iload dX8_isIn_87 rfl ?_
            refine J_calli0 (jrunS (As := [.int (rLast w.2 w.1 (rsf w.2 w.1 y))]) (ct_X8_isEarly l D dA hst ((jSi M m 14 (nI (33 * k + 1 + 2 * rsf w.2 w.1 y)))) ((rLast w.2 w.1 (rsf w.2 w.1 y)))) dX8_isIn_89 yY_X8_isEarly gX8_isIn_X8_isEarly rfl ⟨by omega, by omega⟩ ⟨Nat.zero_le _, Nat.zero_le _⟩ rfl (Nat.le_of_ble_eq_true rfl)) (rfl) (rfl) ?_
            refine J_if_eq dX8_isIn_92 (tgt := 99) (by decide) (fun c92 => ?_) (fun c92 => ?_)
            · have c92 := jb0T c92
              refine J_iconst (x := 0) dX8_isIn_99 (by decide) ?_
              exact J_iret (ty := .boolean) dX8_isIn_100 rfl (by rfl) (by refine ⟨_, ?_, rfl⟩; unfold rHoldsFor; first | (simp [vBeside, jb, oI, *]; done) | (simp_all [vBeside, jb, oI]; done) | fail "in")
            · have c92 := jb0F c92
              refine J_iconst (x := 1) dX8_isIn_95 (by decide) ?_
              refine J_goto (tgt := 100) dX8_isIn_96 (by decide) ?_
              exact J_iret (ty := .boolean) dX8_isIn_100 rfl (by rfl) (by refine ⟨_, ?_, rfl⟩; unfold rHoldsFor; first | (simp [vBeside, jb, oI, *]; done) | (simp_all [vBeside, jb, oI]; done) | fail "in")
        · refine J_iload dX8_isIn_67 rfl ?_
          refine J_calli0 (jrunS (As := [.int (rFirst w.2 w.1 (rsf w.2 w.1 y))]) (ct_X8_isEarly l D dA hst ((jSi M m 14 (nI (33 * k + 1 + 2 * rsf w.2 w.1 y)))) ((rFirst w.2 w.1 (rsf w.2 w.1 y)))) dX8_isIn_69 yY_X8_isEarly gX8_isIn_X8_isEarly rfl ⟨by omega, by omega⟩ ⟨Nat.zero_le _, Nat.zero_le _⟩ rfl (Nat.le_of_ble_eq_true rfl)) (rfl) (rfl) ?_
          refine J_if_ne dX8_isIn_72 (tgt := 95) (by decide) (fun c72 => ?_) (fun c72 => ?_)
          · have c72 := jb0F c72
            refine J_iconst (x := 1) dX8_isIn_95 (by decide) ?_
            refine J_goto (tgt := 100) dX8_isIn_96 (by decide) ?_
            exact J_iret (ty := .boolean) dX8_isIn_100 rfl (by rfl) (by refine ⟨_, ?_, rfl⟩; unfold rHoldsFor; first | (simp [vBeside, jb, oI, *]; done) | (simp_all [vBeside, jb, oI]; done) | fail "in")
          · have c72 := jb0T c72
            refine J_iload dX8_isIn_75 rfl ?_
            refine J_bipush (x := 100) dX8_isIn_77 (by decide) ?_
            refine J_idiv dX8_isIn_79 (by decide) ?_
            refine J_iload_n dX8_isIn_80 rfl rfl ?_
            refine J_bipush (x := 100) dX8_isIn_81 (by decide) ?_
            refine J_idiv dX8_isIn_83 (by decide) ?_
            refine J_icmp_ne dX8_isIn_84 (tgt := 99) (by decide) (fun c84 => ?_) (fun c84 => ?_)
            · refine J_iconst (x := 0) dX8_isIn_99 (by decide) ?_
              exact J_iret (ty := .boolean) dX8_isIn_100 rfl (by rfl) (by refine ⟨_, ?_, rfl⟩; unfold rHoldsFor; first | (simp [vBeside, jb, oI, *]; done) | (simp_all [vBeside, jb, oI]; done) | fail "in")
            · refine J_iload dX8_isIn_87 rfl ?_
              refine J_calli0 (jrunS (As := [.int (rLast w.2 w.1 (rsf w.2 w.1 y))]) (ct_X8_isEarly l D dA hst ((jSi M m 14 (nI (33 * k + 1 + 2 * rsf w.2 w.1 y)))) ((rLast w.2 w.1 (rsf w.2 w.1 y)))) dX8_isIn_89 yY_X8_isEarly gX8_isIn_X8_isEarly rfl ⟨by omega, by omega⟩ ⟨Nat.zero_le _, Nat.zero_le _⟩ rfl (Nat.le_of_ble_eq_true rfl)) (rfl) (rfl) ?_
              refine J_if_eq dX8_isIn_92 (tgt := 99) (by decide) (fun c92 => ?_) (fun c92 => ?_)
              · have c92 := jb0T c92
                refine J_iconst (x := 0) dX8_isIn_99 (by decide) ?_
                exact J_iret (ty := .boolean) dX8_isIn_100 rfl (by rfl) (by refine ⟨_, ?_, rfl⟩; unfold rHoldsFor; first | (simp [vBeside, jb, oI, *]; done) | (simp_all [vBeside, jb, oI]; done) | fail "in")
              · have c92 := jb0F c92
                refine J_iconst (x := 1) dX8_isIn_95 (by decide) ?_
                refine J_goto (tgt := 100) dX8_isIn_96 (by decide) ?_
                exact J_iret (ty := .boolean) dX8_isIn_100 rfl (by rfl) (by refine ⟨_, ?_, rfl⟩; unfold rHoldsFor; first | (simp [vBeside, jb, oI, *]; done) | (simp_all [vBeside, jb, oI]; done) | fail "in")
      · have c26 := jb0T c26
        refine J_iconst (x := 1) dX8_isIn_29 (by decide) ?_
        exact J_iret (ty := .boolean) dX8_isIn_30 rfl (by rfl) (by refine ⟨_, ?_, rfl⟩; unfold rHoldsFor; first | (simp [vBeside, jb, oI, *]; done) | (simp_all [vBeside, jb, oI]; done) | fail "in")
  · have c13 := jb0T c13
    refine J_iconst (x := 0) dX8_isIn_16 (by decide) ?_
    exact J_iret (ty := .boolean) dX8_isIn_17 rfl (by rfl) (by refine ⟨_, ?_, rfl⟩; unfold rHoldsFor; first | (simp [vBeside, jb, oI, *]; done) | (simp_all [vBeside, jb, oI]; done) | fail "in")

