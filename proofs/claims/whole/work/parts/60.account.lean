theorem okVer_of {x : Int32} (h : okVer x = true) : ∃ q : Nat, q < 100000000 ∧ x = nI q := by
  unfold okVer at h
  simp only [Bool.and_eq_true, Bool.not_eq_true', decide_eq_false_iff_not, decide_eq_true_eq] at h
  obtain ⟨q, h1, h2⟩ := nI_of2 (n := 99999999) (by decide) h.1 h.2
  exact ⟨q, by omega, h2⟩
/-- the first version behind a caret or a tilde -/
def vBh (q : Nat) (b : Bool) : Nat := if b then (if q < 1000000 then (if q < 10000 then (q / 100 + 1) * 100 else (q / 10000 + 1) * 10000) else (q / 1000000 + 1) * 1000000) else (q / 10000 + 1) * 10000
theorem vBh_b {q : Nat} {b : Bool} (hq : q < 100000000) : 1 ≤ vBh q b ∧ vBh q b ≤ 100000000 := by
  unfold vBh
  split
  · split
    · split <;> omega
    · omega
  · omega
theorem vBh_x {q d : Nat} (h0 : 0 < d) (hd : d < 2 ^ 31) (hq : q < 2 ^ 31) : (nI q / nI d + 1) * nI d - 1 = nI ((q / d + 1) * d - 1) := by
  rw [pk_div (a := q) (d := d) (by omega) (by omega) (by omega), nI_1, pk_mul, nI_prd (Nat.mul_pos (Nat.succ_pos _) h0)]
theorem vBh_t {q : Nat} (hq : q < 100000000) : vTilde (nI q) = nI (vBh q false - 1) := vBh_x (q := q) (d := 10000) (by omega) (by omega) (by omega)
theorem vBh_c {q : Nat} (hq : q < 100000000) : vCaret (nI q) = nI (vBh q true - 1) := by
  have e1 : (nI q < 1000000) ↔ q < 1000000 := nI_ltI (b := 1000000) (by omega) (by omega)
  have e2 : (nI q < 10000) ↔ q < 10000 := nI_ltI (b := 10000) (by omega) (by omega)
  unfold vCaret vBh
  rw [if_pos rfl]
  by_cases h1 : q < 1000000
  · rw [if_pos (e1.mpr h1), if_pos h1]
    by_cases h2 : q < 10000
    · rw [if_pos (e2.mpr h2), if_pos h2]; exact vBh_x (q := q) (d := 100) (by omega) (by omega) (by omega)
    · rw [if_neg (fun h => h2 (e2.mp h)), if_neg h2]; exact vBh_x (q := q) (d := 10000) (by omega) (by omega) (by omega)
  · rw [if_neg (fun h => h1 (e1.mp h)), if_neg h1]; exact vBh_x (q := q) (d := 1000000) (by omega) (by omega) (by omega)
theorem oLm_t {q : Nat} {b : Bool} (hq : q < 100000000) (h : okVer (nI q) = true) : oLm (nI q) b = oI (nI (vBh q b - 1)) := by
  unfold oLm oVe
  rw [if_pos h]
  cases b
  · rw [if_neg (by decide), vBh_t hq]
  · rw [if_pos rfl, vBh_c hq]
theorem oLm_f {y : Int32} {b : Bool} (h : okVer y = false) : oLm y b = oX xIAE := by unfold oLm oVe; rw [if_neg (by rw [h]; decide)]
theorem dX8_behind_0 : decode cX8_behind 0 = .ok (.iload_n 0, 1) := by decide +kernel
theorem dX8_behind_1 : decode cX8_behind 1 = .ok (.bipush 100, 2) := by decide +kernel
theorem dX8_behind_3 : decode cX8_behind 3 = .ok (.idiv, 1) := by decide +kernel
theorem dX8_behind_4 : decode cX8_behind 4 = .ok (.istore_n 2, 1) := by decide +kernel
theorem dX8_behind_5 : decode cX8_behind 5 = .ok (.iload_n 1, 1) := by decide +kernel
theorem dX8_behind_6 : decode cX8_behind 6 = .ok (.ifCond .ne 8, 3) := by decide +kernel
theorem dX8_behind_14 : decode cX8_behind 14 = .ok (.iload_n 2, 1) := by decide +kernel
theorem dX8_behind_15 : decode cX8_behind 15 = .ok (.sipush 10000, 3) := by decide +kernel
theorem dX8_behind_18 : decode cX8_behind 18 = .ok (.if_icmp .lt 9, 3) := by decide +kernel
theorem dX8_behind_27 : decode cX8_behind 27 = .ok (.iload_n 2, 1) := by decide +kernel
theorem dX8_behind_28 : decode cX8_behind 28 = .ok (.bipush 100, 2) := by decide +kernel
theorem dX8_behind_30 : decode cX8_behind 30 = .ok (.if_icmp .lt 8, 3) := by decide +kernel
theorem dX8_behind_38 : decode cX8_behind 38 = .ok (.iconst 1, 1) := by decide +kernel
theorem dX8_behind_39 : decode cX8_behind 39 = .ok (.istore_n 3, 1) := by decide +kernel
theorem dX8_behind_40 : decode cX8_behind 40 = .ok (.iload_n 2, 1) := by decide +kernel
theorem dX8_behind_41 : decode cX8_behind 41 = .ok (.iload_n 3, 1) := by decide +kernel
theorem dX8_behind_42 : decode cX8_behind 42 = .ok (.idiv, 1) := by decide +kernel
theorem dX8_behind_43 : decode cX8_behind 43 = .ok (.iconst 1, 1) := by decide +kernel
theorem dX8_behind_44 : decode cX8_behind 44 = .ok (.iadd, 1) := by decide +kernel
theorem dX8_behind_45 : decode cX8_behind 45 = .ok (.iload_n 3, 1) := by decide +kernel
theorem dX8_behind_46 : decode cX8_behind 46 = .ok (.imul, 1) := by decide +kernel
theorem dX8_behind_47 : decode cX8_behind 47 = .ok (.bipush 100, 2) := by decide +kernel
theorem dX8_behind_49 : decode cX8_behind 49 = .ok (.imul, 1) := by decide +kernel
theorem dX8_behind_50 : decode cX8_behind 50 = .ok (.istore 4, 2) := by decide +kernel
theorem dX8_behind_52 : decode cX8_behind 52 = .ok (.iload 4, 2) := by decide +kernel
theorem dX8_behind_54 : decode cX8_behind 54 = .ok (.ldc 59, 2) := by decide +kernel
theorem dX8_behind_56 : decode cX8_behind 56 = .ok (.if_icmp .le 8, 3) := by decide +kernel
theorem dX8_behind_64 : decode cX8_behind 64 = .ok (.iload 4, 2) := by decide +kernel
theorem dX8_behind_66 : decode cX8_behind 66 = .ok (.ireturn, 1) := by decide +kernel
theorem dX8_behind_59 : decode cX8_behind 59 = .ok (.ldc 66, 2) := by decide +kernel
theorem dX8_behind_61 : decode cX8_behind 61 = .ok (.goto 5, 3) := by decide +kernel
theorem dX8_behind_33 : decode cX8_behind 33 = .ok (.bipush 100, 2) := by decide +kernel
theorem dX8_behind_35 : decode cX8_behind 35 = .ok (.goto 4, 3) := by decide +kernel
theorem dX8_behind_21 : decode cX8_behind 21 = .ok (.sipush 10000, 3) := by decide +kernel
theorem dX8_behind_24 : decode cX8_behind 24 = .ok (.goto 15, 3) := by decide +kernel
theorem dX8_behind_9 : decode cX8_behind 9 = .ok (.bipush 100, 2) := by decide +kernel
theorem dX8_behind_11 : decode cX8_behind 11 = .ok (.goto 28, 3) := by decide +kernel
set_option maxHeartbeats 400000 in
set_option maxRecDepth 20000 in
theorem ct_X8_behind (l : Launch) (D : va_G) (dA : Nat → ClassId) (hst : l.stackTraces = false) (M : jM) (q : Nat) (hq : q < 100000000) (b : Bool) : jCT l D dA yX8_behind wsX8_behind (20) (300) (0) (0) 1 [.int (nI (q)), .int (jb (b))] M (jPo (oI (nI (vBh q b))) (M)) := by
  refine jBody (cc := cX8_behind) (nL := 5) (rt := (some .int)) (ini := false) (by decide) rfl hst (Nat.le_of_ble_eq_true rfl) (by simp [Value.category]) (by intro h9; first | exact absurd h9 (by decide) | rfl) ?_
  show J l D dA RX8 cX8_behind wsX8_behind 5 false (some .int) [] (20) (300) (jF D dA (jn M) (jPo (oI (nI (vBh q b))) (M)) 1) (jn M) (0) (0) (M) 0 [.int (nI (q)), .int (jb (b)), .float 0, .float 0, .float 0] []
  refine J_iload_n dX8_behind_0 rfl rfl ?_
  refine J_bipush (x := 100) dX8_behind_1 (by decide) ?_
  refine J_idiv dX8_behind_3 (by decide) ?_
  refine J_topi (y := nI (q / 100)) (pk_div (a := q) (d := 100) (by omega) (by omega) (by omega)) ?_
  refine J_istore_n (lv' := [.int (nI (q)), .int (jb (b)), .int (nI (q / 100)), .float 0, .float 0]) dX8_behind_4 rfl (by decide) rfl rfl ?_
  refine J_iload_n dX8_behind_5 rfl rfl ?_
  refine J_if_ne dX8_behind_6 (tgt := 14) (by decide) (fun c6 => ?_) (fun c6 => ?_)
  · have c6 := jb0F c6
    refine J_iload_n dX8_behind_14 rfl rfl ?_
    refine J_sipush (x := 10000) dX8_behind_15 (by decide) ?_
    refine J_icmp_lt dX8_behind_18 (tgt := 27) (by decide) (fun c18 => ?_) (fun c18 => ?_)
    · have c18 := jltT (a := q / 100) (b := 10000) (by omega) (by omega) c18
      refine J_iload_n dX8_behind_27 rfl rfl ?_
      refine J_bipush (x := 100) dX8_behind_28 (by decide) ?_
      refine J_icmp_lt dX8_behind_30 (tgt := 38) (by decide) (fun c30 => ?_) (fun c30 => ?_)
      · have c30 := jltT (a := q / 100) (b := 100) (by omega) (by omega) c30
        refine J_iconst (x := 1) dX8_behind_38 (by decide) ?_
        refine J_istore_n (lv' := [.int (nI (q)), .int (jb (b)), .int (nI (q / 100)), .int (1), .float 0]) dX8_behind_39 rfl (by decide) rfl rfl ?_
        refine J_iload_n dX8_behind_40 rfl rfl ?_
        refine J_iload_n dX8_behind_41 rfl rfl ?_
        refine J_idiv dX8_behind_42 (by decide) ?_
        refine J_topi (y := nI ((q / 100) / 1)) (pk_div (a := q / 100) (d := 1) (by omega) (by omega) (by omega)) ?_
        refine J_iconst (x := 1) dX8_behind_43 (by decide) ?_
        refine J_iadd dX8_behind_44 ?_
        refine J_topi (y := nI ((q / 100) / 1 + 1)) (nI_add ((q / 100) / 1) (1)) ?_
        refine J_iload_n dX8_behind_45 rfl rfl ?_
        refine J_imul dX8_behind_46 ?_
        refine J_topi (y := nI (((q / 100) / 1 + 1) * 1)) (pk_mul ((q / 100) / 1 + 1) (1)) ?_
        refine J_bipush (x := 100) dX8_behind_47 (by decide) ?_
        refine J_imul dX8_behind_49 ?_
        refine J_topi (y := nI ((((q / 100) / 1 + 1) * 1) * 100)) (pk_mul (((q / 100) / 1 + 1) * 1) (100)) ?_
        refine J_istore (lv' := [.int (nI (q)), .int (jb (b)), .int (nI (q / 100)), .int (1), .int (nI ((((q / 100) / 1 + 1) * 1) * 100))]) dX8_behind_50 (by decide) rfl rfl ?_
        refine J_iload dX8_behind_52 rfl ?_
        refine J_ldc (x := 99999999) dX8_behind_54 (List.mem_of_getElem? (i := 1) rfl) ?_
        refine J_icmp_le dX8_behind_56 (tgt := 64) (by decide) (fun c56 => ?_) (fun c56 => ?_)
        · have c56 := jleT (a := (((q / 100) / 1 + 1) * 1) * 100) (b := 99999999) (by omega) (by omega) c56
          refine J_iload dX8_behind_64 rfl ?_
          exact J_iret (ty := .int) dX8_behind_66 rfl (rfl) ⟨(by refine congrArg oI ?_; first | (show nI 100000000 = nI (vBh q _); exact congrArg nI (by subst c6; unfold vBh; (first | rw [if_pos rfl] | rw [if_neg (by decide)]); (try split) <;> (try split) <;> omega)) | exact congrArg nI (by subst c6; unfold vBh; (first | rw [if_pos rfl] | rw [if_neg (by decide)]); (try split) <;> (try split) <;> omega)), (by rfl)⟩
        · have c56 := jleF (a := (((q / 100) / 1 + 1) * 1) * 100) (b := 99999999) (by omega) (by omega) c56
          refine J_ldc (x := 100000000) dX8_behind_59 (List.mem_of_getElem? (i := 2) rfl) ?_
          refine J_goto (tgt := 66) dX8_behind_61 (by decide) ?_
          exact J_iret (ty := .int) dX8_behind_66 rfl (rfl) ⟨(by refine congrArg oI ?_; first | (show nI 100000000 = nI (vBh q _); exact congrArg nI (by subst c6; unfold vBh; (first | rw [if_pos rfl] | rw [if_neg (by decide)]); (try split) <;> (try split) <;> omega)) | exact congrArg nI (by subst c6; unfold vBh; (first | rw [if_pos rfl] | rw [if_neg (by decide)]); (try split) <;> (try split) <;> omega)), (by rfl)⟩
      · have c30 := jltF (a := q / 100) (b := 100) (by omega) (by omega) c30
        refine J_bipush (x := 100) dX8_behind_33 (by decide) ?_
        refine J_goto (tgt := 39) dX8_behind_35 (by decide) ?_
        refine J_istore_n (lv' := [.int (nI (q)), .int (jb (b)), .int (nI (q / 100)), .int (100), .float 0]) dX8_behind_39 rfl (by decide) rfl rfl ?_
        refine J_iload_n dX8_behind_40 rfl rfl ?_
        refine J_iload_n dX8_behind_41 rfl rfl ?_
        refine J_idiv dX8_behind_42 (by decide) ?_
        refine J_topi (y := nI ((q / 100) / 100)) (pk_div (a := q / 100) (d := 100) (by omega) (by omega) (by omega)) ?_
        refine J_iconst (x := 1) dX8_behind_43 (by decide) ?_
        refine J_iadd dX8_behind_44 ?_
        refine J_topi (y := nI ((q / 100) / 100 + 1)) (nI_add ((q / 100) / 100) (1)) ?_
        refine J_iload_n dX8_behind_45 rfl rfl ?_
        refine J_imul dX8_behind_46 ?_
        refine J_topi (y := nI (((q / 100) / 100 + 1) * 100)) (pk_mul ((q / 100) / 100 + 1) (100)) ?_
        refine J_bipush (x := 100) dX8_behind_47 (by decide) ?_
        refine J_imul dX8_behind_49 ?_
        refine J_topi (y := nI ((((q / 100) / 100 + 1) * 100) * 100)) (pk_mul (((q / 100) / 100 + 1) * 100) (100)) ?_
        refine J_istore (lv' := [.int (nI (q)), .int (jb (b)), .int (nI (q / 100)), .int (100), .int (nI ((((q / 100) / 100 + 1) * 100) * 100))]) dX8_behind_50 (by decide) rfl rfl ?_
        refine J_iload dX8_behind_52 rfl ?_
        refine J_ldc (x := 99999999) dX8_behind_54 (List.mem_of_getElem? (i := 1) rfl) ?_
        refine J_icmp_le dX8_behind_56 (tgt := 64) (by decide) (fun c56 => ?_) (fun c56 => ?_)
        · have c56 := jleT (a := (((q / 100) / 100 + 1) * 100) * 100) (b := 99999999) (by omega) (by omega) c56
          refine J_iload dX8_behind_64 rfl ?_
          exact J_iret (ty := .int) dX8_behind_66 rfl (rfl) ⟨(by refine congrArg oI ?_; first | (show nI 100000000 = nI (vBh q _); exact congrArg nI (by subst c6; unfold vBh; (first | rw [if_pos rfl] | rw [if_neg (by decide)]); (try split) <;> (try split) <;> omega)) | exact congrArg nI (by subst c6; unfold vBh; (first | rw [if_pos rfl] | rw [if_neg (by decide)]); (try split) <;> (try split) <;> omega)), (by rfl)⟩
        · have c56 := jleF (a := (((q / 100) / 100 + 1) * 100) * 100) (b := 99999999) (by omega) (by omega) c56
          refine J_ldc (x := 100000000) dX8_behind_59 (List.mem_of_getElem? (i := 2) rfl) ?_
          refine J_goto (tgt := 66) dX8_behind_61 (by decide) ?_
          exact J_iret (ty := .int) dX8_behind_66 rfl (rfl) ⟨(by refine congrArg oI ?_; first | (show nI 100000000 = nI (vBh q _); exact congrArg nI (by subst c6; unfold vBh; (first | rw [if_pos rfl] | rw [if_neg (by decide)]); (try split) <;> (try split) <;> omega)) | exact congrArg nI (by subst c6; unfold vBh; (first | rw [if_pos rfl] | rw [if_neg (by decide)]); (try split) <;> (try split) <;> omega)), (by rfl)⟩
    · have c18 := jltF (a := q / 100) (b := 10000) (by omega) (by omega) c18
      refine J_sipush (x := 10000) dX8_behind_21 (by decide) ?_
      refine J_goto (tgt := 39) dX8_behind_24 (by decide) ?_
      refine J_istore_n (lv' := [.int (nI (q)), .int (jb (b)), .int (nI (q / 100)), .int (10000), .float 0]) dX8_behind_39 rfl (by decide) rfl rfl ?_
      refine J_iload_n dX8_behind_40 rfl rfl ?_
      refine J_iload_n dX8_behind_41 rfl rfl ?_
      refine J_idiv dX8_behind_42 (by decide) ?_
      refine J_topi (y := nI ((q / 100) / 10000)) (pk_div (a := q / 100) (d := 10000) (by omega) (by omega) (by omega)) ?_
      refine J_iconst (x := 1) dX8_behind_43 (by decide) ?_
      refine J_iadd dX8_behind_44 ?_
      refine J_topi (y := nI ((q / 100) / 10000 + 1)) (nI_add ((q / 100) / 10000) (1)) ?_
      refine J_iload_n dX8_behind_45 rfl rfl ?_
      refine J_imul dX8_behind_46 ?_
      refine J_topi (y := nI (((q / 100) / 10000 + 1) * 10000)) (pk_mul ((q / 100) / 10000 + 1) (10000)) ?_
      refine J_bipush (x := 100) dX8_behind_47 (by decide) ?_
      refine J_imul dX8_behind_49 ?_
      refine J_topi (y := nI ((((q / 100) / 10000 + 1) * 10000) * 100)) (pk_mul (((q / 100) / 10000 + 1) * 10000) (100)) ?_
      refine J_istore (lv' := [.int (nI (q)), .int (jb (b)), .int (nI (q / 100)), .int (10000), .int (nI ((((q / 100) / 10000 + 1) * 10000) * 100))]) dX8_behind_50 (by decide) rfl rfl ?_
      refine J_iload dX8_behind_52 rfl ?_
      refine J_ldc (x := 99999999) dX8_behind_54 (List.mem_of_getElem? (i := 1) rfl) ?_
      refine J_icmp_le dX8_behind_56 (tgt := 64) (by decide) (fun c56 => ?_) (fun c56 => ?_)
      · have c56 := jleT (a := (((q / 100) / 10000 + 1) * 10000) * 100) (b := 99999999) (by omega) (by omega) c56
        refine J_iload dX8_behind_64 rfl ?_
        exact J_iret (ty := .int) dX8_behind_66 rfl (rfl) ⟨(by refine congrArg oI ?_; first | (show nI 100000000 = nI (vBh q _); exact congrArg nI (by subst c6; unfold vBh; (first | rw [if_pos rfl] | rw [if_neg (by decide)]); (try split) <;> (try split) <;> omega)) | exact congrArg nI (by subst c6; unfold vBh; (first | rw [if_pos rfl] | rw [if_neg (by decide)]); (try split) <;> (try split) <;> omega)), (by rfl)⟩
      · have c56 := jleF (a := (((q / 100) / 10000 + 1) * 10000) * 100) (b := 99999999) (by omega) (by omega) c56
        refine J_ldc (x := 100000000) dX8_behind_59 (List.mem_of_getElem? (i := 2) rfl) ?_
        refine J_goto (tgt := 66) dX8_behind_61 (by decide) ?_
        exact J_iret (ty := .int) dX8_behind_66 rfl (rfl) ⟨(by refine congrArg oI ?_; first | (show nI 100000000 = nI (vBh q _); exact congrArg nI (by subst c6; unfold vBh; (first | rw [if_pos rfl] | rw [if_neg (by decide)]); (try split) <;> (try split) <;> omega)) | exact congrArg nI (by subst c6; unfold vBh; (first | rw [if_pos rfl] | rw [if_neg (by decide)]); (try split) <;> (try split) <;> omega)), (by rfl)⟩
  · have c6 := jb0T c6
    refine J_bipush (x := 100) dX8_behind_9 (by decide) ?_
    refine J_goto (tgt := 39) dX8_behind_11 (by decide) ?_
    refine J_istore_n (lv' := [.int (nI (q)), .int (jb (b)), .int (nI (q / 100)), .int (100), .float 0]) dX8_behind_39 rfl (by decide) rfl rfl ?_
    refine J_iload_n dX8_behind_40 rfl rfl ?_
    refine J_iload_n dX8_behind_41 rfl rfl ?_
    refine J_idiv dX8_behind_42 (by decide) ?_
    refine J_topi (y := nI ((q / 100) / 100)) (pk_div (a := q / 100) (d := 100) (by omega) (by omega) (by omega)) ?_
    refine J_iconst (x := 1) dX8_behind_43 (by decide) ?_
    refine J_iadd dX8_behind_44 ?_
    refine J_topi (y := nI ((q / 100) / 100 + 1)) (nI_add ((q / 100) / 100) (1)) ?_
    refine J_iload_n dX8_behind_45 rfl rfl ?_
    refine J_imul dX8_behind_46 ?_
    refine J_topi (y := nI (((q / 100) / 100 + 1) * 100)) (pk_mul ((q / 100) / 100 + 1) (100)) ?_
    refine J_bipush (x := 100) dX8_behind_47 (by decide) ?_
    refine J_imul dX8_behind_49 ?_
    refine J_topi (y := nI ((((q / 100) / 100 + 1) * 100) * 100)) (pk_mul (((q / 100) / 100 + 1) * 100) (100)) ?_
    refine J_istore (lv' := [.int (nI (q)), .int (jb (b)), .int (nI (q / 100)), .int (100), .int (nI ((((q / 100) / 100 + 1) * 100) * 100))]) dX8_behind_50 (by decide) rfl rfl ?_
    refine J_iload dX8_behind_52 rfl ?_
    refine J_ldc (x := 99999999) dX8_behind_54 (List.mem_of_getElem? (i := 1) rfl) ?_
    refine J_icmp_le dX8_behind_56 (tgt := 64) (by decide) (fun c56 => ?_) (fun c56 => ?_)
    · have c56 := jleT (a := (((q / 100) / 100 + 1) * 100) * 100) (b := 99999999) (by omega) (by omega) c56
      refine J_iload dX8_behind_64 rfl ?_
      exact J_iret (ty := .int) dX8_behind_66 rfl (rfl) ⟨(by refine congrArg oI ?_; first | (show nI 100000000 = nI (vBh q _); exact congrArg nI (by subst c6; unfold vBh; (first | rw [if_pos rfl] | rw [if_neg (by decide)]); (try split) <;> (try split) <;> omega)) | exact congrArg nI (by subst c6; unfold vBh; (first | rw [if_pos rfl] | rw [if_neg (by decide)]); (try split) <;> (try split) <;> omega)), (by rfl)⟩
    · have c56 := jleF (a := (((q / 100) / 100 + 1) * 100) * 100) (b := 99999999) (by omega) (by omega) c56
      refine J_ldc (x := 100000000) dX8_behind_59 (List.mem_of_getElem? (i := 2) rfl) ?_
      refine J_goto (tgt := 66) dX8_behind_61 (by decide) ?_
      exact J_iret (ty := .int) dX8_behind_66 rfl (rfl) ⟨(by refine congrArg oI ?_; first | (show nI 100000000 = nI (vBh q _); exact congrArg nI (by subst c6; unfold vBh; (first | rw [if_pos rfl] | rw [if_neg (by decide)]); (try split) <;> (try split) <;> omega)) | exact congrArg nI (by subst c6; unfold vBh; (first | rw [if_pos rfl] | rw [if_neg (by decide)]); (try split) <;> (try split) <;> omega)), (by rfl)⟩

theorem dX8_limit_0 : decode cX8_limit 0 = .ok (.aload_n 0, 1) := by decide +kernel
theorem dX8_limit_1 : decode cX8_limit 1 = .ok (.iload_n 1, 1) := by decide +kernel
theorem dX8_limit_2 : decode cX8_limit 2 = .ok (.invokestatic 202, 3) := by decide +kernel
set_option maxRecDepth 20000 in
theorem ggX8_limit_X8_isVersion : GoodIn wsX8_limit wsX8_isVersion := goodIn_r _ [4, 5] (by decide +kernel) (by decide +kernel)
set_option maxRecDepth 20000 in
theorem gX8_limit_X8_isVersion : GoodIn wsX8_limit (va_wsS RX8 202 yX8_isVersion wsX8_isVersion) := goodIn_app (goodIn_of _ (by decide +kernel)) ggX8_limit_X8_isVersion
theorem dX8_limit_5 : decode cX8_limit 5 = .ok (.ifCond .eq 7, 3) := by decide +kernel
theorem dX8_limit_12 : decode cX8_limit 12 = .ok (.iconst 1, 1) := by decide +kernel
theorem dX8_limit_13 : decode cX8_limit 13 = .ok (.invokevirtual 148, 3) := by decide +kernel
set_option maxRecDepth 20000 in
theorem ggX8_limit_X8_fails : GoodIn wsX8_limit wsX8_fails := goodIn_r _ [9, 10, 15, 16, 17, 18, 19, 20, 21, 22, 23, 24, 25, 26, 27, 28, 29, 30, 31, 32, 33, 34, 35, 36, 37, 38, 39, 40, 41, 42, 43, 44, 45] (by decide +kernel) (by decide +kernel)
set_option maxRecDepth 20000 in
theorem gX8_limit_X8_fails : GoodIn wsX8_limit (wsV RX8 148 RX8 yX8_fails wsX8_fails) := goodIn_app (goodIn_of _ (by decide +kernel)) ggX8_limit_X8_fails
theorem dX8_limit_16 : decode cX8_limit 16 = .ok (.ifCond .eq 7, 3) := by decide +kernel
theorem dX8_limit_19 : decode cX8_limit 19 = .ok (.iconst 0, 1) := by decide +kernel
theorem dX8_limit_20 : decode cX8_limit 20 = .ok (.goto 10, 3) := by decide +kernel
theorem dX8_limit_30 : decode cX8_limit 30 = .ok (.ireturn, 1) := by decide +kernel
theorem dX8_limit_8 : decode cX8_limit 8 = .ok (.iconst 0, 1) := by decide +kernel
theorem dX8_limit_9 : decode cX8_limit 9 = .ok (.goto 4, 3) := by decide +kernel
theorem dX8_limit_23 : decode cX8_limit 23 = .ok (.iload_n 1, 1) := by decide +kernel
theorem dX8_limit_24 : decode cX8_limit 24 = .ok (.iload_n 2, 1) := by decide +kernel
theorem dX8_limit_25 : decode cX8_limit 25 = .ok (.invokestatic 134, 3) := by decide +kernel
set_option maxRecDepth 20000 in
theorem ggX8_limit_X8_behind : GoodIn wsX8_limit wsX8_behind := goodIn_ca (goodIn_r _ [13, 5, 14] (by decide +kernel) (by decide +kernel)) (goodIn_sub (fun _ h => List.mem_cons_of_mem _ (List.mem_append_right _ h)) (by decide +kernel))
set_option maxRecDepth 20000 in
theorem gX8_limit_X8_behind : GoodIn wsX8_limit (va_wsS RX8 134 yX8_behind wsX8_behind) := goodIn_app (goodIn_of _ (by decide +kernel)) ggX8_limit_X8_behind
theorem yY_X8_behind : jY yX8_behind wsX8_behind cX8_behind 5 (some .int) 2 := ⟨⟨_, rfl⟩, by decide +kernel, by decide +kernel, by decide +kernel⟩
theorem dX8_limit_28 : decode cX8_limit 28 = .ok (.iconst 1, 1) := by decide +kernel
theorem dX8_limit_29 : decode cX8_limit 29 = .ok (.isub, 1) := by decide +kernel
set_option maxHeartbeats 400000 in
set_option maxRecDepth 20000 in
theorem ct_X8_limit (l : Launch) (D : va_G) (dA : Nat → ClassId) (hst : l.stackTraces = false) (M : jM) (m : Nat) (A : cA) (hA : mAb M m A) (hW : zWf (cNw A))(y : Int32) (b : Bool) : jCT l D dA yX8_limit wsX8_limit (22) (420) (0) (0) 1 [.ref (m), .int (y), .int (jb (b))] M (mRl M m [xIAE] (oLm y b) A) := by
  refine jBody (cc := cX8_limit) (nL := 3) (rt := (some .int)) (ini := false) (by decide) rfl hst (Nat.le_of_ble_eq_true rfl) (by simp [Value.category]) (by intro h9; first | exact absurd h9 (by decide) | rfl) ?_
  show J l D dA RX8 cX8_limit wsX8_limit 3 false (some .int) [] (22) (420) (jF D dA (jn M) (mRl M m [xIAE] (oLm y b) A) 1) (jn M) (0) (0) (M) 0 [.ref (m), .int (y), .int (jb (b))] []
  obtain ⟨hM, hz, ⟨hKn, hK8, hKs⟩, ⟨hHs, hHz⟩, ⟨hLn, hL6, hLc⟩, hFl, ⟨hRs, hRp⟩, hCh⟩ := id hA
  obtain ⟨m1, m2, ⟨r1, r2, r3, r4, r5, r6, r7, r8, r9, r10, r11, r12, r13⟩, ⟨k1, k2, k3, k4, k5, k6, k7, k8, k9, k10, k11, k12, k13⟩, z1, z2, z3, z4, z5, z6, z7, z8, z9, z10, z11, z12, z13⟩ := id hM
  refine J_aload_n (m) dX8_limit_0 rfl rfl ?_
  refine J_iload_n dX8_limit_1 rfl rfl ?_
  refine J_calli0 (jrunS (As := [.int (y)]) (ct_X8_isVersion l D dA hst M ((y))) dX8_limit_2 yY_X8_isVersion gX8_limit_X8_isVersion rfl ⟨by omega, by omega⟩ ⟨Nat.zero_le _, Nat.zero_le _⟩ rfl (Nat.le_of_ble_eq_true rfl)) (rfl) (rfl) ?_
  refine J_if_eq dX8_limit_5 (tgt := 12) (by decide) (fun c5 => ?_) (fun c5 => ?_)
  · have c5 := jb0T c5
    refine J_iconst (x := 1) dX8_limit_12 (by decide) ?_
    refine J_calli0 (jrunV (As := [.int (1)]) (ct_X8_fails l D dA hst M m hM ((1))) dX8_limit_13 yY_X8_fails gX8_limit_X8_fails rfl cs11 (show m < jn M from by omega) m2 rfl ⟨by omega, by omega⟩ ⟨Nat.zero_le _, Nat.zero_le _⟩ rfl (Nat.le_of_ble_eq_true rfl)) (rfl) (rfl) ?_
    refine J_if_eq dX8_limit_16 (tgt := 23) (by decide) (fun c16 => ?_) (fun c16 => ?_)
    · exact absurd c16 (by decide)
    · have c16 := jeqF (a := 1) (b := 0) (by omega) (by omega) c16
      refine J_iconst (x := 0) dX8_limit_19 (by decide) ?_
      refine J_goto (tgt := 30) dX8_limit_20 (by decide) ?_
      exact J_iret (ty := .int) dX8_limit_30 rfl (rfl) (by refine ⟨?_, (hA).si rfl, (mFr.rf).si ⟨by omega, by omega⟩, _, rfl⟩; simp only [ji_Si, and_self, if_true, reduceIte, reduceCtorEq, and_false, if_false, Nat.reduceEqDiff]; first | exact mAg.x 0 xIAE rfl (by decide) rfl (by exact oLm_f c5) | (refine Or.inl ⟨rfl, ?_⟩; exact oLm_t hq c5) | fail "rl")
  · have c5 := jb0F c5
    refine J_iconst (x := 0) dX8_limit_8 (by decide) ?_
    refine J_goto (tgt := 13) dX8_limit_9 (by decide) ?_
    refine J_calli0 (jrunV (As := [.int (0)]) (ct_X8_fails l D dA hst M m hM ((0))) dX8_limit_13 yY_X8_fails gX8_limit_X8_fails rfl cs11 (show m < jn M from by omega) m2 rfl ⟨by omega, by omega⟩ ⟨Nat.zero_le _, Nat.zero_le _⟩ rfl (Nat.le_of_ble_eq_true rfl)) (rfl) (rfl) ?_
    refine J_if_eq dX8_limit_16 (tgt := 23) (by decide) (fun c16 => ?_) (fun c16 => ?_)
    · have c16 := jeqT (a := 0) (b := 0) (by omega) (by omega) c16
      obtain ⟨q, hq, rfl⟩ := okVer_of c5
      have hvb := vBh_b (b := b) hq
      refine J_iload_n dX8_limit_23 rfl rfl ?_
      refine J_iload_n dX8_limit_24 rfl rfl ?_
      refine J_calli0 (jrunS (As := [.int (nI (q)), .int (jb (b))]) (ct_X8_behind l D dA hst (jSi M m 11 ((0))) q hq b) dX8_limit_25 yY_X8_behind gX8_limit_X8_behind rfl ⟨by omega, by omega⟩ ⟨Nat.zero_le _, Nat.zero_le _⟩ rfl (Nat.le_of_ble_eq_true rfl)) (rfl) (rfl) ?_
      refine J_iconst (x := 1) dX8_limit_28 (by decide) ?_
      refine J_isub dX8_limit_29 ?_
      refine J_topi (y := nI (vBh q b - 1)) (pk_sub (a := vBh q b) (b := 1) (by omega)) ?_
      exact J_iret (ty := .int) dX8_limit_30 rfl (rfl) (by refine ⟨?_, (hA).si rfl, (mFr.rf).si ⟨by omega, by omega⟩, _, rfl⟩; simp only [ji_Si, and_self, if_true, reduceIte, reduceCtorEq, and_false, if_false, Nat.reduceEqDiff]; first | exact mAg.x 0 xIAE rfl (by decide) rfl (by exact oLm_f c5) | (refine Or.inl ⟨rfl, ?_⟩; exact oLm_t hq c5) | fail "rl")
    · exact absurd c16 (by decide)

theorem slW_n {z : cSt} {p : rVl → Bool} {j : Nat} (h : (z.1 j).isNone = true) : slW z p j = false := by
  unfold slW
  cases hz : z.1 j with
  | none => rfl
  | some w => rw [hz] at h; exact nomatch h
theorem slW_s {z : cSt} {p : rVl → Bool} {j : Nat} {w : rVl} (h : z.1 j = some w) : slW z p j = p w := by unfold slW; rw [h]
theorem slK_n {z : cSt} {j : Nat} (h : (z.1 j).isNone = true) : slK z j = 0 := by
  unfold slK
  cases hz : z.1 j with
  | none => rfl
  | some w => rw [hz] at h; exact nomatch h
theorem slK_s {z : cSt} {j : Nat} {w : rVl} (h : z.1 j = some w) : slK z j = w.1 := by unfold slK; rw [h]
theorem some_of {x : Option rVl} (h : x.isNone = false) : ∃ w, x = some w := by
  cases x with
  | none => exact nomatch h
  | some w => exact ⟨w, rfl⟩
theorem slK_le {row : Nat → Int32} {p : Nat} {z : cSt} (h : mSt row p z) {j : Nat} (hj : j < 12) : slK z j ≤ 16 := by
  have h1 := h.1 j hj
  unfold slK
  cases hz : z.1 j with
  | none => exact Nat.zero_le _
  | some w => rw [hz] at h1; exact h1.2.1
theorem jmax_le16 {row : Nat → Int32} {p : Nat} {z : cSt} (h : mSt row p z) : ∀ j, j ≤ 12 → jmax (slK z) j ≤ 16 := by
  intro j
  induction j with
  | zero => intro _; exact Nat.zero_le _
  | succ j ih =>
    intro hj
    have h1 := ih (by omega)
    have h2 := slK_le h (j := j) (by omega)
    show max _ _ ≤ 16
    omega
theorem dX8_isLoose_2 : decode cX8_isLoose 2 = .ok (.iload_n 2, 1) := by decide +kernel
theorem dX8_isLoose_3 : decode cX8_isLoose 3 = .ok (.bipush 12, 2) := by decide +kernel
theorem dX8_isLoose_5 : decode cX8_isLoose 5 = .ok (.if_icmp .ge 29, 3) := by decide +kernel
theorem dX8_isLoose_34 : decode cX8_isLoose 34 = .ok (.iconst 1, 1) := by decide +kernel
theorem dX8_isLoose_35 : decode cX8_isLoose 35 = .ok (.ireturn, 1) := by decide +kernel
theorem dX8_isLoose_8 : decode cX8_isLoose 8 = .ok (.aload_n 0, 1) := by decide +kernel
theorem dX8_isLoose_9 : decode cX8_isLoose 9 = .ok (.iload_n 2, 1) := by decide +kernel
theorem dX8_isLoose_10 : decode cX8_isLoose 10 = .ok (.invokevirtual 188, 3) := by decide +kernel
set_option maxRecDepth 20000 in
theorem ggX8_isLoose_X8_isEmpty : GoodIn wsX8_isLoose wsX8_isEmpty := goodIn_ca (goodIn_r _ [5, 6, 19, 20, 21, 22, 23, 24, 25, 26, 27, 28, 29, 30, 31, 32, 33, 34, 35, 36, 37, 38, 39, 40, 41, 42, 43, 44, 45, 46, 47, 48, 49] (by decide +kernel) (by decide +kernel)) (goodIn_sub (fun _ h => List.mem_cons_of_mem _ (List.mem_append_right _ h)) (by decide +kernel))
set_option maxRecDepth 20000 in
theorem gX8_isLoose_X8_isEmpty : GoodIn wsX8_isLoose (wsV RX8 188 RX8 yX8_isEmpty wsX8_isEmpty) := goodIn_app (goodIn_of _ (by decide +kernel)) ggX8_isLoose_X8_isEmpty
theorem dX8_isLoose_13 : decode cX8_isLoose 13 = .ok (.ifCond .ne 15, 3) := by decide +kernel
theorem dX8_isLoose_28 : decode cX8_isLoose 28 = .ok (.iinc 2 1, 3) := by decide +kernel
theorem dX8_isLoose_31 : decode cX8_isLoose 31 = .ok (.goto (-29), 3) := by decide +kernel
theorem dX8_isLoose_16 : decode cX8_isLoose 16 = .ok (.aload_n 0, 1) := by decide +kernel
theorem dX8_isLoose_17 : decode cX8_isLoose 17 = .ok (.iload_n 2, 1) := by decide +kernel
theorem dX8_isLoose_18 : decode cX8_isLoose 18 = .ok (.iload_n 1, 1) := by decide +kernel
theorem dX8_isLoose_19 : decode cX8_isLoose 19 = .ok (.iconst 0, 1) := by decide +kernel
theorem dX8_isLoose_20 : decode cX8_isLoose 20 = .ok (.invokevirtual 218, 3) := by decide +kernel
set_option maxRecDepth 20000 in
theorem ggX8_isLoose_X8_isIn : GoodIn wsX8_isLoose wsX8_isIn := goodIn_ca (goodIn_r _ [10, 6, 11, 12, 13, 14, 4, 15, 16, 17, 18, 19, 20, 21, 22, 23, 24, 25, 26, 27, 28, 29, 30, 31, 32, 33, 34, 35, 36, 37, 38, 39, 40, 41, 42, 43, 44, 45, 46, 47, 48, 49] (by decide +kernel) (by decide +kernel)) (goodIn_sub (fun _ h => List.mem_cons_of_mem _ (List.mem_append_right _ h)) (by decide +kernel))
set_option maxRecDepth 20000 in
theorem gX8_isLoose_X8_isIn : GoodIn wsX8_isLoose (wsV RX8 218 RX8 yX8_isIn wsX8_isIn) := goodIn_app (goodIn_of _ (by decide +kernel)) ggX8_isLoose_X8_isIn
theorem dX8_isLoose_23 : decode cX8_isLoose 23 = .ok (.ifCond .eq 5, 3) := by decide +kernel
theorem dX8_isLoose_26 : decode cX8_isLoose 26 = .ok (.iconst 0, 1) := by decide +kernel
theorem dX8_isLoose_27 : decode cX8_isLoose 27 = .ok (.ireturn, 1) := by decide +kernel
theorem dX8_isLoose_0 : decode cX8_isLoose 0 = .ok (.iconst 0, 1) := by decide +kernel
theorem dX8_isLoose_1 : decode cX8_isLoose 1 = .ok (.istore_n 2, 1) := by decide +kernel
set_option maxHeartbeats 400000 in
set_option maxRecDepth 20000 in
theorem ct_X8_isLoose (l : Launch) (D : va_G) (dA : Nat → ClassId) (hst : l.stackTraces = false) (M : jM) (m : Nat) (hM : mOk M m) (z : cSt) (hz : mSt (ji M (m + 1)) 0 z) (hWs : ∀ j w, z.1 j = some w → rWf w) (x : Int32) : jCT l D dA yX8_isLoose wsX8_isLoose (23) (480) (0) (0) 1 [.ref (m), .int (x)] M (mBq M m (!cIn z x)) := by
  refine jBody (cc := cX8_isLoose) (nL := 3) (rt := (some .boolean)) (ini := false) (by decide) rfl hst (Nat.le_of_ble_eq_true rfl) (by simp [Value.category]) (by intro h9; first | exact absurd h9 (by decide) | rfl) ?_
  show J l D dA RX8 cX8_isLoose wsX8_isLoose 3 false (some .boolean) [] (23) (480) (jF D dA (jn M) (mBq M m (!cIn z x)) 1) (jn M) (0) (0) (M) 0 [.ref (m), .int (x), .float 0] []
  obtain ⟨m1, m2, ⟨r1, r2, r3, r4, r5, r6, r7, r8, r9, r10, r11, r12, r13⟩, ⟨k1, k2, k3, k4, k5, k6, k7, k8, k9, k10, k11, k12, k13⟩, z1, z2, z3, z4, z5, z6, z7, z8, z9, z10, z11, z12, z13⟩ := id hM
  have L2 : ∀ (fuel : Nat) (j : Nat) (y : Int32) (hj : j ≤ 12) (hI : jany (slW z (fun w => rHolds w.2 w.1 x)) j = false), 12 - j < fuel → J l D dA RX8 cX8_isLoose wsX8_isLoose 3 false (some .boolean) [] (23) (480) (jF D dA (jn M) (mBq M m (!cIn z x)) 1) (jn M) (0) (0) ((jSi M m 14 y)) 2 [.ref (m), .int (x), .int (nI (j))] [] := by
    intro fuel
    induction fuel with
    | zero => intro j y hj hI hm; exact absurd hm (Nat.not_lt_zero _)
    | succ fuel ih2 =>
      intro j y hj hI hm2
      refine J_iload_n dX8_isLoose_2 rfl rfl ?_
      refine J_bipush (x := 12) dX8_isLoose_3 (by decide) ?_
      refine J_icmp_ge dX8_isLoose_5 (tgt := 34) (by decide) (fun c5 => ?_) (fun c5 => ?_)
      · have c5 := jleT (a := 12) (b := j) (by omega) (by omega) c5
        refine J_iconst (x := 1) dX8_isLoose_34 (by decide) ?_
        exact J_iret (ty := .boolean) dX8_isLoose_35 rfl (by rfl) (by obtain rfl : j = 12 := (by omega); refine ⟨_, ?_, rfl⟩; rw [show cIn z x = false from hI]; rfl)
      · have c5 := jleF (a := 12) (b := j) (by omega) (by omega) c5
        have hk : j < 12 := by omega
        refine J_aload_n (m) dX8_isLoose_8 rfl rfl ?_
        refine J_iload_n dX8_isLoose_9 rfl rfl ?_
        refine J_calli0 (jrunV (As := [.int (nI (j))]) (ct_X8_isEmpty l D dA hst ((jSi M m 14 y)) m hM j hk (z.1 j) (((hz.at0 hk)).si (by omega))) dX8_isLoose_10 yY_X8_isEmpty gX8_isLoose_X8_isEmpty rfl cs11 (show m < jn M from by omega) m2 rfl ⟨by omega, by omega⟩ ⟨Nat.zero_le _, Nat.zero_le _⟩ rfl (Nat.le_of_ble_eq_true rfl)) (rfl) (rfl) ?_
        refine J_if_ne dX8_isLoose_13 (tgt := 28) (by decide) (fun c13 => ?_) (fun c13 => ?_)
        · have c13 := jb0F c13
          refine J_iinc (y := nI (j + 1)) (lv' := [.ref (m), .int (x), .int (nI (j + 1))]) dX8_isLoose_28 rfl (jinc (j)) (by decide) rfl rfl ?_
          refine J_goto (tgt := 2) dX8_isLoose_31 (by decide) ?_
          exact ih2 (j + 1) (y) (by omega) (by show (jany (slW z (fun w => rHolds w.2 w.1 x)) j || slW z _ j) = false; rw [hI, Bool.false_or]; exact slW_n c13) (by omega)
        · have c13 := jb0T c13
          obtain ⟨w, hw9⟩ := some_of c13
          have hx := hz.at0 hk
          rw [hw9] at hx
          have hw := hWs _ _ hw9
          refine J_aload_n (m) dX8_isLoose_16 rfl rfl ?_
          refine J_iload_n dX8_isLoose_17 rfl rfl ?_
          refine J_iload_n dX8_isLoose_18 rfl rfl ?_
          refine J_iconst (x := 0) dX8_isLoose_19 (by decide) ?_
          refine J_calli (jrunV (As := [.int (nI (j)), .int (x), .int (0)]) (ct_X8_isIn l D dA hst ((jSi M m 14 y)) m hM j hk w hw ((hx).si (by omega)) ((x)) false) dX8_isLoose_20 yY_X8_isIn gX8_isLoose_X8_isIn rfl cs11 (show m < jn M from by omega) m2 rfl ⟨by omega, by omega⟩ ⟨Nat.zero_le _, Nat.zero_le _⟩ rfl (Nat.le_of_ble_eq_true rfl)) ⟨Nat.zero_le _, Nat.zero_le _⟩ (Or.inr ⟨(jOk.ref (show m < jn M from by omega) (jOk.int (jOk.int jOk.nil))), jOk.nil⟩) (fun E M9 hp _ => by obtain ⟨_, h1, _⟩ := hp; cases h1) (fun x9 M1 hp20 hle20 => ?_)
          obtain ⟨xi20, he, rfl⟩ := hp20
          cases he
          refine J_mem (M' := jSi M m 14 xi20) (by exact jSi_jSi _ _ _ _ _) ?_
          refine J_if_eq dX8_isLoose_23 (tgt := 28) (by decide) (fun c23 => ?_) (fun c23 => ?_)
          · have c23 := jb0T c23
            refine J_iinc (y := nI (j + 1)) (lv' := [.ref (m), .int (x), .int (nI (j + 1))]) dX8_isLoose_28 rfl (jinc (j)) (by decide) rfl rfl ?_
            refine J_goto (tgt := 2) dX8_isLoose_31 (by decide) ?_
            exact ih2 (j + 1) (xi20) (by omega) (by show (jany (slW z (fun w => rHolds w.2 w.1 x)) j || slW z _ j) = false; rw [hI, Bool.false_or]; rw [slW_s hw9, ← rHoldsFor_f]; exact c23) (by omega)
          · have c23 := jb0F c23
            refine J_iconst (x := 0) dX8_isLoose_26 (by decide) ?_
            exact J_iret (ty := .boolean) dX8_isLoose_27 rfl (by rfl) (by refine ⟨_, ?_, rfl⟩; rw [show cIn z x = true from jany_in hk (by rw [slW_s hw9, ← rHoldsFor_f]; exact c23)]; rfl)
  refine J_mem (M' := jSi M m 14 (ji M m 14)) (by exact (jSi_self rfl).symm) ?_
  refine J_iconst (x := 0) dX8_isLoose_0 (by decide) ?_
  refine J_istore_n (lv' := [.ref (m), .int (x), .int (0)]) dX8_isLoose_1 rfl (by decide) rfl rfl ?_
  exact L2 _ (0) (ji M m 14) (by omega) (by rfl) (Nat.lt_succ_self _)

theorem oAc_0 {A : cA} : oAc A (nI 0) = oI (nI (cFull (cNw A))) := by unfold oAc; rw [if_pos (by decide)]; rfl
theorem oAc_1 {A : cA} : oAc A (nI 1) = oI (nI (jsum (slK (cNw A)) 12)) := by unfold oAc; rw [if_neg (by decide), if_pos (by decide)]
theorem oAc_2 {A : cA} : oAc A (nI 2) = oI (nI (jmax (slK (cNw A)) 12)) := by unfold oAc; rw [if_neg (by decide), if_neg (by decide), if_pos (by decide)]
theorem oAc_3 {A : cA} : oAc A (nI 3) = oI (nI (cNw A).2.1) := by unfold oAc; rw [if_neg (by decide), if_neg (by decide), if_neg (by decide), if_pos (by decide)]
theorem oAc_4 {A : cA} : oAc A (nI 4) = oI (nI (jcnt (fun p => vPre ((cNw A).2.2 p)) (cNw A).2.1)) := by unfold oAc; rw [if_neg (by decide), if_neg (by decide), if_neg (by decide), if_neg (by decide), if_pos (by decide)]
theorem oAc_5 {A : cA} : oAc A (nI 5) = oI (nI (jcnt (fun p => !cIn (cNw A) ((cNw A).2.2 p)) (cNw A).2.1)) := by unfold oAc; rw [if_neg (by decide), if_neg (by decide), if_neg (by decide), if_neg (by decide), if_neg (by decide), if_pos (by decide)]
theorem oAc_6 {A : cA} : oAc A (nI 6) = oI (nI (jcnt (slW (cNw A) (fun w => decide (w.1 = 0))) 12)) := by unfold oAc; rw [if_neg (by decide), if_neg (by decide), if_neg (by decide), if_neg (by decide), if_neg (by decide), if_neg (by decide), if_pos (by decide)]
theorem oAc_7 {A : cA} : oAc A (nI 7) = oI (nI (cL A)) := by unfold oAc; rw [if_neg (by decide), if_neg (by decide), if_neg (by decide), if_neg (by decide), if_neg (by decide), if_neg (by decide), if_neg (by decide), if_pos (by decide)]
theorem oAc_x {A : cA} {y : Int32} (h : y < 0 ∨ 7 < y) : oAc A y = oX xIAE := by
  have e : ∀ k : Int32, 0 ≤ k → k ≤ 7 → y ≠ k := fun k h1 h2 h3 => by
    subst h3
    rcases h with h | h
    · exact absurd h (Int32.not_lt.mpr h1)
    · exact absurd h (Int32.not_lt.mpr h2)
  unfold oAc
  rw [if_neg (e 0 (by decide) (by decide)), if_neg (e 1 (by decide) (by decide)), if_neg (e 2 (by decide) (by decide)), if_neg (e 3 (by decide) (by decide)), if_neg (e 4 (by decide) (by decide)), if_neg (e 5 (by decide) (by decide)), if_neg (e 6 (by decide) (by decide)), if_neg (e 7 (by decide) (by decide))]
theorem dX8_account_0 : decode cX8_account 0 = .ok (.aload_n 0, 1) := by decide +kernel
theorem dX8_account_1 : decode cX8_account 1 = .ok (.iload_n 1, 1) := by decide +kernel
theorem dX8_account_2 : decode cX8_account 2 = .ok (.ifCond .lt 9, 3) := by decide +kernel
theorem dX8_account_11 : decode cX8_account 11 = .ok (.iconst 1, 1) := by decide +kernel
theorem dX8_account_12 : decode cX8_account 12 = .ok (.goto 4, 3) := by decide +kernel
theorem dX8_account_16 : decode cX8_account 16 = .ok (.invokevirtual 148, 3) := by decide +kernel
set_option maxRecDepth 20000 in
theorem ggX8_account_X8_fails : GoodIn wsX8_account wsX8_fails := goodIn_r _ [7, 8, 33, 34, 35, 36, 37, 38, 39, 40, 41, 42, 43, 44, 45, 46, 47, 48, 49, 50, 51, 52, 53, 54, 55, 56, 57, 58, 59, 60, 61, 62, 63] (by decide +kernel) (by decide +kernel)
set_option maxRecDepth 20000 in
theorem gX8_account_X8_fails : GoodIn wsX8_account (wsV RX8 148 RX8 yX8_fails wsX8_fails) := goodIn_app (goodIn_of _ (by decide +kernel)) ggX8_account_X8_fails
theorem dX8_account_19 : decode cX8_account 19 = .ok (.ifCond .eq 5, 3) := by decide +kernel
theorem dX8_account_22 : decode cX8_account 22 = .ok (.iconst 0, 1) := by decide +kernel
theorem dX8_account_23 : decode cX8_account 23 = .ok (.ireturn, 1) := by decide +kernel
theorem dX8_account_5 : decode cX8_account 5 = .ok (.iload_n 1, 1) := by decide +kernel
theorem dX8_account_6 : decode cX8_account 6 = .ok (.bipush 7, 2) := by decide +kernel
theorem dX8_account_8 : decode cX8_account 8 = .ok (.if_icmp .le 7, 3) := by decide +kernel
theorem dX8_account_15 : decode cX8_account 15 = .ok (.iconst 0, 1) := by decide +kernel
theorem dX8_account_24 : decode cX8_account 24 = .ok (.iconst 0, 1) := by decide +kernel
theorem dX8_account_25 : decode cX8_account 25 = .ok (.istore_n 2, 1) := by decide +kernel
theorem dX8_account_26 : decode cX8_account 26 = .ok (.iload_n 1, 1) := by decide +kernel
theorem dX8_account_27 : decode cX8_account 27 = .ok (.tableswitch 267 0 6 #[41, 46, 86, 129, 138, 184, 231], 41) := by decide +kernel
theorem dX8_account_68 : decode cX8_account 68 = .ok (.aload_n 0, 1) := by decide +kernel
theorem dX8_account_69 : decode cX8_account 69 = .ok (.invokevirtual 205, 3) := by decide +kernel
set_option maxRecDepth 20000 in
theorem ggX8_account_X8_full : GoodIn wsX8_account wsX8_full := goodIn_ca (goodIn_r _ [12, 13, 14, 15, 6, 16, 1, 33, 34, 35, 36, 37, 38, 39, 40, 41, 42, 43, 44, 45, 46, 47, 48, 49, 50, 51, 52, 53, 54, 55, 56, 57, 58, 59, 60, 61, 62, 63] (by decide +kernel) (by decide +kernel)) (goodIn_sub (fun _ h => List.mem_cons_of_mem _ (List.mem_append_right _ h)) (by decide +kernel))
set_option maxRecDepth 20000 in
theorem gX8_account_X8_full : GoodIn wsX8_account (wsV RX8 205 RX8 yX8_full wsX8_full) := goodIn_app (goodIn_of _ (by decide +kernel)) ggX8_account_X8_full
theorem dX8_account_72 : decode cX8_account 72 = .ok (.ireturn, 1) := by decide +kernel
theorem dX8_account_75 : decode cX8_account 75 = .ok (.iload_n 3, 1) := by decide +kernel
theorem dX8_account_76 : decode cX8_account 76 = .ok (.bipush 12, 2) := by decide +kernel
theorem dX8_account_78 : decode cX8_account 78 = .ok (.if_icmp .ge 33, 3) := by decide +kernel
theorem dX8_account_111 : decode cX8_account 111 = .ok (.iload_n 2, 1) := by decide +kernel
theorem dX8_account_112 : decode cX8_account 112 = .ok (.ireturn, 1) := by decide +kernel
theorem dX8_account_81 : decode cX8_account 81 = .ok (.iload_n 2, 1) := by decide +kernel
theorem dX8_account_82 : decode cX8_account 82 = .ok (.aload_n 0, 1) := by decide +kernel
theorem dX8_account_83 : decode cX8_account 83 = .ok (.iload_n 3, 1) := by decide +kernel
theorem dX8_account_84 : decode cX8_account 84 = .ok (.invokevirtual 188, 3) := by decide +kernel
set_option maxRecDepth 20000 in
theorem ggX8_account_X8_isEmpty : GoodIn wsX8_account wsX8_isEmpty := goodIn_ca (goodIn_r _ [16, 1, 33, 34, 35, 36, 37, 38, 39, 40, 41, 42, 43, 44, 45, 46, 47, 48, 49, 50, 51, 52, 53, 54, 55, 56, 57, 58, 59, 60, 61, 62, 63] (by decide +kernel) (by decide +kernel)) (goodIn_sub (fun _ h => List.mem_cons_of_mem _ (List.mem_append_right _ h)) (by decide +kernel))
set_option maxRecDepth 20000 in
theorem gX8_account_X8_isEmpty : GoodIn wsX8_account (wsV RX8 188 RX8 yX8_isEmpty wsX8_isEmpty) := goodIn_app (goodIn_of _ (by decide +kernel)) ggX8_account_X8_isEmpty
theorem dX8_account_87 : decode cX8_account 87 = .ok (.ifCond .eq 7, 3) := by decide +kernel
theorem dX8_account_94 : decode cX8_account 94 = .ok (.aload_n 0, 1) := by decide +kernel
theorem dX8_account_95 : decode cX8_account 95 = .ok (.getfield 9, 3) := by decide +kernel
theorem dX8_account_98 : decode cX8_account 98 = .ok (.bipush 33, 2) := by decide +kernel
theorem dX8_account_100 : decode cX8_account 100 = .ok (.iload_n 3, 1) := by decide +kernel
theorem dX8_account_101 : decode cX8_account 101 = .ok (.imul, 1) := by decide +kernel
theorem dX8_account_102 : decode cX8_account 102 = .ok (.iaload, 1) := by decide +kernel
theorem dX8_account_103 : decode cX8_account 103 = .ok (.iadd, 1) := by decide +kernel
theorem dX8_account_104 : decode cX8_account 104 = .ok (.istore_n 2, 1) := by decide +kernel
theorem dX8_account_105 : decode cX8_account 105 = .ok (.iinc 3 1, 3) := by decide +kernel
theorem dX8_account_108 : decode cX8_account 108 = .ok (.goto (-33), 3) := by decide +kernel
theorem dX8_account_90 : decode cX8_account 90 = .ok (.iconst 0, 1) := by decide +kernel
theorem dX8_account_91 : decode cX8_account 91 = .ok (.goto 12, 3) := by decide +kernel
theorem dX8_account_73 : decode cX8_account 73 = .ok (.iconst 0, 1) := by decide +kernel
theorem dX8_account_74 : decode cX8_account 74 = .ok (.istore_n 3, 1) := by decide +kernel
theorem dX8_account_115 : decode cX8_account 115 = .ok (.iload_n 3, 1) := by decide +kernel
theorem dX8_account_116 : decode cX8_account 116 = .ok (.bipush 12, 2) := by decide +kernel
theorem dX8_account_118 : decode cX8_account 118 = .ok (.if_icmp .ge 36, 3) := by decide +kernel
theorem dX8_account_154 : decode cX8_account 154 = .ok (.iload_n 2, 1) := by decide +kernel
theorem dX8_account_155 : decode cX8_account 155 = .ok (.ireturn, 1) := by decide +kernel
theorem dX8_account_121 : decode cX8_account 121 = .ok (.aload_n 0, 1) := by decide +kernel
theorem dX8_account_122 : decode cX8_account 122 = .ok (.getfield 9, 3) := by decide +kernel
theorem dX8_account_125 : decode cX8_account 125 = .ok (.bipush 33, 2) := by decide +kernel
theorem dX8_account_127 : decode cX8_account 127 = .ok (.iload_n 3, 1) := by decide +kernel
theorem dX8_account_128 : decode cX8_account 128 = .ok (.imul, 1) := by decide +kernel
theorem dX8_account_129 : decode cX8_account 129 = .ok (.iaload, 1) := by decide +kernel
theorem dX8_account_130 : decode cX8_account 130 = .ok (.iload_n 2, 1) := by decide +kernel
theorem dX8_account_131 : decode cX8_account 131 = .ok (.if_icmp .le 15, 3) := by decide +kernel
theorem dX8_account_146 : decode cX8_account 146 = .ok (.iload_n 2, 1) := by decide +kernel
theorem dX8_account_147 : decode cX8_account 147 = .ok (.istore_n 2, 1) := by decide +kernel
theorem dX8_account_148 : decode cX8_account 148 = .ok (.iinc 3 1, 3) := by decide +kernel
theorem dX8_account_151 : decode cX8_account 151 = .ok (.goto (-36), 3) := by decide +kernel
theorem dX8_account_134 : decode cX8_account 134 = .ok (.aload_n 0, 1) := by decide +kernel
theorem dX8_account_135 : decode cX8_account 135 = .ok (.getfield 9, 3) := by decide +kernel
theorem dX8_account_138 : decode cX8_account 138 = .ok (.bipush 33, 2) := by decide +kernel
theorem dX8_account_140 : decode cX8_account 140 = .ok (.iload_n 3, 1) := by decide +kernel
theorem dX8_account_141 : decode cX8_account 141 = .ok (.imul, 1) := by decide +kernel
theorem dX8_account_142 : decode cX8_account 142 = .ok (.iaload, 1) := by decide +kernel
theorem dX8_account_143 : decode cX8_account 143 = .ok (.goto 4, 3) := by decide +kernel
theorem dX8_account_113 : decode cX8_account 113 = .ok (.iconst 0, 1) := by decide +kernel
theorem dX8_account_114 : decode cX8_account 114 = .ok (.istore_n 3, 1) := by decide +kernel
theorem dX8_account_156 : decode cX8_account 156 = .ok (.aload_n 0, 1) := by decide +kernel
theorem dX8_account_157 : decode cX8_account 157 = .ok (.getfield 9, 3) := by decide +kernel
theorem dX8_account_160 : decode cX8_account 160 = .ok (.sipush 396, 3) := by decide +kernel
theorem dX8_account_163 : decode cX8_account 163 = .ok (.iaload, 1) := by decide +kernel
theorem dX8_account_164 : decode cX8_account 164 = .ok (.ireturn, 1) := by decide +kernel
theorem dX8_account_167 : decode cX8_account 167 = .ok (.iload_n 3, 1) := by decide +kernel
theorem dX8_account_168 : decode cX8_account 168 = .ok (.aload_n 0, 1) := by decide +kernel
theorem dX8_account_169 : decode cX8_account 169 = .ok (.getfield 9, 3) := by decide +kernel
theorem dX8_account_172 : decode cX8_account 172 = .ok (.sipush 396, 3) := by decide +kernel
theorem dX8_account_175 : decode cX8_account 175 = .ok (.iaload, 1) := by decide +kernel
theorem dX8_account_176 : decode cX8_account 176 = .ok (.if_icmp .ge 33, 3) := by decide +kernel
theorem dX8_account_209 : decode cX8_account 209 = .ok (.iload_n 2, 1) := by decide +kernel
theorem dX8_account_210 : decode cX8_account 210 = .ok (.ireturn, 1) := by decide +kernel
theorem dX8_account_179 : decode cX8_account 179 = .ok (.iload_n 2, 1) := by decide +kernel
theorem dX8_account_180 : decode cX8_account 180 = .ok (.aload_n 0, 1) := by decide +kernel
theorem dX8_account_181 : decode cX8_account 181 = .ok (.getfield 9, 3) := by decide +kernel
theorem dX8_account_184 : decode cX8_account 184 = .ok (.sipush 397, 3) := by decide +kernel
theorem dX8_account_187 : decode cX8_account 187 = .ok (.iload_n 3, 1) := by decide +kernel
theorem dX8_account_188 : decode cX8_account 188 = .ok (.iadd, 1) := by decide +kernel
theorem dX8_account_189 : decode cX8_account 189 = .ok (.iaload, 1) := by decide +kernel
theorem dX8_account_190 : decode cX8_account 190 = .ok (.invokestatic 211, 3) := by decide +kernel
set_option maxRecDepth 20000 in
theorem ggX8_account_X8_isEarly : GoodIn wsX8_account wsX8_isEarly := goodIn_r _ [19] (by decide +kernel) (by decide +kernel)
set_option maxRecDepth 20000 in
theorem gX8_account_X8_isEarly : GoodIn wsX8_account (va_wsS RX8 211 yX8_isEarly wsX8_isEarly) := goodIn_app (goodIn_of _ (by decide +kernel)) ggX8_account_X8_isEarly
theorem dX8_account_193 : decode cX8_account 193 = .ok (.ifCond .eq 7, 3) := by decide +kernel
theorem dX8_account_200 : decode cX8_account 200 = .ok (.iconst 0, 1) := by decide +kernel
theorem dX8_account_201 : decode cX8_account 201 = .ok (.iadd, 1) := by decide +kernel
theorem dX8_account_202 : decode cX8_account 202 = .ok (.istore_n 2, 1) := by decide +kernel
theorem dX8_account_203 : decode cX8_account 203 = .ok (.iinc 3 1, 3) := by decide +kernel
theorem dX8_account_206 : decode cX8_account 206 = .ok (.goto (-39), 3) := by decide +kernel
theorem dX8_account_196 : decode cX8_account 196 = .ok (.iconst 1, 1) := by decide +kernel
theorem dX8_account_197 : decode cX8_account 197 = .ok (.goto 4, 3) := by decide +kernel
theorem dX8_account_165 : decode cX8_account 165 = .ok (.iconst 0, 1) := by decide +kernel
theorem dX8_account_166 : decode cX8_account 166 = .ok (.istore_n 3, 1) := by decide +kernel
theorem dX8_account_213 : decode cX8_account 213 = .ok (.iload_n 3, 1) := by decide +kernel
theorem dX8_account_214 : decode cX8_account 214 = .ok (.aload_n 0, 1) := by decide +kernel
theorem dX8_account_215 : decode cX8_account 215 = .ok (.getfield 9, 3) := by decide +kernel
theorem dX8_account_218 : decode cX8_account 218 = .ok (.sipush 396, 3) := by decide +kernel
theorem dX8_account_221 : decode cX8_account 221 = .ok (.iaload, 1) := by decide +kernel
theorem dX8_account_222 : decode cX8_account 222 = .ok (.if_icmp .ge 34, 3) := by decide +kernel
theorem dX8_account_256 : decode cX8_account 256 = .ok (.iload_n 2, 1) := by decide +kernel
theorem dX8_account_257 : decode cX8_account 257 = .ok (.ireturn, 1) := by decide +kernel
theorem dX8_account_225 : decode cX8_account 225 = .ok (.iload_n 2, 1) := by decide +kernel
theorem dX8_account_226 : decode cX8_account 226 = .ok (.aload_n 0, 1) := by decide +kernel
theorem dX8_account_227 : decode cX8_account 227 = .ok (.aload_n 0, 1) := by decide +kernel
theorem dX8_account_228 : decode cX8_account 228 = .ok (.getfield 9, 3) := by decide +kernel
theorem dX8_account_231 : decode cX8_account 231 = .ok (.sipush 397, 3) := by decide +kernel
theorem dX8_account_234 : decode cX8_account 234 = .ok (.iload_n 3, 1) := by decide +kernel
theorem dX8_account_235 : decode cX8_account 235 = .ok (.iadd, 1) := by decide +kernel
theorem dX8_account_236 : decode cX8_account 236 = .ok (.iaload, 1) := by decide +kernel
theorem dX8_account_237 : decode cX8_account 237 = .ok (.invokevirtual 264, 3) := by decide +kernel
set_option maxRecDepth 20000 in
theorem ggX8_account_X8_isLoose : GoodIn wsX8_account wsX8_isLoose := goodIn_ca (goodIn_r _ [23, 13, 14, 15, 6, 16, 1, 24, 25, 26, 27, 28, 29, 30, 31, 32, 17, 18, 19, 33, 34, 35, 36, 37, 38, 39, 40, 41, 42, 43, 44, 45, 46, 47, 48, 49, 50, 51, 52, 53, 54, 55, 56, 57, 58, 59, 60, 61, 62, 63] (by decide +kernel) (by decide +kernel)) (goodIn_sub (fun _ h => List.mem_cons_of_mem _ (List.mem_append_right _ h)) (by decide +kernel))
set_option maxRecDepth 20000 in
theorem gX8_account_X8_isLoose : GoodIn wsX8_account (wsV RX8 264 RX8 yX8_isLoose wsX8_isLoose) := goodIn_app (goodIn_of _ (by decide +kernel)) ggX8_account_X8_isLoose
theorem yY_X8_isLoose : jY yX8_isLoose wsX8_isLoose cX8_isLoose 3 (some .boolean) 1 := ⟨⟨_, rfl⟩, by decide +kernel, by decide +kernel, by decide +kernel⟩
theorem dX8_account_240 : decode cX8_account 240 = .ok (.ifCond .eq 7, 3) := by decide +kernel
theorem dX8_account_247 : decode cX8_account 247 = .ok (.iconst 0, 1) := by decide +kernel
theorem dX8_account_248 : decode cX8_account 248 = .ok (.iadd, 1) := by decide +kernel
theorem dX8_account_249 : decode cX8_account 249 = .ok (.istore_n 2, 1) := by decide +kernel
theorem dX8_account_250 : decode cX8_account 250 = .ok (.iinc 3 1, 3) := by decide +kernel
theorem dX8_account_253 : decode cX8_account 253 = .ok (.goto (-40), 3) := by decide +kernel
theorem dX8_account_243 : decode cX8_account 243 = .ok (.iconst 1, 1) := by decide +kernel
theorem dX8_account_244 : decode cX8_account 244 = .ok (.goto 4, 3) := by decide +kernel
theorem dX8_account_211 : decode cX8_account 211 = .ok (.iconst 0, 1) := by decide +kernel
theorem dX8_account_212 : decode cX8_account 212 = .ok (.istore_n 3, 1) := by decide +kernel
theorem dX8_account_260 : decode cX8_account 260 = .ok (.iload_n 3, 1) := by decide +kernel
theorem dX8_account_261 : decode cX8_account 261 = .ok (.bipush 12, 2) := by decide +kernel
theorem dX8_account_263 : decode cX8_account 263 = .ok (.if_icmp .ge 29, 3) := by decide +kernel
theorem dX8_account_292 : decode cX8_account 292 = .ok (.iload_n 2, 1) := by decide +kernel
theorem dX8_account_293 : decode cX8_account 293 = .ok (.ireturn, 1) := by decide +kernel
theorem dX8_account_266 : decode cX8_account 266 = .ok (.iload_n 2, 1) := by decide +kernel
theorem dX8_account_267 : decode cX8_account 267 = .ok (.aload_n 0, 1) := by decide +kernel
theorem dX8_account_268 : decode cX8_account 268 = .ok (.getfield 9, 3) := by decide +kernel
theorem dX8_account_271 : decode cX8_account 271 = .ok (.bipush 33, 2) := by decide +kernel
theorem dX8_account_273 : decode cX8_account 273 = .ok (.iload_n 3, 1) := by decide +kernel
theorem dX8_account_274 : decode cX8_account 274 = .ok (.imul, 1) := by decide +kernel
theorem dX8_account_275 : decode cX8_account 275 = .ok (.iaload, 1) := by decide +kernel
theorem dX8_account_276 : decode cX8_account 276 = .ok (.ifCond .ne 7, 3) := by decide +kernel
theorem dX8_account_283 : decode cX8_account 283 = .ok (.iconst 0, 1) := by decide +kernel
theorem dX8_account_284 : decode cX8_account 284 = .ok (.iadd, 1) := by decide +kernel
theorem dX8_account_285 : decode cX8_account 285 = .ok (.istore_n 2, 1) := by decide +kernel
theorem dX8_account_286 : decode cX8_account 286 = .ok (.iinc 3 1, 3) := by decide +kernel
theorem dX8_account_289 : decode cX8_account 289 = .ok (.goto (-29), 3) := by decide +kernel
theorem dX8_account_279 : decode cX8_account 279 = .ok (.iconst 1, 1) := by decide +kernel
theorem dX8_account_280 : decode cX8_account 280 = .ok (.goto 4, 3) := by decide +kernel
theorem dX8_account_258 : decode cX8_account 258 = .ok (.iconst 0, 1) := by decide +kernel
theorem dX8_account_259 : decode cX8_account 259 = .ok (.istore_n 3, 1) := by decide +kernel
theorem dX8_account_294 : decode cX8_account 294 = .ok (.aload_n 0, 1) := by decide +kernel
theorem dX8_account_295 : decode cX8_account 295 = .ok (.getfield 84, 3) := by decide +kernel
theorem dX8_account_298 : decode cX8_account 298 = .ok (.ireturn, 1) := by decide +kernel
set_option maxHeartbeats 400000 in
set_option maxRecDepth 20000 in
theorem ct_X8_account (l : Launch) (D : va_G) (dA : Nat → ClassId) (hst : l.stackTraces = false) (M : jM) (m : Nat) (A : cA) (hA : mAb M m A) (hW : zWf (cNw A))(y : Int32) : jCT l D dA yX8_account wsX8_account (24) (540) (0) (0) 1 [.ref (m), .int (y)] M (mRl M m [xIAE] (oAc A y) A) := by
  refine jBody (cc := cX8_account) (nL := 4) (rt := (some .int)) (ini := false) (by decide) rfl hst (Nat.le_of_ble_eq_true rfl) (by simp [Value.category]) (by intro h9; first | exact absurd h9 (by decide) | rfl) ?_
  show J l D dA RX8 cX8_account wsX8_account 4 false (some .int) [] (24) (540) (jF D dA (jn M) (mRl M m [xIAE] (oAc A y) A) 1) (jn M) (0) (0) (M) 0 [.ref (m), .int (y), .float 0, .float 0] []
  obtain ⟨hM, hz, ⟨hKn, hK8, hKs⟩, ⟨hHs, hHz⟩, ⟨hLn, hL6, hLc⟩, hFl, ⟨hRs, hRp⟩, hCh⟩ := id hA
  obtain ⟨m1, m2, ⟨r1, r2, r3, r4, r5, r6, r7, r8, r9, r10, r11, r12, r13⟩, ⟨k1, k2, k3, k4, k5, k6, k7, k8, k9, k10, k11, k12, k13⟩, z1, z2, z3, z4, z5, z6, z7, z8, z9, z10, z11, z12, z13⟩ := id hM
  have hc30 := hz.2.2.1
  refine J_aload_n (m) dX8_account_0 rfl rfl ?_
  refine J_iload_n dX8_account_1 rfl rfl ?_
  refine J_if_lt dX8_account_2 (tgt := 11) (by decide) (fun c2 => ?_) (fun c2 => ?_)
  · refine J_iconst (x := 1) dX8_account_11 (by decide) ?_
    refine J_goto (tgt := 16) dX8_account_12 (by decide) ?_
    refine J_calli0 (jrunV (As := [.int (1)]) (ct_X8_fails l D dA hst M m hM ((1))) dX8_account_16 yY_X8_fails gX8_account_X8_fails rfl cs11 (show m < jn M from by omega) m2 rfl ⟨by omega, by omega⟩ ⟨Nat.zero_le _, Nat.zero_le _⟩ rfl (Nat.le_of_ble_eq_true rfl)) (rfl) (rfl) ?_
    refine J_if_eq dX8_account_19 (tgt := 24) (by decide) (fun c19 => ?_) (fun c19 => ?_)
    · exact absurd c19 (by decide)
    · have c19 := jeqF (a := 1) (b := 0) (by omega) (by omega) c19
      refine J_iconst (x := 0) dX8_account_22 (by decide) ?_
      exact J_iret (ty := .int) dX8_account_23 rfl (rfl) (by refine ⟨?_, (hA).si rfl, (mFr.rf).si ⟨by omega, by omega⟩, _, rfl⟩; simp only [ji_Si, and_self, if_true, reduceIte, reduceCtorEq, and_false, if_false, Nat.reduceEqDiff]; first | exact mAg.x 0 xIAE rfl (by decide) rfl (by exact oAc_x (by first | exact Or.inl c2 | exact Or.inr (Int32.not_le.mp c8) | exact Or.inr c8)) | fail "rl")
  · refine J_iload_n dX8_account_5 rfl rfl ?_
    refine J_bipush (x := 7) dX8_account_6 (by decide) ?_
    refine J_icmp_le dX8_account_8 (tgt := 15) (by decide) (fun c8 => ?_) (fun c8 => ?_)
    · refine J_iconst (x := 0) dX8_account_15 (by decide) ?_
      refine J_calli0 (jrunV (As := [.int (0)]) (ct_X8_fails l D dA hst M m hM ((0))) dX8_account_16 yY_X8_fails gX8_account_X8_fails rfl cs11 (show m < jn M from by omega) m2 rfl ⟨by omega, by omega⟩ ⟨Nat.zero_le _, Nat.zero_le _⟩ rfl (Nat.le_of_ble_eq_true rfl)) (rfl) (rfl) ?_
      refine J_if_eq dX8_account_19 (tgt := 24) (by decide) (fun c19 => ?_) (fun c19 => ?_)
      · have c19 := jeqT (a := 0) (b := 0) (by omega) (by omega) c19
        obtain ⟨q, hq7, rfl⟩ := nI_of2 (n := 7) (by decide) c2 c8
        rcases (show q = 0 ∨ q = 1 ∨ q = 2 ∨ q = 3 ∨ q = 4 ∨ q = 5 ∨ q = 6 ∨ q = 7 from by omega) with rfl | rfl | rfl | rfl | rfl | rfl | rfl | rfl
        · refine J_iconst (x := 0) dX8_account_24 (by decide) ?_
          refine J_istore_n (lv' := [.ref (m), .int (nI (0)), .int (0), .float 0]) dX8_account_25 rfl (by decide) rfl rfl ?_
          refine J_iload_n dX8_account_26 rfl rfl ?_
          refine J_tableIn (off := 41) (tgt := 68) dX8_account_27 (by decide) (by decide) (by rfl) (by decide) ?_
          refine J_aload_n (m) dX8_account_68 rfl rfl ?_
          refine J_calli0 (jrunV (As := []) (ct_X8_full l D dA hst (jSi M m 11 ((0))) m hM (cNw A) (hz.si (by omega))) dX8_account_69 yY_X8_full gX8_account_X8_full rfl cs11 (show m < jn M from by omega) m2 rfl ⟨by omega, by omega⟩ ⟨Nat.zero_le _, Nat.zero_le _⟩ rfl (Nat.le_of_ble_eq_true rfl)) (rfl) (rfl) ?_
          exact J_iret (ty := .int) dX8_account_72 rfl (rfl) (by refine ⟨Or.inl ⟨?_, ?_⟩, (hA).si rfl, (mFr.rf).si ⟨by omega, by omega⟩, _, rfl⟩; (simp only [ji_Si, and_self, if_true, reduceIte, reduceCtorEq, and_false, if_false, Nat.reduceEqDiff]); (rw [oAc_0]))
        · refine J_iconst (x := 0) dX8_account_24 (by decide) ?_
          refine J_istore_n (lv' := [.ref (m), .int (nI (1)), .int (0), .float 0]) dX8_account_25 rfl (by decide) rfl rfl ?_
          refine J_iload_n dX8_account_26 rfl rfl ?_
          refine J_tableIn (off := 46) (tgt := 73) dX8_account_27 (by decide) (by decide) (by rfl) (by decide) ?_
          have L75 : ∀ (fuel : Nat) (j : Nat) (hj : j ≤ 12), 12 - j < fuel → J l D dA RX8 cX8_account wsX8_account 4 false (some .int) [] (24) (540) (jF D dA (jn M) (mRl M m [xIAE] (oAc A (nI 1)) A) 1) (jn M) (0) (0) ((jSi M m 11 (0))) 75 [.ref (m), .int (nI (1)), .int (nI (jsum (slK (cNw A)) j)), .int (nI (j))] [] := by
            intro fuel
            induction fuel with
            | zero => intro j hj hm; exact absurd hm (Nat.not_lt_zero _)
            | succ fuel ih75 =>
              intro j hj hm75
              refine J_iload_n dX8_account_75 rfl rfl ?_
              refine J_bipush (x := 12) dX8_account_76 (by decide) ?_
              refine J_icmp_ge dX8_account_78 (tgt := 111) (by decide) (fun c78 => ?_) (fun c78 => ?_)
              · have c78 := jleT (a := 12) (b := j) (by omega) (by omega) c78
                refine J_iload_n dX8_account_111 rfl rfl ?_
                exact J_iret (ty := .int) dX8_account_112 rfl (rfl) (by refine ⟨Or.inl ⟨?_, ?_⟩, (hA).si rfl, (mFr.rf).si ⟨by omega, by omega⟩, _, rfl⟩; (simp only [ji_Si, and_self, if_true, reduceIte, reduceCtorEq, and_false, if_false, Nat.reduceEqDiff]); (obtain rfl : j = 12 := (by omega); rw [oAc_1]))
              · have c78 := jleF (a := 12) (b := j) (by omega) (by omega) c78
                have hk : j < 12 := by omega
                refine J_iload_n dX8_account_81 rfl rfl ?_
                refine J_aload_n (m) dX8_account_82 rfl rfl ?_
                refine J_iload_n dX8_account_83 rfl rfl ?_
                refine J_calli0 (jrunV (As := [.int (nI (j))]) (ct_X8_isEmpty l D dA hst ((jSi M m 11 (0))) m hM j hk ((cNw A).1 j) (((hz.at0 hk)).si (by omega))) dX8_account_84 yY_X8_isEmpty gX8_account_X8_isEmpty rfl cs11 (show m < jn M from by omega) m2 rfl ⟨by omega, by omega⟩ ⟨Nat.zero_le _, Nat.zero_le _⟩ rfl (Nat.le_of_ble_eq_true rfl)) (rfl) (rfl) ?_
                refine J_if_eq dX8_account_87 (tgt := 94) (by decide) (fun c87 => ?_) (fun c87 => ?_)
                · have c87 := jb0T c87
                  obtain ⟨w, hw9⟩ := some_of c87
                  have hx := hz.at0 hk
                  rw [hw9] at hx
                  refine J_aload_n (m) dX8_account_94 rfl rfl ?_
                  refine J_getrs (q := m + 1) r1 dX8_account_95 (fun _ h => List.mem_cons_of_mem _ (List.mem_append_left _ (List.mem_append_right _ (h)))) cs11 (by decide) rfl (List.mem_of_getElem? (i := 1) rfl) rfl (show m < jn M from by omega) m2 ?_
                  refine J_bipush (x := 33) dX8_account_98 (by decide) ?_
                  refine J_iload_n dX8_account_100 rfl rfl ?_
                  refine J_imul dX8_account_101 ?_
                  refine J_topi (y := nI (33 * j)) (pk_mul (33) (j)) ?_
                  refine J_ialdN (k := 33 * j) dX8_account_102 (show m + 1 < jn M from by omega) k1 (by exact Nat.lt_of_lt_of_eq (show _ < 427 by omega) (Eq.symm z1)) (by exact Nat.lt_of_le_of_lt (Nat.le_of_eq z1) (show 427 < 2 ^ 31 by omega)) ?_
                  refine J_topi (y := nI (w.1)) (by rw [ji_Sin (by omega)]; exact hx.hd) ?_
                  refine J_iadd dX8_account_103 ?_
                  refine J_topi (y := nI (jsum (slK (cNw A)) j + w.1)) (nI_add (jsum (slK (cNw A)) j) (w.1)) ?_
                  refine J_topi (y := nI (jsum (slK (cNw A)) (j + 1))) (by show nI _ = nI (jsum _ j + slK _ j); rw [slK_s hw9]) ?_
                  refine J_istore_n (lv' := [.ref (m), .int (nI (1)), .int (nI (jsum (slK (cNw A)) (j + 1))), .int (nI (j))]) dX8_account_104 rfl (by decide) rfl rfl ?_
                  refine J_iinc (y := nI (j + 1)) (lv' := [.ref (m), .int (nI (1)), .int (nI (jsum (slK (cNw A)) (j + 1))), .int (nI (j + 1))]) dX8_account_105 rfl (jinc (j)) (by decide) rfl rfl ?_
                  refine J_goto (tgt := 75) dX8_account_108 (by decide) ?_
                  exact ih75 (j + 1) (by omega) (by omega)
                · have c87 := jb0F c87
                  refine J_iconst (x := 0) dX8_account_90 (by decide) ?_
                  refine J_goto (tgt := 103) dX8_account_91 (by decide) ?_
                  refine J_iadd dX8_account_103 ?_
                  refine J_topi (y := nI (jsum (slK (cNw A)) j + 0)) (nI_add (jsum (slK (cNw A)) j) (0)) ?_
                  refine J_topi (y := nI (jsum (slK (cNw A)) (j + 1))) (by show nI _ = nI (jsum _ j + slK _ j); rw [slK_n c87]) ?_
                  refine J_istore_n (lv' := [.ref (m), .int (nI (1)), .int (nI (jsum (slK (cNw A)) (j + 1))), .int (nI (j))]) dX8_account_104 rfl (by decide) rfl rfl ?_
                  refine J_iinc (y := nI (j + 1)) (lv' := [.ref (m), .int (nI (1)), .int (nI (jsum (slK (cNw A)) (j + 1))), .int (nI (j + 1))]) dX8_account_105 rfl (jinc (j)) (by decide) rfl rfl ?_
                  refine J_goto (tgt := 75) dX8_account_108 (by decide) ?_
                  exact ih75 (j + 1) (by omega) (by omega)
          refine J_iconst (x := 0) dX8_account_73 (by decide) ?_
          refine J_istore_n (lv' := [.ref (m), .int (nI (1)), .int (0), .int (0)]) dX8_account_74 rfl (by decide) rfl rfl ?_
          exact L75 _ (0) (by omega) (Nat.lt_succ_self _)
        · refine J_iconst (x := 0) dX8_account_24 (by decide) ?_
          refine J_istore_n (lv' := [.ref (m), .int (nI (2)), .int (0), .float 0]) dX8_account_25 rfl (by decide) rfl rfl ?_
          refine J_iload_n dX8_account_26 rfl rfl ?_
          refine J_tableIn (off := 86) (tgt := 113) dX8_account_27 (by decide) (by decide) (by rfl) (by decide) ?_
          have L115 : ∀ (fuel : Nat) (j : Nat) (hj : j ≤ 12), 12 - j < fuel → J l D dA RX8 cX8_account wsX8_account 4 false (some .int) [] (24) (540) (jF D dA (jn M) (mRl M m [xIAE] (oAc A (nI 2)) A) 1) (jn M) (0) (0) ((jSi M m 11 (0))) 115 [.ref (m), .int (nI (2)), .int (nI (jmax (slK (cNw A)) j)), .int (nI (j))] [] := by
            intro fuel
            induction fuel with
            | zero => intro j hj hm; exact absurd hm (Nat.not_lt_zero _)
            | succ fuel ih115 =>
              intro j hj hm115
              have hmx := jmax_le16 hz j hj
              refine J_iload_n dX8_account_115 rfl rfl ?_
              refine J_bipush (x := 12) dX8_account_116 (by decide) ?_
              refine J_icmp_ge dX8_account_118 (tgt := 154) (by decide) (fun c118 => ?_) (fun c118 => ?_)
              · have c118 := jleT (a := 12) (b := j) (by omega) (by omega) c118
                refine J_iload_n dX8_account_154 rfl rfl ?_
                exact J_iret (ty := .int) dX8_account_155 rfl (rfl) (by refine ⟨Or.inl ⟨?_, ?_⟩, (hA).si rfl, (mFr.rf).si ⟨by omega, by omega⟩, _, rfl⟩; (simp only [ji_Si, and_self, if_true, reduceIte, reduceCtorEq, and_false, if_false, Nat.reduceEqDiff]); (obtain rfl : j = 12 := (by omega); rw [oAc_2]))
              · have c118 := jleF (a := 12) (b := j) (by omega) (by omega) c118
                have hk : j < 12 := by omega
                refine J_aload_n (m) dX8_account_121 rfl rfl ?_
                refine J_getrs (q := m + 1) r1 dX8_account_122 (fun _ h => List.mem_cons_of_mem _ (List.mem_append_left _ (List.mem_append_right _ (h)))) cs11 (by decide) rfl (List.mem_of_getElem? (i := 1) rfl) rfl (show m < jn M from by omega) m2 ?_
                refine J_bipush (x := 33) dX8_account_125 (by decide) ?_
                refine J_iload_n dX8_account_127 rfl rfl ?_
                refine J_imul dX8_account_128 ?_
                refine J_topi (y := nI (33 * j)) (pk_mul (33) (j)) ?_
                refine J_ialdN (k := 33 * j) dX8_account_129 (show m + 1 < jn M from by omega) k1 (by exact Nat.lt_of_lt_of_eq (show _ < 427 by omega) (Eq.symm z1)) (by exact Nat.lt_of_le_of_lt (Nat.le_of_eq z1) (show 427 < 2 ^ 31 by omega)) ?_
                rcases hzj : (cNw A).1 j with _ | w
                · have hxj := hz.at0 hk
                  rw [hzj] at hxj
                  refine J_topi (y := (-1)) (by rw [ji_Sin (by omega)]; exact hxj) ?_
                  refine J_iload_n dX8_account_130 rfl rfl ?_
                  refine J_icmp_le dX8_account_131 (tgt := 146) (by decide) (fun c131 => ?_) (fun c131 => ?_)
                  · refine J_iload_n dX8_account_146 rfl rfl ?_
                    refine J_topi (y := nI (jmax (slK (cNw A)) (j + 1))) (by show nI _ = nI (max (jmax _ j) (slK _ j)); rw [slK_n (by rw [hzj]; rfl)]; exact congrArg nI (by omega)) ?_
                    refine J_istore_n (lv' := [.ref (m), .int (nI (2)), .int (nI (jmax (slK (cNw A)) (j + 1))), .int (nI (j))]) dX8_account_147 rfl (by decide) rfl rfl ?_
                    refine J_iinc (y := nI (j + 1)) (lv' := [.ref (m), .int (nI (2)), .int (nI (jmax (slK (cNw A)) (j + 1))), .int (nI (j + 1))]) dX8_account_148 rfl (jinc (j)) (by decide) rfl rfl ?_
                    refine J_goto (tgt := 115) dX8_account_151 (by decide) ?_
                    exact ih115 (j + 1) (by omega) (by omega)
                  · exact absurd (Int32.le_trans (show (-1 : Int32) ≤ 0 by decide) (nI_pos' (by omega))) c131
                · have hxj := hz.at0 hk
                  rw [hzj] at hxj
                  have h16 := hxj.2.1
                  refine J_topi (y := nI (w.1)) (by rw [ji_Sin (by omega)]; exact hxj.hd) ?_
                  refine J_iload_n dX8_account_130 rfl rfl ?_
                  refine J_icmp_le dX8_account_131 (tgt := 146) (by decide) (fun c131 => ?_) (fun c131 => ?_)
                  · have c131 := jleT (a := w.1) (b := jmax (slK (cNw A)) j) (by omega) (by omega) c131
                    refine J_iload_n dX8_account_146 rfl rfl ?_
                    refine J_topi (y := nI (jmax (slK (cNw A)) (j + 1))) (by show nI _ = nI (max (jmax _ j) (slK _ j)); rw [slK_s hzj]; exact congrArg nI (by omega)) ?_
                    refine J_istore_n (lv' := [.ref (m), .int (nI (2)), .int (nI (jmax (slK (cNw A)) (j + 1))), .int (nI (j))]) dX8_account_147 rfl (by decide) rfl rfl ?_
                    refine J_iinc (y := nI (j + 1)) (lv' := [.ref (m), .int (nI (2)), .int (nI (jmax (slK (cNw A)) (j + 1))), .int (nI (j + 1))]) dX8_account_148 rfl (jinc (j)) (by decide) rfl rfl ?_
                    refine J_goto (tgt := 115) dX8_account_151 (by decide) ?_
                    exact ih115 (j + 1) (by omega) (by omega)
                  · have c131 := jleF (a := w.1) (b := jmax (slK (cNw A)) j) (by omega) (by omega) c131
                    refine J_aload_n (m) dX8_account_134 rfl rfl ?_
                    refine J_getrs (q := m + 1) r1 dX8_account_135 (fun _ h => List.mem_cons_of_mem _ (List.mem_append_left _ (List.mem_append_right _ (h)))) cs11 (by decide) rfl (List.mem_of_getElem? (i := 1) rfl) rfl (show m < jn M from by omega) m2 ?_
                    refine J_bipush (x := 33) dX8_account_138 (by decide) ?_
                    refine J_iload_n dX8_account_140 rfl rfl ?_
                    refine J_imul dX8_account_141 ?_
                    refine J_topi (y := nI (33 * j)) (pk_mul (33) (j)) ?_
                    refine J_ialdN (k := 33 * j) dX8_account_142 (show m + 1 < jn M from by omega) k1 (by exact Nat.lt_of_lt_of_eq (show _ < 427 by omega) (Eq.symm z1)) (by exact Nat.lt_of_le_of_lt (Nat.le_of_eq z1) (show 427 < 2 ^ 31 by omega)) ?_
                    refine J_topi (y := nI (w.1)) (by rw [ji_Sin (by omega)]; exact hxj.hd) ?_
                    refine J_goto (tgt := 147) dX8_account_143 (by decide) ?_
                    refine J_topi (y := nI (jmax (slK (cNw A)) (j + 1))) (by show nI _ = nI (max (jmax _ j) (slK _ j)); rw [slK_s hzj]; exact congrArg nI (by omega)) ?_
                    refine J_istore_n (lv' := [.ref (m), .int (nI (2)), .int (nI (jmax (slK (cNw A)) (j + 1))), .int (nI (j))]) dX8_account_147 rfl (by decide) rfl rfl ?_
                    refine J_iinc (y := nI (j + 1)) (lv' := [.ref (m), .int (nI (2)), .int (nI (jmax (slK (cNw A)) (j + 1))), .int (nI (j + 1))]) dX8_account_148 rfl (jinc (j)) (by decide) rfl rfl ?_
                    refine J_goto (tgt := 115) dX8_account_151 (by decide) ?_
                    exact ih115 (j + 1) (by omega) (by omega)
          refine J_iconst (x := 0) dX8_account_113 (by decide) ?_
          refine J_istore_n (lv' := [.ref (m), .int (nI (2)), .int (0), .int (0)]) dX8_account_114 rfl (by decide) rfl rfl ?_
          exact L115 _ (0) (by omega) (Nat.lt_succ_self _)
        · refine J_iconst (x := 0) dX8_account_24 (by decide) ?_
          refine J_istore_n (lv' := [.ref (m), .int (nI (3)), .int (0), .float 0]) dX8_account_25 rfl (by decide) rfl rfl ?_
          refine J_iload_n dX8_account_26 rfl rfl ?_
          refine J_tableIn (off := 129) (tgt := 156) dX8_account_27 (by decide) (by decide) (by rfl) (by decide) ?_
          refine J_aload_n (m) dX8_account_156 rfl rfl ?_
          refine J_getrs (q := m + 1) r1 dX8_account_157 (fun _ h => List.mem_cons_of_mem _ (List.mem_append_left _ (List.mem_append_right _ (h)))) cs11 (by decide) rfl (List.mem_of_getElem? (i := 1) rfl) rfl (show m < jn M from by omega) m2 ?_
          refine J_sipush (x := 396) dX8_account_160 (by decide) ?_
          refine J_ialdN (k := 396) dX8_account_163 (show m + 1 < jn M from by omega) k1 (by exact Nat.lt_of_lt_of_eq (show _ < 427 by omega) (Eq.symm z1)) (by exact Nat.lt_of_le_of_lt (Nat.le_of_eq z1) (show 427 < 2 ^ 31 by omega)) ?_
          refine J_topi (y := nI ((cNw A).2.1)) (by rw [ji_Sin (by omega)]; exact hz.2.1) ?_
          exact J_iret (ty := .int) dX8_account_164 rfl (rfl) (by refine ⟨Or.inl ⟨?_, ?_⟩, (hA).si rfl, (mFr.rf).si ⟨by omega, by omega⟩, _, rfl⟩; (simp only [ji_Si, and_self, if_true, reduceIte, reduceCtorEq, and_false, if_false, Nat.reduceEqDiff]); (rw [oAc_3]))
        · refine J_iconst (x := 0) dX8_account_24 (by decide) ?_
          refine J_istore_n (lv' := [.ref (m), .int (nI (4)), .int (0), .float 0]) dX8_account_25 rfl (by decide) rfl rfl ?_
          refine J_iload_n dX8_account_26 rfl rfl ?_
          refine J_tableIn (off := 138) (tgt := 165) dX8_account_27 (by decide) (by decide) (by rfl) (by decide) ?_
          have L167 : ∀ (fuel : Nat) (j : Nat) (hj : j ≤ (cNw A).2.1), (cNw A).2.1 - j < fuel → J l D dA RX8 cX8_account wsX8_account 4 false (some .int) [] (24) (540) (jF D dA (jn M) (mRl M m [xIAE] (oAc A (nI 4)) A) 1) (jn M) (0) (0) ((jSi M m 11 (0))) 167 [.ref (m), .int (nI (4)), .int (nI (jcnt (fun p => vPre ((cNw A).2.2 p)) j)), .int (nI (j))] [] := by
            intro fuel
            induction fuel with
            | zero => intro j hj hm; exact absurd hm (Nat.not_lt_zero _)
            | succ fuel ih167 =>
              intro j hj hm167
              refine J_iload_n dX8_account_167 rfl rfl ?_
              refine J_aload_n (m) dX8_account_168 rfl rfl ?_
              refine J_getrs (q := m + 1) r1 dX8_account_169 (fun _ h => List.mem_cons_of_mem _ (List.mem_append_left _ (List.mem_append_right _ (h)))) cs11 (by decide) rfl (List.mem_of_getElem? (i := 1) rfl) rfl (show m < jn M from by omega) m2 ?_
              refine J_sipush (x := 396) dX8_account_172 (by decide) ?_
              refine J_ialdN (k := 396) dX8_account_175 (show m + 1 < jn M from by omega) k1 (by exact Nat.lt_of_lt_of_eq (show _ < 427 by omega) (Eq.symm z1)) (by exact Nat.lt_of_le_of_lt (Nat.le_of_eq z1) (show 427 < 2 ^ 31 by omega)) ?_
              refine J_topi (y := nI ((cNw A).2.1)) (by rw [ji_Sin (by omega)]; exact hz.2.1) ?_
              refine J_icmp_ge dX8_account_176 (tgt := 209) (by decide) (fun c176 => ?_) (fun c176 => ?_)
              · have c176 := jleT (a := (cNw A).2.1) (b := j) (by omega) (by omega) c176
                refine J_iload_n dX8_account_209 rfl rfl ?_
                exact J_iret (ty := .int) dX8_account_210 rfl (rfl) (by refine ⟨Or.inl ⟨?_, ?_⟩, (hA).si rfl, (mFr.rf).si ⟨by omega, by omega⟩, _, rfl⟩; (simp only [ji_Si, and_self, if_true, reduceIte, reduceCtorEq, and_false, if_false, Nat.reduceEqDiff]); (obtain rfl : j = (cNw A).2.1 := (by omega); rw [oAc_4]))
              · have c176 := jleF (a := (cNw A).2.1) (b := j) (by omega) (by omega) c176
                refine J_iload_n dX8_account_179 rfl rfl ?_
                refine J_aload_n (m) dX8_account_180 rfl rfl ?_
                refine J_getrs (q := m + 1) r1 dX8_account_181 (fun _ h => List.mem_cons_of_mem _ (List.mem_append_left _ (List.mem_append_right _ (h)))) cs11 (by decide) rfl (List.mem_of_getElem? (i := 1) rfl) rfl (show m < jn M from by omega) m2 ?_
                refine J_sipush (x := 397) dX8_account_184 (by decide) ?_
                refine J_iload_n dX8_account_187 rfl rfl ?_
                refine J_iadd dX8_account_188 ?_
                refine J_topi (y := nI (397 + j)) (nI_add (397) (j)) ?_
                refine J_ialdN (k := 397 + j) dX8_account_189 (show m + 1 < jn M from by omega) k1 (by exact Nat.lt_of_lt_of_eq (show _ < 427 by omega) (Eq.symm z1)) (by exact Nat.lt_of_le_of_lt (Nat.le_of_eq z1) (show 427 < 2 ^ 31 by omega)) ?_
                refine J_topi (y := ((cNw A).2.2 j)) (by rw [ji_Sin (by omega)]; exact hz.2.2.2 j (by omega)) ?_
                refine J_calli0 (jrunS (As := [.int ((cNw A).2.2 j)]) (ct_X8_isEarly l D dA hst ((jSi M m 11 (0))) (((cNw A).2.2 j))) dX8_account_190 yY_X8_isEarly gX8_account_X8_isEarly rfl ⟨by omega, by omega⟩ ⟨Nat.zero_le _, Nat.zero_le _⟩ rfl (Nat.le_of_ble_eq_true rfl)) (rfl) (rfl) ?_
                refine J_if_eq dX8_account_193 (tgt := 200) (by decide) (fun c193 => ?_) (fun c193 => ?_)
                · have c193 := jb0T c193
                  refine J_iconst (x := 0) dX8_account_200 (by decide) ?_
                  refine J_iadd dX8_account_201 ?_
                  refine J_topi (y := nI (jcnt (fun p => vPre ((cNw A).2.2 p)) j + 0)) (nI_add (jcnt (fun p => vPre ((cNw A).2.2 p)) j) (0)) ?_
                  refine J_topi (y := nI (jcnt (fun p => vPre ((cNw A).2.2 p)) (j + 1))) (by rw [jcnt_s]; first | (rw [if_pos c193]; done) | (rw [if_neg (by rw [c193]; decide)]; done) | (rw [if_pos c193]; rfl) | (rw [if_neg (by rw [c193]; decide)]; rfl)) ?_
                  refine J_istore_n (lv' := [.ref (m), .int (nI (4)), .int (nI (jcnt (fun p => vPre ((cNw A).2.2 p)) (j + 1))), .int (nI (j))]) dX8_account_202 rfl (by decide) rfl rfl ?_
                  refine J_iinc (y := nI (j + 1)) (lv' := [.ref (m), .int (nI (4)), .int (nI (jcnt (fun p => vPre ((cNw A).2.2 p)) (j + 1))), .int (nI (j + 1))]) dX8_account_203 rfl (jinc (j)) (by decide) rfl rfl ?_
                  refine J_goto (tgt := 167) dX8_account_206 (by decide) ?_
                  exact ih167 (j + 1) (by omega) (by omega)
                · have c193 := jb0F c193
                  refine J_iconst (x := 1) dX8_account_196 (by decide) ?_
                  refine J_goto (tgt := 201) dX8_account_197 (by decide) ?_
                  refine J_iadd dX8_account_201 ?_
                  refine J_topi (y := nI (jcnt (fun p => vPre ((cNw A).2.2 p)) j + 1)) (nI_add (jcnt (fun p => vPre ((cNw A).2.2 p)) j) (1)) ?_
                  refine J_topi (y := nI (jcnt (fun p => vPre ((cNw A).2.2 p)) (j + 1))) (by rw [jcnt_s]; first | (rw [if_pos c193]; done) | (rw [if_neg (by rw [c193]; decide)]; done) | (rw [if_pos c193]; rfl) | (rw [if_neg (by rw [c193]; decide)]; rfl)) ?_
                  refine J_istore_n (lv' := [.ref (m), .int (nI (4)), .int (nI (jcnt (fun p => vPre ((cNw A).2.2 p)) (j + 1))), .int (nI (j))]) dX8_account_202 rfl (by decide) rfl rfl ?_
                  refine J_iinc (y := nI (j + 1)) (lv' := [.ref (m), .int (nI (4)), .int (nI (jcnt (fun p => vPre ((cNw A).2.2 p)) (j + 1))), .int (nI (j + 1))]) dX8_account_203 rfl (jinc (j)) (by decide) rfl rfl ?_
                  refine J_goto (tgt := 167) dX8_account_206 (by decide) ?_
                  exact ih167 (j + 1) (by omega) (by omega)
          refine J_iconst (x := 0) dX8_account_165 (by decide) ?_
          refine J_istore_n (lv' := [.ref (m), .int (nI (4)), .int (0), .int (0)]) dX8_account_166 rfl (by decide) rfl rfl ?_
          exact L167 _ (0) (by omega) (Nat.lt_succ_self _)
        · refine J_iconst (x := 0) dX8_account_24 (by decide) ?_
          refine J_istore_n (lv' := [.ref (m), .int (nI (5)), .int (0), .float 0]) dX8_account_25 rfl (by decide) rfl rfl ?_
          refine J_iload_n dX8_account_26 rfl rfl ?_
          refine J_tableIn (off := 184) (tgt := 211) dX8_account_27 (by decide) (by decide) (by rfl) (by decide) ?_
          refine J_mem (M' := jSi (jSi M m 11 (0)) m 14 (ji M m 14)) (by exact (jSi_self (ji_Sik (by decide))).symm) ?_
          have L213 : ∀ (fuel : Nat) (j : Nat) (y9 : Int32) (hj : j ≤ (cNw A).2.1), (cNw A).2.1 - j < fuel → J l D dA RX8 cX8_account wsX8_account 4 false (some .int) [] (24) (540) (jF D dA (jn M) (mRl M m [xIAE] (oAc A (nI 5)) A) 1) (jn M) (0) (0) ((jSi (jSi M m 11 (0)) m 14 y9)) 213 [.ref (m), .int (nI (5)), .int (nI (jcnt (fun p => !cIn (cNw A) ((cNw A).2.2 p)) j)), .int (nI (j))] [] := by
            intro fuel
            induction fuel with
            | zero => intro j y9 hj hm; exact absurd hm (Nat.not_lt_zero _)
            | succ fuel ih213 =>
              intro j y9 hj hm213
              refine J_iload_n dX8_account_213 rfl rfl ?_
              refine J_aload_n (m) dX8_account_214 rfl rfl ?_
              refine J_getrs (q := m + 1) r1 dX8_account_215 (fun _ h => List.mem_cons_of_mem _ (List.mem_append_left _ (List.mem_append_right _ (h)))) cs11 (by decide) rfl (List.mem_of_getElem? (i := 1) rfl) rfl (show m < jn M from by omega) m2 ?_
              refine J_sipush (x := 396) dX8_account_218 (by decide) ?_
              refine J_ialdN (k := 396) dX8_account_221 (show m + 1 < jn M from by omega) k1 (by exact Nat.lt_of_lt_of_eq (show _ < 427 by omega) (Eq.symm z1)) (by exact Nat.lt_of_le_of_lt (Nat.le_of_eq z1) (show 427 < 2 ^ 31 by omega)) ?_
              refine J_topi (y := nI ((cNw A).2.1)) (by rw [ji_Sin (by omega), ji_Sin (by omega)]; exact hz.2.1) ?_
              refine J_icmp_ge dX8_account_222 (tgt := 256) (by decide) (fun c222 => ?_) (fun c222 => ?_)
              · have c222 := jleT (a := (cNw A).2.1) (b := j) (by omega) (by omega) c222
                refine J_iload_n dX8_account_256 rfl rfl ?_
                exact J_iret (ty := .int) dX8_account_257 rfl (rfl) (by refine ⟨Or.inl ⟨?_, ?_⟩, ((hA).si rfl).si rfl, ((mFr.rf).si ⟨by omega, by omega⟩).si ⟨by omega, by omega⟩, _, rfl⟩; (simp only [ji_Si, and_self, if_true, reduceIte, reduceCtorEq, and_false, if_false, Nat.reduceEqDiff]); (obtain rfl : j = (cNw A).2.1 := (by omega); rw [oAc_5]))
              · have c222 := jleF (a := (cNw A).2.1) (b := j) (by omega) (by omega) c222
                refine J_iload_n dX8_account_225 rfl rfl ?_
                refine J_aload_n (m) dX8_account_226 rfl rfl ?_
                refine J_aload_n (m) dX8_account_227 rfl rfl ?_
                refine J_getrs (q := m + 1) r1 dX8_account_228 (fun _ h => List.mem_cons_of_mem _ (List.mem_append_left _ (List.mem_append_right _ (h)))) cs11 (by decide) rfl (List.mem_of_getElem? (i := 1) rfl) rfl (show m < jn M from by omega) m2 ?_
                refine J_sipush (x := 397) dX8_account_231 (by decide) ?_
                refine J_iload_n dX8_account_234 rfl rfl ?_
                refine J_iadd dX8_account_235 ?_
                refine J_topi (y := nI (397 + j)) (nI_add (397) (j)) ?_
                refine J_ialdN (k := 397 + j) dX8_account_236 (show m + 1 < jn M from by omega) k1 (by exact Nat.lt_of_lt_of_eq (show _ < 427 by omega) (Eq.symm z1)) (by exact Nat.lt_of_le_of_lt (Nat.le_of_eq z1) (show 427 < 2 ^ 31 by omega)) ?_
                refine J_topi (y := ((cNw A).2.2 j)) (by rw [ji_Sin (by omega), ji_Sin (by omega)]; exact hz.2.2.2 j (by omega)) ?_
                refine J_calli (jrunV (As := [.int ((cNw A).2.2 j)]) (ct_X8_isLoose l D dA hst ((jSi (jSi M m 11 (0)) m 14 y9)) m hM (cNw A) (((hz).si (by omega)).si (by omega)) hW.1 (((cNw A).2.2 j))) dX8_account_237 yY_X8_isLoose gX8_account_X8_isLoose rfl cs11 (show m < jn M from by omega) m2 rfl ⟨by omega, by omega⟩ ⟨Nat.zero_le _, Nat.zero_le _⟩ rfl (Nat.le_of_ble_eq_true rfl)) ⟨Nat.zero_le _, Nat.zero_le _⟩ (Or.inr ⟨(jOk.ref (show m < jn M from by omega) (jOk.int (jOk.int (jOk.int jOk.nil)))), (jOk.int jOk.nil)⟩) (fun E M9 hp _ => by obtain ⟨_, h1, _⟩ := hp; cases h1) (fun x9 M1 hp237 hle237 => ?_)
                obtain ⟨xl237, he, rfl⟩ := hp237
                cases he
                refine J_mem (M' := jSi (jSi M m 11 (0)) m 14 xl237) (by exact jSi_jSi _ _ _ _ _) ?_
                refine J_if_eq dX8_account_240 (tgt := 247) (by decide) (fun c240 => ?_) (fun c240 => ?_)
                · have c240 := jb0T c240
                  refine J_iconst (x := 0) dX8_account_247 (by decide) ?_
                  refine J_iadd dX8_account_248 ?_
                  refine J_topi (y := nI (jcnt (fun p => !cIn (cNw A) ((cNw A).2.2 p)) j + 0)) (nI_add (jcnt (fun p => !cIn (cNw A) ((cNw A).2.2 p)) j) (0)) ?_
                  refine J_topi (y := nI (jcnt (fun p => !cIn (cNw A) ((cNw A).2.2 p)) (j + 1))) (by rw [jcnt_s]; first | (rw [if_pos c240]; done) | (rw [if_neg (by rw [c240]; decide)]; done) | (rw [if_pos c240]; rfl) | (rw [if_neg (by rw [c240]; decide)]; rfl)) ?_
                  refine J_istore_n (lv' := [.ref (m), .int (nI (5)), .int (nI (jcnt (fun p => !cIn (cNw A) ((cNw A).2.2 p)) (j + 1))), .int (nI (j))]) dX8_account_249 rfl (by decide) rfl rfl ?_
                  refine J_iinc (y := nI (j + 1)) (lv' := [.ref (m), .int (nI (5)), .int (nI (jcnt (fun p => !cIn (cNw A) ((cNw A).2.2 p)) (j + 1))), .int (nI (j + 1))]) dX8_account_250 rfl (jinc (j)) (by decide) rfl rfl ?_
                  refine J_goto (tgt := 213) dX8_account_253 (by decide) ?_
                  exact ih213 (j + 1) (xl237) (by omega) (by omega)
                · have c240 := jb0F c240
                  refine J_iconst (x := 1) dX8_account_243 (by decide) ?_
                  refine J_goto (tgt := 248) dX8_account_244 (by decide) ?_
                  refine J_iadd dX8_account_248 ?_
                  refine J_topi (y := nI (jcnt (fun p => !cIn (cNw A) ((cNw A).2.2 p)) j + 1)) (nI_add (jcnt (fun p => !cIn (cNw A) ((cNw A).2.2 p)) j) (1)) ?_
                  refine J_topi (y := nI (jcnt (fun p => !cIn (cNw A) ((cNw A).2.2 p)) (j + 1))) (by rw [jcnt_s]; first | (rw [if_pos c240]; done) | (rw [if_neg (by rw [c240]; decide)]; done) | (rw [if_pos c240]; rfl) | (rw [if_neg (by rw [c240]; decide)]; rfl)) ?_
                  refine J_istore_n (lv' := [.ref (m), .int (nI (5)), .int (nI (jcnt (fun p => !cIn (cNw A) ((cNw A).2.2 p)) (j + 1))), .int (nI (j))]) dX8_account_249 rfl (by decide) rfl rfl ?_
                  refine J_iinc (y := nI (j + 1)) (lv' := [.ref (m), .int (nI (5)), .int (nI (jcnt (fun p => !cIn (cNw A) ((cNw A).2.2 p)) (j + 1))), .int (nI (j + 1))]) dX8_account_250 rfl (jinc (j)) (by decide) rfl rfl ?_
                  refine J_goto (tgt := 213) dX8_account_253 (by decide) ?_
                  exact ih213 (j + 1) (xl237) (by omega) (by omega)
          refine J_iconst (x := 0) dX8_account_211 (by decide) ?_
          refine J_istore_n (lv' := [.ref (m), .int (nI (5)), .int (0), .int (0)]) dX8_account_212 rfl (by decide) rfl rfl ?_
          exact L213 _ (0) (ji M m 14) (by omega) (Nat.lt_succ_self _)
        · refine J_iconst (x := 0) dX8_account_24 (by decide) ?_
          refine J_istore_n (lv' := [.ref (m), .int (nI (6)), .int (0), .float 0]) dX8_account_25 rfl (by decide) rfl rfl ?_
          refine J_iload_n dX8_account_26 rfl rfl ?_
          refine J_tableIn (off := 231) (tgt := 258) dX8_account_27 (by decide) (by decide) (by rfl) (by decide) ?_
          have L260 : ∀ (fuel : Nat) (j : Nat) (hj : j ≤ 12), 12 - j < fuel → J l D dA RX8 cX8_account wsX8_account 4 false (some .int) [] (24) (540) (jF D dA (jn M) (mRl M m [xIAE] (oAc A (nI 6)) A) 1) (jn M) (0) (0) ((jSi M m 11 (0))) 260 [.ref (m), .int (nI (6)), .int (nI (jcnt (slW (cNw A) (fun w => decide (w.1 = 0))) j)), .int (nI (j))] [] := by
            intro fuel
            induction fuel with
            | zero => intro j hj hm; exact absurd hm (Nat.not_lt_zero _)
            | succ fuel ih260 =>
              intro j hj hm260
              refine J_iload_n dX8_account_260 rfl rfl ?_
              refine J_bipush (x := 12) dX8_account_261 (by decide) ?_
              refine J_icmp_ge dX8_account_263 (tgt := 292) (by decide) (fun c263 => ?_) (fun c263 => ?_)
              · have c263 := jleT (a := 12) (b := j) (by omega) (by omega) c263
                refine J_iload_n dX8_account_292 rfl rfl ?_
                exact J_iret (ty := .int) dX8_account_293 rfl (rfl) (by refine ⟨Or.inl ⟨?_, ?_⟩, (hA).si rfl, (mFr.rf).si ⟨by omega, by omega⟩, _, rfl⟩; (simp only [ji_Si, and_self, if_true, reduceIte, reduceCtorEq, and_false, if_false, Nat.reduceEqDiff]); (obtain rfl : j = 12 := (by omega); rw [oAc_6]))
              · have c263 := jleF (a := 12) (b := j) (by omega) (by omega) c263
                have hk : j < 12 := by omega
                refine J_iload_n dX8_account_266 rfl rfl ?_
                refine J_aload_n (m) dX8_account_267 rfl rfl ?_
                refine J_getrs (q := m + 1) r1 dX8_account_268 (fun _ h => List.mem_cons_of_mem _ (List.mem_append_left _ (List.mem_append_right _ (h)))) cs11 (by decide) rfl (List.mem_of_getElem? (i := 1) rfl) rfl (show m < jn M from by omega) m2 ?_
                refine J_bipush (x := 33) dX8_account_271 (by decide) ?_
                refine J_iload_n dX8_account_273 rfl rfl ?_
                refine J_imul dX8_account_274 ?_
                refine J_topi (y := nI (33 * j)) (pk_mul (33) (j)) ?_
                refine J_ialdN (k := 33 * j) dX8_account_275 (show m + 1 < jn M from by omega) k1 (by exact Nat.lt_of_lt_of_eq (show _ < 427 by omega) (Eq.symm z1)) (by exact Nat.lt_of_le_of_lt (Nat.le_of_eq z1) (show 427 < 2 ^ 31 by omega)) ?_
                rcases hzj : (cNw A).1 j with _ | w
                · have hxj := hz.at0 hk
                  rw [hzj] at hxj
                  refine J_topi (y := (-1)) (by rw [ji_Sin (by omega)]; exact hxj) ?_
                  refine J_if_ne dX8_account_276 (tgt := 283) (by decide) (fun c276 => ?_) (fun c276 => ?_)
                  · refine J_iconst (x := 0) dX8_account_283 (by decide) ?_
                    refine J_iadd dX8_account_284 ?_
                    refine J_topi (y := nI (jcnt (slW (cNw A) (fun w => decide (w.1 = 0))) j + 0)) (nI_add (jcnt (slW (cNw A) (fun w => decide (w.1 = 0))) j) (0)) ?_
                    refine J_topi (y := nI (jcnt (slW (cNw A) (fun w => decide (w.1 = 0))) (j + 1))) (by rw [jcnt_s]; rw [slW_n (by rw [hzj]; rfl)]; rfl) ?_
                    refine J_istore_n (lv' := [.ref (m), .int (nI (6)), .int (nI (jcnt (slW (cNw A) (fun w => decide (w.1 = 0))) (j + 1))), .int (nI (j))]) dX8_account_285 rfl (by decide) rfl rfl ?_
                    refine J_iinc (y := nI (j + 1)) (lv' := [.ref (m), .int (nI (6)), .int (nI (jcnt (slW (cNw A) (fun w => decide (w.1 = 0))) (j + 1))), .int (nI (j + 1))]) dX8_account_286 rfl (jinc (j)) (by decide) rfl rfl ?_
                    refine J_goto (tgt := 260) dX8_account_289 (by decide) ?_
                    exact ih260 (j + 1) (by omega) (by omega)
                  · exact absurd c276 (by decide)
                · have hxj := hz.at0 hk
                  rw [hzj] at hxj
                  have h16 := hxj.2.1
                  refine J_topi (y := nI (w.1)) (by rw [ji_Sin (by omega)]; exact hxj.hd) ?_
                  refine J_if_ne dX8_account_276 (tgt := 283) (by decide) (fun c276 => ?_) (fun c276 => ?_)
                  · have c276 := jeqF (a := w.1) (b := 0) (by omega) (by omega) c276
                    refine J_iconst (x := 0) dX8_account_283 (by decide) ?_
                    refine J_iadd dX8_account_284 ?_
                    refine J_topi (y := nI (jcnt (slW (cNw A) (fun w => decide (w.1 = 0))) j + 0)) (nI_add (jcnt (slW (cNw A) (fun w => decide (w.1 = 0))) j) (0)) ?_
                    refine J_topi (y := nI (jcnt (slW (cNw A) (fun w => decide (w.1 = 0))) (j + 1))) (by rw [jcnt_s]; rw [slW_s hzj]; first | (rw [if_pos (decide_eq_true c276)]; done) | (rw [if_neg (fun h9 => c276 (of_decide_eq_true h9))]; done) | (rw [if_pos (decide_eq_true c276)]; rfl) | (rw [if_neg (fun h9 => c276 (of_decide_eq_true h9))]; rfl)) ?_
                    refine J_istore_n (lv' := [.ref (m), .int (nI (6)), .int (nI (jcnt (slW (cNw A) (fun w => decide (w.1 = 0))) (j + 1))), .int (nI (j))]) dX8_account_285 rfl (by decide) rfl rfl ?_
                    refine J_iinc (y := nI (j + 1)) (lv' := [.ref (m), .int (nI (6)), .int (nI (jcnt (slW (cNw A) (fun w => decide (w.1 = 0))) (j + 1))), .int (nI (j + 1))]) dX8_account_286 rfl (jinc (j)) (by decide) rfl rfl ?_
                    refine J_goto (tgt := 260) dX8_account_289 (by decide) ?_
                    exact ih260 (j + 1) (by omega) (by omega)
                  · have c276 := jeqT (a := w.1) (b := 0) (by omega) (by omega) c276
                    refine J_iconst (x := 1) dX8_account_279 (by decide) ?_
                    refine J_goto (tgt := 284) dX8_account_280 (by decide) ?_
                    refine J_iadd dX8_account_284 ?_
                    refine J_topi (y := nI (jcnt (slW (cNw A) (fun w => decide (w.1 = 0))) j + 1)) (nI_add (jcnt (slW (cNw A) (fun w => decide (w.1 = 0))) j) (1)) ?_
                    refine J_topi (y := nI (jcnt (slW (cNw A) (fun w => decide (w.1 = 0))) (j + 1))) (by rw [jcnt_s]; rw [slW_s hzj]; first | (rw [if_pos (decide_eq_true c276)]; done) | (rw [if_neg (fun h9 => c276 (of_decide_eq_true h9))]; done) | (rw [if_pos (decide_eq_true c276)]; rfl) | (rw [if_neg (fun h9 => c276 (of_decide_eq_true h9))]; rfl)) ?_
                    refine J_istore_n (lv' := [.ref (m), .int (nI (6)), .int (nI (jcnt (slW (cNw A) (fun w => decide (w.1 = 0))) (j + 1))), .int (nI (j))]) dX8_account_285 rfl (by decide) rfl rfl ?_
                    refine J_iinc (y := nI (j + 1)) (lv' := [.ref (m), .int (nI (6)), .int (nI (jcnt (slW (cNw A) (fun w => decide (w.1 = 0))) (j + 1))), .int (nI (j + 1))]) dX8_account_286 rfl (jinc (j)) (by decide) rfl rfl ?_
                    refine J_goto (tgt := 260) dX8_account_289 (by decide) ?_
                    exact ih260 (j + 1) (by omega) (by omega)
          refine J_iconst (x := 0) dX8_account_258 (by decide) ?_
          refine J_istore_n (lv' := [.ref (m), .int (nI (6)), .int (0), .int (0)]) dX8_account_259 rfl (by decide) rfl rfl ?_
          exact L260 _ (0) (by omega) (Nat.lt_succ_self _)
        · refine J_iconst (x := 0) dX8_account_24 (by decide) ?_
          refine J_istore_n (lv' := [.ref (m), .int (nI (7)), .int (0), .float 0]) dX8_account_25 rfl (by decide) rfl rfl ?_
          refine J_iload_n dX8_account_26 rfl rfl ?_
          refine J_tableOut (tgt := 294) dX8_account_27 (by decide) (by decide) ?_
          refine J_aload_n (m) dX8_account_294 rfl rfl ?_
          refine J_geti (j := 6) dX8_account_295 (fun _ h => List.mem_cons_of_mem _ (List.mem_append_left _ (List.mem_append_right _ (h)))) cs11 (by decide) rfl (List.mem_of_getElem? (i := 2) rfl) rfl (show m < jn M from by omega) m2 ?_
          refine J_topi (y := nI (cL A)) (((ji_Sik (show 6 ≠ 11 by decide)).trans hLn)) ?_
          exact J_iret (ty := .int) dX8_account_298 rfl (rfl) (by refine ⟨Or.inl ⟨?_, ?_⟩, (hA).si rfl, (mFr.rf).si ⟨by omega, by omega⟩, _, rfl⟩; (simp only [ji_Si, and_self, if_true, reduceIte, reduceCtorEq, and_false, if_false, Nat.reduceEqDiff]); (rw [oAc_7]))
      · exact absurd c19 (by decide)
    · refine J_iconst (x := 1) dX8_account_11 (by decide) ?_
      refine J_goto (tgt := 16) dX8_account_12 (by decide) ?_
      refine J_calli0 (jrunV (As := [.int (1)]) (ct_X8_fails l D dA hst M m hM ((1))) dX8_account_16 yY_X8_fails gX8_account_X8_fails rfl cs11 (show m < jn M from by omega) m2 rfl ⟨by omega, by omega⟩ ⟨Nat.zero_le _, Nat.zero_le _⟩ rfl (Nat.le_of_ble_eq_true rfl)) (rfl) (rfl) ?_
      refine J_if_eq dX8_account_19 (tgt := 24) (by decide) (fun c19 => ?_) (fun c19 => ?_)
      · exact absurd c19 (by decide)
      · have c19 := jeqF (a := 1) (b := 0) (by omega) (by omega) c19
        refine J_iconst (x := 0) dX8_account_22 (by decide) ?_
        exact J_iret (ty := .int) dX8_account_23 rfl (rfl) (by refine ⟨?_, (hA).si rfl, (mFr.rf).si ⟨by omega, by omega⟩, _, rfl⟩; simp only [ji_Si, and_self, if_true, reduceIte, reduceCtorEq, and_false, if_false, Nat.reduceEqDiff]; first | exact mAg.x 0 xIAE rfl (by decide) rfl (by exact oAc_x (by first | exact Or.inl c2 | exact Or.inr (Int32.not_le.mp c8) | exact Or.inr c8)) | fail "rl")

