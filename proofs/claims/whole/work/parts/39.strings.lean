theorem jStrL_4 : ∀ i : Nat, i < 3 → jStrL i ≤ 4 := by decide
theorem nI_nar : ∀ c : Nat, c < 128 → narrow .char (.int (nI c)) = .int (nI c) := by decide +kernel
theorem jStrB_255 : ∀ i : Nat, i < 3 → ∀ k : Nat, k < jStrL i → ((jStrB i k &&& 255 : Int32).toUInt32 % 65536).toInt32 = nI ((sbX i).getD k 0) ∧ narrow .char (.int (nI ((sbX i).getD k 0))) = .int (nI ((sbX i).getD k 0)) := by decide +kernel
theorem sbC0 (m : Nat) : sbC 0 m = 0 := if_pos (Nat.zero_le _)
theorem sbS0 (m : Nat) : sbS 0 m = 0 := if_pos (Nat.zero_le _)
/-- a builder of which only the shape is known -/
def sbW (M : jM) (s b m len : Nat) : Prop := s < jn M ∧ jk M s = 1 ∧ jr M s 0 = some b ∧ b < jn M ∧ jk M b = 20 ∧ jz M b = m ∧ ji M s 1 = 0 ∧ ji M s 3 = nI len ∧ len ≤ m ∧ m ≤ 2000 ∧ jBf M b ∧ (b + 34 < s ∨ s < b)
theorem sbW_zero {M M1 : jM} {s b m len : Nat} (h : sbW M s b m len) (e1 : jn M1 = jn M) (e2 : jk M1 = jk M) (e3 : jz M1 = jz M) (e4 : jr M1 = jr M) (e5 : jl M1 = jl M) (e6 : jd M1 = jd M) (ho : ∀ a, a ≠ s → ji M1 a = ji M a) (hs1 : ji M1 s 1 = ji M s 1) (hs3 : ji M1 s 3 = 0) (hcl : jCl M1) : sbT M1 s b m [] ∧ sbF s M M1 := by
  obtain ⟨h1, h2, h3, h4, h5, h6, h7, h8, h9, h10, h13, h14⟩ := h
  have hne : b ≠ s := fun e => by rw [e, h2] at h5; exact absurd h5 (by decide)
  exact ⟨⟨by rw [e1]; exact h1, by rw [e2]; exact h2, by rw [e4]; exact h3, by rw [e1]; exact h4, by rw [e2]; exact h5, by rw [e3]; exact h6, hs1.trans h7, hs3, Nat.zero_le _, h10, fun j hj => absurd hj (Nat.not_lt_zero _), fun c hc => absurd hc List.not_mem_nil, h13.eq (ho b hne), h14⟩,
    ⟨Nat.le_of_eq e1.symm, fun _ _ => ⟨by rw [e2], by rw [e3], by rw [e5], by rw [e6]⟩, fun _ _ _ => by rw [e4], fun a _ hs _ => ho a hs, fun a _ hk hb => hb.eq (ho a (fun e => by rw [e, h2] at hk; exact absurd hk (by decide))), hcl⟩⟩
theorem dJ0_coder_7d493_0 : decode cJ0_coder_7d493 0 = .ok (.getstatic 38, 3) := by decide +kernel
theorem dJ0_coder_7d493_3 : decode cJ0_coder_7d493 3 = .ok (.ifCond .eq 10, 3) := by decide +kernel
theorem dJ0_coder_7d493_6 : decode cJ0_coder_7d493 6 = .ok (.aload_n 0, 1) := by decide +kernel
theorem dJ0_coder_7d493_7 : decode cJ0_coder_7d493 7 = .ok (.getfield 15, 3) := by decide +kernel
theorem dJ0_coder_7d493_10 : decode cJ0_coder_7d493 10 = .ok (.goto 4, 3) := by decide +kernel
theorem dJ0_coder_7d493_14 : decode cJ0_coder_7d493 14 = .ok (.ireturn, 1) := by decide +kernel
set_option maxHeartbeats 400000 in
set_option maxRecDepth 20000 in
theorem ct_J0_coder_7d493 (l : Launch) (D : va_G) (dA : Nat → ClassId) (hst : l.stackTraces = false) (M : jM) (i : Nat) (hi : i < 3) : jCT l D dA yJ0_coder_7d493 wsJ0_coder_7d493 (20) (300) (0) (0) 1 [.retAddr (i)] M (jPo (oI 0) (M)) := by
  refine jBody (cc := cJ0_coder_7d493) (nL := 1) (rt := (some .byte)) (ini := false) (by decide) rfl hst (Nat.le_of_ble_eq_true rfl) (by simp only [List.forall_mem_cons]; simp [Value.category]) (by intro h9; first | exact absurd h9 (by decide) | rfl) ?_
  show J l D dA RJ0 cJ0_coder_7d493 wsJ0_coder_7d493 1 false (some .byte) [] (20) (300) (jF D dA (jn M) (jPo (oI 0) (M)) 1) (jn M) (0) (0) (M) 0 [.retAddr (i)] []
  have hl4 := jStrL_4 i hi
  refine J_getsC dJ0_coder_7d493_0 (List.mem_of_getElem? (i := 1) rfl) ?_
  refine J_if_eq dJ0_coder_7d493_3 (tgt := 13) (by decide) (fun c3 => ?_) (fun c3 => ?_)
  · exact absurd c3 (by decide)
  · have c3 := jeqF (a := 1) (b := 0) (by omega) (by omega) c3
    refine J_aload_ns (i) dJ0_coder_7d493_6 rfl rfl ?_
    refine J_getfSc (i := i) hi dJ0_coder_7d493_7 (List.mem_of_getElem? (i := 2) rfl) ?_
    refine J_goto (tgt := 14) dJ0_coder_7d493_10 (by decide) ?_
    exact J_iret (ty := .byte) dJ0_coder_7d493_14 rfl (by rfl) ⟨(by rfl), (by rfl)⟩

theorem dJ0_isLatin1_aae02_0 : decode cJ0_isLatin1_aae02 0 = .ok (.getstatic 38, 3) := by decide +kernel
theorem dJ0_isLatin1_aae02_3 : decode cJ0_isLatin1_aae02 3 = .ok (.ifCond .eq 14, 3) := by decide +kernel
theorem dJ0_isLatin1_aae02_6 : decode cJ0_isLatin1_aae02 6 = .ok (.aload_n 0, 1) := by decide +kernel
theorem dJ0_isLatin1_aae02_7 : decode cJ0_isLatin1_aae02 7 = .ok (.getfield 15, 3) := by decide +kernel
theorem dJ0_isLatin1_aae02_10 : decode cJ0_isLatin1_aae02 10 = .ok (.ifCond .ne 7, 3) := by decide +kernel
theorem dJ0_isLatin1_aae02_13 : decode cJ0_isLatin1_aae02 13 = .ok (.iconst 1, 1) := by decide +kernel
theorem dJ0_isLatin1_aae02_14 : decode cJ0_isLatin1_aae02 14 = .ok (.goto 4, 3) := by decide +kernel
theorem dJ0_isLatin1_aae02_18 : decode cJ0_isLatin1_aae02 18 = .ok (.ireturn, 1) := by decide +kernel
set_option maxHeartbeats 400000 in
set_option maxRecDepth 20000 in
theorem ct_J0_isLatin1_aae02 (l : Launch) (D : va_G) (dA : Nat → ClassId) (hst : l.stackTraces = false) (M : jM) (i : Nat) (hi : i < 3) : jCT l D dA yJ0_isLatin1_aae02 wsJ0_isLatin1_aae02 (20) (300) (0) (0) 1 [.retAddr (i)] M (jPo (oI 1) (M)) := by
  refine jBody (cc := cJ0_isLatin1_aae02) (nL := 1) (rt := (some .boolean)) (ini := false) (by decide) rfl hst (Nat.le_of_ble_eq_true rfl) (by simp only [List.forall_mem_cons]; simp [Value.category]) (by intro h9; first | exact absurd h9 (by decide) | rfl) ?_
  show J l D dA RJ0 cJ0_isLatin1_aae02 wsJ0_isLatin1_aae02 1 false (some .boolean) [] (20) (300) (jF D dA (jn M) (jPo (oI 1) (M)) 1) (jn M) (0) (0) (M) 0 [.retAddr (i)] []
  have hl4 := jStrL_4 i hi
  refine J_getsC dJ0_isLatin1_aae02_0 (List.mem_of_getElem? (i := 1) rfl) ?_
  refine J_if_eq dJ0_isLatin1_aae02_3 (tgt := 17) (by decide) (fun c3 => ?_) (fun c3 => ?_)
  · exact absurd c3 (by decide)
  · have c3 := jeqF (a := 1) (b := 0) (by omega) (by omega) c3
    refine J_aload_ns (i) dJ0_isLatin1_aae02_6 rfl rfl ?_
    refine J_getfSc (i := i) hi dJ0_isLatin1_aae02_7 (List.mem_of_getElem? (i := 2) rfl) ?_
    refine J_if_ne dJ0_isLatin1_aae02_10 (tgt := 17) (by decide) (fun c10 => ?_) (fun c10 => ?_)
    · exact absurd c10 (by decide)
    · have c10 := jeqT (a := 0) (b := 0) (by omega) (by omega) c10
      refine J_iconst (x := 1) dJ0_isLatin1_aae02_13 (by decide) ?_
      refine J_goto (tgt := 18) dJ0_isLatin1_aae02_14 (by decide) ?_
      exact J_iret (ty := .boolean) dJ0_isLatin1_aae02_18 rfl (by rfl) ⟨(by rfl), (by rfl)⟩

theorem dJ0_length_8abf5_0 : decode cJ0_length_8abf5 0 = .ok (.aload_n 0, 1) := by decide +kernel
theorem dJ0_length_8abf5_1 : decode cJ0_length_8abf5 1 = .ok (.getfield 9, 3) := by decide +kernel
theorem dJ0_length_8abf5_4 : decode cJ0_length_8abf5 4 = .ok (.arraylength, 1) := by decide +kernel
theorem dJ0_length_8abf5_5 : decode cJ0_length_8abf5 5 = .ok (.aload_n 0, 1) := by decide +kernel
theorem dJ0_length_8abf5_6 : decode cJ0_length_8abf5 6 = .ok (.invokevirtual 335, 3) := by decide +kernel
set_option maxRecDepth 20000 in
theorem ggJ0_length_8abf5_J0_coder_7d493 : GoodIn wsJ0_length_8abf5 wsJ0_coder_7d493 := goodIn_r _ [6, 7, 8, 9, 10, 11, 12] (by decide +kernel) (by decide +kernel)
set_option maxRecDepth 20000 in
theorem gJ0_length_8abf5_J0_coder_7d493 : GoodIn wsJ0_length_8abf5 (wsV RJ0 335 RJ0 yJ0_coder_7d493 wsJ0_coder_7d493) := goodIn_app (goodIn_of _ (by decide +kernel)) ggJ0_length_8abf5_J0_coder_7d493
theorem yY_J0_coder_7d493 : jY yJ0_coder_7d493 wsJ0_coder_7d493 cJ0_coder_7d493 1 (some .byte) 0 := ⟨⟨_, rfl⟩, by decide +kernel, by decide +kernel, by decide +kernel⟩
theorem dJ0_length_8abf5_9 : decode cJ0_length_8abf5 9 = .ok (.ishr, 1) := by decide +kernel
theorem dJ0_length_8abf5_10 : decode cJ0_length_8abf5 10 = .ok (.ireturn, 1) := by decide +kernel
set_option maxHeartbeats 400000 in
set_option maxRecDepth 20000 in
theorem ct_J0_length_8abf5 (l : Launch) (D : va_G) (dA : Nat → ClassId) (hst : l.stackTraces = false) (M : jM) (i : Nat) (hi : i < 3) : jCT l D dA yJ0_length_8abf5 wsJ0_length_8abf5 (22) (420) (0) (0) 1 [.retAddr (i)] M (jPo (oI (nI (jStrL i))) (M)) := by
  refine jBody (cc := cJ0_length_8abf5) (nL := 1) (rt := (some .int)) (ini := false) (by decide) rfl hst (Nat.le_of_ble_eq_true rfl) (by simp only [List.forall_mem_cons]; simp [Value.category]) (by intro h9; first | exact absurd h9 (by decide) | rfl) ?_
  show J l D dA RJ0 cJ0_length_8abf5 wsJ0_length_8abf5 1 false (some .int) [] (22) (420) (jF D dA (jn M) (jPo (oI (nI (jStrL i))) (M)) 1) (jn M) (0) (0) (M) 0 [.retAddr (i)] []
  have hl4 := jStrL_4 i hi
  refine J_aload_ns (i) dJ0_length_8abf5_0 rfl rfl ?_
  refine J_getfSv (i := i) hi dJ0_length_8abf5_1 (List.mem_of_getElem? (i := 1) rfl) ?_
  refine J_alenS (i := i) hi dJ0_length_8abf5_4 ?_
  refine J_aload_ns (i) dJ0_length_8abf5_5 rfl rfl ?_
  refine J_calli0 (jrunVS (i := i) (As := []) (ct_J0_coder_7d493 l D dA hst M i hi) dJ0_length_8abf5_6 yY_J0_coder_7d493 gJ0_length_8abf5_J0_coder_7d493 rfl hi rfl ⟨by omega, by omega⟩ ⟨Nat.zero_le _, Nat.zero_le _⟩ rfl (Nat.le_of_ble_eq_true rfl)) (rfl) (rfl) ?_
  refine J_ishr0 dJ0_length_8abf5_9 ?_
  exact J_iret (ty := .int) dJ0_length_8abf5_10 rfl (rfl) ⟨(by rfl), (by rfl)⟩

theorem dJ0_getBytes_840e7_0 : decode cJ0_getBytes_840e7 0 = .ok (.aload_n 0, 1) := by decide +kernel
theorem dJ0_getBytes_840e7_1 : decode cJ0_getBytes_840e7 1 = .ok (.invokevirtual 335, 3) := by decide +kernel
set_option maxRecDepth 20000 in
theorem ggJ0_getBytes_840e7_J0_coder_7d493 : GoodIn wsJ0_getBytes_840e7 wsJ0_coder_7d493 := goodIn_r _ [10, 11, 12, 41, 42, 43, 44] (by decide +kernel) (by decide +kernel)
set_option maxRecDepth 20000 in
theorem gJ0_getBytes_840e7_J0_coder_7d493 : GoodIn wsJ0_getBytes_840e7 (wsV RJ0 335 RJ0 yJ0_coder_7d493 wsJ0_coder_7d493) := goodIn_app (goodIn_of _ (by decide +kernel)) ggJ0_getBytes_840e7_J0_coder_7d493
theorem dJ0_getBytes_840e7_4 : decode cJ0_getBytes_840e7 4 = .ok (.iload_n 3, 1) := by decide +kernel
theorem dJ0_getBytes_840e7_5 : decode cJ0_getBytes_840e7 5 = .ok (.if_icmp .ne 23, 3) := by decide +kernel
theorem dJ0_getBytes_840e7_8 : decode cJ0_getBytes_840e7 8 = .ok (.aload_n 0, 1) := by decide +kernel
theorem dJ0_getBytes_840e7_9 : decode cJ0_getBytes_840e7 9 = .ok (.getfield 9, 3) := by decide +kernel
theorem dJ0_getBytes_840e7_12 : decode cJ0_getBytes_840e7 12 = .ok (.iconst 0, 1) := by decide +kernel
theorem dJ0_getBytes_840e7_13 : decode cJ0_getBytes_840e7 13 = .ok (.aload_n 1, 1) := by decide +kernel
theorem dJ0_getBytes_840e7_14 : decode cJ0_getBytes_840e7 14 = .ok (.iload_n 2, 1) := by decide +kernel
theorem dJ0_getBytes_840e7_15 : decode cJ0_getBytes_840e7 15 = .ok (.iload_n 3, 1) := by decide +kernel
theorem dJ0_getBytes_840e7_16 : decode cJ0_getBytes_840e7 16 = .ok (.ishl, 1) := by decide +kernel
theorem dJ0_getBytes_840e7_17 : decode cJ0_getBytes_840e7 17 = .ok (.aload_n 0, 1) := by decide +kernel
theorem dJ0_getBytes_840e7_18 : decode cJ0_getBytes_840e7 18 = .ok (.getfield 9, 3) := by decide +kernel
theorem dJ0_getBytes_840e7_21 : decode cJ0_getBytes_840e7 21 = .ok (.arraylength, 1) := by decide +kernel
theorem dJ0_getBytes_840e7_22 : decode cJ0_getBytes_840e7 22 = .ok (.invokestatic 212, 3) := by decide +kernel
theorem dJ0_getBytes_840e7_25 : decode cJ0_getBytes_840e7 25 = .ok (.goto 18, 3) := by decide +kernel
theorem dJ0_getBytes_840e7_43 : decode cJ0_getBytes_840e7 43 = .ok (.return_, 1) := by decide +kernel
set_option maxHeartbeats 400000 in
set_option maxRecDepth 20000 in
theorem ct_J0_getBytes_840e7 (l : Launch) (D : va_G) (dA : Nat → ClassId) (hst : l.stackTraces = false) (M : jM) (i : Nat) (hi : i < 3) (b m q : Nat) (h4 : b < jn M) (h5 : jk M b = 20) (h6 : jz M b = m) (hm : m ≤ 2000) (hq : q + jStrL i ≤ m) : jCT l D dA yJ0_getBytes_840e7 wsJ0_getBytes_840e7 (22) (420) (0) (0) 0 [.retAddr (i), .ref (b), .int (nI (q)), .int (0)] M (jPo (oV) (jSv M b (va_cpy (jStrB i) (ji M b) 0 q (jStrL i)))) := by
  refine jBody (cc := cJ0_getBytes_840e7) (nL := 4) (rt := none) (ini := false) (by decide) rfl hst (Nat.le_of_ble_eq_true rfl) (by simp only [List.forall_mem_cons]; simp [Value.category]) (by intro h9; first | exact absurd h9 (by decide) | rfl) ?_
  show J l D dA RJ0 cJ0_getBytes_840e7 wsJ0_getBytes_840e7 4 false none [] (22) (420) (jF D dA (jn M) (jPo (oV) (jSv M b (va_cpy (jStrB i) (ji M b) 0 q (jStrL i)))) 0) (jn M) (0) (0) (M) 0 [.retAddr (i), .ref (b), .int (nI (q)), .int (0)] []
  have hl4 := jStrL_4 i hi
  refine J_aload_ns (i) dJ0_getBytes_840e7_0 rfl rfl ?_
  refine J_calli0 (jrunVS (i := i) (As := []) (ct_J0_coder_7d493 l D dA hst M i hi) dJ0_getBytes_840e7_1 yY_J0_coder_7d493 gJ0_getBytes_840e7_J0_coder_7d493 rfl hi rfl ⟨by omega, by omega⟩ ⟨Nat.zero_le _, Nat.zero_le _⟩ rfl (Nat.le_of_ble_eq_true rfl)) (rfl) (rfl) ?_
  refine J_iload_n dJ0_getBytes_840e7_4 rfl rfl ?_
  refine J_icmp_ne dJ0_getBytes_840e7_5 (tgt := 28) (by decide) (fun c5 => ?_) (fun c5 => ?_)
  · exact absurd c5 (by decide)
  · have c5 := jeqT (a := 0) (b := 0) (by omega) (by omega) c5
    refine J_aload_ns (i) dJ0_getBytes_840e7_8 rfl rfl ?_
    refine J_getfSv (i := i) hi dJ0_getBytes_840e7_9 (List.mem_of_getElem? (i := 1) rfl) ?_
    refine J_iconst (x := 0) dJ0_getBytes_840e7_12 (by decide) ?_
    refine J_aload_n (b) dJ0_getBytes_840e7_13 rfl rfl ?_
    refine J_iload_n dJ0_getBytes_840e7_14 rfl rfl ?_
    refine J_iload_n dJ0_getBytes_840e7_15 rfl rfl ?_
    refine J_ishl0 dJ0_getBytes_840e7_16 ?_
    refine J_aload_ns (i) dJ0_getBytes_840e7_17 rfl rfl ?_
    refine J_getfSv (i := i) hi dJ0_getBytes_840e7_18 (List.mem_of_getElem? (i := 1) rfl) ?_
    refine J_alenS (i := i) hi dJ0_getBytes_840e7_21 ?_
    refine J_copyS (i := i) (z := m) (sp := 0) (dp := q) (n := jStrL i) hi dJ0_getBytes_840e7_22 (List.mem_of_getElem? (i := 2) rfl) (List.mem_of_getElem? (i := 3) rfl) (List.mem_of_getElem? (i := 4) rfl) (List.mem_of_getElem? (i := 5) rfl) h4 h5 h6 (by omega) (by omega) (by omega) (Nat.le_of_ble_eq_true rfl) (by omega) (by omega) ?_
    refine J_goto (tgt := 43) dJ0_getBytes_840e7_25 (by decide) ?_
    exact J_vret dJ0_getBytes_840e7_43 rfl ⟨(by rfl), (by rfl)⟩

theorem dJ5_inflateIfNeededFor_a7421_0 : decode cJ5_inflateIfNeededFor_a7421 0 = .ok (.getstatic 18, 3) := by decide +kernel
theorem dJ5_inflateIfNeededFor_a7421_3 : decode cJ5_inflateIfNeededFor_a7421 3 = .ok (.ifCond .eq 18, 3) := by decide +kernel
theorem dJ5_inflateIfNeededFor_a7421_6 : decode cJ5_inflateIfNeededFor_a7421 6 = .ok (.aload_n 0, 1) := by decide +kernel
theorem dJ5_inflateIfNeededFor_a7421_7 : decode cJ5_inflateIfNeededFor_a7421 7 = .ok (.getfield 22, 3) := by decide +kernel
theorem dJ5_inflateIfNeededFor_a7421_10 : decode cJ5_inflateIfNeededFor_a7421 10 = .ok (.aload_n 1, 1) := by decide +kernel
theorem dJ5_inflateIfNeededFor_a7421_11 : decode cJ5_inflateIfNeededFor_a7421 11 = .ok (.invokevirtual 40, 3) := by decide +kernel
set_option maxRecDepth 20000 in
theorem ggJ5_inflateIfNeededFor_a7421_J0_coder_7d493 : GoodIn wsJ5_inflateIfNeededFor_a7421 wsJ0_coder_7d493 := goodIn_r _ [7, 8, 9, 63, 64, 65, 66] (by decide +kernel) (by decide +kernel)
set_option maxRecDepth 20000 in
theorem gJ5_inflateIfNeededFor_a7421_J0_coder_7d493 : GoodIn wsJ5_inflateIfNeededFor_a7421 (wsV RJ5 40 RJ0 yJ0_coder_7d493 wsJ0_coder_7d493) := goodIn_app (goodIn_of _ (by decide +kernel)) ggJ5_inflateIfNeededFor_a7421_J0_coder_7d493
theorem dJ5_inflateIfNeededFor_a7421_14 : decode cJ5_inflateIfNeededFor_a7421 14 = .ok (.if_icmp .eq 7, 3) := by decide +kernel
theorem dJ5_inflateIfNeededFor_a7421_21 : decode cJ5_inflateIfNeededFor_a7421 21 = .ok (.return_, 1) := by decide +kernel
set_option maxHeartbeats 400000 in
set_option maxRecDepth 20000 in
theorem ct_J5_inflateIfNeededFor_a7421 (l : Launch) (D : va_G) (dA : Nat → ClassId) (hst : l.stackTraces = false) (M : jM) (s b m : Nat) (tx : List Nat) (hB : sbT M s b m tx) (i : Nat) (hi : i < 3) : jCT l D dA yJ5_inflateIfNeededFor_a7421 wsJ5_inflateIfNeededFor_a7421 (22) (420) (0) (0) 0 [.ref (s), .retAddr (i)] M (jPo (oV) (M)) := by
  refine jBody (cc := cJ5_inflateIfNeededFor_a7421) (nL := 2) (rt := none) (ini := false) (by decide) rfl hst (Nat.le_of_ble_eq_true rfl) (by simp only [List.forall_mem_cons]; simp [Value.category]) (by intro h9; first | exact absurd h9 (by decide) | rfl) ?_
  show J l D dA RJ5 cJ5_inflateIfNeededFor_a7421 wsJ5_inflateIfNeededFor_a7421 2 false none [] (22) (420) (jF D dA (jn M) (jPo (oV) (M)) 0) (jn M) (0) (0) (M) 0 [.ref (s), .retAddr (i)] []
  obtain ⟨h1, h2, h3, h4, h5, h6, h7, h8, h9, h10, h11, h12, h13, h14⟩ := id hB
  have hl4 := jStrL_4 i hi
  refine J_getsC dJ5_inflateIfNeededFor_a7421_0 (List.mem_of_getElem? (i := 1) rfl) ?_
  refine J_if_eq dJ5_inflateIfNeededFor_a7421_3 (tgt := 21) (by decide) (fun c3 => ?_) (fun c3 => ?_)
  · exact absurd c3 (by decide)
  · have c3 := jeqF (a := 1) (b := 0) (by omega) (by omega) c3
    refine J_aload_n (s) dJ5_inflateIfNeededFor_a7421_6 rfl rfl ?_
    refine J_geti (j := 1) dJ5_inflateIfNeededFor_a7421_7 (fun _ h => List.mem_cons_of_mem _ (List.mem_append_left _ (List.mem_append_right _ (h)))) cs1 (by decide) rfl (List.mem_of_getElem? (i := 2) rfl) rfl h1 h2 ?_
    refine J_topi (y := (0)) (h7) ?_
    refine J_aload_ns (i) dJ5_inflateIfNeededFor_a7421_10 rfl rfl ?_
    refine J_calli0 (jrunVS (i := i) (As := []) (ct_J0_coder_7d493 l D dA hst M i hi) dJ5_inflateIfNeededFor_a7421_11 yY_J0_coder_7d493 gJ5_inflateIfNeededFor_a7421_J0_coder_7d493 rfl hi rfl ⟨by omega, by omega⟩ ⟨Nat.zero_le _, Nat.zero_le _⟩ rfl (Nat.le_of_ble_eq_true rfl)) (rfl) (rfl) ?_
    refine J_icmp_eq dJ5_inflateIfNeededFor_a7421_14 (tgt := 21) (by decide) (fun c14 => ?_) (fun c14 => ?_)
    · have c14 := jeqT (a := 0) (b := 0) (by omega) (by omega) c14
      exact J_vret dJ5_inflateIfNeededFor_a7421_21 rfl ⟨(by rfl), (by rfl)⟩
    · exact absurd c14 (by decide)

theorem dJ5_putStringAt_47b60_0 : decode cJ5_putStringAt_47b60 0 = .ok (.aload_n 0, 1) := by decide +kernel
theorem dJ5_putStringAt_47b60_1 : decode cJ5_putStringAt_47b60 1 = .ok (.aload_n 2, 1) := by decide +kernel
theorem dJ5_putStringAt_47b60_2 : decode cJ5_putStringAt_47b60 2 = .ok (.invokevirtual 397, 3) := by decide +kernel
set_option maxRecDepth 20000 in
theorem ggJ5_putStringAt_47b60_J5_inflateIfNeededFor_a7421 : GoodIn wsJ5_putStringAt_47b60 wsJ5_inflateIfNeededFor_a7421 := goodIn_r _ [8, 9, 2, 10, 11, 12, 13, 14, 15, 16, 17, 18, 19, 20, 7, 21, 1, 22, 23, 24, 25, 26, 27, 28, 29, 30, 31, 32, 33, 34, 35, 36, 37, 38, 39, 40, 41, 42, 43, 44, 45, 46, 47, 48, 49, 50, 51, 52, 53, 54, 55, 56, 57, 58, 59, 60, 61, 62, 63, 75, 76, 77, 78, 79, 80, 81, 82] (by decide +kernel) (by decide +kernel)
set_option maxRecDepth 20000 in
theorem gJ5_putStringAt_47b60_J5_inflateIfNeededFor_a7421_u397J4 : GoodIn wsJ5_putStringAt_47b60 (va_wsU RJ5 397 RJ4 "java/lang/AbstractStringBuilder" ⟨"java/lang/AbstractStringBuilder", "inflateIfNeededFor", "(Ljava/lang/String;)V"⟩ yJ5_inflateIfNeededFor_a7421 wsJ5_inflateIfNeededFor_a7421) := goodIn_app (goodIn_of _ (by decide +kernel)) ggJ5_putStringAt_47b60_J5_inflateIfNeededFor_a7421
theorem yY_J5_inflateIfNeededFor_a7421 : jY yJ5_inflateIfNeededFor_a7421 wsJ5_inflateIfNeededFor_a7421 cJ5_inflateIfNeededFor_a7421 2 none 1 := ⟨⟨_, rfl⟩, by decide +kernel, by decide +kernel, by decide +kernel⟩
theorem dJ5_putStringAt_47b60_5 : decode cJ5_putStringAt_47b60 5 = .ok (.aload_n 2, 1) := by decide +kernel
theorem dJ5_putStringAt_47b60_6 : decode cJ5_putStringAt_47b60 6 = .ok (.aload_n 0, 1) := by decide +kernel
theorem dJ5_putStringAt_47b60_7 : decode cJ5_putStringAt_47b60 7 = .ok (.getfield 15, 3) := by decide +kernel
theorem dJ5_putStringAt_47b60_10 : decode cJ5_putStringAt_47b60 10 = .ok (.iload_n 1, 1) := by decide +kernel
theorem dJ5_putStringAt_47b60_11 : decode cJ5_putStringAt_47b60 11 = .ok (.aload_n 0, 1) := by decide +kernel
theorem dJ5_putStringAt_47b60_12 : decode cJ5_putStringAt_47b60 12 = .ok (.getfield 22, 3) := by decide +kernel
theorem dJ5_putStringAt_47b60_15 : decode cJ5_putStringAt_47b60 15 = .ok (.invokevirtual 399, 3) := by decide +kernel
set_option maxRecDepth 20000 in
theorem ggJ5_putStringAt_47b60_J0_getBytes_840e7 : GoodIn wsJ5_putStringAt_47b60 wsJ0_getBytes_840e7 := goodIn_r _ [67, 68, 69, 70, 71, 72, 73, 11, 12, 13, 14, 15, 16, 74, 38, 39, 40, 41, 42, 30, 43, 44, 45, 46, 47, 48, 49, 50, 51, 52, 53, 54, 55, 56, 57, 58, 59, 60, 61, 62, 63, 79, 80, 81, 82] (by decide +kernel) (by decide +kernel)
set_option maxRecDepth 20000 in
theorem gJ5_putStringAt_47b60_J0_getBytes_840e7 : GoodIn wsJ5_putStringAt_47b60 (wsV RJ5 399 RJ0 yJ0_getBytes_840e7 wsJ0_getBytes_840e7) := goodIn_app (goodIn_of _ (by decide +kernel)) ggJ5_putStringAt_47b60_J0_getBytes_840e7
theorem yY_J0_getBytes_840e7 : jY yJ0_getBytes_840e7 wsJ0_getBytes_840e7 cJ0_getBytes_840e7 4 none 3 := ⟨⟨_, rfl⟩, by decide +kernel, by decide +kernel, by decide +kernel⟩
theorem dJ5_putStringAt_47b60_18 : decode cJ5_putStringAt_47b60 18 = .ok (.return_, 1) := by decide +kernel
set_option maxHeartbeats 400000 in
set_option maxRecDepth 20000 in
theorem ct_J5_putStringAt_47b60 (l : Launch) (D : va_G) (dA : Nat → ClassId) (hst : l.stackTraces = false) (M : jM) (s b m : Nat) (tx : List Nat) (hB : sbT M s b m tx) (i : Nat) (hi : i < 3) (q : Nat) (hq : q + jStrL i ≤ m) : jCT l D dA yJ5_putStringAt_47b60 wsJ5_putStringAt_47b60 (24) (540) (0) (0) 0 [.ref (s), .int (nI (q)), .retAddr (i)] M (jPo (oV) (jSv M b (va_cpy (jStrB i) (ji M b) 0 q (jStrL i)))) := by
  refine jBody (cc := cJ5_putStringAt_47b60) (nL := 3) (rt := none) (ini := false) (by decide) rfl hst (Nat.le_of_ble_eq_true rfl) (by simp only [List.forall_mem_cons]; simp [Value.category]) (by intro h9; first | exact absurd h9 (by decide) | rfl) ?_
  show J l D dA RJ5 cJ5_putStringAt_47b60 wsJ5_putStringAt_47b60 3 false none [] (24) (540) (jF D dA (jn M) (jPo (oV) (jSv M b (va_cpy (jStrB i) (ji M b) 0 q (jStrL i)))) 0) (jn M) (0) (0) (M) 0 [.ref (s), .int (nI (q)), .retAddr (i)] []
  obtain ⟨h1, h2, h3, h4, h5, h6, h7, h8, h9, h10, h11, h12, h13, h14⟩ := id hB
  have hl4 := jStrL_4 i hi
  refine J_aload_n (s) dJ5_putStringAt_47b60_0 rfl rfl ?_
  refine J_aload_ns (i) dJ5_putStringAt_47b60_1 rfl rfl ?_
  refine J_callv0 (jrunU (As := [.retAddr (i)]) (ct_J5_inflateIfNeededFor_a7421 l D dA hst M s b m tx hB i hi) dJ5_putStringAt_47b60_2 yY_J5_inflateIfNeededFor_a7421 gJ5_putStringAt_47b60_J5_inflateIfNeededFor_a7421_u397J4 rfl cs1 h1 h2 rfl ⟨by omega, by omega⟩ ⟨Nat.zero_le _, Nat.zero_le _⟩ rfl (Nat.le_of_ble_eq_true rfl)) (rfl) (rfl) ?_
  refine J_aload_ns (i) dJ5_putStringAt_47b60_5 rfl rfl ?_
  refine J_aload_n (s) dJ5_putStringAt_47b60_6 rfl rfl ?_
  refine J_getrs (q := b) h3 dJ5_putStringAt_47b60_7 (fun _ h => List.mem_cons_of_mem _ (List.mem_append_left _ (List.mem_append_right _ (h)))) cs1 (by decide) rfl (List.mem_of_getElem? (i := 1) rfl) rfl h1 h2 ?_
  refine J_iload_n dJ5_putStringAt_47b60_10 rfl rfl ?_
  refine J_aload_n (s) dJ5_putStringAt_47b60_11 rfl rfl ?_
  refine J_geti (j := 1) dJ5_putStringAt_47b60_12 (fun _ h => List.mem_cons_of_mem _ (List.mem_append_left _ (List.mem_append_right _ (h)))) cs1 (by decide) rfl (List.mem_of_getElem? (i := 2) rfl) rfl h1 h2 ?_
  refine J_topi (y := (0)) (h7) ?_
  refine J_callv0 (jrunVS (i := i) (As := [.ref (b), .int (nI (q)), .int (0)]) (ct_J0_getBytes_840e7 l D dA hst M i hi b m q h4 h5 h6 h10 hq) dJ5_putStringAt_47b60_15 yY_J0_getBytes_840e7 gJ5_putStringAt_47b60_J0_getBytes_840e7 rfl hi rfl ⟨by omega, by omega⟩ ⟨Nat.zero_le _, Nat.zero_le _⟩ rfl (Nat.le_of_ble_eq_true rfl)) (rfl) (rfl) ?_
  exact J_vret dJ5_putStringAt_47b60_18 rfl ⟨(by rfl), (by rfl)⟩

theorem dJ5_append_cf1ce_0 : decode cJ5_append_cf1ce 0 = .ok (.aload_n 1, 1) := by decide +kernel
theorem dJ5_append_cf1ce_1 : decode cJ5_append_cf1ce 1 = .ok (.ifnonnull 8, 3) := by decide +kernel
theorem dJ5_append_cf1ce_9 : decode cJ5_append_cf1ce 9 = .ok (.aload_n 1, 1) := by decide +kernel
theorem dJ5_append_cf1ce_10 : decode cJ5_append_cf1ce 10 = .ok (.invokevirtual 32, 3) := by decide +kernel
set_option maxRecDepth 20000 in
theorem ggJ5_append_cf1ce_J0_length_8abf5 : GoodIn wsJ5_append_cf1ce wsJ0_length_8abf5 := goodIn_r _ [85, 86, 87, 88, 89, 70, 90, 91, 92, 142, 143, 144, 145] (by decide +kernel) (by decide +kernel)
set_option maxRecDepth 20000 in
theorem gJ5_append_cf1ce_J0_length_8abf5 : GoodIn wsJ5_append_cf1ce (wsV RJ5 32 RJ0 yJ0_length_8abf5 wsJ0_length_8abf5) := goodIn_app (goodIn_of _ (by decide +kernel)) ggJ5_append_cf1ce_J0_length_8abf5
theorem yY_J0_length_8abf5 : jY yJ0_length_8abf5 wsJ0_length_8abf5 cJ0_length_8abf5 1 (some .int) 0 := ⟨⟨_, rfl⟩, by decide +kernel, by decide +kernel, by decide +kernel⟩
theorem dJ5_append_cf1ce_13 : decode cJ5_append_cf1ce 13 = .ok (.istore_n 2, 1) := by decide +kernel
theorem dJ5_append_cf1ce_14 : decode cJ5_append_cf1ce 14 = .ok (.aload_n 0, 1) := by decide +kernel
theorem dJ5_append_cf1ce_15 : decode cJ5_append_cf1ce 15 = .ok (.aload_n 0, 1) := by decide +kernel
theorem dJ5_append_cf1ce_16 : decode cJ5_append_cf1ce 16 = .ok (.getfield 79, 3) := by decide +kernel
theorem dJ5_append_cf1ce_19 : decode cJ5_append_cf1ce 19 = .ok (.iload_n 2, 1) := by decide +kernel
theorem dJ5_append_cf1ce_20 : decode cJ5_append_cf1ce 20 = .ok (.iadd, 1) := by decide +kernel
theorem dJ5_append_cf1ce_21 : decode cJ5_append_cf1ce 21 = .ok (.invokevirtual 100, 3) := by decide +kernel
set_option maxRecDepth 20000 in
theorem ggJ5_append_cf1ce_J5_ensureCapacityInternal_d00df : GoodIn wsJ5_append_cf1ce wsJ5_ensureCapacityInternal_d00df := goodIn_r _ [13, 8, 14, 15, 16, 17, 18, 6, 19, 20, 21, 22, 23, 24, 25, 26, 27, 28, 29, 30, 31, 32, 33, 34, 35, 36, 37, 38, 39, 40, 41, 42, 43, 44, 45, 46, 47, 48, 49, 50, 138, 139, 140, 141] (by decide +kernel) (by decide +kernel)
set_option maxRecDepth 20000 in
theorem gJ5_append_cf1ce_J5_ensureCapacityInternal_d00df_u100J4 : GoodIn wsJ5_append_cf1ce (va_wsU RJ5 100 RJ4 "java/lang/AbstractStringBuilder" ⟨"java/lang/AbstractStringBuilder", "ensureCapacityInternal", "(I)V"⟩ yJ5_ensureCapacityInternal_d00df wsJ5_ensureCapacityInternal_d00df) := goodIn_app (goodIn_of _ (by decide +kernel)) ggJ5_append_cf1ce_J5_ensureCapacityInternal_d00df
theorem dJ5_append_cf1ce_24 : decode cJ5_append_cf1ce 24 = .ok (.aload_n 0, 1) := by decide +kernel
theorem dJ5_append_cf1ce_25 : decode cJ5_append_cf1ce 25 = .ok (.aload_n 0, 1) := by decide +kernel
theorem dJ5_append_cf1ce_26 : decode cJ5_append_cf1ce 26 = .ok (.getfield 79, 3) := by decide +kernel
theorem dJ5_append_cf1ce_29 : decode cJ5_append_cf1ce 29 = .ok (.aload_n 1, 1) := by decide +kernel
theorem dJ5_append_cf1ce_30 : decode cJ5_append_cf1ce 30 = .ok (.invokevirtual 208, 3) := by decide +kernel
set_option maxRecDepth 20000 in
theorem ggJ5_append_cf1ce_J5_putStringAt_47b60 : GoodIn wsJ5_append_cf1ce wsJ5_putStringAt_47b60 := goodIn_r _ [97, 8, 14, 98, 99, 100, 101, 6, 102, 56, 103, 88, 89, 70, 90, 91, 92, 104, 105, 106, 107, 108, 1, 51, 52, 53, 54, 55, 109, 110, 59, 111, 43, 112, 113, 114, 115, 116, 117, 118, 119, 120, 121, 122, 123, 124, 125, 65, 66, 67, 126, 127, 128, 72, 129, 130, 75, 131, 77, 78, 79, 61, 80, 81, 132, 133, 134, 135, 86, 136, 48, 49, 50, 87, 137, 138, 139, 140, 141, 142, 143, 144, 145] (by decide +kernel) (by decide +kernel)
set_option maxRecDepth 20000 in
theorem gJ5_append_cf1ce_J5_putStringAt_47b60_u208J4 : GoodIn wsJ5_append_cf1ce (va_wsU RJ5 208 RJ4 "java/lang/AbstractStringBuilder" ⟨"java/lang/AbstractStringBuilder", "putStringAt", "(ILjava/lang/String;)V"⟩ yJ5_putStringAt_47b60 wsJ5_putStringAt_47b60) := goodIn_app (goodIn_of _ (by decide +kernel)) ggJ5_append_cf1ce_J5_putStringAt_47b60
theorem yY_J5_putStringAt_47b60 : jY yJ5_putStringAt_47b60 wsJ5_putStringAt_47b60 cJ5_putStringAt_47b60 3 none 2 := ⟨⟨_, rfl⟩, by decide +kernel, by decide +kernel, by decide +kernel⟩
theorem dJ5_append_cf1ce_33 : decode cJ5_append_cf1ce 33 = .ok (.aload_n 0, 1) := by decide +kernel
theorem dJ5_append_cf1ce_34 : decode cJ5_append_cf1ce 34 = .ok (.dup, 1) := by decide +kernel
theorem dJ5_append_cf1ce_35 : decode cJ5_append_cf1ce 35 = .ok (.getfield 79, 3) := by decide +kernel
theorem dJ5_append_cf1ce_38 : decode cJ5_append_cf1ce 38 = .ok (.iload_n 2, 1) := by decide +kernel
theorem dJ5_append_cf1ce_39 : decode cJ5_append_cf1ce 39 = .ok (.iadd, 1) := by decide +kernel
theorem dJ5_append_cf1ce_40 : decode cJ5_append_cf1ce 40 = .ok (.putfield 79, 3) := by decide +kernel
theorem dJ5_append_cf1ce_43 : decode cJ5_append_cf1ce 43 = .ok (.aload_n 0, 1) := by decide +kernel
theorem dJ5_append_cf1ce_44 : decode cJ5_append_cf1ce 44 = .ok (.areturn, 1) := by decide +kernel
set_option maxHeartbeats 400000 in
set_option maxRecDepth 20000 in
theorem ct_J5_append_cf1ce (l : Launch) (D : va_G) (dA : Nat → ClassId) (hst : l.stackTraces = false) (M : jM) (s b m : Nat) (tx : List Nat) (hB : sbT M s b m tx) (i : Nat) (hi : i < 3) (hcl : jCl M) (h60 : tx.length < 590) : jCT l D dA yJ5_append_cf1ce wsJ5_append_cf1ce (28) (780) (sbC (tx.length + jStrL i) m) (sbS (tx.length + jStrL i) m) 2 [.ref (s), .retAddr (i)] M (sbP M s m tx (sbX i) (oR (some s))) := by
  refine jBody (cc := cJ5_append_cf1ce) (nL := 3) (rt := (some (.object "java/lang/AbstractStringBuilder"))) (ini := false) (by decide) rfl hst (Nat.le_of_ble_eq_true rfl) (by simp only [List.forall_mem_cons]; simp [Value.category]) (by intro h9; first | exact absurd h9 (by decide) | rfl) ?_
  show J l D dA RJ5 cJ5_append_cf1ce wsJ5_append_cf1ce 3 false (some (.object "java/lang/AbstractStringBuilder")) [] (28) (780) (jF D dA (jn M) (sbP M s m tx (sbX i) (oR (some s))) 2) (jn M) (sbC (tx.length + jStrL i) m) (sbS (tx.length + jStrL i) m) (M) 0 [.ref (s), .retAddr (i), .float 0] []
  obtain ⟨h1, h2, h3, h4, h5, h6, h7, h8, h9, h10, h11, h12, h13, h14⟩ := id hB
  have hl4 := jStrL_4 i hi
  refine J_aload_ns (i) dJ5_append_cf1ce_0 rfl rfl ?_
  refine J_ifnonnulls dJ5_append_cf1ce_1 (tgt := 9) (by decide) ?_
  refine J_aload_ns (i) dJ5_append_cf1ce_9 rfl rfl ?_
  refine J_calli0 (jrunVS (i := i) (As := []) (ct_J0_length_8abf5 l D dA hst M i hi) dJ5_append_cf1ce_10 yY_J0_length_8abf5 gJ5_append_cf1ce_J0_length_8abf5 rfl hi rfl ⟨by omega, by omega⟩ ⟨Nat.zero_le _, Nat.zero_le _⟩ rfl (Nat.le_of_ble_eq_true rfl)) (rfl) (rfl) ?_
  refine J_istore_n (lv' := [.ref (s), .retAddr (i), .int (nI (jStrL i))]) dJ5_append_cf1ce_13 rfl (by decide) rfl rfl ?_
  refine J_aload_n (s) dJ5_append_cf1ce_14 rfl rfl ?_
  refine J_aload_n (s) dJ5_append_cf1ce_15 rfl rfl ?_
  refine J_geti (j := 3) dJ5_append_cf1ce_16 (fun _ h => List.mem_cons_of_mem _ (List.mem_append_left _ (List.mem_append_right _ (h)))) cs1 (by decide) rfl (List.mem_of_getElem? (i := 1) rfl) rfl h1 h2 ?_
  refine J_topi (y := nI (tx.length)) (h8) ?_
  refine J_iload_n dJ5_append_cf1ce_19 rfl rfl ?_
  refine J_iadd dJ5_append_cf1ce_20 ?_
  refine J_topi (y := nI (tx.length + jStrL i)) (nI_add (tx.length) (jStrL i)) ?_
  refine J_callvA (jrunU (As := [.int (nI (tx.length + jStrL i))]) (ct_J5_ensureCapacityInternal_d00df l D dA hst M s b m tx hB hcl (tx.length + jStrL i) (by omega)) dJ5_append_cf1ce_21 yY_J5_ensureCapacityInternal_d00df gJ5_append_cf1ce_J5_ensureCapacityInternal_d00df_u100J4 rfl cs1 h1 h2 rfl ⟨by omega, by omega⟩ ⟨by omega, by omega⟩ rfl (Nat.le_of_ble_eq_true rfl)) (rfl) ⟨by omega, by omega⟩ ⟨(jOk.ref h1 (jOk.fs (jOk.int jOk.nil))), jOk.nil⟩ ?_
  obtain ⟨b1, hB1, hF1⟩ := sb_grow hB hcl (tx.length + jStrL i) (by omega)
  obtain ⟨M1, hM1⟩ : ∃ Mz, Mz = (if tx.length + jStrL i ≤ m then M else sbG M s b m (sbCap (tx.length + jStrL i) m)) := ⟨_, rfl⟩
  rw [← hM1] at hB1 hF1
  refine J_mem (M' := M1) hM1.symm ?_
  obtain ⟨k1, k2, k3, k4, k5, k6, k7, k8, k9, k10, k11, k12, k13, k14⟩ := id hB1
  have hcg := sbCap_ge (tx.length + jStrL i) m
  have hcl1 := hF1.2.2.2.2.2
  refine J_aload_n (s) dJ5_append_cf1ce_24 rfl rfl ?_
  refine J_aload_n (s) dJ5_append_cf1ce_25 rfl rfl ?_
  refine J_geti (j := 3) dJ5_append_cf1ce_26 (fun _ h => List.mem_cons_of_mem _ (List.mem_append_left _ (List.mem_append_right _ (h)))) cs1 (by decide) rfl (List.mem_of_getElem? (i := 1) rfl) rfl k1 k2 ?_
  refine J_topi (y := nI (tx.length)) (k8) ?_
  refine J_aload_ns (i) dJ5_append_cf1ce_29 rfl rfl ?_
  refine J_callv0 (jrunU (As := [.int (nI (tx.length)), .retAddr (i)]) (ct_J5_putStringAt_47b60 l D dA hst M1 s b1 (sbCap (tx.length + jStrL i) m) tx hB1 i hi tx.length hcg.2) dJ5_append_cf1ce_30 yY_J5_putStringAt_47b60 gJ5_append_cf1ce_J5_putStringAt_47b60_u208J4 rfl cs1 k1 k2 rfl ⟨by omega, by omega⟩ ⟨Nat.zero_le _, Nat.zero_le _⟩ rfl (Nat.le_of_ble_eq_true rfl)) (rfl) (rfl) ?_
  refine J_aload_n (s) dJ5_append_cf1ce_33 rfl rfl ?_
  refine J_dup dJ5_append_cf1ce_34 rfl ?_
  refine J_geti (j := 3) dJ5_append_cf1ce_35 (fun _ h => List.mem_cons_of_mem _ (List.mem_append_left _ (List.mem_append_right _ (h)))) cs1 (by decide) rfl (List.mem_of_getElem? (i := 1) rfl) rfl k1 k2 ?_
  refine J_topi (y := nI (tx.length)) ((by rw [ji_Sv, if_neg hB1.ne.symm]; exact k8)) ?_
  refine J_iload_n dJ5_append_cf1ce_38 rfl rfl ?_
  refine J_iadd dJ5_append_cf1ce_39 ?_
  refine J_topi (y := nI (tx.length + jStrL i)) (nI_add (tx.length) (jStrL i)) ?_
  refine J_puti (j := 3) (x := nI (tx.length + jStrL i)) dJ5_append_cf1ce_40 (fun _ h => List.mem_cons_of_mem _ (List.mem_append_left _ (List.mem_append_right _ (h)))) cs1 cty1 (by decide) rfl (List.mem_of_getElem? (i := 1) rfl) rfl rfl ⟨rfl, rfl⟩ k1 k2 ?_
  refine J_aload_n (s) dJ5_append_cf1ce_43 rfl rfl ?_
  exact J_aret (r := some (s)) dJ5_append_cf1ce_44 rfl (Or.inl ⟨_, rfl⟩) (by unfold sbP; rw [(sbX_B i hi).1]; exact ⟨rfl, b1, (sbT_str hB1 hi hcg.2 hcl1).1, hF1.tr (sbT_str hB1 hi hcg.2 hcl1).2⟩)

theorem dJ4_append_cf468_0 : decode cJ4_append_cf468 0 = .ok (.aload_n 0, 1) := by decide +kernel
theorem dJ4_append_cf468_1 : decode cJ4_append_cf468 1 = .ok (.iload_n 1, 1) := by decide +kernel
theorem dJ4_append_cf468_2 : decode cJ4_append_cf468 2 = .ok (.invokespecial 50, 3) := by decide +kernel
set_option maxRecDepth 20000 in
theorem ggJ4_append_cf468_J5_append_3fe6f : GoodIn wsJ4_append_cf468 wsJ5_append_3fe6f := goodIn_r _ [6, 7, 8, 9, 10, 11, 12, 5, 13, 14, 15, 16, 17, 18, 19, 20, 21, 22, 23, 24, 25, 26, 27, 28, 29, 30, 31, 32, 33, 34, 35, 36, 37, 38, 39, 40, 41, 42, 43, 44, 45, 46, 47, 48, 49, 50, 51, 52, 53, 54, 55, 56, 57, 58, 59, 60, 61, 62, 63, 64, 65, 66, 67, 68, 69, 70, 71, 72, 73, 74, 75, 76, 77, 78, 79, 80, 81, 82, 83, 84, 85, 86, 87, 88, 89, 90, 91, 92, 93, 94, 95, 96, 97, 98, 99, 100, 101, 102, 103, 104, 105, 106, 107, 108, 109, 110, 111, 112, 113, 114, 115, 116] (by decide +kernel) (by decide +kernel)
set_option maxRecDepth 20000 in
theorem gJ4_append_cf468_J5_append_3fe6f_s50 : GoodIn wsJ4_append_cf468 (va_wsSU RJ4 50 yJ5_append_3fe6f wsJ5_append_3fe6f) := goodIn_app (goodIn_of _ (by decide +kernel)) ggJ4_append_cf468_J5_append_3fe6f
theorem yY_J5_append_3fe6f : jY yJ5_append_3fe6f wsJ5_append_3fe6f cJ5_append_3fe6f 2 (some (.object "java/lang/AbstractStringBuilder")) 1 := ⟨⟨_, rfl⟩, by decide +kernel, by decide +kernel, by decide +kernel⟩
theorem dJ4_append_cf468_5 : decode cJ4_append_cf468 5 = .ok (.pop, 1) := by decide +kernel
theorem dJ4_append_cf468_6 : decode cJ4_append_cf468 6 = .ok (.aload_n 0, 1) := by decide +kernel
theorem dJ4_append_cf468_7 : decode cJ4_append_cf468 7 = .ok (.areturn, 1) := by decide +kernel
set_option maxHeartbeats 400000 in
set_option maxRecDepth 20000 in
theorem ct_J4_append_cf468 (l : Launch) (D : va_G) (dA : Nat → ClassId) (hst : l.stackTraces = false) (M : jM) (s b m : Nat) (tx : List Nat) (hB : sbT M s b m tx) (hcl : jCl M) (c : Nat) (hc : c < 128) (h60 : tx.length < 600) : jCT l D dA yJ4_append_cf468 wsJ4_append_cf468 (32) (1020) (sbC (tx.length + 1) m) (sbS (tx.length + 1) m) 2 [.ref (s), .int (nI (c))] M (sbP M s m tx [c] (oR (some s))) := by
  refine jBody (cc := cJ4_append_cf468) (nL := 2) (rt := (some (.object "java/lang/StringBuilder"))) (ini := false) (by decide) rfl hst (Nat.le_of_ble_eq_true rfl) (by simp only [List.forall_mem_cons]; simp [Value.category]) (by intro h9; first | exact absurd h9 (by decide) | rfl) ?_
  show J l D dA RJ4 cJ4_append_cf468 wsJ4_append_cf468 2 false (some (.object "java/lang/StringBuilder")) [] (32) (1020) (jF D dA (jn M) (sbP M s m tx [c] (oR (some s))) 2) (jn M) (sbC (tx.length + 1) m) (sbS (tx.length + 1) m) (M) 0 [.ref (s), .int (nI (c))] []
  obtain ⟨h1, h2, h3, h4, h5, h6, h7, h8, h9, h10, h11, h12, h13, h14⟩ := id hB
  refine J_aload_n (s) dJ4_append_cf468_0 rfl rfl ?_
  refine J_iload_n dJ4_append_cf468_1 rfl rfl ?_
  refine J_callq (jrunSU (As := [.int (nI (c))]) (ct_J5_append_3fe6f l D dA hst M s b m tx hB hcl c hc h60) dJ4_append_cf468_2 yY_J5_append_3fe6f gJ4_append_cf468_J5_append_3fe6f_s50 (by decide) cs1 h1 h2 rfl ⟨by omega, by omega⟩ ⟨by omega, by omega⟩ rfl (Nat.le_of_ble_eq_true rfl)) ⟨by omega, by omega⟩ (Or.inr ⟨(jOk.ref h1 (jOk.int jOk.nil)), jOk.nil⟩) (fun E M9 hp _ => by cases hp.1) (fun x9 M1 hp2 hle2 => ?_)
  refine J_pop dJ4_append_cf468_5 (jcat_rf _) ?_
  refine J_aload_n (s) dJ4_append_cf468_6 rfl rfl ?_
  exact J_aret (r := some (s)) dJ4_append_cf468_7 rfl (Or.inl ⟨_, rfl⟩) (by exact ⟨rfl, hp2.2⟩)

theorem dJ4_append_bf812_0 : decode cJ4_append_bf812 0 = .ok (.aload_n 0, 1) := by decide +kernel
theorem dJ4_append_bf812_1 : decode cJ4_append_bf812 1 = .ok (.iload_n 1, 1) := by decide +kernel
theorem dJ4_append_bf812_2 : decode cJ4_append_bf812 2 = .ok (.invokespecial 53, 3) := by decide +kernel
set_option maxRecDepth 20000 in
theorem ggJ4_append_bf812_J5_append_c97b9 : GoodIn wsJ4_append_bf812 wsJ5_append_c97b9 := goodIn_r _ [6, 7, 8, 9, 10, 11, 12, 13, 14, 15, 16, 5, 17, 18, 19, 20, 21, 22, 23, 24, 25, 26, 27, 28, 29, 30, 31, 32, 33, 34, 35, 36, 37, 38, 39, 40, 41, 42, 43, 44, 45, 46, 47, 48, 49, 50, 51, 52, 53, 54, 55, 56, 57, 58, 59, 60, 61, 62, 63, 64, 65, 66, 67, 68, 69, 70, 71, 72, 73, 74, 75, 76, 77, 78, 79, 80, 81, 82, 83, 84, 85, 86, 87, 88, 89, 90, 91, 92, 93, 94, 95, 96, 97, 98, 99] (by decide +kernel) (by decide +kernel)
set_option maxRecDepth 20000 in
theorem gJ4_append_bf812_J5_append_c97b9_s53 : GoodIn wsJ4_append_bf812 (va_wsSU RJ4 53 yJ5_append_c97b9 wsJ5_append_c97b9) := goodIn_app (goodIn_of _ (by decide +kernel)) ggJ4_append_bf812_J5_append_c97b9
theorem yY_J5_append_c97b9 : jY yJ5_append_c97b9 wsJ5_append_c97b9 cJ5_append_c97b9 4 (some (.object "java/lang/AbstractStringBuilder")) 1 := ⟨⟨_, rfl⟩, by decide +kernel, by decide +kernel, by decide +kernel⟩
theorem dJ4_append_bf812_5 : decode cJ4_append_bf812 5 = .ok (.pop, 1) := by decide +kernel
theorem dJ4_append_bf812_6 : decode cJ4_append_bf812 6 = .ok (.aload_n 0, 1) := by decide +kernel
theorem dJ4_append_bf812_7 : decode cJ4_append_bf812 7 = .ok (.areturn, 1) := by decide +kernel
set_option maxHeartbeats 400000 in
set_option maxRecDepth 20000 in
theorem ct_J4_append_bf812 (l : Launch) (D : va_G) (dA : Nat → ClassId) (hst : l.stackTraces = false) (M : jM) (s b m : Nat) (tx : List Nat) (hB : sbT M s b m tx) (hcl : jCl M) (k : Nat) (hk : k < 100) (h60 : tx.length < 590) : jCT l D dA yJ4_append_bf812 wsJ4_append_bf812 (32) (1020) (sbC (tx.length + (sbD k).length) m) (sbS (tx.length + (sbD k).length) m) 2 [.ref (s), .int (nI (k))] M (sbP M s m tx (sbD k) (oR (some s))) := by
  refine jBody (cc := cJ4_append_bf812) (nL := 2) (rt := (some (.object "java/lang/StringBuilder"))) (ini := false) (by decide) rfl hst (Nat.le_of_ble_eq_true rfl) (by simp only [List.forall_mem_cons]; simp [Value.category]) (by intro h9; first | exact absurd h9 (by decide) | rfl) ?_
  show J l D dA RJ4 cJ4_append_bf812 wsJ4_append_bf812 2 false (some (.object "java/lang/StringBuilder")) [] (32) (1020) (jF D dA (jn M) (sbP M s m tx (sbD k) (oR (some s))) 2) (jn M) (sbC (tx.length + (sbD k).length) m) (sbS (tx.length + (sbD k).length) m) (M) 0 [.ref (s), .int (nI (k))] []
  obtain ⟨h1, h2, h3, h4, h5, h6, h7, h8, h9, h10, h11, h12, h13, h14⟩ := id hB
  refine J_aload_n (s) dJ4_append_bf812_0 rfl rfl ?_
  refine J_iload_n dJ4_append_bf812_1 rfl rfl ?_
  refine J_callq (jrunSU (As := [.int (nI (k))]) (ct_J5_append_c97b9 l D dA hst M s b m tx hB hcl k hk h60) dJ4_append_bf812_2 yY_J5_append_c97b9 gJ4_append_bf812_J5_append_c97b9_s53 (by decide) cs1 h1 h2 rfl ⟨by omega, by omega⟩ ⟨by omega, by omega⟩ rfl (Nat.le_of_ble_eq_true rfl)) ⟨by omega, by omega⟩ (Or.inr ⟨(jOk.ref h1 (jOk.int jOk.nil)), jOk.nil⟩) (fun E M9 hp _ => by cases hp.1) (fun x9 M1 hp2 hle2 => ?_)
  refine J_pop dJ4_append_bf812_5 (jcat_rf _) ?_
  refine J_aload_n (s) dJ4_append_bf812_6 rfl rfl ?_
  exact J_aret (r := some (s)) dJ4_append_bf812_7 rfl (Or.inl ⟨_, rfl⟩) (by exact ⟨rfl, hp2.2⟩)

theorem dJ4_append_15ec4_0 : decode cJ4_append_15ec4 0 = .ok (.aload_n 0, 1) := by decide +kernel
theorem dJ4_append_15ec4_1 : decode cJ4_append_15ec4 1 = .ok (.aload_n 1, 1) := by decide +kernel
theorem dJ4_append_15ec4_2 : decode cJ4_append_15ec4 2 = .ok (.invokespecial 29, 3) := by decide +kernel
set_option maxRecDepth 20000 in
theorem ggJ4_append_15ec4_J5_append_cf1ce : GoodIn wsJ4_append_15ec4 wsJ5_append_cf1ce := goodIn_r _ [6, 7, 8, 9, 10, 11, 5, 12, 13, 14, 15, 16, 17, 18, 19, 20, 21, 22, 23, 24, 25, 26, 27, 28, 29, 30, 31, 32, 33, 34, 35, 36, 37, 38, 39, 40, 41, 42, 43, 44, 45, 46, 47, 48, 49, 50, 51, 52, 53, 54, 55, 56, 57, 58, 59, 60, 61, 62, 63, 64, 65, 66, 67, 68, 69, 70, 71, 72, 73, 74, 75, 76, 77, 78, 79, 80, 81, 82, 83, 84, 85, 86, 87, 88, 89, 90, 91, 92, 93, 94, 95, 96, 97, 98, 99, 100, 101, 102, 103, 104, 105, 106, 107, 108, 109, 110, 111, 112, 113, 114, 115, 116, 117, 118, 119, 120, 121, 122, 123, 124, 125, 126, 127, 128, 129, 130, 131, 132, 133, 134, 135, 136, 137, 138, 139, 140, 141, 142, 143, 144, 145, 146, 147, 148, 149, 150] (by decide +kernel) (by decide +kernel)
set_option maxRecDepth 20000 in
theorem gJ4_append_15ec4_J5_append_cf1ce_s29 : GoodIn wsJ4_append_15ec4 (va_wsSU RJ4 29 yJ5_append_cf1ce wsJ5_append_cf1ce) := goodIn_app (goodIn_of _ (by decide +kernel)) ggJ4_append_15ec4_J5_append_cf1ce
theorem yY_J5_append_cf1ce : jY yJ5_append_cf1ce wsJ5_append_cf1ce cJ5_append_cf1ce 3 (some (.object "java/lang/AbstractStringBuilder")) 1 := ⟨⟨_, rfl⟩, by decide +kernel, by decide +kernel, by decide +kernel⟩
theorem dJ4_append_15ec4_5 : decode cJ4_append_15ec4 5 = .ok (.pop, 1) := by decide +kernel
theorem dJ4_append_15ec4_6 : decode cJ4_append_15ec4 6 = .ok (.aload_n 0, 1) := by decide +kernel
theorem dJ4_append_15ec4_7 : decode cJ4_append_15ec4 7 = .ok (.areturn, 1) := by decide +kernel
set_option maxHeartbeats 400000 in
set_option maxRecDepth 20000 in
theorem ct_J4_append_15ec4 (l : Launch) (D : va_G) (dA : Nat → ClassId) (hst : l.stackTraces = false) (M : jM) (s b m : Nat) (tx : List Nat) (hB : sbT M s b m tx) (hcl : jCl M) (i : Nat) (hi : i < 3) (h60 : tx.length < 590) : jCT l D dA yJ4_append_15ec4 wsJ4_append_15ec4 (32) (1020) (sbC (tx.length + jStrL i) m) (sbS (tx.length + jStrL i) m) 2 [.ref (s), .retAddr (i)] M (sbP M s m tx (sbX i) (oR (some s))) := by
  refine jBody (cc := cJ4_append_15ec4) (nL := 2) (rt := (some (.object "java/lang/StringBuilder"))) (ini := false) (by decide) rfl hst (Nat.le_of_ble_eq_true rfl) (by simp only [List.forall_mem_cons]; simp [Value.category]) (by intro h9; first | exact absurd h9 (by decide) | rfl) ?_
  show J l D dA RJ4 cJ4_append_15ec4 wsJ4_append_15ec4 2 false (some (.object "java/lang/StringBuilder")) [] (32) (1020) (jF D dA (jn M) (sbP M s m tx (sbX i) (oR (some s))) 2) (jn M) (sbC (tx.length + jStrL i) m) (sbS (tx.length + jStrL i) m) (M) 0 [.ref (s), .retAddr (i)] []
  obtain ⟨h1, h2, h3, h4, h5, h6, h7, h8, h9, h10, h11, h12, h13, h14⟩ := id hB
  refine J_aload_n (s) dJ4_append_15ec4_0 rfl rfl ?_
  refine J_aload_ns (i) dJ4_append_15ec4_1 rfl rfl ?_
  refine J_callq (jrunSU (As := [.retAddr (i)]) (ct_J5_append_cf1ce l D dA hst M s b m tx hB i hi hcl h60) dJ4_append_15ec4_2 yY_J5_append_cf1ce gJ4_append_15ec4_J5_append_cf1ce_s29 (by decide) cs1 h1 h2 rfl ⟨by omega, by omega⟩ ⟨by omega, by omega⟩ rfl (Nat.le_of_ble_eq_true rfl)) ⟨by omega, by omega⟩ (Or.inr ⟨(jOk.ref h1 (jOk.fs jOk.nil)), jOk.nil⟩) (fun E M9 hp _ => by cases hp.1) (fun x9 M1 hp2 hle2 => ?_)
  refine J_pop dJ4_append_15ec4_5 (jcat_rf _) ?_
  refine J_aload_n (s) dJ4_append_15ec4_6 rfl rfl ?_
  exact J_aret (r := some (s)) dJ4_append_15ec4_7 rfl (Or.inl ⟨_, rfl⟩) (by exact ⟨rfl, hp2.2⟩)

theorem dJ4_length_8abf5_0 : decode cJ4_length_8abf5 0 = .ok (.aload_n 0, 1) := by decide +kernel
theorem dJ4_length_8abf5_1 : decode cJ4_length_8abf5 1 = .ok (.invokespecial 343, 3) := by decide +kernel
set_option maxRecDepth 20000 in
theorem ggJ4_length_8abf5_J5_length_8abf5 : GoodIn wsJ4_length_8abf5 wsJ5_length_8abf5 := goodIn_r _ [6, 7, 8, 9, 10, 11] (by decide +kernel) (by decide +kernel)
set_option maxRecDepth 20000 in
theorem gJ4_length_8abf5_J5_length_8abf5_s343 : GoodIn wsJ4_length_8abf5 (va_wsSU RJ4 343 yJ5_length_8abf5 wsJ5_length_8abf5) := goodIn_app (goodIn_of _ (by decide +kernel)) ggJ4_length_8abf5_J5_length_8abf5
theorem yY_J5_length_8abf5 : jY yJ5_length_8abf5 wsJ5_length_8abf5 cJ5_length_8abf5 1 (some .int) 0 := ⟨⟨_, rfl⟩, by decide +kernel, by decide +kernel, by decide +kernel⟩
theorem dJ4_length_8abf5_4 : decode cJ4_length_8abf5 4 = .ok (.ireturn, 1) := by decide +kernel
set_option maxHeartbeats 400000 in
set_option maxRecDepth 20000 in
theorem ct_J4_length_8abf5 (l : Launch) (D : va_G) (dA : Nat → ClassId) (hst : l.stackTraces = false) (M : jM) (s b m : Nat) (tx : List Nat) (hB : sbT M s b m tx) : jCT l D dA yJ4_length_8abf5 wsJ4_length_8abf5 (21) (360) (0) (0) 1 [.ref (s)] M (jPo (oI (nI tx.length)) (M)) := by
  refine jBody (cc := cJ4_length_8abf5) (nL := 1) (rt := (some .int)) (ini := false) (by decide) rfl hst (Nat.le_of_ble_eq_true rfl) (by simp [Value.category]) (by intro h9; first | exact absurd h9 (by decide) | rfl) ?_
  show J l D dA RJ4 cJ4_length_8abf5 wsJ4_length_8abf5 1 false (some .int) [] (21) (360) (jF D dA (jn M) (jPo (oI (nI tx.length)) (M)) 1) (jn M) (0) (0) (M) 0 [.ref (s)] []
  obtain ⟨h1, h2, h3, h4, h5, h6, h7, h8, h9, h10, h11, h12, h13, h14⟩ := id hB
  refine J_aload_n (s) dJ4_length_8abf5_0 rfl rfl ?_
  refine J_calli0 (jrunSU (As := []) (ct_J5_length_8abf5 l D dA hst M s b m tx hB) dJ4_length_8abf5_1 yY_J5_length_8abf5 gJ4_length_8abf5_J5_length_8abf5_s343 (by decide) cs1 h1 h2 rfl ⟨by omega, by omega⟩ ⟨Nat.zero_le _, Nat.zero_le _⟩ rfl (Nat.le_of_ble_eq_true rfl)) (rfl) (rfl) ?_
  exact J_iret (ty := .int) dJ4_length_8abf5_4 rfl (rfl) ⟨(by rfl), (by rfl)⟩

set_option maxHeartbeats 400000 in
set_option maxRecDepth 20000 in
theorem ct_ens0 (l : Launch) (D : va_G) (dA : Nat → ClassId) (hst : l.stackTraces = false) (M : jM) (s b m len : Nat) (hB : sbW M s b m len) (hcl : jCl M) : jCT l D dA yJ5_ensureCapacityInternal_d00df wsJ5_ensureCapacityInternal_d00df (20) (300) (0) (0) 0 [.ref (s), .int (0)] M (jPo (oV) (M)) := by
  refine jBody (cc := cJ5_ensureCapacityInternal_d00df) (nL := 3) (rt := none) (ini := false) (by decide) rfl hst (Nat.le_of_ble_eq_true rfl) (by simp [Value.category]) (by intro h9; first | exact absurd h9 (by decide) | rfl) ?_
  show J l D dA RJ5 cJ5_ensureCapacityInternal_d00df wsJ5_ensureCapacityInternal_d00df 3 false none [] (20) (300) (jF D dA (jn M) (jPo (oV) (M)) 0) (jn M) (0) (0) (M) 0 [.ref (s), .int (0), .float 0] []
  obtain ⟨h1, h2, h3, h4, h5, h6, h7, h8, h9, h10, h13, h14⟩ := id hB
  refine J_aload_n (s) dJ5_ensureCapacityInternal_d00df_0 rfl rfl ?_
  refine J_getrs (q := b) h3 dJ5_ensureCapacityInternal_d00df_1 (fun _ h => List.mem_cons_of_mem _ (List.mem_append_right _ (h))) cs1 (by decide) rfl (List.mem_of_getElem? (i := 1) rfl) rfl h1 h2 ?_
  refine J_alen (t := 0) dJ5_ensureCapacityInternal_d00df_4 h4 h5 rfl ?_
  refine J_topi (y := nI (m)) (congrArg nI h6) ?_
  refine J_aload_n (s) dJ5_ensureCapacityInternal_d00df_5 rfl rfl ?_
  refine J_geti (j := 1) dJ5_ensureCapacityInternal_d00df_6 (fun _ h => List.mem_cons_of_mem _ (List.mem_append_right _ (h))) cs1 (by decide) rfl (List.mem_of_getElem? (i := 2) rfl) rfl h1 h2 ?_
  refine J_topi (y := (0)) (h7) ?_
  refine J_ishr0 dJ5_ensureCapacityInternal_d00df_9 ?_
  refine J_istore_n (lv' := [.ref (s), .int (0), .int (nI (m))]) dJ5_ensureCapacityInternal_d00df_10 rfl (by decide) rfl rfl ?_
  refine J_iload_n dJ5_ensureCapacityInternal_d00df_11 rfl rfl ?_
  refine J_iload_n dJ5_ensureCapacityInternal_d00df_12 rfl rfl ?_
  refine J_isub dJ5_ensureCapacityInternal_d00df_13 ?_
  refine J_if_le dJ5_ensureCapacityInternal_d00df_14 (tgt := 38) (by decide) (fun c14 => ?_) (fun c14 => ?_)
  · exact J_vret dJ5_ensureCapacityInternal_d00df_38 rfl ⟨(by rfl), (by rfl)⟩
  · exact absurd ((jsub_le (q := 0) (m := m) (by omega) (by omega)).mpr (Nat.zero_le _)) c14

theorem dJ5_setLength_d00df_0 : decode cJ5_setLength_d00df 0 = .ok (.iload_n 1, 1) := by decide +kernel
theorem dJ5_setLength_d00df_1 : decode cJ5_setLength_d00df 1 = .ok (.ifCond .ge 12, 3) := by decide +kernel
theorem dJ5_setLength_d00df_13 : decode cJ5_setLength_d00df 13 = .ok (.aload_n 0, 1) := by decide +kernel
theorem dJ5_setLength_d00df_14 : decode cJ5_setLength_d00df 14 = .ok (.iload_n 1, 1) := by decide +kernel
theorem dJ5_setLength_d00df_15 : decode cJ5_setLength_d00df 15 = .ok (.invokevirtual 100, 3) := by decide +kernel
set_option maxRecDepth 20000 in
theorem ggJ5_setLength_d00df_J5_ensureCapacityInternal_d00df : GoodIn wsJ5_setLength_d00df wsJ5_ensureCapacityInternal_d00df := goodIn_r _ [12, 5, 13, 14, 15, 16, 17, 11, 18, 19, 20, 21, 22, 23, 24, 25, 26, 27, 28, 29, 30, 31, 32, 33, 34, 35, 36, 37, 38, 39, 40, 41, 42, 43, 44, 45, 46, 47, 48, 49, 83, 84, 85, 86] (by decide +kernel) (by decide +kernel)
set_option maxRecDepth 20000 in
theorem gJ5_setLength_d00df_J5_ensureCapacityInternal_d00df_u100J4 : GoodIn wsJ5_setLength_d00df (va_wsU RJ5 100 RJ4 "java/lang/AbstractStringBuilder" ⟨"java/lang/AbstractStringBuilder", "ensureCapacityInternal", "(I)V"⟩ yJ5_ensureCapacityInternal_d00df wsJ5_ensureCapacityInternal_d00df) := goodIn_app (goodIn_of _ (by decide +kernel)) ggJ5_setLength_d00df_J5_ensureCapacityInternal_d00df
theorem dJ5_setLength_d00df_18 : decode cJ5_setLength_d00df 18 = .ok (.aload_n 0, 1) := by decide +kernel
theorem dJ5_setLength_d00df_19 : decode cJ5_setLength_d00df 19 = .ok (.getfield 79, 3) := by decide +kernel
theorem dJ5_setLength_d00df_22 : decode cJ5_setLength_d00df 22 = .ok (.iload_n 1, 1) := by decide +kernel
theorem dJ5_setLength_d00df_23 : decode cJ5_setLength_d00df 23 = .ok (.if_icmp .ge 40, 3) := by decide +kernel
theorem dJ5_setLength_d00df_63 : decode cJ5_setLength_d00df 63 = .ok (.aload_n 0, 1) := by decide +kernel
theorem dJ5_setLength_d00df_64 : decode cJ5_setLength_d00df 64 = .ok (.getfield 79, 3) := by decide +kernel
theorem dJ5_setLength_d00df_67 : decode cJ5_setLength_d00df 67 = .ok (.iload_n 1, 1) := by decide +kernel
theorem dJ5_setLength_d00df_68 : decode cJ5_setLength_d00df 68 = .ok (.if_icmp .le 8, 3) := by decide +kernel
theorem dJ5_setLength_d00df_76 : decode cJ5_setLength_d00df 76 = .ok (.aload_n 0, 1) := by decide +kernel
theorem dJ5_setLength_d00df_77 : decode cJ5_setLength_d00df 77 = .ok (.iload_n 1, 1) := by decide +kernel
theorem dJ5_setLength_d00df_78 : decode cJ5_setLength_d00df 78 = .ok (.putfield 79, 3) := by decide +kernel
theorem dJ5_setLength_d00df_81 : decode cJ5_setLength_d00df 81 = .ok (.return_, 1) := by decide +kernel
theorem dJ5_setLength_d00df_71 : decode cJ5_setLength_d00df 71 = .ok (.aload_n 0, 1) := by decide +kernel
theorem dJ5_setLength_d00df_72 : decode cJ5_setLength_d00df 72 = .ok (.iconst 1, 1) := by decide +kernel
theorem dJ5_setLength_d00df_73 : decode cJ5_setLength_d00df 73 = .ok (.putfield 73, 3) := by decide +kernel
set_option maxHeartbeats 400000 in
set_option maxRecDepth 20000 in
theorem ct_J5_setLength_d00df (l : Launch) (D : va_G) (dA : Nat → ClassId) (hst : l.stackTraces = false) (M : jM) (s b m len : Nat) (hB : sbW M s b m len) (hcl : jCl M) : jCT l D dA yJ5_setLength_d00df wsJ5_setLength_d00df (21) (360) (0) (0) 0 [.ref (s), .int (0)] M (fun o M1 => o = oV ∧ sbT M1 s b m [] ∧ sbF s M M1) := by
  refine jBody (cc := cJ5_setLength_d00df) (nL := 2) (rt := none) (ini := false) (by decide) rfl hst (Nat.le_of_ble_eq_true rfl) (by simp [Value.category]) (by intro h9; first | exact absurd h9 (by decide) | rfl) ?_
  show J l D dA RJ5 cJ5_setLength_d00df wsJ5_setLength_d00df 2 false none [] (21) (360) (jF D dA (jn M) (fun o M1 => o = oV ∧ sbT M1 s b m [] ∧ sbF s M M1) 0) (jn M) (0) (0) (M) 0 [.ref (s), .int (0)] []
  obtain ⟨h1, h2, h3, h4, h5, h6, h7, h8, h9, h10, h13, h14⟩ := id hB
  refine J_iload_n dJ5_setLength_d00df_0 rfl rfl ?_
  refine J_if_ge dJ5_setLength_d00df_1 (tgt := 13) (by decide) (fun c1 => ?_) (fun c1 => ?_)
  · have c1 := jleT (a := 0) (b := 0) (by omega) (by omega) c1
    refine J_aload_n (s) dJ5_setLength_d00df_13 rfl rfl ?_
    refine J_iload_n dJ5_setLength_d00df_14 rfl rfl ?_
    refine J_callv0 (jrunU (As := [.int (0)]) (ct_ens0 l D dA hst M s b m len hB hcl) dJ5_setLength_d00df_15 yY_J5_ensureCapacityInternal_d00df gJ5_setLength_d00df_J5_ensureCapacityInternal_d00df_u100J4 rfl cs1 h1 h2 rfl ⟨by omega, by omega⟩ ⟨Nat.zero_le _, Nat.zero_le _⟩ rfl (Nat.le_of_ble_eq_true rfl)) (rfl) (rfl) ?_
    refine J_aload_n (s) dJ5_setLength_d00df_18 rfl rfl ?_
    refine J_geti (j := 3) dJ5_setLength_d00df_19 (fun _ h => List.mem_cons_of_mem _ (List.mem_append_left _ (List.mem_append_right _ (h)))) cs1 (by decide) rfl (List.mem_of_getElem? (i := 4) rfl) rfl h1 h2 ?_
    refine J_topi (y := nI (len)) (h8) ?_
    refine J_iload_n dJ5_setLength_d00df_22 rfl rfl ?_
    refine J_icmp_ge dJ5_setLength_d00df_23 (tgt := 63) (by decide) (fun c23 => ?_) (fun c23 => ?_)
    · have c23 := jleT (a := 0) (b := len) (by omega) (by omega) c23
      refine J_aload_n (s) dJ5_setLength_d00df_63 rfl rfl ?_
      refine J_geti (j := 3) dJ5_setLength_d00df_64 (fun _ h => List.mem_cons_of_mem _ (List.mem_append_left _ (List.mem_append_right _ (h)))) cs1 (by decide) rfl (List.mem_of_getElem? (i := 4) rfl) rfl h1 h2 ?_
      refine J_topi (y := nI (len)) (h8) ?_
      refine J_iload_n dJ5_setLength_d00df_67 rfl rfl ?_
      refine J_icmp_le dJ5_setLength_d00df_68 (tgt := 76) (by decide) (fun c68 => ?_) (fun c68 => ?_)
      · have c68 := jleT (a := len) (b := 0) (by omega) (by omega) c68
        refine J_aload_n (s) dJ5_setLength_d00df_76 rfl rfl ?_
        refine J_iload_n dJ5_setLength_d00df_77 rfl rfl ?_
        refine J_puti (j := 3) (x := (0)) dJ5_setLength_d00df_78 (fun _ h => List.mem_cons_of_mem _ (List.mem_append_left _ (List.mem_append_right _ (h)))) cs1 cty1 (by decide) rfl (List.mem_of_getElem? (i := 4) rfl) rfl rfl ⟨rfl, rfl⟩ h1 h2 ?_
        exact J_vret dJ5_setLength_d00df_81 rfl (by refine ⟨rfl, ?_⟩; exact sbW_zero hB rfl rfl rfl rfl rfl rfl (fun a ha => funext fun j => by rw [ji_Si, if_neg (fun hh => ha hh.1)]) (by rw [ji_Si, if_neg (fun hh => absurd hh.2 (by decide))]) (by rw [ji_Si, if_pos ⟨rfl, rfl⟩]) (jCl_Si hcl))
      · have c68 := jleF (a := len) (b := 0) (by omega) (by omega) c68
        refine J_aload_n (s) dJ5_setLength_d00df_71 rfl rfl ?_
        refine J_iconst (x := 1) dJ5_setLength_d00df_72 (by decide) ?_
        refine J_puti (j := 2) (x := (1)) dJ5_setLength_d00df_73 (fun _ h => List.mem_cons_of_mem _ (List.mem_append_left _ (List.mem_append_right _ (h)))) cs1 cty1 (by decide) rfl (List.mem_of_getElem? (i := 6) rfl) rfl rfl ⟨rfl, rfl⟩ h1 h2 ?_
        refine J_aload_n (s) dJ5_setLength_d00df_76 rfl rfl ?_
        refine J_iload_n dJ5_setLength_d00df_77 rfl rfl ?_
        refine J_puti (j := 3) (x := (0)) dJ5_setLength_d00df_78 (fun _ h => List.mem_cons_of_mem _ (List.mem_append_left _ (List.mem_append_right _ (h)))) cs1 cty1 (by decide) rfl (List.mem_of_getElem? (i := 4) rfl) rfl rfl ⟨rfl, rfl⟩ h1 h2 ?_
        exact J_vret dJ5_setLength_d00df_81 rfl (by refine ⟨rfl, ?_⟩; exact sbW_zero hB rfl rfl rfl rfl rfl rfl (fun a ha => funext fun j => by rw [ji_Si, if_neg (fun hh => ha hh.1), ji_Si, if_neg (fun hh => ha hh.1)]) (by rw [ji_Si, if_neg (fun hh => absurd hh.2 (by decide)), ji_Si, if_neg (fun hh => absurd hh.2 (by decide))]) (by rw [ji_Si, if_pos ⟨rfl, rfl⟩]) (jCl_Si (jCl_Si hcl)))
    · have c23 := jleF (a := 0) (b := len) (by omega) (by omega) c23
      exact absurd c23 (by omega)
  · exact absurd c1 (by decide)

theorem dJ4_setLength_d00df_0 : decode cJ4_setLength_d00df 0 = .ok (.aload_n 0, 1) := by decide +kernel
theorem dJ4_setLength_d00df_1 : decode cJ4_setLength_d00df 1 = .ok (.iload_n 1, 1) := by decide +kernel
theorem dJ4_setLength_d00df_2 : decode cJ4_setLength_d00df 2 = .ok (.invokespecial 333, 3) := by decide +kernel
set_option maxRecDepth 20000 in
theorem ggJ4_setLength_d00df_J5_setLength_d00df : GoodIn wsJ4_setLength_d00df wsJ5_setLength_d00df := goodIn_r _ [6, 7, 8, 9, 10, 11, 12, 13, 14, 15, 16, 5, 17, 18, 19, 20, 21, 22, 23, 24, 25, 26, 27, 28, 29, 30, 31, 32, 33, 34, 35, 36, 37, 38, 39, 40, 41, 42, 43, 44, 45, 46, 47, 48, 49, 50, 51, 52, 53, 54, 55, 56, 57, 58, 59, 60, 61, 62, 63, 64, 65, 66, 67, 68, 69, 70, 71, 72, 73, 74, 75, 76, 77, 78, 79, 80, 81, 82, 83, 84, 85, 86, 87, 88, 89, 90, 91, 92, 93, 94, 95, 96, 97] (by decide +kernel) (by decide +kernel)
set_option maxRecDepth 20000 in
theorem gJ4_setLength_d00df_J5_setLength_d00df_s333 : GoodIn wsJ4_setLength_d00df (va_wsSU RJ4 333 yJ5_setLength_d00df wsJ5_setLength_d00df) := goodIn_app (goodIn_of _ (by decide +kernel)) ggJ4_setLength_d00df_J5_setLength_d00df
theorem yY_J5_setLength_d00df : jY yJ5_setLength_d00df wsJ5_setLength_d00df cJ5_setLength_d00df 2 none 1 := ⟨⟨_, rfl⟩, by decide +kernel, by decide +kernel, by decide +kernel⟩
theorem dJ4_setLength_d00df_5 : decode cJ4_setLength_d00df 5 = .ok (.return_, 1) := by decide +kernel
set_option maxHeartbeats 400000 in
set_option maxRecDepth 20000 in
theorem ct_J4_setLength_d00df (l : Launch) (D : va_G) (dA : Nat → ClassId) (hst : l.stackTraces = false) (M : jM) (s b m len : Nat) (hB : sbW M s b m len) (hcl : jCl M) : jCT l D dA yJ4_setLength_d00df wsJ4_setLength_d00df (22) (420) (0) (0) 0 [.ref (s), .int (0)] M (fun o M1 => o = oV ∧ sbT M1 s b m [] ∧ sbF s M M1) := by
  refine jBody (cc := cJ4_setLength_d00df) (nL := 2) (rt := none) (ini := false) (by decide) rfl hst (Nat.le_of_ble_eq_true rfl) (by simp [Value.category]) (by intro h9; first | exact absurd h9 (by decide) | rfl) ?_
  show J l D dA RJ4 cJ4_setLength_d00df wsJ4_setLength_d00df 2 false none [] (22) (420) (jF D dA (jn M) (fun o M1 => o = oV ∧ sbT M1 s b m [] ∧ sbF s M M1) 0) (jn M) (0) (0) (M) 0 [.ref (s), .int (0)] []
  obtain ⟨h1, h2, h3, h4, h5, h6, h7, h8, h9, h10, h13, h14⟩ := id hB
  refine J_aload_n (s) dJ4_setLength_d00df_0 rfl rfl ?_
  refine J_iload_n dJ4_setLength_d00df_1 rfl rfl ?_
  refine J_callv (jrunSU (As := [.int (0)]) (ct_J5_setLength_d00df l D dA hst M s b m len hB hcl) dJ4_setLength_d00df_2 yY_J5_setLength_d00df gJ4_setLength_d00df_J5_setLength_d00df_s333 (by decide) cs1 h1 h2 rfl ⟨by omega, by omega⟩ ⟨Nat.zero_le _, Nat.zero_le _⟩ rfl (Nat.le_of_ble_eq_true rfl)) ⟨Nat.zero_le _, Nat.zero_le _⟩ (Or.inr ⟨(jOk.ref h1 (jOk.int jOk.nil)), jOk.nil⟩) (fun E M9 hp _ => by cases hp.1) (fun M1 hp2 hle2 => ?_)
  exact J_vret dJ4_setLength_d00df_5 rfl (by exact hp2)

theorem dJ3_checkIndex_8e157_0 : decode cJ3_checkIndex_8e157 0 = .ok (.iload_n 0, 1) := by decide +kernel
theorem dJ3_checkIndex_8e157_1 : decode cJ3_checkIndex_8e157 1 = .ok (.ifCond .lt 8, 3) := by decide +kernel
theorem dJ3_checkIndex_8e157_4 : decode cJ3_checkIndex_8e157 4 = .ok (.iload_n 0, 1) := by decide +kernel
theorem dJ3_checkIndex_8e157_5 : decode cJ3_checkIndex_8e157 5 = .ok (.iload_n 1, 1) := by decide +kernel
theorem dJ3_checkIndex_8e157_6 : decode cJ3_checkIndex_8e157 6 = .ok (.if_icmp .lt 10, 3) := by decide +kernel
theorem dJ3_checkIndex_8e157_16 : decode cJ3_checkIndex_8e157 16 = .ok (.iload_n 0, 1) := by decide +kernel
theorem dJ3_checkIndex_8e157_17 : decode cJ3_checkIndex_8e157 17 = .ok (.ireturn, 1) := by decide +kernel
set_option maxHeartbeats 400000 in
set_option maxRecDepth 20000 in
theorem ct_J3_checkIndex_n (l : Launch) (D : va_G) (dA : Nat → ClassId) (hst : l.stackTraces = false) (M : jM) (k z : Nat) (hk : k < z) (hz : z < 2 ^ 31) : jCT l D dA yJ3_checkIndex_8e157 wsJ3_checkIndex_8e157 (20) (300) (0) (0) 1 [.int (nI (k)), .int (nI (z)), .null] M (jPo (oI (nI k)) (M)) := by
  refine jBody (cc := cJ3_checkIndex_8e157) (nL := 3) (rt := (some .int)) (ini := false) (by decide) rfl hst (Nat.le_of_ble_eq_true rfl) (by simp [Value.category]) (by intro h9; first | exact absurd h9 (by decide) | rfl) ?_
  show J l D dA RJ3 cJ3_checkIndex_8e157 wsJ3_checkIndex_8e157 3 false (some .int) [] (20) (300) (jF D dA (jn M) (jPo (oI (nI k)) (M)) 1) (jn M) (0) (0) (M) 0 [.int (nI (k)), .int (nI (z)), .null] []
  refine J_iload_n dJ3_checkIndex_8e157_0 rfl rfl ?_
  refine J_if_lt dJ3_checkIndex_8e157_1 (tgt := 9) (by decide) (fun c1 => ?_) (fun c1 => ?_)
  · have c1 := jltT (a := k) (b := 0) (by omega) (by omega) c1
    exact absurd c1 (by omega)
  · have c1 := jltF (a := k) (b := 0) (by omega) (by omega) c1
    refine J_iload_n dJ3_checkIndex_8e157_4 rfl rfl ?_
    refine J_iload_n dJ3_checkIndex_8e157_5 rfl rfl ?_
    refine J_icmp_lt dJ3_checkIndex_8e157_6 (tgt := 16) (by decide) (fun c6 => ?_) (fun c6 => ?_)
    · have c6 := jltT (a := k) (b := z) (by omega) (by omega) c6
      refine J_iload_n dJ3_checkIndex_8e157_16 rfl rfl ?_
      exact J_iret (ty := .int) dJ3_checkIndex_8e157_17 rfl (rfl) ⟨(by rfl), (by rfl)⟩
    · have c6 := jltF (a := k) (b := z) (by omega) (by omega) c6
      exact absurd c6 (by omega)

set_option maxHeartbeats 400000 in
set_option maxRecDepth 20000 in
theorem ct_J3_checkIndex_s (l : Launch) (D : va_G) (dA : Nat → ClassId) (hst : l.stackTraces = false) (M : jM) (k z : Nat) (hk : k < z) (hz : z < 2 ^ 31) : jCT l D dA yJ3_checkIndex_8e157 wsJ3_checkIndex_8e157 (20) (300) (0) (0) 1 [.int (nI (k)), .int (nI (z)), .retAddr (3)] M (jPo (oI (nI k)) (M)) := by
  refine jBody (cc := cJ3_checkIndex_8e157) (nL := 3) (rt := (some .int)) (ini := false) (by decide) rfl hst (Nat.le_of_ble_eq_true rfl) (by simp [Value.category]) (by intro h9; first | exact absurd h9 (by decide) | rfl) ?_
  show J l D dA RJ3 cJ3_checkIndex_8e157 wsJ3_checkIndex_8e157 3 false (some .int) [] (20) (300) (jF D dA (jn M) (jPo (oI (nI k)) (M)) 1) (jn M) (0) (0) (M) 0 [.int (nI (k)), .int (nI (z)), .retAddr (3)] []
  refine J_iload_n dJ3_checkIndex_8e157_0 rfl rfl ?_
  refine J_if_lt dJ3_checkIndex_8e157_1 (tgt := 9) (by decide) (fun c1 => ?_) (fun c1 => ?_)
  · have c1 := jltT (a := k) (b := 0) (by omega) (by omega) c1
    exact absurd c1 (by omega)
  · have c1 := jltF (a := k) (b := 0) (by omega) (by omega) c1
    refine J_iload_n dJ3_checkIndex_8e157_4 rfl rfl ?_
    refine J_iload_n dJ3_checkIndex_8e157_5 rfl rfl ?_
    refine J_icmp_lt dJ3_checkIndex_8e157_6 (tgt := 16) (by decide) (fun c6 => ?_) (fun c6 => ?_)
    · have c6 := jltT (a := k) (b := z) (by omega) (by omega) c6
      refine J_iload_n dJ3_checkIndex_8e157_16 rfl rfl ?_
      exact J_iret (ty := .int) dJ3_checkIndex_8e157_17 rfl (rfl) ⟨(by rfl), (by rfl)⟩
    · have c6 := jltF (a := k) (b := z) (by omega) (by omega) c6
      exact absurd c6 (by omega)

theorem dJ0_checkIndex_df160_0 : decode cJ0_checkIndex_df160 0 = .ok (.iload_n 0, 1) := by decide +kernel
theorem dJ0_checkIndex_df160_1 : decode cJ0_checkIndex_df160 1 = .ok (.iload_n 1, 1) := by decide +kernel
theorem dJ0_checkIndex_df160_2 : decode cJ0_checkIndex_df160 2 = .ok (.getstatic 1053, 3) := by decide +kernel
theorem dJ0_checkIndex_df160_5 : decode cJ0_checkIndex_df160 5 = .ok (.invokestatic 1059, 3) := by decide +kernel
set_option maxRecDepth 20000 in
theorem ggJ0_checkIndex_df160_J3_checkIndex_8e157 : GoodIn wsJ0_checkIndex_df160 wsJ3_checkIndex_8e157 := goodIn_r _ [5] (by decide +kernel) (by decide +kernel)
set_option maxRecDepth 20000 in
theorem gJ0_checkIndex_df160_J3_checkIndex_8e157 : GoodIn wsJ0_checkIndex_df160 (va_wsS RJ0 1059 yJ3_checkIndex_8e157 wsJ3_checkIndex_8e157) := goodIn_app (goodIn_of _ (by decide +kernel)) ggJ0_checkIndex_df160_J3_checkIndex_8e157
theorem yY_J3_checkIndex_8e157 : jY yJ3_checkIndex_8e157 wsJ3_checkIndex_8e157 cJ3_checkIndex_8e157 3 (some .int) 3 := ⟨⟨_, rfl⟩, by decide +kernel, by decide +kernel, by decide +kernel⟩
theorem dJ0_checkIndex_df160_8 : decode cJ0_checkIndex_df160 8 = .ok (.pop, 1) := by decide +kernel
theorem dJ0_checkIndex_df160_9 : decode cJ0_checkIndex_df160 9 = .ok (.return_, 1) := by decide +kernel
set_option maxHeartbeats 400000 in
set_option maxRecDepth 20000 in
theorem ct_J0_checkIndex_df160 (l : Launch) (D : va_G) (dA : Nat → ClassId) (hst : l.stackTraces = false) (M : jM) (k z : Nat) (hk : k < z) (hz : z < 2 ^ 31) : jCT l D dA yJ0_checkIndex_df160 wsJ0_checkIndex_df160 (21) (360) (0) (0) 0 [.int (nI (k)), .int (nI (z))] M (jPo (oV) (M)) := by
  refine jBody (cc := cJ0_checkIndex_df160) (nL := 2) (rt := none) (ini := false) (by decide) rfl hst (Nat.le_of_ble_eq_true rfl) (by simp [Value.category]) (by intro h9; first | exact absurd h9 (by decide) | rfl) ?_
  show J l D dA RJ0 cJ0_checkIndex_df160 wsJ0_checkIndex_df160 2 false none [] (21) (360) (jF D dA (jn M) (jPo (oV) (M)) 0) (jn M) (0) (0) (M) 0 [.int (nI (k)), .int (nI (z))] []
  refine J_iload_n dJ0_checkIndex_df160_0 rfl rfl ?_
  refine J_iload_n dJ0_checkIndex_df160_1 rfl rfl ?_
  refine J_getsF dJ0_checkIndex_df160_2 (List.mem_of_getElem? (i := 1) rfl) ?_ ?_
  · refine J_calli0 (jrunS (As := [.int (nI (k)), .int (nI (z)), .null]) (ct_J3_checkIndex_n l D dA hst M (k) (z) (by omega) (by omega)) dJ0_checkIndex_df160_5 yY_J3_checkIndex_8e157 gJ0_checkIndex_df160_J3_checkIndex_8e157 rfl ⟨by omega, by omega⟩ ⟨Nat.zero_le _, Nat.zero_le _⟩ rfl (Nat.le_of_ble_eq_true rfl)) (rfl) (rfl) ?_
    refine J_pop dJ0_checkIndex_df160_8 rfl ?_
    exact J_vret dJ0_checkIndex_df160_9 rfl ⟨(by rfl), (by rfl)⟩
  · refine J_calli0 (jrunS (As := [.int (nI (k)), .int (nI (z)), .retAddr (3)]) (ct_J3_checkIndex_s l D dA hst M (k) (z) (by omega) (by omega)) dJ0_checkIndex_df160_5 yY_J3_checkIndex_8e157 gJ0_checkIndex_df160_J3_checkIndex_8e157 rfl ⟨by omega, by omega⟩ ⟨Nat.zero_le _, Nat.zero_le _⟩ rfl (Nat.le_of_ble_eq_true rfl)) (rfl) (rfl) ?_
    refine J_pop dJ0_checkIndex_df160_8 rfl ?_
    exact J_vret dJ0_checkIndex_df160_9 rfl ⟨(by rfl), (by rfl)⟩

theorem dJ5_charAt_5068e_0 : decode cJ5_charAt_5068e 0 = .ok (.aload_n 0, 1) := by decide +kernel
theorem dJ5_charAt_5068e_1 : decode cJ5_charAt_5068e 1 = .ok (.getfield 22, 3) := by decide +kernel
theorem dJ5_charAt_5068e_4 : decode cJ5_charAt_5068e 4 = .ok (.istore_n 2, 1) := by decide +kernel
theorem dJ5_charAt_5068e_5 : decode cJ5_charAt_5068e 5 = .ok (.aload_n 0, 1) := by decide +kernel
theorem dJ5_charAt_5068e_6 : decode cJ5_charAt_5068e 6 = .ok (.getfield 15, 3) := by decide +kernel
theorem dJ5_charAt_5068e_9 : decode cJ5_charAt_5068e 9 = .ok (.astore_n 3, 1) := by decide +kernel
theorem dJ5_charAt_5068e_10 : decode cJ5_charAt_5068e 10 = .ok (.aload_n 0, 1) := by decide +kernel
theorem dJ5_charAt_5068e_11 : decode cJ5_charAt_5068e 11 = .ok (.getfield 79, 3) := by decide +kernel
theorem dJ5_charAt_5068e_14 : decode cJ5_charAt_5068e 14 = .ok (.aload_n 3, 1) := by decide +kernel
theorem dJ5_charAt_5068e_15 : decode cJ5_charAt_5068e 15 = .ok (.arraylength, 1) := by decide +kernel
theorem dJ5_charAt_5068e_16 : decode cJ5_charAt_5068e 16 = .ok (.iload_n 2, 1) := by decide +kernel
theorem dJ5_charAt_5068e_17 : decode cJ5_charAt_5068e 17 = .ok (.ishr, 1) := by decide +kernel
theorem dJ5_charAt_5068e_18 : decode cJ5_charAt_5068e 18 = .ok (.invokestatic 138, 3) := by decide +kernel
theorem dJ5_charAt_5068e_21 : decode cJ5_charAt_5068e 21 = .ok (.istore 4, 2) := by decide +kernel
theorem dJ5_charAt_5068e_23 : decode cJ5_charAt_5068e 23 = .ok (.iload_n 1, 1) := by decide +kernel
theorem dJ5_charAt_5068e_24 : decode cJ5_charAt_5068e 24 = .ok (.iload 4, 2) := by decide +kernel
theorem dJ5_charAt_5068e_26 : decode cJ5_charAt_5068e 26 = .ok (.invokestatic 144, 3) := by decide +kernel
set_option maxRecDepth 20000 in
theorem ggJ5_charAt_5068e_J0_checkIndex_df160 : GoodIn wsJ5_charAt_5068e wsJ0_checkIndex_df160 := goodIn_r _ [11, 12, 13, 14, 15, 16] (by decide +kernel) (by decide +kernel)
set_option maxRecDepth 20000 in
theorem gJ5_charAt_5068e_J0_checkIndex_df160 : GoodIn wsJ5_charAt_5068e (va_wsS RJ5 144 yJ0_checkIndex_df160 wsJ0_checkIndex_df160) := goodIn_app (goodIn_of _ (by decide +kernel)) ggJ5_charAt_5068e_J0_checkIndex_df160
theorem yY_J0_checkIndex_df160 : jY yJ0_checkIndex_df160 wsJ0_checkIndex_df160 cJ0_checkIndex_df160 2 none 2 := ⟨⟨_, rfl⟩, by decide +kernel, by decide +kernel, by decide +kernel⟩
theorem dJ5_charAt_5068e_29 : decode cJ5_charAt_5068e 29 = .ok (.iload_n 2, 1) := by decide +kernel
theorem dJ5_charAt_5068e_30 : decode cJ5_charAt_5068e 30 = .ok (.ifCond .ne 12, 3) := by decide +kernel
theorem dJ5_charAt_5068e_33 : decode cJ5_charAt_5068e 33 = .ok (.aload_n 3, 1) := by decide +kernel
theorem dJ5_charAt_5068e_34 : decode cJ5_charAt_5068e 34 = .ok (.iload_n 1, 1) := by decide +kernel
theorem dJ5_charAt_5068e_35 : decode cJ5_charAt_5068e 35 = .ok (.baload, 1) := by decide +kernel
theorem dJ5_charAt_5068e_36 : decode cJ5_charAt_5068e 36 = .ok (.sipush 255, 3) := by decide +kernel
theorem dJ5_charAt_5068e_39 : decode cJ5_charAt_5068e 39 = .ok (.iand, 1) := by decide +kernel
theorem dJ5_charAt_5068e_40 : decode cJ5_charAt_5068e 40 = .ok (.i2c, 1) := by decide +kernel
theorem dJ5_charAt_5068e_41 : decode cJ5_charAt_5068e 41 = .ok (.ireturn, 1) := by decide +kernel
set_option maxHeartbeats 400000 in
set_option maxRecDepth 20000 in
theorem ct_J5_charAt_5068e (l : Launch) (D : va_G) (dA : Nat → ClassId) (hst : l.stackTraces = false) (M : jM) (s b m : Nat) (tx : List Nat) (hB : sbT M s b m tx) (k : Nat) (hk : k < tx.length) : jCT l D dA yJ5_charAt_5068e wsJ5_charAt_5068e (22) (420) (0) (0) 1 [.ref (s), .int (nI (k))] M (jPo (oI (nI (tx.getD k 0))) (M)) := by
  refine jBody (cc := cJ5_charAt_5068e) (nL := 5) (rt := (some .char)) (ini := false) (by decide) rfl hst (Nat.le_of_ble_eq_true rfl) (by simp [Value.category]) (by intro h9; first | exact absurd h9 (by decide) | rfl) ?_
  show J l D dA RJ5 cJ5_charAt_5068e wsJ5_charAt_5068e 5 false (some .char) [] (22) (420) (jF D dA (jn M) (jPo (oI (nI (tx.getD k 0))) (M)) 1) (jn M) (0) (0) (M) 0 [.ref (s), .int (nI (k)), .float 0, .float 0, .float 0] []
  obtain ⟨h1, h2, h3, h4, h5, h6, h7, h8, h9, h10, h11, h12, h13, h14⟩ := id hB
  refine J_aload_n (s) dJ5_charAt_5068e_0 rfl rfl ?_
  refine J_geti (j := 1) dJ5_charAt_5068e_1 (fun _ h => List.mem_cons_of_mem _ (List.mem_append_right _ (h))) cs1 (by decide) rfl (List.mem_of_getElem? (i := 1) rfl) rfl h1 h2 ?_
  refine J_topi (y := (0)) (h7) ?_
  refine J_istore_n (lv' := [.ref (s), .int (nI (k)), .int (0), .float 0, .float 0]) dJ5_charAt_5068e_4 rfl (by decide) rfl rfl ?_
  refine J_aload_n (s) dJ5_charAt_5068e_5 rfl rfl ?_
  refine J_getrs (q := b) h3 dJ5_charAt_5068e_6 (fun _ h => List.mem_cons_of_mem _ (List.mem_append_right _ (h))) cs1 (by decide) rfl (List.mem_of_getElem? (i := 2) rfl) rfl h1 h2 ?_
  refine J_astore_n (x := b) (lv' := [.ref (s), .int (nI (k)), .int (0), .ref (b), .float 0]) dJ5_charAt_5068e_9 rfl (by decide) rfl rfl ?_
  refine J_aload_n (s) dJ5_charAt_5068e_10 rfl rfl ?_
  refine J_geti (j := 3) dJ5_charAt_5068e_11 (fun _ h => List.mem_cons_of_mem _ (List.mem_append_right _ (h))) cs1 (by decide) rfl (List.mem_of_getElem? (i := 3) rfl) rfl h1 h2 ?_
  refine J_topi (y := nI (tx.length)) (h8) ?_
  refine J_aload_n (b) dJ5_charAt_5068e_14 rfl rfl ?_
  refine J_alen (t := 0) dJ5_charAt_5068e_15 h4 h5 rfl ?_
  refine J_topi (y := nI (m)) (congrArg nI h6) ?_
  refine J_iload_n dJ5_charAt_5068e_16 rfl rfl ?_
  refine J_ishr0 dJ5_charAt_5068e_17 ?_
  refine J_mmin dJ5_charAt_5068e_18 (List.mem_of_getElem? (i := 4) rfl) (List.mem_of_getElem? (i := 5) rfl) (List.mem_of_getElem? (i := 6) rfl) (List.mem_of_getElem? (i := 7) rfl) (Nat.le_of_ble_eq_true rfl) (by omega) (by omega) ?_
  refine J_topi (y := nI (tx.length)) (by exact if_neg (nI_nlt (by omega) (by omega))) ?_
  refine J_istore (lv' := [.ref (s), .int (nI (k)), .int (0), .ref (b), .int (nI (tx.length))]) dJ5_charAt_5068e_21 (by decide) rfl rfl ?_
  refine J_iload_n dJ5_charAt_5068e_23 rfl rfl ?_
  refine J_iload dJ5_charAt_5068e_24 rfl ?_
  refine J_callv0 (jrunS (As := [.int (nI (k)), .int (nI (tx.length))]) (ct_J0_checkIndex_df160 l D dA hst M (k) (tx.length) (by omega) (by omega)) dJ5_charAt_5068e_26 yY_J0_checkIndex_df160 gJ5_charAt_5068e_J0_checkIndex_df160 rfl ⟨by omega, by omega⟩ ⟨Nat.zero_le _, Nat.zero_le _⟩ rfl (Nat.le_of_ble_eq_true rfl)) (rfl) (rfl) ?_
  refine J_iload_n dJ5_charAt_5068e_29 rfl rfl ?_
  refine J_if_ne dJ5_charAt_5068e_30 (tgt := 42) (by decide) (fun c30 => ?_) (fun c30 => ?_)
  · exact absurd c30 (by decide)
  · have c30 := jeqT (a := 0) (b := 0) (by omega) (by omega) c30
    refine J_aload_n (b) dJ5_charAt_5068e_33 rfl rfl ?_
    refine J_iload_n dJ5_charAt_5068e_34 rfl rfl ?_
    refine J_baldN (k := k) dJ5_charAt_5068e_35 h4 h5 (by exact Nat.lt_of_lt_of_eq (show _ < m by omega) (Eq.symm h6)) (by exact Nat.lt_of_le_of_lt (Nat.le_of_eq h6) (show m < 2 ^ 31 by omega)) ?_
    refine J_topi (y := nI (tx.getD k 0)) (by exact h11 k hk) ?_
    refine J_sipush (x := 255) dJ5_charAt_5068e_36 (by decide) ?_
    refine J_iand dJ5_charAt_5068e_39 ?_
    refine J_i2c dJ5_charAt_5068e_40 ?_
    refine J_topi (y := nI (tx.getD k 0)) (by exact nI_255 (hB.lt hk)) ?_
    exact J_iret (ty := .char) dJ5_charAt_5068e_41 rfl (nI_nar _ (hB.lt hk)) ⟨(by rfl), (by rfl)⟩

theorem dJ4_charAt_5068e_0 : decode cJ4_charAt_5068e 0 = .ok (.aload_n 0, 1) := by decide +kernel
theorem dJ4_charAt_5068e_1 : decode cJ4_charAt_5068e 1 = .ok (.iload_n 1, 1) := by decide +kernel
theorem dJ4_charAt_5068e_2 : decode cJ4_charAt_5068e 2 = .ok (.invokespecial 329, 3) := by decide +kernel
set_option maxRecDepth 20000 in
theorem ggJ4_charAt_5068e_J5_charAt_5068e : GoodIn wsJ4_charAt_5068e wsJ5_charAt_5068e := goodIn_r _ [6, 7, 8, 9, 10, 11, 12, 13, 14, 15, 16, 17, 18, 19, 20, 21, 22, 23, 24, 25, 26, 27, 28, 29, 30, 31, 32, 33, 34, 35, 36] (by decide +kernel) (by decide +kernel)
set_option maxRecDepth 20000 in
theorem gJ4_charAt_5068e_J5_charAt_5068e_s329 : GoodIn wsJ4_charAt_5068e (va_wsSU RJ4 329 yJ5_charAt_5068e wsJ5_charAt_5068e) := goodIn_app (goodIn_of _ (by decide +kernel)) ggJ4_charAt_5068e_J5_charAt_5068e
theorem yY_J5_charAt_5068e : jY yJ5_charAt_5068e wsJ5_charAt_5068e cJ5_charAt_5068e 5 (some .char) 1 := ⟨⟨_, rfl⟩, by decide +kernel, by decide +kernel, by decide +kernel⟩
theorem dJ4_charAt_5068e_5 : decode cJ4_charAt_5068e 5 = .ok (.ireturn, 1) := by decide +kernel
set_option maxHeartbeats 400000 in
set_option maxRecDepth 20000 in
theorem ct_J4_charAt_5068e (l : Launch) (D : va_G) (dA : Nat → ClassId) (hst : l.stackTraces = false) (M : jM) (s b m : Nat) (tx : List Nat) (hB : sbT M s b m tx) (k : Nat) (hk : k < tx.length) : jCT l D dA yJ4_charAt_5068e wsJ4_charAt_5068e (23) (480) (0) (0) 1 [.ref (s), .int (nI (k))] M (jPo (oI (nI (tx.getD k 0))) (M)) := by
  refine jBody (cc := cJ4_charAt_5068e) (nL := 2) (rt := (some .char)) (ini := false) (by decide) rfl hst (Nat.le_of_ble_eq_true rfl) (by simp [Value.category]) (by intro h9; first | exact absurd h9 (by decide) | rfl) ?_
  show J l D dA RJ4 cJ4_charAt_5068e wsJ4_charAt_5068e 2 false (some .char) [] (23) (480) (jF D dA (jn M) (jPo (oI (nI (tx.getD k 0))) (M)) 1) (jn M) (0) (0) (M) 0 [.ref (s), .int (nI (k))] []
  obtain ⟨h1, h2, h3, h4, h5, h6, h7, h8, h9, h10, h11, h12, h13, h14⟩ := id hB
  refine J_aload_n (s) dJ4_charAt_5068e_0 rfl rfl ?_
  refine J_iload_n dJ4_charAt_5068e_1 rfl rfl ?_
  refine J_calli0 (jrunSU (As := [.int (nI (k))]) (ct_J5_charAt_5068e l D dA hst M s b m tx hB k hk) dJ4_charAt_5068e_2 yY_J5_charAt_5068e gJ4_charAt_5068e_J5_charAt_5068e_s329 (by decide) cs1 h1 h2 rfl ⟨by omega, by omega⟩ ⟨Nat.zero_le _, Nat.zero_le _⟩ rfl (Nat.le_of_ble_eq_true rfl)) (rfl) (rfl) ?_
  exact J_iret (ty := .char) dJ4_charAt_5068e_5 rfl (nI_nar _ (hB.lt hk)) ⟨(by rfl), (by rfl)⟩

theorem dJ1_charAt_3b067_0 : decode cJ1_charAt_3b067 0 = .ok (.iload_n 1, 1) := by decide +kernel
theorem dJ1_charAt_3b067_1 : decode cJ1_charAt_3b067 1 = .ok (.aload_n 0, 1) := by decide +kernel
theorem dJ1_charAt_3b067_2 : decode cJ1_charAt_3b067 2 = .ok (.arraylength, 1) := by decide +kernel
theorem dJ1_charAt_3b067_3 : decode cJ1_charAt_3b067 3 = .ok (.invokestatic 9, 3) := by decide +kernel
set_option maxRecDepth 20000 in
theorem ggJ1_charAt_3b067_J0_checkIndex_df160 : GoodIn wsJ1_charAt_3b067 wsJ0_checkIndex_df160 := goodIn_r _ [4, 5, 6, 7, 8, 9] (by decide +kernel) (by decide +kernel)
set_option maxRecDepth 20000 in
theorem gJ1_charAt_3b067_J0_checkIndex_df160 : GoodIn wsJ1_charAt_3b067 (va_wsS RJ1 9 yJ0_checkIndex_df160 wsJ0_checkIndex_df160) := goodIn_app (goodIn_of _ (by decide +kernel)) ggJ1_charAt_3b067_J0_checkIndex_df160
theorem dJ1_charAt_3b067_6 : decode cJ1_charAt_3b067 6 = .ok (.aload_n 0, 1) := by decide +kernel
theorem dJ1_charAt_3b067_7 : decode cJ1_charAt_3b067 7 = .ok (.iload_n 1, 1) := by decide +kernel
theorem dJ1_charAt_3b067_8 : decode cJ1_charAt_3b067 8 = .ok (.baload, 1) := by decide +kernel
theorem dJ1_charAt_3b067_9 : decode cJ1_charAt_3b067 9 = .ok (.sipush 255, 3) := by decide +kernel
theorem dJ1_charAt_3b067_12 : decode cJ1_charAt_3b067 12 = .ok (.iand, 1) := by decide +kernel
theorem dJ1_charAt_3b067_13 : decode cJ1_charAt_3b067 13 = .ok (.i2c, 1) := by decide +kernel
theorem dJ1_charAt_3b067_14 : decode cJ1_charAt_3b067 14 = .ok (.ireturn, 1) := by decide +kernel
set_option maxHeartbeats 400000 in
set_option maxRecDepth 20000 in
theorem ct_J1_charAt_3b067 (l : Launch) (D : va_G) (dA : Nat → ClassId) (hst : l.stackTraces = false) (M : jM) (i : Nat) (hi : i < 3) (k : Nat) (hk : k < jStrL i) : jCT l D dA yJ1_charAt_3b067 wsJ1_charAt_3b067 (22) (420) (0) (0) 1 [.retAddr (10 + i), .int (nI (k))] M (jPo (oI (nI ((sbX i).getD k 0))) (M)) := by
  refine jBody (cc := cJ1_charAt_3b067) (nL := 2) (rt := (some .char)) (ini := false) (by decide) rfl hst (Nat.le_of_ble_eq_true rfl) (by simp only [List.forall_mem_cons]; simp [Value.category]) (by intro h9; first | exact absurd h9 (by decide) | rfl) ?_
  show J l D dA RJ1 cJ1_charAt_3b067 wsJ1_charAt_3b067 2 false (some .char) [] (22) (420) (jF D dA (jn M) (jPo (oI (nI ((sbX i).getD k 0))) (M)) 1) (jn M) (0) (0) (M) 0 [.retAddr (10 + i), .int (nI (k))] []
  have hl4 := jStrL_4 i hi
  refine J_iload_n dJ1_charAt_3b067_0 rfl rfl ?_
  refine J_aload_ns (10 + i) dJ1_charAt_3b067_1 rfl rfl ?_
  refine J_alenS (i := i) hi dJ1_charAt_3b067_2 ?_
  refine J_callv0 (jrunS (As := [.int (nI (k)), .int (nI (jStrL i))]) (ct_J0_checkIndex_df160 l D dA hst M (k) (jStrL i) (by omega) (by omega)) dJ1_charAt_3b067_3 yY_J0_checkIndex_df160 gJ1_charAt_3b067_J0_checkIndex_df160 rfl ⟨by omega, by omega⟩ ⟨Nat.zero_le _, Nat.zero_le _⟩ rfl (Nat.le_of_ble_eq_true rfl)) (rfl) (rfl) ?_
  refine J_aload_ns (10 + i) dJ1_charAt_3b067_6 rfl rfl ?_
  refine J_iload_n dJ1_charAt_3b067_7 rfl rfl ?_
  refine J_baldS (i := i) (kq := k) hi dJ1_charAt_3b067_8 (by omega) ?_
  refine J_sipush (x := 255) dJ1_charAt_3b067_9 (by decide) ?_
  refine J_iand dJ1_charAt_3b067_12 ?_
  refine J_i2c dJ1_charAt_3b067_13 ?_
  refine J_topi (y := nI ((sbX i).getD k 0)) (by exact (jStrB_255 i hi k hk).1) ?_
  exact J_iret (ty := .char) dJ1_charAt_3b067_14 rfl ((jStrB_255 i hi k hk).2) ⟨(by rfl), (by rfl)⟩

theorem dJ0_charAt_5068e_0 : decode cJ0_charAt_5068e 0 = .ok (.aload_n 0, 1) := by decide +kernel
theorem dJ0_charAt_5068e_1 : decode cJ0_charAt_5068e 1 = .ok (.invokevirtual 492, 3) := by decide +kernel
set_option maxRecDepth 20000 in
theorem ggJ0_charAt_5068e_J0_isLatin1_aae02 : GoodIn wsJ0_charAt_5068e wsJ0_isLatin1_aae02 := goodIn_r _ [6, 7, 8, 38, 39, 40, 41] (by decide +kernel) (by decide +kernel)
set_option maxRecDepth 20000 in
theorem gJ0_charAt_5068e_J0_isLatin1_aae02 : GoodIn wsJ0_charAt_5068e (wsV RJ0 492 RJ0 yJ0_isLatin1_aae02 wsJ0_isLatin1_aae02) := goodIn_app (goodIn_of _ (by decide +kernel)) ggJ0_charAt_5068e_J0_isLatin1_aae02
theorem yY_J0_isLatin1_aae02 : jY yJ0_isLatin1_aae02 wsJ0_isLatin1_aae02 cJ0_isLatin1_aae02 1 (some .boolean) 0 := ⟨⟨_, rfl⟩, by decide +kernel, by decide +kernel, by decide +kernel⟩
theorem dJ0_charAt_5068e_4 : decode cJ0_charAt_5068e 4 = .ok (.ifCond .eq 12, 3) := by decide +kernel
theorem dJ0_charAt_5068e_7 : decode cJ0_charAt_5068e 7 = .ok (.aload_n 0, 1) := by decide +kernel
theorem dJ0_charAt_5068e_8 : decode cJ0_charAt_5068e 8 = .ok (.getfield 9, 3) := by decide +kernel
theorem dJ0_charAt_5068e_11 : decode cJ0_charAt_5068e 11 = .ok (.iload_n 1, 1) := by decide +kernel
theorem dJ0_charAt_5068e_12 : decode cJ0_charAt_5068e 12 = .ok (.invokestatic 495, 3) := by decide +kernel
set_option maxRecDepth 20000 in
theorem ggJ0_charAt_5068e_J1_charAt_3b067 : GoodIn wsJ0_charAt_5068e wsJ1_charAt_3b067 := goodIn_r _ [12, 13, 14, 5, 15, 16, 17, 18, 19, 20] (by decide +kernel) (by decide +kernel)
set_option maxRecDepth 20000 in
theorem gJ0_charAt_5068e_J1_charAt_3b067 : GoodIn wsJ0_charAt_5068e (va_wsS RJ0 495 yJ1_charAt_3b067 wsJ1_charAt_3b067) := goodIn_app (goodIn_of _ (by decide +kernel)) ggJ0_charAt_5068e_J1_charAt_3b067
theorem yY_J1_charAt_3b067 : jY yJ1_charAt_3b067 wsJ1_charAt_3b067 cJ1_charAt_3b067 2 (some .char) 2 := ⟨⟨_, rfl⟩, by decide +kernel, by decide +kernel, by decide +kernel⟩
theorem dJ0_charAt_5068e_15 : decode cJ0_charAt_5068e 15 = .ok (.ireturn, 1) := by decide +kernel
set_option maxHeartbeats 400000 in
set_option maxRecDepth 20000 in
theorem ct_J0_charAt_5068e (l : Launch) (D : va_G) (dA : Nat → ClassId) (hst : l.stackTraces = false) (M : jM) (i : Nat) (hi : i < 3) (k : Nat) (hk : k < jStrL i) : jCT l D dA yJ0_charAt_5068e wsJ0_charAt_5068e (23) (480) (0) (0) 1 [.retAddr (i), .int (nI (k))] M (jPo (oI (nI ((sbX i).getD k 0))) (M)) := by
  refine jBody (cc := cJ0_charAt_5068e) (nL := 2) (rt := (some .char)) (ini := false) (by decide) rfl hst (Nat.le_of_ble_eq_true rfl) (by simp only [List.forall_mem_cons]; simp [Value.category]) (by intro h9; first | exact absurd h9 (by decide) | rfl) ?_
  show J l D dA RJ0 cJ0_charAt_5068e wsJ0_charAt_5068e 2 false (some .char) [] (23) (480) (jF D dA (jn M) (jPo (oI (nI ((sbX i).getD k 0))) (M)) 1) (jn M) (0) (0) (M) 0 [.retAddr (i), .int (nI (k))] []
  have hl4 := jStrL_4 i hi
  refine J_aload_ns (i) dJ0_charAt_5068e_0 rfl rfl ?_
  refine J_calli0 (jrunVS (i := i) (As := []) (ct_J0_isLatin1_aae02 l D dA hst M i hi) dJ0_charAt_5068e_1 yY_J0_isLatin1_aae02 gJ0_charAt_5068e_J0_isLatin1_aae02 rfl hi rfl ⟨by omega, by omega⟩ ⟨Nat.zero_le _, Nat.zero_le _⟩ rfl (Nat.le_of_ble_eq_true rfl)) (rfl) (rfl) ?_
  refine J_if_eq dJ0_charAt_5068e_4 (tgt := 16) (by decide) (fun c4 => ?_) (fun c4 => ?_)
  · exact absurd c4 (by decide)
  · have c4 := jeqF (a := 1) (b := 0) (by omega) (by omega) c4
    refine J_aload_ns (i) dJ0_charAt_5068e_7 rfl rfl ?_
    refine J_getfSv (i := i) hi dJ0_charAt_5068e_8 (List.mem_of_getElem? (i := 1) rfl) ?_
    refine J_iload_n dJ0_charAt_5068e_11 rfl rfl ?_
    refine J_calli0 (jrunS (As := [.retAddr (10 + i), .int (nI (k))]) (ct_J1_charAt_3b067 l D dA hst M i hi k hk) dJ0_charAt_5068e_12 yY_J1_charAt_3b067 gJ0_charAt_5068e_J1_charAt_3b067 rfl ⟨by omega, by omega⟩ ⟨Nat.zero_le _, Nat.zero_le _⟩ rfl (Nat.le_of_ble_eq_true rfl)) (rfl) (rfl) ?_
    exact J_iret (ty := .char) dJ0_charAt_5068e_15 rfl ((jStrB_255 i hi k hk).2) ⟨(by rfl), (by rfl)⟩

