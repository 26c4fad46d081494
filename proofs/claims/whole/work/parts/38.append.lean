/-- what an append leaves: the builder's new text, its bytes perhaps grown -/
def sbP (M : jM) (s m : Nat) (tx ys : List Nat) (o0 : jO) : jP := fun o M1 => o = o0 ∧ ∃ b1, sbT M1 s b1 (sbCap (tx.length + ys.length) m) (tx ++ ys) ∧ sbF s M M1
theorem sb_grow {M : jM} {s b m : Nat} {tx : List Nat} (h : sbT M s b m tx) (hcl : jCl M) (q : Nat) (hq : q ≤ 600) : ∃ b1, sbT (if q ≤ m then M else sbG M s b m (sbCap q m)) s b1 (sbCap q m) tx ∧ sbF s M (if q ≤ m then M else sbG M s b m (sbCap q m)) := by
  have hm := h.2.2.2.2.2.2.2.2.2.1
  by_cases hle : q ≤ m
  · rw [if_pos hle, show sbCap q m = m from if_pos hle]
    exact ⟨b, h, sbF.rf hcl⟩
  · rw [if_neg hle]
    have hc : sbCap q m ≤ 2000 := by unfold sbCap; rw [if_neg hle]; omega
    exact ⟨jn M, sbG_T h (sbCap_ge q m).1 hc hcl⟩
theorem dJ5_append_3fe6f_0 : decode cJ5_append_3fe6f 0 = .ok (.aload_n 0, 1) := by decide +kernel
theorem dJ5_append_3fe6f_1 : decode cJ5_append_3fe6f 1 = .ok (.aload_n 0, 1) := by decide +kernel
theorem dJ5_append_3fe6f_2 : decode cJ5_append_3fe6f 2 = .ok (.getfield 79, 3) := by decide +kernel
theorem dJ5_append_3fe6f_5 : decode cJ5_append_3fe6f 5 = .ok (.iconst 1, 1) := by decide +kernel
theorem dJ5_append_3fe6f_6 : decode cJ5_append_3fe6f 6 = .ok (.iadd, 1) := by decide +kernel
theorem dJ5_append_3fe6f_7 : decode cJ5_append_3fe6f 7 = .ok (.invokevirtual 100, 3) := by decide +kernel
set_option maxRecDepth 20000 in
theorem ggJ5_append_3fe6f_J5_ensureCapacityInternal_d00df : GoodIn wsJ5_append_3fe6f wsJ5_ensureCapacityInternal_d00df := goodIn_r _ [8, 2, 9, 10, 11, 12, 13, 7, 14, 15, 16, 17, 18, 19, 20, 21, 22, 23, 24, 25, 26, 27, 28, 29, 30, 31, 32, 33, 34, 35, 36, 37, 38, 39, 40, 41, 42, 43, 44, 45, 108, 109, 110, 111] (by decide +kernel) (by decide +kernel)
set_option maxRecDepth 20000 in
theorem gJ5_append_3fe6f_J5_ensureCapacityInternal_d00df_u100J4 : GoodIn wsJ5_append_3fe6f (va_wsU RJ5 100 RJ4 "java/lang/AbstractStringBuilder" ⟨"java/lang/AbstractStringBuilder", "ensureCapacityInternal", "(I)V"⟩ yJ5_ensureCapacityInternal_d00df wsJ5_ensureCapacityInternal_d00df) := goodIn_app (goodIn_of _ (by decide +kernel)) ggJ5_append_3fe6f_J5_ensureCapacityInternal_d00df
theorem yY_J5_ensureCapacityInternal_d00df : jY yJ5_ensureCapacityInternal_d00df wsJ5_ensureCapacityInternal_d00df cJ5_ensureCapacityInternal_d00df 3 none 1 := ⟨⟨_, rfl⟩, by decide +kernel, by decide +kernel, by decide +kernel⟩
theorem dJ5_append_3fe6f_10 : decode cJ5_append_3fe6f 10 = .ok (.aload_n 0, 1) := by decide +kernel
theorem dJ5_append_3fe6f_11 : decode cJ5_append_3fe6f 11 = .ok (.invokevirtual 83, 3) := by decide +kernel
set_option maxRecDepth 20000 in
theorem ggJ5_append_3fe6f_J5_isLatin1_aae02 : GoodIn wsJ5_append_3fe6f wsJ5_isLatin1_aae02 := goodIn_r _ [50, 51, 9, 108, 109, 110, 111] (by decide +kernel) (by decide +kernel)
set_option maxRecDepth 20000 in
theorem gJ5_append_3fe6f_J5_isLatin1_aae02_u83J4 : GoodIn wsJ5_append_3fe6f (va_wsU RJ5 83 RJ4 "java/lang/AbstractStringBuilder" ⟨"java/lang/AbstractStringBuilder", "isLatin1", "()Z"⟩ yJ5_isLatin1_aae02 wsJ5_isLatin1_aae02) := goodIn_app (goodIn_of _ (by decide +kernel)) ggJ5_append_3fe6f_J5_isLatin1_aae02
theorem yY_J5_isLatin1_aae02 : jY yJ5_isLatin1_aae02 wsJ5_isLatin1_aae02 cJ5_isLatin1_aae02 1 (some .boolean) 0 := ⟨⟨_, rfl⟩, by decide +kernel, by decide +kernel, by decide +kernel⟩
theorem dJ5_append_3fe6f_14 : decode cJ5_append_3fe6f 14 = .ok (.ifCond .eq 31, 3) := by decide +kernel
theorem dJ5_append_3fe6f_17 : decode cJ5_append_3fe6f 17 = .ok (.iload_n 1, 1) := by decide +kernel
theorem dJ5_append_3fe6f_18 : decode cJ5_append_3fe6f 18 = .ok (.invokestatic 191, 3) := by decide +kernel
set_option maxRecDepth 20000 in
theorem ggJ5_append_3fe6f_J1_canEncode_fc78d : GoodIn wsJ5_append_3fe6f wsJ1_canEncode_fc78d := goodIn_r _ [55] (by decide +kernel) (by decide +kernel)
set_option maxRecDepth 20000 in
theorem gJ5_append_3fe6f_J1_canEncode_fc78d : GoodIn wsJ5_append_3fe6f (va_wsS RJ5 191 yJ1_canEncode_fc78d wsJ1_canEncode_fc78d) := goodIn_app (goodIn_of _ (by decide +kernel)) ggJ5_append_3fe6f_J1_canEncode_fc78d
theorem yY_J1_canEncode_fc78d : jY yJ1_canEncode_fc78d wsJ1_canEncode_fc78d cJ1_canEncode_fc78d 1 (some .boolean) 1 := ⟨⟨_, rfl⟩, by decide +kernel, by decide +kernel, by decide +kernel⟩
theorem dJ5_append_3fe6f_21 : decode cJ5_append_3fe6f 21 = .ok (.ifCond .eq 24, 3) := by decide +kernel
theorem dJ5_append_3fe6f_24 : decode cJ5_append_3fe6f 24 = .ok (.aload_n 0, 1) := by decide +kernel
theorem dJ5_append_3fe6f_25 : decode cJ5_append_3fe6f 25 = .ok (.getfield 15, 3) := by decide +kernel
theorem dJ5_append_3fe6f_28 : decode cJ5_append_3fe6f 28 = .ok (.aload_n 0, 1) := by decide +kernel
theorem dJ5_append_3fe6f_29 : decode cJ5_append_3fe6f 29 = .ok (.dup, 1) := by decide +kernel
theorem dJ5_append_3fe6f_30 : decode cJ5_append_3fe6f 30 = .ok (.getfield 79, 3) := by decide +kernel
theorem dJ5_append_3fe6f_33 : decode cJ5_append_3fe6f 33 = .ok (.dup_x1, 1) := by decide +kernel
theorem dJ5_append_3fe6f_34 : decode cJ5_append_3fe6f 34 = .ok (.iconst 1, 1) := by decide +kernel
theorem dJ5_append_3fe6f_35 : decode cJ5_append_3fe6f 35 = .ok (.iadd, 1) := by decide +kernel
theorem dJ5_append_3fe6f_36 : decode cJ5_append_3fe6f 36 = .ok (.putfield 79, 3) := by decide +kernel
theorem dJ5_append_3fe6f_39 : decode cJ5_append_3fe6f 39 = .ok (.iload_n 1, 1) := by decide +kernel
theorem dJ5_append_3fe6f_40 : decode cJ5_append_3fe6f 40 = .ok (.i2b, 1) := by decide +kernel
theorem dJ5_append_3fe6f_41 : decode cJ5_append_3fe6f 41 = .ok (.bastore, 1) := by decide +kernel
theorem dJ5_append_3fe6f_42 : decode cJ5_append_3fe6f 42 = .ok (.goto 33, 3) := by decide +kernel
theorem dJ5_append_3fe6f_75 : decode cJ5_append_3fe6f 75 = .ok (.aload_n 0, 1) := by decide +kernel
theorem dJ5_append_3fe6f_76 : decode cJ5_append_3fe6f 76 = .ok (.areturn, 1) := by decide +kernel
set_option maxHeartbeats 400000 in
set_option maxRecDepth 20000 in
theorem ct_J5_append_3fe6f (l : Launch) (D : va_G) (dA : Nat → ClassId) (hst : l.stackTraces = false) (M : jM) (s b m : Nat) (tx : List Nat) (hB : sbT M s b m tx) (hcl : jCl M) (c : Nat) (hc : c < 128) (h60 : tx.length < 600) : jCT l D dA yJ5_append_3fe6f wsJ5_append_3fe6f (27) (720) (sbC (tx.length + 1) m) (sbS (tx.length + 1) m) 2 [.ref (s), .int (nI (c))] M (sbP M s m tx [c] (oR (some s))) := by
  refine jBody (cc := cJ5_append_3fe6f) (nL := 2) (rt := (some (.object "java/lang/AbstractStringBuilder"))) (ini := false) (by decide) rfl hst (Nat.le_of_ble_eq_true rfl) (by simp [Value.category]) (by intro h9; first | exact absurd h9 (by decide) | rfl) ?_
  show J l D dA RJ5 cJ5_append_3fe6f wsJ5_append_3fe6f 2 false (some (.object "java/lang/AbstractStringBuilder")) [] (27) (720) (jF D dA (jn M) (sbP M s m tx [c] (oR (some s))) 2) (jn M) (sbC (tx.length + 1) m) (sbS (tx.length + 1) m) (M) 0 [.ref (s), .int (nI (c))] []
  obtain ⟨h1, h2, h3, h4, h5, h6, h7, h8, h9, h10, h11, h12, h13, h14⟩ := id hB
  refine J_aload_n (s) dJ5_append_3fe6f_0 rfl rfl ?_
  refine J_aload_n (s) dJ5_append_3fe6f_1 rfl rfl ?_
  refine J_geti (j := 3) dJ5_append_3fe6f_2 (fun _ h => List.mem_cons_of_mem _ (List.mem_append_right _ (h))) cs1 (by decide) rfl (List.mem_of_getElem? (i := 1) rfl) rfl h1 h2 ?_
  refine J_topi (y := nI (tx.length)) (h8) ?_
  refine J_iconst (x := 1) dJ5_append_3fe6f_5 (by decide) ?_
  refine J_iadd dJ5_append_3fe6f_6 ?_
  refine J_topi (y := nI (tx.length + 1)) (nI_add (tx.length) (1)) ?_
  refine J_callvA (jrunU (As := [.int (nI (tx.length + 1))]) (ct_J5_ensureCapacityInternal_d00df l D dA hst M s b m tx hB hcl (tx.length + 1) (by omega)) dJ5_append_3fe6f_7 yY_J5_ensureCapacityInternal_d00df gJ5_append_3fe6f_J5_ensureCapacityInternal_d00df_u100J4 rfl cs1 h1 h2 rfl ⟨by omega, by omega⟩ ⟨by omega, by omega⟩ rfl (Nat.le_of_ble_eq_true rfl)) (rfl) ⟨by omega, by omega⟩ ⟨(jOk.ref h1 (jOk.int jOk.nil)), jOk.nil⟩ ?_
  obtain ⟨b1, hB1, hF1⟩ := sb_grow hB hcl (tx.length + 1) (by omega)
  obtain ⟨M1, hM1⟩ : ∃ Mz, Mz = (if tx.length + 1 ≤ m then M else sbG M s b m (sbCap (tx.length + 1) m)) := ⟨_, rfl⟩
  rw [← hM1] at hB1 hF1
  refine J_mem (M' := M1) hM1.symm ?_
  obtain ⟨k1, k2, k3, k4, k5, k6, k7, k8, k9, k10, k11, k12, k13, k14⟩ := id hB1
  have hcg := sbCap_ge (tx.length + 1) m
  have hcl1 := hF1.2.2.2.2.2
  refine J_aload_n (s) dJ5_append_3fe6f_10 rfl rfl ?_
  refine J_calli0 (jrunU (As := []) (ct_J5_isLatin1_aae02 l D dA hst M1 s b1 (sbCap (tx.length + 1) m) tx hB1) dJ5_append_3fe6f_11 yY_J5_isLatin1_aae02 gJ5_append_3fe6f_J5_isLatin1_aae02_u83J4 rfl cs1 k1 k2 rfl ⟨by omega, by omega⟩ ⟨Nat.zero_le _, Nat.zero_le _⟩ rfl (Nat.le_of_ble_eq_true rfl)) (rfl) (rfl) ?_
  refine J_if_eq dJ5_append_3fe6f_14 (tgt := 45) (by decide) (fun c14 => ?_) (fun c14 => ?_)
  · exact absurd c14 (by decide)
  · have c14 := jeqF (a := 1) (b := 0) (by omega) (by omega) c14
    refine J_iload_n dJ5_append_3fe6f_17 rfl rfl ?_
    refine J_calli0 (jrunS (As := [.int (nI (c))]) (ct_J1_canEncode_fc78d l D dA hst M1 c hc) dJ5_append_3fe6f_18 yY_J1_canEncode_fc78d gJ5_append_3fe6f_J1_canEncode_fc78d rfl ⟨by omega, by omega⟩ ⟨Nat.zero_le _, Nat.zero_le _⟩ rfl (Nat.le_of_ble_eq_true rfl)) (rfl) (rfl) ?_
    refine J_if_eq dJ5_append_3fe6f_21 (tgt := 45) (by decide) (fun c21 => ?_) (fun c21 => ?_)
    · exact absurd c21 (by decide)
    · have c21 := jeqF (a := 1) (b := 0) (by omega) (by omega) c21
      refine J_aload_n (s) dJ5_append_3fe6f_24 rfl rfl ?_
      refine J_getrs (q := b1) k3 dJ5_append_3fe6f_25 (fun _ h => List.mem_cons_of_mem _ (List.mem_append_right _ (h))) cs1 (by decide) rfl (List.mem_of_getElem? (i := 2) rfl) rfl k1 k2 ?_
      refine J_aload_n (s) dJ5_append_3fe6f_28 rfl rfl ?_
      refine J_dup dJ5_append_3fe6f_29 rfl ?_
      refine J_geti (j := 3) dJ5_append_3fe6f_30 (fun _ h => List.mem_cons_of_mem _ (List.mem_append_right _ (h))) cs1 (by decide) rfl (List.mem_of_getElem? (i := 1) rfl) rfl k1 k2 ?_
      refine J_topi (y := nI (tx.length)) (k8) ?_
      refine J_dup_x1 dJ5_append_3fe6f_33 rfl rfl ?_
      refine J_iconst (x := 1) dJ5_append_3fe6f_34 (by decide) ?_
      refine J_iadd dJ5_append_3fe6f_35 ?_
      refine J_topi (y := nI (tx.length + 1)) (nI_add (tx.length) (1)) ?_
      refine J_puti (j := 3) (x := nI (tx.length + 1)) dJ5_append_3fe6f_36 (fun _ h => List.mem_cons_of_mem _ (List.mem_append_right _ (h))) cs1 cty1 (by decide) rfl (List.mem_of_getElem? (i := 1) rfl) rfl rfl ⟨rfl, rfl⟩ k1 k2 ?_
      refine J_iload_n dJ5_append_3fe6f_39 rfl rfl ?_
      refine J_i2b dJ5_append_3fe6f_40 ?_
      refine J_bastN (k := tx.length) (y := nI c)  dJ5_append_3fe6f_41 k4 k5 (by exact Nat.lt_of_lt_of_eq (show _ < sbCap (tx.length + 1) m by omega) (Eq.symm k6)) (by exact Nat.lt_of_le_of_lt (Nat.le_of_eq k6) (show sbCap (tx.length + 1) m < 2 ^ 31 by omega)) (by exact (nI_byte c hc).1) ?_
      refine J_goto (tgt := 75) dJ5_append_3fe6f_42 (by decide) ?_
      refine J_aload_n (s) dJ5_append_3fe6f_75 rfl rfl ?_
      exact J_aret (r := some (s)) dJ5_append_3fe6f_76 rfl (Or.inl ⟨_, rfl⟩) (by refine ⟨rfl, b1, ?_⟩; have hput := sbT_put (ys := [c]) (g := fun j => if j = tx.length then nI c else ji M1 b1 j) hB1 (by show tx.length + 1 ≤ _; omega) (fun d hd => by rw [List.mem_singleton.mp hd]; exact hc) (fun j hj => if_neg (by omega)) (fun j hj => by have : j = 0 := by (have : j < 1 := hj); omega
                                                                                                                    subst this; exact if_pos rfl) (fun j => by split; exact (nI_byte c hc).2.2.1; exact k13 j) hcl1 _ rfl; rw [show jSi (jSi M1 s 3 (nI (tx.length + 1))) b1 tx.length (nI c) = jSi (jSv M1 b1 (fun j => if j = tx.length then nI c else ji M1 b1 j)) s 3 (nI (tx.length + [c].length)) from jM_eq rfl rfl rfl (by funext a j; show jU (jU (ji M1) s 3 _) b1 tx.length _ a j = jU (jV (ji M1) b1 _) s 3 _ a j; unfold jU jV; have hne : b1 ≠ s := fun e => by rw [e, k2] at k5; exact absurd k5 (by decide)
                                                                                                                    by_cases q1 : a = b1
                                                                                                                    · subst q1; simp [hne]
                                                                                                                    · simp [q1]) rfl rfl rfl]; exact ⟨hput.1, hF1.tr hput.2⟩)

