/-- what an append leaves: the builder's new text, its bytes perhaps grown -/
def sbP (M : jM) (s m : Nat) (tx ys : List Nat) (o0 : jO) : jP := fun o M1 => o = o0 ∧ ∃ b1, sbT M1 s b1 (sbCap (tx.length + ys.length) m) (tx ++ ys) ∧ sbF s M M1
theorem sb_grow {M : jM} {s b m : Nat} {tx : List Nat} (h : sbT M s b m tx) (hcl : jCl M) (q : Nat) (hq : q ≤ 600) : ∃ b1, sbT (if q ≤ m then M else sbG M s b m (sbCap q m)) s b1 (sbCap q m) tx ∧ sbF s M (if q ≤ m then M else sbG M s b m (sbCap q m)) := by
  have hm := h.2.2.2.2.2.2.2.2.2.1
  by_cases hle : q ≤ m
  · rw [if_pos hle, show sbCap q m = m from if_pos hle]
    exact ⟨b, h, sbF.rf hcl⟩
  · rw [if_neg hle]
    have hc : sbCap q m ≤ 2000 := by unfold sbCap; rw [if_neg hle]; omega
    exact ⟨jn M, sbG_T h (sbCap_ge q m).1 hc hcl⟩
theorem sbT_upd {M M1 : jM} {s b m : Nat} {tx ys : List Nat} (h : sbT M s b m tx) (hl : tx.length + ys.length ≤ m) (hy : ∀ c ∈ ys, c < 128) (e1 : jn M1 = jn M) (e2 : jk M1 = jk M) (e3 : jz M1 = jz M) (e4 : jr M1 = jr M) (e5 : jl M1 = jl M) (e6 : jd M1 = jd M) (ho : ∀ a, a ≠ b → a ≠ s → ji M1 a = ji M a) (hs1 : ji M1 s 1 = ji M s 1) (hs3 : ji M1 s 3 = nI (tx.length + ys.length))
    (hg1 : ∀ j, j < tx.length → ji M1 b j = ji M b j) (hg2 : ∀ j, j < ys.length → ji M1 b (tx.length + j) = nI (ys.getD j 0)) (hg3 : jBf M1 b) (hcl : jCl M1) : sbT M1 s b m (tx ++ ys) ∧ sbF s M M1 := by
  obtain ⟨h1, h2, h3, h4, h5, h6, h7, h8, h9, h10, h11, h12, h13, h14⟩ := h
  refine ⟨⟨by rw [e1]; exact h1, by rw [e2]; exact h2, by rw [e4]; exact h3, by rw [e1]; exact h4, by rw [e2]; exact h5, by rw [e3]; exact h6, hs1.trans h7, by rw [hs3, List.length_append], by rw [List.length_append]; exact hl, h10, fun j hj => ?_, fun c hc => ?_, hg3, h14⟩, ⟨Nat.le_of_eq e1.symm, fun _ _ => ⟨by rw [e2], by rw [e3], by rw [e5], by rw [e6]⟩, fun _ _ _ => by rw [e4], fun a ha hs hk => ho a (fun e => hk (by rw [e]; exact h5)) hs, fun a ha hk hbf => ?_, hcl⟩⟩
  · rw [List.length_append] at hj
    by_cases hj2 : j < tx.length
    · rw [hg1 j hj2, h11 j hj2, jgetD_l hj2]
    · obtain ⟨i, rfl⟩ : ∃ i, j = tx.length + i := ⟨j - tx.length, by omega⟩
      rw [hg2 i (by omega), jgetD_r]
  · rcases List.mem_append.mp hc with h | h
    · exact h12 c h
    · exact hy c h
  · by_cases q1 : a = b
    · rw [q1]; exact hg3
    · exact hbf.eq (ho a q1 (fun e => by rw [e, h2] at hk; exact absurd hk (by decide)))
theorem sbT.ne {M : jM} {s b m : Nat} {tx : List Nat} (h : sbT M s b m tx) : b ≠ s := fun e => by
  have h5 := h.2.2.2.2.1
  rw [e, h.2.1] at h5
  exact absurd h5 (by decide)
theorem sbT_ch {M : jM} {s b m c : Nat} {tx : List Nat} (h : sbT M s b m tx) (hl : tx.length + 1 ≤ m) (hc : c < 128) (hcl : jCl M) : sbT (jSi (jSi M s 3 (nI (tx.length + 1))) b tx.length (nI c)) s b m (tx ++ [c]) ∧ sbF s M (jSi (jSi M s 3 (nI (tx.length + 1))) b tx.length (nI c)) := by
  have hne := h.ne
  have hb := h.2.2.2.2.2.2.2.2.2.2.2.2.1
  refine sbT_upd (ys := [c]) h hl (fun d hd => by rw [List.mem_singleton.mp hd]; exact hc) rfl rfl rfl rfl rfl rfl (fun a h1 h2 => funext fun j => ?_) ?_ ?_ (fun j hj => ?_) (fun j hj => ?_) (fun j => ?_) (jCl_Si (jCl_Si hcl))
  · rw [ji_Si, if_neg (fun hh => h1 hh.1), ji_Si, if_neg (fun hh => h2 hh.1)]
  · rw [ji_Si, if_neg (fun hh => hne hh.1.symm), ji_Si, if_neg (fun hh => absurd hh.2 (by decide))]
  · rw [ji_Si, if_neg (fun hh => hne hh.1.symm), ji_Si, if_pos ⟨rfl, rfl⟩]; rfl
  · rw [ji_Si, if_neg (fun hh => by omega), ji_Si, if_neg (fun hh => hne hh.1)]
  · have : j = 0 := by have : j < 1 := hj
                       omega
    subst this
    rw [ji_Si, if_pos ⟨rfl, rfl⟩]; rfl
  · rw [ji_Si]
    split
    · exact (nI_byte c hc).2.2.1
    · rw [ji_Si, if_neg (fun hh => hne hh.1)]; exact hb j
theorem sbD_128 {k : Nat} (h : k < 100) : ∀ c ∈ sbD k, c < 128 := by
  have : ∀ k : Nat, k < 100 → ∀ c ∈ sbD k, c < 128 := by decide +kernel
  exact this k h
theorem sbD_pos (k : Nat) : 1 ≤ (sbD k).length ∧ (sbD k).length ≤ 2 := by rw [sbD_len]; split <;> omega
/-- the digits of a number, ahead of the place q -/
def sbGc (M : jM) (b q k : Nat) : jM := if k < 10 then jSi M b (q - 1) (nI (48 + k)) else jSi (jSi M b (q - 1) (nI (48 + k % 10))) b (q - 1 - 1) (nI (48 + k / 10))
theorem sbT_num {M : jM} {s b m k : Nat} {tx : List Nat} (h : sbT M s b m tx) (hl : tx.length + (sbD k).length ≤ m) (hk : k < 100) (hcl : jCl M) : sbT (jSi (sbGc M b (tx.length + (sbD k).length) k) s 3 (nI (tx.length + (sbD k).length))) s b m (tx ++ sbD k) ∧ sbF s M (jSi (sbGc M b (tx.length + (sbD k).length) k) s 3 (nI (tx.length + (sbD k).length))) := by
  have hne := h.ne
  have hb := h.2.2.2.2.2.2.2.2.2.2.2.2.1
  have hm := h.2.2.2.2.2.2.2.2.2.1
  by_cases h10 : k < 10
  · have hD : sbD k = [48 + k] := by unfold sbD; rw [if_pos h10]
    have hG : sbGc M b (tx.length + (sbD k).length) k = jSi M b tx.length (nI (48 + k)) := by unfold sbGc; rw [if_pos h10, hD]; rfl
    rw [hG]
    refine sbT_upd h hl (sbD_128 hk) rfl rfl rfl rfl rfl rfl (fun a h1 h2 => funext fun j => ?_) ?_ ?_ (fun j hj => ?_) (fun j hj => ?_) (fun j => ?_) (jCl_Si (jCl_Si hcl))
    · rw [ji_Si, if_neg (fun hh => h2 hh.1), ji_Si, if_neg (fun hh => h1 hh.1)]
    · rw [ji_Si, if_neg (fun hh => absurd hh.2 (by decide)), ji_Si, if_neg (fun hh => hne hh.1.symm)]
    · rw [ji_Si, if_pos ⟨rfl, rfl⟩]
    · rw [ji_Si, if_neg (fun hh => hne hh.1), ji_Si, if_neg (fun hh => by omega)]
    · rw [hD] at hj ⊢
      have : j = 0 := by have : j < 1 := hj
                         omega
      subst this
      rw [ji_Si, if_neg (fun hh => hne hh.1), ji_Si, if_pos ⟨rfl, rfl⟩]; rfl
    · rw [ji_Si, if_neg (fun hh => hne hh.1), ji_Si]
      split
      · exact (nI_byte (48 + k) (by omega)).2.2.1
      · exact hb j
  · have hD : sbD k = [48 + k / 10, 48 + k % 10] := by unfold sbD; rw [if_neg h10]
    have hG : sbGc M b (tx.length + (sbD k).length) k = jSi (jSi M b (tx.length + 1) (nI (48 + k % 10))) b tx.length (nI (48 + k / 10)) := by unfold sbGc; rw [if_neg h10, hD]; rfl
    rw [hG]
    refine sbT_upd h hl (sbD_128 hk) rfl rfl rfl rfl rfl rfl (fun a h1 h2 => funext fun j => ?_) ?_ ?_ (fun j hj => ?_) (fun j hj => ?_) (fun j => ?_) (jCl_Si (jCl_Si (jCl_Si hcl)))
    · rw [ji_Si, if_neg (fun hh => h2 hh.1), ji_Si, if_neg (fun hh => h1 hh.1), ji_Si, if_neg (fun hh => h1 hh.1)]
    · rw [ji_Si, if_neg (fun hh => absurd hh.2 (by decide)), ji_Si, if_neg (fun hh => hne hh.1.symm), ji_Si, if_neg (fun hh => hne hh.1.symm)]
    · rw [ji_Si, if_pos ⟨rfl, rfl⟩]
    · rw [ji_Si, if_neg (fun hh => hne hh.1), ji_Si, if_neg (fun hh => by omega), ji_Si, if_neg (fun hh => by omega)]
    · rw [hD] at hj ⊢
      have hj2 : j < 2 := hj
      rcases (show j = 0 ∨ j = 1 by omega) with rfl | rfl
      · rw [ji_Si, if_neg (fun hh => hne hh.1), ji_Si, if_pos ⟨rfl, rfl⟩]; rfl
      · rw [ji_Si, if_neg (fun hh => hne hh.1), ji_Si, if_neg (fun hh => by omega), ji_Si, if_pos ⟨rfl, rfl⟩]; rfl
    · rw [ji_Si, if_neg (fun hh => hne hh.1), ji_Si]
      split
      · exact (nI_byte (48 + k / 10) (by omega)).2.2.1
      · rw [ji_Si]
        split
        · exact (nI_byte (48 + k % 10) (by omega)).2.2.1
        · exact hb j
def sbX (i : Nat) : List Nat := [[110, 111, 110, 101], [62, 61], [60, 61]].getD i []
theorem sbX_B : ∀ i : Nat, i < 3 → (sbX i).length = jStrL i ∧ (∀ c ∈ sbX i, c < 128) ∧ ∀ j, j < jStrL i → jStrB i j = nI ((sbX i).getD j 0) := by decide +kernel
theorem sbT_str {M : jM} {s b m i : Nat} {tx : List Nat} (h : sbT M s b m tx) (hi : i < 3) (hl : tx.length + jStrL i ≤ m) (hcl : jCl M) : sbT (jSi (jSv M b (va_cpy (jStrB i) (ji M b) 0 tx.length (jStrL i))) s 3 (nI (tx.length + jStrL i))) s b m (tx ++ sbX i) ∧ sbF s M (jSi (jSv M b (va_cpy (jStrB i) (ji M b) 0 tx.length (jStrL i))) s 3 (nI (tx.length + jStrL i))) := by
  have hne := h.ne
  have hb := h.2.2.2.2.2.2.2.2.2.2.2.2.1
  obtain ⟨x1, x2, x3⟩ := sbX_B i hi
  refine sbT_upd h (by rw [x1]; exact hl) x2 rfl rfl rfl rfl rfl rfl (fun a h1 h2 => funext fun j => ?_) ?_ ?_ (fun j hj => ?_) (fun j hj => ?_) (fun j => ?_) (jCl_Si (jCl_Sv hcl))
  · rw [ji_Si, if_neg (fun hh => h2 hh.1), ji_Sv, if_neg h1]
  · rw [ji_Si, if_neg (fun hh => absurd hh.2 (by decide)), ji_Sv, if_neg hne.symm]
  · rw [ji_Si, if_pos ⟨rfl, rfl⟩, x1]
  · rw [ji_Si, if_neg (fun hh => hne hh.1), ji_Sv, if_pos rfl]
    unfold va_cpy
    rw [if_neg (by omega)]
  · rw [x1] at hj
    rw [ji_Si, if_neg (fun hh => hne hh.1), ji_Sv, if_pos rfl]
    unfold va_cpy
    rw [if_pos (by omega), show 0 + (tx.length + j - tx.length) = j from by omega]
    exact x3 j hj
  · rw [ji_Si, if_neg (fun hh => hne hh.1), ji_Sv, if_pos rfl]
    unfold va_cpy
    split
    · exact jStrB_fit i _
    · exact hb j
theorem sbCap_i (q m : Nat) : sbCap q m = sbCap q m := rfl
theorem dJ5_append_3fe6f_0 : decode cJ5_append_3fe6f 0 = .ok (.aload_n 0, 1) := by decide +kernel
theorem dJ5_append_3fe6f_1 : decode cJ5_append_3fe6f 1 = .ok (.aload_n 0, 1) := by decide +kernel
theorem dJ5_append_3fe6f_2 : decode cJ5_append_3fe6f 2 = .ok (.getfield 79, 3) := by decide +kernel
theorem dJ5_append_3fe6f_5 : decode cJ5_append_3fe6f 5 = .ok (.iconst 1, 1) := by decide +kernel
theorem dJ5_append_3fe6f_6 : decode cJ5_append_3fe6f 6 = .ok (.iadd, 1) := by decide +kernel
theorem dJ5_append_3fe6f_7 : decode cJ5_append_3fe6f 7 = .ok (.invokevirtual 100, 3) := by decide +kernel
set_option maxRecDepth 20000 in
theorem ggJ5_append_3fe6f_J5_ensureCapacityInternal_d00df : GoodIn wsJ5_append_3fe6f wsJ5_ensureCapacityInternal_d00df := goodIn_r _ [8, 2, 9, 10, 11, 12, 13, 7, 14, 15, 16, 17, 18, 19, 20, 21, 22, 23, 24, 25, 26, 27, 28, 29, 30, 31, 32, 33, 34, 35, 36, 37, 38, 39, 40, 41, 42, 43, 44, 45, 108, 109, 110, 111] (by decide +kernel) (by decide +kernel)
set_option maxRecDepth 20000 in
theorem gJ5_append_3fe6f_J5_ensureCapacityInternal_d00df_u100J4 : GoodIn wsJ5_append_3fe6f (va_wsU RJ5 100 RJ4 "java/lang/AbstractStringBuilder" ⟨"java/lang/AbstractStringBuilder", "ensureCapacityInternal", "(I)V"⟩ yJ5_ensureCapacityInternal_d00df wsJ5_ensureCapacityInternal_d00df) := goodIn_app (goodIn_of _ (by decide +kernel)) ggJ5_append_3fe6f_J5_ensureCapacityInternal_d00df
theorem yY_J5_ensureCapacityInternal_d00df : jY yJ5_ensureCapacityInternal_d00df wsJ5_ensureCapacityInternal_d00df cJ5_ensureCapacityInternal_d00df 3 none 1 := ⟨⟨_, rfl⟩, by decide +kernel, by decide +kernel, by decide +kernel⟩
theorem dJ5_append_3fe6f_10 : decode cJ5_append_3fe6f 10 = .ok (.aload_n 0, 1) := by decide +kernel
theorem dJ5_append_3fe6f_11 : decode cJ5_append_3fe6f 11 = .ok (.invokevirtual 83, 3) := by decide +kernel
set_option maxRecDepth 20000 in
theorem ggJ5_append_3fe6f_J5_isLatin1_aae02 : GoodIn wsJ5_append_3fe6f wsJ5_isLatin1_aae02 := goodIn_r _ [50, 51, 9, 108, 109, 110, 111] (by decide +kernel) (by decide +kernel)
set_option maxRecDepth 20000 in
theorem gJ5_append_3fe6f_J5_isLatin1_aae02_u83J4 : GoodIn wsJ5_append_3fe6f (va_wsU RJ5 83 RJ4 "java/lang/AbstractStringBuilder" ⟨"java/lang/AbstractStringBuilder", "isLatin1", "()Z"⟩ yJ5_isLatin1_aae02 wsJ5_isLatin1_aae02) := goodIn_app (goodIn_of _ (by decide +kernel)) ggJ5_append_3fe6f_J5_isLatin1_aae02
theorem yY_J5_isLatin1_aae02 : jY yJ5_isLatin1_aae02 wsJ5_isLatin1_aae02 cJ5_isLatin1_aae02 1 (some .boolean) 0 := ⟨⟨_, rfl⟩, by decide +kernel, by decide +kernel, by decide +kernel⟩
theorem dJ5_append_3fe6f_14 : decode cJ5_append_3fe6f 14 = .ok (.ifCond .eq 31, 3) := by decide +kernel
theorem dJ5_append_3fe6f_17 : decode cJ5_append_3fe6f 17 = .ok (.iload_n 1, 1) := by decide +kernel
theorem dJ5_append_3fe6f_18 : decode cJ5_append_3fe6f 18 = .ok (.invokestatic 191, 3) := by decide +kernel
set_option maxRecDepth 20000 in
theorem ggJ5_append_3fe6f_J1_canEncode_fc78d : GoodIn wsJ5_append_3fe6f wsJ1_canEncode_fc78d := goodIn_r _ [55] (by decide +kernel) (by decide +kernel)
set_option maxRecDepth 20000 in
theorem gJ5_append_3fe6f_J1_canEncode_fc78d : GoodIn wsJ5_append_3fe6f (va_wsS RJ5 191 yJ1_canEncode_fc78d wsJ1_canEncode_fc78d) := goodIn_app (goodIn_of _ (by decide +kernel)) ggJ5_append_3fe6f_J1_canEncode_fc78d
theorem yY_J1_canEncode_fc78d : jY yJ1_canEncode_fc78d wsJ1_canEncode_fc78d cJ1_canEncode_fc78d 1 (some .boolean) 1 := ⟨⟨_, rfl⟩, by decide +kernel, by decide +kernel, by decide +kernel⟩
theorem dJ5_append_3fe6f_21 : decode cJ5_append_3fe6f 21 = .ok (.ifCond .eq 24, 3) := by decide +kernel
theorem dJ5_append_3fe6f_24 : decode cJ5_append_3fe6f 24 = .ok (.aload_n 0, 1) := by decide +kernel
theorem dJ5_append_3fe6f_25 : decode cJ5_append_3fe6f 25 = .ok (.getfield 15, 3) := by decide +kernel
theorem dJ5_append_3fe6f_28 : decode cJ5_append_3fe6f 28 = .ok (.aload_n 0, 1) := by decide +kernel
theorem dJ5_append_3fe6f_29 : decode cJ5_append_3fe6f 29 = .ok (.dup, 1) := by decide +kernel
theorem dJ5_append_3fe6f_30 : decode cJ5_append_3fe6f 30 = .ok (.getfield 79, 3) := by decide +kernel
theorem dJ5_append_3fe6f_33 : decode cJ5_append_3fe6f 33 = .ok (.dup_x1, 1) := by decide +kernel
theorem dJ5_append_3fe6f_34 : decode cJ5_append_3fe6f 34 = .ok (.iconst 1, 1) := by decide +kernel
theorem dJ5_append_3fe6f_35 : decode cJ5_append_3fe6f 35 = .ok (.iadd, 1) := by decide +kernel
theorem dJ5_append_3fe6f_36 : decode cJ5_append_3fe6f 36 = .ok (.putfield 79, 3) := by decide +kernel
theorem dJ5_append_3fe6f_39 : decode cJ5_append_3fe6f 39 = .ok (.iload_n 1, 1) := by decide +kernel
theorem dJ5_append_3fe6f_40 : decode cJ5_append_3fe6f 40 = .ok (.i2b, 1) := by decide +kernel
theorem dJ5_append_3fe6f_41 : decode cJ5_append_3fe6f 41 = .ok (.bastore, 1) := by decide +kernel
theorem dJ5_append_3fe6f_42 : decode cJ5_append_3fe6f 42 = .ok (.goto 33, 3) := by decide +kernel
theorem dJ5_append_3fe6f_75 : decode cJ5_append_3fe6f 75 = .ok (.aload_n 0, 1) := by decide +kernel
theorem dJ5_append_3fe6f_76 : decode cJ5_append_3fe6f 76 = .ok (.areturn, 1) := by decide +kernel
set_option maxHeartbeats 400000 in
set_option maxRecDepth 20000 in
theorem ct_J5_append_3fe6f (l : Launch) (D : va_G) (dA : Nat → ClassId) (hst : l.stackTraces = false) (M : jM) (s b m : Nat) (tx : List Nat) (hB : sbT M s b m tx) (hcl : jCl M) (c : Nat) (hc : c < 128) (h60 : tx.length < 600) : jCT l D dA yJ5_append_3fe6f wsJ5_append_3fe6f (27) (720) (sbC (tx.length + 1) m) (sbS (tx.length + 1) m) 2 [.ref (s), .int (nI (c))] M (sbP M s m tx [c] (oR (some s))) := by
  refine jBody (cc := cJ5_append_3fe6f) (nL := 2) (rt := (some (.object "java/lang/AbstractStringBuilder"))) (ini := false) (by decide) rfl hst (Nat.le_of_ble_eq_true rfl) (by simp [Value.category]) (by intro h9; first | exact absurd h9 (by decide) | rfl) ?_
  show J l D dA RJ5 cJ5_append_3fe6f wsJ5_append_3fe6f 2 false (some (.object "java/lang/AbstractStringBuilder")) [] (27) (720) (jF D dA (jn M) (sbP M s m tx [c] (oR (some s))) 2) (jn M) (sbC (tx.length + 1) m) (sbS (tx.length + 1) m) (M) 0 [.ref (s), .int (nI (c))] []
  obtain ⟨h1, h2, h3, h4, h5, h6, h7, h8, h9, h10, h11, h12, h13, h14⟩ := id hB
  refine J_aload_n (s) dJ5_append_3fe6f_0 rfl rfl ?_
  refine J_aload_n (s) dJ5_append_3fe6f_1 rfl rfl ?_
  refine J_geti (j := 3) dJ5_append_3fe6f_2 (fun _ h => List.mem_cons_of_mem _ (List.mem_append_right _ (h))) cs1 (by decide) rfl (List.mem_of_getElem? (i := 1) rfl) rfl h1 h2 ?_
  refine J_topi (y := nI (tx.length)) (h8) ?_
  refine J_iconst (x := 1) dJ5_append_3fe6f_5 (by decide) ?_
  refine J_iadd dJ5_append_3fe6f_6 ?_
  refine J_topi (y := nI (tx.length + 1)) (nI_add (tx.length) (1)) ?_
  refine J_callvA (jrunU (As := [.int (nI (tx.length + 1))]) (ct_J5_ensureCapacityInternal_d00df l D dA hst M s b m tx hB hcl (tx.length + 1) (by omega)) dJ5_append_3fe6f_7 yY_J5_ensureCapacityInternal_d00df gJ5_append_3fe6f_J5_ensureCapacityInternal_d00df_u100J4 rfl cs1 h1 h2 rfl ⟨by omega, by omega⟩ ⟨by omega, by omega⟩ rfl (Nat.le_of_ble_eq_true rfl)) (rfl) ⟨by omega, by omega⟩ ⟨(jOk.ref h1 (jOk.int jOk.nil)), jOk.nil⟩ ?_
  obtain ⟨b1, hB1, hF1⟩ := sb_grow hB hcl (tx.length + 1) (by omega)
  obtain ⟨M1, hM1⟩ : ∃ Mz, Mz = (if tx.length + 1 ≤ m then M else sbG M s b m (sbCap (tx.length + 1) m)) := ⟨_, rfl⟩
  rw [← hM1] at hB1 hF1
  refine J_mem (M' := M1) hM1.symm ?_
  obtain ⟨k1, k2, k3, k4, k5, k6, k7, k8, k9, k10, k11, k12, k13, k14⟩ := id hB1
  have hcg := sbCap_ge (tx.length + 1) m
  have hcl1 := hF1.2.2.2.2.2
  refine J_aload_n (s) dJ5_append_3fe6f_10 rfl rfl ?_
  refine J_calli0 (jrunU (As := []) (ct_J5_isLatin1_aae02 l D dA hst M1 s b1 (sbCap (tx.length + 1) m) tx hB1) dJ5_append_3fe6f_11 yY_J5_isLatin1_aae02 gJ5_append_3fe6f_J5_isLatin1_aae02_u83J4 rfl cs1 k1 k2 rfl ⟨by omega, by omega⟩ ⟨Nat.zero_le _, Nat.zero_le _⟩ rfl (Nat.le_of_ble_eq_true rfl)) (rfl) (rfl) ?_
  refine J_if_eq dJ5_append_3fe6f_14 (tgt := 45) (by decide) (fun c14 => ?_) (fun c14 => ?_)
  · exact absurd c14 (by decide)
  · have c14 := jeqF (a := 1) (b := 0) (by omega) (by omega) c14
    refine J_iload_n dJ5_append_3fe6f_17 rfl rfl ?_
    refine J_calli0 (jrunS (As := [.int (nI (c))]) (ct_J1_canEncode_fc78d l D dA hst M1 c hc) dJ5_append_3fe6f_18 yY_J1_canEncode_fc78d gJ5_append_3fe6f_J1_canEncode_fc78d rfl ⟨by omega, by omega⟩ ⟨Nat.zero_le _, Nat.zero_le _⟩ rfl (Nat.le_of_ble_eq_true rfl)) (rfl) (rfl) ?_
    refine J_if_eq dJ5_append_3fe6f_21 (tgt := 45) (by decide) (fun c21 => ?_) (fun c21 => ?_)
    · exact absurd c21 (by decide)
    · have c21 := jeqF (a := 1) (b := 0) (by omega) (by omega) c21
      refine J_aload_n (s) dJ5_append_3fe6f_24 rfl rfl ?_
      refine J_getrs (q := b1) k3 dJ5_append_3fe6f_25 (fun _ h => List.mem_cons_of_mem _ (List.mem_append_right _ (h))) cs1 (by decide) rfl (List.mem_of_getElem? (i := 2) rfl) rfl k1 k2 ?_
      refine J_aload_n (s) dJ5_append_3fe6f_28 rfl rfl ?_
      refine J_dup dJ5_append_3fe6f_29 rfl ?_
      refine J_geti (j := 3) dJ5_append_3fe6f_30 (fun _ h => List.mem_cons_of_mem _ (List.mem_append_right _ (h))) cs1 (by decide) rfl (List.mem_of_getElem? (i := 1) rfl) rfl k1 k2 ?_
      refine J_topi (y := nI (tx.length)) (k8) ?_
      refine J_dup_x1 dJ5_append_3fe6f_33 rfl rfl ?_
      refine J_iconst (x := 1) dJ5_append_3fe6f_34 (by decide) ?_
      refine J_iadd dJ5_append_3fe6f_35 ?_
      refine J_topi (y := nI (tx.length + 1)) (nI_add (tx.length) (1)) ?_
      refine J_puti (j := 3) (x := nI (tx.length + 1)) dJ5_append_3fe6f_36 (fun _ h => List.mem_cons_of_mem _ (List.mem_append_right _ (h))) cs1 cty1 (by decide) rfl (List.mem_of_getElem? (i := 1) rfl) rfl rfl ⟨rfl, rfl⟩ k1 k2 ?_
      refine J_iload_n dJ5_append_3fe6f_39 rfl rfl ?_
      refine J_i2b dJ5_append_3fe6f_40 ?_
      refine J_bastN (k := tx.length) (y := nI c)  dJ5_append_3fe6f_41 k4 k5 (by exact Nat.lt_of_lt_of_eq (show _ < sbCap (tx.length + 1) m by omega) (Eq.symm k6)) (by exact Nat.lt_of_le_of_lt (Nat.le_of_eq k6) (show sbCap (tx.length + 1) m < 2 ^ 31 by omega)) (by exact (nI_byte c hc).1) ?_
      refine J_goto (tgt := 75) dJ5_append_3fe6f_42 (by decide) ?_
      refine J_aload_n (s) dJ5_append_3fe6f_75 rfl rfl ?_
      exact J_aret (r := some (s)) dJ5_append_3fe6f_76 rfl (Or.inl ⟨_, rfl⟩) (by exact ⟨rfl, b1, (sbT_ch hB1 (by omega) hc hcl1).1, hF1.tr (sbT_ch hB1 (by omega) hc hcl1).2⟩)

theorem dJ6_stringSize_0f7a4_0 : decode cJ6_stringSize_0f7a4 0 = .ok (.iconst 1, 1) := by decide +kernel
theorem dJ6_stringSize_0f7a4_1 : decode cJ6_stringSize_0f7a4 1 = .ok (.istore_n 1, 1) := by decide +kernel
theorem dJ6_stringSize_0f7a4_2 : decode cJ6_stringSize_0f7a4 2 = .ok (.iload_n 0, 1) := by decide +kernel
theorem dJ6_stringSize_0f7a4_3 : decode cJ6_stringSize_0f7a4 3 = .ok (.ifCond .lt 8, 3) := by decide +kernel
theorem dJ6_stringSize_0f7a4_6 : decode cJ6_stringSize_0f7a4 6 = .ok (.iconst 0, 1) := by decide +kernel
theorem dJ6_stringSize_0f7a4_7 : decode cJ6_stringSize_0f7a4 7 = .ok (.istore_n 1, 1) := by decide +kernel
theorem dJ6_stringSize_0f7a4_8 : decode cJ6_stringSize_0f7a4 8 = .ok (.iload_n 0, 1) := by decide +kernel
theorem dJ6_stringSize_0f7a4_9 : decode cJ6_stringSize_0f7a4 9 = .ok (.ineg, 1) := by decide +kernel
theorem dJ6_stringSize_0f7a4_10 : decode cJ6_stringSize_0f7a4 10 = .ok (.istore_n 0, 1) := by decide +kernel
theorem dJ6_stringSize_0f7a4_11 : decode cJ6_stringSize_0f7a4 11 = .ok (.bipush (-10), 2) := by decide +kernel
theorem dJ6_stringSize_0f7a4_13 : decode cJ6_stringSize_0f7a4 13 = .ok (.istore_n 2, 1) := by decide +kernel
theorem dJ6_stringSize_0f7a4_14 : decode cJ6_stringSize_0f7a4 14 = .ok (.iconst 1, 1) := by decide +kernel
theorem dJ6_stringSize_0f7a4_15 : decode cJ6_stringSize_0f7a4 15 = .ok (.istore_n 3, 1) := by decide +kernel
theorem dJ6_stringSize_0f7a4_16 : decode cJ6_stringSize_0f7a4 16 = .ok (.iload_n 3, 1) := by decide +kernel
theorem dJ6_stringSize_0f7a4_17 : decode cJ6_stringSize_0f7a4 17 = .ok (.bipush 10, 2) := by decide +kernel
theorem dJ6_stringSize_0f7a4_19 : decode cJ6_stringSize_0f7a4 19 = .ok (.if_icmp .ge 23, 3) := by decide +kernel
theorem dJ6_stringSize_0f7a4_22 : decode cJ6_stringSize_0f7a4 22 = .ok (.iload_n 0, 1) := by decide +kernel
theorem dJ6_stringSize_0f7a4_23 : decode cJ6_stringSize_0f7a4 23 = .ok (.iload_n 2, 1) := by decide +kernel
theorem dJ6_stringSize_0f7a4_24 : decode cJ6_stringSize_0f7a4 24 = .ok (.if_icmp .le 7, 3) := by decide +kernel
theorem dJ6_stringSize_0f7a4_31 : decode cJ6_stringSize_0f7a4 31 = .ok (.bipush 10, 2) := by decide +kernel
theorem dJ6_stringSize_0f7a4_33 : decode cJ6_stringSize_0f7a4 33 = .ok (.iload_n 2, 1) := by decide +kernel
theorem dJ6_stringSize_0f7a4_34 : decode cJ6_stringSize_0f7a4 34 = .ok (.imul, 1) := by decide +kernel
theorem dJ6_stringSize_0f7a4_35 : decode cJ6_stringSize_0f7a4 35 = .ok (.istore_n 2, 1) := by decide +kernel
theorem dJ6_stringSize_0f7a4_36 : decode cJ6_stringSize_0f7a4 36 = .ok (.iinc 3 1, 3) := by decide +kernel
theorem dJ6_stringSize_0f7a4_39 : decode cJ6_stringSize_0f7a4 39 = .ok (.goto (-23), 3) := by decide +kernel
theorem dJ6_stringSize_0f7a4_27 : decode cJ6_stringSize_0f7a4 27 = .ok (.iload_n 3, 1) := by decide +kernel
theorem dJ6_stringSize_0f7a4_28 : decode cJ6_stringSize_0f7a4 28 = .ok (.iload_n 1, 1) := by decide +kernel
theorem dJ6_stringSize_0f7a4_29 : decode cJ6_stringSize_0f7a4 29 = .ok (.iadd, 1) := by decide +kernel
theorem dJ6_stringSize_0f7a4_30 : decode cJ6_stringSize_0f7a4 30 = .ok (.ireturn, 1) := by decide +kernel
set_option maxHeartbeats 400000 in
set_option maxRecDepth 20000 in
theorem ct_J6_stringSize_0f7a4 (l : Launch) (D : va_G) (dA : Nat → ClassId) (hst : l.stackTraces = false) (M : jM) (k : Nat) (hk : k < 100) : jCT l D dA yJ6_stringSize_0f7a4 wsJ6_stringSize_0f7a4 (20) (300) (0) (0) 1 [.int (nI (k))] M (jPo (oI (nI (sbD k).length)) (M)) := by
  refine jBody (cc := cJ6_stringSize_0f7a4) (nL := 4) (rt := (some .int)) (ini := false) (by decide) rfl hst (Nat.le_of_ble_eq_true rfl) (by simp [Value.category]) (by intro h9; first | exact absurd h9 (by decide) | rfl) ?_
  show J l D dA RJ6 cJ6_stringSize_0f7a4 wsJ6_stringSize_0f7a4 4 false (some .int) [] (20) (300) (jF D dA (jn M) (jPo (oI (nI (sbD k).length)) (M)) 1) (jn M) (0) (0) (M) 0 [.int (nI (k)), .float 0, .float 0, .float 0] []
  refine J_iconst (x := 1) dJ6_stringSize_0f7a4_0 (by decide) ?_
  refine J_istore_n (lv' := [.int (nI (k)), .int (1), .float 0, .float 0]) dJ6_stringSize_0f7a4_1 rfl (by decide) rfl rfl ?_
  refine J_iload_n dJ6_stringSize_0f7a4_2 rfl rfl ?_
  refine J_if_lt dJ6_stringSize_0f7a4_3 (tgt := 11) (by decide) (fun c3 => ?_) (fun c3 => ?_)
  · have c3 := jltT (a := k) (b := 0) (by omega) (by omega) c3
    exact absurd c3 (by omega)
  · have c3 := jltF (a := k) (b := 0) (by omega) (by omega) c3
    refine J_iconst (x := 0) dJ6_stringSize_0f7a4_6 (by decide) ?_
    refine J_istore_n (lv' := [.int (nI (k)), .int (0), .float 0, .float 0]) dJ6_stringSize_0f7a4_7 rfl (by decide) rfl rfl ?_
    refine J_iload_n dJ6_stringSize_0f7a4_8 rfl rfl ?_
    refine J_ineg dJ6_stringSize_0f7a4_9 ?_
    refine J_istore_n (lv' := [.int (-nI (k)), .int (0), .float 0, .float 0]) dJ6_stringSize_0f7a4_10 rfl (by decide) rfl rfl ?_
    refine J_bipush (x := (-10)) dJ6_stringSize_0f7a4_11 (by decide) ?_
    refine J_istore_n (lv' := [.int (-nI (k)), .int (0), .int (-10), .float 0]) dJ6_stringSize_0f7a4_13 rfl (by decide) rfl rfl ?_
    refine J_iconst (x := 1) dJ6_stringSize_0f7a4_14 (by decide) ?_
    refine J_istore_n (lv' := [.int (-nI (k)), .int (0), .int (-10), .int (1)]) dJ6_stringSize_0f7a4_15 rfl (by decide) rfl rfl ?_
    refine J_iload_n dJ6_stringSize_0f7a4_16 rfl rfl ?_
    refine J_bipush (x := 10) dJ6_stringSize_0f7a4_17 (by decide) ?_
    refine J_icmp_ge dJ6_stringSize_0f7a4_19 (tgt := 42) (by decide) (fun c19 => ?_) (fun c19 => ?_)
    · exact absurd c19 (by decide)
    · have c19 := jleF (a := 10) (b := 1) (by omega) (by omega) c19
      refine J_iload_n dJ6_stringSize_0f7a4_22 rfl rfl ?_
      refine J_iload_n dJ6_stringSize_0f7a4_23 rfl rfl ?_
      refine J_icmp_le dJ6_stringSize_0f7a4_24 (tgt := 31) (by decide) (fun c24 => ?_) (fun c24 => ?_)
      · refine J_bipush (x := 10) dJ6_stringSize_0f7a4_31 (by decide) ?_
        refine J_iload_n dJ6_stringSize_0f7a4_33 rfl rfl ?_
        refine J_imul dJ6_stringSize_0f7a4_34 ?_
        refine J_topi (y := (-100)) (by decide) ?_
        refine J_istore_n (lv' := [.int (-nI (k)), .int (0), .int (-100), .int (1)]) dJ6_stringSize_0f7a4_35 rfl (by decide) rfl rfl ?_
        refine J_iinc (y := nI (2)) (lv' := [.int (-nI (k)), .int (0), .int (-100), .int (nI (2))]) dJ6_stringSize_0f7a4_36 rfl (jinc (1)) (by decide) rfl rfl ?_
        refine J_goto (tgt := 16) dJ6_stringSize_0f7a4_39 (by decide) ?_
        refine J_iload_n dJ6_stringSize_0f7a4_16 rfl rfl ?_
        refine J_bipush (x := 10) dJ6_stringSize_0f7a4_17 (by decide) ?_
        refine J_icmp_ge dJ6_stringSize_0f7a4_19 (tgt := 42) (by decide) (fun c19 => ?_) (fun c19 => ?_)
        · exact absurd c19 (by decide)
        · have c19 := jleF (a := 10) (b := 2) (by omega) (by omega) c19
          refine J_iload_n dJ6_stringSize_0f7a4_22 rfl rfl ?_
          refine J_iload_n dJ6_stringSize_0f7a4_23 rfl rfl ?_
          refine J_icmp_le dJ6_stringSize_0f7a4_24 (tgt := 31) (by decide) (fun c24 => ?_) (fun c24 => ?_)
          · exact absurd c24 (Int32.not_le.mpr (sz_2 k hk))
          · refine J_iload_n dJ6_stringSize_0f7a4_27 rfl rfl ?_
            refine J_iload_n dJ6_stringSize_0f7a4_28 rfl rfl ?_
            refine J_iadd dJ6_stringSize_0f7a4_29 ?_
            refine J_topi (y := nI (2 + 0)) (nI_add (2) (0)) ?_
            exact J_iret (ty := .int) dJ6_stringSize_0f7a4_30 rfl (rfl) ⟨(by rw [sbD_len]; first | (rw [if_pos ((sz_1 k hk).mp (Int32.not_le.mp c24))]; rfl) | (rw [if_neg (fun z => Int32.not_le.mpr ((sz_1 k hk).mpr z) ‹-nI k ≤ (-10 : Int32)›)]; first | done | rfl) | fail "z"), (by rfl)⟩
      · refine J_iload_n dJ6_stringSize_0f7a4_27 rfl rfl ?_
        refine J_iload_n dJ6_stringSize_0f7a4_28 rfl rfl ?_
        refine J_iadd dJ6_stringSize_0f7a4_29 ?_
        refine J_topi (y := 1) (by decide) ?_
        exact J_iret (ty := .int) dJ6_stringSize_0f7a4_30 rfl (rfl) ⟨(by rw [sbD_len]; first | (rw [if_pos ((sz_1 k hk).mp (Int32.not_le.mp c24))]; rfl) | (rw [if_neg (fun z => Int32.not_le.mpr ((sz_1 k hk).mpr z) ‹-nI k ≤ (-10 : Int32)›)]; first | done | rfl) | fail "z"), (by rfl)⟩

theorem dJ6_getChars_ba4f3_0 : decode cJ6_getChars_ba4f3 0 = .ok (.iload_n 1, 1) := by decide +kernel
theorem dJ6_getChars_ba4f3_1 : decode cJ6_getChars_ba4f3 1 = .ok (.istore 5, 2) := by decide +kernel
theorem dJ6_getChars_ba4f3_3 : decode cJ6_getChars_ba4f3 3 = .ok (.iload_n 0, 1) := by decide +kernel
theorem dJ6_getChars_ba4f3_4 : decode cJ6_getChars_ba4f3 4 = .ok (.ifCond .ge 7, 3) := by decide +kernel
theorem dJ6_getChars_ba4f3_11 : decode cJ6_getChars_ba4f3 11 = .ok (.iconst 0, 1) := by decide +kernel
theorem dJ6_getChars_ba4f3_12 : decode cJ6_getChars_ba4f3 12 = .ok (.istore 6, 2) := by decide +kernel
theorem dJ6_getChars_ba4f3_14 : decode cJ6_getChars_ba4f3 14 = .ok (.iload 6, 2) := by decide +kernel
theorem dJ6_getChars_ba4f3_16 : decode cJ6_getChars_ba4f3 16 = .ok (.ifCond .ne 6, 3) := by decide +kernel
theorem dJ6_getChars_ba4f3_19 : decode cJ6_getChars_ba4f3 19 = .ok (.iload_n 0, 1) := by decide +kernel
theorem dJ6_getChars_ba4f3_20 : decode cJ6_getChars_ba4f3 20 = .ok (.ineg, 1) := by decide +kernel
theorem dJ6_getChars_ba4f3_21 : decode cJ6_getChars_ba4f3 21 = .ok (.istore_n 0, 1) := by decide +kernel
theorem dJ6_getChars_ba4f3_22 : decode cJ6_getChars_ba4f3 22 = .ok (.iload_n 0, 1) := by decide +kernel
theorem dJ6_getChars_ba4f3_23 : decode cJ6_getChars_ba4f3 23 = .ok (.bipush (-100), 2) := by decide +kernel
theorem dJ6_getChars_ba4f3_25 : decode cJ6_getChars_ba4f3 25 = .ok (.if_icmp .gt 47, 3) := by decide +kernel
theorem dJ6_getChars_ba4f3_72 : decode cJ6_getChars_ba4f3 72 = .ok (.aload_n 2, 1) := by decide +kernel
theorem dJ6_getChars_ba4f3_73 : decode cJ6_getChars_ba4f3 73 = .ok (.iinc 5 (-1), 3) := by decide +kernel
theorem dJ6_getChars_ba4f3_76 : decode cJ6_getChars_ba4f3 76 = .ok (.iload 5, 2) := by decide +kernel
theorem dJ6_getChars_ba4f3_78 : decode cJ6_getChars_ba4f3 78 = .ok (.getstatic 83, 3) := by decide +kernel
theorem dJ6_getChars_ba4f3_81 : decode cJ6_getChars_ba4f3 81 = .ok (.iload_n 0, 1) := by decide +kernel
theorem dJ6_getChars_ba4f3_82 : decode cJ6_getChars_ba4f3 82 = .ok (.ineg, 1) := by decide +kernel
theorem dJ6_getChars_ba4f3_83 : decode cJ6_getChars_ba4f3 83 = .ok (.baload, 1) := by decide +kernel
theorem dJ6_getChars_ba4f3_84 : decode cJ6_getChars_ba4f3 84 = .ok (.bastore, 1) := by decide +kernel
theorem dJ6_getChars_ba4f3_85 : decode cJ6_getChars_ba4f3 85 = .ok (.iload_n 0, 1) := by decide +kernel
theorem dJ6_getChars_ba4f3_86 : decode cJ6_getChars_ba4f3 86 = .ok (.bipush (-9), 2) := by decide +kernel
theorem dJ6_getChars_ba4f3_88 : decode cJ6_getChars_ba4f3 88 = .ok (.if_icmp .ge 16, 3) := by decide +kernel
theorem dJ6_getChars_ba4f3_104 : decode cJ6_getChars_ba4f3 104 = .ok (.iload 6, 2) := by decide +kernel
theorem dJ6_getChars_ba4f3_106 : decode cJ6_getChars_ba4f3 106 = .ok (.ifCond .eq 12, 3) := by decide +kernel
theorem dJ6_getChars_ba4f3_118 : decode cJ6_getChars_ba4f3 118 = .ok (.iload 5, 2) := by decide +kernel
theorem dJ6_getChars_ba4f3_120 : decode cJ6_getChars_ba4f3 120 = .ok (.ireturn, 1) := by decide +kernel
theorem dJ6_getChars_ba4f3_91 : decode cJ6_getChars_ba4f3 91 = .ok (.aload_n 2, 1) := by decide +kernel
theorem dJ6_getChars_ba4f3_92 : decode cJ6_getChars_ba4f3 92 = .ok (.iinc 5 (-1), 3) := by decide +kernel
theorem dJ6_getChars_ba4f3_95 : decode cJ6_getChars_ba4f3 95 = .ok (.iload 5, 2) := by decide +kernel
theorem dJ6_getChars_ba4f3_97 : decode cJ6_getChars_ba4f3 97 = .ok (.getstatic 87, 3) := by decide +kernel
theorem dJ6_getChars_ba4f3_100 : decode cJ6_getChars_ba4f3 100 = .ok (.iload_n 0, 1) := by decide +kernel
theorem dJ6_getChars_ba4f3_101 : decode cJ6_getChars_ba4f3 101 = .ok (.ineg, 1) := by decide +kernel
theorem dJ6_getChars_ba4f3_102 : decode cJ6_getChars_ba4f3 102 = .ok (.baload, 1) := by decide +kernel
theorem dJ6_getChars_ba4f3_103 : decode cJ6_getChars_ba4f3 103 = .ok (.bastore, 1) := by decide +kernel
set_option maxHeartbeats 400000 in
set_option maxRecDepth 20000 in
theorem ct_J6_getChars_ba4f3 (l : Launch) (D : va_G) (dA : Nat → ClassId) (hst : l.stackTraces = false) (M : jM) (k b m q : Nat) (hk : k < 100) (h4 : b < jn M) (h5 : jk M b = 20) (h6 : jz M b = m) (hm : m ≤ 2000) (hq : (sbD k).length ≤ q) (hqm : q ≤ m) : jCT l D dA yJ6_getChars_ba4f3 wsJ6_getChars_ba4f3 (20) (300) (0) (0) 1 [.int (nI (k)), .int (nI (q)), .ref (b)] M (jPo (oI (nI (q - (sbD k).length))) (sbGc M b q k)) := by
  refine jBody (cc := cJ6_getChars_ba4f3) (nL := 7) (rt := (some .int)) (ini := false) (by decide) rfl hst (Nat.le_of_ble_eq_true rfl) (by simp [Value.category]) (by intro h9; first | exact absurd h9 (by decide) | rfl) ?_
  show J l D dA RJ6 cJ6_getChars_ba4f3 wsJ6_getChars_ba4f3 7 false (some .int) [] (20) (300) (jF D dA (jn M) (jPo (oI (nI (q - (sbD k).length))) (sbGc M b q k)) 1) (jn M) (0) (0) (M) 0 [.int (nI (k)), .int (nI (q)), .ref (b), .float 0, .float 0, .float 0, .float 0] []
  have hdl := sbD_len k
  have hd1 := sbD_pos k
  refine J_iload_n dJ6_getChars_ba4f3_0 rfl rfl ?_
  refine J_istore (lv' := [.int (nI (k)), .int (nI (q)), .ref (b), .float 0, .float 0, .int (nI (q)), .float 0]) dJ6_getChars_ba4f3_1 (by decide) rfl rfl ?_
  refine J_iload_n dJ6_getChars_ba4f3_3 rfl rfl ?_
  refine J_if_ge dJ6_getChars_ba4f3_4 (tgt := 11) (by decide) (fun c4 => ?_) (fun c4 => ?_)
  · have c4 := jleT (a := 0) (b := k) (by omega) (by omega) c4
    refine J_iconst (x := 0) dJ6_getChars_ba4f3_11 (by decide) ?_
    refine J_istore (lv' := [.int (nI (k)), .int (nI (q)), .ref (b), .float 0, .float 0, .int (nI (q)), .int (0)]) dJ6_getChars_ba4f3_12 (by decide) rfl rfl ?_
    refine J_iload dJ6_getChars_ba4f3_14 rfl ?_
    refine J_if_ne dJ6_getChars_ba4f3_16 (tgt := 22) (by decide) (fun c16 => ?_) (fun c16 => ?_)
    · exact absurd c16 (by decide)
    · have c16 := jeqT (a := 0) (b := 0) (by omega) (by omega) c16
      refine J_iload_n dJ6_getChars_ba4f3_19 rfl rfl ?_
      refine J_ineg dJ6_getChars_ba4f3_20 ?_
      refine J_istore_n (lv' := [.int (-nI (k)), .int (nI (q)), .ref (b), .float 0, .float 0, .int (nI (q)), .int (0)]) dJ6_getChars_ba4f3_21 rfl (by decide) rfl rfl ?_
      refine J_iload_n dJ6_getChars_ba4f3_22 rfl rfl ?_
      refine J_bipush (x := (-100)) dJ6_getChars_ba4f3_23 (by decide) ?_
      refine J_icmp_gt dJ6_getChars_ba4f3_25 (tgt := 72) (by decide) (fun c25 => ?_) (fun c25 => ?_)
      · refine J_aload_n (b) dJ6_getChars_ba4f3_72 rfl rfl ?_
        refine J_iinc (y := nI (q - 1)) (lv' := [.int (-nI (k)), .int (nI (q)), .ref (b), .float 0, .float 0, .int (nI (q - 1)), .int (0)]) dJ6_getChars_ba4f3_73 rfl (jdec (k := q) (by omega)) (by decide) rfl rfl ?_
        refine J_iload dJ6_getChars_ba4f3_76 rfl ?_
        refine J_getsO dJ6_getChars_ba4f3_78 (List.mem_of_getElem? (i := 1) rfl) ?_
        refine J_iload_n dJ6_getChars_ba4f3_81 rfl rfl ?_
        refine J_ineg dJ6_getChars_ba4f3_82 ?_
        refine J_topi (y := nI (k)) (by exact sz_n k) ?_
        refine J_baldO (kq := k) dJ6_getChars_ba4f3_83 (by omega) ?_
        refine J_bastN (k := q - 1) (y := nI (48 + k % 10))  dJ6_getChars_ba4f3_84 h4 h5 (by exact Nat.lt_of_lt_of_eq (show _ < m by omega) (Eq.symm h6)) (by exact Nat.lt_of_le_of_lt (Nat.le_of_eq h6) (show m < 2 ^ 31 by omega)) (by exact (nI_byte (48 + k % 10) (by omega)).2.1) ?_
        refine J_iload_n dJ6_getChars_ba4f3_85 rfl rfl ?_
        refine J_bipush (x := (-9)) dJ6_getChars_ba4f3_86 (by decide) ?_
        refine J_icmp_ge dJ6_getChars_ba4f3_88 (tgt := 104) (by decide) (fun c88 => ?_) (fun c88 => ?_)
        · have k9 : ¬ 10 ≤ k := fun z => Int32.not_lt.mpr c88 ((sz_3 k hk).mpr z)
          rw [if_pos (by omega)] at hdl
          refine J_iload dJ6_getChars_ba4f3_104 rfl ?_
          refine J_if_eq dJ6_getChars_ba4f3_106 (tgt := 118) (by decide) (fun c106 => ?_) (fun c106 => ?_)
          · have c106 := jeqT (a := 0) (b := 0) (by omega) (by omega) c106
            refine J_iload dJ6_getChars_ba4f3_118 rfl ?_
            exact J_iret (ty := .int) dJ6_getChars_ba4f3_120 rfl (rfl) ⟨(by rw [hdl]; first | done | exact congrArg (fun z => oI (nI z)) (by omega) | fail "g"), (by unfold sbGc; first | (rw [if_pos (by omega), show k % 10 = k from by omega]; done) | (rw [if_neg (by omega)]; done) | fail "gm")⟩
          · exact absurd c106 (by decide)
        · have k9 : 10 ≤ k := (sz_3 k hk).mp (Int32.not_le.mp c88)
          rw [if_neg (by omega)] at hdl
          refine J_aload_n (b) dJ6_getChars_ba4f3_91 rfl rfl ?_
          refine J_iinc (y := nI (q - 1 - 1)) (lv' := [.int (-nI (k)), .int (nI (q)), .ref (b), .float 0, .float 0, .int (nI (q - 1 - 1)), .int (0)]) dJ6_getChars_ba4f3_92 rfl (jdec (k := q - 1) (by omega)) (by decide) rfl rfl ?_
          refine J_iload dJ6_getChars_ba4f3_95 rfl ?_
          refine J_getsT dJ6_getChars_ba4f3_97 (List.mem_of_getElem? (i := 2) rfl) ?_
          refine J_iload_n dJ6_getChars_ba4f3_100 rfl rfl ?_
          refine J_ineg dJ6_getChars_ba4f3_101 ?_
          refine J_topi (y := nI (k)) (by exact sz_n k) ?_
          refine J_baldT (kq := k) dJ6_getChars_ba4f3_102 (by omega) ?_
          refine J_bastN (k := q - 1 - 1) (y := nI (48 + k / 10))  dJ6_getChars_ba4f3_103 h4 h5 (by exact Nat.lt_of_lt_of_eq (show _ < m by omega) (Eq.symm h6)) (by exact Nat.lt_of_le_of_lt (Nat.le_of_eq h6) (show m < 2 ^ 31 by omega)) (by exact (nI_byte (48 + k / 10) (by omega)).2.1) ?_
          refine J_iload dJ6_getChars_ba4f3_104 rfl ?_
          refine J_if_eq dJ6_getChars_ba4f3_106 (tgt := 118) (by decide) (fun c106 => ?_) (fun c106 => ?_)
          · have c106 := jeqT (a := 0) (b := 0) (by omega) (by omega) c106
            refine J_iload dJ6_getChars_ba4f3_118 rfl ?_
            exact J_iret (ty := .int) dJ6_getChars_ba4f3_120 rfl (rfl) ⟨(by rw [hdl]; first | done | exact congrArg (fun z => oI (nI z)) (by omega) | fail "g"), (by unfold sbGc; first | (rw [if_pos (by omega), show k % 10 = k from by omega]; done) | (rw [if_neg (by omega)]; done) | fail "gm")⟩
          · exact absurd c106 (by decide)
      · exact absurd (sz_2 k hk) c25
  · have c4 := jleF (a := 0) (b := k) (by omega) (by omega) c4
    exact absurd c4 (by omega)

theorem dJ5_append_c97b9_0 : decode cJ5_append_c97b9 0 = .ok (.aload_n 0, 1) := by decide +kernel
theorem dJ5_append_c97b9_1 : decode cJ5_append_c97b9 1 = .ok (.getfield 79, 3) := by decide +kernel
theorem dJ5_append_c97b9_4 : decode cJ5_append_c97b9 4 = .ok (.istore_n 2, 1) := by decide +kernel
theorem dJ5_append_c97b9_5 : decode cJ5_append_c97b9 5 = .ok (.iload_n 2, 1) := by decide +kernel
theorem dJ5_append_c97b9_6 : decode cJ5_append_c97b9 6 = .ok (.iload_n 1, 1) := by decide +kernel
theorem dJ5_append_c97b9_7 : decode cJ5_append_c97b9 7 = .ok (.invokestatic 245, 3) := by decide +kernel
set_option maxRecDepth 20000 in
theorem ggJ5_append_c97b9_J6_stringSize_0f7a4 : GoodIn wsJ5_append_c97b9 wsJ6_stringSize_0f7a4 := goodIn_r _ [6] (by decide +kernel) (by decide +kernel)
set_option maxRecDepth 20000 in
theorem gJ5_append_c97b9_J6_stringSize_0f7a4 : GoodIn wsJ5_append_c97b9 (va_wsS RJ5 245 yJ6_stringSize_0f7a4 wsJ6_stringSize_0f7a4) := goodIn_app (goodIn_of _ (by decide +kernel)) ggJ5_append_c97b9_J6_stringSize_0f7a4
theorem yY_J6_stringSize_0f7a4 : jY yJ6_stringSize_0f7a4 wsJ6_stringSize_0f7a4 cJ6_stringSize_0f7a4 4 (some .int) 1 := ⟨⟨_, rfl⟩, by decide +kernel, by decide +kernel, by decide +kernel⟩
theorem dJ5_append_c97b9_10 : decode cJ5_append_c97b9 10 = .ok (.iadd, 1) := by decide +kernel
theorem dJ5_append_c97b9_11 : decode cJ5_append_c97b9 11 = .ok (.istore_n 3, 1) := by decide +kernel
theorem dJ5_append_c97b9_12 : decode cJ5_append_c97b9 12 = .ok (.aload_n 0, 1) := by decide +kernel
theorem dJ5_append_c97b9_13 : decode cJ5_append_c97b9 13 = .ok (.iload_n 3, 1) := by decide +kernel
theorem dJ5_append_c97b9_14 : decode cJ5_append_c97b9 14 = .ok (.invokevirtual 100, 3) := by decide +kernel
set_option maxRecDepth 20000 in
theorem ggJ5_append_c97b9_J5_ensureCapacityInternal_d00df : GoodIn wsJ5_append_c97b9 wsJ5_ensureCapacityInternal_d00df := goodIn_r _ [12, 2, 13, 14, 15, 16, 17, 11, 18, 19, 20, 21, 22, 23, 24, 25, 26, 27, 28, 29, 30, 31, 32, 33, 34, 35, 36, 37, 38, 39, 40, 41, 42, 43, 44, 45, 46, 47, 48, 49, 91, 92, 93, 94] (by decide +kernel) (by decide +kernel)
set_option maxRecDepth 20000 in
theorem gJ5_append_c97b9_J5_ensureCapacityInternal_d00df_u100J4 : GoodIn wsJ5_append_c97b9 (va_wsU RJ5 100 RJ4 "java/lang/AbstractStringBuilder" ⟨"java/lang/AbstractStringBuilder", "ensureCapacityInternal", "(I)V"⟩ yJ5_ensureCapacityInternal_d00df wsJ5_ensureCapacityInternal_d00df) := goodIn_app (goodIn_of _ (by decide +kernel)) ggJ5_append_c97b9_J5_ensureCapacityInternal_d00df
theorem dJ5_append_c97b9_17 : decode cJ5_append_c97b9 17 = .ok (.aload_n 0, 1) := by decide +kernel
theorem dJ5_append_c97b9_18 : decode cJ5_append_c97b9 18 = .ok (.invokevirtual 83, 3) := by decide +kernel
set_option maxRecDepth 20000 in
theorem ggJ5_append_c97b9_J5_isLatin1_aae02 : GoodIn wsJ5_append_c97b9 wsJ5_isLatin1_aae02 := goodIn_r _ [54, 55, 13, 91, 92, 93, 94] (by decide +kernel) (by decide +kernel)
set_option maxRecDepth 20000 in
theorem gJ5_append_c97b9_J5_isLatin1_aae02_u83J4 : GoodIn wsJ5_append_c97b9 (va_wsU RJ5 83 RJ4 "java/lang/AbstractStringBuilder" ⟨"java/lang/AbstractStringBuilder", "isLatin1", "()Z"⟩ yJ5_isLatin1_aae02 wsJ5_isLatin1_aae02) := goodIn_app (goodIn_of _ (by decide +kernel)) ggJ5_append_c97b9_J5_isLatin1_aae02
theorem dJ5_append_c97b9_21 : decode cJ5_append_c97b9 21 = .ok (.ifCond .eq 16, 3) := by decide +kernel
theorem dJ5_append_c97b9_24 : decode cJ5_append_c97b9 24 = .ok (.iload_n 1, 1) := by decide +kernel
theorem dJ5_append_c97b9_25 : decode cJ5_append_c97b9 25 = .ok (.iload_n 3, 1) := by decide +kernel
theorem dJ5_append_c97b9_26 : decode cJ5_append_c97b9 26 = .ok (.aload_n 0, 1) := by decide +kernel
theorem dJ5_append_c97b9_27 : decode cJ5_append_c97b9 27 = .ok (.getfield 15, 3) := by decide +kernel
theorem dJ5_append_c97b9_30 : decode cJ5_append_c97b9 30 = .ok (.invokestatic 248, 3) := by decide +kernel
set_option maxRecDepth 20000 in
theorem ggJ5_append_c97b9_J6_getChars_ba4f3 : GoodIn wsJ5_append_c97b9 wsJ6_getChars_ba4f3 := goodIn_r _ [58, 59, 60] (by decide +kernel) (by decide +kernel)
set_option maxRecDepth 20000 in
theorem gJ5_append_c97b9_J6_getChars_ba4f3 : GoodIn wsJ5_append_c97b9 (va_wsS RJ5 248 yJ6_getChars_ba4f3 wsJ6_getChars_ba4f3) := goodIn_app (goodIn_of _ (by decide +kernel)) ggJ5_append_c97b9_J6_getChars_ba4f3
theorem yY_J6_getChars_ba4f3 : jY yJ6_getChars_ba4f3 wsJ6_getChars_ba4f3 cJ6_getChars_ba4f3 7 (some .int) 3 := ⟨⟨_, rfl⟩, by decide +kernel, by decide +kernel, by decide +kernel⟩
theorem dJ5_append_c97b9_33 : decode cJ5_append_c97b9 33 = .ok (.pop, 1) := by decide +kernel
theorem dJ5_append_c97b9_34 : decode cJ5_append_c97b9 34 = .ok (.goto 14, 3) := by decide +kernel
theorem dJ5_append_c97b9_48 : decode cJ5_append_c97b9 48 = .ok (.aload_n 0, 1) := by decide +kernel
theorem dJ5_append_c97b9_49 : decode cJ5_append_c97b9 49 = .ok (.iload_n 3, 1) := by decide +kernel
theorem dJ5_append_c97b9_50 : decode cJ5_append_c97b9 50 = .ok (.putfield 79, 3) := by decide +kernel
theorem dJ5_append_c97b9_53 : decode cJ5_append_c97b9 53 = .ok (.aload_n 0, 1) := by decide +kernel
theorem dJ5_append_c97b9_54 : decode cJ5_append_c97b9 54 = .ok (.areturn, 1) := by decide +kernel
set_option maxHeartbeats 400000 in
set_option maxRecDepth 20000 in
theorem ct_J5_append_c97b9 (l : Launch) (D : va_G) (dA : Nat → ClassId) (hst : l.stackTraces = false) (M : jM) (s b m : Nat) (tx : List Nat) (hB : sbT M s b m tx) (hcl : jCl M) (k : Nat) (hk : k < 100) (h60 : tx.length < 590) : jCT l D dA yJ5_append_c97b9 wsJ5_append_c97b9 (27) (720) (sbC (tx.length + (sbD k).length) m) (sbS (tx.length + (sbD k).length) m) 2 [.ref (s), .int (nI (k))] M (sbP M s m tx (sbD k) (oR (some s))) := by
  refine jBody (cc := cJ5_append_c97b9) (nL := 4) (rt := (some (.object "java/lang/AbstractStringBuilder"))) (ini := false) (by decide) rfl hst (Nat.le_of_ble_eq_true rfl) (by simp [Value.category]) (by intro h9; first | exact absurd h9 (by decide) | rfl) ?_
  show J l D dA RJ5 cJ5_append_c97b9 wsJ5_append_c97b9 4 false (some (.object "java/lang/AbstractStringBuilder")) [] (27) (720) (jF D dA (jn M) (sbP M s m tx (sbD k) (oR (some s))) 2) (jn M) (sbC (tx.length + (sbD k).length) m) (sbS (tx.length + (sbD k).length) m) (M) 0 [.ref (s), .int (nI (k)), .float 0, .float 0] []
  obtain ⟨h1, h2, h3, h4, h5, h6, h7, h8, h9, h10, h11, h12, h13, h14⟩ := id hB
  have hd1 := sbD_pos k
  refine J_aload_n (s) dJ5_append_c97b9_0 rfl rfl ?_
  refine J_geti (j := 3) dJ5_append_c97b9_1 (fun _ h => List.mem_cons_of_mem _ (List.mem_append_right _ (h))) cs1 (by decide) rfl (List.mem_of_getElem? (i := 1) rfl) rfl h1 h2 ?_
  refine J_topi (y := nI (tx.length)) (h8) ?_
  refine J_istore_n (lv' := [.ref (s), .int (nI (k)), .int (nI (tx.length)), .float 0]) dJ5_append_c97b9_4 rfl (by decide) rfl rfl ?_
  refine J_iload_n dJ5_append_c97b9_5 rfl rfl ?_
  refine J_iload_n dJ5_append_c97b9_6 rfl rfl ?_
  refine J_calli0 (jrunS (As := [.int (nI (k))]) (ct_J6_stringSize_0f7a4 l D dA hst M k hk) dJ5_append_c97b9_7 yY_J6_stringSize_0f7a4 gJ5_append_c97b9_J6_stringSize_0f7a4 rfl ⟨by omega, by omega⟩ ⟨Nat.zero_le _, Nat.zero_le _⟩ rfl (Nat.le_of_ble_eq_true rfl)) (rfl) (rfl) ?_
  refine J_iadd dJ5_append_c97b9_10 ?_
  refine J_topi (y := nI (tx.length + (sbD k).length)) (nI_add (tx.length) ((sbD k).length)) ?_
  refine J_istore_n (lv' := [.ref (s), .int (nI (k)), .int (nI (tx.length)), .int (nI (tx.length + (sbD k).length))]) dJ5_append_c97b9_11 rfl (by decide) rfl rfl ?_
  refine J_aload_n (s) dJ5_append_c97b9_12 rfl rfl ?_
  refine J_iload_n dJ5_append_c97b9_13 rfl rfl ?_
  refine J_callvA (jrunU (As := [.int (nI (tx.length + (sbD k).length))]) (ct_J5_ensureCapacityInternal_d00df l D dA hst M s b m tx hB hcl (tx.length + (sbD k).length) (by omega)) dJ5_append_c97b9_14 yY_J5_ensureCapacityInternal_d00df gJ5_append_c97b9_J5_ensureCapacityInternal_d00df_u100J4 rfl cs1 h1 h2 rfl ⟨by omega, by omega⟩ ⟨by omega, by omega⟩ rfl (Nat.le_of_ble_eq_true rfl)) (rfl) ⟨by omega, by omega⟩ ⟨(jOk.ref h1 (jOk.int (jOk.int (jOk.int jOk.nil)))), jOk.nil⟩ ?_
  obtain ⟨b1, hB1, hF1⟩ := sb_grow hB hcl (tx.length + (sbD k).length) (by omega)
  obtain ⟨M1, hM1⟩ : ∃ Mz, Mz = (if tx.length + (sbD k).length ≤ m then M else sbG M s b m (sbCap (tx.length + (sbD k).length) m)) := ⟨_, rfl⟩
  rw [← hM1] at hB1 hF1
  refine J_mem (M' := M1) hM1.symm ?_
  obtain ⟨k1, k2, k3, k4, k5, k6, k7, k8, k9, k10, k11, k12, k13, k14⟩ := id hB1
  have hcg := sbCap_ge (tx.length + (sbD k).length) m
  have hcl1 := hF1.2.2.2.2.2
  refine J_aload_n (s) dJ5_append_c97b9_17 rfl rfl ?_
  refine J_calli0 (jrunU (As := []) (ct_J5_isLatin1_aae02 l D dA hst M1 s b1 (sbCap (tx.length + (sbD k).length) m) tx hB1) dJ5_append_c97b9_18 yY_J5_isLatin1_aae02 gJ5_append_c97b9_J5_isLatin1_aae02_u83J4 rfl cs1 k1 k2 rfl ⟨by omega, by omega⟩ ⟨Nat.zero_le _, Nat.zero_le _⟩ rfl (Nat.le_of_ble_eq_true rfl)) (rfl) (rfl) ?_
  refine J_if_eq dJ5_append_c97b9_21 (tgt := 37) (by decide) (fun c21 => ?_) (fun c21 => ?_)
  · exact absurd c21 (by decide)
  · have c21 := jeqF (a := 1) (b := 0) (by omega) (by omega) c21
    refine J_iload_n dJ5_append_c97b9_24 rfl rfl ?_
    refine J_iload_n dJ5_append_c97b9_25 rfl rfl ?_
    refine J_aload_n (s) dJ5_append_c97b9_26 rfl rfl ?_
    refine J_getrs (q := b1) k3 dJ5_append_c97b9_27 (fun _ h => List.mem_cons_of_mem _ (List.mem_append_right _ (h))) cs1 (by decide) rfl (List.mem_of_getElem? (i := 2) rfl) rfl k1 k2 ?_
    refine J_calli0 (jrunS (As := [.int (nI (k)), .int (nI (tx.length + (sbD k).length)), .ref (b1)]) (ct_J6_getChars_ba4f3 l D dA hst M1 k b1 (sbCap (tx.length + (sbD k).length) m) (tx.length + (sbD k).length) hk k4 k5 k6 k10 (Nat.le_add_left _ _) hcg.2) dJ5_append_c97b9_30 yY_J6_getChars_ba4f3 gJ5_append_c97b9_J6_getChars_ba4f3 rfl ⟨by omega, by omega⟩ ⟨Nat.zero_le _, Nat.zero_le _⟩ rfl (Nat.le_of_ble_eq_true rfl)) (rfl) ((by unfold sbGc; split <;> rfl)) ?_
    refine J_pop dJ5_append_c97b9_33 rfl ?_
    refine J_goto (tgt := 48) dJ5_append_c97b9_34 (by decide) ?_
    refine J_aload_n (s) dJ5_append_c97b9_48 rfl rfl ?_
    refine J_iload_n dJ5_append_c97b9_49 rfl rfl ?_
    refine J_puti (j := 3) (x := nI (tx.length + (sbD k).length)) dJ5_append_c97b9_50 (fun _ h => List.mem_cons_of_mem _ (List.mem_append_right _ (h))) cs1 cty1 (by decide) rfl (List.mem_of_getElem? (i := 1) rfl) rfl rfl ⟨rfl, rfl⟩ (by rw [show jn (sbGc M1 b1 (tx.length + (sbD k).length) k) = jn M1 from by unfold sbGc; split <;> rfl]; exact k1) (by rw [show jk (sbGc M1 b1 (tx.length + (sbD k).length) k) = jk M1 from by unfold sbGc; split <;> rfl]; exact k2) ?_
    refine J_aload_n (s) dJ5_append_c97b9_53 rfl rfl ?_
    exact J_aret (r := some (s)) dJ5_append_c97b9_54 rfl (Or.inl ⟨_, rfl⟩) (by exact ⟨rfl, b1, (sbT_num hB1 hcg.2 hk hcl1).1, hF1.tr (sbT_num hB1 hcg.2 hk hcl1).2⟩)

