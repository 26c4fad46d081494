/-- capacities: how an array of bytes grows -/
def sbCap (q m : Nat) : Nat := if q ≤ m then m else m + max (q - m) (m + 2)
def sbC (q m : Nat) : Nat := if q ≤ m then 0 else 1
def sbS (q m : Nat) : Nat := if q ≤ m then 0 else sbCap q m
theorem sbCap_ge (q m : Nat) : m ≤ sbCap q m ∧ q ≤ sbCap q m := by unfold sbCap; split <;> omega
/-- a builder at s: its bytes lie at b, m of them; the text in it is tx -/
def sbT (M : jM) (s b m : Nat) (tx : List Nat) : Prop := s < jn M ∧ jk M s = 1 ∧ jr M s 0 = some b ∧ b < jn M ∧ jk M b = 20 ∧ jz M b = m ∧ ji M s 1 = 0 ∧ ji M s 3 = nI tx.length ∧ tx.length ≤ m ∧ m ≤ 2000 ∧ (∀ j, j < tx.length → ji M b j = nI (tx.getD j 0)) ∧ (∀ c ∈ tx, c < 128) ∧ jBf M b ∧ (b + 34 < s ∨ s < b)
/-- what a builder's calls leave as it was -/
def sbF (s : Nat) (M M1 : jM) : Prop := jn M ≤ jn M1 ∧ (∀ a, a < jn M → jk M1 a = jk M a ∧ jz M1 a = jz M a ∧ jl M1 a = jl M a ∧ jd M1 a = jd M a) ∧ (∀ a, a < jn M → a ≠ s → jr M1 a = jr M a) ∧ (∀ a, a < jn M → a ≠ s → jk M a ≠ 20 → ji M1 a = ji M a) ∧ (∀ a, a < jn M → jk M a = 20 → jBf M a → jBf M1 a) ∧ jCl M1
theorem sbF.tr {s : Nat} {M M1 M2 : jM} (h : sbF s M M1) (h2 : sbF s M1 M2) : sbF s M M2 := by
  obtain ⟨a1, a2, a3, a4, a5, a6⟩ := h
  obtain ⟨b1, b2, b3, b4, b5, b6⟩ := h2
  refine ⟨by omega, fun a ha => ?_, fun a ha hs => (b3 a (by omega) hs).trans (a3 a ha hs), fun a ha hs hk => (b4 a (by omega) hs (by rw [(a2 a ha).1]; exact hk)).trans (a4 a ha hs hk), fun a ha hk hb => b5 a (by omega) (by rw [(a2 a ha).1]; exact hk) (a5 a ha hk hb), b6⟩
  obtain ⟨c1, c2, c3, c4⟩ := a2 a ha
  obtain ⟨d1, d2, d3, d4⟩ := b2 a (by omega)
  exact ⟨d1.trans c1, d2.trans c2, d3.trans c3, d4.trans c4⟩
theorem sbF.rf {s : Nat} {M : jM} (h : jCl M) : sbF s M M := ⟨Nat.le_refl _, fun _ _ => ⟨rfl, rfl, rfl, rfl⟩, fun _ _ _ => rfl, fun _ _ _ _ => rfl, fun _ _ _ h => h, h⟩
theorem jsub_le {q m : Nat} (hq : q < 2 ^ 28) (hm : m < 2 ^ 28) : (nI q - nI m ≤ 0) ↔ q ≤ m := by
  have e1 : (nI q - nI m).toInt = (q : Int) - m := pk_sub_toInt (by omega) (by omega)
  rw [Int32.le_iff_toInt_le, e1, Int32.toInt_zero]
  omega
theorem nI_byte : ∀ c : Nat, c < 128 → vp_nar .byte ((nI c : Int32).toInt8.toInt32) = nI c ∧ vp_nar .byte (nI c) = nI c ∧ fits .byte (.int (nI c)) = true ∧ ((nI c &&& 255 : Int32).toUInt32 % 65536).toInt32 = nI c ∧ ¬ nI c > 255 := by decide +kernel
theorem nI_255 {c : Nat} (h : c < 128) : ((nI c &&& 255 : Int32).toUInt32 % 65536).toInt32 = nI c := (nI_byte c h).2.2.2.1
theorem sbT.lt {M : jM} {s b m : Nat} {tx : List Nat} (h : sbT M s b m tx) {j : Nat} (hj : j < tx.length) : tx.getD j 0 < 128 := h.2.2.2.2.2.2.2.2.2.2.2.1 _ (jgetD_m hj)
/-- the bytes grown: the array at jn M is new -/
def sbG (M : jM) (s b m n : Nat) : jM := jSr (jSv (jNw M 20 n) (jn M) (va_cpy (ji (jNw M 20 n) b) (ji (jNw M 20 n) (jn M)) 0 0 m)) s 0 (some (jn M))
theorem sbG_T {M : jM} {s b m n : Nat} {tx : List Nat} (h : sbT M s b m tx) (hn : m ≤ n) (h2 : n ≤ 2000) (hcl : jCl M) : sbT (sbG M s b m n) s (jn M) n tx ∧ sbF s M (sbG M s b m n) := by
  obtain ⟨h1, h2', h3, h4, h5, h6, h7, h8, h9, h10, h11, h12, h13, h14⟩ := h
  have hrow : ∀ a, a < jn M → ji (sbG M s b m n) a = ji M a := fun a ha => funext fun j => by
    show ji (jSr _ s 0 _) a j = _
    rw [ji_Sr, ji_Sv, if_neg (by omega), ji_Nw, if_neg (by omega)]
  have hnew : ∀ j, ji (sbG M s b m n) (jn M) j = if j < m then ji M b j else 0 := fun j => by
    show ji (jSr _ s 0 _) (jn M) j = _
    rw [ji_Sr, ji_Sv, if_pos rfl]
    unfold va_cpy
    by_cases hj : j < m
    · rw [if_pos (by omega), if_pos hj, ji_Nw, if_neg (by omega), show 0 + (j - 0) = j from by omega]
    · rw [if_neg (by omega), if_neg hj, ji_Nw, if_pos rfl]
  have hk : ∀ a, a < jn M → jk (sbG M s b m n) a = jk M a ∧ jz (sbG M s b m n) a = jz M a := fun a ha => by
    have hne : a ≠ jn M := by omega
    exact ⟨by show jk (jNw M 20 n) a = _; rw [jk_Nw, if_neg hne], by show jz (jNw M 20 n) a = _; rw [jz_Nw, if_neg hne]⟩
  have hrr : ∀ a j, a < jn M → ¬ (a = s ∧ j = 0) → jr (sbG M s b m n) a j = jr M a j := fun a j ha hh => by
    show jr (jSr _ s 0 _) a j = _
    rw [jr_Sr, if_neg hh, jr_Sv, jr_Nw, if_neg (by omega)]
  have hbf : jBf (sbG M s b m n) (jn M) := fun j => by
    rw [hnew]
    split
    · exact h13 j
    · decide
  have hjn : jn (sbG M s b m n) = jn M + 1 := rfl
  refine ⟨⟨by omega, (hk s h1).1.trans h2', ?_, by omega, ?_, ?_, by rw [hrow s h1]; exact h7, by rw [hrow s h1]; exact h8, by omega, h2, fun j hj => ?_, h12, hbf, Or.inr h1⟩, ⟨by omega, fun a ha => ⟨(hk a ha).1, (hk a ha).2, ?_, ?_⟩, fun a ha hs => funext fun j => hrr a j ha (fun hh => hs hh.1), fun a ha _ _ => hrow a ha, fun a ha _ hb => hb.eq (hrow a ha), ?_⟩⟩
  · show jr (jSr _ s 0 _) s 0 = _; rw [jr_Sr, if_pos ⟨rfl, rfl⟩]
  · show jk (jNw M 20 n) (jn M) = 20; rw [jk_Nw, if_pos rfl]
  · show jz (jNw M 20 n) (jn M) = n; rw [jz_Nw, if_pos rfl]
  · rw [hnew, if_pos (by omega)]; exact h11 j hj
  · funext j; show jl (jNw M 20 n) a j = _; rw [jl_Nw, if_neg (by omega)]
  · funext j; show jd (jNw M 20 n) a j = _; rw [jd_Nw, if_neg (by omega)]
  · exact jCl_Sr (jCl_Sv (jCl_Nw hcl)) (fun q hq => by cases hq; exact Nat.lt_succ_self _)
/-- a text put behind the text -/
theorem sbT_put {M : jM} {s b m : Nat} {tx ys : List Nat} {g : Nat → Int32} (h : sbT M s b m tx) (hl : tx.length + ys.length ≤ m) (hy : ∀ c ∈ ys, c < 128) (hg1 : ∀ j, j < tx.length → g j = ji M b j) (hg2 : ∀ j, j < ys.length → g (tx.length + j) = nI (ys.getD j 0)) (hg3 : ∀ j, fits .byte (.int (g j)) = true) (hcl : jCl M) (M1 : jM) (hM : M1 = jSi (jSv M b g) s 3 (nI (tx.length + ys.length))) : sbT M1 s b m (tx ++ ys) ∧ sbF s M M1 := by
  subst hM
  obtain ⟨h1, h2, h3, h4, h5, h6, h7, h8, h9, h10, h11, h12, h13, h14⟩ := h
  have hne : b ≠ s := fun e => by rw [e, h2] at h5; exact absurd h5 (by decide)
  have hb : ∀ j, ji (jSi (jSv M b g) s 3 (nI (tx.length + ys.length))) b j = g j := fun j => by rw [ji_Si, if_neg (fun hh => hne hh.1), ji_Sv, if_pos rfl]
  refine ⟨⟨h1, h2, h3, h4, h5, h6, ?_, ?_, by rw [List.length_append]; exact hl, h10, fun j hj => ?_, fun c hc => ?_, fun j => by rw [hb]; exact hg3 j, h14⟩, ⟨Nat.le_refl _, fun _ _ => ⟨rfl, rfl, rfl, rfl⟩, fun _ _ _ => rfl, fun a ha hs hk => funext fun j => ?_, fun a ha hk hbf => ?_, jCl_Si (jCl_Sv hcl)⟩⟩
  · rw [ji_Si, if_neg (fun hh => absurd hh.2 (by decide)), ji_Sv, if_neg (Ne.symm hne)]; exact h7
  · rw [ji_Si, if_pos ⟨rfl, rfl⟩, List.length_append]
  · rw [hb]
    rw [List.length_append] at hj
    by_cases hj2 : j < tx.length
    · rw [hg1 j hj2, h11 j hj2, jgetD_l hj2]
    · obtain ⟨i, rfl⟩ : ∃ i, j = tx.length + i := ⟨j - tx.length, by omega⟩
      rw [hg2 i (by omega), jgetD_r]
  · rcases List.mem_append.mp hc with h | h
    · exact h12 c h
    · exact hy c h
  · rw [ji_Si, if_neg (fun hh => hs hh.1), ji_Sv, if_neg (fun e => hk (by rw [e]; exact h5))]
  · by_cases e : a = b
    · subst e; exact fun j => by rw [hb]; exact hg3 j
    · exact hbf.eq (funext fun j => by rw [ji_Si, if_neg (fun hh => by rw [hh.1, h2] at hk; exact absurd hk (by decide)), ji_Sv, if_neg e])
theorem nI_mx {a c : Nat} (ha : a < 2 ^ 31) (hc : c < 2 ^ 31) : (if nI a < nI c then nI c else nI a) = nI (max a c) := jmaxI ha hc
theorem sz_1 : ∀ k : Nat, k < 100 → ((-10 : Int32) < -nI k ↔ k < 10) := by decide +kernel
theorem sz_2 : ∀ k : Nat, k < 100 → (-100 : Int32) < -nI k := by decide +kernel
theorem sz_3 : ∀ k : Nat, k < 100 → (-nI k < (-9 : Int32) ↔ 10 ≤ k) := by decide +kernel
theorem sz_n (k : Nat) : -(-nI k) = nI k := Int32.neg_neg
def sbD (k : Nat) : List Nat := if k < 10 then [48 + k] else [48 + k / 10, 48 + k % 10]
theorem sbD_len (k : Nat) : (sbD k).length = if k < 10 then 1 else 2 := by unfold sbD; split <;> rfl
theorem dJ5_length_8abf5_0 : decode cJ5_length_8abf5 0 = .ok (.aload_n 0, 1) := by decide +kernel
theorem dJ5_length_8abf5_1 : decode cJ5_length_8abf5 1 = .ok (.getfield 79, 3) := by decide +kernel
theorem dJ5_length_8abf5_4 : decode cJ5_length_8abf5 4 = .ok (.ireturn, 1) := by decide +kernel
set_option maxHeartbeats 400000 in
set_option maxRecDepth 20000 in
theorem ct_J5_length_8abf5 (l : Launch) (D : va_G) (dA : Nat → ClassId) (hst : l.stackTraces = false) (M : jM) (s b m : Nat) (tx : List Nat) (hB : sbT M s b m tx) : jCT l D dA yJ5_length_8abf5 wsJ5_length_8abf5 (20) (300) (0) (0) 1 [.ref (s)] M (jPo (oI (nI tx.length)) (M)) := by
  refine jBody (cc := cJ5_length_8abf5) (nL := 1) (rt := (some .int)) (ini := false) (by decide) rfl hst (Nat.le_of_ble_eq_true rfl) (by simp [Value.category]) (by intro h9; first | exact absurd h9 (by decide) | rfl) ?_
  show J l D dA RJ5 cJ5_length_8abf5 wsJ5_length_8abf5 1 false (some .int) [] (20) (300) (jF D dA (jn M) (jPo (oI (nI tx.length)) (M)) 1) (jn M) (0) (0) (M) 0 [.ref (s)] []
  obtain ⟨h1, h2, h3, h4, h5, h6, h7, h8, h9, h10, h11, h12, h13, h14⟩ := id hB
  refine J_aload_n (s) dJ5_length_8abf5_0 rfl rfl ?_
  refine J_geti (j := 3) dJ5_length_8abf5_1 (fun _ h => List.mem_cons_of_mem _ (List.mem_append_right _ (h))) cs1 (by decide) rfl (List.mem_of_getElem? (i := 1) rfl) rfl h1 h2 ?_
  refine J_topi (y := nI (tx.length)) (h8) ?_
  exact J_iret (ty := .int) dJ5_length_8abf5_4 rfl (rfl) ⟨(by rfl), (by rfl)⟩

theorem dJ5_isLatin1_aae02_0 : decode cJ5_isLatin1_aae02 0 = .ok (.getstatic 18, 3) := by decide +kernel
theorem dJ5_isLatin1_aae02_3 : decode cJ5_isLatin1_aae02 3 = .ok (.ifCond .eq 14, 3) := by decide +kernel
theorem dJ5_isLatin1_aae02_6 : decode cJ5_isLatin1_aae02 6 = .ok (.aload_n 0, 1) := by decide +kernel
theorem dJ5_isLatin1_aae02_7 : decode cJ5_isLatin1_aae02 7 = .ok (.getfield 22, 3) := by decide +kernel
theorem dJ5_isLatin1_aae02_10 : decode cJ5_isLatin1_aae02 10 = .ok (.ifCond .ne 7, 3) := by decide +kernel
theorem dJ5_isLatin1_aae02_13 : decode cJ5_isLatin1_aae02 13 = .ok (.iconst 1, 1) := by decide +kernel
theorem dJ5_isLatin1_aae02_14 : decode cJ5_isLatin1_aae02 14 = .ok (.goto 4, 3) := by decide +kernel
theorem dJ5_isLatin1_aae02_18 : decode cJ5_isLatin1_aae02 18 = .ok (.ireturn, 1) := by decide +kernel
set_option maxHeartbeats 400000 in
set_option maxRecDepth 20000 in
theorem ct_J5_isLatin1_aae02 (l : Launch) (D : va_G) (dA : Nat → ClassId) (hst : l.stackTraces = false) (M : jM) (s b m : Nat) (tx : List Nat) (hB : sbT M s b m tx) : jCT l D dA yJ5_isLatin1_aae02 wsJ5_isLatin1_aae02 (20) (300) (0) (0) 1 [.ref (s)] M (jPo (oI 1) (M)) := by
  refine jBody (cc := cJ5_isLatin1_aae02) (nL := 1) (rt := (some .boolean)) (ini := false) (by decide) rfl hst (Nat.le_of_ble_eq_true rfl) (by simp [Value.category]) (by intro h9; first | exact absurd h9 (by decide) | rfl) ?_
  show J l D dA RJ5 cJ5_isLatin1_aae02 wsJ5_isLatin1_aae02 1 false (some .boolean) [] (20) (300) (jF D dA (jn M) (jPo (oI 1) (M)) 1) (jn M) (0) (0) (M) 0 [.ref (s)] []
  obtain ⟨h1, h2, h3, h4, h5, h6, h7, h8, h9, h10, h11, h12, h13, h14⟩ := id hB
  refine J_getsC dJ5_isLatin1_aae02_0 (List.mem_of_getElem? (i := 1) rfl) ?_
  refine J_if_eq dJ5_isLatin1_aae02_3 (tgt := 17) (by decide) (fun c3 => ?_) (fun c3 => ?_)
  · exact absurd c3 (by decide)
  · have c3 := jeqF (a := 1) (b := 0) (by omega) (by omega) c3
    refine J_aload_n (s) dJ5_isLatin1_aae02_6 rfl rfl ?_
    refine J_geti (j := 1) dJ5_isLatin1_aae02_7 (fun _ h => List.mem_cons_of_mem _ (List.mem_append_right _ (h))) cs1 (by decide) rfl (List.mem_of_getElem? (i := 2) rfl) rfl h1 h2 ?_
    refine J_topi (y := (0)) (h7) ?_
    refine J_if_ne dJ5_isLatin1_aae02_10 (tgt := 17) (by decide) (fun c10 => ?_) (fun c10 => ?_)
    · exact absurd c10 (by decide)
    · have c10 := jeqT (a := 0) (b := 0) (by omega) (by omega) c10
      refine J_iconst (x := 1) dJ5_isLatin1_aae02_13 (by decide) ?_
      refine J_goto (tgt := 18) dJ5_isLatin1_aae02_14 (by decide) ?_
      exact J_iret (ty := .boolean) dJ5_isLatin1_aae02_18 rfl (by rfl) ⟨(by rfl), (by rfl)⟩

theorem dJ1_canEncode_fc78d_0 : decode cJ1_canEncode_fc78d 0 = .ok (.iload_n 0, 1) := by decide +kernel
theorem dJ1_canEncode_fc78d_1 : decode cJ1_canEncode_fc78d 1 = .ok (.sipush 255, 3) := by decide +kernel
theorem dJ1_canEncode_fc78d_4 : decode cJ1_canEncode_fc78d 4 = .ok (.if_icmp .gt 7, 3) := by decide +kernel
theorem dJ1_canEncode_fc78d_7 : decode cJ1_canEncode_fc78d 7 = .ok (.iconst 1, 1) := by decide +kernel
theorem dJ1_canEncode_fc78d_8 : decode cJ1_canEncode_fc78d 8 = .ok (.goto 4, 3) := by decide +kernel
theorem dJ1_canEncode_fc78d_12 : decode cJ1_canEncode_fc78d 12 = .ok (.ireturn, 1) := by decide +kernel
set_option maxHeartbeats 400000 in
set_option maxRecDepth 20000 in
theorem ct_J1_canEncode_fc78d (l : Launch) (D : va_G) (dA : Nat → ClassId) (hst : l.stackTraces = false) (M : jM) (c : Nat) (hc : c < 128) : jCT l D dA yJ1_canEncode_fc78d wsJ1_canEncode_fc78d (20) (300) (0) (0) 1 [.int (nI (c))] M (jPo (oI 1) (M)) := by
  refine jBody (cc := cJ1_canEncode_fc78d) (nL := 1) (rt := (some .boolean)) (ini := false) (by decide) rfl hst (Nat.le_of_ble_eq_true rfl) (by simp [Value.category]) (by intro h9; first | exact absurd h9 (by decide) | rfl) ?_
  show J l D dA RJ1 cJ1_canEncode_fc78d wsJ1_canEncode_fc78d 1 false (some .boolean) [] (20) (300) (jF D dA (jn M) (jPo (oI 1) (M)) 1) (jn M) (0) (0) (M) 0 [.int (nI (c))] []
  refine J_iload_n dJ1_canEncode_fc78d_0 rfl rfl ?_
  refine J_sipush (x := 255) dJ1_canEncode_fc78d_1 (by decide) ?_
  refine J_icmp_gt dJ1_canEncode_fc78d_4 (tgt := 11) (by decide) (fun c4 => ?_) (fun c4 => ?_)
  · have c4 := jltT (a := 255) (b := c) (by omega) (by omega) c4
    exact absurd c4 (by omega)
  · have c4 := jltF (a := 255) (b := c) (by omega) (by omega) c4
    refine J_iconst (x := 1) dJ1_canEncode_fc78d_7 (by decide) ?_
    refine J_goto (tgt := 12) dJ1_canEncode_fc78d_8 (by decide) ?_
    exact J_iret (ty := .boolean) dJ1_canEncode_fc78d_12 rfl (by rfl) ⟨(by rfl), (by rfl)⟩

theorem dJ8_newLength_cabcc_0 : decode cJ8_newLength_cabcc 0 = .ok (.iload_n 0, 1) := by decide +kernel
theorem dJ8_newLength_cabcc_1 : decode cJ8_newLength_cabcc 1 = .ok (.iload_n 1, 1) := by decide +kernel
theorem dJ8_newLength_cabcc_2 : decode cJ8_newLength_cabcc 2 = .ok (.iload_n 2, 1) := by decide +kernel
theorem dJ8_newLength_cabcc_3 : decode cJ8_newLength_cabcc 3 = .ok (.invokestatic 194, 3) := by decide +kernel
theorem dJ8_newLength_cabcc_6 : decode cJ8_newLength_cabcc 6 = .ok (.iadd, 1) := by decide +kernel
theorem dJ8_newLength_cabcc_7 : decode cJ8_newLength_cabcc 7 = .ok (.istore_n 3, 1) := by decide +kernel
theorem dJ8_newLength_cabcc_8 : decode cJ8_newLength_cabcc 8 = .ok (.iconst 0, 1) := by decide +kernel
theorem dJ8_newLength_cabcc_9 : decode cJ8_newLength_cabcc 9 = .ok (.iload_n 3, 1) := by decide +kernel
theorem dJ8_newLength_cabcc_10 : decode cJ8_newLength_cabcc 10 = .ok (.if_icmp .ge 11, 3) := by decide +kernel
theorem dJ8_newLength_cabcc_13 : decode cJ8_newLength_cabcc 13 = .ok (.iload_n 3, 1) := by decide +kernel
theorem dJ8_newLength_cabcc_14 : decode cJ8_newLength_cabcc 14 = .ok (.ldc 200, 2) := by decide +kernel
theorem dJ8_newLength_cabcc_16 : decode cJ8_newLength_cabcc 16 = .ok (.if_icmp .gt 5, 3) := by decide +kernel
theorem dJ8_newLength_cabcc_19 : decode cJ8_newLength_cabcc 19 = .ok (.iload_n 3, 1) := by decide +kernel
theorem dJ8_newLength_cabcc_20 : decode cJ8_newLength_cabcc 20 = .ok (.ireturn, 1) := by decide +kernel
set_option maxHeartbeats 400000 in
set_option maxRecDepth 20000 in
theorem ct_J8_newLength_cabcc (l : Launch) (D : va_G) (dA : Nat → ClassId) (hst : l.stackTraces = false) (M : jM) (o g p : Nat) (ho : o ≤ 2000) (hg : g ≤ 2000) (hp : p ≤ 3000) (hp1 : 1 ≤ p) : jCT l D dA yJ8_newLength_cabcc wsJ8_newLength_cabcc (21) (360) (0) (0) 1 [.int (nI (o)), .int (nI (g)), .int (nI (p))] M (jPo (oI (nI (o + max g p))) (M)) := by
  refine jBody (cc := cJ8_newLength_cabcc) (nL := 4) (rt := (some .int)) (ini := false) (by decide) rfl hst (Nat.le_of_ble_eq_true rfl) (by simp [Value.category]) (by intro h9; first | exact absurd h9 (by decide) | rfl) ?_
  show J l D dA RJ8 cJ8_newLength_cabcc wsJ8_newLength_cabcc 4 false (some .int) [] (21) (360) (jF D dA (jn M) (jPo (oI (nI (o + max g p))) (M)) 1) (jn M) (0) (0) (M) 0 [.int (nI (o)), .int (nI (g)), .int (nI (p)), .float 0] []
  refine J_iload_n dJ8_newLength_cabcc_0 rfl rfl ?_
  refine J_iload_n dJ8_newLength_cabcc_1 rfl rfl ?_
  refine J_iload_n dJ8_newLength_cabcc_2 rfl rfl ?_
  refine J_mmax dJ8_newLength_cabcc_3 (List.mem_of_getElem? (i := 1) rfl) (List.mem_of_getElem? (i := 2) rfl) (List.mem_of_getElem? (i := 3) rfl) (List.mem_of_getElem? (i := 4) rfl) (Nat.le_of_ble_eq_true rfl) (by omega) (by omega) ?_
  refine J_topi (y := nI (max g p)) (by exact nI_mx (by omega) (by omega)) ?_
  refine J_iadd dJ8_newLength_cabcc_6 ?_
  refine J_topi (y := nI (o + max g p)) (nI_add (o) (max g p)) ?_
  refine J_istore_n (lv' := [.int (nI (o)), .int (nI (g)), .int (nI (p)), .int (nI (o + max g p))]) dJ8_newLength_cabcc_7 rfl (by decide) rfl rfl ?_
  refine J_iconst (x := 0) dJ8_newLength_cabcc_8 (by decide) ?_
  refine J_iload_n dJ8_newLength_cabcc_9 rfl rfl ?_
  refine J_icmp_ge dJ8_newLength_cabcc_10 (tgt := 21) (by decide) (fun c10 => ?_) (fun c10 => ?_)
  · have c10 := jleT (a := o + max g p) (b := 0) (by omega) (by omega) c10
    exact absurd c10 (by omega)
  · have c10 := jleF (a := o + max g p) (b := 0) (by omega) (by omega) c10
    refine J_iload_n dJ8_newLength_cabcc_13 rfl rfl ?_
    refine J_ldc (x := 2147483639) dJ8_newLength_cabcc_14 (List.mem_of_getElem? (i := 5) rfl) ?_
    refine J_icmp_gt dJ8_newLength_cabcc_16 (tgt := 21) (by decide) (fun c16 => ?_) (fun c16 => ?_)
    · have c16 := jltT (a := 2147483639) (b := o + max g p) (by omega) (by omega) c16
      exact absurd c16 (by omega)
    · have c16 := jltF (a := 2147483639) (b := o + max g p) (by omega) (by omega) c16
      refine J_iload_n dJ8_newLength_cabcc_19 rfl rfl ?_
      exact J_iret (ty := .int) dJ8_newLength_cabcc_20 rfl (rfl) ⟨(by rfl), (by rfl)⟩

theorem dJ5_newCapacity_0f7a4_0 : decode cJ5_newCapacity_0f7a4 0 = .ok (.aload_n 0, 1) := by decide +kernel
theorem dJ5_newCapacity_0f7a4_1 : decode cJ5_newCapacity_0f7a4 1 = .ok (.getfield 15, 3) := by decide +kernel
theorem dJ5_newCapacity_0f7a4_4 : decode cJ5_newCapacity_0f7a4 4 = .ok (.arraylength, 1) := by decide +kernel
theorem dJ5_newCapacity_0f7a4_5 : decode cJ5_newCapacity_0f7a4 5 = .ok (.istore_n 2, 1) := by decide +kernel
theorem dJ5_newCapacity_0f7a4_6 : decode cJ5_newCapacity_0f7a4 6 = .ok (.iload_n 1, 1) := by decide +kernel
theorem dJ5_newCapacity_0f7a4_7 : decode cJ5_newCapacity_0f7a4 7 = .ok (.aload_n 0, 1) := by decide +kernel
theorem dJ5_newCapacity_0f7a4_8 : decode cJ5_newCapacity_0f7a4 8 = .ok (.getfield 22, 3) := by decide +kernel
theorem dJ5_newCapacity_0f7a4_11 : decode cJ5_newCapacity_0f7a4 11 = .ok (.ishl, 1) := by decide +kernel
theorem dJ5_newCapacity_0f7a4_12 : decode cJ5_newCapacity_0f7a4 12 = .ok (.istore_n 3, 1) := by decide +kernel
theorem dJ5_newCapacity_0f7a4_13 : decode cJ5_newCapacity_0f7a4 13 = .ok (.iload_n 3, 1) := by decide +kernel
theorem dJ5_newCapacity_0f7a4_14 : decode cJ5_newCapacity_0f7a4 14 = .ok (.iload_n 2, 1) := by decide +kernel
theorem dJ5_newCapacity_0f7a4_15 : decode cJ5_newCapacity_0f7a4 15 = .ok (.isub, 1) := by decide +kernel
theorem dJ5_newCapacity_0f7a4_16 : decode cJ5_newCapacity_0f7a4 16 = .ok (.istore 4, 2) := by decide +kernel
theorem dJ5_newCapacity_0f7a4_18 : decode cJ5_newCapacity_0f7a4 18 = .ok (.iload_n 2, 1) := by decide +kernel
theorem dJ5_newCapacity_0f7a4_19 : decode cJ5_newCapacity_0f7a4 19 = .ok (.iload 4, 2) := by decide +kernel
theorem dJ5_newCapacity_0f7a4_21 : decode cJ5_newCapacity_0f7a4 21 = .ok (.iload_n 2, 1) := by decide +kernel
theorem dJ5_newCapacity_0f7a4_22 : decode cJ5_newCapacity_0f7a4 22 = .ok (.iconst 2, 1) := by decide +kernel
theorem dJ5_newCapacity_0f7a4_23 : decode cJ5_newCapacity_0f7a4 23 = .ok (.aload_n 0, 1) := by decide +kernel
theorem dJ5_newCapacity_0f7a4_24 : decode cJ5_newCapacity_0f7a4 24 = .ok (.getfield 22, 3) := by decide +kernel
theorem dJ5_newCapacity_0f7a4_27 : decode cJ5_newCapacity_0f7a4 27 = .ok (.ishl, 1) := by decide +kernel
theorem dJ5_newCapacity_0f7a4_28 : decode cJ5_newCapacity_0f7a4 28 = .ok (.iadd, 1) := by decide +kernel
theorem dJ5_newCapacity_0f7a4_29 : decode cJ5_newCapacity_0f7a4 29 = .ok (.invokestatic 114, 3) := by decide +kernel
set_option maxRecDepth 20000 in
theorem ggJ5_newCapacity_0f7a4_J8_newLength_cabcc : GoodIn wsJ5_newCapacity_0f7a4 wsJ8_newLength_cabcc := goodIn_r _ [7, 8, 9, 10, 11, 12, 13, 14, 6, 15] (by decide +kernel) (by decide +kernel)
set_option maxRecDepth 20000 in
theorem gJ5_newCapacity_0f7a4_J8_newLength_cabcc : GoodIn wsJ5_newCapacity_0f7a4 (va_wsS RJ5 114 yJ8_newLength_cabcc wsJ8_newLength_cabcc) := goodIn_app (goodIn_of _ (by decide +kernel)) ggJ5_newCapacity_0f7a4_J8_newLength_cabcc
theorem yY_J8_newLength_cabcc : jY yJ8_newLength_cabcc wsJ8_newLength_cabcc cJ8_newLength_cabcc 4 (some .int) 3 := ⟨⟨_, rfl⟩, by decide +kernel, by decide +kernel, by decide +kernel⟩
theorem dJ5_newCapacity_0f7a4_32 : decode cJ5_newCapacity_0f7a4 32 = .ok (.istore 5, 2) := by decide +kernel
theorem dJ5_newCapacity_0f7a4_34 : decode cJ5_newCapacity_0f7a4 34 = .ok (.iload 5, 2) := by decide +kernel
theorem dJ5_newCapacity_0f7a4_36 : decode cJ5_newCapacity_0f7a4 36 = .ok (.ldc 39, 2) := by decide +kernel
theorem dJ5_newCapacity_0f7a4_38 : decode cJ5_newCapacity_0f7a4 38 = .ok (.if_icmp .ne 13, 3) := by decide +kernel
theorem dJ5_newCapacity_0f7a4_51 : decode cJ5_newCapacity_0f7a4 51 = .ok (.iload 5, 2) := by decide +kernel
theorem dJ5_newCapacity_0f7a4_53 : decode cJ5_newCapacity_0f7a4 53 = .ok (.aload_n 0, 1) := by decide +kernel
theorem dJ5_newCapacity_0f7a4_54 : decode cJ5_newCapacity_0f7a4 54 = .ok (.getfield 22, 3) := by decide +kernel
theorem dJ5_newCapacity_0f7a4_57 : decode cJ5_newCapacity_0f7a4 57 = .ok (.ishr, 1) := by decide +kernel
theorem dJ5_newCapacity_0f7a4_58 : decode cJ5_newCapacity_0f7a4 58 = .ok (.ireturn, 1) := by decide +kernel
set_option maxHeartbeats 400000 in
set_option maxRecDepth 20000 in
theorem ct_J5_newCapacity_0f7a4 (l : Launch) (D : va_G) (dA : Nat → ClassId) (hst : l.stackTraces = false) (M : jM) (s b m : Nat) (tx : List Nat) (hB : sbT M s b m tx) (q : Nat) (hq : q ≤ 600) (hqm : m < q) : jCT l D dA yJ5_newCapacity_0f7a4 wsJ5_newCapacity_0f7a4 (23) (480) (0) (0) 1 [.ref (s), .int (nI (q))] M (jPo (oI (nI (sbCap q m))) (M)) := by
  refine jBody (cc := cJ5_newCapacity_0f7a4) (nL := 6) (rt := (some .int)) (ini := false) (by decide) rfl hst (Nat.le_of_ble_eq_true rfl) (by simp [Value.category]) (by intro h9; first | exact absurd h9 (by decide) | rfl) ?_
  show J l D dA RJ5 cJ5_newCapacity_0f7a4 wsJ5_newCapacity_0f7a4 6 false (some .int) [] (23) (480) (jF D dA (jn M) (jPo (oI (nI (sbCap q m))) (M)) 1) (jn M) (0) (0) (M) 0 [.ref (s), .int (nI (q)), .float 0, .float 0, .float 0, .float 0] []
  obtain ⟨h1, h2, h3, h4, h5, h6, h7, h8, h9, h10, h11, h12, h13, h14⟩ := id hB
  refine J_aload_n (s) dJ5_newCapacity_0f7a4_0 rfl rfl ?_
  refine J_getrs (q := b) h3 dJ5_newCapacity_0f7a4_1 (fun _ h => List.mem_cons_of_mem _ (List.mem_append_right _ (h))) cs1 (by decide) rfl (List.mem_of_getElem? (i := 1) rfl) rfl h1 h2 ?_
  refine J_alen (t := 0) dJ5_newCapacity_0f7a4_4 h4 h5 rfl ?_
  refine J_topi (y := nI (m)) (congrArg nI h6) ?_
  refine J_istore_n (lv' := [.ref (s), .int (nI (q)), .int (nI (m)), .float 0, .float 0, .float 0]) dJ5_newCapacity_0f7a4_5 rfl (by decide) rfl rfl ?_
  refine J_iload_n dJ5_newCapacity_0f7a4_6 rfl rfl ?_
  refine J_aload_n (s) dJ5_newCapacity_0f7a4_7 rfl rfl ?_
  refine J_geti (j := 1) dJ5_newCapacity_0f7a4_8 (fun _ h => List.mem_cons_of_mem _ (List.mem_append_right _ (h))) cs1 (by decide) rfl (List.mem_of_getElem? (i := 2) rfl) rfl h1 h2 ?_
  refine J_topi (y := (0)) (h7) ?_
  refine J_ishl0 dJ5_newCapacity_0f7a4_11 ?_
  refine J_istore_n (lv' := [.ref (s), .int (nI (q)), .int (nI (m)), .int (nI (q)), .float 0, .float 0]) dJ5_newCapacity_0f7a4_12 rfl (by decide) rfl rfl ?_
  refine J_iload_n dJ5_newCapacity_0f7a4_13 rfl rfl ?_
  refine J_iload_n dJ5_newCapacity_0f7a4_14 rfl rfl ?_
  refine J_isub dJ5_newCapacity_0f7a4_15 ?_
  refine J_topi (y := nI (q - m)) (pk_sub (a := q) (b := m) (by omega)) ?_
  refine J_istore (lv' := [.ref (s), .int (nI (q)), .int (nI (m)), .int (nI (q)), .int (nI (q - m)), .float 0]) dJ5_newCapacity_0f7a4_16 (by decide) rfl rfl ?_
  refine J_iload_n dJ5_newCapacity_0f7a4_18 rfl rfl ?_
  refine J_iload dJ5_newCapacity_0f7a4_19 rfl ?_
  refine J_iload_n dJ5_newCapacity_0f7a4_21 rfl rfl ?_
  refine J_iconst (x := 2) dJ5_newCapacity_0f7a4_22 (by decide) ?_
  refine J_aload_n (s) dJ5_newCapacity_0f7a4_23 rfl rfl ?_
  refine J_geti (j := 1) dJ5_newCapacity_0f7a4_24 (fun _ h => List.mem_cons_of_mem _ (List.mem_append_right _ (h))) cs1 (by decide) rfl (List.mem_of_getElem? (i := 2) rfl) rfl h1 h2 ?_
  refine J_topi (y := (0)) (h7) ?_
  refine J_ishl0 dJ5_newCapacity_0f7a4_27 ?_
  refine J_iadd dJ5_newCapacity_0f7a4_28 ?_
  refine J_topi (y := nI (m + 2)) (nI_add (m) (2)) ?_
  refine J_calli0 (jrunS (As := [.int (nI (m)), .int (nI (q - m)), .int (nI (m + 2))]) (ct_J8_newLength_cabcc l D dA hst M (m) (q - m) (m + 2) (by omega) (by omega) (by omega) (by omega)) dJ5_newCapacity_0f7a4_29 yY_J8_newLength_cabcc gJ5_newCapacity_0f7a4_J8_newLength_cabcc rfl ⟨by omega, by omega⟩ ⟨Nat.zero_le _, Nat.zero_le _⟩ rfl (Nat.le_of_ble_eq_true rfl)) (rfl) (rfl) ?_
  refine J_istore (lv' := [.ref (s), .int (nI (q)), .int (nI (m)), .int (nI (q)), .int (nI (q - m)), .int (nI (m + max (q - m) (m + 2)))]) dJ5_newCapacity_0f7a4_32 (by decide) rfl rfl ?_
  refine J_iload dJ5_newCapacity_0f7a4_34 rfl ?_
  refine J_ldc (x := 2147483647) dJ5_newCapacity_0f7a4_36 (List.mem_of_getElem? (i := 3) rfl) ?_
  refine J_icmp_ne dJ5_newCapacity_0f7a4_38 (tgt := 51) (by decide) (fun c38 => ?_) (fun c38 => ?_)
  · have c38 := jeqF (a := m + max (q - m) (m + 2)) (b := 2147483647) (by omega) (by omega) c38
    refine J_iload dJ5_newCapacity_0f7a4_51 rfl ?_
    refine J_aload_n (s) dJ5_newCapacity_0f7a4_53 rfl rfl ?_
    refine J_geti (j := 1) dJ5_newCapacity_0f7a4_54 (fun _ h => List.mem_cons_of_mem _ (List.mem_append_right _ (h))) cs1 (by decide) rfl (List.mem_of_getElem? (i := 2) rfl) rfl h1 h2 ?_
    refine J_topi (y := (0)) (h7) ?_
    refine J_ishr0 dJ5_newCapacity_0f7a4_57 ?_
    exact J_iret (ty := .int) dJ5_newCapacity_0f7a4_58 rfl (rfl) ⟨(by unfold sbCap; rw [if_neg (by omega)]), (by rfl)⟩
  · have c38 := jeqT (a := m + max (q - m) (m + 2)) (b := 2147483647) (by omega) (by omega) c38
    exact absurd c38 (by omega)

theorem dJ7_copyOf_9075b_0 : decode cJ7_copyOf_9075b 0 = .ok (.iload_n 1, 1) := by decide +kernel
theorem dJ7_copyOf_9075b_1 : decode cJ7_copyOf_9075b 1 = .ok (.aload_n 0, 1) := by decide +kernel
theorem dJ7_copyOf_9075b_2 : decode cJ7_copyOf_9075b 2 = .ok (.arraylength, 1) := by decide +kernel
theorem dJ7_copyOf_9075b_3 : decode cJ7_copyOf_9075b 3 = .ok (.if_icmp .ne 11, 3) := by decide +kernel
theorem dJ7_copyOf_9075b_14 : decode cJ7_copyOf_9075b 14 = .ok (.iload_n 1, 1) := by decide +kernel
theorem dJ7_copyOf_9075b_15 : decode cJ7_copyOf_9075b 15 = .ok (.newarray .byte, 2) := by decide +kernel
theorem dJ7_copyOf_9075b_17 : decode cJ7_copyOf_9075b 17 = .ok (.astore_n 2, 1) := by decide +kernel
theorem dJ7_copyOf_9075b_18 : decode cJ7_copyOf_9075b 18 = .ok (.aload_n 0, 1) := by decide +kernel
theorem dJ7_copyOf_9075b_19 : decode cJ7_copyOf_9075b 19 = .ok (.iconst 0, 1) := by decide +kernel
theorem dJ7_copyOf_9075b_20 : decode cJ7_copyOf_9075b 20 = .ok (.aload_n 2, 1) := by decide +kernel
theorem dJ7_copyOf_9075b_21 : decode cJ7_copyOf_9075b 21 = .ok (.iconst 0, 1) := by decide +kernel
theorem dJ7_copyOf_9075b_22 : decode cJ7_copyOf_9075b 22 = .ok (.aload_n 0, 1) := by decide +kernel
theorem dJ7_copyOf_9075b_23 : decode cJ7_copyOf_9075b 23 = .ok (.arraylength, 1) := by decide +kernel
theorem dJ7_copyOf_9075b_24 : decode cJ7_copyOf_9075b 24 = .ok (.iload_n 1, 1) := by decide +kernel
theorem dJ7_copyOf_9075b_25 : decode cJ7_copyOf_9075b 25 = .ok (.invokestatic 304, 3) := by decide +kernel
theorem dJ7_copyOf_9075b_28 : decode cJ7_copyOf_9075b 28 = .ok (.invokestatic 150, 3) := by decide +kernel
theorem dJ7_copyOf_9075b_31 : decode cJ7_copyOf_9075b 31 = .ok (.aload_n 2, 1) := by decide +kernel
theorem dJ7_copyOf_9075b_32 : decode cJ7_copyOf_9075b 32 = .ok (.areturn, 1) := by decide +kernel
set_option maxHeartbeats 400000 in
set_option maxRecDepth 20000 in
theorem ct_J7_copyOf_9075b (l : Launch) (D : va_G) (dA : Nat → ClassId) (hst : l.stackTraces = false) (M : jM) (hcl : jCl M) (b m n : Nat) (h4 : b < jn M) (h5 : jk M b = 20) (h6 : jz M b = m) (hmn : m < n) (hn : n ≤ 2000) (hbf : jBf M b) : jCT l D dA yJ7_copyOf_9075b wsJ7_copyOf_9075b (21) (360) (1) (n) 2 [.ref (b), .int (nI (n))] M (jPo (oR (some (jn M))) (jSv (jNw M 20 n) (jn M) (va_cpy (ji (jNw M 20 n) b) (ji (jNw M 20 n) (jn M)) 0 0 m))) := by
  refine jBody (cc := cJ7_copyOf_9075b) (nL := 3) (rt := (some (.array .byte))) (ini := false) (by decide) rfl hst (Nat.le_of_ble_eq_true rfl) (by simp [Value.category]) (by intro h9; first | exact absurd h9 (by decide) | rfl) ?_
  show J l D dA RJ7 cJ7_copyOf_9075b wsJ7_copyOf_9075b 3 false (some (.array .byte)) [] (21) (360) (jF D dA (jn M) (jPo (oR (some (jn M))) (jSv (jNw M 20 n) (jn M) (va_cpy (ji (jNw M 20 n) b) (ji (jNw M 20 n) (jn M)) 0 0 m))) 2) (jn M) (1) (n) (M) 0 [.ref (b), .int (nI (n)), .float 0] []
  refine J_iload_n dJ7_copyOf_9075b_0 rfl rfl ?_
  refine J_aload_n (b) dJ7_copyOf_9075b_1 rfl rfl ?_
  refine J_alen (t := 0) dJ7_copyOf_9075b_2 h4 h5 rfl ?_
  refine J_topi (y := nI (m)) (congrArg nI h6) ?_
  refine J_icmp_ne dJ7_copyOf_9075b_3 (tgt := 14) (by decide) (fun c3 => ?_) (fun c3 => ?_)
  · have c3 := jeqF (a := n) (b := m) (by omega) (by omega) c3
    refine J_iload_n dJ7_copyOf_9075b_14 rfl rfl ?_
    refine J_newa (t := 0) (atype := .byte) (N' := n) (n := nI (n)) dJ7_copyOf_9075b_15 (by decide) rfl rfl (List.mem_of_getElem? (i := 7) rfl) (nI_pos (n := n) (by omega)) (nI_clamp (n := n) (by omega)) (by simp [newarray.typeOf, componentBytes] <;> omega) (by omega) (by omega) (hcl) (jOk.ref h4 (jOk.int (jOk.float jOk.nil))) jOk.nil ?_
    refine J_astore_n (x := jn M) (lv' := [.ref (b), .int (nI (n)), .ref (jn M)]) dJ7_copyOf_9075b_17 rfl (by decide) rfl rfl ?_
    refine J_aload_n (b) dJ7_copyOf_9075b_18 rfl rfl ?_
    refine J_iconst (x := 0) dJ7_copyOf_9075b_19 (by decide) ?_
    refine J_aload_n (jn M) dJ7_copyOf_9075b_20 rfl rfl ?_
    refine J_iconst (x := 0) dJ7_copyOf_9075b_21 (by decide) ?_
    refine J_aload_n (b) dJ7_copyOf_9075b_22 rfl rfl ?_
    refine J_alen (t := 0) dJ7_copyOf_9075b_23 (by have h9 := h4; first | exact h9 | (simp only [jn_Nw, jn_Si, jn_Sr, jn_Sv, jn_Sq]; omega)) (jk_new (M := M) (kd := 20) (len := n) (by have h9 := h4; first | exact h9 | (simp only [jn_Nw, jn_Si, jn_Sr, jn_Sv, jn_Sq]; omega)) h5) rfl ?_
    refine J_topi (y := nI (m)) (congrArg nI (jz_new (M := M) (kd := 20) (len := n) (by have h9 := h4; first | exact h9 | (simp only [jn_Nw, jn_Si, jn_Sr, jn_Sv, jn_Sq]; omega)) h6)) ?_
    refine J_iload_n dJ7_copyOf_9075b_24 rfl rfl ?_
    refine J_mmin dJ7_copyOf_9075b_25 (List.mem_of_getElem? (i := 8) rfl) (List.mem_of_getElem? (i := 9) rfl) (List.mem_of_getElem? (i := 10) rfl) (List.mem_of_getElem? (i := 11) rfl) (Nat.le_of_ble_eq_true rfl) (by omega) (by omega) ?_
    refine J_topi (y := nI (m)) (by exact if_neg (nI_nlt (by omega) (by omega))) ?_
    refine J_copyb (z0 := m) (z := n) (sp := 0) (dp := 0) (n := m) dJ7_copyOf_9075b_28 (List.mem_of_getElem? (i := 12) rfl) (List.mem_of_getElem? (i := 13) rfl) (List.mem_of_getElem? (i := 14) rfl) (List.mem_of_getElem? (i := 15) rfl) (by have h9 := h4; first | exact h9 | (simp only [jn_Nw, jn_Si, jn_Sr, jn_Sv, jn_Sq]; omega)) (jk_new (M := M) (kd := 20) (len := n) (by have h9 := h4; first | exact h9 | (simp only [jn_Nw, jn_Si, jn_Sr, jn_Sv, jn_Sq]; omega)) h5) (by simp [jn_Nw, jn_Si, jn_Sr, jn_Sv] <;> omega) (by simp [jk_Nw, jk_Si, jk_Sr, jk_Sv, jn_Nw, jn_Si, jn_Sr, jn_Sv]) (jz_new (M := M) (kd := 20) (len := n) (by have h9 := h4; first | exact h9 | (simp only [jn_Nw, jn_Si, jn_Sr, jn_Sv, jn_Sq]; omega)) h6) (by simp [jz_Nw, jz_Si, jz_Sr, jz_Sv, jn_Nw, jn_Si, jn_Sr, jn_Sv]) (by omega) (by omega) (by omega) (by omega) (by intro i hi; rw [ji_Nw, if_neg (by omega)]; exact hbf _) (Nat.le_of_ble_eq_true rfl) (by omega) (by omega) ?_
    refine J_aload_n (jn M) dJ7_copyOf_9075b_31 rfl rfl ?_
    exact J_aret (r := some (jn M)) dJ7_copyOf_9075b_32 rfl (Or.inr ⟨_, rfl⟩) ⟨(by rfl), (by rfl)⟩
  · have c3 := jeqT (a := n) (b := m) (by omega) (by omega) c3
    exact absurd c3 (by omega)

theorem dJ5_ensureCapacityInternal_d00df_0 : decode cJ5_ensureCapacityInternal_d00df 0 = .ok (.aload_n 0, 1) := by decide +kernel
theorem dJ5_ensureCapacityInternal_d00df_1 : decode cJ5_ensureCapacityInternal_d00df 1 = .ok (.getfield 15, 3) := by decide +kernel
theorem dJ5_ensureCapacityInternal_d00df_4 : decode cJ5_ensureCapacityInternal_d00df 4 = .ok (.arraylength, 1) := by decide +kernel
theorem dJ5_ensureCapacityInternal_d00df_5 : decode cJ5_ensureCapacityInternal_d00df 5 = .ok (.aload_n 0, 1) := by decide +kernel
theorem dJ5_ensureCapacityInternal_d00df_6 : decode cJ5_ensureCapacityInternal_d00df 6 = .ok (.getfield 22, 3) := by decide +kernel
theorem dJ5_ensureCapacityInternal_d00df_9 : decode cJ5_ensureCapacityInternal_d00df 9 = .ok (.ishr, 1) := by decide +kernel
theorem dJ5_ensureCapacityInternal_d00df_10 : decode cJ5_ensureCapacityInternal_d00df 10 = .ok (.istore_n 2, 1) := by decide +kernel
theorem dJ5_ensureCapacityInternal_d00df_11 : decode cJ5_ensureCapacityInternal_d00df 11 = .ok (.iload_n 1, 1) := by decide +kernel
theorem dJ5_ensureCapacityInternal_d00df_12 : decode cJ5_ensureCapacityInternal_d00df 12 = .ok (.iload_n 2, 1) := by decide +kernel
theorem dJ5_ensureCapacityInternal_d00df_13 : decode cJ5_ensureCapacityInternal_d00df 13 = .ok (.isub, 1) := by decide +kernel
theorem dJ5_ensureCapacityInternal_d00df_14 : decode cJ5_ensureCapacityInternal_d00df 14 = .ok (.ifCond .le 24, 3) := by decide +kernel
theorem dJ5_ensureCapacityInternal_d00df_38 : decode cJ5_ensureCapacityInternal_d00df 38 = .ok (.return_, 1) := by decide +kernel
theorem dJ5_ensureCapacityInternal_d00df_17 : decode cJ5_ensureCapacityInternal_d00df 17 = .ok (.aload_n 0, 1) := by decide +kernel
theorem dJ5_ensureCapacityInternal_d00df_18 : decode cJ5_ensureCapacityInternal_d00df 18 = .ok (.aload_n 0, 1) := by decide +kernel
theorem dJ5_ensureCapacityInternal_d00df_19 : decode cJ5_ensureCapacityInternal_d00df 19 = .ok (.getfield 15, 3) := by decide +kernel
theorem dJ5_ensureCapacityInternal_d00df_22 : decode cJ5_ensureCapacityInternal_d00df 22 = .ok (.aload_n 0, 1) := by decide +kernel
theorem dJ5_ensureCapacityInternal_d00df_23 : decode cJ5_ensureCapacityInternal_d00df 23 = .ok (.iload_n 1, 1) := by decide +kernel
theorem dJ5_ensureCapacityInternal_d00df_24 : decode cJ5_ensureCapacityInternal_d00df 24 = .ok (.invokevirtual 104, 3) := by decide +kernel
set_option maxRecDepth 20000 in
theorem ggJ5_ensureCapacityInternal_d00df_J5_newCapacity_0f7a4 : GoodIn wsJ5_ensureCapacityInternal_d00df wsJ5_newCapacity_0f7a4 := goodIn_r _ [8, 1, 2, 9, 10, 11, 12, 13, 14, 15, 16, 17, 18, 19, 20, 21, 40, 41, 42, 43] (by decide +kernel) (by decide +kernel)
set_option maxRecDepth 20000 in
theorem gJ5_ensureCapacityInternal_d00df_J5_newCapacity_0f7a4_u104J4 : GoodIn wsJ5_ensureCapacityInternal_d00df (va_wsU RJ5 104 RJ4 "java/lang/AbstractStringBuilder" ⟨"java/lang/AbstractStringBuilder", "newCapacity", "(I)I"⟩ yJ5_newCapacity_0f7a4 wsJ5_newCapacity_0f7a4) := goodIn_app (goodIn_of _ (by decide +kernel)) ggJ5_ensureCapacityInternal_d00df_J5_newCapacity_0f7a4
theorem yY_J5_newCapacity_0f7a4 : jY yJ5_newCapacity_0f7a4 wsJ5_newCapacity_0f7a4 cJ5_newCapacity_0f7a4 6 (some .int) 1 := ⟨⟨_, rfl⟩, by decide +kernel, by decide +kernel, by decide +kernel⟩
theorem dJ5_ensureCapacityInternal_d00df_27 : decode cJ5_ensureCapacityInternal_d00df 27 = .ok (.aload_n 0, 1) := by decide +kernel
theorem dJ5_ensureCapacityInternal_d00df_28 : decode cJ5_ensureCapacityInternal_d00df 28 = .ok (.getfield 22, 3) := by decide +kernel
theorem dJ5_ensureCapacityInternal_d00df_31 : decode cJ5_ensureCapacityInternal_d00df 31 = .ok (.ishl, 1) := by decide +kernel
theorem dJ5_ensureCapacityInternal_d00df_32 : decode cJ5_ensureCapacityInternal_d00df 32 = .ok (.invokestatic 108, 3) := by decide +kernel
set_option maxRecDepth 20000 in
theorem ggJ5_ensureCapacityInternal_d00df_J7_copyOf_9075b : GoodIn wsJ5_ensureCapacityInternal_d00df wsJ7_copyOf_9075b := goodIn_r _ [25, 26, 27, 28, 29, 30, 31, 32, 33, 34, 16, 35, 36, 37, 38, 39] (by decide +kernel) (by decide +kernel)
set_option maxRecDepth 20000 in
theorem gJ5_ensureCapacityInternal_d00df_J7_copyOf_9075b : GoodIn wsJ5_ensureCapacityInternal_d00df (va_wsS RJ5 108 yJ7_copyOf_9075b wsJ7_copyOf_9075b) := goodIn_app (goodIn_of _ (by decide +kernel)) ggJ5_ensureCapacityInternal_d00df_J7_copyOf_9075b
theorem yY_J7_copyOf_9075b : jY yJ7_copyOf_9075b wsJ7_copyOf_9075b cJ7_copyOf_9075b 3 (some (.array .byte)) 2 := ⟨⟨_, rfl⟩, by decide +kernel, by decide +kernel, by decide +kernel⟩
theorem dJ5_ensureCapacityInternal_d00df_35 : decode cJ5_ensureCapacityInternal_d00df 35 = .ok (.putfield 15, 3) := by decide +kernel
set_option maxHeartbeats 400000 in
set_option maxRecDepth 20000 in
theorem ct_J5_ensureCapacityInternal_d00df (l : Launch) (D : va_G) (dA : Nat → ClassId) (hst : l.stackTraces = false) (M : jM) (s b m : Nat) (tx : List Nat) (hB : sbT M s b m tx) (hcl : jCl M) (q : Nat) (hq : q ≤ 600) : jCT l D dA yJ5_ensureCapacityInternal_d00df wsJ5_ensureCapacityInternal_d00df (25) (600) (sbC q m) (sbS q m) 0 [.ref (s), .int (nI (q))] M (jPo (oV) (if q ≤ m then M else sbG M s b m (sbCap q m))) := by
  refine jBody (cc := cJ5_ensureCapacityInternal_d00df) (nL := 3) (rt := none) (ini := false) (by decide) rfl hst (Nat.le_of_ble_eq_true rfl) (by simp [Value.category]) (by intro h9; first | exact absurd h9 (by decide) | rfl) ?_
  show J l D dA RJ5 cJ5_ensureCapacityInternal_d00df wsJ5_ensureCapacityInternal_d00df 3 false none [] (25) (600) (jF D dA (jn M) (jPo (oV) (if q ≤ m then M else sbG M s b m (sbCap q m))) 0) (jn M) (sbC q m) (sbS q m) (M) 0 [.ref (s), .int (nI (q)), .float 0] []
  obtain ⟨h1, h2, h3, h4, h5, h6, h7, h8, h9, h10, h11, h12, h13, h14⟩ := id hB
  have hcg := sbCap_ge q m
  have hcap : sbCap q m ≤ 2000 := by unfold sbCap; split <;> omega
  refine J_aload_n (s) dJ5_ensureCapacityInternal_d00df_0 rfl rfl ?_
  refine J_getrs (q := b) h3 dJ5_ensureCapacityInternal_d00df_1 (fun _ h => List.mem_cons_of_mem _ (List.mem_append_right _ (h))) cs1 (by decide) rfl (List.mem_of_getElem? (i := 1) rfl) rfl h1 h2 ?_
  refine J_alen (t := 0) dJ5_ensureCapacityInternal_d00df_4 h4 h5 rfl ?_
  refine J_topi (y := nI (m)) (congrArg nI h6) ?_
  refine J_aload_n (s) dJ5_ensureCapacityInternal_d00df_5 rfl rfl ?_
  refine J_geti (j := 1) dJ5_ensureCapacityInternal_d00df_6 (fun _ h => List.mem_cons_of_mem _ (List.mem_append_right _ (h))) cs1 (by decide) rfl (List.mem_of_getElem? (i := 2) rfl) rfl h1 h2 ?_
  refine J_topi (y := (0)) (h7) ?_
  refine J_ishr0 dJ5_ensureCapacityInternal_d00df_9 ?_
  refine J_istore_n (lv' := [.ref (s), .int (nI (q)), .int (nI (m))]) dJ5_ensureCapacityInternal_d00df_10 rfl (by decide) rfl rfl ?_
  refine J_iload_n dJ5_ensureCapacityInternal_d00df_11 rfl rfl ?_
  refine J_iload_n dJ5_ensureCapacityInternal_d00df_12 rfl rfl ?_
  refine J_isub dJ5_ensureCapacityInternal_d00df_13 ?_
  refine J_if_le dJ5_ensureCapacityInternal_d00df_14 (tgt := 38) (by decide) (fun c14 => ?_) (fun c14 => ?_)
  · have c14 := (jsub_le (by omega) (by omega)).mp c14
    exact J_vret dJ5_ensureCapacityInternal_d00df_38 rfl ⟨(by rfl), (by first | (rw [if_pos c14]; done) | (rw [if_neg (by omega)]; rfl) | fail "cap")⟩
  · have hqm : m < q := Nat.not_le.mp (fun z => c14 ((jsub_le (by omega) (by omega)).mpr z))
    have hsC : sbC q m = 1 := if_neg (by omega)
    have hsS : sbS q m = sbCap q m := if_neg (by omega)
    refine J_aload_n (s) dJ5_ensureCapacityInternal_d00df_17 rfl rfl ?_
    refine J_aload_n (s) dJ5_ensureCapacityInternal_d00df_18 rfl rfl ?_
    refine J_getrs (q := b) h3 dJ5_ensureCapacityInternal_d00df_19 (fun _ h => List.mem_cons_of_mem _ (List.mem_append_right _ (h))) cs1 (by decide) rfl (List.mem_of_getElem? (i := 1) rfl) rfl h1 h2 ?_
    refine J_aload_n (s) dJ5_ensureCapacityInternal_d00df_22 rfl rfl ?_
    refine J_iload_n dJ5_ensureCapacityInternal_d00df_23 rfl rfl ?_
    refine J_calli0 (jrunU (As := [.int (nI (q))]) (ct_J5_newCapacity_0f7a4 l D dA hst M s b m tx hB q hq hqm) dJ5_ensureCapacityInternal_d00df_24 yY_J5_newCapacity_0f7a4 gJ5_ensureCapacityInternal_d00df_J5_newCapacity_0f7a4_u104J4 rfl cs1 h1 h2 rfl ⟨by omega, by omega⟩ ⟨Nat.zero_le _, Nat.zero_le _⟩ rfl (Nat.le_of_ble_eq_true rfl)) (rfl) (rfl) ?_
    refine J_aload_n (s) dJ5_ensureCapacityInternal_d00df_27 rfl rfl ?_
    refine J_geti (j := 1) dJ5_ensureCapacityInternal_d00df_28 (fun _ h => List.mem_cons_of_mem _ (List.mem_append_right _ (h))) cs1 (by decide) rfl (List.mem_of_getElem? (i := 2) rfl) rfl h1 h2 ?_
    refine J_topi (y := (0)) (h7) ?_
    refine J_ishl0 dJ5_ensureCapacityInternal_d00df_31 ?_
    refine J_callqA (jrunS (As := [.ref (b), .int (nI (sbCap q m))]) (ct_J7_copyOf_9075b l D dA hst M hcl b m (sbCap q m) h4 h5 h6 (by have := sbCap_ge q m; omega) hcap h13) dJ5_ensureCapacityInternal_d00df_32 yY_J7_copyOf_9075b gJ5_ensureCapacityInternal_d00df_J7_copyOf_9075b rfl ⟨by omega, by omega⟩ ⟨by omega, by omega⟩ rfl (Nat.le_of_ble_eq_true rfl)) (rfl) ⟨by omega, by omega⟩ ⟨(jOk.ref h1 (jOk.int (jOk.int jOk.nil))), (jOk.ref h1 jOk.nil)⟩ ?_
    refine J_putr (j := 0) (r := some (jn M)) dJ5_ensureCapacityInternal_d00df_35 (fun _ h => List.mem_cons_of_mem _ (List.mem_append_right _ (h))) cs1 cty1 (by decide) rfl (List.mem_of_getElem? (i := 1) rfl) rfl rfl jfit_rA (Nat.lt_succ_of_lt h1) (by rw [jk_Sv]; exact jk_new h1 h2) ?_
    exact J_vret dJ5_ensureCapacityInternal_d00df_38 rfl ⟨(by rfl), (by first | (rw [if_pos c14]; done) | (rw [if_neg (by omega)]; rfl) | fail "cap")⟩

