/-- the paper of the reference holds a text -/
def mPp (M : jM) (m : Nat) (tx : List Nat) : Prop := ji M m 30 = nI tx.length ∧ ∀ j, j < tx.length → ji M (m + 13) j = nI (tx.getD j 0)
def mWo (M : jM) (m : Nat) (tx : List Nat) : jP := fun o M1 => o = oV ∧ mPp M1 m tx ∧ mFr m M M1 ∧ mE m M M1 ∧ ji M1 m 11 = ji M m 11
theorem mPp.w {M : jM} {m : Nat} {tx : List Nat} {c : Nat} (h : mPp M m tx) : mPp (jSi (jSi M (m + 13) tx.length (nI c)) m 30 (nI (tx.length + 1))) m (tx ++ [c]) := by
  refine ⟨by rw [ji_Sis, List.length_append]; rfl, fun j hj => ?_⟩
  rw [List.length_append] at hj
  have hj2 : j < tx.length + 1 := hj
  rw [ji_Sin (by omega)]
  by_cases e : j = tx.length
  · subst e
    rw [ji_Sis]
    have := jgetD_r (l := tx) (l2 := [c]) (k := 0) (d := 0)
    rw [Nat.add_zero] at this
    rw [this]; rfl
  · rw [ji_Sik e, h.2 j (by omega), jgetD_l (by omega)]
theorem mWo.w {M : jM} {m : Nat} {tx : List Nat} {c : Nat} (h : mPp M m tx) : mWo M m (tx ++ [c]) oV (jSi (jSi M (m + 13) tx.length (nI c)) m 30 (nI (tx.length + 1))) :=
  ⟨rfl, h.w, (mFr.rf.si ⟨by omega, by omega⟩).si ⟨by omega, by omega⟩, (mE.rf.sr (by omega)).si rfl, by rw [ji_Sik (by decide), ji_Sin (by omega)]⟩
theorem sbD_le (k : Nat) : (sbD k).length ≤ 2 := by rw [sbD_len]; split <;> omega
theorem vPs_128 {q : Nat} (hq : q < 100000000) : ∀ c ∈ (vPs q).flatten, c < 128 := by
  have h1 := sbD_128 (k := q / 1000000) (by omega)
  have h2 := sbD_128 (k := q / 10000 % 100) (by omega)
  have h3 := sbD_128 (k := q / 100 % 100) (by omega)
  have h4 := sbD_128 (k := q % 100) (by omega)
  intro c hc
  unfold vPs vTl at hc
  by_cases h9 : q % 100 = 99
  · rw [if_pos h9] at hc
    simp only [List.flatten_append, List.flatten_cons, List.flatten_nil, List.append_nil, List.mem_append, List.mem_cons, List.not_mem_nil, or_false] at hc
    rcases hc with h | h | h | h | h
    · exact h1 c h
    · omega
    · exact h2 c h
    · omega
    · exact h3 c h
  · rw [if_neg h9] at hc
    simp only [List.flatten_append, List.flatten_cons, List.flatten_nil, List.append_nil, List.mem_append, List.mem_cons, List.not_mem_nil, or_false] at hc
    rcases hc with (h | h | h | h | h) | h | h
    · exact h1 c h
    · omega
    · exact h2 c h
    · omega
    · exact h3 c h
    · omega
    · exact h4 c h
theorem sPs_128 {a b : Nat} (ha : a < 100000000) (hb : b < 100000000) : ∀ c ∈ (sPs a b).flatten, c < 128 := by
  intro c hc
  have h1 := vPs_128 ha
  have h2 := vPs_128 hb
  by_cases e : a = b
  · rw [sPs_eq e] at hc
    simp only [List.flatten_append, List.flatten_cons, List.flatten_nil, List.append_nil, List.mem_append, List.mem_cons, List.not_mem_nil, or_false] at hc
    rcases hc with h | h
    · omega
    · exact h1 c h
  · rw [sPs_ne e, List.flatten_append, List.flatten_append, List.mem_append, List.mem_append] at hc
    rcases hc with h | h | h
    · unfold sX1 at h
      split at h
      · simp only [List.flatten_append, List.flatten_cons, List.flatten_nil, List.append_nil, List.mem_append, List.mem_cons, List.not_mem_nil, or_false] at h
        rcases h with (h | h) | h
        · omega
        · omega
        · exact h1 c h
      · exact absurd h (by simp)
    · unfold sX2 at h
      split at h
      · simp only [List.flatten_cons, List.flatten_nil, List.append_nil, List.mem_cons, List.not_mem_nil, or_false] at h
        omega
      · exact absurd h (by simp)
    · unfold sX3 at h
      split at h
      · simp only [List.flatten_append, List.flatten_cons, List.flatten_nil, List.append_nil, List.mem_append, List.mem_cons, List.not_mem_nil, or_false] at h
        rcases h with (h | h) | h
        · omega
        · omega
        · exact h2 c h
      · exact absurd h (by simp)
theorem spPs_128 {w : rVl} (hw : rOk w) : ∀ k, k ≤ w.1 → ∀ c ∈ (spPs w k).flatten, c < 128 := by
  intro k
  induction k with
  | zero => intro _ c hc; exact absurd hc (by simp [spPs])
  | succ k ih =>
    intro hk c hc
    unfold spPs at hc
    rw [List.flatten_append, List.flatten_append, List.mem_append, List.mem_append] at hc
    rcases hc with h | h | h
    · exact ih (by omega) c h
    · split at h
      · simp only [List.flatten_cons, List.flatten_nil, List.append_nil, List.mem_cons, List.not_mem_nil, or_false] at h
        omega
      · exact absurd h (by simp)
    · exact sPs_128 (hw (2 * k) (by omega)).2 (hw (2 * k + 1) (by omega)).2 c h
theorem tTx_128 {w : rVl} (hw : rOk w) : ∀ c ∈ tTx w, c < 128 := by
  intro c hc
  unfold tTx tPs at hc
  split at hc
  · have : c ∈ [110, 111, 110, 101] := by simpa [sbX] using hc
    simp only [List.mem_cons, List.not_mem_nil, or_false] at this
    omega
  · split at hc
    · have : c ∈ [42] := by simpa using hc
      simp only [List.mem_cons, List.not_mem_nil, or_false] at this
      omega
    · exact spPs_128 hw w.1 (Nat.le_refl _) c hc
theorem tTx_lt {w : rVl} (hw : rOk w) {j : Nat} (hj : j < (tTx w).length) : (tTx w).getD j 0 < 128 := tTx_128 hw _ (jgetD_m hj)
theorem nI_i2c : ∀ c : Nat, c < 128 → ((nI c : Int32).toUInt32 % 65536).toInt32 = nI c := by decide +kernel
theorem whole_t {w : rVl} (hw : rWf w) (h : ¬ w.1 = 0) (h0 : (w.2 0).toNatClampNeg = 0) (h1 : (w.2 1).toNatClampNeg = 99999999) : rWhole w.2 w.1 = true := by
  have a0 := hw.1 0 (by omega)
  have a1 := hw.1 1 (by omega)
  have e1 : w.1 = 1 := by
    refine Nat.le_antisymm (Nat.not_lt.mp (fun h9 => ?_)) (by omega)
    have h8 := hw.2.2 0 (by omega)
    have h7 := (hw.1 2 (by omega)).2
    rw [show 2 * 0 + 1 = 1 from rfl, h1, show 2 * 0 + 2 = 2 from rfl] at h8
    omega
  unfold rWhole rFirst rLast
  rw [decide_eq_true e1, if_pos (by omega), if_pos (by omega)]
  rw [show w.2 (2 * 0) = 0 by rw [show 2 * 0 = 0 from rfl, a0.1, h0]; rfl, show w.2 (2 * 0 + 1) = 99999999 by rw [show 2 * 0 + 1 = 1 from rfl, a1.1, h1]; rfl]
  decide
theorem whole_f {w : rVl} (h : ¬ (w.2 0).toNatClampNeg = 0 ∨ ¬ (w.2 1).toNatClampNeg = 99999999) : rWhole w.2 w.1 = false := by
  cases h9 : rWhole w.2 w.1 with
  | false => rfl
  | true =>
    exfalso
    unfold rWhole rFirst rLast at h9
    simp only [Bool.and_eq_true, decide_eq_true_eq] at h9
    obtain ⟨⟨e1, e2⟩, e3⟩ := h9
    rw [if_pos (by omega)] at e2 e3
    rcases h with h | h
    · exact h (by rw [show w.2 0 = 0 from e2]; rfl)
    · exact h (by rw [show w.2 1 = 99999999 from e3]; decide)
theorem sO {A : cA} {x : Int32} {f : rVl → jO} : sSl x A (sRn A x (fun w => (f w, A))) = (oSl x (oRn A x f), A) := by
  unfold sSl oSl
  split
  · unfold sRn oRn
    cases cAt (cNw A) x <;> rfl
  · rfl
theorem dX8_writes_0 : decode cX8_writes 0 = .ok (.aload_n 0, 1) := by decide +kernel
theorem dX8_writes_1 : decode cX8_writes 1 = .ok (.getfield 53, 3) := by decide +kernel
theorem dX8_writes_4 : decode cX8_writes 4 = .ok (.aload_n 0, 1) := by decide +kernel
theorem dX8_writes_5 : decode cX8_writes 5 = .ok (.getfield 229, 3) := by decide +kernel
theorem dX8_writes_8 : decode cX8_writes 8 = .ok (.iload_n 1, 1) := by decide +kernel
theorem dX8_writes_9 : decode cX8_writes 9 = .ok (.iastore, 1) := by decide +kernel
theorem dX8_writes_10 : decode cX8_writes 10 = .ok (.aload_n 0, 1) := by decide +kernel
theorem dX8_writes_11 : decode cX8_writes 11 = .ok (.dup, 1) := by decide +kernel
theorem dX8_writes_12 : decode cX8_writes 12 = .ok (.getfield 229, 3) := by decide +kernel
theorem dX8_writes_15 : decode cX8_writes 15 = .ok (.iconst 1, 1) := by decide +kernel
theorem dX8_writes_16 : decode cX8_writes 16 = .ok (.iadd, 1) := by decide +kernel
theorem dX8_writes_17 : decode cX8_writes 17 = .ok (.putfield 229, 3) := by decide +kernel
theorem dX8_writes_20 : decode cX8_writes 20 = .ok (.return_, 1) := by decide +kernel
set_option maxHeartbeats 400000 in
set_option maxRecDepth 20000 in
theorem ct_X8_writes (l : Launch) (D : va_G) (dA : Nat → ClassId) (hst : l.stackTraces = false) (M : jM) (m : Nat) (hM : mOk M m) (tx : List Nat) (hp : mPp M m tx) (hl : tx.length < 512) (c : Nat) : jCT l D dA yX8_writes wsX8_writes (20) (300) (0) (0) 0 [.ref (m), .int (nI (c))] M (mWo M m (tx ++ [c])) := by
  refine jBody (cc := cX8_writes) (nL := 2) (rt := none) (ini := false) (by decide) rfl hst (Nat.le_of_ble_eq_true rfl) (by simp [Value.category]) (by intro h9; first | exact absurd h9 (by decide) | rfl) ?_
  show J l D dA RX8 cX8_writes wsX8_writes 2 false none [] (20) (300) (jF D dA (jn M) (mWo M m (tx ++ [c])) 0) (jn M) (0) (0) (M) 0 [.ref (m), .int (nI (c))] []
  obtain ⟨m1, m2, ⟨r1, r2, r3, r4, r5, r6, r7, r8, r9, r10, r11, r12, r13⟩, ⟨k1, k2, k3, k4, k5, k6, k7, k8, k9, k10, k11, k12, k13⟩, z1, z2, z3, z4, z5, z6, z7, z8, z9, z10, z11, z12, z13⟩ := id hM
  refine J_aload_n (m) dX8_writes_0 rfl rfl ?_
  refine J_getrs (q := m + 13) r13 dX8_writes_1 (fun _ h => List.mem_cons_of_mem _ (List.mem_append_left _ (List.mem_append_right _ (h)))) cs11 (by decide) rfl (List.mem_of_getElem? (i := 1) rfl) rfl (show m < jn M from by omega) m2 ?_
  refine J_aload_n (m) dX8_writes_4 rfl rfl ?_
  refine J_geti (j := 30) dX8_writes_5 (fun _ h => List.mem_cons_of_mem _ (List.mem_append_left _ (List.mem_append_right _ (h)))) cs11 (by decide) rfl (List.mem_of_getElem? (i := 2) rfl) rfl (show m < jn M from by omega) m2 ?_
  refine J_topi (y := nI (tx.length)) (hp.1) ?_
  refine J_iload_n dX8_writes_8 rfl rfl ?_
  refine J_iastN (k := tx.length) dX8_writes_9 (show m + 13 < jn M from by omega) k13 (by exact Nat.lt_of_lt_of_eq (show _ < 512 by omega) (Eq.symm z13)) (by exact Nat.lt_of_le_of_lt (Nat.le_of_eq z13) (show 512 < 2 ^ 31 by omega)) ?_
  refine J_aload_n (m) dX8_writes_10 rfl rfl ?_
  refine J_dup dX8_writes_11 rfl ?_
  refine J_geti (j := 30) dX8_writes_12 (fun _ h => List.mem_cons_of_mem _ (List.mem_append_left _ (List.mem_append_right _ (h)))) cs11 (by decide) rfl (List.mem_of_getElem? (i := 2) rfl) rfl (show m < jn M from by omega) m2 ?_
  refine J_topi (y := nI (tx.length)) ((ji_ne_i (by omega) hp.1)) ?_
  refine J_iconst (x := 1) dX8_writes_15 (by decide) ?_
  refine J_iadd dX8_writes_16 ?_
  refine J_topi (y := nI (tx.length + 1)) (nI_add (tx.length) (1)) ?_
  refine J_puti (j := 30) (x := nI (tx.length + 1)) dX8_writes_17 (fun _ h => List.mem_cons_of_mem _ (List.mem_append_left _ (List.mem_append_right _ (h)))) cs11 cty11 (by decide) rfl (List.mem_of_getElem? (i := 2) rfl) rfl rfl ⟨rfl, rfl⟩ (show m < jn M from by omega) m2 ?_
  exact J_vret dX8_writes_20 rfl (by exact mWo.w hp)

theorem dX8_writesNumber_0 : decode cX8_writesNumber 0 = .ok (.iload_n 1, 1) := by decide +kernel
theorem dX8_writesNumber_1 : decode cX8_writesNumber 1 = .ok (.bipush 9, 2) := by decide +kernel
theorem dX8_writesNumber_3 : decode cX8_writesNumber 3 = .ok (.if_icmp .le 14, 3) := by decide +kernel
theorem dX8_writesNumber_17 : decode cX8_writesNumber 17 = .ok (.aload_n 0, 1) := by decide +kernel
theorem dX8_writesNumber_18 : decode cX8_writesNumber 18 = .ok (.bipush 48, 2) := by decide +kernel
theorem dX8_writesNumber_20 : decode cX8_writesNumber 20 = .ok (.iload_n 1, 1) := by decide +kernel
theorem dX8_writesNumber_21 : decode cX8_writesNumber 21 = .ok (.bipush 10, 2) := by decide +kernel
theorem dX8_writesNumber_23 : decode cX8_writesNumber 23 = .ok (.irem, 1) := by decide +kernel
theorem dX8_writesNumber_24 : decode cX8_writesNumber 24 = .ok (.iadd, 1) := by decide +kernel
theorem dX8_writesNumber_25 : decode cX8_writesNumber 25 = .ok (.invokevirtual 232, 3) := by decide +kernel
set_option maxRecDepth 20000 in
theorem ggX8_writesNumber_X8_writes : GoodIn wsX8_writesNumber wsX8_writes := goodIn_ca (goodIn_r _ [5, 6, 7, 8, 9, 10, 11, 12, 13, 14, 15, 16, 17, 18, 19, 20, 21, 22, 23, 24, 25, 26, 27, 28, 29, 30, 31, 32, 33, 34, 35, 36, 37, 38] (by decide +kernel) (by decide +kernel)) (goodIn_sub (fun _ h => List.mem_cons_of_mem _ (List.mem_append_right _ h)) (by decide +kernel))
set_option maxRecDepth 20000 in
theorem gX8_writesNumber_X8_writes : GoodIn wsX8_writesNumber (wsV RX8 232 RX8 yX8_writes wsX8_writes) := goodIn_app (goodIn_of _ (by decide +kernel)) ggX8_writesNumber_X8_writes
theorem yY_X8_writes : jY yX8_writes wsX8_writes cX8_writes 2 none 1 := ⟨⟨_, rfl⟩, by decide +kernel, by decide +kernel, by decide +kernel⟩
theorem dX8_writesNumber_28 : decode cX8_writesNumber 28 = .ok (.return_, 1) := by decide +kernel
theorem dX8_writesNumber_6 : decode cX8_writesNumber 6 = .ok (.aload_n 0, 1) := by decide +kernel
theorem dX8_writesNumber_7 : decode cX8_writesNumber 7 = .ok (.bipush 48, 2) := by decide +kernel
theorem dX8_writesNumber_9 : decode cX8_writesNumber 9 = .ok (.iload_n 1, 1) := by decide +kernel
theorem dX8_writesNumber_10 : decode cX8_writesNumber 10 = .ok (.bipush 10, 2) := by decide +kernel
theorem dX8_writesNumber_12 : decode cX8_writesNumber 12 = .ok (.idiv, 1) := by decide +kernel
theorem dX8_writesNumber_13 : decode cX8_writesNumber 13 = .ok (.iadd, 1) := by decide +kernel
theorem dX8_writesNumber_14 : decode cX8_writesNumber 14 = .ok (.invokevirtual 232, 3) := by decide +kernel
set_option maxHeartbeats 400000 in
set_option maxRecDepth 20000 in
theorem ct_X8_writesNumber (l : Launch) (D : va_G) (dA : Nat → ClassId) (hst : l.stackTraces = false) (M : jM) (m : Nat) (hM : mOk M m) (tx : List Nat) (hp : mPp M m tx) (hl : tx.length + 2 ≤ 512) (q : Nat) (hq : q < 100) : jCT l D dA yX8_writesNumber wsX8_writesNumber (21) (360) (0) (0) 0 [.ref (m), .int (nI (q))] M (mWo M m (tx ++ sbD q)) := by
  refine jBody (cc := cX8_writesNumber) (nL := 2) (rt := none) (ini := false) (by decide) rfl hst (Nat.le_of_ble_eq_true rfl) (by simp [Value.category]) (by intro h9; first | exact absurd h9 (by decide) | rfl) ?_
  show J l D dA RX8 cX8_writesNumber wsX8_writesNumber 2 false none [] (21) (360) (jF D dA (jn M) (mWo M m (tx ++ sbD q)) 0) (jn M) (0) (0) (M) 0 [.ref (m), .int (nI (q))] []
  obtain ⟨m1, m2, ⟨r1, r2, r3, r4, r5, r6, r7, r8, r9, r10, r11, r12, r13⟩, ⟨k1, k2, k3, k4, k5, k6, k7, k8, k9, k10, k11, k12, k13⟩, z1, z2, z3, z4, z5, z6, z7, z8, z9, z10, z11, z12, z13⟩ := id hM
  refine J_iload_n dX8_writesNumber_0 rfl rfl ?_
  refine J_bipush (x := 9) dX8_writesNumber_1 (by decide) ?_
  refine J_icmp_le dX8_writesNumber_3 (tgt := 17) (by decide) (fun c3 => ?_) (fun c3 => ?_)
  · have c3 := jleT (a := q) (b := 9) (by omega) (by omega) c3
    refine J_aload_n (m) dX8_writesNumber_17 rfl rfl ?_
    refine J_bipush (x := 48) dX8_writesNumber_18 (by decide) ?_
    refine J_iload_n dX8_writesNumber_20 rfl rfl ?_
    refine J_bipush (x := 10) dX8_writesNumber_21 (by decide) ?_
    refine J_irem dX8_writesNumber_23 (by decide) ?_
    refine J_topi (y := nI (q % 10)) (pk_rem (a := q) (d := 10) (by omega) (by omega) (by omega)) ?_
    refine J_iadd dX8_writesNumber_24 ?_
    refine J_topi (y := nI (48 + q % 10)) (nI_add (48) (q % 10)) ?_
    refine J_callv (jrunV (As := [.int (nI (48 + q % 10))]) (ct_X8_writes l D dA hst M m ((mFr.rf).ok hM) (tx) hp (by (try simp only [List.length_append, List.length_cons, List.length_nil]); omega) (48 + q % 10)) dX8_writesNumber_25 yY_X8_writes gX8_writesNumber_X8_writes rfl cs11 (show m < jn M from by omega) m2 rfl ⟨by omega, by omega⟩ ⟨Nat.zero_le _, Nat.zero_le _⟩ rfl (Nat.le_of_ble_eq_true rfl)) ⟨Nat.zero_le _, Nat.zero_le _⟩ (Or.inr ⟨(jOk.ref (show m < jn M from by omega) (jOk.int jOk.nil)), jOk.nil⟩) (fun E M9 hp _ => by cases hp.1) (fun K25 hp25 hle25 => ?_)
    obtain ⟨_, hpK25, gK25, eK25, qK25⟩ := hp25
    have hFK25 := (mFr.rf).tr gK25
    have hEK25 := (mE.rf).tr eK25
    have hcK25 := qK25.trans ((Eq.refl (ji M m 11)))
    obtain ⟨K25m1, K25m2, ⟨K25r1, K25r2, K25r3, K25r4, K25r5, K25r6, K25r7, K25r8, K25r9, K25r10, K25r11, K25r12, K25r13⟩, ⟨K25k1, K25k2, K25k3, K25k4, K25k5, K25k6, K25k7, K25k8, K25k9, K25k10, K25k11, K25k12, K25k13⟩, K25z1, K25z2, K25z3, K25z4, K25z5, K25z6, K25z7, K25z8, K25z9, K25z10, K25z11, K25z12, K25z13⟩ := id (hFK25.ok hM)
    exact J_vret dX8_writesNumber_28 rfl (by have e9 : tx ++ sbD q = tx ++ [48 + q % 10] := (by unfold sbD; rw [if_pos (by omega), show q % 10 = q from by omega]); rw [e9]; exact ⟨rfl, hpK25, hFK25, hEK25, hcK25⟩)
  · have c3 := jleF (a := q) (b := 9) (by omega) (by omega) c3
    refine J_aload_n (m) dX8_writesNumber_6 rfl rfl ?_
    refine J_bipush (x := 48) dX8_writesNumber_7 (by decide) ?_
    refine J_iload_n dX8_writesNumber_9 rfl rfl ?_
    refine J_bipush (x := 10) dX8_writesNumber_10 (by decide) ?_
    refine J_idiv dX8_writesNumber_12 (by decide) ?_
    refine J_topi (y := nI (q / 10)) (pk_div (a := q) (d := 10) (by omega) (by omega) (by omega)) ?_
    refine J_iadd dX8_writesNumber_13 ?_
    refine J_topi (y := nI (48 + q / 10)) (nI_add (48) (q / 10)) ?_
    refine J_callv (jrunV (As := [.int (nI (48 + q / 10))]) (ct_X8_writes l D dA hst M m ((mFr.rf).ok hM) (tx) hp (by (try simp only [List.length_append, List.length_cons, List.length_nil]); omega) (48 + q / 10)) dX8_writesNumber_14 yY_X8_writes gX8_writesNumber_X8_writes rfl cs11 (show m < jn M from by omega) m2 rfl ⟨by omega, by omega⟩ ⟨Nat.zero_le _, Nat.zero_le _⟩ rfl (Nat.le_of_ble_eq_true rfl)) ⟨Nat.zero_le _, Nat.zero_le _⟩ (Or.inr ⟨(jOk.ref (show m < jn M from by omega) (jOk.int jOk.nil)), jOk.nil⟩) (fun E M9 hp _ => by cases hp.1) (fun K14 hp14 hle14 => ?_)
    obtain ⟨_, hpK14, gK14, eK14, qK14⟩ := hp14
    have hFK14 := (mFr.rf).tr gK14
    have hEK14 := (mE.rf).tr eK14
    have hcK14 := qK14.trans ((Eq.refl (ji M m 11)))
    obtain ⟨K14m1, K14m2, ⟨K14r1, K14r2, K14r3, K14r4, K14r5, K14r6, K14r7, K14r8, K14r9, K14r10, K14r11, K14r12, K14r13⟩, ⟨K14k1, K14k2, K14k3, K14k4, K14k5, K14k6, K14k7, K14k8, K14k9, K14k10, K14k11, K14k12, K14k13⟩, K14z1, K14z2, K14z3, K14z4, K14z5, K14z6, K14z7, K14z8, K14z9, K14z10, K14z11, K14z12, K14z13⟩ := id (hFK14.ok hM)
    refine J_aload_n (m) dX8_writesNumber_17 rfl rfl ?_
    refine J_bipush (x := 48) dX8_writesNumber_18 (by decide) ?_
    refine J_iload_n dX8_writesNumber_20 rfl rfl ?_
    refine J_bipush (x := 10) dX8_writesNumber_21 (by decide) ?_
    refine J_irem dX8_writesNumber_23 (by decide) ?_
    refine J_topi (y := nI (q % 10)) (pk_rem (a := q) (d := 10) (by omega) (by omega) (by omega)) ?_
    refine J_iadd dX8_writesNumber_24 ?_
    refine J_topi (y := nI (48 + q % 10)) (nI_add (48) (q % 10)) ?_
    refine J_callv (jrunV (As := [.int (nI (48 + q % 10))]) (ct_X8_writes l D dA hst K14 m ((hFK14).ok hM) (tx ++ [48 + q / 10]) hpK14 (by (try simp only [List.length_append, List.length_cons, List.length_nil]); omega) (48 + q % 10)) dX8_writesNumber_25 yY_X8_writes gX8_writesNumber_X8_writes rfl cs11 (show m < jn K14 from by omega) K14m2 rfl ⟨by omega, by omega⟩ ⟨Nat.zero_le _, Nat.zero_le _⟩ rfl (Nat.le_of_ble_eq_true rfl)) ⟨Nat.zero_le _, Nat.zero_le _⟩ (Or.inr ⟨(jOk.ref (show m < jn K14 from by omega) (jOk.int jOk.nil)), jOk.nil⟩) (fun E M9 hp _ => by cases hp.1) (fun K25 hp25 hle25 => ?_)
    obtain ⟨_, hpK25, gK25, eK25, qK25⟩ := hp25
    have hFK25 := (hFK14).tr gK25
    have hEK25 := (hEK14).tr eK25
    have hcK25 := qK25.trans (hcK14)
    obtain ⟨K25m1, K25m2, ⟨K25r1, K25r2, K25r3, K25r4, K25r5, K25r6, K25r7, K25r8, K25r9, K25r10, K25r11, K25r12, K25r13⟩, ⟨K25k1, K25k2, K25k3, K25k4, K25k5, K25k6, K25k7, K25k8, K25k9, K25k10, K25k11, K25k12, K25k13⟩, K25z1, K25z2, K25z3, K25z4, K25z5, K25z6, K25z7, K25z8, K25z9, K25z10, K25z11, K25z12, K25z13⟩ := id (hFK25.ok hM)
    exact J_vret dX8_writesNumber_28 rfl (by have e9 : tx ++ sbD q = tx ++ [48 + q / 10] ++ [48 + q % 10] := (by unfold sbD; rw [if_neg (by omega), List.append_assoc]; rfl); rw [e9]; exact ⟨rfl, hpK25, hFK25, hEK25, hcK25⟩)

theorem dX8_writesVersion_0 : decode cX8_writesVersion 0 = .ok (.aload_n 0, 1) := by decide +kernel
theorem dX8_writesVersion_1 : decode cX8_writesVersion 1 = .ok (.iload_n 1, 1) := by decide +kernel
theorem dX8_writesVersion_2 : decode cX8_writesVersion 2 = .ok (.ldc 115, 2) := by decide +kernel
theorem dX8_writesVersion_4 : decode cX8_writesVersion 4 = .ok (.idiv, 1) := by decide +kernel
theorem dX8_writesVersion_5 : decode cX8_writesVersion 5 = .ok (.invokevirtual 235, 3) := by decide +kernel
set_option maxRecDepth 20000 in
theorem ggX8_writesVersion_X8_writesNumber : GoodIn wsX8_writesVersion wsX8_writesNumber := goodIn_ca (goodIn_r _ [6, 7, 8, 9, 5, 10, 11, 12, 16, 17, 18, 19, 20, 21, 22, 23, 24, 25, 26, 27, 28, 29, 30, 31, 32, 33, 34, 35, 36, 37, 38, 39, 40, 41, 42, 43, 44, 45, 46] (by decide +kernel) (by decide +kernel)) (goodIn_sub (fun _ h => List.mem_cons_of_mem _ (List.mem_append_right _ h)) (by decide +kernel))
set_option maxRecDepth 20000 in
theorem gX8_writesVersion_X8_writesNumber : GoodIn wsX8_writesVersion (wsV RX8 235 RX8 yX8_writesNumber wsX8_writesNumber) := goodIn_app (goodIn_of _ (by decide +kernel)) ggX8_writesVersion_X8_writesNumber
theorem yY_X8_writesNumber : jY yX8_writesNumber wsX8_writesNumber cX8_writesNumber 2 none 1 := ⟨⟨_, rfl⟩, by decide +kernel, by decide +kernel, by decide +kernel⟩
theorem dX8_writesVersion_8 : decode cX8_writesVersion 8 = .ok (.aload_n 0, 1) := by decide +kernel
theorem dX8_writesVersion_9 : decode cX8_writesVersion 9 = .ok (.bipush 46, 2) := by decide +kernel
theorem dX8_writesVersion_11 : decode cX8_writesVersion 11 = .ok (.invokevirtual 232, 3) := by decide +kernel
set_option maxRecDepth 20000 in
theorem ggX8_writesVersion_X8_writes : GoodIn wsX8_writesVersion wsX8_writes := goodIn_ca (goodIn_r _ [10, 11, 12, 16, 17, 18, 19, 20, 21, 22, 23, 24, 25, 26, 27, 28, 29, 30, 31, 32, 33, 34, 35, 36, 37, 38, 39, 40, 41, 42, 43, 44, 45, 46] (by decide +kernel) (by decide +kernel)) (goodIn_sub (fun _ h => List.mem_cons_of_mem _ (List.mem_append_right _ h)) (by decide +kernel))
set_option maxRecDepth 20000 in
theorem gX8_writesVersion_X8_writes : GoodIn wsX8_writesVersion (wsV RX8 232 RX8 yX8_writes wsX8_writes) := goodIn_app (goodIn_of _ (by decide +kernel)) ggX8_writesVersion_X8_writes
theorem dX8_writesVersion_14 : decode cX8_writesVersion 14 = .ok (.aload_n 0, 1) := by decide +kernel
theorem dX8_writesVersion_15 : decode cX8_writesVersion 15 = .ok (.iload_n 1, 1) := by decide +kernel
theorem dX8_writesVersion_16 : decode cX8_writesVersion 16 = .ok (.sipush 10000, 3) := by decide +kernel
theorem dX8_writesVersion_19 : decode cX8_writesVersion 19 = .ok (.idiv, 1) := by decide +kernel
theorem dX8_writesVersion_20 : decode cX8_writesVersion 20 = .ok (.bipush 100, 2) := by decide +kernel
theorem dX8_writesVersion_22 : decode cX8_writesVersion 22 = .ok (.irem, 1) := by decide +kernel
theorem dX8_writesVersion_23 : decode cX8_writesVersion 23 = .ok (.invokevirtual 235, 3) := by decide +kernel
theorem dX8_writesVersion_26 : decode cX8_writesVersion 26 = .ok (.aload_n 0, 1) := by decide +kernel
theorem dX8_writesVersion_27 : decode cX8_writesVersion 27 = .ok (.bipush 46, 2) := by decide +kernel
theorem dX8_writesVersion_29 : decode cX8_writesVersion 29 = .ok (.invokevirtual 232, 3) := by decide +kernel
theorem dX8_writesVersion_32 : decode cX8_writesVersion 32 = .ok (.aload_n 0, 1) := by decide +kernel
theorem dX8_writesVersion_33 : decode cX8_writesVersion 33 = .ok (.iload_n 1, 1) := by decide +kernel
theorem dX8_writesVersion_34 : decode cX8_writesVersion 34 = .ok (.bipush 100, 2) := by decide +kernel
theorem dX8_writesVersion_36 : decode cX8_writesVersion 36 = .ok (.idiv, 1) := by decide +kernel
theorem dX8_writesVersion_37 : decode cX8_writesVersion 37 = .ok (.bipush 100, 2) := by decide +kernel
theorem dX8_writesVersion_39 : decode cX8_writesVersion 39 = .ok (.irem, 1) := by decide +kernel
theorem dX8_writesVersion_40 : decode cX8_writesVersion 40 = .ok (.invokevirtual 235, 3) := by decide +kernel
theorem dX8_writesVersion_43 : decode cX8_writesVersion 43 = .ok (.iload_n 1, 1) := by decide +kernel
theorem dX8_writesVersion_44 : decode cX8_writesVersion 44 = .ok (.invokestatic 211, 3) := by decide +kernel
set_option maxRecDepth 20000 in
theorem ggX8_writesVersion_X8_isEarly : GoodIn wsX8_writesVersion wsX8_isEarly := goodIn_r _ [15] (by decide +kernel) (by decide +kernel)
set_option maxRecDepth 20000 in
theorem gX8_writesVersion_X8_isEarly : GoodIn wsX8_writesVersion (va_wsS RX8 211 yX8_isEarly wsX8_isEarly) := goodIn_app (goodIn_of _ (by decide +kernel)) ggX8_writesVersion_X8_isEarly
theorem dX8_writesVersion_47 : decode cX8_writesVersion 47 = .ok (.ifCond .ne 4, 3) := by decide +kernel
theorem dX8_writesVersion_51 : decode cX8_writesVersion 51 = .ok (.aload_n 0, 1) := by decide +kernel
theorem dX8_writesVersion_52 : decode cX8_writesVersion 52 = .ok (.bipush 45, 2) := by decide +kernel
theorem dX8_writesVersion_54 : decode cX8_writesVersion 54 = .ok (.invokevirtual 232, 3) := by decide +kernel
theorem dX8_writesVersion_57 : decode cX8_writesVersion 57 = .ok (.aload_n 0, 1) := by decide +kernel
theorem dX8_writesVersion_58 : decode cX8_writesVersion 58 = .ok (.iload_n 1, 1) := by decide +kernel
theorem dX8_writesVersion_59 : decode cX8_writesVersion 59 = .ok (.bipush 100, 2) := by decide +kernel
theorem dX8_writesVersion_61 : decode cX8_writesVersion 61 = .ok (.irem, 1) := by decide +kernel
theorem dX8_writesVersion_62 : decode cX8_writesVersion 62 = .ok (.invokevirtual 235, 3) := by decide +kernel
theorem dX8_writesVersion_65 : decode cX8_writesVersion 65 = .ok (.return_, 1) := by decide +kernel
theorem dX8_writesVersion_50 : decode cX8_writesVersion 50 = .ok (.return_, 1) := by decide +kernel
set_option maxHeartbeats 400000 in
set_option maxRecDepth 20000 in
theorem ct_X8_writesVersion (l : Launch) (D : va_G) (dA : Nat → ClassId) (hst : l.stackTraces = false) (M : jM) (m : Nat) (hM : mOk M m) (tx : List Nat) (hp : mPp M m tx) (hl : tx.length + 11 ≤ 512) (q : Nat) (hq : q < 100000000) : jCT l D dA yX8_writesVersion wsX8_writesVersion (22) (420) (0) (0) 0 [.ref (m), .int (nI (q))] M (mWo M m (tx ++ (vPs q).flatten)) := by
  refine jBody (cc := cX8_writesVersion) (nL := 2) (rt := none) (ini := false) (by decide) rfl hst (Nat.le_of_ble_eq_true rfl) (by simp [Value.category]) (by intro h9; first | exact absurd h9 (by decide) | rfl) ?_
  show J l D dA RX8 cX8_writesVersion wsX8_writesVersion 2 false none [] (22) (420) (jF D dA (jn M) (mWo M m (tx ++ (vPs q).flatten)) 0) (jn M) (0) (0) (M) 0 [.ref (m), .int (nI (q))] []
  obtain ⟨m1, m2, ⟨r1, r2, r3, r4, r5, r6, r7, r8, r9, r10, r11, r12, r13⟩, ⟨k1, k2, k3, k4, k5, k6, k7, k8, k9, k10, k11, k12, k13⟩, z1, z2, z3, z4, z5, z6, z7, z8, z9, z10, z11, z12, z13⟩ := id hM
  have d1 := sbD_le (q / 1000000)
  have d2 := sbD_le (q / 10000 % 100)
  have d3 := sbD_le (q / 100 % 100)
  have d4 := sbD_le (q % 100)
  refine J_aload_n (m) dX8_writesVersion_0 rfl rfl ?_
  refine J_iload_n dX8_writesVersion_1 rfl rfl ?_
  refine J_ldc (x := 1000000) dX8_writesVersion_2 (List.mem_of_getElem? (i := 1) rfl) ?_
  refine J_idiv dX8_writesVersion_4 (by decide) ?_
  refine J_topi (y := nI (q / 1000000)) (pk_div (a := q) (d := 1000000) (by omega) (by omega) (by omega)) ?_
  refine J_callv (jrunV (As := [.int (nI (q / 1000000))]) (ct_X8_writesNumber l D dA hst M m ((mFr.rf).ok hM) (tx) hp (by (try simp only [List.length_append, List.length_cons, List.length_nil]); omega) (q / 1000000) (by omega)) dX8_writesVersion_5 yY_X8_writesNumber gX8_writesVersion_X8_writesNumber rfl cs11 (show m < jn M from by omega) m2 rfl ⟨by omega, by omega⟩ ⟨Nat.zero_le _, Nat.zero_le _⟩ rfl (Nat.le_of_ble_eq_true rfl)) ⟨Nat.zero_le _, Nat.zero_le _⟩ (Or.inr ⟨(jOk.ref (show m < jn M from by omega) (jOk.int jOk.nil)), jOk.nil⟩) (fun E M9 hp _ => by cases hp.1) (fun K5 hp5 hle5 => ?_)
  obtain ⟨_, hpK5, gK5, eK5, qK5⟩ := hp5
  have hFK5 := (mFr.rf).tr gK5
  have hEK5 := (mE.rf).tr eK5
  have hcK5 := qK5.trans ((Eq.refl (ji M m 11)))
  obtain ⟨K5m1, K5m2, ⟨K5r1, K5r2, K5r3, K5r4, K5r5, K5r6, K5r7, K5r8, K5r9, K5r10, K5r11, K5r12, K5r13⟩, ⟨K5k1, K5k2, K5k3, K5k4, K5k5, K5k6, K5k7, K5k8, K5k9, K5k10, K5k11, K5k12, K5k13⟩, K5z1, K5z2, K5z3, K5z4, K5z5, K5z6, K5z7, K5z8, K5z9, K5z10, K5z11, K5z12, K5z13⟩ := id (hFK5.ok hM)
  refine J_aload_n (m) dX8_writesVersion_8 rfl rfl ?_
  refine J_bipush (x := 46) dX8_writesVersion_9 (by decide) ?_
  refine J_callv (jrunV (As := [.int (46)]) (ct_X8_writes l D dA hst K5 m ((hFK5).ok hM) (tx ++ sbD (q / 1000000)) hpK5 (by (try simp only [List.length_append, List.length_cons, List.length_nil]); omega) 46) dX8_writesVersion_11 yY_X8_writes gX8_writesVersion_X8_writes rfl cs11 (show m < jn K5 from by omega) K5m2 rfl ⟨by omega, by omega⟩ ⟨Nat.zero_le _, Nat.zero_le _⟩ rfl (Nat.le_of_ble_eq_true rfl)) ⟨Nat.zero_le _, Nat.zero_le _⟩ (Or.inr ⟨(jOk.ref (show m < jn K5 from by omega) (jOk.int jOk.nil)), jOk.nil⟩) (fun E M9 hp _ => by cases hp.1) (fun K11 hp11 hle11 => ?_)
  obtain ⟨_, hpK11, gK11, eK11, qK11⟩ := hp11
  have hFK11 := (hFK5).tr gK11
  have hEK11 := (hEK5).tr eK11
  have hcK11 := qK11.trans (hcK5)
  obtain ⟨K11m1, K11m2, ⟨K11r1, K11r2, K11r3, K11r4, K11r5, K11r6, K11r7, K11r8, K11r9, K11r10, K11r11, K11r12, K11r13⟩, ⟨K11k1, K11k2, K11k3, K11k4, K11k5, K11k6, K11k7, K11k8, K11k9, K11k10, K11k11, K11k12, K11k13⟩, K11z1, K11z2, K11z3, K11z4, K11z5, K11z6, K11z7, K11z8, K11z9, K11z10, K11z11, K11z12, K11z13⟩ := id (hFK11.ok hM)
  refine J_aload_n (m) dX8_writesVersion_14 rfl rfl ?_
  refine J_iload_n dX8_writesVersion_15 rfl rfl ?_
  refine J_sipush (x := 10000) dX8_writesVersion_16 (by decide) ?_
  refine J_idiv dX8_writesVersion_19 (by decide) ?_
  refine J_topi (y := nI (q / 10000)) (pk_div (a := q) (d := 10000) (by omega) (by omega) (by omega)) ?_
  refine J_bipush (x := 100) dX8_writesVersion_20 (by decide) ?_
  refine J_irem dX8_writesVersion_22 (by decide) ?_
  refine J_topi (y := nI ((q / 10000) % 100)) (pk_rem (a := q / 10000) (d := 100) (by omega) (by omega) (by omega)) ?_
  refine J_callv (jrunV (As := [.int (nI ((q / 10000) % 100))]) (ct_X8_writesNumber l D dA hst K11 m ((hFK11).ok hM) (tx ++ sbD (q / 1000000) ++ [46]) hpK11 (by (try simp only [List.length_append, List.length_cons, List.length_nil]); omega) ((q / 10000) % 100) (by omega)) dX8_writesVersion_23 yY_X8_writesNumber gX8_writesVersion_X8_writesNumber rfl cs11 (show m < jn K11 from by omega) K11m2 rfl ⟨by omega, by omega⟩ ⟨Nat.zero_le _, Nat.zero_le _⟩ rfl (Nat.le_of_ble_eq_true rfl)) ⟨Nat.zero_le _, Nat.zero_le _⟩ (Or.inr ⟨(jOk.ref (show m < jn K11 from by omega) (jOk.int jOk.nil)), jOk.nil⟩) (fun E M9 hp _ => by cases hp.1) (fun K23 hp23 hle23 => ?_)
  obtain ⟨_, hpK23, gK23, eK23, qK23⟩ := hp23
  have hFK23 := (hFK11).tr gK23
  have hEK23 := (hEK11).tr eK23
  have hcK23 := qK23.trans (hcK11)
  obtain ⟨K23m1, K23m2, ⟨K23r1, K23r2, K23r3, K23r4, K23r5, K23r6, K23r7, K23r8, K23r9, K23r10, K23r11, K23r12, K23r13⟩, ⟨K23k1, K23k2, K23k3, K23k4, K23k5, K23k6, K23k7, K23k8, K23k9, K23k10, K23k11, K23k12, K23k13⟩, K23z1, K23z2, K23z3, K23z4, K23z5, K23z6, K23z7, K23z8, K23z9, K23z10, K23z11, K23z12, K23z13⟩ := id (hFK23.ok hM)
  refine J_aload_n (m) dX8_writesVersion_26 rfl rfl ?_
  refine J_bipush (x := 46) dX8_writesVersion_27 (by decide) ?_
  refine J_callv (jrunV (As := [.int (46)]) (ct_X8_writes l D dA hst K23 m ((hFK23).ok hM) (tx ++ sbD (q / 1000000) ++ [46] ++ sbD ((q / 10000) % 100)) hpK23 (by (try simp only [List.length_append, List.length_cons, List.length_nil]); omega) 46) dX8_writesVersion_29 yY_X8_writes gX8_writesVersion_X8_writes rfl cs11 (show m < jn K23 from by omega) K23m2 rfl ⟨by omega, by omega⟩ ⟨Nat.zero_le _, Nat.zero_le _⟩ rfl (Nat.le_of_ble_eq_true rfl)) ⟨Nat.zero_le _, Nat.zero_le _⟩ (Or.inr ⟨(jOk.ref (show m < jn K23 from by omega) (jOk.int jOk.nil)), jOk.nil⟩) (fun E M9 hp _ => by cases hp.1) (fun K29 hp29 hle29 => ?_)
  obtain ⟨_, hpK29, gK29, eK29, qK29⟩ := hp29
  have hFK29 := (hFK23).tr gK29
  have hEK29 := (hEK23).tr eK29
  have hcK29 := qK29.trans (hcK23)
  obtain ⟨K29m1, K29m2, ⟨K29r1, K29r2, K29r3, K29r4, K29r5, K29r6, K29r7, K29r8, K29r9, K29r10, K29r11, K29r12, K29r13⟩, ⟨K29k1, K29k2, K29k3, K29k4, K29k5, K29k6, K29k7, K29k8, K29k9, K29k10, K29k11, K29k12, K29k13⟩, K29z1, K29z2, K29z3, K29z4, K29z5, K29z6, K29z7, K29z8, K29z9, K29z10, K29z11, K29z12, K29z13⟩ := id (hFK29.ok hM)
  refine J_aload_n (m) dX8_writesVersion_32 rfl rfl ?_
  refine J_iload_n dX8_writesVersion_33 rfl rfl ?_
  refine J_bipush (x := 100) dX8_writesVersion_34 (by decide) ?_
  refine J_idiv dX8_writesVersion_36 (by decide) ?_
  refine J_topi (y := nI (q / 100)) (pk_div (a := q) (d := 100) (by omega) (by omega) (by omega)) ?_
  refine J_bipush (x := 100) dX8_writesVersion_37 (by decide) ?_
  refine J_irem dX8_writesVersion_39 (by decide) ?_
  refine J_topi (y := nI ((q / 100) % 100)) (pk_rem (a := q / 100) (d := 100) (by omega) (by omega) (by omega)) ?_
  refine J_callv (jrunV (As := [.int (nI ((q / 100) % 100))]) (ct_X8_writesNumber l D dA hst K29 m ((hFK29).ok hM) (tx ++ sbD (q / 1000000) ++ [46] ++ sbD ((q / 10000) % 100) ++ [46]) hpK29 (by (try simp only [List.length_append, List.length_cons, List.length_nil]); omega) ((q / 100) % 100) (by omega)) dX8_writesVersion_40 yY_X8_writesNumber gX8_writesVersion_X8_writesNumber rfl cs11 (show m < jn K29 from by omega) K29m2 rfl ⟨by omega, by omega⟩ ⟨Nat.zero_le _, Nat.zero_le _⟩ rfl (Nat.le_of_ble_eq_true rfl)) ⟨Nat.zero_le _, Nat.zero_le _⟩ (Or.inr ⟨(jOk.ref (show m < jn K29 from by omega) (jOk.int jOk.nil)), jOk.nil⟩) (fun E M9 hp _ => by cases hp.1) (fun K40 hp40 hle40 => ?_)
  obtain ⟨_, hpK40, gK40, eK40, qK40⟩ := hp40
  have hFK40 := (hFK29).tr gK40
  have hEK40 := (hEK29).tr eK40
  have hcK40 := qK40.trans (hcK29)
  obtain ⟨K40m1, K40m2, ⟨K40r1, K40r2, K40r3, K40r4, K40r5, K40r6, K40r7, K40r8, K40r9, K40r10, K40r11, K40r12, K40r13⟩, ⟨K40k1, K40k2, K40k3, K40k4, K40k5, K40k6, K40k7, K40k8, K40k9, K40k10, K40k11, K40k12, K40k13⟩, K40z1, K40z2, K40z3, K40z4, K40z5, K40z6, K40z7, K40z8, K40z9, K40z10, K40z11, K40z12, K40z13⟩ := id (hFK40.ok hM)
  refine J_iload_n dX8_writesVersion_43 rfl rfl ?_
  refine J_calli0 (jrunS (As := [.int (nI (q))]) (ct_X8_isEarly l D dA hst K40 (nI (q))) dX8_writesVersion_44 yY_X8_isEarly gX8_writesVersion_X8_isEarly rfl ⟨by omega, by omega⟩ ⟨Nat.zero_le _, Nat.zero_le _⟩ rfl (Nat.le_of_ble_eq_true rfl)) (rfl) (rfl) ?_
  refine J_if_ne dX8_writesVersion_47 (tgt := 51) (by decide) (fun c47 => ?_) (fun c47 => ?_)
  · have c47 := jb0F c47
    refine J_aload_n (m) dX8_writesVersion_51 rfl rfl ?_
    refine J_bipush (x := 45) dX8_writesVersion_52 (by decide) ?_
    refine J_callv (jrunV (As := [.int (45)]) (ct_X8_writes l D dA hst K40 m ((hFK40).ok hM) (tx ++ sbD (q / 1000000) ++ [46] ++ sbD ((q / 10000) % 100) ++ [46] ++ sbD ((q / 100) % 100)) hpK40 (by (try simp only [List.length_append, List.length_cons, List.length_nil]); omega) 45) dX8_writesVersion_54 yY_X8_writes gX8_writesVersion_X8_writes rfl cs11 (show m < jn K40 from by omega) K40m2 rfl ⟨by omega, by omega⟩ ⟨Nat.zero_le _, Nat.zero_le _⟩ rfl (Nat.le_of_ble_eq_true rfl)) ⟨Nat.zero_le _, Nat.zero_le _⟩ (Or.inr ⟨(jOk.ref (show m < jn K40 from by omega) (jOk.int jOk.nil)), jOk.nil⟩) (fun E M9 hp _ => by cases hp.1) (fun K54 hp54 hle54 => ?_)
    obtain ⟨_, hpK54, gK54, eK54, qK54⟩ := hp54
    have hFK54 := (hFK40).tr gK54
    have hEK54 := (hEK40).tr eK54
    have hcK54 := qK54.trans (hcK40)
    obtain ⟨K54m1, K54m2, ⟨K54r1, K54r2, K54r3, K54r4, K54r5, K54r6, K54r7, K54r8, K54r9, K54r10, K54r11, K54r12, K54r13⟩, ⟨K54k1, K54k2, K54k3, K54k4, K54k5, K54k6, K54k7, K54k8, K54k9, K54k10, K54k11, K54k12, K54k13⟩, K54z1, K54z2, K54z3, K54z4, K54z5, K54z6, K54z7, K54z8, K54z9, K54z10, K54z11, K54z12, K54z13⟩ := id (hFK54.ok hM)
    refine J_aload_n (m) dX8_writesVersion_57 rfl rfl ?_
    refine J_iload_n dX8_writesVersion_58 rfl rfl ?_
    refine J_bipush (x := 100) dX8_writesVersion_59 (by decide) ?_
    refine J_irem dX8_writesVersion_61 (by decide) ?_
    refine J_topi (y := nI (q % 100)) (pk_rem (a := q) (d := 100) (by omega) (by omega) (by omega)) ?_
    refine J_callv (jrunV (As := [.int (nI (q % 100))]) (ct_X8_writesNumber l D dA hst K54 m ((hFK54).ok hM) (tx ++ sbD (q / 1000000) ++ [46] ++ sbD ((q / 10000) % 100) ++ [46] ++ sbD ((q / 100) % 100) ++ [45]) hpK54 (by (try simp only [List.length_append, List.length_cons, List.length_nil]); omega) (q % 100) (by omega)) dX8_writesVersion_62 yY_X8_writesNumber gX8_writesVersion_X8_writesNumber rfl cs11 (show m < jn K54 from by omega) K54m2 rfl ⟨by omega, by omega⟩ ⟨Nat.zero_le _, Nat.zero_le _⟩ rfl (Nat.le_of_ble_eq_true rfl)) ⟨Nat.zero_le _, Nat.zero_le _⟩ (Or.inr ⟨(jOk.ref (show m < jn K54 from by omega) (jOk.int jOk.nil)), jOk.nil⟩) (fun E M9 hp _ => by cases hp.1) (fun K62 hp62 hle62 => ?_)
    obtain ⟨_, hpK62, gK62, eK62, qK62⟩ := hp62
    have hFK62 := (hFK54).tr gK62
    have hEK62 := (hEK54).tr eK62
    have hcK62 := qK62.trans (hcK54)
    obtain ⟨K62m1, K62m2, ⟨K62r1, K62r2, K62r3, K62r4, K62r5, K62r6, K62r7, K62r8, K62r9, K62r10, K62r11, K62r12, K62r13⟩, ⟨K62k1, K62k2, K62k3, K62k4, K62k5, K62k6, K62k7, K62k8, K62k9, K62k10, K62k11, K62k12, K62k13⟩, K62z1, K62z2, K62z3, K62z4, K62z5, K62z6, K62z7, K62z8, K62z9, K62z10, K62z11, K62z12, K62z13⟩ := id (hFK62.ok hM)
    exact J_vret dX8_writesVersion_65 rfl (by have e9 : tx ++ (vPs q).flatten = tx ++ sbD (q / 1000000) ++ [46] ++ sbD ((q / 10000) % 100) ++ [46] ++ sbD ((q / 100) % 100) ++ [45] ++ sbD (q % 100) := (by rw [vPre_n hq] at c47; have h99 : ¬ q % 100 = 99 := of_decide_eq_true c47; simp [vPs, vTl, h99]); rw [e9]; exact ⟨rfl, hpK62, hFK62, hEK62, hcK62⟩)
  · have c47 := jb0T c47
    exact J_vret dX8_writesVersion_50 rfl (by have e9 : tx ++ (vPs q).flatten = tx ++ sbD (q / 1000000) ++ [46] ++ sbD ((q / 10000) % 100) ++ [46] ++ sbD ((q / 100) % 100) := (by rw [vPre_n hq] at c47; have h99 : q % 100 = 99 := Decidable.not_not.mp (of_decide_eq_false c47); simp [vPs, vTl, h99]); rw [e9]; exact ⟨rfl, hpK40, hFK40, hEK40, hcK40⟩)

theorem dX8_writesSpan_0 : decode cX8_writesSpan 0 = .ok (.iload_n 1, 1) := by decide +kernel
theorem dX8_writesSpan_1 : decode cX8_writesSpan 1 = .ok (.iload_n 2, 1) := by decide +kernel
theorem dX8_writesSpan_2 : decode cX8_writesSpan 2 = .ok (.if_icmp .ne 15, 3) := by decide +kernel
theorem dX8_writesSpan_17 : decode cX8_writesSpan 17 = .ok (.iload_n 1, 1) := by decide +kernel
theorem dX8_writesSpan_18 : decode cX8_writesSpan 18 = .ok (.ifCond .le 20, 3) := by decide +kernel
theorem dX8_writesSpan_38 : decode cX8_writesSpan 38 = .ok (.iload_n 1, 1) := by decide +kernel
theorem dX8_writesSpan_39 : decode cX8_writesSpan 39 = .ok (.ifCond .le 15, 3) := by decide +kernel
theorem dX8_writesSpan_54 : decode cX8_writesSpan 54 = .ok (.iload_n 2, 1) := by decide +kernel
theorem dX8_writesSpan_55 : decode cX8_writesSpan 55 = .ok (.ldc 59, 2) := by decide +kernel
theorem dX8_writesSpan_57 : decode cX8_writesSpan 57 = .ok (.if_icmp .ne 4, 3) := by decide +kernel
theorem dX8_writesSpan_61 : decode cX8_writesSpan 61 = .ok (.aload_n 0, 1) := by decide +kernel
theorem dX8_writesSpan_62 : decode cX8_writesSpan 62 = .ok (.bipush 60, 2) := by decide +kernel
theorem dX8_writesSpan_64 : decode cX8_writesSpan 64 = .ok (.invokevirtual 232, 3) := by decide +kernel
set_option maxRecDepth 20000 in
theorem ggX8_writesSpan_X8_writes : GoodIn wsX8_writesSpan wsX8_writes := goodIn_ca (goodIn_r _ [6, 7, 8, 21, 22, 23, 24, 25, 26, 27, 28, 29, 30, 31, 32, 33, 34, 35, 36, 37, 38, 39, 40, 41, 42, 43, 44, 45, 46, 47, 48, 49, 50, 51] (by decide +kernel) (by decide +kernel)) (goodIn_sub (fun _ h => List.mem_cons_of_mem _ (List.mem_append_right _ h)) (by decide +kernel))
set_option maxRecDepth 20000 in
theorem gX8_writesSpan_X8_writes : GoodIn wsX8_writesSpan (wsV RX8 232 RX8 yX8_writes wsX8_writes) := goodIn_app (goodIn_of _ (by decide +kernel)) ggX8_writesSpan_X8_writes
theorem dX8_writesSpan_67 : decode cX8_writesSpan 67 = .ok (.aload_n 0, 1) := by decide +kernel
theorem dX8_writesSpan_68 : decode cX8_writesSpan 68 = .ok (.bipush 61, 2) := by decide +kernel
theorem dX8_writesSpan_70 : decode cX8_writesSpan 70 = .ok (.invokevirtual 232, 3) := by decide +kernel
theorem dX8_writesSpan_73 : decode cX8_writesSpan 73 = .ok (.aload_n 0, 1) := by decide +kernel
theorem dX8_writesSpan_74 : decode cX8_writesSpan 74 = .ok (.iload_n 2, 1) := by decide +kernel
theorem dX8_writesSpan_75 : decode cX8_writesSpan 75 = .ok (.invokevirtual 238, 3) := by decide +kernel
set_option maxRecDepth 20000 in
theorem ggX8_writesSpan_X8_writesVersion : GoodIn wsX8_writesSpan wsX8_writesVersion := goodIn_ca (goodIn_r _ [12, 13, 14, 15, 16, 5, 17, 2, 3, 4, 6, 7, 8, 18, 19, 20, 21, 22, 23, 24, 25, 26, 27, 28, 29, 30, 31, 32, 33, 34, 35, 36, 37, 38, 39, 40, 41, 42, 43, 44, 45, 46, 47, 48, 49, 50, 51] (by decide +kernel) (by decide +kernel)) (goodIn_sub (fun _ h => List.mem_cons_of_mem _ (List.mem_append_right _ h)) (by decide +kernel))
set_option maxRecDepth 20000 in
theorem gX8_writesSpan_X8_writesVersion : GoodIn wsX8_writesSpan (wsV RX8 238 RX8 yX8_writesVersion wsX8_writesVersion) := goodIn_app (goodIn_of _ (by decide +kernel)) ggX8_writesSpan_X8_writesVersion
theorem yY_X8_writesVersion : jY yX8_writesVersion wsX8_writesVersion cX8_writesVersion 2 none 1 := ⟨⟨_, rfl⟩, by decide +kernel, by decide +kernel, by decide +kernel⟩
theorem dX8_writesSpan_78 : decode cX8_writesSpan 78 = .ok (.return_, 1) := by decide +kernel
theorem dX8_writesSpan_60 : decode cX8_writesSpan 60 = .ok (.return_, 1) := by decide +kernel
theorem dX8_writesSpan_21 : decode cX8_writesSpan 21 = .ok (.aload_n 0, 1) := by decide +kernel
theorem dX8_writesSpan_22 : decode cX8_writesSpan 22 = .ok (.bipush 62, 2) := by decide +kernel
theorem dX8_writesSpan_24 : decode cX8_writesSpan 24 = .ok (.invokevirtual 232, 3) := by decide +kernel
theorem dX8_writesSpan_27 : decode cX8_writesSpan 27 = .ok (.aload_n 0, 1) := by decide +kernel
theorem dX8_writesSpan_28 : decode cX8_writesSpan 28 = .ok (.bipush 61, 2) := by decide +kernel
theorem dX8_writesSpan_30 : decode cX8_writesSpan 30 = .ok (.invokevirtual 232, 3) := by decide +kernel
theorem dX8_writesSpan_33 : decode cX8_writesSpan 33 = .ok (.aload_n 0, 1) := by decide +kernel
theorem dX8_writesSpan_34 : decode cX8_writesSpan 34 = .ok (.iload_n 1, 1) := by decide +kernel
theorem dX8_writesSpan_35 : decode cX8_writesSpan 35 = .ok (.invokevirtual 238, 3) := by decide +kernel
theorem dX8_writesSpan_42 : decode cX8_writesSpan 42 = .ok (.iload_n 2, 1) := by decide +kernel
theorem dX8_writesSpan_43 : decode cX8_writesSpan 43 = .ok (.ldc 59, 2) := by decide +kernel
theorem dX8_writesSpan_45 : decode cX8_writesSpan 45 = .ok (.if_icmp .ge 9, 3) := by decide +kernel
theorem dX8_writesSpan_48 : decode cX8_writesSpan 48 = .ok (.aload_n 0, 1) := by decide +kernel
theorem dX8_writesSpan_49 : decode cX8_writesSpan 49 = .ok (.bipush 32, 2) := by decide +kernel
theorem dX8_writesSpan_51 : decode cX8_writesSpan 51 = .ok (.invokevirtual 232, 3) := by decide +kernel
theorem dX8_writesSpan_5 : decode cX8_writesSpan 5 = .ok (.aload_n 0, 1) := by decide +kernel
theorem dX8_writesSpan_6 : decode cX8_writesSpan 6 = .ok (.bipush 61, 2) := by decide +kernel
theorem dX8_writesSpan_8 : decode cX8_writesSpan 8 = .ok (.invokevirtual 232, 3) := by decide +kernel
theorem dX8_writesSpan_11 : decode cX8_writesSpan 11 = .ok (.aload_n 0, 1) := by decide +kernel
theorem dX8_writesSpan_12 : decode cX8_writesSpan 12 = .ok (.iload_n 1, 1) := by decide +kernel
theorem dX8_writesSpan_13 : decode cX8_writesSpan 13 = .ok (.invokevirtual 238, 3) := by decide +kernel
theorem dX8_writesSpan_16 : decode cX8_writesSpan 16 = .ok (.return_, 1) := by decide +kernel
set_option maxHeartbeats 400000 in
set_option maxRecDepth 20000 in
theorem ct_X8_writesSpan (l : Launch) (D : va_G) (dA : Nat → ClassId) (hst : l.stackTraces = false) (M : jM) (m : Nat) (hM : mOk M m) (tx : List Nat) (hp : mPp M m tx) (hl : tx.length + 27 ≤ 512) (a c : Nat) (ha : a < 100000000) (hb : c < 100000000) : jCT l D dA yX8_writesSpan wsX8_writesSpan (23) (480) (0) (0) 0 [.ref (m), .int (nI (a)), .int (nI (c))] M (mWo M m (tx ++ (sPs a c).flatten)) := by
  refine jBody (cc := cX8_writesSpan) (nL := 3) (rt := none) (ini := false) (by decide) rfl hst (Nat.le_of_ble_eq_true rfl) (by simp [Value.category]) (by intro h9; first | exact absurd h9 (by decide) | rfl) ?_
  show J l D dA RX8 cX8_writesSpan wsX8_writesSpan 3 false none [] (23) (480) (jF D dA (jn M) (mWo M m (tx ++ (sPs a c).flatten)) 0) (jn M) (0) (0) (M) 0 [.ref (m), .int (nI (a)), .int (nI (c))] []
  obtain ⟨m1, m2, ⟨r1, r2, r3, r4, r5, r6, r7, r8, r9, r10, r11, r12, r13⟩, ⟨k1, k2, k3, k4, k5, k6, k7, k8, k9, k10, k11, k12, k13⟩, z1, z2, z3, z4, z5, z6, z7, z8, z9, z10, z11, z12, z13⟩ := id hM
  have d1 := vPs_len a
  have d2 := vPs_len c
  refine J_iload_n dX8_writesSpan_0 rfl rfl ?_
  refine J_iload_n dX8_writesSpan_1 rfl rfl ?_
  refine J_icmp_ne dX8_writesSpan_2 (tgt := 17) (by decide) (fun c2 => ?_) (fun c2 => ?_)
  · have c2 := jeqF (a := a) (b := c) (by omega) (by omega) c2
    refine J_iload_n dX8_writesSpan_17 rfl rfl ?_
    refine J_if_le dX8_writesSpan_18 (tgt := 38) (by decide) (fun c18 => ?_) (fun c18 => ?_)
    · have c18 := jleT (a := a) (b := 0) (by omega) (by omega) c18
      refine J_iload_n dX8_writesSpan_38 rfl rfl ?_
      refine J_if_le dX8_writesSpan_39 (tgt := 54) (by decide) (fun c39 => ?_) (fun c39 => ?_)
      · have c39 := jleT (a := a) (b := 0) (by omega) (by omega) c39
        refine J_iload_n dX8_writesSpan_54 rfl rfl ?_
        refine J_ldc (x := 99999999) dX8_writesSpan_55 (List.mem_of_getElem? (i := 1) rfl) ?_
        refine J_icmp_ne dX8_writesSpan_57 (tgt := 61) (by decide) (fun c57 => ?_) (fun c57 => ?_)
        · have c57 := jeqF (a := c) (b := 99999999) (by omega) (by omega) c57
          refine J_aload_n (m) dX8_writesSpan_61 rfl rfl ?_
          refine J_bipush (x := 60) dX8_writesSpan_62 (by decide) ?_
          refine J_callv (jrunV (As := [.int (60)]) (ct_X8_writes l D dA hst M m ((mFr.rf).ok hM) (tx) hp (by (try simp only [List.length_append, List.length_cons, List.length_nil]); omega) 60) dX8_writesSpan_64 yY_X8_writes gX8_writesSpan_X8_writes rfl cs11 (show m < jn M from by omega) m2 rfl ⟨by omega, by omega⟩ ⟨Nat.zero_le _, Nat.zero_le _⟩ rfl (Nat.le_of_ble_eq_true rfl)) ⟨Nat.zero_le _, Nat.zero_le _⟩ (Or.inr ⟨(jOk.ref (show m < jn M from by omega) (jOk.int (jOk.int jOk.nil))), jOk.nil⟩) (fun E M9 hp _ => by cases hp.1) (fun K64 hp64 hle64 => ?_)
          obtain ⟨_, hpK64, gK64, eK64, qK64⟩ := hp64
          have hFK64 := (mFr.rf).tr gK64
          have hEK64 := (mE.rf).tr eK64
          have hcK64 := qK64.trans ((Eq.refl (ji M m 11)))
          obtain ⟨K64m1, K64m2, ⟨K64r1, K64r2, K64r3, K64r4, K64r5, K64r6, K64r7, K64r8, K64r9, K64r10, K64r11, K64r12, K64r13⟩, ⟨K64k1, K64k2, K64k3, K64k4, K64k5, K64k6, K64k7, K64k8, K64k9, K64k10, K64k11, K64k12, K64k13⟩, K64z1, K64z2, K64z3, K64z4, K64z5, K64z6, K64z7, K64z8, K64z9, K64z10, K64z11, K64z12, K64z13⟩ := id (hFK64.ok hM)
          refine J_aload_n (m) dX8_writesSpan_67 rfl rfl ?_
          refine J_bipush (x := 61) dX8_writesSpan_68 (by decide) ?_
          refine J_callv (jrunV (As := [.int (61)]) (ct_X8_writes l D dA hst K64 m ((hFK64).ok hM) (tx ++ [60]) hpK64 (by (try simp only [List.length_append, List.length_cons, List.length_nil]); omega) 61) dX8_writesSpan_70 yY_X8_writes gX8_writesSpan_X8_writes rfl cs11 (show m < jn K64 from by omega) K64m2 rfl ⟨by omega, by omega⟩ ⟨Nat.zero_le _, Nat.zero_le _⟩ rfl (Nat.le_of_ble_eq_true rfl)) ⟨Nat.zero_le _, Nat.zero_le _⟩ (Or.inr ⟨(jOk.ref (show m < jn K64 from by omega) (jOk.int (jOk.int jOk.nil))), jOk.nil⟩) (fun E M9 hp _ => by cases hp.1) (fun K70 hp70 hle70 => ?_)
          obtain ⟨_, hpK70, gK70, eK70, qK70⟩ := hp70
          have hFK70 := (hFK64).tr gK70
          have hEK70 := (hEK64).tr eK70
          have hcK70 := qK70.trans (hcK64)
          obtain ⟨K70m1, K70m2, ⟨K70r1, K70r2, K70r3, K70r4, K70r5, K70r6, K70r7, K70r8, K70r9, K70r10, K70r11, K70r12, K70r13⟩, ⟨K70k1, K70k2, K70k3, K70k4, K70k5, K70k6, K70k7, K70k8, K70k9, K70k10, K70k11, K70k12, K70k13⟩, K70z1, K70z2, K70z3, K70z4, K70z5, K70z6, K70z7, K70z8, K70z9, K70z10, K70z11, K70z12, K70z13⟩ := id (hFK70.ok hM)
          refine J_aload_n (m) dX8_writesSpan_73 rfl rfl ?_
          refine J_iload_n dX8_writesSpan_74 rfl rfl ?_
          refine J_callv (jrunV (As := [.int (nI (c))]) (ct_X8_writesVersion l D dA hst K70 m ((hFK70).ok hM) (tx ++ [60] ++ [61]) hpK70 (by (try simp only [List.length_append, List.length_cons, List.length_nil]); omega) c (by omega)) dX8_writesSpan_75 yY_X8_writesVersion gX8_writesSpan_X8_writesVersion rfl cs11 (show m < jn K70 from by omega) K70m2 rfl ⟨by omega, by omega⟩ ⟨Nat.zero_le _, Nat.zero_le _⟩ rfl (Nat.le_of_ble_eq_true rfl)) ⟨Nat.zero_le _, Nat.zero_le _⟩ (Or.inr ⟨(jOk.ref (show m < jn K70 from by omega) (jOk.int (jOk.int jOk.nil))), jOk.nil⟩) (fun E M9 hp _ => by cases hp.1) (fun K75 hp75 hle75 => ?_)
          obtain ⟨_, hpK75, gK75, eK75, qK75⟩ := hp75
          have hFK75 := (hFK70).tr gK75
          have hEK75 := (hEK70).tr eK75
          have hcK75 := qK75.trans (hcK70)
          obtain ⟨K75m1, K75m2, ⟨K75r1, K75r2, K75r3, K75r4, K75r5, K75r6, K75r7, K75r8, K75r9, K75r10, K75r11, K75r12, K75r13⟩, ⟨K75k1, K75k2, K75k3, K75k4, K75k5, K75k6, K75k7, K75k8, K75k9, K75k10, K75k11, K75k12, K75k13⟩, K75z1, K75z2, K75z3, K75z4, K75z5, K75z6, K75z7, K75z8, K75z9, K75z10, K75z11, K75z12, K75z13⟩ := id (hFK75.ok hM)
          exact J_vret dX8_writesSpan_78 rfl (by have e9 : tx ++ (sPs a c).flatten = tx ++ [60] ++ [61] ++ (vPs c).flatten := (by rw [sPs_ne c2, sX1_f (by omega), sX2_f (by omega), sX3_t (by omega)]; simp); rw [e9]; exact ⟨rfl, hpK75, hFK75, hEK75, hcK75⟩)
        · have c57 := jeqT (a := c) (b := 99999999) (by omega) (by omega) c57
          exact J_vret dX8_writesSpan_60 rfl (by have e9 : tx ++ (sPs a c).flatten = tx := (by rw [sPs_ne c2, sX1_f (by omega), sX2_f (by omega), sX3_f (by omega)]; simp); rw [e9]; exact ⟨rfl, hp, mFr.rf, mE.rf, (Eq.refl (ji M m 11))⟩)
      · have c39 := jleF (a := a) (b := 0) (by omega) (by omega) c39
        exact absurd c39 (by omega)
    · have c18 := jleF (a := a) (b := 0) (by omega) (by omega) c18
      refine J_aload_n (m) dX8_writesSpan_21 rfl rfl ?_
      refine J_bipush (x := 62) dX8_writesSpan_22 (by decide) ?_
      refine J_callv (jrunV (As := [.int (62)]) (ct_X8_writes l D dA hst M m ((mFr.rf).ok hM) (tx) hp (by (try simp only [List.length_append, List.length_cons, List.length_nil]); omega) 62) dX8_writesSpan_24 yY_X8_writes gX8_writesSpan_X8_writes rfl cs11 (show m < jn M from by omega) m2 rfl ⟨by omega, by omega⟩ ⟨Nat.zero_le _, Nat.zero_le _⟩ rfl (Nat.le_of_ble_eq_true rfl)) ⟨Nat.zero_le _, Nat.zero_le _⟩ (Or.inr ⟨(jOk.ref (show m < jn M from by omega) (jOk.int (jOk.int jOk.nil))), jOk.nil⟩) (fun E M9 hp _ => by cases hp.1) (fun K24 hp24 hle24 => ?_)
      obtain ⟨_, hpK24, gK24, eK24, qK24⟩ := hp24
      have hFK24 := (mFr.rf).tr gK24
      have hEK24 := (mE.rf).tr eK24
      have hcK24 := qK24.trans ((Eq.refl (ji M m 11)))
      obtain ⟨K24m1, K24m2, ⟨K24r1, K24r2, K24r3, K24r4, K24r5, K24r6, K24r7, K24r8, K24r9, K24r10, K24r11, K24r12, K24r13⟩, ⟨K24k1, K24k2, K24k3, K24k4, K24k5, K24k6, K24k7, K24k8, K24k9, K24k10, K24k11, K24k12, K24k13⟩, K24z1, K24z2, K24z3, K24z4, K24z5, K24z6, K24z7, K24z8, K24z9, K24z10, K24z11, K24z12, K24z13⟩ := id (hFK24.ok hM)
      refine J_aload_n (m) dX8_writesSpan_27 rfl rfl ?_
      refine J_bipush (x := 61) dX8_writesSpan_28 (by decide) ?_
      refine J_callv (jrunV (As := [.int (61)]) (ct_X8_writes l D dA hst K24 m ((hFK24).ok hM) (tx ++ [62]) hpK24 (by (try simp only [List.length_append, List.length_cons, List.length_nil]); omega) 61) dX8_writesSpan_30 yY_X8_writes gX8_writesSpan_X8_writes rfl cs11 (show m < jn K24 from by omega) K24m2 rfl ⟨by omega, by omega⟩ ⟨Nat.zero_le _, Nat.zero_le _⟩ rfl (Nat.le_of_ble_eq_true rfl)) ⟨Nat.zero_le _, Nat.zero_le _⟩ (Or.inr ⟨(jOk.ref (show m < jn K24 from by omega) (jOk.int (jOk.int jOk.nil))), jOk.nil⟩) (fun E M9 hp _ => by cases hp.1) (fun K30 hp30 hle30 => ?_)
      obtain ⟨_, hpK30, gK30, eK30, qK30⟩ := hp30
      have hFK30 := (hFK24).tr gK30
      have hEK30 := (hEK24).tr eK30
      have hcK30 := qK30.trans (hcK24)
      obtain ⟨K30m1, K30m2, ⟨K30r1, K30r2, K30r3, K30r4, K30r5, K30r6, K30r7, K30r8, K30r9, K30r10, K30r11, K30r12, K30r13⟩, ⟨K30k1, K30k2, K30k3, K30k4, K30k5, K30k6, K30k7, K30k8, K30k9, K30k10, K30k11, K30k12, K30k13⟩, K30z1, K30z2, K30z3, K30z4, K30z5, K30z6, K30z7, K30z8, K30z9, K30z10, K30z11, K30z12, K30z13⟩ := id (hFK30.ok hM)
      refine J_aload_n (m) dX8_writesSpan_33 rfl rfl ?_
      refine J_iload_n dX8_writesSpan_34 rfl rfl ?_
      refine J_callv (jrunV (As := [.int (nI (a))]) (ct_X8_writesVersion l D dA hst K30 m ((hFK30).ok hM) (tx ++ [62] ++ [61]) hpK30 (by (try simp only [List.length_append, List.length_cons, List.length_nil]); omega) a (by omega)) dX8_writesSpan_35 yY_X8_writesVersion gX8_writesSpan_X8_writesVersion rfl cs11 (show m < jn K30 from by omega) K30m2 rfl ⟨by omega, by omega⟩ ⟨Nat.zero_le _, Nat.zero_le _⟩ rfl (Nat.le_of_ble_eq_true rfl)) ⟨Nat.zero_le _, Nat.zero_le _⟩ (Or.inr ⟨(jOk.ref (show m < jn K30 from by omega) (jOk.int (jOk.int jOk.nil))), jOk.nil⟩) (fun E M9 hp _ => by cases hp.1) (fun K35 hp35 hle35 => ?_)
      obtain ⟨_, hpK35, gK35, eK35, qK35⟩ := hp35
      have hFK35 := (hFK30).tr gK35
      have hEK35 := (hEK30).tr eK35
      have hcK35 := qK35.trans (hcK30)
      obtain ⟨K35m1, K35m2, ⟨K35r1, K35r2, K35r3, K35r4, K35r5, K35r6, K35r7, K35r8, K35r9, K35r10, K35r11, K35r12, K35r13⟩, ⟨K35k1, K35k2, K35k3, K35k4, K35k5, K35k6, K35k7, K35k8, K35k9, K35k10, K35k11, K35k12, K35k13⟩, K35z1, K35z2, K35z3, K35z4, K35z5, K35z6, K35z7, K35z8, K35z9, K35z10, K35z11, K35z12, K35z13⟩ := id (hFK35.ok hM)
      refine J_iload_n dX8_writesSpan_38 rfl rfl ?_
      refine J_if_le dX8_writesSpan_39 (tgt := 54) (by decide) (fun c39 => ?_) (fun c39 => ?_)
      · have c39 := jleT (a := a) (b := 0) (by omega) (by omega) c39
        exact absurd c39 (by omega)
      · have c39 := jleF (a := a) (b := 0) (by omega) (by omega) c39
        refine J_iload_n dX8_writesSpan_42 rfl rfl ?_
        refine J_ldc (x := 99999999) dX8_writesSpan_43 (List.mem_of_getElem? (i := 1) rfl) ?_
        refine J_icmp_ge dX8_writesSpan_45 (tgt := 54) (by decide) (fun c45 => ?_) (fun c45 => ?_)
        · have c45 := jleT (a := 99999999) (b := c) (by omega) (by omega) c45
          refine J_iload_n dX8_writesSpan_54 rfl rfl ?_
          refine J_ldc (x := 99999999) dX8_writesSpan_55 (List.mem_of_getElem? (i := 1) rfl) ?_
          refine J_icmp_ne dX8_writesSpan_57 (tgt := 61) (by decide) (fun c57 => ?_) (fun c57 => ?_)
          · have c57 := jeqF (a := c) (b := 99999999) (by omega) (by omega) c57
            exact absurd c57 (by omega)
          · have c57 := jeqT (a := c) (b := 99999999) (by omega) (by omega) c57
            exact J_vret dX8_writesSpan_60 rfl (by have e9 : tx ++ (sPs a c).flatten = tx ++ [62] ++ [61] ++ (vPs a).flatten := (by rw [sPs_ne c2, sX1_t (by omega), sX2_f (by omega), sX3_f (by omega)]; simp); rw [e9]; exact ⟨rfl, hpK35, hFK35, hEK35, hcK35⟩)
        · have c45 := jleF (a := 99999999) (b := c) (by omega) (by omega) c45
          refine J_aload_n (m) dX8_writesSpan_48 rfl rfl ?_
          refine J_bipush (x := 32) dX8_writesSpan_49 (by decide) ?_
          refine J_callv (jrunV (As := [.int (32)]) (ct_X8_writes l D dA hst K35 m ((hFK35).ok hM) (tx ++ [62] ++ [61] ++ (vPs a).flatten) hpK35 (by (try simp only [List.length_append, List.length_cons, List.length_nil]); omega) 32) dX8_writesSpan_51 yY_X8_writes gX8_writesSpan_X8_writes rfl cs11 (show m < jn K35 from by omega) K35m2 rfl ⟨by omega, by omega⟩ ⟨Nat.zero_le _, Nat.zero_le _⟩ rfl (Nat.le_of_ble_eq_true rfl)) ⟨Nat.zero_le _, Nat.zero_le _⟩ (Or.inr ⟨(jOk.ref (show m < jn K35 from by omega) (jOk.int (jOk.int jOk.nil))), jOk.nil⟩) (fun E M9 hp _ => by cases hp.1) (fun K51 hp51 hle51 => ?_)
          obtain ⟨_, hpK51, gK51, eK51, qK51⟩ := hp51
          have hFK51 := (hFK35).tr gK51
          have hEK51 := (hEK35).tr eK51
          have hcK51 := qK51.trans (hcK35)
          obtain ⟨K51m1, K51m2, ⟨K51r1, K51r2, K51r3, K51r4, K51r5, K51r6, K51r7, K51r8, K51r9, K51r10, K51r11, K51r12, K51r13⟩, ⟨K51k1, K51k2, K51k3, K51k4, K51k5, K51k6, K51k7, K51k8, K51k9, K51k10, K51k11, K51k12, K51k13⟩, K51z1, K51z2, K51z3, K51z4, K51z5, K51z6, K51z7, K51z8, K51z9, K51z10, K51z11, K51z12, K51z13⟩ := id (hFK51.ok hM)
          refine J_iload_n dX8_writesSpan_54 rfl rfl ?_
          refine J_ldc (x := 99999999) dX8_writesSpan_55 (List.mem_of_getElem? (i := 1) rfl) ?_
          refine J_icmp_ne dX8_writesSpan_57 (tgt := 61) (by decide) (fun c57 => ?_) (fun c57 => ?_)
          · have c57 := jeqF (a := c) (b := 99999999) (by omega) (by omega) c57
            refine J_aload_n (m) dX8_writesSpan_61 rfl rfl ?_
            refine J_bipush (x := 60) dX8_writesSpan_62 (by decide) ?_
            refine J_callv (jrunV (As := [.int (60)]) (ct_X8_writes l D dA hst K51 m ((hFK51).ok hM) (tx ++ [62] ++ [61] ++ (vPs a).flatten ++ [32]) hpK51 (by (try simp only [List.length_append, List.length_cons, List.length_nil]); omega) 60) dX8_writesSpan_64 yY_X8_writes gX8_writesSpan_X8_writes rfl cs11 (show m < jn K51 from by omega) K51m2 rfl ⟨by omega, by omega⟩ ⟨Nat.zero_le _, Nat.zero_le _⟩ rfl (Nat.le_of_ble_eq_true rfl)) ⟨Nat.zero_le _, Nat.zero_le _⟩ (Or.inr ⟨(jOk.ref (show m < jn K51 from by omega) (jOk.int (jOk.int jOk.nil))), jOk.nil⟩) (fun E M9 hp _ => by cases hp.1) (fun K64 hp64 hle64 => ?_)
            obtain ⟨_, hpK64, gK64, eK64, qK64⟩ := hp64
            have hFK64 := (hFK51).tr gK64
            have hEK64 := (hEK51).tr eK64
            have hcK64 := qK64.trans (hcK51)
            obtain ⟨K64m1, K64m2, ⟨K64r1, K64r2, K64r3, K64r4, K64r5, K64r6, K64r7, K64r8, K64r9, K64r10, K64r11, K64r12, K64r13⟩, ⟨K64k1, K64k2, K64k3, K64k4, K64k5, K64k6, K64k7, K64k8, K64k9, K64k10, K64k11, K64k12, K64k13⟩, K64z1, K64z2, K64z3, K64z4, K64z5, K64z6, K64z7, K64z8, K64z9, K64z10, K64z11, K64z12, K64z13⟩ := id (hFK64.ok hM)
            refine J_aload_n (m) dX8_writesSpan_67 rfl rfl ?_
            refine J_bipush (x := 61) dX8_writesSpan_68 (by decide) ?_
            refine J_callv (jrunV (As := [.int (61)]) (ct_X8_writes l D dA hst K64 m ((hFK64).ok hM) (tx ++ [62] ++ [61] ++ (vPs a).flatten ++ [32] ++ [60]) hpK64 (by (try simp only [List.length_append, List.length_cons, List.length_nil]); omega) 61) dX8_writesSpan_70 yY_X8_writes gX8_writesSpan_X8_writes rfl cs11 (show m < jn K64 from by omega) K64m2 rfl ⟨by omega, by omega⟩ ⟨Nat.zero_le _, Nat.zero_le _⟩ rfl (Nat.le_of_ble_eq_true rfl)) ⟨Nat.zero_le _, Nat.zero_le _⟩ (Or.inr ⟨(jOk.ref (show m < jn K64 from by omega) (jOk.int (jOk.int jOk.nil))), jOk.nil⟩) (fun E M9 hp _ => by cases hp.1) (fun K70 hp70 hle70 => ?_)
            obtain ⟨_, hpK70, gK70, eK70, qK70⟩ := hp70
            have hFK70 := (hFK64).tr gK70
            have hEK70 := (hEK64).tr eK70
            have hcK70 := qK70.trans (hcK64)
            obtain ⟨K70m1, K70m2, ⟨K70r1, K70r2, K70r3, K70r4, K70r5, K70r6, K70r7, K70r8, K70r9, K70r10, K70r11, K70r12, K70r13⟩, ⟨K70k1, K70k2, K70k3, K70k4, K70k5, K70k6, K70k7, K70k8, K70k9, K70k10, K70k11, K70k12, K70k13⟩, K70z1, K70z2, K70z3, K70z4, K70z5, K70z6, K70z7, K70z8, K70z9, K70z10, K70z11, K70z12, K70z13⟩ := id (hFK70.ok hM)
            refine J_aload_n (m) dX8_writesSpan_73 rfl rfl ?_
            refine J_iload_n dX8_writesSpan_74 rfl rfl ?_
            refine J_callv (jrunV (As := [.int (nI (c))]) (ct_X8_writesVersion l D dA hst K70 m ((hFK70).ok hM) (tx ++ [62] ++ [61] ++ (vPs a).flatten ++ [32] ++ [60] ++ [61]) hpK70 (by (try simp only [List.length_append, List.length_cons, List.length_nil]); omega) c (by omega)) dX8_writesSpan_75 yY_X8_writesVersion gX8_writesSpan_X8_writesVersion rfl cs11 (show m < jn K70 from by omega) K70m2 rfl ⟨by omega, by omega⟩ ⟨Nat.zero_le _, Nat.zero_le _⟩ rfl (Nat.le_of_ble_eq_true rfl)) ⟨Nat.zero_le _, Nat.zero_le _⟩ (Or.inr ⟨(jOk.ref (show m < jn K70 from by omega) (jOk.int (jOk.int jOk.nil))), jOk.nil⟩) (fun E M9 hp _ => by cases hp.1) (fun K75 hp75 hle75 => ?_)
            obtain ⟨_, hpK75, gK75, eK75, qK75⟩ := hp75
            have hFK75 := (hFK70).tr gK75
            have hEK75 := (hEK70).tr eK75
            have hcK75 := qK75.trans (hcK70)
            obtain ⟨K75m1, K75m2, ⟨K75r1, K75r2, K75r3, K75r4, K75r5, K75r6, K75r7, K75r8, K75r9, K75r10, K75r11, K75r12, K75r13⟩, ⟨K75k1, K75k2, K75k3, K75k4, K75k5, K75k6, K75k7, K75k8, K75k9, K75k10, K75k11, K75k12, K75k13⟩, K75z1, K75z2, K75z3, K75z4, K75z5, K75z6, K75z7, K75z8, K75z9, K75z10, K75z11, K75z12, K75z13⟩ := id (hFK75.ok hM)
            exact J_vret dX8_writesSpan_78 rfl (by have e9 : tx ++ (sPs a c).flatten = tx ++ [62] ++ [61] ++ (vPs a).flatten ++ [32] ++ [60] ++ [61] ++ (vPs c).flatten := (by rw [sPs_ne c2, sX1_t (by omega), sX2_t (by omega), sX3_t (by omega)]; simp); rw [e9]; exact ⟨rfl, hpK75, hFK75, hEK75, hcK75⟩)
          · have c57 := jeqT (a := c) (b := 99999999) (by omega) (by omega) c57
            exact absurd c57 (by omega)
  · have c2 := jeqT (a := a) (b := c) (by omega) (by omega) c2
    refine J_aload_n (m) dX8_writesSpan_5 rfl rfl ?_
    refine J_bipush (x := 61) dX8_writesSpan_6 (by decide) ?_
    refine J_callv (jrunV (As := [.int (61)]) (ct_X8_writes l D dA hst M m ((mFr.rf).ok hM) (tx) hp (by (try simp only [List.length_append, List.length_cons, List.length_nil]); omega) 61) dX8_writesSpan_8 yY_X8_writes gX8_writesSpan_X8_writes rfl cs11 (show m < jn M from by omega) m2 rfl ⟨by omega, by omega⟩ ⟨Nat.zero_le _, Nat.zero_le _⟩ rfl (Nat.le_of_ble_eq_true rfl)) ⟨Nat.zero_le _, Nat.zero_le _⟩ (Or.inr ⟨(jOk.ref (show m < jn M from by omega) (jOk.int (jOk.int jOk.nil))), jOk.nil⟩) (fun E M9 hp _ => by cases hp.1) (fun K8 hp8 hle8 => ?_)
    obtain ⟨_, hpK8, gK8, eK8, qK8⟩ := hp8
    have hFK8 := (mFr.rf).tr gK8
    have hEK8 := (mE.rf).tr eK8
    have hcK8 := qK8.trans ((Eq.refl (ji M m 11)))
    obtain ⟨K8m1, K8m2, ⟨K8r1, K8r2, K8r3, K8r4, K8r5, K8r6, K8r7, K8r8, K8r9, K8r10, K8r11, K8r12, K8r13⟩, ⟨K8k1, K8k2, K8k3, K8k4, K8k5, K8k6, K8k7, K8k8, K8k9, K8k10, K8k11, K8k12, K8k13⟩, K8z1, K8z2, K8z3, K8z4, K8z5, K8z6, K8z7, K8z8, K8z9, K8z10, K8z11, K8z12, K8z13⟩ := id (hFK8.ok hM)
    refine J_aload_n (m) dX8_writesSpan_11 rfl rfl ?_
    refine J_iload_n dX8_writesSpan_12 rfl rfl ?_
    refine J_callv (jrunV (As := [.int (nI (a))]) (ct_X8_writesVersion l D dA hst K8 m ((hFK8).ok hM) (tx ++ [61]) hpK8 (by (try simp only [List.length_append, List.length_cons, List.length_nil]); omega) a (by omega)) dX8_writesSpan_13 yY_X8_writesVersion gX8_writesSpan_X8_writesVersion rfl cs11 (show m < jn K8 from by omega) K8m2 rfl ⟨by omega, by omega⟩ ⟨Nat.zero_le _, Nat.zero_le _⟩ rfl (Nat.le_of_ble_eq_true rfl)) ⟨Nat.zero_le _, Nat.zero_le _⟩ (Or.inr ⟨(jOk.ref (show m < jn K8 from by omega) (jOk.int (jOk.int jOk.nil))), jOk.nil⟩) (fun E M9 hp _ => by cases hp.1) (fun K13 hp13 hle13 => ?_)
    obtain ⟨_, hpK13, gK13, eK13, qK13⟩ := hp13
    have hFK13 := (hFK8).tr gK13
    have hEK13 := (hEK8).tr eK13
    have hcK13 := qK13.trans (hcK8)
    obtain ⟨K13m1, K13m2, ⟨K13r1, K13r2, K13r3, K13r4, K13r5, K13r6, K13r7, K13r8, K13r9, K13r10, K13r11, K13r12, K13r13⟩, ⟨K13k1, K13k2, K13k3, K13k4, K13k5, K13k6, K13k7, K13k8, K13k9, K13k10, K13k11, K13k12, K13k13⟩, K13z1, K13z2, K13z3, K13z4, K13z5, K13z6, K13z7, K13z8, K13z9, K13z10, K13z11, K13z12, K13z13⟩ := id (hFK13.ok hM)
    exact J_vret dX8_writesSpan_16 rfl (by have e9 : tx ++ (sPs a c).flatten = tx ++ [61] ++ (vPs a).flatten := (by rw [sPs_eq c2]; simp); rw [e9]; exact ⟨rfl, hpK13, hFK13, hEK13, hcK13⟩)

theorem dX8_writesText_0 : decode cX8_writesText 0 = .ok (.aload_n 0, 1) := by decide +kernel
theorem dX8_writesText_1 : decode cX8_writesText 1 = .ok (.iconst 0, 1) := by decide +kernel
theorem dX8_writesText_2 : decode cX8_writesText 2 = .ok (.putfield 229, 3) := by decide +kernel
theorem dX8_writesText_5 : decode cX8_writesText 5 = .ok (.bipush 33, 2) := by decide +kernel
theorem dX8_writesText_7 : decode cX8_writesText 7 = .ok (.iload_n 1, 1) := by decide +kernel
theorem dX8_writesText_8 : decode cX8_writesText 8 = .ok (.imul, 1) := by decide +kernel
theorem dX8_writesText_9 : decode cX8_writesText 9 = .ok (.istore_n 2, 1) := by decide +kernel
theorem dX8_writesText_10 : decode cX8_writesText 10 = .ok (.aload_n 0, 1) := by decide +kernel
theorem dX8_writesText_11 : decode cX8_writesText 11 = .ok (.getfield 9, 3) := by decide +kernel
theorem dX8_writesText_14 : decode cX8_writesText 14 = .ok (.iload_n 2, 1) := by decide +kernel
theorem dX8_writesText_15 : decode cX8_writesText 15 = .ok (.iaload, 1) := by decide +kernel
theorem dX8_writesText_16 : decode cX8_writesText 16 = .ok (.ifCond .ne 29, 3) := by decide +kernel
theorem dX8_writesText_78 : decode cX8_writesText 78 = .ok (.iconst 0, 1) := by decide +kernel
theorem dX8_writesText_80 : decode cX8_writesText 80 = .ok (.iload_n 3, 1) := by decide +kernel
theorem dX8_writesText_81 : decode cX8_writesText 81 = .ok (.aload_n 0, 1) := by decide +kernel
theorem dX8_writesText_82 : decode cX8_writesText 82 = .ok (.getfield 9, 3) := by decide +kernel
theorem dX8_writesText_85 : decode cX8_writesText 85 = .ok (.iload_n 2, 1) := by decide +kernel
theorem dX8_writesText_86 : decode cX8_writesText 86 = .ok (.iaload, 1) := by decide +kernel
theorem dX8_writesText_87 : decode cX8_writesText 87 = .ok (.if_icmp .ge 47, 3) := by decide +kernel
theorem dX8_writesText_134 : decode cX8_writesText 134 = .ok (.return_, 1) := by decide +kernel
theorem dX8_writesText_90 : decode cX8_writesText 90 = .ok (.iload_n 3, 1) := by decide +kernel
theorem dX8_writesText_91 : decode cX8_writesText 91 = .ok (.ifCond .le 9, 3) := by decide +kernel
theorem dX8_writesText_100 : decode cX8_writesText 100 = .ok (.aload_n 0, 1) := by decide +kernel
theorem dX8_writesText_101 : decode cX8_writesText 101 = .ok (.aload_n 0, 1) := by decide +kernel
theorem dX8_writesText_102 : decode cX8_writesText 102 = .ok (.getfield 9, 3) := by decide +kernel
theorem dX8_writesText_105 : decode cX8_writesText 105 = .ok (.iload_n 2, 1) := by decide +kernel
theorem dX8_writesText_106 : decode cX8_writesText 106 = .ok (.iconst 1, 1) := by decide +kernel
theorem dX8_writesText_107 : decode cX8_writesText 107 = .ok (.iadd, 1) := by decide +kernel
theorem dX8_writesText_108 : decode cX8_writesText 108 = .ok (.iconst 2, 1) := by decide +kernel
theorem dX8_writesText_109 : decode cX8_writesText 109 = .ok (.iload_n 3, 1) := by decide +kernel
theorem dX8_writesText_110 : decode cX8_writesText 110 = .ok (.imul, 1) := by decide +kernel
theorem dX8_writesText_111 : decode cX8_writesText 111 = .ok (.iadd, 1) := by decide +kernel
theorem dX8_writesText_112 : decode cX8_writesText 112 = .ok (.iaload, 1) := by decide +kernel
theorem dX8_writesText_113 : decode cX8_writesText 113 = .ok (.aload_n 0, 1) := by decide +kernel
theorem dX8_writesText_114 : decode cX8_writesText 114 = .ok (.getfield 9, 3) := by decide +kernel
theorem dX8_writesText_117 : decode cX8_writesText 117 = .ok (.iload_n 2, 1) := by decide +kernel
theorem dX8_writesText_118 : decode cX8_writesText 118 = .ok (.iconst 2, 1) := by decide +kernel
theorem dX8_writesText_119 : decode cX8_writesText 119 = .ok (.iadd, 1) := by decide +kernel
theorem dX8_writesText_120 : decode cX8_writesText 120 = .ok (.iconst 2, 1) := by decide +kernel
theorem dX8_writesText_121 : decode cX8_writesText 121 = .ok (.iload_n 3, 1) := by decide +kernel
theorem dX8_writesText_122 : decode cX8_writesText 122 = .ok (.imul, 1) := by decide +kernel
theorem dX8_writesText_123 : decode cX8_writesText 123 = .ok (.iadd, 1) := by decide +kernel
theorem dX8_writesText_124 : decode cX8_writesText 124 = .ok (.iaload, 1) := by decide +kernel
theorem dX8_writesText_125 : decode cX8_writesText 125 = .ok (.invokevirtual 249, 3) := by decide +kernel
set_option maxRecDepth 20000 in
theorem ggX8_writesText_X8_writesSpan : GoodIn wsX8_writesText wsX8_writesSpan := goodIn_ca (goodIn_r _ [54, 3, 45, 46, 47, 48, 49, 50, 1, 55, 56, 57, 58, 59, 60, 61, 62, 63, 64, 65, 66, 67, 68, 69, 70, 71, 72, 73, 74, 75, 76, 77, 78, 79, 80, 81, 82, 83, 84, 85, 86, 87, 88, 89, 90, 91, 92, 93, 94, 95, 96, 97] (by decide +kernel) (by decide +kernel)) (goodIn_sub (fun _ h => List.mem_cons_of_mem _ (List.mem_append_right _ h)) (by decide +kernel))
set_option maxRecDepth 20000 in
theorem gX8_writesText_X8_writesSpan : GoodIn wsX8_writesText (wsV RX8 249 RX8 yX8_writesSpan wsX8_writesSpan) := goodIn_app (goodIn_of _ (by decide +kernel)) ggX8_writesText_X8_writesSpan
theorem yY_X8_writesSpan : jY yX8_writesSpan wsX8_writesSpan cX8_writesSpan 3 none 2 := ⟨⟨_, rfl⟩, by decide +kernel, by decide +kernel, by decide +kernel⟩
theorem dX8_writesText_128 : decode cX8_writesText 128 = .ok (.iinc 3 1, 3) := by decide +kernel
theorem dX8_writesText_131 : decode cX8_writesText 131 = .ok (.goto (-51), 3) := by decide +kernel
theorem dX8_writesText_94 : decode cX8_writesText 94 = .ok (.aload_n 0, 1) := by decide +kernel
theorem dX8_writesText_95 : decode cX8_writesText 95 = .ok (.bipush 124, 2) := by decide +kernel
theorem dX8_writesText_97 : decode cX8_writesText 97 = .ok (.invokevirtual 232, 3) := by decide +kernel
set_option maxRecDepth 20000 in
theorem ggX8_writesText_X8_writes : GoodIn wsX8_writesText wsX8_writes := goodIn_ca (goodIn_r _ [49, 50, 1, 67, 68, 69, 70, 71, 72, 73, 74, 75, 76, 77, 78, 79, 80, 81, 82, 83, 84, 85, 86, 87, 88, 89, 90, 91, 92, 93, 94, 95, 96, 97] (by decide +kernel) (by decide +kernel)) (goodIn_sub (fun _ h => List.mem_cons_of_mem _ (List.mem_append_right _ h)) (by decide +kernel))
set_option maxRecDepth 20000 in
theorem gX8_writesText_X8_writes : GoodIn wsX8_writesText (wsV RX8 232 RX8 yX8_writes wsX8_writes) := goodIn_app (goodIn_of _ (by decide +kernel)) ggX8_writesText_X8_writes
theorem dX8_writesText_79 : decode cX8_writesText 79 = .ok (.istore_n 3, 1) := by decide +kernel
theorem dX8_writesText_45 : decode cX8_writesText 45 = .ok (.aload_n 0, 1) := by decide +kernel
theorem dX8_writesText_46 : decode cX8_writesText 46 = .ok (.getfield 9, 3) := by decide +kernel
theorem dX8_writesText_49 : decode cX8_writesText 49 = .ok (.iload_n 2, 1) := by decide +kernel
theorem dX8_writesText_50 : decode cX8_writesText 50 = .ok (.iconst 1, 1) := by decide +kernel
theorem dX8_writesText_51 : decode cX8_writesText 51 = .ok (.iadd, 1) := by decide +kernel
theorem dX8_writesText_52 : decode cX8_writesText 52 = .ok (.iaload, 1) := by decide +kernel
theorem dX8_writesText_53 : decode cX8_writesText 53 = .ok (.ifCond .ne 25, 3) := by decide +kernel
theorem dX8_writesText_56 : decode cX8_writesText 56 = .ok (.aload_n 0, 1) := by decide +kernel
theorem dX8_writesText_57 : decode cX8_writesText 57 = .ok (.getfield 9, 3) := by decide +kernel
theorem dX8_writesText_60 : decode cX8_writesText 60 = .ok (.iload_n 2, 1) := by decide +kernel
theorem dX8_writesText_61 : decode cX8_writesText 61 = .ok (.iconst 2, 1) := by decide +kernel
theorem dX8_writesText_62 : decode cX8_writesText 62 = .ok (.iadd, 1) := by decide +kernel
theorem dX8_writesText_63 : decode cX8_writesText 63 = .ok (.iaload, 1) := by decide +kernel
theorem dX8_writesText_64 : decode cX8_writesText 64 = .ok (.ldc 59, 2) := by decide +kernel
theorem dX8_writesText_66 : decode cX8_writesText 66 = .ok (.if_icmp .ne 12, 3) := by decide +kernel
theorem dX8_writesText_69 : decode cX8_writesText 69 = .ok (.aload_n 0, 1) := by decide +kernel
theorem dX8_writesText_70 : decode cX8_writesText 70 = .ok (.bipush 42, 2) := by decide +kernel
theorem dX8_writesText_72 : decode cX8_writesText 72 = .ok (.invokevirtual 232, 3) := by decide +kernel
theorem dX8_writesText_75 : decode cX8_writesText 75 = .ok (.goto 59, 3) := by decide +kernel
theorem dX8_writesText_19 : decode cX8_writesText 19 = .ok (.iconst 0, 1) := by decide +kernel
theorem dX8_writesText_20 : decode cX8_writesText 20 = .ok (.istore_n 3, 1) := by decide +kernel
theorem dX8_writesText_21 : decode cX8_writesText 21 = .ok (.iload_n 3, 1) := by decide +kernel
theorem dX8_writesText_22 : decode cX8_writesText 22 = .ok (.iconst 4, 1) := by decide +kernel
theorem dX8_writesText_23 : decode cX8_writesText 23 = .ok (.if_icmp .ge 19, 3) := by decide +kernel
theorem dX8_writesText_26 : decode cX8_writesText 26 = .ok (.aload_n 0, 1) := by decide +kernel
theorem dX8_writesText_27 : decode cX8_writesText 27 = .ok (.ldc 241, 2) := by decide +kernel
theorem dX8_writesText_29 : decode cX8_writesText 29 = .ok (.iload_n 3, 1) := by decide +kernel
theorem dX8_writesText_30 : decode cX8_writesText 30 = .ok (.invokevirtual 243, 3) := by decide +kernel
set_option maxRecDepth 20000 in
theorem ggX8_writesText_J0_charAt_5068e : GoodIn wsX8_writesText wsJ0_charAt_5068e := goodIn_r _ [8, 9, 10, 11, 12, 7, 13, 14, 15, 16, 17, 18, 19, 20, 21, 22, 23, 24, 25, 26, 27, 28, 29, 30, 31, 32, 33, 34, 35, 36, 37, 38, 39, 40, 41, 42, 43, 44, 98, 99, 100, 101] (by decide +kernel) (by decide +kernel)
set_option maxRecDepth 20000 in
theorem gX8_writesText_J0_charAt_5068e : GoodIn wsX8_writesText (wsV RX8 243 RJ0 yJ0_charAt_5068e wsJ0_charAt_5068e) := goodIn_app (goodIn_of _ (by decide +kernel)) ggX8_writesText_J0_charAt_5068e
theorem yY_J0_charAt_5068e : jY yJ0_charAt_5068e wsJ0_charAt_5068e cJ0_charAt_5068e 2 (some .char) 1 := ⟨⟨_, rfl⟩, by decide +kernel, by decide +kernel, by decide +kernel⟩
theorem dX8_writesText_33 : decode cX8_writesText 33 = .ok (.invokevirtual 232, 3) := by decide +kernel
theorem dX8_writesText_36 : decode cX8_writesText 36 = .ok (.iinc 3 1, 3) := by decide +kernel
theorem dX8_writesText_39 : decode cX8_writesText 39 = .ok (.goto (-18), 3) := by decide +kernel
theorem dX8_writesText_42 : decode cX8_writesText 42 = .ok (.goto 92, 3) := by decide +kernel
set_option maxHeartbeats 400000 in
set_option maxRecDepth 20000 in
theorem ct_X8_writesText (l : Launch) (D : va_G) (dA : Nat → ClassId) (hst : l.stackTraces = false) (M : jM) (m : Nat) (hM : mOk M m) (k : Nat) (hk : k < 12) (w : rVl) (hw : rWf w) (hx : mSlot (ji M (m + 1)) (33 * k) (some w)) : jCT l D dA yX8_writesText wsX8_writesText (24) (540) (0) (0) 0 [.ref (m), .int (nI (k))] M (mWo M m (tTx w)) := by
  refine jBody (cc := cX8_writesText) (nL := 4) (rt := none) (ini := false) (by decide) rfl hst (Nat.le_of_ble_eq_true rfl) (by simp [Value.category]) (by intro h9; first | exact absurd h9 (by decide) | rfl) ?_
  show J l D dA RX8 cX8_writesText wsX8_writesText 4 false none [] (24) (540) (jF D dA (jn M) (mWo M m (tTx w)) 0) (jn M) (0) (0) (M) 0 [.ref (m), .int (nI (k)), .float 0, .float 0] []
  obtain ⟨m1, m2, ⟨r1, r2, r3, r4, r5, r6, r7, r8, r9, r10, r11, r12, r13⟩, ⟨k1, k2, k3, k4, k5, k6, k7, k8, k9, k10, k11, k12, k13⟩, z1, z2, z3, z4, z5, z6, z7, z8, z9, z10, z11, z12, z13⟩ := id hM
  have h16 := hx.2.1
  refine J_aload_n (m) dX8_writesText_0 rfl rfl ?_
  refine J_iconst (x := 0) dX8_writesText_1 (by decide) ?_
  refine J_puti (j := 30) (x := (0)) dX8_writesText_2 (fun _ h => List.mem_cons_of_mem _ (List.mem_append_left _ (List.mem_append_left _ (List.mem_append_right _ (h))))) cs11 cty11 (by decide) rfl (List.mem_of_getElem? (i := 1) rfl) rfl rfl ⟨rfl, rfl⟩ (show m < jn M from by omega) m2 ?_
  have hp0 : mPp (jSi M m 30 0) m [] := ⟨ji_Sis, fun j hj => absurd hj (Nat.not_lt_zero _)⟩
  refine J_bipush (x := 33) dX8_writesText_5 (by decide) ?_
  refine J_iload_n dX8_writesText_7 rfl rfl ?_
  refine J_imul dX8_writesText_8 ?_
  refine J_topi (y := nI (33 * k)) (pk_mul (33) (k)) ?_
  refine J_istore_n (lv' := [.ref (m), .int (nI (k)), .int (nI (33 * k)), .float 0]) dX8_writesText_9 rfl (by decide) rfl rfl ?_
  refine J_aload_n (m) dX8_writesText_10 rfl rfl ?_
  refine J_getrs (q := m + 1) r1 dX8_writesText_11 (fun _ h => List.mem_cons_of_mem _ (List.mem_append_left _ (List.mem_append_left _ (List.mem_append_right _ (h))))) cs11 (by decide) rfl (List.mem_of_getElem? (i := 2) rfl) rfl (show m < jn M from by omega) m2 ?_
  refine J_iload_n dX8_writesText_14 rfl rfl ?_
  refine J_ialdN (k := 33 * k) dX8_writesText_15 (show m + 1 < jn M from by omega) k1 (by exact Nat.lt_of_lt_of_eq (show _ < 427 by omega) (Eq.symm z1)) (by exact Nat.lt_of_le_of_lt (Nat.le_of_eq z1) (show 427 < 2 ^ 31 by omega)) ?_
  refine J_topi (y := nI (w.1)) (by rw [ji_Sin (by omega)]; exact hx.hd) ?_
  refine J_if_ne dX8_writesText_16 (tgt := 45) (by decide) (fun c16 => ?_) (fun c16 => ?_)
  · have c16 := jeqF (a := w.1) (b := 0) (by omega) (by omega) c16
    have ha0 := hw.1 0 (by omega)
    have ha1 := hw.1 1 (by omega)
    have L78 : ∀  (hnw : rWhole w.2 w.1 = false), J l D dA RX8 cX8_writesText wsX8_writesText 4 false none [] (24) (540) (jF D dA (jn M) (mWo M m (tTx w)) 0) (jn M) (0) (0) ((jSi M m 30 (0))) 78 [.ref (m), .int (nI (k)), .int (nI (33 * k)), .float 0] [] := by
      intro hnw
      refine J_iconst (x := 0) dX8_writesText_78 (by decide) ?_
      have L80 : ∀ (fuel : Nat) (j : Nat) (Mz : jM) (hj : j ≤ w.1) (hPz : mPp Mz m (spPs w j).flatten) (hFz : mFr m M Mz) (hEz : mE m M Mz) (hcz : ji Mz m 11 = ji M m 11), w.1 - j < fuel → J l D dA RX8 cX8_writesText wsX8_writesText 4 false none [] (24) (540) (jF D dA (jn M) (mWo M m (tTx w)) 0) (jn M) (0) (0) (Mz) 80 [.ref (m), .int (nI (k)), .int (nI (33 * k)), .int (nI (j))] [] := by
        intro fuel
        induction fuel with
        | zero => intro j Mz hj hPz hFz hEz hcz hm; exact absurd hm (Nat.not_lt_zero _)
        | succ fuel ih80 =>
          intro j Mz hj hPz hFz hEz hcz hm80
          have hsl := spPs_len w j
          obtain ⟨Zm1, Zm2, ⟨Zr1, Zr2, Zr3, Zr4, Zr5, Zr6, Zr7, Zr8, Zr9, Zr10, Zr11, Zr12, Zr13⟩, ⟨Zk1, Zk2, Zk3, Zk4, Zk5, Zk6, Zk7, Zk8, Zk9, Zk10, Zk11, Zk12, Zk13⟩, Zz1, Zz2, Zz3, Zz4, Zz5, Zz6, Zz7, Zz8, Zz9, Zz10, Zz11, Zz12, Zz13⟩ := id (hFz.ok hM)
          refine J_iload_n dX8_writesText_80 rfl rfl ?_
          refine J_aload_n (m) dX8_writesText_81 rfl rfl ?_
          refine J_getrs (q := m + 1) Zr1 dX8_writesText_82 (fun _ h => List.mem_cons_of_mem _ (List.mem_append_left _ (List.mem_append_left _ (List.mem_append_right _ (h))))) cs11 (by decide) rfl (List.mem_of_getElem? (i := 2) rfl) rfl (show m < jn Mz from by omega) Zm2 ?_
          refine J_iload_n dX8_writesText_85 rfl rfl ?_
          refine J_ialdN (k := 33 * k) dX8_writesText_86 (show m + 1 < jn Mz from by omega) Zk1 (by exact Nat.lt_of_lt_of_eq (show _ < 427 by omega) (Eq.symm Zz1)) (by exact Nat.lt_of_le_of_lt (Nat.le_of_eq Zz1) (show 427 < 2 ^ 31 by omega)) ?_
          refine J_topi (y := nI (w.1)) (by rw [hEz.1 1 (by omega) (by omega)]; exact hx.hd) ?_
          refine J_icmp_ge dX8_writesText_87 (tgt := 134) (by decide) (fun c87 => ?_) (fun c87 => ?_)
          · have c87 := jleT (a := w.1) (b := j) (by omega) (by omega) c87
            exact J_vret dX8_writesText_134 rfl (by have e9 : tTx w = (spPs w j).flatten := (by unfold tTx; rw [tPs_s c16 hnw, show j = w.1 from by omega]); rw [e9]; exact ⟨rfl, hPz, hFz, hEz, hcz⟩)
          · have c87 := jleF (a := w.1) (b := j) (by omega) (by omega) c87
            refine J_iload_n dX8_writesText_90 rfl rfl ?_
            refine J_if_le dX8_writesText_91 (tgt := 100) (by decide) (fun c91 => ?_) (fun c91 => ?_)
            · have c91 := jleT (a := j) (b := 0) (by omega) (by omega) c91
              refine J_aload_n (m) dX8_writesText_100 rfl rfl ?_
              refine J_aload_n (m) dX8_writesText_101 rfl rfl ?_
              refine J_getrs (q := m + 1) Zr1 dX8_writesText_102 (fun _ h => List.mem_cons_of_mem _ (List.mem_append_left _ (List.mem_append_left _ (List.mem_append_right _ (h))))) cs11 (by decide) rfl (List.mem_of_getElem? (i := 2) rfl) rfl (show m < jn Mz from by omega) Zm2 ?_
              refine J_iload_n dX8_writesText_105 rfl rfl ?_
              refine J_iconst (x := 1) dX8_writesText_106 (by decide) ?_
              refine J_iadd dX8_writesText_107 ?_
              refine J_topi (y := nI (33 * k + 1)) (nI_add (33 * k) (1)) ?_
              refine J_iconst (x := 2) dX8_writesText_108 (by decide) ?_
              refine J_iload_n dX8_writesText_109 rfl rfl ?_
              refine J_imul dX8_writesText_110 ?_
              refine J_topi (y := nI (2 * j)) (pk_mul (2) (j)) ?_
              refine J_iadd dX8_writesText_111 ?_
              refine J_topi (y := nI (33 * k + 1 + 2 * j)) (nI_add (33 * k + 1) (2 * j)) ?_
              refine J_ialdN (k := 33 * k + 1 + 2 * j) dX8_writesText_112 (show m + 1 < jn Mz from by omega) Zk1 (by exact Nat.lt_of_lt_of_eq (show _ < 427 by omega) (Eq.symm Zz1)) (by exact Nat.lt_of_le_of_lt (Nat.le_of_eq Zz1) (show 427 < 2 ^ 31 by omega)) ?_
              refine J_topi (y := nI ((w.2 (2 * j)).toNatClampNeg)) (by rw [hEz.1 1 (by omega) (by omega)]; exact ((congrArg _ (by omega)).trans (hx.lo (k := j) (by omega))).trans (hw.1 (2 * j) (by omega)).1) ?_
              refine J_aload_n (m) dX8_writesText_113 rfl rfl ?_
              refine J_getrs (q := m + 1) Zr1 dX8_writesText_114 (fun _ h => List.mem_cons_of_mem _ (List.mem_append_left _ (List.mem_append_left _ (List.mem_append_right _ (h))))) cs11 (by decide) rfl (List.mem_of_getElem? (i := 2) rfl) rfl (show m < jn Mz from by omega) Zm2 ?_
              refine J_iload_n dX8_writesText_117 rfl rfl ?_
              refine J_iconst (x := 2) dX8_writesText_118 (by decide) ?_
              refine J_iadd dX8_writesText_119 ?_
              refine J_topi (y := nI (33 * k + 2)) (nI_add (33 * k) (2)) ?_
              refine J_iconst (x := 2) dX8_writesText_120 (by decide) ?_
              refine J_iload_n dX8_writesText_121 rfl rfl ?_
              refine J_imul dX8_writesText_122 ?_
              refine J_topi (y := nI (2 * j)) (pk_mul (2) (j)) ?_
              refine J_iadd dX8_writesText_123 ?_
              refine J_topi (y := nI (33 * k + 2 + 2 * j)) (nI_add (33 * k + 2) (2 * j)) ?_
              refine J_ialdN (k := 33 * k + 2 + 2 * j) dX8_writesText_124 (show m + 1 < jn Mz from by omega) Zk1 (by exact Nat.lt_of_lt_of_eq (show _ < 427 by omega) (Eq.symm Zz1)) (by exact Nat.lt_of_le_of_lt (Nat.le_of_eq Zz1) (show 427 < 2 ^ 31 by omega)) ?_
              refine J_topi (y := nI ((w.2 (2 * j + 1)).toNatClampNeg)) (by rw [hEz.1 1 (by omega) (by omega)]; exact ((congrArg _ (by omega)).trans (hx.hi (k := j) (by omega))).trans (hw.1 (2 * j + 1) (by omega)).1) ?_
              refine J_callv (jrunV (As := [.int (nI ((w.2 (2 * j)).toNatClampNeg)), .int (nI ((w.2 (2 * j + 1)).toNatClampNeg))]) (ct_X8_writesSpan l D dA hst Mz m ((hFz).ok hM) ((spPs w j).flatten) hPz (by (try simp only [List.length_append, List.length_cons, List.length_nil]); omega) ((w.2 (2 * j)).toNatClampNeg) ((w.2 (2 * j + 1)).toNatClampNeg) (hw.1 (2 * j) (by omega)).2 (hw.1 (2 * j + 1) (by omega)).2) dX8_writesText_125 yY_X8_writesSpan gX8_writesText_X8_writesSpan rfl cs11 (show m < jn Mz from by omega) Zm2 rfl ⟨by omega, by omega⟩ ⟨Nat.zero_le _, Nat.zero_le _⟩ rfl (Nat.le_of_ble_eq_true rfl)) ⟨Nat.zero_le _, Nat.zero_le _⟩ (Or.inr ⟨(jOk.ref (show m < jn Mz from by omega) (jOk.int (jOk.int (jOk.int jOk.nil)))), jOk.nil⟩) (fun E M9 hp _ => by cases hp.1) (fun K125 hp125 hle125 => ?_)
              obtain ⟨_, hpK125, gK125, eK125, qK125⟩ := hp125
              have hFK125 := (hFz).tr gK125
              have hEK125 := (hEz).tr eK125
              have hcK125 := qK125.trans (hcz)
              obtain ⟨K125m1, K125m2, ⟨K125r1, K125r2, K125r3, K125r4, K125r5, K125r6, K125r7, K125r8, K125r9, K125r10, K125r11, K125r12, K125r13⟩, ⟨K125k1, K125k2, K125k3, K125k4, K125k5, K125k6, K125k7, K125k8, K125k9, K125k10, K125k11, K125k12, K125k13⟩, K125z1, K125z2, K125z3, K125z4, K125z5, K125z6, K125z7, K125z8, K125z9, K125z10, K125z11, K125z12, K125z13⟩ := id (hFK125.ok hM)
              have e9 : (spPs w (j + 1)).flatten = (spPs w j).flatten ++ (sPs ((w.2 (2 * j)).toNatClampNeg) ((w.2 (2 * j + 1)).toNatClampNeg)).flatten := by show (spPs w j ++ ((if 0 < j then [[124]] else []) ++ sPs (w.2 (2 * j)).toNatClampNeg (w.2 (2 * j + 1)).toNatClampNeg)).flatten = _; rw [if_neg (by omega)]; simp
              refine J_iinc (y := nI (j + 1)) (lv' := [.ref (m), .int (nI (k)), .int (nI (33 * k)), .int (nI (j + 1))]) dX8_writesText_128 rfl (jinc (j)) (by decide) rfl rfl ?_
              refine J_goto (tgt := 80) dX8_writesText_131 (by decide) ?_
              exact ih80 (j + 1) (K125) (by omega) (by rw [e9]; exact hpK125) (by exact hFK125) (by exact hEK125) (by exact hcK125) (by omega)
            · have c91 := jleF (a := j) (b := 0) (by omega) (by omega) c91
              refine J_aload_n (m) dX8_writesText_94 rfl rfl ?_
              refine J_bipush (x := 124) dX8_writesText_95 (by decide) ?_
              refine J_callv (jrunV (As := [.int (124)]) (ct_X8_writes l D dA hst Mz m ((hFz).ok hM) ((spPs w j).flatten) hPz (by (try simp only [List.length_append, List.length_cons, List.length_nil]); omega) 124) dX8_writesText_97 yY_X8_writes gX8_writesText_X8_writes rfl cs11 (show m < jn Mz from by omega) Zm2 rfl ⟨by omega, by omega⟩ ⟨Nat.zero_le _, Nat.zero_le _⟩ rfl (Nat.le_of_ble_eq_true rfl)) ⟨Nat.zero_le _, Nat.zero_le _⟩ (Or.inr ⟨(jOk.ref (show m < jn Mz from by omega) (jOk.int (jOk.int (jOk.int jOk.nil)))), jOk.nil⟩) (fun E M9 hp _ => by cases hp.1) (fun K97 hp97 hle97 => ?_)
              obtain ⟨_, hpK97, gK97, eK97, qK97⟩ := hp97
              have hFK97 := (hFz).tr gK97
              have hEK97 := (hEz).tr eK97
              have hcK97 := qK97.trans (hcz)
              obtain ⟨K97m1, K97m2, ⟨K97r1, K97r2, K97r3, K97r4, K97r5, K97r6, K97r7, K97r8, K97r9, K97r10, K97r11, K97r12, K97r13⟩, ⟨K97k1, K97k2, K97k3, K97k4, K97k5, K97k6, K97k7, K97k8, K97k9, K97k10, K97k11, K97k12, K97k13⟩, K97z1, K97z2, K97z3, K97z4, K97z5, K97z6, K97z7, K97z8, K97z9, K97z10, K97z11, K97z12, K97z13⟩ := id (hFK97.ok hM)
              refine J_aload_n (m) dX8_writesText_100 rfl rfl ?_
              refine J_aload_n (m) dX8_writesText_101 rfl rfl ?_
              refine J_getrs (q := m + 1) K97r1 dX8_writesText_102 (fun _ h => List.mem_cons_of_mem _ (List.mem_append_left _ (List.mem_append_left _ (List.mem_append_right _ (h))))) cs11 (by decide) rfl (List.mem_of_getElem? (i := 2) rfl) rfl (show m < jn K97 from by omega) K97m2 ?_
              refine J_iload_n dX8_writesText_105 rfl rfl ?_
              refine J_iconst (x := 1) dX8_writesText_106 (by decide) ?_
              refine J_iadd dX8_writesText_107 ?_
              refine J_topi (y := nI (33 * k + 1)) (nI_add (33 * k) (1)) ?_
              refine J_iconst (x := 2) dX8_writesText_108 (by decide) ?_
              refine J_iload_n dX8_writesText_109 rfl rfl ?_
              refine J_imul dX8_writesText_110 ?_
              refine J_topi (y := nI (2 * j)) (pk_mul (2) (j)) ?_
              refine J_iadd dX8_writesText_111 ?_
              refine J_topi (y := nI (33 * k + 1 + 2 * j)) (nI_add (33 * k + 1) (2 * j)) ?_
              refine J_ialdN (k := 33 * k + 1 + 2 * j) dX8_writesText_112 (show m + 1 < jn K97 from by omega) K97k1 (by exact Nat.lt_of_lt_of_eq (show _ < 427 by omega) (Eq.symm K97z1)) (by exact Nat.lt_of_le_of_lt (Nat.le_of_eq K97z1) (show 427 < 2 ^ 31 by omega)) ?_
              refine J_topi (y := nI ((w.2 (2 * j)).toNatClampNeg)) (by rw [hEK97.1 1 (by omega) (by omega)]; exact ((congrArg _ (by omega)).trans (hx.lo (k := j) (by omega))).trans (hw.1 (2 * j) (by omega)).1) ?_
              refine J_aload_n (m) dX8_writesText_113 rfl rfl ?_
              refine J_getrs (q := m + 1) K97r1 dX8_writesText_114 (fun _ h => List.mem_cons_of_mem _ (List.mem_append_left _ (List.mem_append_left _ (List.mem_append_right _ (h))))) cs11 (by decide) rfl (List.mem_of_getElem? (i := 2) rfl) rfl (show m < jn K97 from by omega) K97m2 ?_
              refine J_iload_n dX8_writesText_117 rfl rfl ?_
              refine J_iconst (x := 2) dX8_writesText_118 (by decide) ?_
              refine J_iadd dX8_writesText_119 ?_
              refine J_topi (y := nI (33 * k + 2)) (nI_add (33 * k) (2)) ?_
              refine J_iconst (x := 2) dX8_writesText_120 (by decide) ?_
              refine J_iload_n dX8_writesText_121 rfl rfl ?_
              refine J_imul dX8_writesText_122 ?_
              refine J_topi (y := nI (2 * j)) (pk_mul (2) (j)) ?_
              refine J_iadd dX8_writesText_123 ?_
              refine J_topi (y := nI (33 * k + 2 + 2 * j)) (nI_add (33 * k + 2) (2 * j)) ?_
              refine J_ialdN (k := 33 * k + 2 + 2 * j) dX8_writesText_124 (show m + 1 < jn K97 from by omega) K97k1 (by exact Nat.lt_of_lt_of_eq (show _ < 427 by omega) (Eq.symm K97z1)) (by exact Nat.lt_of_le_of_lt (Nat.le_of_eq K97z1) (show 427 < 2 ^ 31 by omega)) ?_
              refine J_topi (y := nI ((w.2 (2 * j + 1)).toNatClampNeg)) (by rw [hEK97.1 1 (by omega) (by omega)]; exact ((congrArg _ (by omega)).trans (hx.hi (k := j) (by omega))).trans (hw.1 (2 * j + 1) (by omega)).1) ?_
              refine J_callv (jrunV (As := [.int (nI ((w.2 (2 * j)).toNatClampNeg)), .int (nI ((w.2 (2 * j + 1)).toNatClampNeg))]) (ct_X8_writesSpan l D dA hst K97 m ((hFK97).ok hM) ((spPs w j).flatten ++ [124]) hpK97 (by (try simp only [List.length_append, List.length_cons, List.length_nil]); omega) ((w.2 (2 * j)).toNatClampNeg) ((w.2 (2 * j + 1)).toNatClampNeg) (hw.1 (2 * j) (by omega)).2 (hw.1 (2 * j + 1) (by omega)).2) dX8_writesText_125 yY_X8_writesSpan gX8_writesText_X8_writesSpan rfl cs11 (show m < jn K97 from by omega) K97m2 rfl ⟨by omega, by omega⟩ ⟨Nat.zero_le _, Nat.zero_le _⟩ rfl (Nat.le_of_ble_eq_true rfl)) ⟨Nat.zero_le _, Nat.zero_le _⟩ (Or.inr ⟨(jOk.ref (show m < jn K97 from by omega) (jOk.int (jOk.int (jOk.int jOk.nil)))), jOk.nil⟩) (fun E M9 hp _ => by cases hp.1) (fun K125 hp125 hle125 => ?_)
              obtain ⟨_, hpK125, gK125, eK125, qK125⟩ := hp125
              have hFK125 := (hFK97).tr gK125
              have hEK125 := (hEK97).tr eK125
              have hcK125 := qK125.trans (hcK97)
              obtain ⟨K125m1, K125m2, ⟨K125r1, K125r2, K125r3, K125r4, K125r5, K125r6, K125r7, K125r8, K125r9, K125r10, K125r11, K125r12, K125r13⟩, ⟨K125k1, K125k2, K125k3, K125k4, K125k5, K125k6, K125k7, K125k8, K125k9, K125k10, K125k11, K125k12, K125k13⟩, K125z1, K125z2, K125z3, K125z4, K125z5, K125z6, K125z7, K125z8, K125z9, K125z10, K125z11, K125z12, K125z13⟩ := id (hFK125.ok hM)
              have e9 : (spPs w (j + 1)).flatten = (spPs w j).flatten ++ [124] ++ (sPs ((w.2 (2 * j)).toNatClampNeg) ((w.2 (2 * j + 1)).toNatClampNeg)).flatten := by show (spPs w j ++ ((if 0 < j then [[124]] else []) ++ sPs (w.2 (2 * j)).toNatClampNeg (w.2 (2 * j + 1)).toNatClampNeg)).flatten = _; rw [if_pos (by omega)]; simp
              refine J_iinc (y := nI (j + 1)) (lv' := [.ref (m), .int (nI (k)), .int (nI (33 * k)), .int (nI (j + 1))]) dX8_writesText_128 rfl (jinc (j)) (by decide) rfl rfl ?_
              refine J_goto (tgt := 80) dX8_writesText_131 (by decide) ?_
              exact ih80 (j + 1) (K125) (by omega) (by rw [e9]; exact hpK125) (by exact hFK125) (by exact hEK125) (by exact hcK125) (by omega)
      refine J_istore_n (lv' := [.ref (m), .int (nI (k)), .int (nI (33 * k)), .int (0)]) dX8_writesText_79 rfl (by decide) rfl rfl ?_
      exact L80 _ (0) ((jSi M m 30 (0))) (by omega) (by exact hp0) (by exact (mFr.rf.si ⟨by omega, by omega⟩)) (by exact (mE.rf.si rfl)) (by exact (ji_Sik (by decide))) (Nat.lt_succ_self _)
    refine J_aload_n (m) dX8_writesText_45 rfl rfl ?_
    refine J_getrs (q := m + 1) r1 dX8_writesText_46 (fun _ h => List.mem_cons_of_mem _ (List.mem_append_left _ (List.mem_append_left _ (List.mem_append_right _ (h))))) cs11 (by decide) rfl (List.mem_of_getElem? (i := 2) rfl) rfl (show m < jn M from by omega) m2 ?_
    refine J_iload_n dX8_writesText_49 rfl rfl ?_
    refine J_iconst (x := 1) dX8_writesText_50 (by decide) ?_
    refine J_iadd dX8_writesText_51 ?_
    refine J_topi (y := nI (33 * k + 1)) (nI_add (33 * k) (1)) ?_
    refine J_ialdN (k := 33 * k + 1) dX8_writesText_52 (show m + 1 < jn M from by omega) k1 (by exact Nat.lt_of_lt_of_eq (show _ < 427 by omega) (Eq.symm z1)) (by exact Nat.lt_of_le_of_lt (Nat.le_of_eq z1) (show 427 < 2 ^ 31 by omega)) ?_
    refine J_topi (y := nI ((w.2 0).toNatClampNeg)) (by rw [ji_Sin (by omega)]; exact (hx.lo (k := 0) (by omega)).trans ha0.1) ?_
    refine J_if_ne dX8_writesText_53 (tgt := 78) (by decide) (fun c53 => ?_) (fun c53 => ?_)
    · have c53 := jeqF (a := (w.2 0).toNatClampNeg) (b := 0) (by omega) (by omega) c53
      exact L78  (by exact whole_f (by first | exact Or.inl c53 | exact Or.inr c66))
    · have c53 := jeqT (a := (w.2 0).toNatClampNeg) (b := 0) (by omega) (by omega) c53
      refine J_aload_n (m) dX8_writesText_56 rfl rfl ?_
      refine J_getrs (q := m + 1) r1 dX8_writesText_57 (fun _ h => List.mem_cons_of_mem _ (List.mem_append_left _ (List.mem_append_left _ (List.mem_append_right _ (h))))) cs11 (by decide) rfl (List.mem_of_getElem? (i := 2) rfl) rfl (show m < jn M from by omega) m2 ?_
      refine J_iload_n dX8_writesText_60 rfl rfl ?_
      refine J_iconst (x := 2) dX8_writesText_61 (by decide) ?_
      refine J_iadd dX8_writesText_62 ?_
      refine J_topi (y := nI (33 * k + 2)) (nI_add (33 * k) (2)) ?_
      refine J_ialdN (k := 33 * k + 2) dX8_writesText_63 (show m + 1 < jn M from by omega) k1 (by exact Nat.lt_of_lt_of_eq (show _ < 427 by omega) (Eq.symm z1)) (by exact Nat.lt_of_le_of_lt (Nat.le_of_eq z1) (show 427 < 2 ^ 31 by omega)) ?_
      refine J_topi (y := nI ((w.2 1).toNatClampNeg)) (by rw [ji_Sin (by omega)]; exact (hx.hi (k := 0) (by omega)).trans ha1.1) ?_
      refine J_ldc (x := 99999999) dX8_writesText_64 (List.mem_of_getElem? (i := 3) rfl) ?_
      refine J_icmp_ne dX8_writesText_66 (tgt := 78) (by decide) (fun c66 => ?_) (fun c66 => ?_)
      · have c66 := jeqF (a := (w.2 1).toNatClampNeg) (b := 99999999) (by omega) (by omega) c66
        exact L78  (by exact whole_f (by first | exact Or.inl c53 | exact Or.inr c66))
      · have c66 := jeqT (a := (w.2 1).toNatClampNeg) (b := 99999999) (by omega) (by omega) c66
        refine J_aload_n (m) dX8_writesText_69 rfl rfl ?_
        refine J_bipush (x := 42) dX8_writesText_70 (by decide) ?_
        refine J_callv (jrunV (As := [.int (42)]) (ct_X8_writes l D dA hst (jSi M m 30 ((0))) m (((mFr.rf.si ⟨by omega, by omega⟩)).ok hM) (([] : List Nat)) hp0 (by (try simp only [List.length_append, List.length_cons, List.length_nil]); omega) 42) dX8_writesText_72 yY_X8_writes gX8_writesText_X8_writes rfl cs11 (show m < jn M from by omega) m2 rfl ⟨by omega, by omega⟩ ⟨Nat.zero_le _, Nat.zero_le _⟩ rfl (Nat.le_of_ble_eq_true rfl)) ⟨Nat.zero_le _, Nat.zero_le _⟩ (Or.inr ⟨(jOk.ref (show m < jn M from by omega) (jOk.int (jOk.int (jOk.float jOk.nil)))), jOk.nil⟩) (fun E M9 hp _ => by cases hp.1) (fun K72 hp72 hle72 => ?_)
        obtain ⟨_, hpK72, gK72, eK72, qK72⟩ := hp72
        have hFK72 := ((mFr.rf.si ⟨by omega, by omega⟩)).tr gK72
        have hEK72 := ((mE.rf.si rfl)).tr eK72
        have hcK72 := qK72.trans ((ji_Sik (by decide)))
        obtain ⟨K72m1, K72m2, ⟨K72r1, K72r2, K72r3, K72r4, K72r5, K72r6, K72r7, K72r8, K72r9, K72r10, K72r11, K72r12, K72r13⟩, ⟨K72k1, K72k2, K72k3, K72k4, K72k5, K72k6, K72k7, K72k8, K72k9, K72k10, K72k11, K72k12, K72k13⟩, K72z1, K72z2, K72z3, K72z4, K72z5, K72z6, K72z7, K72z8, K72z9, K72z10, K72z11, K72z12, K72z13⟩ := id (hFK72.ok hM)
        refine J_goto (tgt := 134) dX8_writesText_75 (by decide) ?_
        exact J_vret dX8_writesText_134 rfl (by have e9 : tTx w = ([] : List Nat) ++ [42] := (by unfold tTx; rw [tPs_w c16 (whole_t hw c16 c53 c66)]; rfl); rw [e9]; exact ⟨rfl, hpK72, hFK72, hEK72, hcK72⟩)
  · have c16 := jeqT (a := w.1) (b := 0) (by omega) (by omega) c16
    refine J_iconst (x := 0) dX8_writesText_19 (by decide) ?_
    refine J_istore_n (lv' := [.ref (m), .int (nI (k)), .int (nI (33 * k)), .int (0)]) dX8_writesText_20 rfl (by decide) rfl rfl ?_
    refine J_iload_n dX8_writesText_21 rfl rfl ?_
    refine J_iconst (x := 4) dX8_writesText_22 (by decide) ?_
    refine J_icmp_ge dX8_writesText_23 (tgt := 42) (by decide) (fun c23 => ?_) (fun c23 => ?_)
    · exact absurd c23 (by decide)
    · have c23 := jleF (a := 4) (b := 0) (by omega) (by omega) c23
      refine J_aload_n (m) dX8_writesText_26 rfl rfl ?_
      refine J_ldcS (i := 0) (text := "none") dX8_writesText_27 (fun A U h => h.2.2.1) ?_
      refine J_iload_n dX8_writesText_29 rfl rfl ?_
      refine J_calli0 (jrunVS (i := 0) (As := [.int (0)]) (ct_J0_charAt_5068e l D dA hst (jSi M m 30 ((0))) 0 (by decide) 0 (by decide)) dX8_writesText_30 yY_J0_charAt_5068e gX8_writesText_J0_charAt_5068e rfl (by decide) rfl ⟨by omega, by omega⟩ ⟨Nat.zero_le _, Nat.zero_le _⟩ rfl (Nat.le_of_ble_eq_true rfl)) (rfl) (rfl) ?_
      refine J_topi (y := nI 110) rfl ?_
      refine J_callv (jrunV (As := [.int (nI (110))]) (ct_X8_writes l D dA hst (jSi M m 30 ((0))) m (((mFr.rf.si ⟨by omega, by omega⟩)).ok hM) (([] : List Nat)) hp0 (by (try simp only [List.length_append, List.length_cons, List.length_nil]); omega) 110) dX8_writesText_33 yY_X8_writes gX8_writesText_X8_writes rfl cs11 (show m < jn M from by omega) m2 rfl ⟨by omega, by omega⟩ ⟨Nat.zero_le _, Nat.zero_le _⟩ rfl (Nat.le_of_ble_eq_true rfl)) ⟨Nat.zero_le _, Nat.zero_le _⟩ (Or.inr ⟨(jOk.ref (show m < jn M from by omega) (jOk.int (jOk.int (jOk.int jOk.nil)))), jOk.nil⟩) (fun E M9 hp _ => by cases hp.1) (fun K33 hp33 hle33 => ?_)
      obtain ⟨_, hpK33, gK33, eK33, qK33⟩ := hp33
      have hFK33 := ((mFr.rf.si ⟨by omega, by omega⟩)).tr gK33
      have hEK33 := ((mE.rf.si rfl)).tr eK33
      have hcK33 := qK33.trans ((ji_Sik (by decide)))
      obtain ⟨K33m1, K33m2, ⟨K33r1, K33r2, K33r3, K33r4, K33r5, K33r6, K33r7, K33r8, K33r9, K33r10, K33r11, K33r12, K33r13⟩, ⟨K33k1, K33k2, K33k3, K33k4, K33k5, K33k6, K33k7, K33k8, K33k9, K33k10, K33k11, K33k12, K33k13⟩, K33z1, K33z2, K33z3, K33z4, K33z5, K33z6, K33z7, K33z8, K33z9, K33z10, K33z11, K33z12, K33z13⟩ := id (hFK33.ok hM)
      refine J_iinc (y := nI (1)) (lv' := [.ref (m), .int (nI (k)), .int (nI (33 * k)), .int (nI (1))]) dX8_writesText_36 rfl (jinc (0)) (by decide) rfl rfl ?_
      refine J_goto (tgt := 21) dX8_writesText_39 (by decide) ?_
      refine J_iload_n dX8_writesText_21 rfl rfl ?_
      refine J_iconst (x := 4) dX8_writesText_22 (by decide) ?_
      refine J_icmp_ge dX8_writesText_23 (tgt := 42) (by decide) (fun c23 => ?_) (fun c23 => ?_)
      · exact absurd c23 (by decide)
      · have c23 := jleF (a := 4) (b := 1) (by omega) (by omega) c23
        refine J_aload_n (m) dX8_writesText_26 rfl rfl ?_
        refine J_ldcS (i := 0) (text := "none") dX8_writesText_27 (fun A U h => h.2.2.1) ?_
        refine J_iload_n dX8_writesText_29 rfl rfl ?_
        refine J_calli0 (jrunVS (i := 0) (As := [.int (nI (1))]) (ct_J0_charAt_5068e l D dA hst K33 0 (by decide) 1 (by decide)) dX8_writesText_30 yY_J0_charAt_5068e gX8_writesText_J0_charAt_5068e rfl (by decide) rfl ⟨by omega, by omega⟩ ⟨Nat.zero_le _, Nat.zero_le _⟩ rfl (Nat.le_of_ble_eq_true rfl)) (rfl) (rfl) ?_
        refine J_topi (y := nI 111) rfl ?_
        refine J_callv (jrunV (As := [.int (nI (111))]) (ct_X8_writes l D dA hst K33 m ((hFK33).ok hM) (([] : List Nat) ++ [110]) hpK33 (by (try simp only [List.length_append, List.length_cons, List.length_nil]); omega) 111) dX8_writesText_33 yY_X8_writes gX8_writesText_X8_writes rfl cs11 (show m < jn K33 from by omega) K33m2 rfl ⟨by omega, by omega⟩ ⟨Nat.zero_le _, Nat.zero_le _⟩ rfl (Nat.le_of_ble_eq_true rfl)) ⟨Nat.zero_le _, Nat.zero_le _⟩ (Or.inr ⟨(jOk.ref (show m < jn K33 from by omega) (jOk.int (jOk.int (jOk.int jOk.nil)))), jOk.nil⟩) (fun E M9 hp _ => by cases hp.1) (fun K33 hp33 hle33 => ?_)
        obtain ⟨_, hpK33, gK33, eK33, qK33⟩ := hp33
        have hFK33 := (hFK33).tr gK33
        have hEK33 := (hEK33).tr eK33
        have hcK33 := qK33.trans (hcK33)
        obtain ⟨K33m1, K33m2, ⟨K33r1, K33r2, K33r3, K33r4, K33r5, K33r6, K33r7, K33r8, K33r9, K33r10, K33r11, K33r12, K33r13⟩, ⟨K33k1, K33k2, K33k3, K33k4, K33k5, K33k6, K33k7, K33k8, K33k9, K33k10, K33k11, K33k12, K33k13⟩, K33z1, K33z2, K33z3, K33z4, K33z5, K33z6, K33z7, K33z8, K33z9, K33z10, K33z11, K33z12, K33z13⟩ := id (hFK33.ok hM)
        refine J_iinc (y := nI (2)) (lv' := [.ref (m), .int (nI (k)), .int (nI (33 * k)), .int (nI (2))]) dX8_writesText_36 rfl (jinc (1)) (by decide) rfl rfl ?_
        refine J_goto (tgt := 21) dX8_writesText_39 (by decide) ?_
        refine J_iload_n dX8_writesText_21 rfl rfl ?_
        refine J_iconst (x := 4) dX8_writesText_22 (by decide) ?_
        refine J_icmp_ge dX8_writesText_23 (tgt := 42) (by decide) (fun c23 => ?_) (fun c23 => ?_)
        · exact absurd c23 (by decide)
        · have c23 := jleF (a := 4) (b := 2) (by omega) (by omega) c23
          refine J_aload_n (m) dX8_writesText_26 rfl rfl ?_
          refine J_ldcS (i := 0) (text := "none") dX8_writesText_27 (fun A U h => h.2.2.1) ?_
          refine J_iload_n dX8_writesText_29 rfl rfl ?_
          refine J_calli0 (jrunVS (i := 0) (As := [.int (nI (2))]) (ct_J0_charAt_5068e l D dA hst K33 0 (by decide) 2 (by decide)) dX8_writesText_30 yY_J0_charAt_5068e gX8_writesText_J0_charAt_5068e rfl (by decide) rfl ⟨by omega, by omega⟩ ⟨Nat.zero_le _, Nat.zero_le _⟩ rfl (Nat.le_of_ble_eq_true rfl)) (rfl) (rfl) ?_
          refine J_topi (y := nI 110) rfl ?_
          refine J_callv (jrunV (As := [.int (nI (110))]) (ct_X8_writes l D dA hst K33 m ((hFK33).ok hM) (([] : List Nat) ++ [110] ++ [111]) hpK33 (by (try simp only [List.length_append, List.length_cons, List.length_nil]); omega) 110) dX8_writesText_33 yY_X8_writes gX8_writesText_X8_writes rfl cs11 (show m < jn K33 from by omega) K33m2 rfl ⟨by omega, by omega⟩ ⟨Nat.zero_le _, Nat.zero_le _⟩ rfl (Nat.le_of_ble_eq_true rfl)) ⟨Nat.zero_le _, Nat.zero_le _⟩ (Or.inr ⟨(jOk.ref (show m < jn K33 from by omega) (jOk.int (jOk.int (jOk.int jOk.nil)))), jOk.nil⟩) (fun E M9 hp _ => by cases hp.1) (fun K33 hp33 hle33 => ?_)
          obtain ⟨_, hpK33, gK33, eK33, qK33⟩ := hp33
          have hFK33 := (hFK33).tr gK33
          have hEK33 := (hEK33).tr eK33
          have hcK33 := qK33.trans (hcK33)
          obtain ⟨K33m1, K33m2, ⟨K33r1, K33r2, K33r3, K33r4, K33r5, K33r6, K33r7, K33r8, K33r9, K33r10, K33r11, K33r12, K33r13⟩, ⟨K33k1, K33k2, K33k3, K33k4, K33k5, K33k6, K33k7, K33k8, K33k9, K33k10, K33k11, K33k12, K33k13⟩, K33z1, K33z2, K33z3, K33z4, K33z5, K33z6, K33z7, K33z8, K33z9, K33z10, K33z11, K33z12, K33z13⟩ := id (hFK33.ok hM)
          refine J_iinc (y := nI (3)) (lv' := [.ref (m), .int (nI (k)), .int (nI (33 * k)), .int (nI (3))]) dX8_writesText_36 rfl (jinc (2)) (by decide) rfl rfl ?_
          refine J_goto (tgt := 21) dX8_writesText_39 (by decide) ?_
          refine J_iload_n dX8_writesText_21 rfl rfl ?_
          refine J_iconst (x := 4) dX8_writesText_22 (by decide) ?_
          refine J_icmp_ge dX8_writesText_23 (tgt := 42) (by decide) (fun c23 => ?_) (fun c23 => ?_)
          · exact absurd c23 (by decide)
          · have c23 := jleF (a := 4) (b := 3) (by omega) (by omega) c23
            refine J_aload_n (m) dX8_writesText_26 rfl rfl ?_
            refine J_ldcS (i := 0) (text := "none") dX8_writesText_27 (fun A U h => h.2.2.1) ?_
            refine J_iload_n dX8_writesText_29 rfl rfl ?_
            refine J_calli0 (jrunVS (i := 0) (As := [.int (nI (3))]) (ct_J0_charAt_5068e l D dA hst K33 0 (by decide) 3 (by decide)) dX8_writesText_30 yY_J0_charAt_5068e gX8_writesText_J0_charAt_5068e rfl (by decide) rfl ⟨by omega, by omega⟩ ⟨Nat.zero_le _, Nat.zero_le _⟩ rfl (Nat.le_of_ble_eq_true rfl)) (rfl) (rfl) ?_
            refine J_topi (y := nI 101) rfl ?_
            refine J_callv (jrunV (As := [.int (nI (101))]) (ct_X8_writes l D dA hst K33 m ((hFK33).ok hM) (([] : List Nat) ++ [110] ++ [111] ++ [110]) hpK33 (by (try simp only [List.length_append, List.length_cons, List.length_nil]); omega) 101) dX8_writesText_33 yY_X8_writes gX8_writesText_X8_writes rfl cs11 (show m < jn K33 from by omega) K33m2 rfl ⟨by omega, by omega⟩ ⟨Nat.zero_le _, Nat.zero_le _⟩ rfl (Nat.le_of_ble_eq_true rfl)) ⟨Nat.zero_le _, Nat.zero_le _⟩ (Or.inr ⟨(jOk.ref (show m < jn K33 from by omega) (jOk.int (jOk.int (jOk.int jOk.nil)))), jOk.nil⟩) (fun E M9 hp _ => by cases hp.1) (fun K33 hp33 hle33 => ?_)
            obtain ⟨_, hpK33, gK33, eK33, qK33⟩ := hp33
            have hFK33 := (hFK33).tr gK33
            have hEK33 := (hEK33).tr eK33
            have hcK33 := qK33.trans (hcK33)
            obtain ⟨K33m1, K33m2, ⟨K33r1, K33r2, K33r3, K33r4, K33r5, K33r6, K33r7, K33r8, K33r9, K33r10, K33r11, K33r12, K33r13⟩, ⟨K33k1, K33k2, K33k3, K33k4, K33k5, K33k6, K33k7, K33k8, K33k9, K33k10, K33k11, K33k12, K33k13⟩, K33z1, K33z2, K33z3, K33z4, K33z5, K33z6, K33z7, K33z8, K33z9, K33z10, K33z11, K33z12, K33z13⟩ := id (hFK33.ok hM)
            refine J_iinc (y := nI (4)) (lv' := [.ref (m), .int (nI (k)), .int (nI (33 * k)), .int (nI (4))]) dX8_writesText_36 rfl (jinc (3)) (by decide) rfl rfl ?_
            refine J_goto (tgt := 21) dX8_writesText_39 (by decide) ?_
            refine J_iload_n dX8_writesText_21 rfl rfl ?_
            refine J_iconst (x := 4) dX8_writesText_22 (by decide) ?_
            refine J_icmp_ge dX8_writesText_23 (tgt := 42) (by decide) (fun c23 => ?_) (fun c23 => ?_)
            · have c23 := jleT (a := 4) (b := 4) (by omega) (by omega) c23
              refine J_goto (tgt := 134) dX8_writesText_42 (by decide) ?_
              exact J_vret dX8_writesText_134 rfl (by have e9 : tTx w = ([] : List Nat) ++ [110] ++ [111] ++ [110] ++ [101] := (by unfold tTx; rw [tPs_0 c16]; rfl); rw [e9]; exact ⟨rfl, hpK33, hFK33, hEK33, hcK33⟩)
            · exact absurd c23 (by decide)

theorem dX8_textLength_0 : decode cX8_textLength 0 = .ok (.aload_n 0, 1) := by decide +kernel
theorem dX8_textLength_1 : decode cX8_textLength 1 = .ok (.iload_n 1, 1) := by decide +kernel
theorem dX8_textLength_2 : decode cX8_textLength 2 = .ok (.invokevirtual 208, 3) := by decide +kernel
set_option maxRecDepth 20000 in
theorem ggX8_textLength_X8_fails1 : GoodIn wsX8_textLength wsX8_fails1 := goodIn_ca (goodIn_r _ [6, 7, 8, 5, 9, 10, 11, 12, 13, 14, 15, 16, 17, 18, 19, 87, 88, 89, 90, 91, 92, 93, 94, 95, 96, 97, 98, 99, 100, 101, 102, 103, 104, 105, 106, 107, 108, 109, 110, 111, 112, 113, 114, 115, 116, 117] (by decide +kernel) (by decide +kernel)) (goodIn_sub (fun _ h => List.mem_cons_of_mem _ (List.mem_append_right _ h)) (by decide +kernel))
set_option maxRecDepth 20000 in
theorem gX8_textLength_X8_fails1 : GoodIn wsX8_textLength (wsV RX8 208 RX8 yX8_fails1 wsX8_fails1) := goodIn_app (goodIn_of _ (by decide +kernel)) ggX8_textLength_X8_fails1
theorem dX8_textLength_5 : decode cX8_textLength 5 = .ok (.ifCond .eq 5, 3) := by decide +kernel
theorem dX8_textLength_10 : decode cX8_textLength 10 = .ok (.aload_n 0, 1) := by decide +kernel
theorem dX8_textLength_11 : decode cX8_textLength 11 = .ok (.iload_n 1, 1) := by decide +kernel
theorem dX8_textLength_12 : decode cX8_textLength 12 = .ok (.invokevirtual 252, 3) := by decide +kernel
set_option maxRecDepth 20000 in
theorem ggX8_textLength_X8_writesText : GoodIn wsX8_textLength wsX8_writesText := goodIn_ca (goodIn_r _ [23, 1, 14, 24, 25, 26, 27, 28, 29, 30, 31, 32, 33, 34, 35, 36, 37, 38, 39, 40, 41, 42, 43, 44, 45, 46, 47, 48, 49, 50, 51, 52, 53, 54, 55, 56, 57, 58, 59, 60, 61, 62, 63, 64, 65, 66, 67, 68, 5, 69, 70, 71, 72, 73, 74, 75, 76, 77, 78, 79, 80, 81, 82, 83, 84, 85, 86, 87, 88, 89, 90, 91, 92, 93, 94, 95, 96, 97, 98, 99, 100, 101, 102, 103, 104, 105, 106, 107, 108, 109, 110, 111, 112, 113, 114, 115, 116, 117, 118, 119, 120, 121] (by decide +kernel) (by decide +kernel)) (goodIn_sub (fun _ h => List.mem_cons_of_mem _ (List.mem_append_right _ h)) (by decide +kernel))
set_option maxRecDepth 20000 in
theorem gX8_textLength_X8_writesText : GoodIn wsX8_textLength (wsV RX8 252 RX8 yX8_writesText wsX8_writesText) := goodIn_app (goodIn_of _ (by decide +kernel)) ggX8_textLength_X8_writesText
theorem yY_X8_writesText : jY yX8_writesText wsX8_writesText cX8_writesText 4 none 1 := ⟨⟨_, rfl⟩, by decide +kernel, by decide +kernel, by decide +kernel⟩
theorem dX8_textLength_15 : decode cX8_textLength 15 = .ok (.aload_n 0, 1) := by decide +kernel
theorem dX8_textLength_16 : decode cX8_textLength 16 = .ok (.getfield 229, 3) := by decide +kernel
theorem dX8_textLength_19 : decode cX8_textLength 19 = .ok (.ireturn, 1) := by decide +kernel
theorem dX8_textLength_8 : decode cX8_textLength 8 = .ok (.iconst 0, 1) := by decide +kernel
theorem dX8_textLength_9 : decode cX8_textLength 9 = .ok (.ireturn, 1) := by decide +kernel
set_option maxHeartbeats 400000 in
set_option maxRecDepth 20000 in
theorem ct_X8_textLength (l : Launch) (D : va_G) (dA : Nat → ClassId) (hst : l.stackTraces = false) (M : jM) (m : Nat) (A : cA) (hA : mAb M m A) (hW : zWf (cNw A))(s : Int32) : jCT l D dA yX8_textLength wsX8_textLength (25) (600) (0) (0) 1 [.ref (m), .int (s)] M (mRl M m [xIOOBE, xNSE] (oSl s (oRn A s oTl)) A) := by
  refine jBody (cc := cX8_textLength) (nL := 2) (rt := (some .int)) (ini := false) (by decide) rfl hst (Nat.le_of_ble_eq_true rfl) (by simp [Value.category]) (by intro h9; first | exact absurd h9 (by decide) | rfl) ?_
  show J l D dA RX8 cX8_textLength wsX8_textLength 2 false (some .int) [] (25) (600) (jF D dA (jn M) (mRl M m [xIOOBE, xNSE] (oSl s (oRn A s oTl)) A) 1) (jn M) (0) (0) (M) 0 [.ref (m), .int (s)] []
  obtain ⟨hM, hz, ⟨hKn, hK8, hKs⟩, ⟨hHs, hHz⟩, ⟨hLn, hL6, hLc⟩, hFl, ⟨hRs, hRp⟩, hCh⟩ := id hA
  obtain ⟨m1, m2, ⟨r1, r2, r3, r4, r5, r6, r7, r8, r9, r10, r11, r12, r13⟩, ⟨k1, k2, k3, k4, k5, k6, k7, k8, k9, k10, k11, k12, k13⟩, z1, z2, z3, z4, z5, z6, z7, z8, z9, z10, z11, z12, z13⟩ := id hM
  refine J_aload_n (m) dX8_textLength_0 rfl rfl ?_
  refine J_iload_n dX8_textLength_1 rfl rfl ?_
  refine J_calli0 (jrunV (As := [.int (s)]) (ct_X8_fails1 l D dA hst M m hM (cNw A) hz ((s))) dX8_textLength_2 yY_X8_fails1 gX8_textLength_X8_fails1 rfl cs11 (show m < jn M from by omega) m2 rfl ⟨by omega, by omega⟩ ⟨Nat.zero_le _, Nat.zero_le _⟩ rfl (Nat.le_of_ble_eq_true rfl)) (rfl) (rfl) ?_
  refine J_if_eq dX8_textLength_5 (tgt := 10) (by decide) (fun c5 => ?_) (fun c5 => ?_)
  · have c5 := jb0T c5
    obtain ⟨hf0, hs0, k, w, hk, rfl, hzk, hat⟩ := mF1_ok (of_decide_eq_false c5)
    have hx := hz.at0 hk; rw [hzk] at hx
    have h16 := hx.2.1
    have hw := hW.1 _ _ hzk
    refine J_mem (M' := jSi M m 11 0) (by rw [hf0]) ?_
    refine J_aload_n (m) dX8_textLength_10 rfl rfl ?_
    refine J_iload_n dX8_textLength_11 rfl rfl ?_
    refine J_callv (jrunV (As := [.int (nI (k))]) (ct_X8_writesText l D dA hst ((jSi M m 11 (0))) m hM k hk w hw ((hx).si (by omega))) dX8_textLength_12 yY_X8_writesText gX8_textLength_X8_writesText rfl cs11 (show m < jn M from by omega) m2 rfl ⟨by omega, by omega⟩ ⟨Nat.zero_le _, Nat.zero_le _⟩ rfl (Nat.le_of_ble_eq_true rfl)) ⟨Nat.zero_le _, Nat.zero_le _⟩ (Or.inr ⟨(jOk.ref (show m < jn M from by omega) (jOk.int jOk.nil)), jOk.nil⟩) (fun E M9 hp _ => by cases hp.1) (fun K hp12 hle12 => ?_)
    obtain ⟨_, hpK, gK, eK, qK⟩ := hp12
    have hOK := gK.ok (show mOk (jSi M m 11 0) m from hM)
    obtain ⟨Km1, Km2, ⟨Kr1, Kr2, Kr3, Kr4, Kr5, Kr6, Kr7, Kr8, Kr9, Kr10, Kr11, Kr12, Kr13⟩, ⟨Kk1, Kk2, Kk3, Kk4, Kk5, Kk6, Kk7, Kk8, Kk9, Kk10, Kk11, Kk12, Kk13⟩, Kz1, Kz2, Kz3, Kz4, Kz5, Kz6, Kz7, Kz8, Kz9, Kz10, Kz11, Kz12, Kz13⟩ := id hOK
    have hAK : mAb K m A := (hA.si rfl).q gK eK
    have hFK : mFr m M K := (mFr.rf.si ⟨by omega, by omega⟩).tr gK
    have hcK : ji K m 11 = 0 := qK.trans ji_Sis
    have htl : (tTx w).length ≤ 448 := tPs_len h16
    refine J_aload_n (m) dX8_textLength_15 rfl rfl ?_
    refine J_geti (j := 30) dX8_textLength_16 (fun _ h => List.mem_cons_of_mem _ (List.mem_append_left _ (List.mem_append_left _ (List.mem_append_right _ (h))))) cs11 (by decide) rfl (List.mem_of_getElem? (i := 1) rfl) rfl (show m < jn K from by omega) Km2 ?_
    refine J_topi (y := nI ((tTx w).length)) (hpK.1) ?_
    exact J_iret (ty := .int) dX8_textLength_19 rfl (rfl) (by exact ⟨Or.inl ⟨hcK, by rw [oSl_t hs0, oRn_s hat]; rfl⟩, hAK, hFK, _, rfl⟩)
  · have c5 := jb0F c5
    refine J_iconst (x := 0) dX8_textLength_8 (by decide) ?_
    exact J_iret (ty := .int) dX8_textLength_9 rfl (rfl) (by refine ⟨?_, (hA).si rfl, (mFr.rf).si ⟨by omega, by omega⟩, _, rfl⟩; simp only [ji_Si, and_self, if_true, reduceIte, reduceCtorEq, and_false, if_false, Nat.reduceEqDiff]; first | exact mF1_x (of_decide_eq_true c5) | fail "rl")

theorem dX8_text_0 : decode cX8_text 0 = .ok (.aload_n 0, 1) := by decide +kernel
theorem dX8_text_1 : decode cX8_text 1 = .ok (.iload_n 1, 1) := by decide +kernel
theorem dX8_text_2 : decode cX8_text 2 = .ok (.invokevirtual 208, 3) := by decide +kernel
set_option maxRecDepth 20000 in
theorem ggX8_text_X8_fails1 : GoodIn wsX8_text wsX8_fails1 := goodIn_ca (goodIn_r _ [7, 8, 9, 6, 10, 11, 12, 13, 14, 15, 16, 17, 18, 19, 20, 87, 88, 89, 90, 91, 92, 93, 94, 95, 96, 97, 98, 99, 100, 101, 102, 103, 104, 105, 106, 107, 108, 109, 110, 111, 112, 113, 114, 115, 116, 117] (by decide +kernel) (by decide +kernel)) (goodIn_sub (fun _ h => List.mem_cons_of_mem _ (List.mem_append_right _ h)) (by decide +kernel))
set_option maxRecDepth 20000 in
theorem gX8_text_X8_fails1 : GoodIn wsX8_text (wsV RX8 208 RX8 yX8_fails1 wsX8_fails1) := goodIn_app (goodIn_of _ (by decide +kernel)) ggX8_text_X8_fails1
theorem dX8_text_5 : decode cX8_text 5 = .ok (.ifCond .eq 5, 3) := by decide +kernel
theorem dX8_text_10 : decode cX8_text 10 = .ok (.aload_n 0, 1) := by decide +kernel
theorem dX8_text_11 : decode cX8_text 11 = .ok (.iload_n 1, 1) := by decide +kernel
theorem dX8_text_12 : decode cX8_text 12 = .ok (.invokevirtual 252, 3) := by decide +kernel
set_option maxRecDepth 20000 in
theorem ggX8_text_X8_writesText : GoodIn wsX8_text wsX8_writesText := goodIn_ca (goodIn_r _ [24, 1, 15, 25, 26, 27, 28, 29, 30, 31, 32, 33, 34, 35, 36, 37, 38, 39, 40, 41, 42, 43, 44, 45, 46, 47, 48, 49, 50, 51, 52, 53, 54, 55, 56, 57, 58, 59, 60, 61, 62, 63, 64, 65, 66, 67, 68, 69, 6, 70, 2, 71, 72, 73, 74, 75, 76, 77, 78, 79, 80, 81, 82, 83, 84, 85, 86, 87, 88, 89, 90, 91, 92, 93, 94, 95, 96, 97, 98, 99, 100, 101, 102, 103, 104, 105, 106, 107, 108, 109, 110, 111, 112, 113, 114, 115, 116, 117, 118, 119, 120, 121] (by decide +kernel) (by decide +kernel)) (goodIn_sub (fun _ h => List.mem_cons_of_mem _ (List.mem_append_right _ h)) (by decide +kernel))
set_option maxRecDepth 20000 in
theorem gX8_text_X8_writesText : GoodIn wsX8_text (wsV RX8 252 RX8 yX8_writesText wsX8_writesText) := goodIn_app (goodIn_of _ (by decide +kernel)) ggX8_text_X8_writesText
theorem dX8_text_15 : decode cX8_text 15 = .ok (.aload_n 0, 1) := by decide +kernel
theorem dX8_text_16 : decode cX8_text 16 = .ok (.iload_n 2, 1) := by decide +kernel
theorem dX8_text_17 : decode cX8_text 17 = .ok (.ifCond .lt 15, 3) := by decide +kernel
theorem dX8_text_32 : decode cX8_text 32 = .ok (.iconst 2, 1) := by decide +kernel
theorem dX8_text_33 : decode cX8_text 33 = .ok (.invokevirtual 148, 3) := by decide +kernel
set_option maxRecDepth 20000 in
theorem ggX8_text_X8_fails : GoodIn wsX8_text wsX8_fails := goodIn_r _ [19, 20, 87, 88, 89, 90, 91, 92, 93, 94, 95, 96, 97, 98, 99, 100, 101, 102, 103, 104, 105, 106, 107, 108, 109, 110, 111, 112, 113, 114, 115, 116, 117] (by decide +kernel) (by decide +kernel)
set_option maxRecDepth 20000 in
theorem gX8_text_X8_fails : GoodIn wsX8_text (wsV RX8 148 RX8 yX8_fails wsX8_fails) := goodIn_app (goodIn_of _ (by decide +kernel)) ggX8_text_X8_fails
theorem dX8_text_36 : decode cX8_text 36 = .ok (.ifCond .eq 7, 3) := by decide +kernel
theorem dX8_text_39 : decode cX8_text 39 = .ok (.iconst 0, 1) := by decide +kernel
theorem dX8_text_40 : decode cX8_text 40 = .ok (.goto 10, 3) := by decide +kernel
theorem dX8_text_50 : decode cX8_text 50 = .ok (.ireturn, 1) := by decide +kernel
theorem dX8_text_20 : decode cX8_text 20 = .ok (.iload_n 2, 1) := by decide +kernel
theorem dX8_text_21 : decode cX8_text 21 = .ok (.aload_n 0, 1) := by decide +kernel
theorem dX8_text_22 : decode cX8_text 22 = .ok (.getfield 229, 3) := by decide +kernel
theorem dX8_text_25 : decode cX8_text 25 = .ok (.if_icmp .ge 7, 3) := by decide +kernel
theorem dX8_text_28 : decode cX8_text 28 = .ok (.iconst 0, 1) := by decide +kernel
theorem dX8_text_29 : decode cX8_text 29 = .ok (.goto 4, 3) := by decide +kernel
theorem dX8_text_43 : decode cX8_text 43 = .ok (.aload_n 0, 1) := by decide +kernel
theorem dX8_text_44 : decode cX8_text 44 = .ok (.getfield 53, 3) := by decide +kernel
theorem dX8_text_47 : decode cX8_text 47 = .ok (.iload_n 2, 1) := by decide +kernel
theorem dX8_text_48 : decode cX8_text 48 = .ok (.iaload, 1) := by decide +kernel
theorem dX8_text_49 : decode cX8_text 49 = .ok (.i2c, 1) := by decide +kernel
theorem dX8_text_8 : decode cX8_text 8 = .ok (.iconst 0, 1) := by decide +kernel
theorem dX8_text_9 : decode cX8_text 9 = .ok (.ireturn, 1) := by decide +kernel
set_option maxHeartbeats 400000 in
set_option maxRecDepth 20000 in
theorem ct_X8_text (l : Launch) (D : va_G) (dA : Nat → ClassId) (hst : l.stackTraces = false) (M : jM) (m : Nat) (A : cA) (hA : mAb M m A) (hW : zWf (cNw A))(s y : Int32) : jCT l D dA yX8_text wsX8_text (25) (600) (0) (0) 1 [.ref (m), .int (s), .int (y)] M (mRl M m [xIOOBE, xNSE] (oSl s (oRn A s (fun w => oTx w y))) A) := by
  refine jBody (cc := cX8_text) (nL := 3) (rt := (some .char)) (ini := false) (by decide) rfl hst (Nat.le_of_ble_eq_true rfl) (by simp [Value.category]) (by intro h9; first | exact absurd h9 (by decide) | rfl) ?_
  show J l D dA RX8 cX8_text wsX8_text 3 false (some .char) [] (25) (600) (jF D dA (jn M) (mRl M m [xIOOBE, xNSE] (oSl s (oRn A s (fun w => oTx w y))) A) 1) (jn M) (0) (0) (M) 0 [.ref (m), .int (s), .int (y)] []
  obtain ⟨hM, hz, ⟨hKn, hK8, hKs⟩, ⟨hHs, hHz⟩, ⟨hLn, hL6, hLc⟩, hFl, ⟨hRs, hRp⟩, hCh⟩ := id hA
  obtain ⟨m1, m2, ⟨r1, r2, r3, r4, r5, r6, r7, r8, r9, r10, r11, r12, r13⟩, ⟨k1, k2, k3, k4, k5, k6, k7, k8, k9, k10, k11, k12, k13⟩, z1, z2, z3, z4, z5, z6, z7, z8, z9, z10, z11, z12, z13⟩ := id hM
  refine J_aload_n (m) dX8_text_0 rfl rfl ?_
  refine J_iload_n dX8_text_1 rfl rfl ?_
  refine J_calli0 (jrunV (As := [.int (s)]) (ct_X8_fails1 l D dA hst M m hM (cNw A) hz ((s))) dX8_text_2 yY_X8_fails1 gX8_text_X8_fails1 rfl cs11 (show m < jn M from by omega) m2 rfl ⟨by omega, by omega⟩ ⟨Nat.zero_le _, Nat.zero_le _⟩ rfl (Nat.le_of_ble_eq_true rfl)) (rfl) (rfl) ?_
  refine J_if_eq dX8_text_5 (tgt := 10) (by decide) (fun c5 => ?_) (fun c5 => ?_)
  · have c5 := jb0T c5
    obtain ⟨hf0, hs0, k, w, hk, rfl, hzk, hat⟩ := mF1_ok (of_decide_eq_false c5)
    have hx := hz.at0 hk; rw [hzk] at hx
    have h16 := hx.2.1
    have hw := hW.1 _ _ hzk
    refine J_mem (M' := jSi M m 11 0) (by rw [hf0]) ?_
    refine J_aload_n (m) dX8_text_10 rfl rfl ?_
    refine J_iload_n dX8_text_11 rfl rfl ?_
    refine J_callv (jrunV (As := [.int (nI (k))]) (ct_X8_writesText l D dA hst ((jSi M m 11 (0))) m hM k hk w hw ((hx).si (by omega))) dX8_text_12 yY_X8_writesText gX8_text_X8_writesText rfl cs11 (show m < jn M from by omega) m2 rfl ⟨by omega, by omega⟩ ⟨Nat.zero_le _, Nat.zero_le _⟩ rfl (Nat.le_of_ble_eq_true rfl)) ⟨Nat.zero_le _, Nat.zero_le _⟩ (Or.inr ⟨(jOk.ref (show m < jn M from by omega) (jOk.int (jOk.int jOk.nil))), jOk.nil⟩) (fun E M9 hp _ => by cases hp.1) (fun K hp12 hle12 => ?_)
    obtain ⟨_, hpK, gK, eK, qK⟩ := hp12
    have hOK := gK.ok (show mOk (jSi M m 11 0) m from hM)
    obtain ⟨Km1, Km2, ⟨Kr1, Kr2, Kr3, Kr4, Kr5, Kr6, Kr7, Kr8, Kr9, Kr10, Kr11, Kr12, Kr13⟩, ⟨Kk1, Kk2, Kk3, Kk4, Kk5, Kk6, Kk7, Kk8, Kk9, Kk10, Kk11, Kk12, Kk13⟩, Kz1, Kz2, Kz3, Kz4, Kz5, Kz6, Kz7, Kz8, Kz9, Kz10, Kz11, Kz12, Kz13⟩ := id hOK
    have hAK : mAb K m A := (hA.si rfl).q gK eK
    have hFK : mFr m M K := (mFr.rf.si ⟨by omega, by omega⟩).tr gK
    have hcK : ji K m 11 = 0 := qK.trans ji_Sis
    have htl : (tTx w).length ≤ 448 := tPs_len h16
    refine J_aload_n (m) dX8_text_15 rfl rfl ?_
    refine J_iload_n dX8_text_16 rfl rfl ?_
    refine J_if_lt dX8_text_17 (tgt := 32) (by decide) (fun c17 => ?_) (fun c17 => ?_)
    · refine J_iconst (x := 2) dX8_text_32 (by decide) ?_
      refine J_calli0 (jrunV (As := [.int (2)]) (ct_X8_fails l D dA hst K m hOK ((2))) dX8_text_33 yY_X8_fails gX8_text_X8_fails rfl cs11 (show m < jn K from by omega) Km2 rfl ⟨by omega, by omega⟩ ⟨Nat.zero_le _, Nat.zero_le _⟩ rfl (Nat.le_of_ble_eq_true rfl)) (rfl) (rfl) ?_
      refine J_if_eq dX8_text_36 (tgt := 43) (by decide) (fun c36 => ?_) (fun c36 => ?_)
      · exact absurd c36 (by decide)
      · have c36 := jeqF (a := 1) (b := 0) (by omega) (by omega) c36
        refine J_iconst (x := 0) dX8_text_39 (by decide) ?_
        refine J_goto (tgt := 50) dX8_text_40 (by decide) ?_
        exact J_iret (ty := .char) dX8_text_50 rfl (by first | exact nI_nar _ (tTx_lt hw.1 (by omega)) | rfl) (by first | exact ⟨mAg.x 1 xNSE rfl (by decide) ji_Sis (by rw [oSl_t hs0, oRn_s hat]; unfold oTx; rw [if_pos c17]), hAK.si rfl, hFK.si ⟨by omega, by omega⟩, _, rfl⟩ | exact ⟨mAg.x 1 xNSE rfl (by decide) ji_Sis (by rw [oSl_t hs0, oRn_s hat]; unfold oTx; rw [if_neg (nI_pos (by omega)), if_neg (nI_nlt (by omega) (by omega))]), hAK.si rfl, hFK.si ⟨by omega, by omega⟩, _, rfl⟩ | exact ⟨Or.inl ⟨ji_Sis, by rw [oSl_t hs0, oRn_s hat]; unfold oTx; rw [if_neg (nI_pos (by omega)), if_pos (nI_lt (by omega) (by omega)), nI_clamp (by omega)]⟩, hAK.si rfl, hFK.si ⟨by omega, by omega⟩, _, rfl⟩ | fail "tx")
    · obtain ⟨q, hq31, rfl⟩ := nI_of c17
      refine J_iload_n dX8_text_20 rfl rfl ?_
      refine J_aload_n (m) dX8_text_21 rfl rfl ?_
      refine J_geti (j := 30) dX8_text_22 (fun _ h => List.mem_cons_of_mem _ (List.mem_append_left _ (List.mem_append_left _ (List.mem_append_right _ (h))))) cs11 (by decide) rfl (List.mem_of_getElem? (i := 1) rfl) rfl (show m < jn K from by omega) Km2 ?_
      refine J_topi (y := nI ((tTx w).length)) (hpK.1) ?_
      refine J_icmp_ge dX8_text_25 (tgt := 32) (by decide) (fun c25 => ?_) (fun c25 => ?_)
      · have c25 := jleT (a := (tTx w).length) (b := q) (by omega) (by omega) c25
        refine J_iconst (x := 2) dX8_text_32 (by decide) ?_
        refine J_calli0 (jrunV (As := [.int (2)]) (ct_X8_fails l D dA hst K m hOK ((2))) dX8_text_33 yY_X8_fails gX8_text_X8_fails rfl cs11 (show m < jn K from by omega) Km2 rfl ⟨by omega, by omega⟩ ⟨Nat.zero_le _, Nat.zero_le _⟩ rfl (Nat.le_of_ble_eq_true rfl)) (rfl) (rfl) ?_
        refine J_if_eq dX8_text_36 (tgt := 43) (by decide) (fun c36 => ?_) (fun c36 => ?_)
        · exact absurd c36 (by decide)
        · have c36 := jeqF (a := 1) (b := 0) (by omega) (by omega) c36
          refine J_iconst (x := 0) dX8_text_39 (by decide) ?_
          refine J_goto (tgt := 50) dX8_text_40 (by decide) ?_
          exact J_iret (ty := .char) dX8_text_50 rfl (by first | exact nI_nar _ (tTx_lt hw.1 (by omega)) | rfl) (by first | exact ⟨mAg.x 1 xNSE rfl (by decide) ji_Sis (by rw [oSl_t hs0, oRn_s hat]; unfold oTx; rw [if_pos c17]), hAK.si rfl, hFK.si ⟨by omega, by omega⟩, _, rfl⟩ | exact ⟨mAg.x 1 xNSE rfl (by decide) ji_Sis (by rw [oSl_t hs0, oRn_s hat]; unfold oTx; rw [if_neg (nI_pos (by omega)), if_neg (nI_nlt (by omega) (by omega))]), hAK.si rfl, hFK.si ⟨by omega, by omega⟩, _, rfl⟩ | exact ⟨Or.inl ⟨ji_Sis, by rw [oSl_t hs0, oRn_s hat]; unfold oTx; rw [if_neg (nI_pos (by omega)), if_pos (nI_lt (by omega) (by omega)), nI_clamp (by omega)]⟩, hAK.si rfl, hFK.si ⟨by omega, by omega⟩, _, rfl⟩ | fail "tx")
      · have c25 := jleF (a := (tTx w).length) (b := q) (by omega) (by omega) c25
        refine J_iconst (x := 0) dX8_text_28 (by decide) ?_
        refine J_goto (tgt := 33) dX8_text_29 (by decide) ?_
        refine J_calli0 (jrunV (As := [.int (0)]) (ct_X8_fails l D dA hst K m hOK ((0))) dX8_text_33 yY_X8_fails gX8_text_X8_fails rfl cs11 (show m < jn K from by omega) Km2 rfl ⟨by omega, by omega⟩ ⟨Nat.zero_le _, Nat.zero_le _⟩ rfl (Nat.le_of_ble_eq_true rfl)) (rfl) (rfl) ?_
        refine J_if_eq dX8_text_36 (tgt := 43) (by decide) (fun c36 => ?_) (fun c36 => ?_)
        · have c36 := jeqT (a := 0) (b := 0) (by omega) (by omega) c36
          refine J_aload_n (m) dX8_text_43 rfl rfl ?_
          refine J_getrs (q := m + 13) Kr13 dX8_text_44 (fun _ h => List.mem_cons_of_mem _ (List.mem_append_left _ (List.mem_append_left _ (List.mem_append_right _ (h))))) cs11 (by decide) rfl (List.mem_of_getElem? (i := 2) rfl) rfl (show m < jn K from by omega) Km2 ?_
          refine J_iload_n dX8_text_47 rfl rfl ?_
          refine J_ialdN (k := q) dX8_text_48 (show m + 13 < jn K from by omega) Kk13 (by exact Nat.lt_of_lt_of_eq (show _ < 512 by omega) (Eq.symm Kz13)) (by exact Nat.lt_of_le_of_lt (Nat.le_of_eq Kz13) (show 512 < 2 ^ 31 by omega)) ?_
          refine J_topi (y := nI ((tTx w).getD q 0)) (by rw [ji_Sin (by omega)]; exact hpK.2 q (by omega)) ?_
          refine J_i2c dX8_text_49 ?_
          refine J_topi (y := nI ((tTx w).getD q 0)) (nI_i2c _ (tTx_lt hw.1 (by omega))) ?_
          exact J_iret (ty := .char) dX8_text_50 rfl (by first | exact nI_nar _ (tTx_lt hw.1 (by omega)) | rfl) (by first | exact ⟨mAg.x 1 xNSE rfl (by decide) ji_Sis (by rw [oSl_t hs0, oRn_s hat]; unfold oTx; rw [if_pos c17]), hAK.si rfl, hFK.si ⟨by omega, by omega⟩, _, rfl⟩ | exact ⟨mAg.x 1 xNSE rfl (by decide) ji_Sis (by rw [oSl_t hs0, oRn_s hat]; unfold oTx; rw [if_neg (nI_pos (by omega)), if_neg (nI_nlt (by omega) (by omega))]), hAK.si rfl, hFK.si ⟨by omega, by omega⟩, _, rfl⟩ | exact ⟨Or.inl ⟨ji_Sis, by rw [oSl_t hs0, oRn_s hat]; unfold oTx; rw [if_neg (nI_pos (by omega)), if_pos (nI_lt (by omega) (by omega)), nI_clamp (by omega)]⟩, hAK.si rfl, hFK.si ⟨by omega, by omega⟩, _, rfl⟩ | fail "tx")
        · exact absurd c36 (by decide)
  · have c5 := jb0F c5
    refine J_iconst (x := 0) dX8_text_8 (by decide) ?_
    exact J_iret (ty := .char) dX8_text_9 rfl (by first | exact nI_nar _ (tTx_lt hw.1 (by omega)) | rfl) (by refine ⟨?_, (hA).si rfl, (mFr.rf).si ⟨by omega, by omega⟩, _, rfl⟩; simp only [ji_Si, and_self, if_true, reduceIte, reduceCtorEq, and_false, if_false, Nat.reduceEqDiff]; first | exact mF1_x (of_decide_eq_true c5) | fail "rl")

