theorem jI_inj {x y : Int32} (h : (Sum.inl (some (.int x)) : jO) = oI y) : x = y := by cases h; rfl
def sgn (op : Int32) : Int32 := if op = 0 then 43 else if op = 1 then 38 else 45
/-- what agreeing says of a version -/
def agA (what : Int32) (a b c : rVl) (x : Int32) : Bool := !okVer x || decide (rHolds a.2 a.1 x = vGv what (rHolds b.2 b.1 x) (rHolds c.2 c.1 x))
theorem jb_i {a b : Bool} (h : jb a = jb b) : a = b := by cases a <;> cases b <;> first | rfl | exact absurd h (by decide)
theorem vGv_op {op : Int32} (h : okOp op = true) (p q : Bool) : vGv (sgn op) p q = vMeets op p q := by
  unfold okOp at h
  simp only [Bool.or_eq_true, decide_eq_true_eq] at h
  rcases h with (rfl | rfl) | rfl
  · cases p <;> cases q <;> decide
  · cases p <;> cases q <;> decide
  · cases p <;> cases q <;> decide
theorem rHolds_m1 {w : rVl} (hw : rWf w) : rHolds w.2 w.1 (-1) = false := rHolds_out (fun k hk h => by
  obtain ⟨q, eq, lq, tq⟩ := hw.at (i := 2 * k) (by omega)
  rw [eq] at h
  exact absurd (Int32.lt_of_le_of_lt h.1 (show (-1 : Int32) < 0 by decide)) (nI_pos (by omega)))
theorem rHolds_mx {w : rVl} (hw : rWf w) : rHolds w.2 w.1 (nI 100000000) = false := rHolds_out (fun k hk h => by
  obtain ⟨q, eq, lq, tq⟩ := hw.at (i := 2 * k + 1) (by omega)
  rw [eq] at h
  have := (nI_leN (by omega) (by omega)).mp h.2
  omega)
theorem agA_eq {op : Int32} {a b c : rVl} (h : okOp op = true) (ha : rWf a) (hb : rWf b) (hc : rWf c) {x : Int32} (hx : okVer x = true ∨ x = -1 ∨ x = nI 100000000) : agA (sgn op) a b c x = cF op a b c x := by
  have e0 : vMeets op false false = false := by
    unfold okOp at h
    simp only [Bool.or_eq_true, decide_eq_true_eq] at h
    rcases h with (rfl | rfl) | rfl <;> decide
  rcases hx with hx | rfl | rfl
  · unfold agA cF; rw [hx, vGv_op h]; rfl
  · unfold agA cF; rw [show okVer (-1) = false by decide, rHolds_m1 ha, rHolds_m1 hb, rHolds_m1 hc, e0]; rfl
  · unfold agA cF; rw [show okVer (nI 100000000) = false by decide, rHolds_mx ha, rHolds_mx hb, rHolds_mx hc, e0]; rfl
theorem okVer_n {p : Nat} (h : p < 100000000) : okVer (nI p) = true := by
  unfold okVer
  rw [decide_eq_false (nI_pos (by omega)), decide_eq_true (show nI p ≤ 99999999 from (nI_leN (b := 99999999) (by omega) (by omega)).mpr (by omega))]
  rfl
theorem agR_eq {op : Int32} {a b c w : rVl} (h : okOp op = true) (ha : rWf a) (hb : rWf b) (hc : rWf c) (hw : rWf w) {t : Nat} (ht : t < 2 * w.1) : cRound (agA (sgn op) a b c) (w.2 t) = cRound (cF op a b c) (w.2 t) := by
  obtain ⟨q, eq, lq, tq⟩ := hw.at ht
  rw [eq]
  unfold cRound
  rw [agA_eq h ha hb hc (Or.inl (okVer_n lq))]
  have e1 : agA (sgn op) a b c (nI q - 1) = cF op a b c (nI q - 1) := by
    refine agA_eq h ha hb hc ?_
    rcases Nat.eq_zero_or_pos q with rfl | h0
    · exact Or.inr (Or.inl rfl)
    · rw [nI_prd h0]; exact Or.inl (okVer_n (by omega))
  have e2 : agA (sgn op) a b c (nI q + 1) = cF op a b c (nI q + 1) := by
    refine agA_eq h ha hb hc ?_
    rw [nI_1]
    by_cases h9 : q + 1 = 100000000
    · rw [h9]; exact Or.inr (Or.inr rfl)
    · exact Or.inl (okVer_n (by omega))
  rw [e1, e2]
theorem agE_2 (F : Int32 → Bool) (w : rVl) : agE F w = jall (fun t => cRound F (w.2 t)) (2 * w.1) := by
  unfold agE
  have key : ∀ k, k ≤ w.1 → jall (fun k => cRound F (rFirst w.2 w.1 k) && cRound F (rLast w.2 w.1 k)) k = jall (fun t => cRound F (w.2 t)) (2 * k) := by
    intro k
    induction k with
    | zero => intro _; rfl
    | succ k ih =>
      intro hk
      rw [show 2 * (k + 1) = 2 * k + 1 + 1 from by omega]
      show (jall _ k && (cRound F (rFirst w.2 w.1 k) && cRound F (rLast w.2 w.1 k))) = ((jall _ (2 * k) && cRound F (w.2 (2 * k))) && cRound F (w.2 (2 * k + 1)))
      rw [ih (by omega), Bool.and_assoc]
      unfold rFirst rLast
      rw [if_pos (by omega), if_pos (by omega)]
  exact key w.1 (Nat.le_refl _)
theorem agE_eq9 {op : Int32} {a b c w : rVl} (h : okOp op = true) (ha : rWf a) (hb : rWf b) (hc : rWf c) (hw : rWf w) : agE (cF op a b c) w = jall (fun t => cRound (agA (sgn op) a b c) (w.2 t)) (2 * w.1) := by
  rw [agE_2]
  exact (jall_congr _ (fun t ht => agR_eq h ha hb hc hw ht)).symm
theorem agP_eq9 {op : Int32} {a b c : rVl} {z : cSt} (h : okOp op = true) (ha : rWf a) (hb : rWf b) (hc : rWf c) (hz : ∀ i, i < z.2.1 → okVer (z.2.2 i) = true) : agP (cF op a b c) z = jall (fun k => agA (sgn op) a b c (z.2.2 k)) z.2.1 :=
  (jall_congr _ (fun t ht => agA_eq h ha hb hc (Or.inl (hz t ht)))).symm
def agK (k1 k2 k3 i : Nat) : Nat := if i = 0 then k1 else if i = 1 then k2 else k3
def agW (a b c : rVl) (i : Nat) : rVl := if i = 0 then a else if i = 1 then b else c
def agQ (what : Int32) (a b c : rVl) (i : Nat) : Bool := jall (fun t => cRound (agA what a b c) ((agW a b c i).2 t)) (2 * (agW a b c i).1)
theorem agV_9 {op : Int32} {a b c : rVl} {z : cSt} (h : okOp op = true) (ha : rWf a) (hb : rWf b) (hc : rWf c) (hz : ∀ i, i < z.2.1 → okVer (z.2.2 i) = true) : agV z op a b c = (agQ (sgn op) a b c 0 && (agQ (sgn op) a b c 1 && (agQ (sgn op) a b c 2 && jall (fun k => agA (sgn op) a b c (z.2.2 k)) z.2.1))) := by
  unfold agV
  rw [agE_eq9 h ha hb hc ha, agE_eq9 h ha hb hc hb, agE_eq9 h ha hb hc hc, agP_eq9 h ha hb hc hz]
  rfl
theorem agV_f {op : Int32} {a b c : rVl} {z : cSt} (h : okOp op = true) (ha : rWf a) (hb : rWf b) (hc : rWf c) (hz : ∀ i, i < z.2.1 → okVer (z.2.2 i) = true) {i : Nat} (hi : i < 3) (hq : agQ (sgn op) a b c i = false) : agV z op a b c = false := by
  rw [agV_9 h ha hb hc hz]
  rcases (show i = 0 ∨ i = 1 ∨ i = 2 from by omega) with rfl | rfl | rfl <;> rw [hq] <;> simp
theorem agV_p {op : Int32} {a b c : rVl} {z : cSt} (h : okOp op = true) (ha : rWf a) (hb : rWf b) (hc : rWf c) (hz : ∀ i, i < z.2.1 → okVer (z.2.2 i) = true) (hq : jall (fun k => agA (sgn op) a b c (z.2.2 k)) z.2.1 = false) : agV z op a b c = false := by
  rw [agV_9 h ha hb hc hz, hq]; simp
theorem agV_t {op : Int32} {a b c : rVl} {z : cSt} (h : okOp op = true) (ha : rWf a) (hb : rWf b) (hc : rWf c) (hz : ∀ i, i < z.2.1 → okVer (z.2.2 i) = true) (hq : jall (fun k => agA (sgn op) a b c (z.2.2 k)) z.2.1 = true) (hi : ∀ i, i < 3 → agQ (sgn op) a b c i = true) : agV z op a b c = true := by
  rw [agV_9 h ha hb hc hz, hq, hi 0 (by omega), hi 1 (by omega), hi 2 (by omega)]; rfl
theorem okOp_in {op : Int32} (h1 : ¬ op < 0) (h2 : op ≤ 2) : okOp op = true := by
  obtain ⟨q, hq, rfl⟩ := nI_of2 (n := 2) (by decide) h1 h2
  rcases (show q = 0 ∨ q = 1 ∨ q = 2 from by omega) with rfl | rfl | rfl <;> decide
theorem okOp_out {op : Int32} (h : op < 0 ∨ 2 < op) : ¬ okOp op = true := by
  intro h9
  unfold okOp at h9
  simp only [Bool.or_eq_true, decide_eq_true_eq] at h9
  rcases h9 with (rfl | rfl) | rfl
  · rcases h with h | h <;> exact absurd h (by decide)
  · rcases h with h | h <;> exact absurd h (by decide)
  · rcases h with h | h <;> exact absurd h (by decide)
theorem cRd {F : Int32 → Bool} {x : Int32} (h0 : F (x + -1) = true) (h1 : F (x + 0) = true) (h2 : F (x + 1) = true) : cRound F x = true := by
  unfold cRound
  rw [Int32.add_zero] at h1
  rw [Int32.sub_eq_add_neg, h0, h1, h2]; rfl
theorem cRd_f {F : Int32 → Bool} {x : Int32} (h : F (x + -1) = false ∨ F (x + 0) = false ∨ F (x + 1) = false) : cRound F x = false := by
  unfold cRound
  rw [Int32.add_zero] at h
  rw [Int32.sub_eq_add_neg]
  rcases h with h | h | h <;> rw [h] <;> simp
theorem dX8_signOf_0 : decode cX8_signOf 0 = .ok (.iload_n 0, 1) := by decide +kernel
theorem dX8_signOf_1 : decode cX8_signOf 1 = .ok (.ifCond .ne 8, 3) := by decide +kernel
theorem dX8_signOf_9 : decode cX8_signOf 9 = .ok (.iload_n 0, 1) := by decide +kernel
theorem dX8_signOf_10 : decode cX8_signOf 10 = .ok (.iconst 1, 1) := by decide +kernel
theorem dX8_signOf_11 : decode cX8_signOf 11 = .ok (.if_icmp .ne 8, 3) := by decide +kernel
theorem dX8_signOf_19 : decode cX8_signOf 19 = .ok (.bipush 45, 2) := by decide +kernel
theorem dX8_signOf_21 : decode cX8_signOf 21 = .ok (.ireturn, 1) := by decide +kernel
theorem dX8_signOf_14 : decode cX8_signOf 14 = .ok (.bipush 38, 2) := by decide +kernel
theorem dX8_signOf_16 : decode cX8_signOf 16 = .ok (.goto 5, 3) := by decide +kernel
theorem dX8_signOf_4 : decode cX8_signOf 4 = .ok (.bipush 43, 2) := by decide +kernel
theorem dX8_signOf_6 : decode cX8_signOf 6 = .ok (.goto 15, 3) := by decide +kernel
set_option maxHeartbeats 400000 in
set_option maxRecDepth 20000 in
theorem ct_X8_signOf (l : Launch) (D : va_G) (dA : Nat → ClassId) (hst : l.stackTraces = false) (M : jM) (op : Int32) : jCT l D dA yX8_signOf wsX8_signOf (20) (300) (0) (0) 1 [.int (op)] M (jPo (oI (sgn op)) (M)) := by
  refine jBody (cc := cX8_signOf) (nL := 1) (rt := (some .int)) (ini := false) (by decide) rfl hst (Nat.le_of_ble_eq_true rfl) (by simp [Value.category]) (by intro h9; first | exact absurd h9 (by decide) | rfl) ?_
  show J l D dA RX8 cX8_signOf wsX8_signOf 1 false (some .int) [] (20) (300) (jF D dA (jn M) (jPo (oI (sgn op)) (M)) 1) (jn M) (0) (0) (M) 0 [.int (op)] []
  refine J_iload_n dX8_signOf_0 rfl rfl ?_
  refine J_if_ne dX8_signOf_1 (tgt := 9) (by decide) (fun c1 => ?_) (fun c1 => ?_)
  · refine J_iload_n dX8_signOf_9 rfl rfl ?_
    refine J_iconst (x := 1) dX8_signOf_10 (by decide) ?_
    refine J_icmp_ne dX8_signOf_11 (tgt := 19) (by decide) (fun c11 => ?_) (fun c11 => ?_)
    · refine J_bipush (x := 45) dX8_signOf_19 (by decide) ?_
      exact J_iret (ty := .int) dX8_signOf_21 rfl (rfl) ⟨(by simp [sgn, *]), (by rfl)⟩
    · refine J_bipush (x := 38) dX8_signOf_14 (by decide) ?_
      refine J_goto (tgt := 21) dX8_signOf_16 (by decide) ?_
      exact J_iret (ty := .int) dX8_signOf_21 rfl (rfl) ⟨(by simp [sgn, *]), (by rfl)⟩
  · refine J_bipush (x := 43) dX8_signOf_4 (by decide) ?_
    refine J_goto (tgt := 21) dX8_signOf_6 (by decide) ?_
    exact J_iret (ty := .int) dX8_signOf_21 rfl (rfl) ⟨(by simp [sgn, *]), (by rfl)⟩

theorem dX8_agreesAt_0 : decode cX8_agreesAt 0 = .ok (.iload_n 1, 1) := by decide +kernel
theorem dX8_agreesAt_1 : decode cX8_agreesAt 1 = .ok (.invokestatic 202, 3) := by decide +kernel
set_option maxRecDepth 20000 in
theorem ggX8_agreesAt_X8_isVersion : GoodIn wsX8_agreesAt wsX8_isVersion := goodIn_r _ [5, 6] (by decide +kernel) (by decide +kernel)
set_option maxRecDepth 20000 in
theorem gX8_agreesAt_X8_isVersion : GoodIn wsX8_agreesAt (va_wsS RX8 202 yX8_isVersion wsX8_isVersion) := goodIn_app (goodIn_of _ (by decide +kernel)) ggX8_agreesAt_X8_isVersion
theorem dX8_agreesAt_4 : decode cX8_agreesAt 4 = .ok (.ifCond .eq 51, 3) := by decide +kernel
theorem dX8_agreesAt_55 : decode cX8_agreesAt 55 = .ok (.iconst 1, 1) := by decide +kernel
theorem dX8_agreesAt_56 : decode cX8_agreesAt 56 = .ok (.goto 4, 3) := by decide +kernel
theorem dX8_agreesAt_60 : decode cX8_agreesAt 60 = .ok (.ireturn, 1) := by decide +kernel
theorem dX8_agreesAt_7 : decode cX8_agreesAt 7 = .ok (.aload_n 0, 1) := by decide +kernel
theorem dX8_agreesAt_8 : decode cX8_agreesAt 8 = .ok (.aload_n 0, 1) := by decide +kernel
theorem dX8_agreesAt_9 : decode cX8_agreesAt 9 = .ok (.getfield 9, 3) := by decide +kernel
theorem dX8_agreesAt_12 : decode cX8_agreesAt 12 = .ok (.bipush 33, 2) := by decide +kernel
theorem dX8_agreesAt_14 : decode cX8_agreesAt 14 = .ok (.iload_n 2, 1) := by decide +kernel
theorem dX8_agreesAt_15 : decode cX8_agreesAt 15 = .ok (.imul, 1) := by decide +kernel
theorem dX8_agreesAt_16 : decode cX8_agreesAt 16 = .ok (.iload_n 1, 1) := by decide +kernel
theorem dX8_agreesAt_17 : decode cX8_agreesAt 17 = .ok (.invokevirtual 71, 3) := by decide +kernel
set_option maxRecDepth 20000 in
theorem ggX8_agreesAt_X8_belongs : GoodIn wsX8_agreesAt wsX8_belongs := goodIn_ca (goodIn_r _ [10, 11, 15, 16, 17, 18, 19, 20, 21, 22, 23, 24, 25, 26, 27, 28, 29, 30, 31, 32, 33, 34, 35, 36, 37, 38, 39, 40, 41, 42, 43, 44, 45] (by decide +kernel) (by decide +kernel)) (goodIn_sub (fun _ h => List.mem_cons_of_mem _ (List.mem_append_right _ h)) (by decide +kernel))
set_option maxRecDepth 20000 in
theorem gX8_agreesAt_X8_belongs : GoodIn wsX8_agreesAt (wsV RX8 71 RX8 yX8_belongs wsX8_belongs) := goodIn_app (goodIn_of _ (by decide +kernel)) ggX8_agreesAt_X8_belongs
theorem dX8_agreesAt_20 : decode cX8_agreesAt 20 = .ok (.iload 5, 2) := by decide +kernel
theorem dX8_agreesAt_22 : decode cX8_agreesAt 22 = .ok (.aload_n 0, 1) := by decide +kernel
theorem dX8_agreesAt_23 : decode cX8_agreesAt 23 = .ok (.aload_n 0, 1) := by decide +kernel
theorem dX8_agreesAt_24 : decode cX8_agreesAt 24 = .ok (.getfield 9, 3) := by decide +kernel
theorem dX8_agreesAt_27 : decode cX8_agreesAt 27 = .ok (.bipush 33, 2) := by decide +kernel
theorem dX8_agreesAt_29 : decode cX8_agreesAt 29 = .ok (.iload_n 3, 1) := by decide +kernel
theorem dX8_agreesAt_30 : decode cX8_agreesAt 30 = .ok (.imul, 1) := by decide +kernel
theorem dX8_agreesAt_31 : decode cX8_agreesAt 31 = .ok (.iload_n 1, 1) := by decide +kernel
theorem dX8_agreesAt_32 : decode cX8_agreesAt 32 = .ok (.invokevirtual 71, 3) := by decide +kernel
theorem dX8_agreesAt_35 : decode cX8_agreesAt 35 = .ok (.aload_n 0, 1) := by decide +kernel
theorem dX8_agreesAt_36 : decode cX8_agreesAt 36 = .ok (.aload_n 0, 1) := by decide +kernel
theorem dX8_agreesAt_37 : decode cX8_agreesAt 37 = .ok (.getfield 9, 3) := by decide +kernel
theorem dX8_agreesAt_40 : decode cX8_agreesAt 40 = .ok (.bipush 33, 2) := by decide +kernel
theorem dX8_agreesAt_42 : decode cX8_agreesAt 42 = .ok (.iload 4, 2) := by decide +kernel
theorem dX8_agreesAt_44 : decode cX8_agreesAt 44 = .ok (.imul, 1) := by decide +kernel
theorem dX8_agreesAt_45 : decode cX8_agreesAt 45 = .ok (.iload_n 1, 1) := by decide +kernel
theorem dX8_agreesAt_46 : decode cX8_agreesAt 46 = .ok (.invokevirtual 71, 3) := by decide +kernel
theorem dX8_agreesAt_49 : decode cX8_agreesAt 49 = .ok (.invokestatic 75, 3) := by decide +kernel
set_option maxRecDepth 20000 in
theorem ggX8_agreesAt_X8_gives : GoodIn wsX8_agreesAt wsX8_gives := goodIn_r _ [14] (by decide +kernel) (by decide +kernel)
set_option maxRecDepth 20000 in
theorem gX8_agreesAt_X8_gives : GoodIn wsX8_agreesAt (va_wsS RX8 75 yX8_gives wsX8_gives) := goodIn_app (goodIn_of _ (by decide +kernel)) ggX8_agreesAt_X8_gives
theorem dX8_agreesAt_52 : decode cX8_agreesAt 52 = .ok (.if_icmp .ne 7, 3) := by decide +kernel
theorem dX8_agreesAt_59 : decode cX8_agreesAt 59 = .ok (.iconst 0, 1) := by decide +kernel
set_option maxHeartbeats 400000 in
set_option maxRecDepth 20000 in
theorem ct_X8_agreesAt (l : Launch) (D : va_G) (dA : Nat → ClassId) (hst : l.stackTraces = false) (M : jM) (m : Nat) (hM : mOk M m) (s1 s2 s3 : Nat) (hs1 : s1 < 12) (hs2 : s2 < 12) (hs3 : s3 < 12) (w1 w2 w3 : rVl) (hw1 : rWf w1) (hw2 : rWf w2) (hw3 : rWf w3) (hx1 : mSlot (ji M (m + 1)) (33 * s1) (some w1)) (hx2 : mSlot (ji M (m + 1)) (33 * s2) (some w2)) (hx3 : mSlot (ji M (m + 1)) (33 * s3) (some w3)) (x what : Int32) : jCT l D dA yX8_agreesAt wsX8_agreesAt (22) (420) (0) (0) 1 [.ref (m), .int (x), .int (nI (s1)), .int (nI (s2)), .int (nI (s3)), .int (what)] M (mBq M m (agA what w1 w2 w3 x)) := by
  refine jBody (cc := cX8_agreesAt) (nL := 6) (rt := (some .boolean)) (ini := false) (by decide) rfl hst (Nat.le_of_ble_eq_true rfl) (by simp [Value.category]) (by intro h9; first | exact absurd h9 (by decide) | rfl) ?_
  show J l D dA RX8 cX8_agreesAt wsX8_agreesAt 6 false (some .boolean) [] (22) (420) (jF D dA (jn M) (mBq M m (agA what w1 w2 w3 x)) 1) (jn M) (0) (0) (M) 0 [.ref (m), .int (x), .int (nI (s1)), .int (nI (s2)), .int (nI (s3)), .int (what)] []
  obtain ⟨m1, m2, ⟨r1, r2, r3, r4, r5, r6, r7, r8, r9, r10, r11, r12, r13⟩, ⟨k1, k2, k3, k4, k5, k6, k7, k8, k9, k10, k11, k12, k13⟩, z1, z2, z3, z4, z5, z6, z7, z8, z9, z10, z11, z12, z13⟩ := id hM
  refine J_mem (M' := jSi M m 14 (ji M m 14)) (by exact (jSi_self rfl).symm) ?_
  refine J_iload_n dX8_agreesAt_0 rfl rfl ?_
  refine J_calli0 (jrunS (As := [.int (x)]) (ct_X8_isVersion l D dA hst (jSi M m 14 (ji M m 14)) ((x))) dX8_agreesAt_1 yY_X8_isVersion gX8_agreesAt_X8_isVersion rfl ⟨by omega, by omega⟩ ⟨Nat.zero_le _, Nat.zero_le _⟩ rfl (Nat.le_of_ble_eq_true rfl)) (rfl) (rfl) ?_
  refine J_if_eq dX8_agreesAt_4 (tgt := 55) (by decide) (fun c4 => ?_) (fun c4 => ?_)
  · have c4 := jb0T c4
    refine J_iconst (x := 1) dX8_agreesAt_55 (by decide) ?_
    refine J_goto (tgt := 60) dX8_agreesAt_56 (by decide) ?_
    exact J_iret (ty := .boolean) dX8_agreesAt_60 rfl (by rfl) (by refine ⟨_, ?_, rfl⟩; unfold agA; first | (rw [c4]; rfl) | (rw [c4, decide_eq_true (jb_i c52)]; rfl) | (rw [c4, decide_eq_true (jb_i (Decidable.not_not.mp c52))]; rfl) | (rw [c4, decide_eq_false (jb_ne c52)]; rfl) | fail "ag")
  · have c4 := jb0F c4
    refine J_aload_n (m) dX8_agreesAt_7 rfl rfl ?_
    refine J_aload_n (m) dX8_agreesAt_8 rfl rfl ?_
    refine J_getrs (q := m + 1) r1 dX8_agreesAt_9 (fun _ h => List.mem_cons_of_mem _ (List.mem_append_left _ (List.mem_append_right _ (h)))) cs11 (by decide) rfl (List.mem_of_getElem? (i := 1) rfl) rfl (show m < jn M from by omega) m2 ?_
    refine J_bipush (x := 33) dX8_agreesAt_12 (by decide) ?_
    refine J_iload_n dX8_agreesAt_14 rfl rfl ?_
    refine J_imul dX8_agreesAt_15 ?_
    refine J_topi (y := nI (33 * s1)) (pk_mul (33) (s1)) ?_
    refine J_iload_n dX8_agreesAt_16 rfl rfl ?_
    refine J_calli (jrunV (As := [.ref (m + 1), .int (nI (33 * s1)), .int (x)]) (ct_X8_belongs l D dA hst (jSi M m 14 (ji M m 14)) m hM (m + 1) 427 (33 * s1) (show m + 1 < jn M by omega) k1 z1 (by omega) (by omega) (by omega) w1 hw1 ((hx1).si (by omega)) x) dX8_agreesAt_17 yY_X8_belongs gX8_agreesAt_X8_belongs rfl cs11 (show m < jn M from by omega) m2 rfl ⟨by omega, by omega⟩ ⟨Nat.zero_le _, Nat.zero_le _⟩ rfl (Nat.le_of_ble_eq_true rfl)) ⟨Nat.zero_le _, Nat.zero_le _⟩ (Or.inr ⟨(jOk.ref (show m < jn M from by omega) (jOk.int (jOk.int (jOk.int (jOk.int (jOk.int jOk.nil)))))), jOk.nil⟩) (fun E M9 hp _ => by obtain ⟨_, h1, _⟩ := hp; cases h1) (fun x9 M1 hp17 hle17 => ?_)
    obtain ⟨xs17, he, rfl, -⟩ := hp17
    cases he
    refine J_mem (M' := jSi M m 14 xs17) (by exact jSi_jSi _ _ _ _ _) ?_
    refine J_iload dX8_agreesAt_20 rfl ?_
    refine J_aload_n (m) dX8_agreesAt_22 rfl rfl ?_
    refine J_aload_n (m) dX8_agreesAt_23 rfl rfl ?_
    refine J_getrs (q := m + 1) r1 dX8_agreesAt_24 (fun _ h => List.mem_cons_of_mem _ (List.mem_append_left _ (List.mem_append_right _ (h)))) cs11 (by decide) rfl (List.mem_of_getElem? (i := 1) rfl) rfl (show m < jn M from by omega) m2 ?_
    refine J_bipush (x := 33) dX8_agreesAt_27 (by decide) ?_
    refine J_iload_n dX8_agreesAt_29 rfl rfl ?_
    refine J_imul dX8_agreesAt_30 ?_
    refine J_topi (y := nI (33 * s2)) (pk_mul (33) (s2)) ?_
    refine J_iload_n dX8_agreesAt_31 rfl rfl ?_
    refine J_calli (jrunV (As := [.ref (m + 1), .int (nI (33 * s2)), .int (x)]) (ct_X8_belongs l D dA hst (jSi M m 14 xs17) m hM (m + 1) 427 (33 * s2) (show m + 1 < jn M by omega) k1 z1 (by omega) (by omega) (by omega) w2 hw2 ((hx2).si (by omega)) x) dX8_agreesAt_32 yY_X8_belongs gX8_agreesAt_X8_belongs rfl cs11 (show m < jn M from by omega) m2 rfl ⟨by omega, by omega⟩ ⟨Nat.zero_le _, Nat.zero_le _⟩ rfl (Nat.le_of_ble_eq_true rfl)) ⟨Nat.zero_le _, Nat.zero_le _⟩ (Or.inr ⟨(jOk.ref (show m < jn M from by omega) (jOk.int (jOk.int (jOk.int (jOk.int (jOk.int jOk.nil)))))), (jOk.int (jOk.int jOk.nil))⟩) (fun E M9 hp _ => by obtain ⟨_, h1, _⟩ := hp; cases h1) (fun x9 M1 hp32 hle32 => ?_)
    obtain ⟨xs32, he, rfl, -⟩ := hp32
    cases he
    refine J_mem (M' := jSi M m 14 xs32) (by exact jSi_jSi _ _ _ _ _) ?_
    refine J_aload_n (m) dX8_agreesAt_35 rfl rfl ?_
    refine J_aload_n (m) dX8_agreesAt_36 rfl rfl ?_
    refine J_getrs (q := m + 1) r1 dX8_agreesAt_37 (fun _ h => List.mem_cons_of_mem _ (List.mem_append_left _ (List.mem_append_right _ (h)))) cs11 (by decide) rfl (List.mem_of_getElem? (i := 1) rfl) rfl (show m < jn M from by omega) m2 ?_
    refine J_bipush (x := 33) dX8_agreesAt_40 (by decide) ?_
    refine J_iload dX8_agreesAt_42 rfl ?_
    refine J_imul dX8_agreesAt_44 ?_
    refine J_topi (y := nI (33 * s3)) (pk_mul (33) (s3)) ?_
    refine J_iload_n dX8_agreesAt_45 rfl rfl ?_
    refine J_calli (jrunV (As := [.ref (m + 1), .int (nI (33 * s3)), .int (x)]) (ct_X8_belongs l D dA hst (jSi M m 14 xs32) m hM (m + 1) 427 (33 * s3) (show m + 1 < jn M by omega) k1 z1 (by omega) (by omega) (by omega) w3 hw3 ((hx3).si (by omega)) x) dX8_agreesAt_46 yY_X8_belongs gX8_agreesAt_X8_belongs rfl cs11 (show m < jn M from by omega) m2 rfl ⟨by omega, by omega⟩ ⟨Nat.zero_le _, Nat.zero_le _⟩ rfl (Nat.le_of_ble_eq_true rfl)) ⟨Nat.zero_le _, Nat.zero_le _⟩ (Or.inr ⟨(jOk.ref (show m < jn M from by omega) (jOk.int (jOk.int (jOk.int (jOk.int (jOk.int jOk.nil)))))), (jOk.int (jOk.int (jOk.int jOk.nil)))⟩) (fun E M9 hp _ => by obtain ⟨_, h1, _⟩ := hp; cases h1) (fun x9 M1 hp46 hle46 => ?_)
    obtain ⟨xs46, he, rfl, -⟩ := hp46
    cases he
    refine J_mem (M' := jSi M m 14 xs46) (by exact jSi_jSi _ _ _ _ _) ?_
    refine J_calli0 (jrunS (As := [.int (what), .int (jb (rHolds w2.2 w2.1 x)), .int (jb (rHolds w3.2 w3.1 x))]) (ct_X8_gives l D dA hst (jSi M m 14 xs46) ((what)) (rHolds w2.2 w2.1 x) (rHolds w3.2 w3.1 x)) dX8_agreesAt_49 yY_X8_gives gX8_agreesAt_X8_gives rfl ⟨by omega, by omega⟩ ⟨Nat.zero_le _, Nat.zero_le _⟩ rfl (Nat.le_of_ble_eq_true rfl)) (rfl) (rfl) ?_
    refine J_icmp_ne dX8_agreesAt_52 (tgt := 59) (by decide) (fun c52 => ?_) (fun c52 => ?_)
    · refine J_iconst (x := 0) dX8_agreesAt_59 (by decide) ?_
      exact J_iret (ty := .boolean) dX8_agreesAt_60 rfl (by rfl) (by refine ⟨_, ?_, rfl⟩; unfold agA; first | (rw [c4]; rfl) | (rw [c4, decide_eq_true (jb_i c52)]; rfl) | (rw [c4, decide_eq_true (jb_i (Decidable.not_not.mp c52))]; rfl) | (rw [c4, decide_eq_false (jb_ne c52)]; rfl) | fail "ag")
    · refine J_iconst (x := 1) dX8_agreesAt_55 (by decide) ?_
      refine J_goto (tgt := 60) dX8_agreesAt_56 (by decide) ?_
      exact J_iret (ty := .boolean) dX8_agreesAt_60 rfl (by rfl) (by refine ⟨_, ?_, rfl⟩; unfold agA; first | (rw [c4]; rfl) | (rw [c4, decide_eq_true (jb_i c52)]; rfl) | (rw [c4, decide_eq_true (jb_i (Decidable.not_not.mp c52))]; rfl) | (rw [c4, decide_eq_false (jb_ne c52)]; rfl) | fail "ag")

theorem dX8_agrees_0 : decode cX8_agrees 0 = .ok (.aload_n 0, 1) := by decide +kernel
theorem dX8_agrees_1 : decode cX8_agrees 1 = .ok (.iload_n 1, 1) := by decide +kernel
theorem dX8_agrees_2 : decode cX8_agrees 2 = .ok (.invokestatic 151, 3) := by decide +kernel
set_option maxRecDepth 20000 in
theorem ggX8_agrees_X8_isSlot : GoodIn wsX8_agrees wsX8_isSlot := goodIn_r _ [5] (by decide +kernel) (by decide +kernel)
set_option maxRecDepth 20000 in
theorem gX8_agrees_X8_isSlot : GoodIn wsX8_agrees (va_wsS RX8 151 yX8_isSlot wsX8_isSlot) := goodIn_app (goodIn_of _ (by decide +kernel)) ggX8_agrees_X8_isSlot
theorem dX8_agrees_5 : decode cX8_agrees 5 = .ok (.ifCond .eq 17, 3) := by decide +kernel
theorem dX8_agrees_22 : decode cX8_agrees 22 = .ok (.iconst 1, 1) := by decide +kernel
theorem dX8_agrees_23 : decode cX8_agrees 23 = .ok (.goto 47, 3) := by decide +kernel
theorem dX8_agrees_70 : decode cX8_agrees 70 = .ok (.invokevirtual 148, 3) := by decide +kernel
set_option maxRecDepth 20000 in
theorem ggX8_agrees_X8_fails : GoodIn wsX8_agrees wsX8_fails := goodIn_r _ [13, 14, 34, 35, 36, 37, 38, 39, 40, 41, 42, 43, 44, 45, 46, 47, 48, 49, 50, 51, 52, 53, 54, 55, 56, 57, 58, 59, 60, 61, 62, 63, 64] (by decide +kernel) (by decide +kernel)
set_option maxRecDepth 20000 in
theorem gX8_agrees_X8_fails : GoodIn wsX8_agrees (wsV RX8 148 RX8 yX8_fails wsX8_fails) := goodIn_app (goodIn_of _ (by decide +kernel)) ggX8_agrees_X8_fails
theorem dX8_agrees_73 : decode cX8_agrees 73 = .ok (.ifCond .eq 5, 3) := by decide +kernel
theorem dX8_agrees_76 : decode cX8_agrees 76 = .ok (.iconst 0, 1) := by decide +kernel
theorem dX8_agrees_77 : decode cX8_agrees 77 = .ok (.ireturn, 1) := by decide +kernel
theorem dX8_agrees_8 : decode cX8_agrees 8 = .ok (.iload_n 2, 1) := by decide +kernel
theorem dX8_agrees_9 : decode cX8_agrees 9 = .ok (.invokestatic 151, 3) := by decide +kernel
theorem dX8_agrees_12 : decode cX8_agrees 12 = .ok (.ifCond .eq 10, 3) := by decide +kernel
theorem dX8_agrees_15 : decode cX8_agrees 15 = .ok (.iload_n 3, 1) := by decide +kernel
theorem dX8_agrees_16 : decode cX8_agrees 16 = .ok (.invokestatic 151, 3) := by decide +kernel
theorem dX8_agrees_19 : decode cX8_agrees 19 = .ok (.ifCond .ne 7, 3) := by decide +kernel
theorem dX8_agrees_26 : decode cX8_agrees 26 = .ok (.iload 4, 2) := by decide +kernel
theorem dX8_agrees_28 : decode cX8_agrees 28 = .ok (.ifCond .lt 9, 3) := by decide +kernel
theorem dX8_agrees_37 : decode cX8_agrees 37 = .ok (.iconst 2, 1) := by decide +kernel
theorem dX8_agrees_38 : decode cX8_agrees 38 = .ok (.goto 32, 3) := by decide +kernel
theorem dX8_agrees_31 : decode cX8_agrees 31 = .ok (.iload 4, 2) := by decide +kernel
theorem dX8_agrees_33 : decode cX8_agrees 33 = .ok (.iconst 2, 1) := by decide +kernel
theorem dX8_agrees_34 : decode cX8_agrees 34 = .ok (.if_icmp .le 7, 3) := by decide +kernel
theorem dX8_agrees_41 : decode cX8_agrees 41 = .ok (.aload_n 0, 1) := by decide +kernel
theorem dX8_agrees_42 : decode cX8_agrees 42 = .ok (.iload_n 1, 1) := by decide +kernel
theorem dX8_agrees_43 : decode cX8_agrees 43 = .ok (.invokevirtual 188, 3) := by decide +kernel
set_option maxRecDepth 20000 in
theorem ggX8_agrees_X8_isEmpty : GoodIn wsX8_agrees wsX8_isEmpty := goodIn_ca (goodIn_r _ [9, 1, 34, 35, 36, 37, 38, 39, 40, 41, 42, 43, 44, 45, 46, 47, 48, 49, 50, 51, 52, 53, 54, 55, 56, 57, 58, 59, 60, 61, 62, 63, 64] (by decide +kernel) (by decide +kernel)) (goodIn_sub (fun _ h => List.mem_cons_of_mem _ (List.mem_append_right _ h)) (by decide +kernel))
set_option maxRecDepth 20000 in
theorem gX8_agrees_X8_isEmpty : GoodIn wsX8_agrees (wsV RX8 188 RX8 yX8_isEmpty wsX8_isEmpty) := goodIn_app (goodIn_of _ (by decide +kernel)) ggX8_agrees_X8_isEmpty
theorem dX8_agrees_46 : decode cX8_agrees 46 = .ok (.ifCond .ne 19, 3) := by decide +kernel
theorem dX8_agrees_65 : decode cX8_agrees 65 = .ok (.iconst 3, 1) := by decide +kernel
theorem dX8_agrees_66 : decode cX8_agrees 66 = .ok (.goto 4, 3) := by decide +kernel
theorem dX8_agrees_49 : decode cX8_agrees 49 = .ok (.aload_n 0, 1) := by decide +kernel
theorem dX8_agrees_50 : decode cX8_agrees 50 = .ok (.iload_n 2, 1) := by decide +kernel
theorem dX8_agrees_51 : decode cX8_agrees 51 = .ok (.invokevirtual 188, 3) := by decide +kernel
theorem dX8_agrees_54 : decode cX8_agrees 54 = .ok (.ifCond .ne 11, 3) := by decide +kernel
theorem dX8_agrees_57 : decode cX8_agrees 57 = .ok (.aload_n 0, 1) := by decide +kernel
theorem dX8_agrees_58 : decode cX8_agrees 58 = .ok (.iload_n 3, 1) := by decide +kernel
theorem dX8_agrees_59 : decode cX8_agrees 59 = .ok (.invokevirtual 188, 3) := by decide +kernel
theorem dX8_agrees_62 : decode cX8_agrees 62 = .ok (.ifCond .eq 7, 3) := by decide +kernel
theorem dX8_agrees_69 : decode cX8_agrees 69 = .ok (.iconst 0, 1) := by decide +kernel
theorem dX8_agrees_78 : decode cX8_agrees 78 = .ok (.iload 4, 2) := by decide +kernel
theorem dX8_agrees_80 : decode cX8_agrees 80 = .ok (.invokestatic 222, 3) := by decide +kernel
set_option maxRecDepth 20000 in
theorem ggX8_agrees_X8_signOf : GoodIn wsX8_agrees wsX8_signOf := goodIn_r _ [17] (by decide +kernel) (by decide +kernel)
set_option maxRecDepth 20000 in
theorem gX8_agrees_X8_signOf : GoodIn wsX8_agrees (va_wsS RX8 222 yX8_signOf wsX8_signOf) := goodIn_app (goodIn_of _ (by decide +kernel)) ggX8_agrees_X8_signOf
theorem yY_X8_signOf : jY yX8_signOf wsX8_signOf cX8_signOf 1 (some .int) 1 := ⟨⟨_, rfl⟩, by decide +kernel, by decide +kernel, by decide +kernel⟩
theorem dX8_agrees_83 : decode cX8_agrees 83 = .ok (.istore 5, 2) := by decide +kernel
theorem dX8_agrees_88 : decode cX8_agrees 88 = .ok (.iload 6, 2) := by decide +kernel
theorem dX8_agrees_90 : decode cX8_agrees 90 = .ok (.aload_n 0, 1) := by decide +kernel
theorem dX8_agrees_91 : decode cX8_agrees 91 = .ok (.getfield 9, 3) := by decide +kernel
theorem dX8_agrees_94 : decode cX8_agrees 94 = .ok (.sipush 396, 3) := by decide +kernel
theorem dX8_agrees_97 : decode cX8_agrees 97 = .ok (.iaload, 1) := by decide +kernel
theorem dX8_agrees_98 : decode cX8_agrees 98 = .ok (.if_icmp .ge 34, 3) := by decide +kernel
theorem dX8_agrees_135 : decode cX8_agrees 135 = .ok (.iload 6, 2) := by decide +kernel
theorem dX8_agrees_137 : decode cX8_agrees 137 = .ok (.iconst 3, 1) := by decide +kernel
theorem dX8_agrees_138 : decode cX8_agrees 138 = .ok (.if_icmp .ge 102, 3) := by decide +kernel
theorem dX8_agrees_240 : decode cX8_agrees 240 = .ok (.iconst 1, 1) := by decide +kernel
theorem dX8_agrees_241 : decode cX8_agrees 241 = .ok (.ireturn, 1) := by decide +kernel
theorem dX8_agrees_163 : decode cX8_agrees 163 = .ok (.iconst 1, 1) := by decide +kernel
theorem dX8_agrees_166 : decode cX8_agrees 166 = .ok (.iload 8, 2) := by decide +kernel
theorem dX8_agrees_168 : decode cX8_agrees 168 = .ok (.iconst 2, 1) := by decide +kernel
theorem dX8_agrees_169 : decode cX8_agrees 169 = .ok (.aload_n 0, 1) := by decide +kernel
theorem dX8_agrees_170 : decode cX8_agrees 170 = .ok (.getfield 9, 3) := by decide +kernel
theorem dX8_agrees_173 : decode cX8_agrees 173 = .ok (.bipush 33, 2) := by decide +kernel
theorem dX8_agrees_175 : decode cX8_agrees 175 = .ok (.iload 7, 2) := by decide +kernel
theorem dX8_agrees_177 : decode cX8_agrees 177 = .ok (.imul, 1) := by decide +kernel
theorem dX8_agrees_178 : decode cX8_agrees 178 = .ok (.iaload, 1) := by decide +kernel
theorem dX8_agrees_179 : decode cX8_agrees 179 = .ok (.imul, 1) := by decide +kernel
theorem dX8_agrees_180 : decode cX8_agrees 180 = .ok (.if_icmp .gt 54, 3) := by decide +kernel
theorem dX8_agrees_234 : decode cX8_agrees 234 = .ok (.iinc 6 1, 3) := by decide +kernel
theorem dX8_agrees_237 : decode cX8_agrees 237 = .ok (.goto (-102), 3) := by decide +kernel
theorem dX8_agrees_183 : decode cX8_agrees 183 = .ok (.iconst (-1), 1) := by decide +kernel
theorem dX8_agrees_184 : decode cX8_agrees 184 = .ok (.istore 9, 2) := by decide +kernel
theorem dX8_agrees_186 : decode cX8_agrees 186 = .ok (.iload 9, 2) := by decide +kernel
theorem dX8_agrees_188 : decode cX8_agrees 188 = .ok (.iconst 1, 1) := by decide +kernel
theorem dX8_agrees_189 : decode cX8_agrees 189 = .ok (.if_icmp .gt 39, 3) := by decide +kernel
theorem dX8_agrees_192 : decode cX8_agrees 192 = .ok (.aload_n 0, 1) := by decide +kernel
theorem dX8_agrees_193 : decode cX8_agrees 193 = .ok (.aload_n 0, 1) := by decide +kernel
theorem dX8_agrees_194 : decode cX8_agrees 194 = .ok (.getfield 9, 3) := by decide +kernel
theorem dX8_agrees_197 : decode cX8_agrees 197 = .ok (.bipush 33, 2) := by decide +kernel
theorem dX8_agrees_199 : decode cX8_agrees 199 = .ok (.iload 7, 2) := by decide +kernel
theorem dX8_agrees_201 : decode cX8_agrees 201 = .ok (.imul, 1) := by decide +kernel
theorem dX8_agrees_202 : decode cX8_agrees 202 = .ok (.iload 8, 2) := by decide +kernel
theorem dX8_agrees_204 : decode cX8_agrees 204 = .ok (.iadd, 1) := by decide +kernel
theorem dX8_agrees_205 : decode cX8_agrees 205 = .ok (.iaload, 1) := by decide +kernel
theorem dX8_agrees_206 : decode cX8_agrees 206 = .ok (.iload 9, 2) := by decide +kernel
theorem dX8_agrees_208 : decode cX8_agrees 208 = .ok (.iadd, 1) := by decide +kernel
theorem dX8_agrees_209 : decode cX8_agrees 209 = .ok (.iload_n 1, 1) := by decide +kernel
theorem dX8_agrees_210 : decode cX8_agrees 210 = .ok (.iload_n 2, 1) := by decide +kernel
theorem dX8_agrees_211 : decode cX8_agrees 211 = .ok (.iload_n 3, 1) := by decide +kernel
theorem dX8_agrees_212 : decode cX8_agrees 212 = .ok (.iload 5, 2) := by decide +kernel
theorem dX8_agrees_214 : decode cX8_agrees 214 = .ok (.invokevirtual 225, 3) := by decide +kernel
set_option maxRecDepth 20000 in
theorem ggX8_agrees_X8_agreesAt : GoodIn wsX8_agrees wsX8_agreesAt := goodIn_ca (goodIn_r _ [21, 1, 22, 23, 4, 24, 25, 26, 27, 28, 29, 30, 31, 32, 33, 34, 35, 36, 37, 38, 39, 40, 41, 42, 43, 44, 45, 46, 47, 48, 49, 50, 51, 52, 53, 54, 55, 56, 57, 58, 59, 60, 61, 62, 63, 64] (by decide +kernel) (by decide +kernel)) (goodIn_sub (fun _ h => List.mem_cons_of_mem _ (List.mem_append_right _ h)) (by decide +kernel))
set_option maxRecDepth 20000 in
theorem gX8_agrees_X8_agreesAt : GoodIn wsX8_agrees (wsV RX8 225 RX8 yX8_agreesAt wsX8_agreesAt) := goodIn_app (goodIn_of _ (by decide +kernel)) ggX8_agrees_X8_agreesAt
theorem yY_X8_agreesAt : jY yX8_agreesAt wsX8_agreesAt cX8_agreesAt 6 (some .boolean) 5 := ⟨⟨_, rfl⟩, by decide +kernel, by decide +kernel, by decide +kernel⟩
theorem dX8_agrees_217 : decode cX8_agrees 217 = .ok (.ifCond .ne 5, 3) := by decide +kernel
theorem dX8_agrees_222 : decode cX8_agrees 222 = .ok (.iinc 9 1, 3) := by decide +kernel
theorem dX8_agrees_225 : decode cX8_agrees 225 = .ok (.goto (-39), 3) := by decide +kernel
theorem dX8_agrees_228 : decode cX8_agrees 228 = .ok (.iinc 8 1, 3) := by decide +kernel
theorem dX8_agrees_231 : decode cX8_agrees 231 = .ok (.goto (-65), 3) := by decide +kernel
theorem dX8_agrees_220 : decode cX8_agrees 220 = .ok (.iconst 0, 1) := by decide +kernel
theorem dX8_agrees_221 : decode cX8_agrees 221 = .ok (.ireturn, 1) := by decide +kernel
theorem dX8_agrees_164 : decode cX8_agrees 164 = .ok (.istore 8, 2) := by decide +kernel
theorem dX8_agrees_141 : decode cX8_agrees 141 = .ok (.iload 6, 2) := by decide +kernel
theorem dX8_agrees_143 : decode cX8_agrees 143 = .ok (.ifCond .ne 7, 3) := by decide +kernel
theorem dX8_agrees_150 : decode cX8_agrees 150 = .ok (.iload 6, 2) := by decide +kernel
theorem dX8_agrees_152 : decode cX8_agrees 152 = .ok (.iconst 1, 1) := by decide +kernel
theorem dX8_agrees_153 : decode cX8_agrees 153 = .ok (.if_icmp .ne 7, 3) := by decide +kernel
theorem dX8_agrees_160 : decode cX8_agrees 160 = .ok (.iload_n 3, 1) := by decide +kernel
theorem dX8_agrees_161 : decode cX8_agrees 161 = .ok (.istore 7, 2) := by decide +kernel
theorem dX8_agrees_156 : decode cX8_agrees 156 = .ok (.iload_n 2, 1) := by decide +kernel
theorem dX8_agrees_157 : decode cX8_agrees 157 = .ok (.goto 4, 3) := by decide +kernel
theorem dX8_agrees_146 : decode cX8_agrees 146 = .ok (.iload_n 1, 1) := by decide +kernel
theorem dX8_agrees_147 : decode cX8_agrees 147 = .ok (.goto 14, 3) := by decide +kernel
theorem dX8_agrees_132 : decode cX8_agrees 132 = .ok (.iconst 0, 1) := by decide +kernel
theorem dX8_agrees_133 : decode cX8_agrees 133 = .ok (.istore 6, 2) := by decide +kernel
theorem dX8_agrees_101 : decode cX8_agrees 101 = .ok (.aload_n 0, 1) := by decide +kernel
theorem dX8_agrees_102 : decode cX8_agrees 102 = .ok (.aload_n 0, 1) := by decide +kernel
theorem dX8_agrees_103 : decode cX8_agrees 103 = .ok (.getfield 9, 3) := by decide +kernel
theorem dX8_agrees_106 : decode cX8_agrees 106 = .ok (.sipush 397, 3) := by decide +kernel
theorem dX8_agrees_109 : decode cX8_agrees 109 = .ok (.iload 6, 2) := by decide +kernel
theorem dX8_agrees_111 : decode cX8_agrees 111 = .ok (.iadd, 1) := by decide +kernel
theorem dX8_agrees_112 : decode cX8_agrees 112 = .ok (.iaload, 1) := by decide +kernel
theorem dX8_agrees_113 : decode cX8_agrees 113 = .ok (.iload_n 1, 1) := by decide +kernel
theorem dX8_agrees_114 : decode cX8_agrees 114 = .ok (.iload_n 2, 1) := by decide +kernel
theorem dX8_agrees_115 : decode cX8_agrees 115 = .ok (.iload_n 3, 1) := by decide +kernel
theorem dX8_agrees_116 : decode cX8_agrees 116 = .ok (.iload 5, 2) := by decide +kernel
theorem dX8_agrees_118 : decode cX8_agrees 118 = .ok (.invokevirtual 225, 3) := by decide +kernel
theorem dX8_agrees_121 : decode cX8_agrees 121 = .ok (.ifCond .ne 5, 3) := by decide +kernel
theorem dX8_agrees_126 : decode cX8_agrees 126 = .ok (.iinc 6 1, 3) := by decide +kernel
theorem dX8_agrees_129 : decode cX8_agrees 129 = .ok (.goto (-41), 3) := by decide +kernel
theorem dX8_agrees_124 : decode cX8_agrees 124 = .ok (.iconst 0, 1) := by decide +kernel
theorem dX8_agrees_125 : decode cX8_agrees 125 = .ok (.ireturn, 1) := by decide +kernel
theorem dX8_agrees_85 : decode cX8_agrees 85 = .ok (.iconst 0, 1) := by decide +kernel
theorem dX8_agrees_86 : decode cX8_agrees 86 = .ok (.istore 6, 2) := by decide +kernel
set_option maxHeartbeats 400000 in
set_option maxRecDepth 20000 in
theorem ct_X8_agrees (l : Launch) (D : va_G) (dA : Nat → ClassId) (hst : l.stackTraces = false) (M : jM) (m : Nat) (A : cA) (hA : mAb M m A) (hW : zWf (cNw A))(s t u op : Int32) : jCT l D dA yX8_agrees wsX8_agrees (23) (480) (0) (0) 1 [.ref (m), .int (s), .int (t), .int (u), .int (op)] M (mRl M m [xIOOBE, xIAE, xNSE] ((sAgr A s t u op).1) A) := by
  refine jBody (cc := cX8_agrees) (nL := 10) (rt := (some .boolean)) (ini := false) (by decide) rfl hst (Nat.le_of_ble_eq_true rfl) (by simp [Value.category]) (by intro h9; first | exact absurd h9 (by decide) | rfl) ?_
  show J l D dA RX8 cX8_agrees wsX8_agrees 10 false (some .boolean) [] (23) (480) (jF D dA (jn M) (mRl M m [xIOOBE, xIAE, xNSE] ((sAgr A s t u op).1) A) 1) (jn M) (0) (0) (M) 0 [.ref (m), .int (s), .int (t), .int (u), .int (op), .float 0, .float 0, .float 0, .float 0, .float 0] []
  obtain ⟨hM, hz, ⟨hKn, hK8, hKs⟩, ⟨hHs, hHz⟩, ⟨hLn, hL6, hLc⟩, hFl, ⟨hRs, hRp⟩, hCh⟩ := id hA
  obtain ⟨m1, m2, ⟨r1, r2, r3, r4, r5, r6, r7, r8, r9, r10, r11, r12, r13⟩, ⟨k1, k2, k3, k4, k5, k6, k7, k8, k9, k10, k11, k12, k13⟩, z1, z2, z3, z4, z5, z6, z7, z8, z9, z10, z11, z12, z13⟩ := id hM
  have hc30 := hz.2.2.1
  refine J_aload_n (m) dX8_agrees_0 rfl rfl ?_
  refine J_iload_n dX8_agrees_1 rfl rfl ?_
  refine J_calli0 (jrunS (As := [.int (s)]) (ct_X8_isSlot l D dA hst M ((s))) dX8_agrees_2 yY_X8_isSlot gX8_agrees_X8_isSlot rfl ⟨by omega, by omega⟩ ⟨Nat.zero_le _, Nat.zero_le _⟩ rfl (Nat.le_of_ble_eq_true rfl)) (rfl) (rfl) ?_
  refine J_if_eq dX8_agrees_5 (tgt := 22) (by decide) (fun c5 => ?_) (fun c5 => ?_)
  · have c5 := jb0T c5
    refine J_iconst (x := 1) dX8_agrees_22 (by decide) ?_
    refine J_goto (tgt := 70) dX8_agrees_23 (by decide) ?_
    refine J_calli0 (jrunV (As := [.int (1)]) (ct_X8_fails l D dA hst M m hM ((1))) dX8_agrees_70 yY_X8_fails gX8_agrees_X8_fails rfl cs11 (show m < jn M from by omega) m2 rfl ⟨by omega, by omega⟩ ⟨Nat.zero_le _, Nat.zero_le _⟩ rfl (Nat.le_of_ble_eq_true rfl)) (rfl) (rfl) ?_
    refine J_if_eq dX8_agrees_73 (tgt := 78) (by decide) (fun c73 => ?_) (fun c73 => ?_)
    · exact absurd c73 (by decide)
    · have c73 := jeqF (a := 1) (b := 0) (by omega) (by omega) c73
      refine J_iconst (x := 0) dX8_agrees_76 (by decide) ?_
      exact J_iret (ty := .boolean) dX8_agrees_77 rfl (by rfl) (by refine ⟨?_, (hA).si rfl, (mFr.rf).si ⟨by omega, by omega⟩, _, rfl⟩; exact mAg.x 0 xIOOBE rfl (by decide) ji_Sis (by unfold sAgr; first | (rw [sSl_f c5]; done) | (rw [sSl_t c5, sSl_f c12]; done) | (rw [sSl_t c5, sSl_t c12, sSl_f c19]; done)))
  · have c5 := jb0F c5
    refine J_iload_n dX8_agrees_8 rfl rfl ?_
    refine J_calli0 (jrunS (As := [.int (t)]) (ct_X8_isSlot l D dA hst M ((t))) dX8_agrees_9 yY_X8_isSlot gX8_agrees_X8_isSlot rfl ⟨by omega, by omega⟩ ⟨Nat.zero_le _, Nat.zero_le _⟩ rfl (Nat.le_of_ble_eq_true rfl)) (rfl) (rfl) ?_
    refine J_if_eq dX8_agrees_12 (tgt := 22) (by decide) (fun c12 => ?_) (fun c12 => ?_)
    · have c12 := jb0T c12
      refine J_iconst (x := 1) dX8_agrees_22 (by decide) ?_
      refine J_goto (tgt := 70) dX8_agrees_23 (by decide) ?_
      refine J_calli0 (jrunV (As := [.int (1)]) (ct_X8_fails l D dA hst M m hM ((1))) dX8_agrees_70 yY_X8_fails gX8_agrees_X8_fails rfl cs11 (show m < jn M from by omega) m2 rfl ⟨by omega, by omega⟩ ⟨Nat.zero_le _, Nat.zero_le _⟩ rfl (Nat.le_of_ble_eq_true rfl)) (rfl) (rfl) ?_
      refine J_if_eq dX8_agrees_73 (tgt := 78) (by decide) (fun c73 => ?_) (fun c73 => ?_)
      · exact absurd c73 (by decide)
      · have c73 := jeqF (a := 1) (b := 0) (by omega) (by omega) c73
        refine J_iconst (x := 0) dX8_agrees_76 (by decide) ?_
        exact J_iret (ty := .boolean) dX8_agrees_77 rfl (by rfl) (by refine ⟨?_, (hA).si rfl, (mFr.rf).si ⟨by omega, by omega⟩, _, rfl⟩; exact mAg.x 0 xIOOBE rfl (by decide) ji_Sis (by unfold sAgr; first | (rw [sSl_f c5]; done) | (rw [sSl_t c5, sSl_f c12]; done) | (rw [sSl_t c5, sSl_t c12, sSl_f c19]; done)))
    · have c12 := jb0F c12
      refine J_iload_n dX8_agrees_15 rfl rfl ?_
      refine J_calli0 (jrunS (As := [.int (u)]) (ct_X8_isSlot l D dA hst M ((u))) dX8_agrees_16 yY_X8_isSlot gX8_agrees_X8_isSlot rfl ⟨by omega, by omega⟩ ⟨Nat.zero_le _, Nat.zero_le _⟩ rfl (Nat.le_of_ble_eq_true rfl)) (rfl) (rfl) ?_
      refine J_if_ne dX8_agrees_19 (tgt := 26) (by decide) (fun c19 => ?_) (fun c19 => ?_)
      · have c19 := jb0F c19
        obtain ⟨s1, hs1, rfl⟩ := okSlot_of c5
        obtain ⟨s2, hs2, rfl⟩ := okSlot_of c12
        obtain ⟨s3, hs3, rfl⟩ := okSlot_of c19
        refine J_iload dX8_agrees_26 rfl ?_
        refine J_if_lt dX8_agrees_28 (tgt := 37) (by decide) (fun c28 => ?_) (fun c28 => ?_)
        · refine J_iconst (x := 2) dX8_agrees_37 (by decide) ?_
          refine J_goto (tgt := 70) dX8_agrees_38 (by decide) ?_
          refine J_calli0 (jrunV (As := [.int (2)]) (ct_X8_fails l D dA hst M m hM ((2))) dX8_agrees_70 yY_X8_fails gX8_agrees_X8_fails rfl cs11 (show m < jn M from by omega) m2 rfl ⟨by omega, by omega⟩ ⟨Nat.zero_le _, Nat.zero_le _⟩ rfl (Nat.le_of_ble_eq_true rfl)) (rfl) (rfl) ?_
          refine J_if_eq dX8_agrees_73 (tgt := 78) (by decide) (fun c73 => ?_) (fun c73 => ?_)
          · exact absurd c73 (by decide)
          · have c73 := jeqF (a := 1) (b := 0) (by omega) (by omega) c73
            refine J_iconst (x := 0) dX8_agrees_76 (by decide) ?_
            exact J_iret (ty := .boolean) dX8_agrees_77 rfl (by rfl) (by refine ⟨?_, (hA).si rfl, (mFr.rf).si ⟨by omega, by omega⟩, _, rfl⟩; exact mAg.x 1 xIAE rfl (by decide) ji_Sis (by unfold sAgr; rw [sSl_t c5, sSl_t c12, sSl_t c19, if_neg (okOp_out (by first | exact Or.inl c28 | exact Or.inr (Int32.not_le.mp c34) | exact Or.inr c34))]))
        · refine J_iload dX8_agrees_31 rfl ?_
          refine J_iconst (x := 2) dX8_agrees_33 (by decide) ?_
          refine J_icmp_le dX8_agrees_34 (tgt := 41) (by decide) (fun c34 => ?_) (fun c34 => ?_)
          · refine J_aload_n (m) dX8_agrees_41 rfl rfl ?_
            refine J_iload_n dX8_agrees_42 rfl rfl ?_
            refine J_calli0 (jrunV (As := [.int (nI (s1))]) (ct_X8_isEmpty l D dA hst M m hM s1 hs1 ((cNw A).1 s1) ((hz.at0 hs1))) dX8_agrees_43 yY_X8_isEmpty gX8_agrees_X8_isEmpty rfl cs11 (show m < jn M from by omega) m2 rfl ⟨by omega, by omega⟩ ⟨Nat.zero_le _, Nat.zero_le _⟩ rfl (Nat.le_of_ble_eq_true rfl)) (rfl) (rfl) ?_
            refine J_if_ne dX8_agrees_46 (tgt := 65) (by decide) (fun c46 => ?_) (fun c46 => ?_)
            · have c46 := jb0F c46
              refine J_iconst (x := 3) dX8_agrees_65 (by decide) ?_
              refine J_goto (tgt := 70) dX8_agrees_66 (by decide) ?_
              refine J_calli0 (jrunV (As := [.int (3)]) (ct_X8_fails l D dA hst M m hM ((3))) dX8_agrees_70 yY_X8_fails gX8_agrees_X8_fails rfl cs11 (show m < jn M from by omega) m2 rfl ⟨by omega, by omega⟩ ⟨Nat.zero_le _, Nat.zero_le _⟩ rfl (Nat.le_of_ble_eq_true rfl)) (rfl) (rfl) ?_
              refine J_if_eq dX8_agrees_73 (tgt := 78) (by decide) (fun c73 => ?_) (fun c73 => ?_)
              · exact absurd c73 (by decide)
              · have c73 := jeqF (a := 1) (b := 0) (by omega) (by omega) c73
                refine J_iconst (x := 0) dX8_agrees_76 (by decide) ?_
                exact J_iret (ty := .boolean) dX8_agrees_77 rfl (by rfl) (by refine ⟨?_, (hA).si rfl, (mFr.rf).si ⟨by omega, by omega⟩, _, rfl⟩; exact mAg.x 2 xNSE rfl (by decide) ji_Sis (by unfold sAgr; rw [sSl_t c5, sSl_t c12, sSl_t c19, if_pos (okOp_in c28 c34)]; first | (rw [sRn_n (by rw [cAt_n hs1]; exact none_of c46)]; done) | (obtain ⟨w1, hz1⟩ := some_of c46; rw [sRn_s (by rw [cAt_n hs1]; exact hz1)]; first | (rw [sRn_n (by rw [cAt_n hs2]; exact none_of c54)]; done) | (obtain ⟨w2, hz2⟩ := some_of c54; rw [sRn_s (by rw [cAt_n hs2]; exact hz2), sRn_n (by rw [cAt_n hs3]; exact none_of c62)]))))
            · have c46 := jb0T c46
              refine J_aload_n (m) dX8_agrees_49 rfl rfl ?_
              refine J_iload_n dX8_agrees_50 rfl rfl ?_
              refine J_calli0 (jrunV (As := [.int (nI (s2))]) (ct_X8_isEmpty l D dA hst M m hM s2 hs2 ((cNw A).1 s2) ((hz.at0 hs2))) dX8_agrees_51 yY_X8_isEmpty gX8_agrees_X8_isEmpty rfl cs11 (show m < jn M from by omega) m2 rfl ⟨by omega, by omega⟩ ⟨Nat.zero_le _, Nat.zero_le _⟩ rfl (Nat.le_of_ble_eq_true rfl)) (rfl) (rfl) ?_
              refine J_if_ne dX8_agrees_54 (tgt := 65) (by decide) (fun c54 => ?_) (fun c54 => ?_)
              · have c54 := jb0F c54
                refine J_iconst (x := 3) dX8_agrees_65 (by decide) ?_
                refine J_goto (tgt := 70) dX8_agrees_66 (by decide) ?_
                refine J_calli0 (jrunV (As := [.int (3)]) (ct_X8_fails l D dA hst M m hM ((3))) dX8_agrees_70 yY_X8_fails gX8_agrees_X8_fails rfl cs11 (show m < jn M from by omega) m2 rfl ⟨by omega, by omega⟩ ⟨Nat.zero_le _, Nat.zero_le _⟩ rfl (Nat.le_of_ble_eq_true rfl)) (rfl) (rfl) ?_
                refine J_if_eq dX8_agrees_73 (tgt := 78) (by decide) (fun c73 => ?_) (fun c73 => ?_)
                · exact absurd c73 (by decide)
                · have c73 := jeqF (a := 1) (b := 0) (by omega) (by omega) c73
                  refine J_iconst (x := 0) dX8_agrees_76 (by decide) ?_
                  exact J_iret (ty := .boolean) dX8_agrees_77 rfl (by rfl) (by refine ⟨?_, (hA).si rfl, (mFr.rf).si ⟨by omega, by omega⟩, _, rfl⟩; exact mAg.x 2 xNSE rfl (by decide) ji_Sis (by unfold sAgr; rw [sSl_t c5, sSl_t c12, sSl_t c19, if_pos (okOp_in c28 c34)]; first | (rw [sRn_n (by rw [cAt_n hs1]; exact none_of c46)]; done) | (obtain ⟨w1, hz1⟩ := some_of c46; rw [sRn_s (by rw [cAt_n hs1]; exact hz1)]; first | (rw [sRn_n (by rw [cAt_n hs2]; exact none_of c54)]; done) | (obtain ⟨w2, hz2⟩ := some_of c54; rw [sRn_s (by rw [cAt_n hs2]; exact hz2), sRn_n (by rw [cAt_n hs3]; exact none_of c62)]))))
              · have c54 := jb0T c54
                refine J_aload_n (m) dX8_agrees_57 rfl rfl ?_
                refine J_iload_n dX8_agrees_58 rfl rfl ?_
                refine J_calli0 (jrunV (As := [.int (nI (s3))]) (ct_X8_isEmpty l D dA hst M m hM s3 hs3 ((cNw A).1 s3) ((hz.at0 hs3))) dX8_agrees_59 yY_X8_isEmpty gX8_agrees_X8_isEmpty rfl cs11 (show m < jn M from by omega) m2 rfl ⟨by omega, by omega⟩ ⟨Nat.zero_le _, Nat.zero_le _⟩ rfl (Nat.le_of_ble_eq_true rfl)) (rfl) (rfl) ?_
                refine J_if_eq dX8_agrees_62 (tgt := 69) (by decide) (fun c62 => ?_) (fun c62 => ?_)
                · have c62 := jb0T c62
                  refine J_iconst (x := 0) dX8_agrees_69 (by decide) ?_
                  refine J_calli0 (jrunV (As := [.int (0)]) (ct_X8_fails l D dA hst M m hM ((0))) dX8_agrees_70 yY_X8_fails gX8_agrees_X8_fails rfl cs11 (show m < jn M from by omega) m2 rfl ⟨by omega, by omega⟩ ⟨Nat.zero_le _, Nat.zero_le _⟩ rfl (Nat.le_of_ble_eq_true rfl)) (rfl) (rfl) ?_
                  refine J_if_eq dX8_agrees_73 (tgt := 78) (by decide) (fun c73 => ?_) (fun c73 => ?_)
                  · have c73 := jeqT (a := 0) (b := 0) (by omega) (by omega) c73
                    obtain ⟨w1, hz1⟩ := some_of c46
                    have hx1 := hz.at0 hs1
                    rw [hz1] at hx1
                    have h161 := hx1.2.1
                    have hw1 := hW.1 _ _ hz1
                    obtain ⟨w2, hz2⟩ := some_of c54
                    have hx2 := hz.at0 hs2
                    rw [hz2] at hx2
                    have h162 := hx2.2.1
                    have hw2 := hW.1 _ _ hz2
                    obtain ⟨w3, hz3⟩ := some_of c62
                    have hx3 := hz.at0 hs3
                    rw [hz3] at hx3
                    have h163 := hx3.2.1
                    have hw3 := hW.1 _ _ hz3
                    have hop := okOp_in c28 c34
                    refine J_iload dX8_agrees_78 rfl ?_
                    refine J_calli0 (jrunS (As := [.int (op)]) (ct_X8_signOf l D dA hst (jSi M m 11 ((0))) ((op))) dX8_agrees_80 yY_X8_signOf gX8_agrees_X8_signOf rfl ⟨by omega, by omega⟩ ⟨Nat.zero_le _, Nat.zero_le _⟩ rfl (Nat.le_of_ble_eq_true rfl)) (rfl) (rfl) ?_
                    refine J_istore (lv' := [.ref (m), .int (nI (s1)), .int (nI (s2)), .int (nI (s3)), .int (op), .int (sgn ((op))), .float 0, .float 0, .float 0, .float 0]) dX8_agrees_83 (by decide) rfl rfl ?_
                    refine J_mem (M' := jSi (jSi M m 11 (0)) m 14 (ji M m 14)) (by exact (jSi_self (ji_Sik (by decide))).symm) ?_
                    have L88 : ∀ (fuel : Nat) (j : Nat) (y : Int32) (hj : j ≤ (cNw A).2.1) (hI : jall (fun k => agA (sgn op) w1 w2 w3 ((cNw A).2.2 k)) j = true), (cNw A).2.1 - j < fuel → J l D dA RX8 cX8_agrees wsX8_agrees 10 false (some .boolean) [] (23) (480) (jF D dA (jn M) (mRl M m [xIOOBE, xIAE, xNSE] ((sAgr A (nI s1) (nI s2) (nI s3) op).1) A) 1) (jn M) (0) (0) ((jSi (jSi M m 11 (0)) m 14 y)) 88 [.ref (m), .int (nI (s1)), .int (nI (s2)), .int (nI (s3)), .int (op), .int (sgn op), .int (nI (j)), .float 0, .float 0, .float 0] [] := by
                      intro fuel
                      induction fuel with
                      | zero => intro j y hj hI hm; exact absurd hm (Nat.not_lt_zero _)
                      | succ fuel ih88 =>
                        intro j y hj hI hm88
                        refine J_iload dX8_agrees_88 rfl ?_
                        refine J_aload_n (m) dX8_agrees_90 rfl rfl ?_
                        refine J_getrs (q := m + 1) r1 dX8_agrees_91 (fun _ h => List.mem_cons_of_mem _ (List.mem_append_left _ (List.mem_append_right _ (h)))) cs11 (by decide) rfl (List.mem_of_getElem? (i := 1) rfl) rfl (show m < jn M from by omega) m2 ?_
                        refine J_sipush (x := 396) dX8_agrees_94 (by decide) ?_
                        refine J_ialdN (k := 396) dX8_agrees_97 (show m + 1 < jn M from by omega) k1 (by exact Nat.lt_of_lt_of_eq (show _ < 427 by omega) (Eq.symm z1)) (by exact Nat.lt_of_le_of_lt (Nat.le_of_eq z1) (show 427 < 2 ^ 31 by omega)) ?_
                        refine J_topi (y := nI ((cNw A).2.1)) (by rw [ji_Sin (by omega), ji_Sin (by omega)]; exact hz.2.1) ?_
                        refine J_icmp_ge dX8_agrees_98 (tgt := 132) (by decide) (fun c98 => ?_) (fun c98 => ?_)
                        · have c98 := jleT (a := (cNw A).2.1) (b := j) (by omega) (by omega) c98
                          obtain rfl : j = (cNw A).2.1 := by omega
                          have L135 : ∀ (fuel : Nat) (q : Nat) (y : Int32) (hq : q ≤ 3) (hQ : ∀ i, i < q → agQ (sgn op) w1 w2 w3 i = true), 3 - q < fuel → J l D dA RX8 cX8_agrees wsX8_agrees 10 false (some .boolean) [] (23) (480) (jF D dA (jn M) (mRl M m [xIOOBE, xIAE, xNSE] ((sAgr A (nI s1) (nI s2) (nI s3) op).1) A) 1) (jn M) (0) (0) ((jSi (jSi M m 11 (0)) m 14 y)) 135 [.ref (m), .int (nI (s1)), .int (nI (s2)), .int (nI (s3)), .int (op), .int (sgn op), .int (nI (q)), .float 0, .float 0, .float 0] [] := by
                            intro fuel
                            induction fuel with
                            | zero => intro q y hq hQ hm; exact absurd hm (Nat.not_lt_zero _)
                            | succ fuel ih135 =>
                              intro q y hq hQ hm135
                              refine J_iload dX8_agrees_135 rfl ?_
                              refine J_iconst (x := 3) dX8_agrees_137 (by decide) ?_
                              refine J_icmp_ge dX8_agrees_138 (tgt := 240) (by decide) (fun c138 => ?_) (fun c138 => ?_)
                              · have c138 := jleT (a := 3) (b := q) (by omega) (by omega) c138
                                refine J_iconst (x := 1) dX8_agrees_240 (by decide) ?_
                                exact J_iret (ty := .boolean) dX8_agrees_241 rfl (by rfl) (by refine ⟨Or.inl ⟨?_, ?_⟩, ((hA).si rfl).si rfl, ((mFr.rf).si ⟨by omega, by omega⟩).si ⟨by omega, by omega⟩, _, rfl⟩; (rw [ji_Sik (by decide)]; exact ji_Sis); (unfold sAgr; rw [sSl_t c5, sSl_t c12, sSl_t c19, if_pos hop, sRn_s (by rw [cAt_n hs1]; exact hz1), sRn_s (by rw [cAt_n hs2]; exact hz2), sRn_s (by rw [cAt_n hs3]; exact hz3)]; rw [agV_t hop hw1 hw2 hw3 hW.2.1 hI (fun i hi => hQ i (by omega))]; rfl))
                              · have c138 := jleF (a := 3) (b := q) (by omega) (by omega) c138
                                have hxs : mSlot (ji M (m + 1)) (33 * agK s1 s2 s3 q) (some (agW w1 w2 w3 q)) := by unfold agK agW; split; exact hx1; split; exact hx2; exact hx3
                                have hks : agK s1 s2 s3 q < 12 := by unfold agK; split; exact hs1; split; exact hs2; exact hs3
                                have h16q := hxs.2.1
                                have L163 : J l D dA RX8 cX8_agrees wsX8_agrees 10 false (some .boolean) [] (23) (480) (jF D dA (jn M) (mRl M m [xIOOBE, xIAE, xNSE] ((sAgr A (nI s1) (nI s2) (nI s3) op).1) A) 1) (jn M) (0) (0) ((jSi (jSi M m 11 (0)) m 14 y)) 163 [.ref (m), .int (nI (s1)), .int (nI (s2)), .int (nI (s3)), .int (op), .int (sgn op), .int (nI (q)), .int (nI (agK s1 s2 s3 q)), .float 0, .float 0] [] := by
                                  refine J_iconst (x := 1) dX8_agrees_163 (by decide) ?_
                                  have L166 : ∀ (fuel : Nat) (e : Nat) (y : Int32) (he : e ≤ 2 * (agW w1 w2 w3 q).1) (hR : jall (fun t => cRound (agA (sgn op) w1 w2 w3) ((agW w1 w2 w3 q).2 t)) e = true), 2 * (agW w1 w2 w3 q).1 - e < fuel → J l D dA RX8 cX8_agrees wsX8_agrees 10 false (some .boolean) [] (23) (480) (jF D dA (jn M) (mRl M m [xIOOBE, xIAE, xNSE] ((sAgr A (nI s1) (nI s2) (nI s3) op).1) A) 1) (jn M) (0) (0) ((jSi (jSi M m 11 (0)) m 14 y)) 166 [.ref (m), .int (nI (s1)), .int (nI (s2)), .int (nI (s3)), .int (op), .int (sgn op), .int (nI (q)), .int (nI (agK s1 s2 s3 q)), .int (nI (e + 1)), .float 0] [] := by
                                    intro fuel
                                    induction fuel with
                                    | zero => intro e y he hR hm; exact absurd hm (Nat.not_lt_zero _)
                                    | succ fuel ih166 =>
                                      intro e y he hR hm166
                                      refine J_iload dX8_agrees_166 rfl ?_
                                      refine J_iconst (x := 2) dX8_agrees_168 (by decide) ?_
                                      refine J_aload_n (m) dX8_agrees_169 rfl rfl ?_
                                      refine J_getrs (q := m + 1) r1 dX8_agrees_170 (fun _ h => List.mem_cons_of_mem _ (List.mem_append_left _ (List.mem_append_right _ (h)))) cs11 (by decide) rfl (List.mem_of_getElem? (i := 1) rfl) rfl (show m < jn M from by omega) m2 ?_
                                      refine J_bipush (x := 33) dX8_agrees_173 (by decide) ?_
                                      refine J_iload dX8_agrees_175 rfl ?_
                                      refine J_imul dX8_agrees_177 ?_
                                      refine J_topi (y := nI (33 * (agK s1 s2 s3 q))) (pk_mul (33) (agK s1 s2 s3 q)) ?_
                                      refine J_ialdN (k := 33 * (agK s1 s2 s3 q)) dX8_agrees_178 (show m + 1 < jn M from by omega) k1 (by exact Nat.lt_of_lt_of_eq (show _ < 427 by omega) (Eq.symm z1)) (by exact Nat.lt_of_le_of_lt (Nat.le_of_eq z1) (show 427 < 2 ^ 31 by omega)) ?_
                                      refine J_topi (y := nI ((agW w1 w2 w3 q).1)) (by rw [ji_Sin (by omega), ji_Sin (by omega)]; exact hxs.hd) ?_
                                      refine J_imul dX8_agrees_179 ?_
                                      refine J_topi (y := nI (2 * ((agW w1 w2 w3 q).1))) (pk_mul (2) ((agW w1 w2 w3 q).1)) ?_
                                      refine J_icmp_gt dX8_agrees_180 (tgt := 234) (by decide) (fun c180 => ?_) (fun c180 => ?_)
                                      · have c180 := jltT (a := 2 * ((agW w1 w2 w3 q).1)) (b := e + 1) (by omega) (by omega) c180
                                        refine J_iinc (y := nI (q + 1)) (lv' := [.ref (m), .int (nI (s1)), .int (nI (s2)), .int (nI (s3)), .int (op), .int (sgn op), .int (nI (q + 1)), .int (nI (agK s1 s2 s3 q)), .int (nI (e + 1)), .float 0]) dX8_agrees_234 rfl (jinc (q)) (by decide) rfl rfl ?_
                                        refine J_goto (tgt := 135) dX8_agrees_237 (by decide) ?_
                                        refine J_fg 7 (lv' := [.ref (m), .int (nI (s1)), .int (nI (s2)), .int (nI (s3)), .int (op), .int (sgn op), .int (nI (q + 1)), .float 0, .int (nI (e + 1)), .float 0]) rfl ?_
                                        refine J_fg 8 (lv' := [.ref (m), .int (nI (s1)), .int (nI (s2)), .int (nI (s3)), .int (op), .int (sgn op), .int (nI (q + 1)), .float 0, .float 0, .float 0]) rfl ?_
                                        exact ih135 (q + 1) (y) (by omega) (by intro i hi; rcases Nat.lt_succ_iff_lt_or_eq.mp hi with h9 | rfl; exact hQ i h9; unfold agQ; rw [show 2 * (agW w1 w2 w3 i).1 = e from by omega]; exact hR) (by omega)
                                      · have c180 := jltF (a := 2 * ((agW w1 w2 w3 q).1)) (b := e + 1) (by omega) (by omega) c180
                                        refine J_iconst (x := (-1)) dX8_agrees_183 (by decide) ?_
                                        refine J_istore (lv' := [.ref (m), .int (nI (s1)), .int (nI (s2)), .int (nI (s3)), .int (op), .int (sgn op), .int (nI (q)), .int (nI (agK s1 s2 s3 q)), .int (nI (e + 1)), .int (-1)]) dX8_agrees_184 (by decide) rfl rfl ?_
                                        refine J_iload dX8_agrees_186 rfl ?_
                                        refine J_iconst (x := 1) dX8_agrees_188 (by decide) ?_
                                        refine J_icmp_gt dX8_agrees_189 (tgt := 228) (by decide) (fun c189 => ?_) (fun c189 => ?_)
                                        · exact absurd c189 (by decide)
                                        · refine J_aload_n (m) dX8_agrees_192 rfl rfl ?_
                                          refine J_aload_n (m) dX8_agrees_193 rfl rfl ?_
                                          refine J_getrs (q := m + 1) r1 dX8_agrees_194 (fun _ h => List.mem_cons_of_mem _ (List.mem_append_left _ (List.mem_append_right _ (h)))) cs11 (by decide) rfl (List.mem_of_getElem? (i := 1) rfl) rfl (show m < jn M from by omega) m2 ?_
                                          refine J_bipush (x := 33) dX8_agrees_197 (by decide) ?_
                                          refine J_iload dX8_agrees_199 rfl ?_
                                          refine J_imul dX8_agrees_201 ?_
                                          refine J_topi (y := nI (33 * (agK s1 s2 s3 q))) (pk_mul (33) (agK s1 s2 s3 q)) ?_
                                          refine J_iload dX8_agrees_202 rfl ?_
                                          refine J_iadd dX8_agrees_204 ?_
                                          refine J_topi (y := nI (33 * (agK s1 s2 s3 q) + e + 1)) (nI_add (33 * (agK s1 s2 s3 q)) (e + 1)) ?_
                                          refine J_ialdN (k := 33 * (agK s1 s2 s3 q) + e + 1) dX8_agrees_205 (show m + 1 < jn M from by omega) k1 (by exact Nat.lt_of_lt_of_eq (show _ < 427 by omega) (Eq.symm z1)) (by exact Nat.lt_of_le_of_lt (Nat.le_of_eq z1) (show 427 < 2 ^ 31 by omega)) ?_
                                          refine J_topi (y := ((agW w1 w2 w3 q).2 e)) (by rw [ji_Sin (by omega), ji_Sin (by omega)]; exact (congrArg _ (by omega)).trans (hxs.2.2 e (by omega))) ?_
                                          refine J_iload dX8_agrees_206 rfl ?_
                                          refine J_iadd dX8_agrees_208 ?_
                                          refine J_iload_n dX8_agrees_209 rfl rfl ?_
                                          refine J_iload_n dX8_agrees_210 rfl rfl ?_
                                          refine J_iload_n dX8_agrees_211 rfl rfl ?_
                                          refine J_iload dX8_agrees_212 rfl ?_
                                          refine J_calli (jrunV (As := [.int (((agW w1 w2 w3 q).2 e) + (-1)), .int (nI (s1)), .int (nI (s2)), .int (nI (s3)), .int (sgn op)]) (ct_X8_agreesAt l D dA hst ((jSi (jSi M m 11 (0)) m 14 y)) m hM s1 s2 s3 hs1 hs2 hs3 w1 w2 w3 hw1 hw2 hw3 (((hx1).si (by omega)).si (by omega)) (((hx2).si (by omega)).si (by omega)) (((hx3).si (by omega)).si (by omega)) ((((agW w1 w2 w3 q).2 e) + (-1))) (sgn op)) dX8_agrees_214 yY_X8_agreesAt gX8_agrees_X8_agreesAt rfl cs11 (show m < jn M from by omega) m2 rfl ⟨by omega, by omega⟩ ⟨Nat.zero_le _, Nat.zero_le _⟩ rfl (Nat.le_of_ble_eq_true rfl)) ⟨Nat.zero_le _, Nat.zero_le _⟩ (Or.inr ⟨(jOk.ref (show m < jn M from by omega) (jOk.int (jOk.int (jOk.int (jOk.int (jOk.int (jOk.int (jOk.int (jOk.int (jOk.int jOk.nil)))))))))), jOk.nil⟩) (fun E M9 hp _ => by obtain ⟨_, h1, _⟩ := hp; cases h1) (fun x9 M1 hp214 hle214 => ?_)
                                          obtain ⟨xa214, he, rfl⟩ := hp214
                                          have he := jI_inj he
                                          refine J_topi (y := jb (agA (sgn op) w1 w2 w3 ((((agW w1 w2 w3 q).2 e) + (-1))))) he ?_
                                          refine J_mem (M' := jSi (jSi M m 11 (0)) m 14 xa214) (by exact jSi_jSi _ _ _ _ _) ?_
                                          refine J_if_ne dX8_agrees_217 (tgt := 222) (by decide) (fun c217 => ?_) (fun c217 => ?_)
                                          · have c217 := jb0F c217
                                            have gB0 := c217
                                            refine J_iinc (y := (0)) (lv' := [.ref (m), .int (nI (s1)), .int (nI (s2)), .int (nI (s3)), .int (op), .int (sgn op), .int (nI (q)), .int (nI (agK s1 s2 s3 q)), .int (nI (e + 1)), .int (0)]) dX8_agrees_222 rfl (by decide) (by decide) rfl rfl ?_
                                            refine J_goto (tgt := 186) dX8_agrees_225 (by decide) ?_
                                            refine J_iload dX8_agrees_186 rfl ?_
                                            refine J_iconst (x := 1) dX8_agrees_188 (by decide) ?_
                                            refine J_icmp_gt dX8_agrees_189 (tgt := 228) (by decide) (fun c189 => ?_) (fun c189 => ?_)
                                            · exact absurd c189 (by decide)
                                            · have c189 := jltF (a := 1) (b := 0) (by omega) (by omega) c189
                                              refine J_aload_n (m) dX8_agrees_192 rfl rfl ?_
                                              refine J_aload_n (m) dX8_agrees_193 rfl rfl ?_
                                              refine J_getrs (q := m + 1) r1 dX8_agrees_194 (fun _ h => List.mem_cons_of_mem _ (List.mem_append_left _ (List.mem_append_right _ (h)))) cs11 (by decide) rfl (List.mem_of_getElem? (i := 1) rfl) rfl (show m < jn M from by omega) m2 ?_
                                              refine J_bipush (x := 33) dX8_agrees_197 (by decide) ?_
                                              refine J_iload dX8_agrees_199 rfl ?_
                                              refine J_imul dX8_agrees_201 ?_
                                              refine J_topi (y := nI (33 * (agK s1 s2 s3 q))) (pk_mul (33) (agK s1 s2 s3 q)) ?_
                                              refine J_iload dX8_agrees_202 rfl ?_
                                              refine J_iadd dX8_agrees_204 ?_
                                              refine J_topi (y := nI (33 * (agK s1 s2 s3 q) + e + 1)) (nI_add (33 * (agK s1 s2 s3 q)) (e + 1)) ?_
                                              refine J_ialdN (k := 33 * (agK s1 s2 s3 q) + e + 1) dX8_agrees_205 (show m + 1 < jn M from by omega) k1 (by exact Nat.lt_of_lt_of_eq (show _ < 427 by omega) (Eq.symm z1)) (by exact Nat.lt_of_le_of_lt (Nat.le_of_eq z1) (show 427 < 2 ^ 31 by omega)) ?_
                                              refine J_topi (y := ((agW w1 w2 w3 q).2 e)) (by rw [ji_Sin (by omega), ji_Sin (by omega)]; exact (congrArg _ (by omega)).trans (hxs.2.2 e (by omega))) ?_
                                              refine J_iload dX8_agrees_206 rfl ?_
                                              refine J_iadd dX8_agrees_208 ?_
                                              refine J_iload_n dX8_agrees_209 rfl rfl ?_
                                              refine J_iload_n dX8_agrees_210 rfl rfl ?_
                                              refine J_iload_n dX8_agrees_211 rfl rfl ?_
                                              refine J_iload dX8_agrees_212 rfl ?_
                                              refine J_calli (jrunV (As := [.int (((agW w1 w2 w3 q).2 e) + (0)), .int (nI (s1)), .int (nI (s2)), .int (nI (s3)), .int (sgn op)]) (ct_X8_agreesAt l D dA hst (jSi (jSi M m 11 (0)) m 14 xa214) m hM s1 s2 s3 hs1 hs2 hs3 w1 w2 w3 hw1 hw2 hw3 (((hx1).si (by omega)).si (by omega)) (((hx2).si (by omega)).si (by omega)) (((hx3).si (by omega)).si (by omega)) ((((agW w1 w2 w3 q).2 e) + (0))) (sgn op)) dX8_agrees_214 yY_X8_agreesAt gX8_agrees_X8_agreesAt rfl cs11 (show m < jn M from by omega) m2 rfl ⟨by omega, by omega⟩ ⟨Nat.zero_le _, Nat.zero_le _⟩ rfl (Nat.le_of_ble_eq_true rfl)) ⟨Nat.zero_le _, Nat.zero_le _⟩ (Or.inr ⟨(jOk.ref (show m < jn M from by omega) (jOk.int (jOk.int (jOk.int (jOk.int (jOk.int (jOk.int (jOk.int (jOk.int (jOk.int jOk.nil)))))))))), jOk.nil⟩) (fun E M9 hp _ => by obtain ⟨_, h1, _⟩ := hp; cases h1) (fun x9 M1 hp214 hle214 => ?_)
                                              obtain ⟨xa214, he, rfl⟩ := hp214
                                              have he := jI_inj he
                                              refine J_topi (y := jb (agA (sgn op) w1 w2 w3 ((((agW w1 w2 w3 q).2 e) + (0))))) he ?_
                                              refine J_mem (M' := jSi (jSi M m 11 (0)) m 14 xa214) (by exact jSi_jSi _ _ _ _ _) ?_
                                              refine J_if_ne dX8_agrees_217 (tgt := 222) (by decide) (fun c217 => ?_) (fun c217 => ?_)
                                              · have c217 := jb0F c217
                                                have gB1 := c217
                                                refine J_iinc (y := (1)) (lv' := [.ref (m), .int (nI (s1)), .int (nI (s2)), .int (nI (s3)), .int (op), .int (sgn op), .int (nI (q)), .int (nI (agK s1 s2 s3 q)), .int (nI (e + 1)), .int (1)]) dX8_agrees_222 rfl (by decide) (by decide) rfl rfl ?_
                                                refine J_goto (tgt := 186) dX8_agrees_225 (by decide) ?_
                                                refine J_iload dX8_agrees_186 rfl ?_
                                                refine J_iconst (x := 1) dX8_agrees_188 (by decide) ?_
                                                refine J_icmp_gt dX8_agrees_189 (tgt := 228) (by decide) (fun c189 => ?_) (fun c189 => ?_)
                                                · exact absurd c189 (by decide)
                                                · have c189 := jltF (a := 1) (b := 1) (by omega) (by omega) c189
                                                  refine J_aload_n (m) dX8_agrees_192 rfl rfl ?_
                                                  refine J_aload_n (m) dX8_agrees_193 rfl rfl ?_
                                                  refine J_getrs (q := m + 1) r1 dX8_agrees_194 (fun _ h => List.mem_cons_of_mem _ (List.mem_append_left _ (List.mem_append_right _ (h)))) cs11 (by decide) rfl (List.mem_of_getElem? (i := 1) rfl) rfl (show m < jn M from by omega) m2 ?_
                                                  refine J_bipush (x := 33) dX8_agrees_197 (by decide) ?_
                                                  refine J_iload dX8_agrees_199 rfl ?_
                                                  refine J_imul dX8_agrees_201 ?_
                                                  refine J_topi (y := nI (33 * (agK s1 s2 s3 q))) (pk_mul (33) (agK s1 s2 s3 q)) ?_
                                                  refine J_iload dX8_agrees_202 rfl ?_
                                                  refine J_iadd dX8_agrees_204 ?_
                                                  refine J_topi (y := nI (33 * (agK s1 s2 s3 q) + e + 1)) (nI_add (33 * (agK s1 s2 s3 q)) (e + 1)) ?_
                                                  refine J_ialdN (k := 33 * (agK s1 s2 s3 q) + e + 1) dX8_agrees_205 (show m + 1 < jn M from by omega) k1 (by exact Nat.lt_of_lt_of_eq (show _ < 427 by omega) (Eq.symm z1)) (by exact Nat.lt_of_le_of_lt (Nat.le_of_eq z1) (show 427 < 2 ^ 31 by omega)) ?_
                                                  refine J_topi (y := ((agW w1 w2 w3 q).2 e)) (by rw [ji_Sin (by omega), ji_Sin (by omega)]; exact (congrArg _ (by omega)).trans (hxs.2.2 e (by omega))) ?_
                                                  refine J_iload dX8_agrees_206 rfl ?_
                                                  refine J_iadd dX8_agrees_208 ?_
                                                  refine J_iload_n dX8_agrees_209 rfl rfl ?_
                                                  refine J_iload_n dX8_agrees_210 rfl rfl ?_
                                                  refine J_iload_n dX8_agrees_211 rfl rfl ?_
                                                  refine J_iload dX8_agrees_212 rfl ?_
                                                  refine J_calli (jrunV (As := [.int (((agW w1 w2 w3 q).2 e) + (1)), .int (nI (s1)), .int (nI (s2)), .int (nI (s3)), .int (sgn op)]) (ct_X8_agreesAt l D dA hst (jSi (jSi M m 11 (0)) m 14 xa214) m hM s1 s2 s3 hs1 hs2 hs3 w1 w2 w3 hw1 hw2 hw3 (((hx1).si (by omega)).si (by omega)) (((hx2).si (by omega)).si (by omega)) (((hx3).si (by omega)).si (by omega)) ((((agW w1 w2 w3 q).2 e) + (1))) (sgn op)) dX8_agrees_214 yY_X8_agreesAt gX8_agrees_X8_agreesAt rfl cs11 (show m < jn M from by omega) m2 rfl ⟨by omega, by omega⟩ ⟨Nat.zero_le _, Nat.zero_le _⟩ rfl (Nat.le_of_ble_eq_true rfl)) ⟨Nat.zero_le _, Nat.zero_le _⟩ (Or.inr ⟨(jOk.ref (show m < jn M from by omega) (jOk.int (jOk.int (jOk.int (jOk.int (jOk.int (jOk.int (jOk.int (jOk.int (jOk.int jOk.nil)))))))))), jOk.nil⟩) (fun E M9 hp _ => by obtain ⟨_, h1, _⟩ := hp; cases h1) (fun x9 M1 hp214 hle214 => ?_)
                                                  obtain ⟨xa214, he, rfl⟩ := hp214
                                                  have he := jI_inj he
                                                  refine J_topi (y := jb (agA (sgn op) w1 w2 w3 ((((agW w1 w2 w3 q).2 e) + (1))))) he ?_
                                                  refine J_mem (M' := jSi (jSi M m 11 (0)) m 14 xa214) (by exact jSi_jSi _ _ _ _ _) ?_
                                                  refine J_if_ne dX8_agrees_217 (tgt := 222) (by decide) (fun c217 => ?_) (fun c217 => ?_)
                                                  · have c217 := jb0F c217
                                                    have gB2 := c217
                                                    refine J_iinc (y := (2)) (lv' := [.ref (m), .int (nI (s1)), .int (nI (s2)), .int (nI (s3)), .int (op), .int (sgn op), .int (nI (q)), .int (nI (agK s1 s2 s3 q)), .int (nI (e + 1)), .int (2)]) dX8_agrees_222 rfl (by decide) (by decide) rfl rfl ?_
                                                    refine J_goto (tgt := 186) dX8_agrees_225 (by decide) ?_
                                                    refine J_iload dX8_agrees_186 rfl ?_
                                                    refine J_iconst (x := 1) dX8_agrees_188 (by decide) ?_
                                                    refine J_icmp_gt dX8_agrees_189 (tgt := 228) (by decide) (fun c189 => ?_) (fun c189 => ?_)
                                                    · have c189 := jltT (a := 1) (b := 2) (by omega) (by omega) c189
                                                      refine J_iinc (y := nI (e + 1 + 1)) (lv' := [.ref (m), .int (nI (s1)), .int (nI (s2)), .int (nI (s3)), .int (op), .int (sgn op), .int (nI (q)), .int (nI (agK s1 s2 s3 q)), .int (nI (e + 1 + 1)), .int (2)]) dX8_agrees_228 rfl (jinc (e + 1)) (by decide) rfl rfl ?_
                                                      refine J_goto (tgt := 166) dX8_agrees_231 (by decide) ?_
                                                      refine J_fg 9 (lv' := [.ref (m), .int (nI (s1)), .int (nI (s2)), .int (nI (s3)), .int (op), .int (sgn op), .int (nI (q)), .int (nI (agK s1 s2 s3 q)), .int (nI (e + 1 + 1)), .float 0]) rfl ?_
                                                      exact ih166 (e + 1) (xa214) (by omega) (by exact jall_s hR (cRd gB0 gB1 gB2)) (by omega)
                                                    · exact absurd c189 (by decide)
                                                  · have c217 := jb0T c217
                                                    refine J_iconst (x := 0) dX8_agrees_220 (by decide) ?_
                                                    exact J_iret (ty := .boolean) dX8_agrees_221 rfl (by rfl) (by refine ⟨Or.inl ⟨?_, ?_⟩, ((hA).si rfl).si rfl, ((mFr.rf).si ⟨by omega, by omega⟩).si ⟨by omega, by omega⟩, _, rfl⟩; (rw [ji_Sik (by decide)]; exact ji_Sis); (unfold sAgr; rw [sSl_t c5, sSl_t c12, sSl_t c19, if_pos hop, sRn_s (by rw [cAt_n hs1]; exact hz1), sRn_s (by rw [cAt_n hs2]; exact hz2), sRn_s (by rw [cAt_n hs3]; exact hz3)]; rw [agV_f hop hw1 hw2 hw3 hW.2.1 (i := q) (by omega) (jall_f (k := e) (by omega) (cRd_f (Or.inr (Or.inr c217))))]; rfl))
                                              · have c217 := jb0T c217
                                                refine J_iconst (x := 0) dX8_agrees_220 (by decide) ?_
                                                exact J_iret (ty := .boolean) dX8_agrees_221 rfl (by rfl) (by refine ⟨Or.inl ⟨?_, ?_⟩, ((hA).si rfl).si rfl, ((mFr.rf).si ⟨by omega, by omega⟩).si ⟨by omega, by omega⟩, _, rfl⟩; (rw [ji_Sik (by decide)]; exact ji_Sis); (unfold sAgr; rw [sSl_t c5, sSl_t c12, sSl_t c19, if_pos hop, sRn_s (by rw [cAt_n hs1]; exact hz1), sRn_s (by rw [cAt_n hs2]; exact hz2), sRn_s (by rw [cAt_n hs3]; exact hz3)]; rw [agV_f hop hw1 hw2 hw3 hW.2.1 (i := q) (by omega) (jall_f (k := e) (by omega) (cRd_f (Or.inr (Or.inl c217))))]; rfl))
                                          · have c217 := jb0T c217
                                            refine J_iconst (x := 0) dX8_agrees_220 (by decide) ?_
                                            exact J_iret (ty := .boolean) dX8_agrees_221 rfl (by rfl) (by refine ⟨Or.inl ⟨?_, ?_⟩, ((hA).si rfl).si rfl, ((mFr.rf).si ⟨by omega, by omega⟩).si ⟨by omega, by omega⟩, _, rfl⟩; (rw [ji_Sik (by decide)]; exact ji_Sis); (unfold sAgr; rw [sSl_t c5, sSl_t c12, sSl_t c19, if_pos hop, sRn_s (by rw [cAt_n hs1]; exact hz1), sRn_s (by rw [cAt_n hs2]; exact hz2), sRn_s (by rw [cAt_n hs3]; exact hz3)]; rw [agV_f hop hw1 hw2 hw3 hW.2.1 (i := q) (by omega) (jall_f (k := e) (by omega) (cRd_f (Or.inl c217)))]; rfl))
                                  refine J_istore (lv' := [.ref (m), .int (nI (s1)), .int (nI (s2)), .int (nI (s3)), .int (op), .int (sgn op), .int (nI (q)), .int (nI (agK s1 s2 s3 q)), .int (1), .float 0]) dX8_agrees_164 (by decide) rfl rfl ?_
                                  exact L166 _ (0) (y) (by omega) (by rfl) (Nat.lt_succ_self _)
                                refine J_iload dX8_agrees_141 rfl ?_
                                refine J_if_ne dX8_agrees_143 (tgt := 150) (by decide) (fun c143 => ?_) (fun c143 => ?_)
                                · have c143 := jeqF (a := q) (b := 0) (by omega) (by omega) c143
                                  refine J_iload dX8_agrees_150 rfl ?_
                                  refine J_iconst (x := 1) dX8_agrees_152 (by decide) ?_
                                  refine J_icmp_ne dX8_agrees_153 (tgt := 160) (by decide) (fun c153 => ?_) (fun c153 => ?_)
                                  · have c153 := jeqF (a := q) (b := 1) (by omega) (by omega) c153
                                    refine J_iload_n dX8_agrees_160 rfl rfl ?_
                                    refine J_topi (y := nI (agK s1 s2 s3 q)) (by unfold agK; first | (rw [if_pos c143]; done) | (rw [if_neg c143, if_pos c153]; done) | (rw [if_neg c143, if_neg c153]; done)) ?_
                                    refine J_istore (lv' := [.ref (m), .int (nI (s1)), .int (nI (s2)), .int (nI (s3)), .int (op), .int (sgn op), .int (nI (q)), .int (nI (agK s1 s2 s3 q)), .float 0, .float 0]) dX8_agrees_161 (by decide) rfl rfl ?_
                                    exact L163  
                                  · have c153 := jeqT (a := q) (b := 1) (by omega) (by omega) c153
                                    refine J_iload_n dX8_agrees_156 rfl rfl ?_
                                    refine J_goto (tgt := 161) dX8_agrees_157 (by decide) ?_
                                    refine J_topi (y := nI (agK s1 s2 s3 q)) (by unfold agK; first | (rw [if_pos c143]; done) | (rw [if_neg c143, if_pos c153]; done) | (rw [if_neg c143, if_neg c153]; done)) ?_
                                    refine J_istore (lv' := [.ref (m), .int (nI (s1)), .int (nI (s2)), .int (nI (s3)), .int (op), .int (sgn op), .int (nI (q)), .int (nI (agK s1 s2 s3 q)), .float 0, .float 0]) dX8_agrees_161 (by decide) rfl rfl ?_
                                    exact L163  
                                · have c143 := jeqT (a := q) (b := 0) (by omega) (by omega) c143
                                  refine J_iload_n dX8_agrees_146 rfl rfl ?_
                                  refine J_goto (tgt := 161) dX8_agrees_147 (by decide) ?_
                                  refine J_topi (y := nI (agK s1 s2 s3 q)) (by unfold agK; first | (rw [if_pos c143]; done) | (rw [if_neg c143, if_pos c153]; done) | (rw [if_neg c143, if_neg c153]; done)) ?_
                                  refine J_istore (lv' := [.ref (m), .int (nI (s1)), .int (nI (s2)), .int (nI (s3)), .int (op), .int (sgn op), .int (nI (q)), .int (nI (agK s1 s2 s3 q)), .float 0, .float 0]) dX8_agrees_161 (by decide) rfl rfl ?_
                                  exact L163  
                          refine J_iconst (x := 0) dX8_agrees_132 (by decide) ?_
                          refine J_istore (lv' := [.ref (m), .int (nI (s1)), .int (nI (s2)), .int (nI (s3)), .int (op), .int (sgn op), .int (0), .float 0, .float 0, .float 0]) dX8_agrees_133 (by decide) rfl rfl ?_
                          exact L135 _ (0) (y) (by omega) (by intro i hi; exact absurd hi (Nat.not_lt_zero _)) (Nat.lt_succ_self _)
                        · have c98 := jleF (a := (cNw A).2.1) (b := j) (by omega) (by omega) c98
                          refine J_aload_n (m) dX8_agrees_101 rfl rfl ?_
                          refine J_aload_n (m) dX8_agrees_102 rfl rfl ?_
                          refine J_getrs (q := m + 1) r1 dX8_agrees_103 (fun _ h => List.mem_cons_of_mem _ (List.mem_append_left _ (List.mem_append_right _ (h)))) cs11 (by decide) rfl (List.mem_of_getElem? (i := 1) rfl) rfl (show m < jn M from by omega) m2 ?_
                          refine J_sipush (x := 397) dX8_agrees_106 (by decide) ?_
                          refine J_iload dX8_agrees_109 rfl ?_
                          refine J_iadd dX8_agrees_111 ?_
                          refine J_topi (y := nI (397 + j)) (nI_add (397) (j)) ?_
                          refine J_ialdN (k := 397 + j) dX8_agrees_112 (show m + 1 < jn M from by omega) k1 (by exact Nat.lt_of_lt_of_eq (show _ < 427 by omega) (Eq.symm z1)) (by exact Nat.lt_of_le_of_lt (Nat.le_of_eq z1) (show 427 < 2 ^ 31 by omega)) ?_
                          refine J_topi (y := ((cNw A).2.2 j)) (by rw [ji_Sin (by omega), ji_Sin (by omega)]; exact hz.2.2.2 j (by omega)) ?_
                          refine J_iload_n dX8_agrees_113 rfl rfl ?_
                          refine J_iload_n dX8_agrees_114 rfl rfl ?_
                          refine J_iload_n dX8_agrees_115 rfl rfl ?_
                          refine J_iload dX8_agrees_116 rfl ?_
                          refine J_calli (jrunV (As := [.int ((cNw A).2.2 j), .int (nI (s1)), .int (nI (s2)), .int (nI (s3)), .int (sgn op)]) (ct_X8_agreesAt l D dA hst ((jSi (jSi M m 11 (0)) m 14 y)) m hM s1 s2 s3 hs1 hs2 hs3 w1 w2 w3 hw1 hw2 hw3 (((hx1).si (by omega)).si (by omega)) (((hx2).si (by omega)).si (by omega)) (((hx3).si (by omega)).si (by omega)) (((cNw A).2.2 j)) (sgn op)) dX8_agrees_118 yY_X8_agreesAt gX8_agrees_X8_agreesAt rfl cs11 (show m < jn M from by omega) m2 rfl ⟨by omega, by omega⟩ ⟨Nat.zero_le _, Nat.zero_le _⟩ rfl (Nat.le_of_ble_eq_true rfl)) ⟨Nat.zero_le _, Nat.zero_le _⟩ (Or.inr ⟨(jOk.ref (show m < jn M from by omega) (jOk.int (jOk.int (jOk.int (jOk.int (jOk.int (jOk.int (jOk.float (jOk.float (jOk.float jOk.nil)))))))))), jOk.nil⟩) (fun E M9 hp _ => by obtain ⟨_, h1, _⟩ := hp; cases h1) (fun x9 M1 hp118 hle118 => ?_)
                          obtain ⟨xa118, he, rfl⟩ := hp118
                          have he := jI_inj he
                          refine J_topi (y := jb (agA (sgn op) w1 w2 w3 (((cNw A).2.2 j)))) he ?_
                          refine J_mem (M' := jSi (jSi M m 11 (0)) m 14 xa118) (by exact jSi_jSi _ _ _ _ _) ?_
                          refine J_if_ne dX8_agrees_121 (tgt := 126) (by decide) (fun c121 => ?_) (fun c121 => ?_)
                          · have c121 := jb0F c121
                            refine J_iinc (y := nI (j + 1)) (lv' := [.ref (m), .int (nI (s1)), .int (nI (s2)), .int (nI (s3)), .int (op), .int (sgn op), .int (nI (j + 1)), .float 0, .float 0, .float 0]) dX8_agrees_126 rfl (jinc (j)) (by decide) rfl rfl ?_
                            refine J_goto (tgt := 88) dX8_agrees_129 (by decide) ?_
                            exact ih88 (j + 1) (xa118) (by omega) (by exact jall_s hI c121) (by omega)
                          · have c121 := jb0T c121
                            refine J_iconst (x := 0) dX8_agrees_124 (by decide) ?_
                            exact J_iret (ty := .boolean) dX8_agrees_125 rfl (by rfl) (by refine ⟨Or.inl ⟨?_, ?_⟩, ((hA).si rfl).si rfl, ((mFr.rf).si ⟨by omega, by omega⟩).si ⟨by omega, by omega⟩, _, rfl⟩; (rw [ji_Sik (by decide)]; exact ji_Sis); (unfold sAgr; rw [sSl_t c5, sSl_t c12, sSl_t c19, if_pos hop, sRn_s (by rw [cAt_n hs1]; exact hz1), sRn_s (by rw [cAt_n hs2]; exact hz2), sRn_s (by rw [cAt_n hs3]; exact hz3)]; rw [agV_p hop hw1 hw2 hw3 hW.2.1 (jall_f (k := j) (by omega) c121)]; rfl))
                    refine J_iconst (x := 0) dX8_agrees_85 (by decide) ?_
                    refine J_istore (lv' := [.ref (m), .int (nI (s1)), .int (nI (s2)), .int (nI (s3)), .int (op), .int (sgn ((op))), .int (0), .float 0, .float 0, .float 0]) dX8_agrees_86 (by decide) rfl rfl ?_
                    exact L88 _ (0) (ji M m 14) (by omega) (by rfl) (Nat.lt_succ_self _)
                  · exact absurd c73 (by decide)
                · have c62 := jb0F c62
                  refine J_iconst (x := 3) dX8_agrees_65 (by decide) ?_
                  refine J_goto (tgt := 70) dX8_agrees_66 (by decide) ?_
                  refine J_calli0 (jrunV (As := [.int (3)]) (ct_X8_fails l D dA hst M m hM ((3))) dX8_agrees_70 yY_X8_fails gX8_agrees_X8_fails rfl cs11 (show m < jn M from by omega) m2 rfl ⟨by omega, by omega⟩ ⟨Nat.zero_le _, Nat.zero_le _⟩ rfl (Nat.le_of_ble_eq_true rfl)) (rfl) (rfl) ?_
                  refine J_if_eq dX8_agrees_73 (tgt := 78) (by decide) (fun c73 => ?_) (fun c73 => ?_)
                  · exact absurd c73 (by decide)
                  · have c73 := jeqF (a := 1) (b := 0) (by omega) (by omega) c73
                    refine J_iconst (x := 0) dX8_agrees_76 (by decide) ?_
                    exact J_iret (ty := .boolean) dX8_agrees_77 rfl (by rfl) (by refine ⟨?_, (hA).si rfl, (mFr.rf).si ⟨by omega, by omega⟩, _, rfl⟩; exact mAg.x 2 xNSE rfl (by decide) ji_Sis (by unfold sAgr; rw [sSl_t c5, sSl_t c12, sSl_t c19, if_pos (okOp_in c28 c34)]; first | (rw [sRn_n (by rw [cAt_n hs1]; exact none_of c46)]; done) | (obtain ⟨w1, hz1⟩ := some_of c46; rw [sRn_s (by rw [cAt_n hs1]; exact hz1)]; first | (rw [sRn_n (by rw [cAt_n hs2]; exact none_of c54)]; done) | (obtain ⟨w2, hz2⟩ := some_of c54; rw [sRn_s (by rw [cAt_n hs2]; exact hz2), sRn_n (by rw [cAt_n hs3]; exact none_of c62)]))))
          · refine J_iconst (x := 2) dX8_agrees_37 (by decide) ?_
            refine J_goto (tgt := 70) dX8_agrees_38 (by decide) ?_
            refine J_calli0 (jrunV (As := [.int (2)]) (ct_X8_fails l D dA hst M m hM ((2))) dX8_agrees_70 yY_X8_fails gX8_agrees_X8_fails rfl cs11 (show m < jn M from by omega) m2 rfl ⟨by omega, by omega⟩ ⟨Nat.zero_le _, Nat.zero_le _⟩ rfl (Nat.le_of_ble_eq_true rfl)) (rfl) (rfl) ?_
            refine J_if_eq dX8_agrees_73 (tgt := 78) (by decide) (fun c73 => ?_) (fun c73 => ?_)
            · exact absurd c73 (by decide)
            · have c73 := jeqF (a := 1) (b := 0) (by omega) (by omega) c73
              refine J_iconst (x := 0) dX8_agrees_76 (by decide) ?_
              exact J_iret (ty := .boolean) dX8_agrees_77 rfl (by rfl) (by refine ⟨?_, (hA).si rfl, (mFr.rf).si ⟨by omega, by omega⟩, _, rfl⟩; exact mAg.x 1 xIAE rfl (by decide) ji_Sis (by unfold sAgr; rw [sSl_t c5, sSl_t c12, sSl_t c19, if_neg (okOp_out (by first | exact Or.inl c28 | exact Or.inr (Int32.not_le.mp c34) | exact Or.inr c34))]))
      · have c19 := jb0T c19
        refine J_iconst (x := 1) dX8_agrees_22 (by decide) ?_
        refine J_goto (tgt := 70) dX8_agrees_23 (by decide) ?_
        refine J_calli0 (jrunV (As := [.int (1)]) (ct_X8_fails l D dA hst M m hM ((1))) dX8_agrees_70 yY_X8_fails gX8_agrees_X8_fails rfl cs11 (show m < jn M from by omega) m2 rfl ⟨by omega, by omega⟩ ⟨Nat.zero_le _, Nat.zero_le _⟩ rfl (Nat.le_of_ble_eq_true rfl)) (rfl) (rfl) ?_
        refine J_if_eq dX8_agrees_73 (tgt := 78) (by decide) (fun c73 => ?_) (fun c73 => ?_)
        · exact absurd c73 (by decide)
        · have c73 := jeqF (a := 1) (b := 0) (by omega) (by omega) c73
          refine J_iconst (x := 0) dX8_agrees_76 (by decide) ?_
          exact J_iret (ty := .boolean) dX8_agrees_77 rfl (by rfl) (by refine ⟨?_, (hA).si rfl, (mFr.rf).si ⟨by omega, by omega⟩, _, rfl⟩; exact mAg.x 0 xIOOBE rfl (by decide) ji_Sis (by unfold sAgr; first | (rw [sSl_f c5]; done) | (rw [sSl_t c5, sSl_f c12]; done) | (rw [sSl_t c5, sSl_t c12, sSl_f c19]; done)))

