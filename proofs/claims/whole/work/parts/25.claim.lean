def jall (p : Nat → Bool) : Nat → Bool
  | 0 => true
  | k + 1 => jall p k && p k
theorem jall_f {p : Nat → Bool} {m k : Nat} (h : k < m) (hp : p k = false) : jall p m = false := by
  induction m with
  | zero => omega
  | succ m ih =>
    unfold jall
    by_cases e : k = m
    · rw [← e, hp]; simp
    · rw [ih (by omega)]; rfl
theorem jall_s {p : Nat → Bool} {k : Nat} (h : jall p k = true) (hp : p k = true) : jall p (k + 1) = true := by
  unfold jall; rw [h, hp]; rfl
theorem jb_ne {a b : Bool} (h : ¬ jb a = jb b) : ¬ a = b := fun e => h (by rw [e])
/-- what a claim says of a version -/
def cF (op : Int32) (r a b : rVl) (x : Int32) : Bool := decide (rHolds r.2 r.1 x = vMeets op (rHolds a.2 a.1 x) (rHolds b.2 b.1 x))
/-- a claim at t -/
def jCm (M : jM) (t : Nat) (F : Int32 → Bool) : Prop := ∃ (t1 n1 t2 n2 t3 n3 : Nat) (op : Int32), t < jn M ∧ jk M t = 4 ∧ jr M t 0 = some t1 ∧ jr M t 1 = some t2 ∧ jr M t 2 = some t3 ∧ ji M t 3 = op ∧ jRg M t1 n1 ∧ jRg M t2 n2 ∧ jRg M t3 n3 ∧ F = cF op (n1, ji M (t1 + 1)) (n2, ji M (t2 + 1)) (n3, ji M (t3 + 1))
def cRound (F : Int32 → Bool) (x : Int32) : Bool := F (x - 1) && F x && F (x + 1)
theorem dX0_isTrueFor_0 : decode cX0_isTrueFor 0 = .ok (.aload_n 0, 1) := by decide +kernel
theorem dX0_isTrueFor_1 : decode cX0_isTrueFor 1 = .ok (.getfield 7, 3) := by decide +kernel
theorem dX0_isTrueFor_4 : decode cX0_isTrueFor 4 = .ok (.iload_n 1, 1) := by decide +kernel
theorem dX0_isTrueFor_5 : decode cX0_isTrueFor 5 = .ok (.invokevirtual 51, 3) := by decide +kernel
set_option maxRecDepth 20000 in
theorem ggX0_isTrueFor_X3_holds : GoodIn wsX0_isTrueFor wsX3_holds := goodIn_ca (goodIn_r _ [9, 10, 11, 12, 8, 13, 14, 15, 16, 17, 18, 19, 20, 21, 22, 30] (by decide +kernel) (by decide +kernel)) (goodIn_sub (fun _ h => List.mem_cons_of_mem _ (List.mem_append_right _ h)) (by decide +kernel))
set_option maxRecDepth 20000 in
theorem gX0_isTrueFor_X3_holds : GoodIn wsX0_isTrueFor (wsV RX0 51 RX3 yX3_holds wsX3_holds) := goodIn_app (goodIn_of _ (by decide +kernel)) ggX0_isTrueFor_X3_holds
theorem dX0_isTrueFor_8 : decode cX0_isTrueFor 8 = .ok (.aload_n 0, 1) := by decide +kernel
theorem dX0_isTrueFor_9 : decode cX0_isTrueFor 9 = .ok (.getfield 19, 3) := by decide +kernel
theorem dX0_isTrueFor_12 : decode cX0_isTrueFor 12 = .ok (.aload_n 0, 1) := by decide +kernel
theorem dX0_isTrueFor_13 : decode cX0_isTrueFor 13 = .ok (.getfield 13, 3) := by decide +kernel
theorem dX0_isTrueFor_16 : decode cX0_isTrueFor 16 = .ok (.iload_n 1, 1) := by decide +kernel
theorem dX0_isTrueFor_17 : decode cX0_isTrueFor 17 = .ok (.invokevirtual 51, 3) := by decide +kernel
theorem dX0_isTrueFor_20 : decode cX0_isTrueFor 20 = .ok (.aload_n 0, 1) := by decide +kernel
theorem dX0_isTrueFor_21 : decode cX0_isTrueFor 21 = .ok (.getfield 16, 3) := by decide +kernel
theorem dX0_isTrueFor_24 : decode cX0_isTrueFor 24 = .ok (.iload_n 1, 1) := by decide +kernel
theorem dX0_isTrueFor_25 : decode cX0_isTrueFor 25 = .ok (.invokevirtual 51, 3) := by decide +kernel
theorem dX0_isTrueFor_28 : decode cX0_isTrueFor 28 = .ok (.invokestatic 54, 3) := by decide +kernel
set_option maxRecDepth 20000 in
theorem ggX0_isTrueFor_X7_meets : GoodIn wsX0_isTrueFor wsX7_meets := goodIn_r _ [25] (by decide +kernel) (by decide +kernel)
set_option maxRecDepth 20000 in
theorem gX0_isTrueFor_X7_meets_n54 : GoodIn wsX0_isTrueFor (wsX7_meets) := ggX0_isTrueFor_X7_meets
theorem jnw_X0_isTrueFor_54 : Cond.methodLinkNest RX0 54 yX7_meets "VersionAlgebra" ∈ jNws := List.mem_filter.mpr ⟨by decide +kernel, rfl⟩
theorem dX0_isTrueFor_31 : decode cX0_isTrueFor 31 = .ok (.if_icmp .ne 7, 3) := by decide +kernel
theorem dX0_isTrueFor_38 : decode cX0_isTrueFor 38 = .ok (.iconst 0, 1) := by decide +kernel
theorem dX0_isTrueFor_39 : decode cX0_isTrueFor 39 = .ok (.ireturn, 1) := by decide +kernel
theorem dX0_isTrueFor_34 : decode cX0_isTrueFor 34 = .ok (.iconst 1, 1) := by decide +kernel
theorem dX0_isTrueFor_35 : decode cX0_isTrueFor 35 = .ok (.goto 4, 3) := by decide +kernel
set_option maxHeartbeats 2000000 in
set_option maxRecDepth 20000 in
theorem ct_X0_isTrueFor (l : Launch) (D : va_G) (dA : Nat → ClassId) (hst : l.stackTraces = false) (M : jM) (t : Nat) (F : Int32 → Bool) (hC : jCm M t F) (x : Int32) : jCT l D dA yX0_isTrueFor wsX0_isTrueFor (23) (480) (0) (0) 1 [.ref (t), .int (x)] M (jPo (oI (jb (F x))) (M)) := by
  refine jBody (cc := cX0_isTrueFor) (nL := 2) (rt := (some .boolean)) (ini := false) (by decide) rfl hst (Nat.le_of_ble_eq_true rfl) (by simp [Value.category]) (by intro h9; first | exact absurd h9 (by decide) | rfl) ?_
  show J l D dA RX0 cX0_isTrueFor wsX0_isTrueFor 2 false (some .boolean) [] (23) (480) (jF D dA (jn M) (jPo (oI (jb (F x))) (M)) 1) (jn M) (0) (0) (M) 0 [.ref (t), .int (x)] []
  obtain ⟨t1, n1, t2, n2, t3, n3, op, b1, b2, b3, b4, b5, b6, b7, b8, b9, b10⟩ := id hC
  refine J_aload_n (t) dX0_isTrueFor_0 rfl rfl ?_
  refine J_getrs (q := t1) b3 dX0_isTrueFor_1 (fun _ h => List.mem_cons_of_mem _ (List.mem_append_left _ (List.mem_append_left _ (List.mem_append_right _ (h))))) cs4 (by decide) rfl (List.mem_of_getElem? (i := 1) rfl) rfl b1 b2 ?_
  refine J_iload_n dX0_isTrueFor_4 rfl rfl ?_
  refine J_calli0 (jrunV (As := [.int (x)]) (ct_X3_holds l D dA hst M t1 n1 b7 ((x))) dX0_isTrueFor_5 yY_X3_holds gX0_isTrueFor_X3_holds rfl cs7 (Nat.lt_of_succ_lt b7.1) b7.2.1 rfl ⟨by omega, by omega⟩ ⟨Nat.zero_le _, Nat.zero_le _⟩ rfl (Nat.le_of_ble_eq_true rfl)) (rfl) (rfl) ?_
  refine J_aload_n (t) dX0_isTrueFor_8 rfl rfl ?_
  refine J_geti (j := 3) dX0_isTrueFor_9 (fun _ h => List.mem_cons_of_mem _ (List.mem_append_left _ (List.mem_append_left _ (List.mem_append_right _ (h))))) cs4 (by decide) rfl (List.mem_of_getElem? (i := 2) rfl) rfl b1 b2 ?_
  refine J_topi (y := (op)) (b6) ?_
  refine J_aload_n (t) dX0_isTrueFor_12 rfl rfl ?_
  refine J_getrs (q := t2) b4 dX0_isTrueFor_13 (fun _ h => List.mem_cons_of_mem _ (List.mem_append_left _ (List.mem_append_left _ (List.mem_append_right _ (h))))) cs4 (by decide) rfl (List.mem_of_getElem? (i := 3) rfl) rfl b1 b2 ?_
  refine J_iload_n dX0_isTrueFor_16 rfl rfl ?_
  refine J_calli0 (jrunV (As := [.int (x)]) (ct_X3_holds l D dA hst M t2 n2 b8 ((x))) dX0_isTrueFor_17 yY_X3_holds gX0_isTrueFor_X3_holds rfl cs7 (Nat.lt_of_succ_lt b8.1) b8.2.1 rfl ⟨by omega, by omega⟩ ⟨Nat.zero_le _, Nat.zero_le _⟩ rfl (Nat.le_of_ble_eq_true rfl)) (rfl) (rfl) ?_
  refine J_aload_n (t) dX0_isTrueFor_20 rfl rfl ?_
  refine J_getrs (q := t3) b5 dX0_isTrueFor_21 (fun _ h => List.mem_cons_of_mem _ (List.mem_append_left _ (List.mem_append_left _ (List.mem_append_right _ (h))))) cs4 (by decide) rfl (List.mem_of_getElem? (i := 4) rfl) rfl b1 b2 ?_
  refine J_iload_n dX0_isTrueFor_24 rfl rfl ?_
  refine J_calli0 (jrunV (As := [.int (x)]) (ct_X3_holds l D dA hst M t3 n3 b9 ((x))) dX0_isTrueFor_25 yY_X3_holds gX0_isTrueFor_X3_holds rfl cs7 (Nat.lt_of_succ_lt b9.1) b9.2.1 rfl ⟨by omega, by omega⟩ ⟨Nat.zero_le _, Nat.zero_le _⟩ rfl (Nat.le_of_ble_eq_true rfl)) (rfl) (rfl) ?_
  refine J_calli0 (jrunSN (As := [.int (op), .int (jb (rHolds (ji M (t2 + 1)) n2 ((x)))), .int (jb (rHolds (ji M (t3 + 1)) n3 ((x))))]) (ct_X7_meets l D dA hst M ((op)) (rHolds (ji M (t2 + 1)) n2 ((x))) (rHolds (ji M (t3 + 1)) n3 ((x)))) dX0_isTrueFor_28 yY_X7_meets gX0_isTrueFor_X7_meets_n54 (List.mem_of_getElem? (i := 24) rfl) jnw_X0_isTrueFor_54 (List.mem_of_getElem? (i := 23) rfl) rfl ⟨by omega, by omega⟩ ⟨Nat.zero_le _, Nat.zero_le _⟩ rfl (Nat.le_of_ble_eq_true rfl)) (rfl) (rfl) ?_
  refine J_icmp_ne dX0_isTrueFor_31 (tgt := 38) (by decide) (fun c31 => ?_) (fun c31 => ?_)
  · refine J_iconst (x := 0) dX0_isTrueFor_38 (by decide) ?_
    exact J_iret (ty := .boolean) dX0_isTrueFor_39 rfl (by rfl) ⟨(by first | (rw [b10]; unfold cF; rw [decide_eq_true (jb_inj.mp c31)]; rfl) | (rw [b10]; unfold cF; rw [decide_eq_false (jb_ne c31)]; rfl) | fail "F"), (by rfl)⟩
  · refine J_iconst (x := 1) dX0_isTrueFor_34 (by decide) ?_
    refine J_goto (tgt := 39) dX0_isTrueFor_35 (by decide) ?_
    exact J_iret (ty := .boolean) dX0_isTrueFor_39 rfl (by rfl) ⟨(by first | (rw [b10]; unfold cF; rw [decide_eq_true (jb_inj.mp c31)]; rfl) | (rw [b10]; unfold cF; rw [decide_eq_false (jb_ne c31)]; rfl) | fail "F"), (by rfl)⟩

theorem dX0_isTrueRound_0 : decode cX0_isTrueRound 0 = .ok (.aload_n 0, 1) := by decide +kernel
theorem dX0_isTrueRound_1 : decode cX0_isTrueRound 1 = .ok (.iload_n 1, 1) := by decide +kernel
theorem dX0_isTrueRound_2 : decode cX0_isTrueRound 2 = .ok (.iconst 1, 1) := by decide +kernel
theorem dX0_isTrueRound_3 : decode cX0_isTrueRound 3 = .ok (.isub, 1) := by decide +kernel
theorem dX0_isTrueRound_4 : decode cX0_isTrueRound 4 = .ok (.invokevirtual 33, 3) := by decide +kernel
set_option maxRecDepth 20000 in
theorem ggX0_isTrueRound_X0_isTrueFor : GoodIn wsX0_isTrueRound wsX0_isTrueFor := goodIn_ca (goodIn_r _ [5, 6, 7, 8, 9, 10, 11, 12, 13, 14, 15, 16, 17, 18, 19, 20, 21, 22, 23, 24, 25, 26, 27, 28, 29, 30, 31, 32, 33, 34, 35] (by decide +kernel) (by decide +kernel)) (goodIn_sub (fun _ h => List.mem_cons_of_mem _ (List.mem_append_right _ h)) (by decide +kernel))
set_option maxRecDepth 20000 in
theorem gX0_isTrueRound_X0_isTrueFor : GoodIn wsX0_isTrueRound (wsV RX0 33 RX0 yX0_isTrueFor wsX0_isTrueFor) := goodIn_app (goodIn_of _ (by decide +kernel)) ggX0_isTrueRound_X0_isTrueFor
theorem yY_X0_isTrueFor : jY yX0_isTrueFor wsX0_isTrueFor cX0_isTrueFor 2 (some .boolean) 1 := ⟨⟨_, rfl⟩, by decide +kernel, by decide +kernel, by decide +kernel⟩
theorem dX0_isTrueRound_7 : decode cX0_isTrueRound 7 = .ok (.ifCond .eq 25, 3) := by decide +kernel
theorem dX0_isTrueRound_32 : decode cX0_isTrueRound 32 = .ok (.iconst 0, 1) := by decide +kernel
theorem dX0_isTrueRound_33 : decode cX0_isTrueRound 33 = .ok (.ireturn, 1) := by decide +kernel
theorem dX0_isTrueRound_10 : decode cX0_isTrueRound 10 = .ok (.aload_n 0, 1) := by decide +kernel
theorem dX0_isTrueRound_11 : decode cX0_isTrueRound 11 = .ok (.iload_n 1, 1) := by decide +kernel
theorem dX0_isTrueRound_12 : decode cX0_isTrueRound 12 = .ok (.invokevirtual 33, 3) := by decide +kernel
theorem dX0_isTrueRound_15 : decode cX0_isTrueRound 15 = .ok (.ifCond .eq 17, 3) := by decide +kernel
theorem dX0_isTrueRound_18 : decode cX0_isTrueRound 18 = .ok (.aload_n 0, 1) := by decide +kernel
theorem dX0_isTrueRound_19 : decode cX0_isTrueRound 19 = .ok (.iload_n 1, 1) := by decide +kernel
theorem dX0_isTrueRound_20 : decode cX0_isTrueRound 20 = .ok (.iconst 1, 1) := by decide +kernel
theorem dX0_isTrueRound_21 : decode cX0_isTrueRound 21 = .ok (.iadd, 1) := by decide +kernel
theorem dX0_isTrueRound_22 : decode cX0_isTrueRound 22 = .ok (.invokevirtual 33, 3) := by decide +kernel
theorem dX0_isTrueRound_25 : decode cX0_isTrueRound 25 = .ok (.ifCond .eq 7, 3) := by decide +kernel
theorem dX0_isTrueRound_28 : decode cX0_isTrueRound 28 = .ok (.iconst 1, 1) := by decide +kernel
theorem dX0_isTrueRound_29 : decode cX0_isTrueRound 29 = .ok (.goto 4, 3) := by decide +kernel
set_option maxHeartbeats 2000000 in
set_option maxRecDepth 20000 in
theorem ct_X0_isTrueRound (l : Launch) (D : va_G) (dA : Nat → ClassId) (hst : l.stackTraces = false) (M : jM) (t : Nat) (F : Int32 → Bool) (hC : jCm M t F) (x : Int32) : jCT l D dA yX0_isTrueRound wsX0_isTrueRound (24) (540) (0) (0) 1 [.ref (t), .int (x)] M (jPo (oI (jb (cRound F x))) (M)) := by
  refine jBody (cc := cX0_isTrueRound) (nL := 2) (rt := (some .boolean)) (ini := false) (by decide) rfl hst (Nat.le_of_ble_eq_true rfl) (by simp [Value.category]) (by intro h9; first | exact absurd h9 (by decide) | rfl) ?_
  show J l D dA RX0 cX0_isTrueRound wsX0_isTrueRound 2 false (some .boolean) [] (24) (540) (jF D dA (jn M) (jPo (oI (jb (cRound F x))) (M)) 1) (jn M) (0) (0) (M) 0 [.ref (t), .int (x)] []
  obtain ⟨t1, n1, t2, n2, t3, n3, op, b1, b2, b3, b4, b5, b6, b7, b8, b9, b10⟩ := id hC
  refine J_aload_n (t) dX0_isTrueRound_0 rfl rfl ?_
  refine J_iload_n dX0_isTrueRound_1 rfl rfl ?_
  refine J_iconst (x := 1) dX0_isTrueRound_2 (by decide) ?_
  refine J_isub dX0_isTrueRound_3 ?_
  refine J_calli0 (jrunV (As := [.int ((x) - (1))]) (ct_X0_isTrueFor l D dA hst M t F hC (((x) - (1)))) dX0_isTrueRound_4 yY_X0_isTrueFor gX0_isTrueRound_X0_isTrueFor rfl cs4 b1 b2 rfl ⟨by omega, by omega⟩ ⟨Nat.zero_le _, Nat.zero_le _⟩ rfl (Nat.le_of_ble_eq_true rfl)) (rfl) (rfl) ?_
  refine J_if_eq dX0_isTrueRound_7 (tgt := 32) (by decide) (fun c7 => ?_) (fun c7 => ?_)
  · have c7 := jb0T c7
    refine J_iconst (x := 0) dX0_isTrueRound_32 (by decide) ?_
    exact J_iret (ty := .boolean) dX0_isTrueRound_33 rfl (by rfl) ⟨(by first | (unfold cRound; rw [c7]; rfl) | (unfold cRound; rw [c7, c15]; rfl) | (unfold cRound; rw [c7, c15, c25]; rfl) | fail "R"), (by rfl)⟩
  · have c7 := jb0F c7
    refine J_aload_n (t) dX0_isTrueRound_10 rfl rfl ?_
    refine J_iload_n dX0_isTrueRound_11 rfl rfl ?_
    refine J_calli0 (jrunV (As := [.int (x)]) (ct_X0_isTrueFor l D dA hst M t F hC ((x))) dX0_isTrueRound_12 yY_X0_isTrueFor gX0_isTrueRound_X0_isTrueFor rfl cs4 b1 b2 rfl ⟨by omega, by omega⟩ ⟨Nat.zero_le _, Nat.zero_le _⟩ rfl (Nat.le_of_ble_eq_true rfl)) (rfl) (rfl) ?_
    refine J_if_eq dX0_isTrueRound_15 (tgt := 32) (by decide) (fun c15 => ?_) (fun c15 => ?_)
    · have c15 := jb0T c15
      refine J_iconst (x := 0) dX0_isTrueRound_32 (by decide) ?_
      exact J_iret (ty := .boolean) dX0_isTrueRound_33 rfl (by rfl) ⟨(by first | (unfold cRound; rw [c7]; rfl) | (unfold cRound; rw [c7, c15]; rfl) | (unfold cRound; rw [c7, c15, c25]; rfl) | fail "R"), (by rfl)⟩
    · have c15 := jb0F c15
      refine J_aload_n (t) dX0_isTrueRound_18 rfl rfl ?_
      refine J_iload_n dX0_isTrueRound_19 rfl rfl ?_
      refine J_iconst (x := 1) dX0_isTrueRound_20 (by decide) ?_
      refine J_iadd dX0_isTrueRound_21 ?_
      refine J_calli0 (jrunV (As := [.int ((x) + (1))]) (ct_X0_isTrueFor l D dA hst M t F hC (((x) + (1)))) dX0_isTrueRound_22 yY_X0_isTrueFor gX0_isTrueRound_X0_isTrueFor rfl cs4 b1 b2 rfl ⟨by omega, by omega⟩ ⟨Nat.zero_le _, Nat.zero_le _⟩ rfl (Nat.le_of_ble_eq_true rfl)) (rfl) (rfl) ?_
      refine J_if_eq dX0_isTrueRound_25 (tgt := 32) (by decide) (fun c25 => ?_) (fun c25 => ?_)
      · have c25 := jb0T c25
        refine J_iconst (x := 0) dX0_isTrueRound_32 (by decide) ?_
        exact J_iret (ty := .boolean) dX0_isTrueRound_33 rfl (by rfl) ⟨(by first | (unfold cRound; rw [c7]; rfl) | (unfold cRound; rw [c7, c15]; rfl) | (unfold cRound; rw [c7, c15, c25]; rfl) | fail "R"), (by rfl)⟩
      · have c25 := jb0F c25
        refine J_iconst (x := 1) dX0_isTrueRound_28 (by decide) ?_
        refine J_goto (tgt := 33) dX0_isTrueRound_29 (by decide) ?_
        exact J_iret (ty := .boolean) dX0_isTrueRound_33 rfl (by rfl) ⟨(by first | (unfold cRound; rw [c7]; rfl) | (unfold cRound; rw [c7, c15]; rfl) | (unfold cRound; rw [c7, c15, c25]; rfl) | fail "R"), (by rfl)⟩

theorem dX0_isTrueRoundEndsOf_2 : decode cX0_isTrueRoundEndsOf 2 = .ok (.iload_n 2, 1) := by decide +kernel
theorem dX0_isTrueRoundEndsOf_3 : decode cX0_isTrueRoundEndsOf 3 = .ok (.aload_n 1, 1) := by decide +kernel
theorem dX0_isTrueRoundEndsOf_4 : decode cX0_isTrueRoundEndsOf 4 = .ok (.invokevirtual 37, 3) := by decide +kernel
set_option maxRecDepth 20000 in
theorem ggX0_isTrueRoundEndsOf_X3_spanCount : GoodIn wsX0_isTrueRoundEndsOf wsX3_spanCount := goodIn_r _ [5, 6, 41] (by decide +kernel) (by decide +kernel)
set_option maxRecDepth 20000 in
theorem gX0_isTrueRoundEndsOf_X3_spanCount : GoodIn wsX0_isTrueRoundEndsOf (wsV RX0 37 RX3 yX3_spanCount wsX3_spanCount) := goodIn_app (goodIn_of _ (by decide +kernel)) ggX0_isTrueRoundEndsOf_X3_spanCount
theorem dX0_isTrueRoundEndsOf_7 : decode cX0_isTrueRoundEndsOf 7 = .ok (.if_icmp .ge 35, 3) := by decide +kernel
theorem dX0_isTrueRoundEndsOf_42 : decode cX0_isTrueRoundEndsOf 42 = .ok (.iconst 1, 1) := by decide +kernel
theorem dX0_isTrueRoundEndsOf_43 : decode cX0_isTrueRoundEndsOf 43 = .ok (.ireturn, 1) := by decide +kernel
theorem dX0_isTrueRoundEndsOf_10 : decode cX0_isTrueRoundEndsOf 10 = .ok (.aload_n 0, 1) := by decide +kernel
theorem dX0_isTrueRoundEndsOf_11 : decode cX0_isTrueRoundEndsOf 11 = .ok (.aload_n 1, 1) := by decide +kernel
theorem dX0_isTrueRoundEndsOf_12 : decode cX0_isTrueRoundEndsOf 12 = .ok (.iload_n 2, 1) := by decide +kernel
theorem dX0_isTrueRoundEndsOf_13 : decode cX0_isTrueRoundEndsOf 13 = .ok (.invokevirtual 42, 3) := by decide +kernel
set_option maxRecDepth 20000 in
theorem ggX0_isTrueRoundEndsOf_X3_firstOf : GoodIn wsX0_isTrueRoundEndsOf wsX3_firstOf := goodIn_ca (goodIn_r _ [10, 6, 11, 2, 3, 4, 5, 41] (by decide +kernel) (by decide +kernel)) (goodIn_sub (fun _ h => List.mem_cons_of_mem _ (List.mem_append_right _ h)) (by decide +kernel))
set_option maxRecDepth 20000 in
theorem gX0_isTrueRoundEndsOf_X3_firstOf : GoodIn wsX0_isTrueRoundEndsOf (wsV RX0 42 RX3 yX3_firstOf wsX3_firstOf) := goodIn_app (goodIn_of _ (by decide +kernel)) ggX0_isTrueRoundEndsOf_X3_firstOf
theorem dX0_isTrueRoundEndsOf_16 : decode cX0_isTrueRoundEndsOf 16 = .ok (.invokevirtual 45, 3) := by decide +kernel
set_option maxRecDepth 20000 in
theorem ggX0_isTrueRoundEndsOf_X0_isTrueRound : GoodIn wsX0_isTrueRoundEndsOf wsX0_isTrueRound := goodIn_ca (goodIn_r _ [16, 17, 18, 19, 15, 20, 21, 22, 23, 24, 25, 26, 27, 4, 28, 29, 30, 31, 32, 6, 11, 2, 3, 5, 33, 8, 9, 10, 34, 35, 36, 42, 43, 44, 45, 41] (by decide +kernel) (by decide +kernel)) (goodIn_sub (fun _ h => List.mem_cons_of_mem _ (List.mem_append_right _ h)) (by decide +kernel))
set_option maxRecDepth 20000 in
theorem gX0_isTrueRoundEndsOf_X0_isTrueRound : GoodIn wsX0_isTrueRoundEndsOf (wsV RX0 45 RX0 yX0_isTrueRound wsX0_isTrueRound) := goodIn_app (goodIn_of _ (by decide +kernel)) ggX0_isTrueRoundEndsOf_X0_isTrueRound
theorem yY_X0_isTrueRound : jY yX0_isTrueRound wsX0_isTrueRound cX0_isTrueRound 2 (some .boolean) 1 := ⟨⟨_, rfl⟩, by decide +kernel, by decide +kernel, by decide +kernel⟩
theorem dX0_isTrueRoundEndsOf_19 : decode cX0_isTrueRoundEndsOf 19 = .ok (.ifCond .eq 15, 3) := by decide +kernel
theorem dX0_isTrueRoundEndsOf_34 : decode cX0_isTrueRoundEndsOf 34 = .ok (.iconst 0, 1) := by decide +kernel
theorem dX0_isTrueRoundEndsOf_35 : decode cX0_isTrueRoundEndsOf 35 = .ok (.ireturn, 1) := by decide +kernel
theorem dX0_isTrueRoundEndsOf_22 : decode cX0_isTrueRoundEndsOf 22 = .ok (.aload_n 0, 1) := by decide +kernel
theorem dX0_isTrueRoundEndsOf_23 : decode cX0_isTrueRoundEndsOf 23 = .ok (.aload_n 1, 1) := by decide +kernel
theorem dX0_isTrueRoundEndsOf_24 : decode cX0_isTrueRoundEndsOf 24 = .ok (.iload_n 2, 1) := by decide +kernel
theorem dX0_isTrueRoundEndsOf_25 : decode cX0_isTrueRoundEndsOf 25 = .ok (.invokevirtual 48, 3) := by decide +kernel
set_option maxRecDepth 20000 in
theorem ggX0_isTrueRoundEndsOf_X3_lastOf : GoodIn wsX0_isTrueRoundEndsOf wsX3_lastOf := goodIn_ca (goodIn_r _ [40, 6, 11, 2, 3, 4, 5, 41] (by decide +kernel) (by decide +kernel)) (goodIn_sub (fun _ h => List.mem_cons_of_mem _ (List.mem_append_right _ h)) (by decide +kernel))
set_option maxRecDepth 20000 in
theorem gX0_isTrueRoundEndsOf_X3_lastOf : GoodIn wsX0_isTrueRoundEndsOf (wsV RX0 48 RX3 yX3_lastOf wsX3_lastOf) := goodIn_app (goodIn_of _ (by decide +kernel)) ggX0_isTrueRoundEndsOf_X3_lastOf
theorem dX0_isTrueRoundEndsOf_28 : decode cX0_isTrueRoundEndsOf 28 = .ok (.invokevirtual 45, 3) := by decide +kernel
theorem dX0_isTrueRoundEndsOf_31 : decode cX0_isTrueRoundEndsOf 31 = .ok (.ifCond .ne 5, 3) := by decide +kernel
theorem dX0_isTrueRoundEndsOf_36 : decode cX0_isTrueRoundEndsOf 36 = .ok (.iinc 2 1, 3) := by decide +kernel
theorem dX0_isTrueRoundEndsOf_39 : decode cX0_isTrueRoundEndsOf 39 = .ok (.goto (-37), 3) := by decide +kernel
theorem dX0_isTrueRoundEndsOf_0 : decode cX0_isTrueRoundEndsOf 0 = .ok (.iconst 0, 1) := by decide +kernel
theorem dX0_isTrueRoundEndsOf_1 : decode cX0_isTrueRoundEndsOf 1 = .ok (.istore_n 2, 1) := by decide +kernel
set_option maxHeartbeats 2000000 in
set_option maxRecDepth 20000 in
theorem ct_X0_isTrueRoundEndsOf (l : Launch) (D : va_G) (dA : Nat → ClassId) (hst : l.stackTraces = false) (M : jM) (t : Nat) (F : Int32 → Bool) (hC : jCm M t F) (t9 n9 : Nat) (hR9 : jRg M t9 n9) : jCT l D dA yX0_isTrueRoundEndsOf wsX0_isTrueRoundEndsOf (25) (600) (0) (0) 1 [.ref (t), .ref (t9)] M (jPo (oI (jb (jall (fun k => cRound F (rFirst (ji M (t9 + 1)) n9 k) && cRound F (rLast (ji M (t9 + 1)) n9 k)) n9))) (M)) := by
  refine jBody (cc := cX0_isTrueRoundEndsOf) (nL := 3) (rt := (some .boolean)) (ini := false) (by decide) rfl hst (Nat.le_of_ble_eq_true rfl) (by simp [Value.category]) (by intro h9; first | exact absurd h9 (by decide) | rfl) ?_
  show J l D dA RX0 cX0_isTrueRoundEndsOf wsX0_isTrueRoundEndsOf 3 false (some .boolean) [] (25) (600) (jF D dA (jn M) (jPo (oI (jb (jall (fun k => cRound F (rFirst (ji M (t9 + 1)) n9 k) && cRound F (rLast (ji M (t9 + 1)) n9 k)) n9))) (M)) 1) (jn M) (0) (0) (M) 0 [.ref (t), .ref (t9), .float 0] []
  obtain ⟨t1, n1, t2, n2, t3, n3, op, b1, b2, b3, b4, b5, b6, b7, b8, b9, b10⟩ := id hC
  have hn9 := hR9.2.2.2.2.2
  have L2 : ∀ (fuel : Nat) (k : Nat) (hk : k ≤ n9) (hI : jall (fun k => cRound F (rFirst (ji M (t9 + 1)) n9 k) && cRound F (rLast (ji M (t9 + 1)) n9 k)) k = true), n9 - k < fuel → J l D dA RX0 cX0_isTrueRoundEndsOf wsX0_isTrueRoundEndsOf 3 false (some .boolean) [] (25) (600) (jF D dA (jn M) (jPo (oI (jb (jall (fun k => cRound F (rFirst (ji M (t9 + 1)) n9 k) && cRound F (rLast (ji M (t9 + 1)) n9 k)) n9))) (M)) 1) (jn M) (0) (0) (M) 2 [.ref (t), .ref (t9), .int (nI (k))] [] := by
    intro fuel
    induction fuel with
    | zero => intro k hk hI hm; exact absurd hm (Nat.not_lt_zero _)
    | succ fuel ih2 =>
      intro k hk hI hm2
      refine J_iload_n dX0_isTrueRoundEndsOf_2 rfl rfl ?_
      refine J_aload_n (t9) dX0_isTrueRoundEndsOf_3 rfl rfl ?_
      refine J_calli0 (jrunV (As := []) (ct_X3_spanCount l D dA hst M t9 n9 hR9) dX0_isTrueRoundEndsOf_4 yY_X3_spanCount gX0_isTrueRoundEndsOf_X3_spanCount rfl cs7 (Nat.lt_of_succ_lt hR9.1) hR9.2.1 rfl ⟨by omega, by omega⟩ ⟨Nat.zero_le _, Nat.zero_le _⟩ rfl (Nat.le_of_ble_eq_true rfl)) (rfl) (rfl) ?_
      refine J_icmp_ge dX0_isTrueRoundEndsOf_7 (tgt := 42) (by decide) (fun c7 => ?_) (fun c7 => ?_)
      · have c7 := jleT (a := n9) (b := k) (by omega) (by omega) c7
        refine J_iconst (x := 1) dX0_isTrueRoundEndsOf_42 (by decide) ?_
        exact J_iret (ty := .boolean) dX0_isTrueRoundEndsOf_43 rfl (by rfl) ⟨(by have hI2 : jall (fun k => cRound F (rFirst (ji M (t9 + 1)) n9 k) && cRound F (rLast (ji M (t9 + 1)) n9 k)) n9 = true := (by (have e9 : n9 = k := by omega); (conv => lhs; arg 2; rw [e9]); exact hI); rw [hI2]; rfl), (by rfl)⟩
      · have c7 := jleF (a := n9) (b := k) (by omega) (by omega) c7
        refine J_aload_n (t) dX0_isTrueRoundEndsOf_10 rfl rfl ?_
        refine J_aload_n (t9) dX0_isTrueRoundEndsOf_11 rfl rfl ?_
        refine J_iload_n dX0_isTrueRoundEndsOf_12 rfl rfl ?_
        refine J_calli0 (jrunV (As := [.int (nI (k))]) (ct_X3_firstOf l D dA hst M t9 n9 hR9 (k) (by omega)) dX0_isTrueRoundEndsOf_13 yY_X3_firstOf gX0_isTrueRoundEndsOf_X3_firstOf rfl cs7 (Nat.lt_of_succ_lt hR9.1) hR9.2.1 rfl ⟨by omega, by omega⟩ ⟨Nat.zero_le _, Nat.zero_le _⟩ rfl (Nat.le_of_ble_eq_true rfl)) (rfl) (rfl) ?_
        refine J_calli0 (jrunV (As := [.int (rFirst (ji M (t9 + 1)) n9 (k))]) (ct_X0_isTrueRound l D dA hst M t F hC ((rFirst (ji M (t9 + 1)) n9 (k)))) dX0_isTrueRoundEndsOf_16 yY_X0_isTrueRound gX0_isTrueRoundEndsOf_X0_isTrueRound rfl cs4 b1 b2 rfl ⟨by omega, by omega⟩ ⟨Nat.zero_le _, Nat.zero_le _⟩ rfl (Nat.le_of_ble_eq_true rfl)) (rfl) (rfl) ?_
        refine J_if_eq dX0_isTrueRoundEndsOf_19 (tgt := 34) (by decide) (fun c19 => ?_) (fun c19 => ?_)
        · have c19 := jb0T c19
          refine J_iconst (x := 0) dX0_isTrueRoundEndsOf_34 (by decide) ?_
          exact J_iret (ty := .boolean) dX0_isTrueRoundEndsOf_35 rfl (by rfl) ⟨(by first | (rw [jall_f (k := k) (by omega) (by show (cRound F _ && cRound F _) = false; rw [c19]; rfl)]; rfl) | (rw [jall_f (k := k) (by omega) (by show (cRound F _ && cRound F _) = false; rw [c19, c31]; rfl)]; rfl) | fail "j"), (by rfl)⟩
        · have c19 := jb0F c19
          refine J_aload_n (t) dX0_isTrueRoundEndsOf_22 rfl rfl ?_
          refine J_aload_n (t9) dX0_isTrueRoundEndsOf_23 rfl rfl ?_
          refine J_iload_n dX0_isTrueRoundEndsOf_24 rfl rfl ?_
          refine J_calli0 (jrunV (As := [.int (nI (k))]) (ct_X3_lastOf l D dA hst M t9 n9 hR9 (k) (by omega)) dX0_isTrueRoundEndsOf_25 yY_X3_lastOf gX0_isTrueRoundEndsOf_X3_lastOf rfl cs7 (Nat.lt_of_succ_lt hR9.1) hR9.2.1 rfl ⟨by omega, by omega⟩ ⟨Nat.zero_le _, Nat.zero_le _⟩ rfl (Nat.le_of_ble_eq_true rfl)) (rfl) (rfl) ?_
          refine J_calli0 (jrunV (As := [.int (rLast (ji M (t9 + 1)) n9 (k))]) (ct_X0_isTrueRound l D dA hst M t F hC ((rLast (ji M (t9 + 1)) n9 (k)))) dX0_isTrueRoundEndsOf_28 yY_X0_isTrueRound gX0_isTrueRoundEndsOf_X0_isTrueRound rfl cs4 b1 b2 rfl ⟨by omega, by omega⟩ ⟨Nat.zero_le _, Nat.zero_le _⟩ rfl (Nat.le_of_ble_eq_true rfl)) (rfl) (rfl) ?_
          refine J_if_ne dX0_isTrueRoundEndsOf_31 (tgt := 36) (by decide) (fun c31 => ?_) (fun c31 => ?_)
          · have c31 := jb0F c31
            refine J_iinc (y := nI (k + 1)) (lv' := [.ref (t), .ref (t9), .int (nI (k + 1))]) dX0_isTrueRoundEndsOf_36 rfl (jinc (k)) (by decide) rfl rfl ?_
            refine J_goto (tgt := 2) dX0_isTrueRoundEndsOf_39 (by decide) ?_
            exact ih2 (k + 1) (by omega) (by exact jall_s hI (by show (cRound F _ && cRound F _) = true; rw [c19, c31]; rfl)) (by omega)
          · have c31 := jb0T c31
            refine J_iconst (x := 0) dX0_isTrueRoundEndsOf_34 (by decide) ?_
            exact J_iret (ty := .boolean) dX0_isTrueRoundEndsOf_35 rfl (by rfl) ⟨(by first | (rw [jall_f (k := k) (by omega) (by show (cRound F _ && cRound F _) = false; rw [c19]; rfl)]; rfl) | (rw [jall_f (k := k) (by omega) (by show (cRound F _ && cRound F _) = false; rw [c19, c31]; rfl)]; rfl) | fail "j"), (by rfl)⟩
  refine J_iconst (x := 0) dX0_isTrueRoundEndsOf_0 (by decide) ?_
  refine J_istore_n (lv' := [.ref (t), .ref (t9), .int (0)]) dX0_isTrueRoundEndsOf_1 rfl (by decide) rfl rfl ?_
  exact L2 _ (0) (by omega) (by rfl) (Nat.lt_succ_self _)

theorem dX0_isTrueForPublished_2 : decode cX0_isTrueForPublished 2 = .ok (.iload_n 2, 1) := by decide +kernel
theorem dX0_isTrueForPublished_3 : decode cX0_isTrueForPublished 3 = .ok (.aload_n 1, 1) := by decide +kernel
theorem dX0_isTrueForPublished_4 : decode cX0_isTrueForPublished 4 = .ok (.invokevirtual 23, 3) := by decide +kernel
set_option maxRecDepth 20000 in
theorem ggX0_isTrueForPublished_X5_publishedCount : GoodIn wsX0_isTrueForPublished wsX5_publishedCount := goodIn_r _ [5, 6, 42, 43, 44] (by decide +kernel) (by decide +kernel)
set_option maxRecDepth 20000 in
theorem gX0_isTrueForPublished_X5_publishedCount : GoodIn wsX0_isTrueForPublished (wsV RX0 23 RX5 yX5_publishedCount wsX5_publishedCount) := goodIn_app (goodIn_of _ (by decide +kernel)) ggX0_isTrueForPublished_X5_publishedCount
theorem yY_X5_publishedCount : jY yX5_publishedCount wsX5_publishedCount cX5_publishedCount 1 (some .int) 0 := ⟨⟨_, rfl⟩, by decide +kernel, by decide +kernel, by decide +kernel⟩
theorem dX0_isTrueForPublished_7 : decode cX0_isTrueForPublished 7 = .ok (.if_icmp .ge 23, 3) := by decide +kernel
theorem dX0_isTrueForPublished_30 : decode cX0_isTrueForPublished 30 = .ok (.iconst 1, 1) := by decide +kernel
theorem dX0_isTrueForPublished_31 : decode cX0_isTrueForPublished 31 = .ok (.ireturn, 1) := by decide +kernel
theorem dX0_isTrueForPublished_10 : decode cX0_isTrueForPublished 10 = .ok (.aload_n 0, 1) := by decide +kernel
theorem dX0_isTrueForPublished_11 : decode cX0_isTrueForPublished 11 = .ok (.aload_n 1, 1) := by decide +kernel
theorem dX0_isTrueForPublished_12 : decode cX0_isTrueForPublished 12 = .ok (.iload_n 2, 1) := by decide +kernel
theorem dX0_isTrueForPublished_13 : decode cX0_isTrueForPublished 13 = .ok (.invokevirtual 29, 3) := by decide +kernel
set_option maxRecDepth 20000 in
theorem ggX0_isTrueForPublished_X5_publishedAt : GoodIn wsX0_isTrueForPublished wsX5_publishedAt := goodIn_ca (goodIn_r _ [10, 6, 11, 42, 43, 44] (by decide +kernel) (by decide +kernel)) (goodIn_sub (fun _ h => List.mem_cons_of_mem _ (List.mem_append_right _ h)) (by decide +kernel))
set_option maxRecDepth 20000 in
theorem gX0_isTrueForPublished_X5_publishedAt : GoodIn wsX0_isTrueForPublished (wsV RX0 29 RX5 yX5_publishedAt wsX5_publishedAt) := goodIn_app (goodIn_of _ (by decide +kernel)) ggX0_isTrueForPublished_X5_publishedAt
theorem dX0_isTrueForPublished_16 : decode cX0_isTrueForPublished 16 = .ok (.invokevirtual 33, 3) := by decide +kernel
set_option maxRecDepth 20000 in
theorem ggX0_isTrueForPublished_X0_isTrueFor : GoodIn wsX0_isTrueForPublished wsX0_isTrueFor := goodIn_ca (goodIn_r _ [16, 17, 18, 19, 20, 21, 22, 23, 24, 25, 26, 27, 28, 29, 30, 31, 32, 33, 34, 35, 36, 37, 38, 39, 40, 41, 45, 46, 47, 48, 49] (by decide +kernel) (by decide +kernel)) (goodIn_sub (fun _ h => List.mem_cons_of_mem _ (List.mem_append_right _ h)) (by decide +kernel))
set_option maxRecDepth 20000 in
theorem gX0_isTrueForPublished_X0_isTrueFor : GoodIn wsX0_isTrueForPublished (wsV RX0 33 RX0 yX0_isTrueFor wsX0_isTrueFor) := goodIn_app (goodIn_of _ (by decide +kernel)) ggX0_isTrueForPublished_X0_isTrueFor
theorem dX0_isTrueForPublished_19 : decode cX0_isTrueForPublished 19 = .ok (.ifCond .ne 5, 3) := by decide +kernel
theorem dX0_isTrueForPublished_24 : decode cX0_isTrueForPublished 24 = .ok (.iinc 2 1, 3) := by decide +kernel
theorem dX0_isTrueForPublished_27 : decode cX0_isTrueForPublished 27 = .ok (.goto (-25), 3) := by decide +kernel
theorem dX0_isTrueForPublished_22 : decode cX0_isTrueForPublished 22 = .ok (.iconst 0, 1) := by decide +kernel
theorem dX0_isTrueForPublished_23 : decode cX0_isTrueForPublished 23 = .ok (.ireturn, 1) := by decide +kernel
theorem dX0_isTrueForPublished_0 : decode cX0_isTrueForPublished 0 = .ok (.iconst 0, 1) := by decide +kernel
theorem dX0_isTrueForPublished_1 : decode cX0_isTrueForPublished 1 = .ok (.istore_n 2, 1) := by decide +kernel
set_option maxHeartbeats 2000000 in
set_option maxRecDepth 20000 in
theorem ct_X0_isTrueForPublished (l : Launch) (D : va_G) (dA : Nat → ClassId) (hst : l.stackTraces = false) (M : jM) (t : Nat) (F : Int32 → Bool) (hC : jCm M t F) (s9 c9 : Nat) (hS9 : jStt M s9 c9) : jCT l D dA yX0_isTrueForPublished wsX0_isTrueForPublished (24) (540) (0) (0) 1 [.ref (t), .ref (s9)] M (jPo (oI (jb (jall (fun k => F (stAt (ji M (s9 + 2)) c9 k)) c9))) (M)) := by
  refine jBody (cc := cX0_isTrueForPublished) (nL := 3) (rt := (some .boolean)) (ini := false) (by decide) rfl hst (Nat.le_of_ble_eq_true rfl) (by simp [Value.category]) (by intro h9; first | exact absurd h9 (by decide) | rfl) ?_
  show J l D dA RX0 cX0_isTrueForPublished wsX0_isTrueForPublished 3 false (some .boolean) [] (24) (540) (jF D dA (jn M) (jPo (oI (jb (jall (fun k => F (stAt (ji M (s9 + 2)) c9 k)) c9))) (M)) 1) (jn M) (0) (0) (M) 0 [.ref (t), .ref (s9), .float 0] []
  obtain ⟨t1, n1, t2, n2, t3, n3, op, b1, b2, b3, b4, b5, b6, b7, b8, b9, b10⟩ := id hC
  obtain ⟨u1, u2, u3, u4, u5, u6, u7, u8, u9, u10⟩ := id hS9
  have L2 : ∀ (fuel : Nat) (k : Nat) (hk : k ≤ c9) (hI : jall (fun k => F (stAt (ji M (s9 + 2)) c9 k)) k = true), c9 - k < fuel → J l D dA RX0 cX0_isTrueForPublished wsX0_isTrueForPublished 3 false (some .boolean) [] (24) (540) (jF D dA (jn M) (jPo (oI (jb (jall (fun k => F (stAt (ji M (s9 + 2)) c9 k)) c9))) (M)) 1) (jn M) (0) (0) (M) 2 [.ref (t), .ref (s9), .int (nI (k))] [] := by
    intro fuel
    induction fuel with
    | zero => intro k hk hI hm; exact absurd hm (Nat.not_lt_zero _)
    | succ fuel ih2 =>
      intro k hk hI hm2
      refine J_iload_n dX0_isTrueForPublished_2 rfl rfl ?_
      refine J_aload_n (s9) dX0_isTrueForPublished_3 rfl rfl ?_
      refine J_calli0 (jrunV (As := []) (ct_X5_publishedCount l D dA hst M s9 c9 hS9) dX0_isTrueForPublished_4 yY_X5_publishedCount gX0_isTrueForPublished_X5_publishedCount rfl cs9 (show s9 < jn M from by omega) u2 rfl ⟨by omega, by omega⟩ ⟨Nat.zero_le _, Nat.zero_le _⟩ rfl (Nat.le_of_ble_eq_true rfl)) (rfl) (rfl) ?_
      refine J_icmp_ge dX0_isTrueForPublished_7 (tgt := 30) (by decide) (fun c7 => ?_) (fun c7 => ?_)
      · have c7 := jleT (a := c9) (b := k) (by omega) (by omega) c7
        refine J_iconst (x := 1) dX0_isTrueForPublished_30 (by decide) ?_
        exact J_iret (ty := .boolean) dX0_isTrueForPublished_31 rfl (by rfl) ⟨(by have hI2 : jall (fun k => F (stAt (ji M (s9 + 2)) c9 k)) c9 = true := (by (have e9 : c9 = k := by omega); (conv => lhs; arg 2; rw [e9]); exact hI); rw [hI2]; rfl), (by rfl)⟩
      · have c7 := jleF (a := c9) (b := k) (by omega) (by omega) c7
        refine J_aload_n (t) dX0_isTrueForPublished_10 rfl rfl ?_
        refine J_aload_n (s9) dX0_isTrueForPublished_11 rfl rfl ?_
        refine J_iload_n dX0_isTrueForPublished_12 rfl rfl ?_
        refine J_calli0 (jrunV (As := [.int (nI (k))]) (ct_X5_publishedAt l D dA hst M s9 c9 hS9 (k) (by omega)) dX0_isTrueForPublished_13 yY_X5_publishedAt gX0_isTrueForPublished_X5_publishedAt rfl cs9 (show s9 < jn M from by omega) u2 rfl ⟨by omega, by omega⟩ ⟨Nat.zero_le _, Nat.zero_le _⟩ rfl (Nat.le_of_ble_eq_true rfl)) (congrArg (fun z => oI z) (if_pos (by omega))) (rfl) ?_
        refine J_calli0 (jrunV (As := [.int (ji M (s9 + 2) k)]) (ct_X0_isTrueFor l D dA hst M t F hC ((ji M (s9 + 2) k))) dX0_isTrueForPublished_16 yY_X0_isTrueFor gX0_isTrueForPublished_X0_isTrueFor rfl cs4 b1 b2 rfl ⟨by omega, by omega⟩ ⟨Nat.zero_le _, Nat.zero_le _⟩ rfl (Nat.le_of_ble_eq_true rfl)) (rfl) (rfl) ?_
        refine J_if_ne dX0_isTrueForPublished_19 (tgt := 24) (by decide) (fun c19 => ?_) (fun c19 => ?_)
        · have c19 := jb0F c19
          refine J_iinc (y := nI (k + 1)) (lv' := [.ref (t), .ref (s9), .int (nI (k + 1))]) dX0_isTrueForPublished_24 rfl (jinc (k)) (by decide) rfl rfl ?_
          refine J_goto (tgt := 2) dX0_isTrueForPublished_27 (by decide) ?_
          exact ih2 (k + 1) (by omega) (by exact jall_s hI (by show F (stAt _ _ _) = true; unfold stAt; rw [if_pos (by omega)]; exact c19)) (by omega)
        · have c19 := jb0T c19
          refine J_iconst (x := 0) dX0_isTrueForPublished_22 (by decide) ?_
          exact J_iret (ty := .boolean) dX0_isTrueForPublished_23 rfl (by rfl) ⟨(by rw [jall_f (k := k) (by omega) (by show F (stAt _ _ _) = false; unfold stAt; rw [if_pos (by omega)]; exact c19)]; rfl), (by rfl)⟩
  refine J_iconst (x := 0) dX0_isTrueForPublished_0 (by decide) ?_
  refine J_istore_n (lv' := [.ref (t), .ref (s9), .int (0)]) dX0_isTrueForPublished_1 rfl (by decide) rfl rfl ?_
  exact L2 _ (0) (by omega) (by rfl) (Nat.lt_succ_self _)

theorem dX0_init_0 : decode cX0_init 0 = .ok (.aload_n 0, 1) := by decide +kernel
theorem dX0_init_1 : decode cX0_init 1 = .ok (.invokespecial 1, 3) := by decide +kernel
theorem dX0_init_4 : decode cX0_init 4 = .ok (.aload_n 0, 1) := by decide +kernel
theorem dX0_init_5 : decode cX0_init 5 = .ok (.aload_n 1, 1) := by decide +kernel
theorem dX0_init_6 : decode cX0_init 6 = .ok (.putfield 7, 3) := by decide +kernel
theorem dX0_init_9 : decode cX0_init 9 = .ok (.aload_n 0, 1) := by decide +kernel
theorem dX0_init_10 : decode cX0_init 10 = .ok (.aload_n 2, 1) := by decide +kernel
theorem dX0_init_11 : decode cX0_init 11 = .ok (.putfield 13, 3) := by decide +kernel
theorem dX0_init_14 : decode cX0_init 14 = .ok (.aload_n 0, 1) := by decide +kernel
theorem dX0_init_15 : decode cX0_init 15 = .ok (.aload_n 3, 1) := by decide +kernel
theorem dX0_init_16 : decode cX0_init 16 = .ok (.putfield 16, 3) := by decide +kernel
theorem dX0_init_19 : decode cX0_init 19 = .ok (.aload_n 0, 1) := by decide +kernel
theorem dX0_init_20 : decode cX0_init 20 = .ok (.iload 4, 2) := by decide +kernel
theorem dX0_init_22 : decode cX0_init 22 = .ok (.putfield 19, 3) := by decide +kernel
theorem dX0_init_25 : decode cX0_init 25 = .ok (.return_, 1) := by decide +kernel
set_option maxHeartbeats 2000000 in
set_option maxRecDepth 20000 in
theorem ct_X0_init (l : Launch) (D : va_G) (dA : Nat → ClassId) (hst : l.stackTraces = false) (M : jM) (t t1 t2 t3 : Nat) (op : Int32) (ht : t < jn M) (hk : jk M t = 4) : jCT l D dA yX0_init wsX0_init (20) (300) (0) (0) 0 [.ref (t), .ref (t1), .ref (t2), .ref (t3), .int (op)] M (jPo (oV) (jSi (jSr (jSr (jSr M t 0 (some t1)) t 1 (some t2)) t 2 (some t3)) t 3 op)) := by
  refine jBody (cc := cX0_init) (nL := 5) (rt := none) (ini := true) (by decide) rfl hst (Nat.le_of_ble_eq_true rfl) (by simp [Value.category]) (by intro h9; first | exact absurd h9 (by decide) | rfl) ?_
  show J l D dA RX0 cX0_init wsX0_init 5 true none [] (20) (300) (jF D dA (jn M) (jPo (oV) (jSi (jSr (jSr (jSr M t 0 (some t1)) t 1 (some t2)) t 2 (some t3)) t 3 op)) 0) (jn M) (0) (0) (M) 0 [.ref (t), .ref (t1), .ref (t2), .ref (t3), .int (op)] []
  refine J_aload_n (t) dX0_init_0 rfl rfl ?_
  refine J_objInit dX0_init_1 (List.mem_of_getElem? (i := 1) rfl) (List.mem_of_getElem? (i := 2) rfl) (List.mem_of_getElem? (i := 3) rfl) (Nat.le_of_ble_eq_true rfl) (by omega) (by omega) ?_
  refine J_aload_n (t) dX0_init_4 rfl rfl ?_
  refine J_aload_n (t1) dX0_init_5 rfl rfl ?_
  refine J_putrF (j := 0) (r := some (t1)) dX0_init_6 (fun _ h => List.mem_cons_of_mem _ (List.mem_append_right _ (h))) cs4 cty4 (by decide) rfl (List.mem_of_getElem? (i := 4) rfl) rfl rfl rfl rfl jfit_r ht hk ?_
  refine J_aload_n (t) dX0_init_9 rfl rfl ?_
  refine J_aload_n (t2) dX0_init_10 rfl rfl ?_
  refine J_putrF (j := 1) (r := some (t2)) dX0_init_11 (fun _ h => List.mem_cons_of_mem _ (List.mem_append_right _ (h))) cs4 cty4 (by decide) rfl (List.mem_of_getElem? (i := 5) rfl) rfl rfl rfl rfl jfit_r ht hk ?_
  refine J_aload_n (t) dX0_init_14 rfl rfl ?_
  refine J_aload_n (t3) dX0_init_15 rfl rfl ?_
  refine J_putrF (j := 2) (r := some (t3)) dX0_init_16 (fun _ h => List.mem_cons_of_mem _ (List.mem_append_right _ (h))) cs4 cty4 (by decide) rfl (List.mem_of_getElem? (i := 6) rfl) rfl rfl rfl rfl jfit_r ht hk ?_
  refine J_aload_n (t) dX0_init_19 rfl rfl ?_
  refine J_iload dX0_init_20 rfl ?_
  refine J_putiF (j := 3) (x := (op)) dX0_init_22 (fun _ h => List.mem_cons_of_mem _ (List.mem_append_right _ (h))) cs4 cty4 (by decide) rfl (List.mem_of_getElem? (i := 7) rfl) rfl rfl rfl rfl ⟨rfl, rfl⟩ ht hk ?_
  exact J_vret dX0_init_25 rfl ⟨(by rfl), (by rfl)⟩

