theorem jEr.f9 {M : jM} {t sg : Nat} {c : Nat → Int32} {L : Nat} {s : eSt} {x : Int32} (h : jEr M t sg c L s) : jEr (jSi M t 9 x) t sg c L s := by
  obtain ⟨⟨h1, h2, h3, h4, h5, h6, h7, h8, h9, h10, h11, h12⟩, g2, g3, g4, g5, g6⟩ := h
  refine ⟨⟨h1, h2, h3, h4, h5, h6, ?_, ?_, h9, ?_, h11, h12⟩, g2, g3, g4, g5, ?_⟩
  · rw [← h7]; funext j; rw [ji_Si, if_neg (fun hh => h12 hh.1.symm)]
  · rw [ji_Si, if_neg (fun hh => absurd hh.2 (by decide))]; exact h8
  · rw [ji_Si, if_neg (fun hh => absurd hh.2 (by decide))]; exact h10
  · conv => rhs; rw [← g6]
    refine jM_eq rfl rfl rfl ?_ rfl rfl rfl
    funext a j
    show jEg (ji (jSi M t 9 x)) t s a j = (if a = t ∧ j = 9 then x else jEg (ji M) t s a j)
    unfold jEg
    by_cases h : a = t
    · subst h
      by_cases h2 : j = 2
      · simp [h2]
      · by_cases h8 : j = 8
        · simp [h8]
        · by_cases h9 : j = 9
          · subst h9; simp [ji_Si]
          · simp [h2, h8, h9, ji_Si]
    · simp [h, ji_Si]
def eWhy (s : eSt) (k : Nat) : Int32 := if s.2.2.1 k = 4 then 1 else 3
/-- from a node up: how many positions, and which -/
def eUp (s : eSt) : Nat → Nat → Int32 → (Nat → Int32) → Nat × (Nat → Int32)
  | 0, len, _, f => (len, f)
  | fu + 1, len, nd, f => if nd < 0 then (len, f) else if nd < nI s.2.1 then eUp s fu (len + 1) (s.2.2.2.2.2.2 nd.toNatClampNeg) (upd f len (s.2.2.2.1 nd.toNatClampNeg)) else (len, f)
def eChain (s : eSt) (k : Nat) : Nat × (Nat → Int32) := eUp s s.2.1 0 (nI k) (fun _ => 0)
theorem eUp_s {s : eSt} {len kk : Nat} {f : Nat → Int32} (h : len < s.2.1) (hk : kk < s.2.1) (hb : s.2.1 < 2 ^ 31) : eUp s (s.2.1 - len) len (nI kk) f = eUp s (s.2.1 - (len + 1)) (len + 1) (s.2.2.2.2.2.2 kk) (upd f len (s.2.2.2.1 kk)) := by
  rw [show s.2.1 - len = (s.2.1 - (len + 1)) + 1 from by omega]
  conv => lhs; unfold eUp
  rw [if_neg (nI_pos (by omega)), if_pos (nI_lt hk hb), nI_clamp (by omega)]
theorem eUp_e {s : eSt} {len : Nat} {nd : Int32} {f : Nat → Int32} (h : s.2.1 ≤ len ∨ nd < 0 ∨ (¬ nd < 0 ∧ ¬ nd < nI s.2.1)) : eUp s (s.2.1 - len) len nd f = (len, f) := by
  rcases Nat.lt_or_ge len s.2.1 with hl | hl
  · rw [show s.2.1 - len = (s.2.1 - (len + 1)) + 1 from by omega]
    unfold eUp
    rcases h with h | h | h
    · omega
    · rw [if_pos h]
    · rw [if_neg h.1, if_neg h.2]
  · rw [show s.2.1 - len = 0 from by omega]; rfl
theorem jNw_Sv0 (M : jM) (kd len : Nat) : jNw M kd len = jSv (jNw M kd len) (jn M) (fun _ => 0) := by
  have h := jSv_self (jNw M kd len) (jn M)
  rw [show ji (jNw M kd len) (jn M) = fun _ => 0 from by funext j; simp [ji_Nw]] at h
  exact h.symm
/-- the chain of failures, in an array made anew -/
def eCo (M : jM) (len : Nat) (f : Nat → Int32) : jP := fun o M1 => ∃ a, o = oR (some a) ∧ jExt M M1 ∧ jCl M1 ∧ jn M ≤ a ∧ a < jn M1 ∧ jk M1 a = 22 ∧ jz M1 a = len ∧ ∀ j, j < len → ji M1 a j = f (len - 1 - j)
theorem dX1_isFailedAtSlot_0 : decode cX1_isFailedAtSlot 0 = .ok (.aload_n 0, 1) := by decide +kernel
theorem dX1_isFailedAtSlot_1 : decode cX1_isFailedAtSlot 1 = .ok (.getfield 15, 3) := by decide +kernel
theorem dX1_isFailedAtSlot_4 : decode cX1_isFailedAtSlot 4 = .ok (.ifCond .lt 31, 3) := by decide +kernel
theorem dX1_isFailedAtSlot_35 : decode cX1_isFailedAtSlot 35 = .ok (.iconst 0, 1) := by decide +kernel
theorem dX1_isFailedAtSlot_36 : decode cX1_isFailedAtSlot 36 = .ok (.ireturn, 1) := by decide +kernel
theorem dX1_isFailedAtSlot_7 : decode cX1_isFailedAtSlot 7 = .ok (.aload_n 0, 1) := by decide +kernel
theorem dX1_isFailedAtSlot_8 : decode cX1_isFailedAtSlot 8 = .ok (.getfield 15, 3) := by decide +kernel
theorem dX1_isFailedAtSlot_11 : decode cX1_isFailedAtSlot 11 = .ok (.aload_n 0, 1) := by decide +kernel
theorem dX1_isFailedAtSlot_12 : decode cX1_isFailedAtSlot 12 = .ok (.getfield 9, 3) := by decide +kernel
theorem dX1_isFailedAtSlot_15 : decode cX1_isFailedAtSlot 15 = .ok (.if_icmp .ge 20, 3) := by decide +kernel
theorem dX1_isFailedAtSlot_18 : decode cX1_isFailedAtSlot 18 = .ok (.aload_n 0, 1) := by decide +kernel
theorem dX1_isFailedAtSlot_19 : decode cX1_isFailedAtSlot 19 = .ok (.getfield 22, 3) := by decide +kernel
theorem dX1_isFailedAtSlot_22 : decode cX1_isFailedAtSlot 22 = .ok (.aload_n 0, 1) := by decide +kernel
theorem dX1_isFailedAtSlot_23 : decode cX1_isFailedAtSlot 23 = .ok (.getfield 15, 3) := by decide +kernel
theorem dX1_isFailedAtSlot_26 : decode cX1_isFailedAtSlot 26 = .ok (.iaload, 1) := by decide +kernel
theorem dX1_isFailedAtSlot_27 : decode cX1_isFailedAtSlot 27 = .ok (.iconst 4, 1) := by decide +kernel
theorem dX1_isFailedAtSlot_28 : decode cX1_isFailedAtSlot 28 = .ok (.if_icmp .ne 7, 3) := by decide +kernel
theorem dX1_isFailedAtSlot_31 : decode cX1_isFailedAtSlot 31 = .ok (.iconst 1, 1) := by decide +kernel
theorem dX1_isFailedAtSlot_32 : decode cX1_isFailedAtSlot 32 = .ok (.goto 4, 3) := by decide +kernel
set_option maxHeartbeats 2000000 in
set_option maxRecDepth 20000 in
theorem ct_X1_isFailedAtSlot (l : Launch) (D : va_G) (dA : Nat → ClassId) (hst : l.stackTraces = false) (M : jM) (t sg : Nat) (c : Nat → Int32) (L : Nat) (s : eSt) (hR : jEr M t sg c L s) (k : Nat) (h9k : ji M t 9 = nI k) (hkc : k < s.2.1) : jCT l D dA yX1_isFailedAtSlot wsX1_isFailedAtSlot (20) (300) (0) (0) 1 [.ref (t)] M (jPo (oI (jb (decide (s.2.2.1 k = 4)))) (M)) := by
  refine jBody (cc := cX1_isFailedAtSlot) (nL := 1) (rt := (some .boolean)) (ini := false) (by decide) rfl hst (Nat.le_of_ble_eq_true rfl) (by simp [Value.category]) (by intro h9; first | exact absurd h9 (by decide) | rfl) ?_
  show J l D dA RX1 cX1_isFailedAtSlot wsX1_isFailedAtSlot 1 false (some .boolean) [] (20) (300) (jF D dA (jn M) (jPo (oI (jb (decide (s.2.2.1 k = 4)))) (M)) 1) (jn M) (0) (0) (M) 0 [.ref (t)] []
  obtain ⟨⟨f1, f2, f3, f4, f5, f6, f7, f8, f9, f10, f11, f12⟩, g2, g3, g4, g5, g6⟩ := id hR
  obtain ⟨q1, q2, q3, q4, q5, q6⟩ := hR.rows
  refine J_aload_n (t) dX1_isFailedAtSlot_0 rfl rfl ?_
  refine J_geti (j := 9) dX1_isFailedAtSlot_1 (fun _ h => List.mem_cons_of_mem _ (List.mem_append_left _ (List.mem_append_right _ (h)))) cs5 (by decide) rfl (List.mem_of_getElem? (i := 1) rfl) rfl f1 f2 ?_
  refine J_topi (y := nI (k)) (h9k) ?_
  refine J_if_lt dX1_isFailedAtSlot_4 (tgt := 35) (by decide) (fun c4 => ?_) (fun c4 => ?_)
  · have c4 := jltT (a := k) (b := 0) (by omega) (by omega) c4
    refine J_iconst (x := 0) dX1_isFailedAtSlot_35 (by decide) ?_
    exact J_iret (ty := .boolean) dX1_isFailedAtSlot_36 rfl (by rfl) ⟨(by first | (exfalso; omega) | (simp [jb, *]; done) | fail "l"), (by rfl)⟩
  · have c4 := jltF (a := k) (b := 0) (by omega) (by omega) c4
    refine J_aload_n (t) dX1_isFailedAtSlot_7 rfl rfl ?_
    refine J_geti (j := 9) dX1_isFailedAtSlot_8 (fun _ h => List.mem_cons_of_mem _ (List.mem_append_left _ (List.mem_append_right _ (h)))) cs5 (by decide) rfl (List.mem_of_getElem? (i := 1) rfl) rfl f1 f2 ?_
    refine J_topi (y := nI (k)) (h9k) ?_
    refine J_aload_n (t) dX1_isFailedAtSlot_11 rfl rfl ?_
    refine J_geti (j := 8) dX1_isFailedAtSlot_12 (fun _ h => List.mem_cons_of_mem _ (List.mem_append_left _ (List.mem_append_right _ (h)))) cs5 (by decide) rfl (List.mem_of_getElem? (i := 2) rfl) rfl f1 f2 ?_
    refine J_topi (y := nI (s.2.1)) (q1) ?_
    refine J_icmp_ge dX1_isFailedAtSlot_15 (tgt := 35) (by decide) (fun c15 => ?_) (fun c15 => ?_)
    · have c15 := jleT (a := s.2.1) (b := k) (by omega) (by omega) c15
      refine J_iconst (x := 0) dX1_isFailedAtSlot_35 (by decide) ?_
      exact J_iret (ty := .boolean) dX1_isFailedAtSlot_36 rfl (by rfl) ⟨(by first | (exfalso; omega) | (simp [jb, *]; done) | fail "l"), (by rfl)⟩
    · have c15 := jleF (a := s.2.1) (b := k) (by omega) (by omega) c15
      refine J_aload_n (t) dX1_isFailedAtSlot_18 rfl rfl ?_
      refine J_getrs (q := t + 1) (g3 0 (by decide)).1 dX1_isFailedAtSlot_19 (fun _ h => List.mem_cons_of_mem _ (List.mem_append_left _ (List.mem_append_right _ (h)))) cs5 (by decide) rfl (List.mem_of_getElem? (i := 3) rfl) rfl f1 f2 ?_
      refine J_aload_n (t) dX1_isFailedAtSlot_22 rfl rfl ?_
      refine J_geti (j := 9) dX1_isFailedAtSlot_23 (fun _ h => List.mem_cons_of_mem _ (List.mem_append_left _ (List.mem_append_right _ (h)))) cs5 (by decide) rfl (List.mem_of_getElem? (i := 1) rfl) rfl f1 f2 ?_
      refine J_topi (y := nI (k)) (h9k) ?_
      refine J_ialdN (k := k) dX1_isFailedAtSlot_26 (show t + 1 < jn M from by omega) (g3 0 (by decide)).2.1 (by exact Nat.lt_of_lt_of_eq (show _ < L by omega) (Eq.symm (g3 0 (by decide)).2.2)) (by exact Nat.lt_of_le_of_lt (Nat.le_of_eq (g3 0 (by decide)).2.2) (show L < 2 ^ 31 by omega)) ?_
      refine J_topi (y := ((s.2.2.1) k)) (congrFun q2 _) ?_
      refine J_iconst (x := 4) dX1_isFailedAtSlot_27 (by decide) ?_
      refine J_icmp_ne dX1_isFailedAtSlot_28 (tgt := 35) (by decide) (fun c28 => ?_) (fun c28 => ?_)
      · refine J_iconst (x := 0) dX1_isFailedAtSlot_35 (by decide) ?_
        exact J_iret (ty := .boolean) dX1_isFailedAtSlot_36 rfl (by rfl) ⟨(by first | (exfalso; omega) | (simp [jb, *]; done) | fail "l"), (by rfl)⟩
      · refine J_iconst (x := 1) dX1_isFailedAtSlot_31 (by decide) ?_
        refine J_goto (tgt := 36) dX1_isFailedAtSlot_32 (by decide) ?_
        exact J_iret (ty := .boolean) dX1_isFailedAtSlot_36 rfl (by rfl) ⟨(by first | (exfalso; omega) | (simp [jb, *]; done) | fail "l"), (by rfl)⟩

theorem dX1_failureReason_0 : decode cX1_failureReason 0 = .ok (.aload_n 0, 1) := by decide +kernel
theorem dX1_failureReason_1 : decode cX1_failureReason 1 = .ok (.invokevirtual 105, 3) := by decide +kernel
set_option maxRecDepth 20000 in
theorem ggX1_failureReason_X1_isFailedAtSlot : GoodIn wsX1_failureReason wsX1_isFailedAtSlot := goodIn_ca (goodIn_r _ [5, 6, 7, 8, 9, 10, 11, 12, 13, 14, 15, 16, 17, 18] (by decide +kernel) (by decide +kernel)) (goodIn_sub (fun _ h => List.mem_cons_of_mem _ (List.mem_append_right _ h)) (by decide +kernel))
set_option maxRecDepth 20000 in
theorem gX1_failureReason_X1_isFailedAtSlot : GoodIn wsX1_failureReason (wsV RX1 105 RX1 yX1_isFailedAtSlot wsX1_isFailedAtSlot) := goodIn_app (goodIn_of _ (by decide +kernel)) ggX1_failureReason_X1_isFailedAtSlot
theorem yY_X1_isFailedAtSlot : jY yX1_isFailedAtSlot wsX1_isFailedAtSlot cX1_isFailedAtSlot 1 (some .boolean) 0 := ⟨⟨_, rfl⟩, by decide +kernel, by decide +kernel, by decide +kernel⟩
theorem dX1_failureReason_4 : decode cX1_failureReason 4 = .ok (.ifCond .eq 7, 3) := by decide +kernel
theorem dX1_failureReason_11 : decode cX1_failureReason 11 = .ok (.iconst 3, 1) := by decide +kernel
theorem dX1_failureReason_12 : decode cX1_failureReason 12 = .ok (.ireturn, 1) := by decide +kernel
theorem dX1_failureReason_7 : decode cX1_failureReason 7 = .ok (.iconst 1, 1) := by decide +kernel
theorem dX1_failureReason_8 : decode cX1_failureReason 8 = .ok (.goto 4, 3) := by decide +kernel
set_option maxHeartbeats 2000000 in
set_option maxRecDepth 20000 in
theorem ct_X1_failureReason (l : Launch) (D : va_G) (dA : Nat → ClassId) (hst : l.stackTraces = false) (M : jM) (t sg : Nat) (c : Nat → Int32) (L : Nat) (s : eSt) (hR : jEr M t sg c L s) (k : Nat) (h9k : ji M t 9 = nI k) (hkc : k < s.2.1) : jCT l D dA yX1_failureReason wsX1_failureReason (21) (360) (0) (0) 1 [.ref (t)] M (jPo (oI (eWhy s k)) (M)) := by
  refine jBody (cc := cX1_failureReason) (nL := 1) (rt := (some .int)) (ini := false) (by decide) rfl hst (Nat.le_of_ble_eq_true rfl) (by simp [Value.category]) (by intro h9; first | exact absurd h9 (by decide) | rfl) ?_
  show J l D dA RX1 cX1_failureReason wsX1_failureReason 1 false (some .int) [] (21) (360) (jF D dA (jn M) (jPo (oI (eWhy s k)) (M)) 1) (jn M) (0) (0) (M) 0 [.ref (t)] []
  obtain ⟨⟨f1, f2, f3, f4, f5, f6, f7, f8, f9, f10, f11, f12⟩, g2, g3, g4, g5, g6⟩ := id hR
  obtain ⟨q1, q2, q3, q4, q5, q6⟩ := hR.rows
  refine J_aload_n (t) dX1_failureReason_0 rfl rfl ?_
  refine J_calli0 (jrunV (As := []) (ct_X1_isFailedAtSlot l D dA hst M t sg c L s hR k h9k hkc) dX1_failureReason_1 yY_X1_isFailedAtSlot gX1_failureReason_X1_isFailedAtSlot rfl cs5 f1 f2 rfl ⟨by omega, by omega⟩ ⟨Nat.zero_le _, Nat.zero_le _⟩ rfl (Nat.le_of_ble_eq_true rfl)) (rfl) (rfl) ?_
  refine J_if_eq dX1_failureReason_4 (tgt := 11) (by decide) (fun c4 => ?_) (fun c4 => ?_)
  · have c4 := jb0T c4
    refine J_iconst (x := 3) dX1_failureReason_11 (by decide) ?_
    exact J_iret (ty := .int) dX1_failureReason_12 rfl (rfl) ⟨(by first | (unfold eWhy; rw [if_pos (of_decide_eq_true c4)]; done) | (unfold eWhy; rw [if_neg (of_decide_eq_false c4)]; done) | fail "r"), (by rfl)⟩
  · have c4 := jb0F c4
    refine J_iconst (x := 1) dX1_failureReason_7 (by decide) ?_
    refine J_goto (tgt := 12) dX1_failureReason_8 (by decide) ?_
    exact J_iret (ty := .int) dX1_failureReason_12 rfl (rfl) ⟨(by first | (unfold eWhy; rw [if_pos (of_decide_eq_true c4)]; done) | (unfold eWhy; rw [if_neg (of_decide_eq_false c4)]; done) | fail "r"), (by rfl)⟩

theorem dX1_failureChain_56 : decode cX1_failureChain 56 = .ok (.iload_n 2, 1) := by decide +kernel
theorem dX1_failureChain_57 : decode cX1_failureChain 57 = .ok (.newarray .int, 2) := by decide +kernel
theorem dX1_failureChain_64 : decode cX1_failureChain 64 = .ok (.iload 5, 2) := by decide +kernel
theorem dX1_failureChain_66 : decode cX1_failureChain 66 = .ok (.iload_n 2, 1) := by decide +kernel
theorem dX1_failureChain_67 : decode cX1_failureChain 67 = .ok (.if_icmp .ge 22, 3) := by decide +kernel
theorem dX1_failureChain_89 : decode cX1_failureChain 89 = .ok (.aload 4, 2) := by decide +kernel
theorem dX1_failureChain_91 : decode cX1_failureChain 91 = .ok (.areturn, 1) := by decide +kernel
theorem dX1_failureChain_70 : decode cX1_failureChain 70 = .ok (.aload 4, 2) := by decide +kernel
theorem dX1_failureChain_72 : decode cX1_failureChain 72 = .ok (.iload 5, 2) := by decide +kernel
theorem dX1_failureChain_74 : decode cX1_failureChain 74 = .ok (.aload_n 1, 1) := by decide +kernel
theorem dX1_failureChain_75 : decode cX1_failureChain 75 = .ok (.iload_n 2, 1) := by decide +kernel
theorem dX1_failureChain_76 : decode cX1_failureChain 76 = .ok (.iconst 1, 1) := by decide +kernel
theorem dX1_failureChain_77 : decode cX1_failureChain 77 = .ok (.isub, 1) := by decide +kernel
theorem dX1_failureChain_78 : decode cX1_failureChain 78 = .ok (.iload 5, 2) := by decide +kernel
theorem dX1_failureChain_80 : decode cX1_failureChain 80 = .ok (.isub, 1) := by decide +kernel
theorem dX1_failureChain_81 : decode cX1_failureChain 81 = .ok (.iaload, 1) := by decide +kernel
theorem dX1_failureChain_82 : decode cX1_failureChain 82 = .ok (.iastore, 1) := by decide +kernel
theorem dX1_failureChain_83 : decode cX1_failureChain 83 = .ok (.iinc 5 1, 3) := by decide +kernel
theorem dX1_failureChain_86 : decode cX1_failureChain 86 = .ok (.goto (-22), 3) := by decide +kernel
theorem dX1_failureChain_59 : decode cX1_failureChain 59 = .ok (.astore 4, 2) := by decide +kernel
theorem dX1_failureChain_61 : decode cX1_failureChain 61 = .ok (.iconst 0, 1) := by decide +kernel
theorem dX1_failureChain_62 : decode cX1_failureChain 62 = .ok (.istore 5, 2) := by decide +kernel
theorem dX1_failureChain_14 : decode cX1_failureChain 14 = .ok (.iload_n 2, 1) := by decide +kernel
theorem dX1_failureChain_15 : decode cX1_failureChain 15 = .ok (.aload_n 0, 1) := by decide +kernel
theorem dX1_failureChain_16 : decode cX1_failureChain 16 = .ok (.getfield 9, 3) := by decide +kernel
theorem dX1_failureChain_19 : decode cX1_failureChain 19 = .ok (.if_icmp .ge 37, 3) := by decide +kernel
theorem dX1_failureChain_22 : decode cX1_failureChain 22 = .ok (.iload_n 3, 1) := by decide +kernel
theorem dX1_failureChain_23 : decode cX1_failureChain 23 = .ok (.ifCond .lt 33, 3) := by decide +kernel
theorem dX1_failureChain_26 : decode cX1_failureChain 26 = .ok (.iload_n 3, 1) := by decide +kernel
theorem dX1_failureChain_27 : decode cX1_failureChain 27 = .ok (.aload_n 0, 1) := by decide +kernel
theorem dX1_failureChain_28 : decode cX1_failureChain 28 = .ok (.getfield 9, 3) := by decide +kernel
theorem dX1_failureChain_31 : decode cX1_failureChain 31 = .ok (.if_icmp .ge 25, 3) := by decide +kernel
theorem dX1_failureChain_34 : decode cX1_failureChain 34 = .ok (.aload_n 1, 1) := by decide +kernel
theorem dX1_failureChain_35 : decode cX1_failureChain 35 = .ok (.iload_n 2, 1) := by decide +kernel
theorem dX1_failureChain_36 : decode cX1_failureChain 36 = .ok (.aload_n 0, 1) := by decide +kernel
theorem dX1_failureChain_37 : decode cX1_failureChain 37 = .ok (.getfield 26, 3) := by decide +kernel
theorem dX1_failureChain_40 : decode cX1_failureChain 40 = .ok (.iload_n 3, 1) := by decide +kernel
theorem dX1_failureChain_41 : decode cX1_failureChain 41 = .ok (.iaload, 1) := by decide +kernel
theorem dX1_failureChain_42 : decode cX1_failureChain 42 = .ok (.iastore, 1) := by decide +kernel
theorem dX1_failureChain_43 : decode cX1_failureChain 43 = .ok (.iinc 2 1, 3) := by decide +kernel
theorem dX1_failureChain_46 : decode cX1_failureChain 46 = .ok (.aload_n 0, 1) := by decide +kernel
theorem dX1_failureChain_47 : decode cX1_failureChain 47 = .ok (.getfield 35, 3) := by decide +kernel
theorem dX1_failureChain_50 : decode cX1_failureChain 50 = .ok (.iload_n 3, 1) := by decide +kernel
theorem dX1_failureChain_51 : decode cX1_failureChain 51 = .ok (.iaload, 1) := by decide +kernel
theorem dX1_failureChain_52 : decode cX1_failureChain 52 = .ok (.istore_n 3, 1) := by decide +kernel
theorem dX1_failureChain_53 : decode cX1_failureChain 53 = .ok (.goto (-39), 3) := by decide +kernel
theorem dX1_failureChain_0 : decode cX1_failureChain 0 = .ok (.aload_n 0, 1) := by decide +kernel
theorem dX1_failureChain_1 : decode cX1_failureChain 1 = .ok (.getfield 9, 3) := by decide +kernel
theorem dX1_failureChain_4 : decode cX1_failureChain 4 = .ok (.newarray .int, 2) := by decide +kernel
theorem dX1_failureChain_6 : decode cX1_failureChain 6 = .ok (.astore_n 1, 1) := by decide +kernel
theorem dX1_failureChain_7 : decode cX1_failureChain 7 = .ok (.iconst 0, 1) := by decide +kernel
theorem dX1_failureChain_8 : decode cX1_failureChain 8 = .ok (.istore_n 2, 1) := by decide +kernel
theorem dX1_failureChain_9 : decode cX1_failureChain 9 = .ok (.aload_n 0, 1) := by decide +kernel
theorem dX1_failureChain_10 : decode cX1_failureChain 10 = .ok (.getfield 15, 3) := by decide +kernel
theorem dX1_failureChain_13 : decode cX1_failureChain 13 = .ok (.istore_n 3, 1) := by decide +kernel
set_option maxHeartbeats 2000000 in
set_option maxRecDepth 20000 in
theorem ct_X1_failureChain (l : Launch) (D : va_G) (dA : Nat → ClassId) (hst : l.stackTraces = false) (M : jM) (hcl : jCl M) (t sg : Nat) (c : Nat → Int32) (L : Nat) (s : eSt) (hR : jEr M t sg c L s) (k : Nat) (h9k : ji M t 9 = nI k) (hkc : k < s.2.1) : jCT l D dA yX1_failureChain wsX1_failureChain (20) (300) (2) (2 * s.2.1) 2 [.ref (t)] M (eCo M (eChain s k).1 (eChain s k).2) := by
  refine jBody (cc := cX1_failureChain) (nL := 6) (rt := (some (.array .int))) (ini := false) (by decide) rfl hst (Nat.le_of_ble_eq_true rfl) (by simp [Value.category]) (by intro h9; first | exact absurd h9 (by decide) | rfl) ?_
  show J l D dA RX1 cX1_failureChain wsX1_failureChain 6 false (some (.array .int)) [] (20) (300) (jF D dA (jn M) (eCo M (eChain s k).1 (eChain s k).2) 2) (jn M) (2) (2 * s.2.1) (M) 0 [.ref (t), .float 0, .float 0, .float 0, .float 0, .float 0] []
  obtain ⟨⟨f1, f2, f3, f4, f5, f6, f7, f8, f9, f10, f11, f12⟩, g2, g3, g4, g5, g6⟩ := id hR
  obtain ⟨q1, q2, q3, q4, q5, q6⟩ := hR.rows
  have L56 : ∀ (len : Nat) (f : Nat → Int32) (hlen : len ≤ s.2.1) (hI : eChain s k = (len, f)), J l D dA RX1 cX1_failureChain wsX1_failureChain 6 false (some (.array .int)) [] (20) (300) (jF D dA (jn M) (eCo M (eChain s k).1 (eChain s k).2) 2) (jn M) (2 - 1) (2 * s.2.1 - s.2.1) (jSv (jNw M 22 s.2.1) (jn M) f) 56 [.ref (t), .ref (jn M), .int (nI (len)), .float 0, .float 0, .float 0] [] := by
    intro len f hlen hI
    have hE : jExt M (jSv (jNw M 22 s.2.1) (jn M) f) := jExt.nw.sv (Nat.le_refl _)
    have hR1 := hR.ext hE
    refine J_iload_n dX1_failureChain_56 rfl rfl ?_
    refine J_newa (t := 2) (atype := .int) (N' := len) (n := nI (len)) dX1_failureChain_57 (by decide) rfl rfl (List.mem_of_getElem? (i := 2) rfl) (nI_pos (n := len) (by omega)) (nI_clamp (n := len) (by omega)) (by simp [newarray.typeOf, componentBytes] <;> omega) (by omega) (by omega) (jCl_Sv (jCl_Nw hcl)) (jOk.ref hR1.1.1 (jOk.ref (show jn M < jn M + 1 from Nat.lt_succ_self _) (jOk.int (jOk.float (jOk.float (jOk.float jOk.nil)))))) jOk.nil ?_
    refine J_mem (M' := jSv (jNw (jSv (jNw M 22 s.2.1) (jn M) f) 22 len) (jn M + 1) (fun j => if j < 0 then f (len - 1 - j) else 0)) (by rw [show (fun j => if j < 0 then f (len - 1 - j) else 0) = fun _ => (0 : Int32) from by funext j; simp]; exact jNw_Sv0 _ _ _) ?_
    have L64 : ∀ (fuel : Nat) (i : Nat) (hi : i ≤ len), len - i < fuel → J l D dA RX1 cX1_failureChain wsX1_failureChain 6 false (some (.array .int)) [] (20) (300) (jF D dA (jn M) (eCo M (eChain s k).1 (eChain s k).2) 2) (jn M) (2 - 1 - 1) (2 * s.2.1 - s.2.1 - len) (jSv (jNw (jSv (jNw M 22 s.2.1) (jn M) f) 22 len) (jn M + 1) (fun j => if j < i then f (len - 1 - j) else 0)) 64 [.ref (t), .ref (jn M), .int (nI (len)), .float 0, .ref (jn M + 1), .int (nI (i))] [] := by
      intro fuel
      induction fuel with
      | zero => intro i hi hm; exact absurd hm (Nat.not_lt_zero _)
      | succ fuel ih64 =>
        intro i hi hm64
        refine J_iload dX1_failureChain_64 rfl ?_
        refine J_iload_n dX1_failureChain_66 rfl rfl ?_
        refine J_icmp_ge dX1_failureChain_67 (tgt := 89) (by decide) (fun c67 => ?_) (fun c67 => ?_)
        · have c67 := jleT (a := len) (b := i) (by omega) (by omega) c67
          refine J_aload (jn M + 1) dX1_failureChain_89 rfl ?_
          exact J_aret (r := some (jn M + 1)) dX1_failureChain_91 rfl (Or.inr ⟨_, rfl⟩) (by rw [hI]; refine ⟨jn M + 1, rfl, ((jExt.nw.sv (Nat.le_refl _)).tr jExt.nw).sv (Nat.le_succ _), jCl_Sv (jCl_Nw (jCl_Sv (jCl_Nw hcl))), Nat.le_succ _, Nat.lt_succ_self _, by simp [jk_Nw, jk_Sv, jn_Nw, jn_Sv], by simp [jz_Nw, jz_Sv, jn_Nw, jn_Sv], fun j hj => ?_⟩; rw [ji_Sv, if_pos rfl]; exact if_pos (by have : j < len := hj; omega))
        · have c67 := jleF (a := len) (b := i) (by omega) (by omega) c67
          refine J_aload (jn M + 1) dX1_failureChain_70 rfl ?_
          refine J_iload dX1_failureChain_72 rfl ?_
          refine J_aload_n (jn M) dX1_failureChain_74 rfl rfl ?_
          refine J_iload_n dX1_failureChain_75 rfl rfl ?_
          refine J_iconst (x := 1) dX1_failureChain_76 (by decide) ?_
          refine J_isub dX1_failureChain_77 ?_
          refine J_topi (y := nI (len - 1)) (pk_sub (a := len) (b := 1) (by omega)) ?_
          refine J_iload dX1_failureChain_78 rfl ?_
          refine J_isub dX1_failureChain_80 ?_
          refine J_topi (y := nI (len - 1 - i)) (pk_sub (a := len - 1) (b := i) (by omega)) ?_
          refine J_ialdN (k := len - 1 - i) dX1_failureChain_81 (show jn M < jn M + 1 + 1 from by omega) (by simp [jk_Nw, jk_Sv, jn_Nw, jn_Sv]) (by exact Nat.lt_of_lt_of_eq (show _ < s.2.1 by omega) (Eq.symm (by simp [jz_Nw, jz_Sv, jn_Nw, jn_Sv]))) (by exact Nat.lt_of_le_of_lt (Nat.le_of_eq (by simp [jz_Nw, jz_Sv, jn_Nw, jn_Sv])) (show s.2.1 < 2 ^ 31 by omega)) ?_
          refine J_topi (y := (f (len - 1 - i))) (congrFun (by funext j; simp [ji_Sv, ji_Nw, jn_Nw, jn_Sv]) _) ?_
          refine J_iastN (k := i) dX1_failureChain_82 (show jn M + 1 < jn M + 1 + 1 from Nat.lt_succ_self _) (by simp [jk_Nw, jk_Sv, jn_Nw, jn_Sv]) (by exact Nat.lt_of_lt_of_eq (show _ < len by omega) (Eq.symm (by simp [jz_Nw, jz_Sv, jn_Nw, jn_Sv]))) (by exact Nat.lt_of_le_of_lt (Nat.le_of_eq (by simp [jz_Nw, jz_Sv, jn_Nw, jn_Sv])) (show len < 2 ^ 31 by omega)) ?_
          refine J_mem (M' := jSv (jNw (jSv (jNw M 22 s.2.1) (jn M) f) 22 len) (jn M + 1) (fun j => if j < i + 1 then f (len - 1 - j) else 0)) (by rw [jSi_Sv]; congr 1; funext j; by_cases h : j = i; (subst h; simp); (by_cases h2 : j < i; (simp [h, h2, Nat.lt_succ_of_lt h2]); (have h3 : ¬ j < i + 1 := by omega); simp [h, h2, h3])) ?_
          refine J_iinc (y := nI (i + 1)) (lv' := [.ref (t), .ref (jn M), .int (nI (len)), .float 0, .ref (jn M + 1), .int (nI (i + 1))]) dX1_failureChain_83 rfl (jinc (i)) (by decide) rfl rfl ?_
          refine J_goto (tgt := 64) dX1_failureChain_86 (by decide) ?_
          exact ih64 (i + 1) (by omega) (by omega)
    refine J_astore (x := jn M + 1) (lv' := [.ref (t), .ref (jn M), .int (nI (len)), .float 0, .ref (jn M + 1), .float 0]) dX1_failureChain_59 (by decide) rfl rfl ?_
    refine J_iconst (x := 0) dX1_failureChain_61 (by decide) ?_
    refine J_istore (lv' := [.ref (t), .ref (jn M), .int (nI (len)), .float 0, .ref (jn M + 1), .int (0)]) dX1_failureChain_62 (by decide) rfl rfl ?_
    exact L64 _ (0) (by omega) (Nat.lt_succ_self _)
  have L14 : ∀ (fuel : Nat) (len : Nat) (nd : Int32) (f : Nat → Int32) (hlen : len ≤ s.2.1) (hI : eUp s (s.2.1 - len) len nd f = eChain s k), s.2.1 - len < fuel → J l D dA RX1 cX1_failureChain wsX1_failureChain 6 false (some (.array .int)) [] (20) (300) (jF D dA (jn M) (eCo M (eChain s k).1 (eChain s k).2) 2) (jn M) (2 - 1) (2 * s.2.1 - s.2.1) (jSv (jNw M 22 s.2.1) (jn M) f) 14 [.ref (t), .ref (jn M), .int (nI (len)), .int (nd), .float 0, .float 0] [] := by
    intro fuel
    induction fuel with
    | zero => intro len nd f hlen hI hm; exact absurd hm (Nat.not_lt_zero _)
    | succ fuel ih14 =>
      intro len nd f hlen hI hm14
      have hE : jExt M (jSv (jNw M 22 s.2.1) (jn M) f) := jExt.nw.sv (Nat.le_refl _)
      have hR1 := hR.ext hE
      refine J_iload_n dX1_failureChain_14 rfl rfl ?_
      refine J_aload_n (t) dX1_failureChain_15 rfl rfl ?_
      refine J_geti (j := 8) dX1_failureChain_16 (fun _ h => List.mem_cons_of_mem _ (List.mem_append_left _ (List.mem_append_right _ (h)))) cs5 (by decide) rfl (List.mem_of_getElem? (i := 1) rfl) rfl hR1.1.1 hR1.1.2.1 ?_
      refine J_topi (y := nI (s.2.1)) (hR1.rows.1) ?_
      refine J_icmp_ge dX1_failureChain_19 (tgt := 56) (by decide) (fun c19 => ?_) (fun c19 => ?_)
      · have c19 := jleT (a := s.2.1) (b := len) (by omega) (by omega) c19
        refine J_fg 3 (lv' := [.ref (t), .ref (jn M), .int (nI (len)), .float 0, .float 0, .float 0]) rfl ?_
        exact L56 (len) (f) (by omega) (by first | (rw [← hI]; exact eUp_e (by first | (left; omega) | (right; left; assumption) | (right; right; exact ⟨nI_pos (by omega), nI_nlt (by omega) (by omega)⟩))) | fail "I")
      · have c19 := jleF (a := s.2.1) (b := len) (by omega) (by omega) c19
        refine J_iload_n dX1_failureChain_22 rfl rfl ?_
        refine J_if_lt dX1_failureChain_23 (tgt := 56) (by decide) (fun c23 => ?_) (fun c23 => ?_)
        · refine J_fg 3 (lv' := [.ref (t), .ref (jn M), .int (nI (len)), .float 0, .float 0, .float 0]) rfl ?_
          exact L56 (len) (f) (by omega) (by first | (rw [← hI]; exact eUp_e (by first | (left; omega) | (right; left; assumption) | (right; right; exact ⟨nI_pos (by omega), nI_nlt (by omega) (by omega)⟩))) | fail "I")
        · obtain ⟨kk, hkk, rfl⟩ := nI_of c23
          refine J_iload_n dX1_failureChain_26 rfl rfl ?_
          refine J_aload_n (t) dX1_failureChain_27 rfl rfl ?_
          refine J_geti (j := 8) dX1_failureChain_28 (fun _ h => List.mem_cons_of_mem _ (List.mem_append_left _ (List.mem_append_right _ (h)))) cs5 (by decide) rfl (List.mem_of_getElem? (i := 1) rfl) rfl hR1.1.1 hR1.1.2.1 ?_
          refine J_topi (y := nI (s.2.1)) (hR1.rows.1) ?_
          refine J_icmp_ge dX1_failureChain_31 (tgt := 56) (by decide) (fun c31 => ?_) (fun c31 => ?_)
          · have c31 := jleT (a := s.2.1) (b := kk) (by omega) (by omega) c31
            refine J_fg 3 (lv' := [.ref (t), .ref (jn M), .int (nI (len)), .float 0, .float 0, .float 0]) rfl ?_
            exact L56 (len) (f) (by omega) (by first | (rw [← hI]; exact eUp_e (by first | (left; omega) | (right; left; assumption) | (right; right; exact ⟨nI_pos (by omega), nI_nlt (by omega) (by omega)⟩))) | fail "I")
          · have c31 := jleF (a := s.2.1) (b := kk) (by omega) (by omega) c31
            refine J_aload_n (jn M) dX1_failureChain_34 rfl rfl ?_
            refine J_iload_n dX1_failureChain_35 rfl rfl ?_
            refine J_aload_n (t) dX1_failureChain_36 rfl rfl ?_
            refine J_getrs (q := t + 2) (hR1.2.2.1 1 (by decide)).1 dX1_failureChain_37 (fun _ h => List.mem_cons_of_mem _ (List.mem_append_left _ (List.mem_append_right _ (h)))) cs5 (by decide) rfl (List.mem_of_getElem? (i := 4) rfl) rfl hR1.1.1 hR1.1.2.1 ?_
            refine J_iload_n dX1_failureChain_40 rfl rfl ?_
            refine J_ialdN (k := kk) dX1_failureChain_41 (show t + 2 < jn M + 1 from by omega) (hR1.2.2.1 1 (by decide)).2.1 (by exact Nat.lt_of_lt_of_eq (show _ < L by omega) (Eq.symm (hR1.2.2.1 1 (by decide)).2.2)) (by exact Nat.lt_of_le_of_lt (Nat.le_of_eq (hR1.2.2.1 1 (by decide)).2.2) (show L < 2 ^ 31 by omega)) ?_
            refine J_topi (y := ((s.2.2.2.1) kk)) (congrFun hR1.rows.2.2.1 _) ?_
            refine J_iastN (k := len) dX1_failureChain_42 (show jn M < jn M + 1 from Nat.lt_succ_self _) (by simp [jk_Nw, jk_Sv]) (by exact Nat.lt_of_lt_of_eq (show _ < s.2.1 by omega) (Eq.symm (by simp [jz_Nw, jz_Sv]))) (by exact Nat.lt_of_le_of_lt (Nat.le_of_eq (by simp [jz_Nw, jz_Sv])) (show s.2.1 < 2 ^ 31 by omega)) ?_
            refine J_mem (M' := jSv (jNw M 22 s.2.1) (jn M) (upd f len (s.2.2.2.1 kk))) (by exact jSi_Sv _ _ _ _ _) ?_
            have hR2 : jEr (jSv (jNw M 22 s.2.1) (jn M) (upd f len (s.2.2.2.1 kk))) t sg c L s := hR.ext (jExt.nw.sv (Nat.le_refl _))
            refine J_iinc (y := nI (len + 1)) (lv' := [.ref (t), .ref (jn M), .int (nI (len + 1)), .int (nI (kk)), .float 0, .float 0]) dX1_failureChain_43 rfl (jinc (len)) (by decide) rfl rfl ?_
            refine J_aload_n (t) dX1_failureChain_46 rfl rfl ?_
            refine J_getrs (q := t + 5) (hR2.2.2.1 4 (by decide)).1 dX1_failureChain_47 (fun _ h => List.mem_cons_of_mem _ (List.mem_append_left _ (List.mem_append_right _ (h)))) cs5 (by decide) rfl (List.mem_of_getElem? (i := 5) rfl) rfl hR2.1.1 hR2.1.2.1 ?_
            refine J_iload_n dX1_failureChain_50 rfl rfl ?_
            refine J_ialdN (k := kk) dX1_failureChain_51 (show t + 5 < jn M + 1 from by omega) (hR2.2.2.1 4 (by decide)).2.1 (by exact Nat.lt_of_lt_of_eq (show _ < L by omega) (Eq.symm (hR2.2.2.1 4 (by decide)).2.2)) (by exact Nat.lt_of_le_of_lt (Nat.le_of_eq (hR2.2.2.1 4 (by decide)).2.2) (show L < 2 ^ 31 by omega)) ?_
            refine J_topi (y := ((s.2.2.2.2.2.2) kk)) (congrFun hR2.rows.2.2.2.2.2 _) ?_
            refine J_istore_n (lv' := [.ref (t), .ref (jn M), .int (nI (len + 1)), .int ((s.2.2.2.2.2.2) kk), .float 0, .float 0]) dX1_failureChain_52 rfl (by decide) rfl rfl ?_
            refine J_goto (tgt := 14) dX1_failureChain_53 (by decide) ?_
            exact ih14 (len + 1) ((s.2.2.2.2.2.2) kk) (upd f len (s.2.2.2.1 kk)) (by omega) (by rw [← hI]; exact (eUp_s (by omega) (by omega) (by omega)).symm) (by omega)
  refine J_aload_n (t) dX1_failureChain_0 rfl rfl ?_
  refine J_geti (j := 8) dX1_failureChain_1 (fun _ h => List.mem_cons_of_mem _ (List.mem_append_left _ (List.mem_append_right _ (h)))) cs5 (by decide) rfl (List.mem_of_getElem? (i := 1) rfl) rfl f1 f2 ?_
  refine J_topi (y := nI (s.2.1)) (q1) ?_
  refine J_newa (t := 2) (atype := .int) (N' := s.2.1) (n := nI (s.2.1)) dX1_failureChain_4 (by decide) rfl rfl (List.mem_of_getElem? (i := 2) rfl) (nI_pos (n := s.2.1) (by omega)) (nI_clamp (n := s.2.1) (by omega)) (by simp [newarray.typeOf, componentBytes] <;> omega) (by omega) (by omega) (hcl) (jOk.ref f1 (jOk.float (jOk.float (jOk.float (jOk.float (jOk.float jOk.nil)))))) jOk.nil ?_
  refine J_astore_n (x := jn M) (lv' := [.ref (t), .ref (jn M), .float 0, .float 0, .float 0, .float 0]) dX1_failureChain_6 rfl (by decide) rfl rfl ?_
  refine J_mem (M' := jSv (jNw M 22 s.2.1) (jn M) (fun _ => 0)) (by exact jNw_Sv0 _ _ _) ?_
  refine J_iconst (x := 0) dX1_failureChain_7 (by decide) ?_
  refine J_istore_n (lv' := [.ref (t), .ref (jn M), .int (0), .float 0, .float 0, .float 0]) dX1_failureChain_8 rfl (by decide) rfl rfl ?_
  refine J_aload_n (t) dX1_failureChain_9 rfl rfl ?_
  refine J_geti (j := 9) dX1_failureChain_10 (fun _ h => List.mem_cons_of_mem _ (List.mem_append_left _ (List.mem_append_right _ (h)))) cs5 (by decide) rfl (List.mem_of_getElem? (i := 3) rfl) rfl (by have h9 := f1; first | exact h9 | (simp only [jn_Nw, jn_Si, jn_Sr, jn_Sv, jn_Sq]; omega)) (jk_new (M := M) (kd := 22) (len := s.2.1) (by have h9 := f1; first | exact h9 | (simp only [jn_Nw, jn_Si, jn_Sr, jn_Sv, jn_Sq]; omega)) f2) ?_
  refine J_topi (y := nI (k)) (((congrFun ((jExt.sv (M := M) jExt.nw (Nat.le_refl _)).2 t f1).2.2.1 9).trans h9k)) ?_
  refine J_istore_n (lv' := [.ref (t), .ref (jn M), .int (0), .int (nI (k)), .float 0, .float 0]) dX1_failureChain_13 rfl (by decide) rfl rfl ?_
  exact L14 _ (0) (nI (k)) (fun _ => 0) (by omega) (by rfl) (Nat.lt_succ_self _)

