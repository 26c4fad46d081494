/-- a part of an expression is read: its node or -1, and the state behind it -/
abbrev eRd : Type := eSt → Int32 × eSt
def eCT (l : Launch) (D : va_G) (dA : Nat → ClassId) (y : MethodName) (ws : List Cond) (fr lo t sg : Nat) (c : Nat → Int32) (L o : Nat) (G : eRd) : Prop :=
  (∀ s, eOk L s → eOk L (G s).2) ∧ ∀ M s, jEr M t sg c L s → jCT l D dA y ws fr lo 0 0 1 [.ref t, .int (nI o)] M (jPo (oI (G s).1) (jES M t (G s).2))
def eAtO (c : Nat → Int32) (L p : Nat) : Bool := tIsAt c L p 43 || tIsAt c L p 38 || tIsAt c L p 45
def eOp (c : Nat → Int32) (L : Nat) (G : eRd) (kd le : Int32) (s : eSt) : Int32 × eSt :=
  if eAtO c L s.1 then
    (if (G (s.1 + 1, s.2)).1 = -1 then (-1, (G (s.1 + 1, s.2)).2) else eAdd L kd (nI s.1) le (G (s.1 + 1, s.2)).1 (G (s.1 + 1, s.2)).2)
  else (-1, s)
theorem eAtO_lt {c : Nat → Int32} {L p : Nat} (h : eAtO c L p = true) : p + 1 ≤ L := by
  unfold eAtO at h
  simp only [Bool.or_eq_true] at h
  rcases h with (h | h) | h <;> exact tIsAt_lt h
theorem eOp_ok {c : Nat → Int32} {L : Nat} {G : eRd} (hG : ∀ s, eOk L s → eOk L (G s).2) {kd le : Int32} {s : eSt} (h : eOk L s) : eOk L (eOp c L G kd le s).2 := by
  unfold eOp
  split
  · rename_i h1
    have h2 : eOk L ((s.1 + 1, s.2) : eSt) := ⟨eAtO_lt h1, h.2⟩
    split
    · exact hG _ h2
    · exact eAdd_ok (hG _ h2)
  · exact h
def eTgo (c : Nat → Int32) (L : Nat) (G : eRd) : Nat → Int32 → eSt → Int32 × eSt
  | 0, le, s => (le, s)
  | fu + 1, le, s => if le = -1 then (le, s) else if tIsAt c L s.1 38 then eTgo c L G fu (eOp c L G 1 le s).1 (eOp c L G 1 le s).2 else if tIsAt c L s.1 45 then eTgo c L G fu (eOp c L G 2 le s).1 (eOp c L G 2 le s).2 else (le, s)
def eT (c : Nat → Int32) (L : Nat) (G : eRd) : eRd := fun s => eTgo c L G (L + 1) (G s).1 (G s).2
theorem eTgo_ok {c : Nat → Int32} {L : Nat} {G : eRd} (hG : ∀ s, eOk L s → eOk L (G s).2) : ∀ fu le s, eOk L s → eOk L (eTgo c L G fu le s).2 := by
  intro fu
  induction fu with
  | zero => intro le s h; exact h
  | succ fu ih =>
    intro le s h
    unfold eTgo
    split
    · exact h
    · split
      · exact ih _ _ (eOp_ok hG h)
      · split
        · exact ih _ _ (eOp_ok hG h)
        · exact h
theorem eT_ok {c : Nat → Int32} {L : Nat} {G : eRd} (hG : ∀ s, eOk L s → eOk L (G s).2) (s : eSt) (h : eOk L s) : eOk L (eT c L G s).2 := eTgo_ok hG _ _ _ (hG s h)
def eSgo (c : Nat → Int32) (L : Nat) (G : eRd) : Nat → Int32 → eSt → Int32 × eSt
  | 0, le, s => (le, s)
  | fu + 1, le, s => if le = -1 then (le, s) else if tIsAt c L s.1 43 then eSgo c L G fu (eOp c L (eT c L G) 0 le s).1 (eOp c L (eT c L G) 0 le s).2 else (le, s)
def eS (c : Nat → Int32) (L : Nat) (G : eRd) : eRd := fun s => eSgo c L G (L + 1) (eT c L G s).1 (eT c L G s).2
theorem eSgo_ok {c : Nat → Int32} {L : Nat} {G : eRd} (hG : ∀ s, eOk L s → eOk L (G s).2) : ∀ fu le s, eOk L s → eOk L (eSgo c L G fu le s).2 := by
  intro fu
  induction fu with
  | zero => intro le s h; exact h
  | succ fu ih =>
    intro le s h
    unfold eSgo
    split
    · exact h
    · split
      · exact ih _ _ (eOp_ok (eT_ok hG) h)
      · exact h
theorem eS_ok {c : Nat → Int32} {L : Nat} {G : eRd} (hG : ∀ s, eOk L s → eOk L (G s).2) (s : eSt) (h : eOk L s) : eOk L (eS c L G s).2 := eSgo_ok hG _ _ _ (eT_ok hG s h)
def eNum (c : Nat → Int32) (L : Nat) : eRd := fun s => if (tNum c L s.1).1 = -1 then (-1, ((tNum c L s.1).2, s.2)) else eAdd L 4 (nI s.1) (tNum c L s.1).1 (-1) ((tNum c L s.1).2, s.2)
theorem eNum_ok {c : Nat → Int32} {L : Nat} (s : eSt) (h : eOk L s) : eOk L (eNum c L s).2 := by
  unfold eNum
  split
  · exact ⟨tNum_le h.1, h.2⟩
  · exact eAdd_ok ⟨tNum_le h.1, h.2⟩
def eFac (c : Nat → Int32) (L : Nat) : Nat → eRd
  | 0 => fun s => if tIsAt c L s.1 33 then (-1, s) else if tIsAt c L s.1 40 then (-1, s) else eNum c L s
  | d + 1 => fun s =>
    if tIsAt c L s.1 33 then
      (if (eFac c L d (s.1 + 1, s.2)).1 = -1 then (-1, (eFac c L d (s.1 + 1, s.2)).2) else eAdd L 3 (nI s.1) (eFac c L d (s.1 + 1, s.2)).1 (-1) (eFac c L d (s.1 + 1, s.2)).2)
    else if tIsAt c L s.1 40 then
      (if (eS c L (eFac c L d) (s.1 + 1, s.2)).1 = -1 then (-1, (eS c L (eFac c L d) (s.1 + 1, s.2)).2)
      else if tIsAt c L (eS c L (eFac c L d) (s.1 + 1, s.2)).2.1 41 then ((eS c L (eFac c L d) (s.1 + 1, s.2)).1, ((eS c L (eFac c L d) (s.1 + 1, s.2)).2.1 + 1, (eS c L (eFac c L d) (s.1 + 1, s.2)).2.2))
      else (-1, (eS c L (eFac c L d) (s.1 + 1, s.2)).2))
    else eNum c L s
theorem eFac_ok {c : Nat → Int32} {L : Nat} : ∀ d s, eOk L s → eOk L (eFac c L d s).2 := by
  intro d
  induction d with
  | zero =>
    intro s h
    show eOk L (if tIsAt c L s.1 33 = true then (-1, s) else if tIsAt c L s.1 40 = true then (-1, s) else eNum c L s).2
    split
    · exact h
    · split
      · exact h
      · exact eNum_ok s h
  | succ d ih =>
    intro s h
    unfold eFac
    split
    · rename_i h1
      have h2 : eOk L ((s.1 + 1, s.2) : eSt) := ⟨tIsAt_lt h1, h.2⟩
      split
      · exact ih _ h2
      · exact eAdd_ok (ih _ h2)
    · split
      · rename_i h1
        have h2 : eOk L ((s.1 + 1, s.2) : eSt) := ⟨tIsAt_lt h1, h.2⟩
        split
        · exact eS_ok ih _ h2
        · split
          · rename_i h3; exact ⟨tIsAt_lt h3, (eS_ok ih _ h2).2⟩
          · exact eS_ok ih _ h2
      · exact eNum_ok s h
theorem dX1_readOperation_35 : decode cX1_readOperation 35 = .ok (.iload_n 1, 1) := by decide +kernel
theorem dX1_readOperation_36 : decode cX1_readOperation 36 = .ok (.ifCond .ne 11, 3) := by decide +kernel
theorem dX1_readOperation_39 : decode cX1_readOperation 39 = .ok (.aload_n 0, 1) := by decide +kernel
theorem dX1_readOperation_40 : decode cX1_readOperation 40 = .ok (.iload_n 3, 1) := by decide +kernel
theorem dX1_readOperation_41 : decode cX1_readOperation 41 = .ok (.invokevirtual 46, 3) := by decide +kernel
set_option maxRecDepth 20000 in
theorem ggX1_readOperation_X1_readTerm : GoodIn wsX1_readOperation wsX1_readTerm := goodIn_ca (goodIn_r _ [69, 25, 26, 27, 24, 61, 62, 63, 64, 5, 65, 18, 43, 44, 45, 16, 17, 7, 19, 66, 67, 68, 42, 1, 2, 3, 4, 6, 8, 9, 10, 11, 12, 13, 14, 15, 20, 28, 29, 30, 31, 32, 33, 34, 35, 36, 37, 38, 39, 40, 41, 46, 47, 48, 49, 50, 51, 52, 53, 54, 55, 56, 57, 58, 59, 0, 21, 22, 23, 60, 70, 71, 72, 73, 74, 75, 76, 77, 78, 79, 80, 81, 82, 83, 84, 85, 86] (by decide +kernel) (by decide +kernel)) (goodIn_sub (fun _ h => List.mem_cons_of_mem _ (List.mem_append_right _ h)) (by decide +kernel))
set_option maxRecDepth 20000 in
theorem gX1_readOperation_X1_readTerm : GoodIn wsX1_readOperation (wsV RX1 46 RX1 yX1_readTerm wsX1_readTerm) := goodIn_app (goodIn_of _ (by decide +kernel)) ggX1_readOperation_X1_readTerm
theorem yY_X1_readTerm : jY yX1_readTerm wsX1_readTerm cX1_readTerm 4 (some .int) 1 := ⟨⟨_, rfl⟩, by decide +kernel, by decide +kernel, by decide +kernel⟩
theorem dX1_readOperation_44 : decode cX1_readOperation 44 = .ok (.goto 8, 3) := by decide +kernel
theorem dX1_readOperation_52 : decode cX1_readOperation 52 = .ok (.istore 5, 2) := by decide +kernel
theorem dX1_readOperation_54 : decode cX1_readOperation 54 = .ok (.iload 5, 2) := by decide +kernel
theorem dX1_readOperation_56 : decode cX1_readOperation 56 = .ok (.iconst (-1), 1) := by decide +kernel
theorem dX1_readOperation_57 : decode cX1_readOperation 57 = .ok (.if_icmp .ne 7, 3) := by decide +kernel
theorem dX1_readOperation_64 : decode cX1_readOperation 64 = .ok (.aload_n 0, 1) := by decide +kernel
theorem dX1_readOperation_65 : decode cX1_readOperation 65 = .ok (.iload_n 1, 1) := by decide +kernel
theorem dX1_readOperation_66 : decode cX1_readOperation 66 = .ok (.iload 4, 2) := by decide +kernel
theorem dX1_readOperation_68 : decode cX1_readOperation 68 = .ok (.iload_n 2, 1) := by decide +kernel
theorem dX1_readOperation_69 : decode cX1_readOperation 69 = .ok (.iload 5, 2) := by decide +kernel
theorem dX1_readOperation_71 : decode cX1_readOperation 71 = .ok (.invokevirtual 66, 3) := by decide +kernel
set_option maxRecDepth 20000 in
theorem ggX1_readOperation_X1_addNode : GoodIn wsX1_readOperation wsX1_addNode := goodIn_ca (goodIn_r _ [31, 32, 33, 34, 35, 36, 37, 38, 39, 40, 24, 41, 70, 71, 72, 73, 74, 75, 76, 77, 78, 79] (by decide +kernel) (by decide +kernel)) (goodIn_sub (fun _ h => List.mem_cons_of_mem _ (List.mem_append_right _ h)) (by decide +kernel))
set_option maxRecDepth 20000 in
theorem gX1_readOperation_X1_addNode : GoodIn wsX1_readOperation (wsV RX1 66 RX1 yX1_addNode wsX1_addNode) := goodIn_app (goodIn_of _ (by decide +kernel)) ggX1_readOperation_X1_addNode
theorem yY_X1_addNode : jY yX1_addNode wsX1_addNode cX1_addNode 6 (some .int) 4 := ⟨⟨_, rfl⟩, by decide +kernel, by decide +kernel, by decide +kernel⟩
theorem dX1_readOperation_74 : decode cX1_readOperation 74 = .ok (.ireturn, 1) := by decide +kernel
theorem dX1_readOperation_60 : decode cX1_readOperation 60 = .ok (.iconst (-1), 1) := by decide +kernel
theorem dX1_readOperation_61 : decode cX1_readOperation 61 = .ok (.goto 13, 3) := by decide +kernel
theorem dX1_readOperation_0 : decode cX1_readOperation 0 = .ok (.aload_n 0, 1) := by decide +kernel
theorem dX1_readOperation_1 : decode cX1_readOperation 1 = .ok (.invokevirtual 60, 3) := by decide +kernel
set_option maxRecDepth 20000 in
theorem ggX1_readOperation_X6_position : GoodIn wsX1_readOperation wsX6_position := goodIn_r _ [6, 7, 70, 71, 72, 73, 74, 75, 76, 77, 78, 79, 80, 81, 82, 83, 84, 85, 86] (by decide +kernel) (by decide +kernel)
set_option maxRecDepth 20000 in
theorem gX1_readOperation_X6_position_u60X1 : GoodIn wsX1_readOperation (va_wsU RX1 60 RX1 "VersionAlgebra$TextReader" ⟨"VersionAlgebra$Expression", "position", "()I"⟩ yX6_position wsX6_position) := goodIn_app (goodIn_of _ (by decide +kernel)) ggX1_readOperation_X6_position
theorem yY_X6_position : jY yX6_position wsX6_position cX6_position 1 (some .int) 0 := ⟨⟨_, rfl⟩, by decide +kernel, by decide +kernel, by decide +kernel⟩
theorem dX1_readOperation_4 : decode cX1_readOperation 4 = .ok (.istore 4, 2) := by decide +kernel
theorem dX1_readOperation_6 : decode cX1_readOperation 6 = .ok (.aload_n 0, 1) := by decide +kernel
theorem dX1_readOperation_7 : decode cX1_readOperation 7 = .ok (.bipush 43, 2) := by decide +kernel
theorem dX1_readOperation_9 : decode cX1_readOperation 9 = .ok (.invokevirtual 63, 3) := by decide +kernel
set_option maxRecDepth 20000 in
theorem ggX1_readOperation_X6_takes : GoodIn wsX1_readOperation wsX6_takes := goodIn_ca (goodIn_r _ [12, 7, 13, 14, 15, 16, 5, 17, 18, 19, 20, 70, 71, 72, 73, 74, 75, 76, 77, 78, 79, 80, 81, 82, 83, 84, 85, 86] (by decide +kernel) (by decide +kernel)) (goodIn_sub (fun _ h => List.mem_cons_of_mem _ (List.mem_append_right _ h)) (by decide +kernel))
set_option maxRecDepth 20000 in
theorem gX1_readOperation_X6_takes_u63X1 : GoodIn wsX1_readOperation (va_wsU RX1 63 RX1 "VersionAlgebra$TextReader" ⟨"VersionAlgebra$Expression", "takes", "(C)Z"⟩ yX6_takes wsX6_takes) := goodIn_app (goodIn_of _ (by decide +kernel)) ggX1_readOperation_X6_takes
theorem dX1_readOperation_12 : decode cX1_readOperation 12 = .ok (.ifCond .ne 23, 3) := by decide +kernel
theorem dX1_readOperation_15 : decode cX1_readOperation 15 = .ok (.aload_n 0, 1) := by decide +kernel
theorem dX1_readOperation_16 : decode cX1_readOperation 16 = .ok (.bipush 38, 2) := by decide +kernel
theorem dX1_readOperation_18 : decode cX1_readOperation 18 = .ok (.invokevirtual 63, 3) := by decide +kernel
theorem dX1_readOperation_21 : decode cX1_readOperation 21 = .ok (.ifCond .ne 14, 3) := by decide +kernel
theorem dX1_readOperation_24 : decode cX1_readOperation 24 = .ok (.aload_n 0, 1) := by decide +kernel
theorem dX1_readOperation_25 : decode cX1_readOperation 25 = .ok (.bipush 45, 2) := by decide +kernel
theorem dX1_readOperation_27 : decode cX1_readOperation 27 = .ok (.invokevirtual 63, 3) := by decide +kernel
theorem dX1_readOperation_30 : decode cX1_readOperation 30 = .ok (.ifCond .ne 5, 3) := by decide +kernel
theorem dX1_readOperation_33 : decode cX1_readOperation 33 = .ok (.iconst (-1), 1) := by decide +kernel
theorem dX1_readOperation_34 : decode cX1_readOperation 34 = .ok (.ireturn, 1) := by decide +kernel
set_option maxHeartbeats 2000000 in
set_option maxRecDepth 20000 in
theorem ct_X1_readOperation_T (l : Launch) (D : va_G) (dA : Nat → ClassId) (hst : l.stackTraces = false) (M : jM) (t sg : Nat) (c : Nat → Int32) (L : Nat) (s : eSt) (hR : jEr M t sg c L s) (o f0 l0 : Nat) (ho : o ≤ 8) (hf : 30 ≤ f0) (hl : 600 ≤ l0) (G : eRd) (le : Int32) (hG : eCT l D dA yX1_readTerm wsX1_readTerm f0 l0 t sg c L o G) : jCT l D dA yX1_readOperation wsX1_readOperation (f0 + 10) (l0 + 100) (0) (0) 1 [.ref (t), .int (0), .int (le), .int (nI (o))] M (jPo (oI (eOp c L G 0 le s).1) (jES M t ((eOp c L G 0 le s).2))) := by
  refine jBody (cc := cX1_readOperation) (nL := 6) (rt := (some .int)) (ini := false) (by decide) rfl hst (Nat.le_of_ble_eq_true rfl) (by simp [Value.category]) (by intro h9; first | exact absurd h9 (by decide) | rfl) ?_
  show J l D dA RX1 cX1_readOperation wsX1_readOperation 6 false (some .int) [] (f0 + 10) (l0 + 100) (jF D dA (jn M) (jPo (oI (eOp c L G 0 le s).1) (jES M t ((eOp c L G 0 le s).2))) 1) (jn M) (0) (0) (M) 0 [.ref (t), .int (0), .int (le), .int (nI (o)), .float 0, .float 0] []
  obtain ⟨⟨f1, f2, f3, f4, f5, f6, f7, f8, f9, f10, f11, f12⟩, g2, g3, g4, g5, g6⟩ := id hR
  have L35 : ∀  (hx : eAtO c L s.1 = true), J l D dA RX1 cX1_readOperation wsX1_readOperation 6 false (some .int) [] (f0 + 10) (l0 + 100) (jF D dA (jn M) (jPo (oI (eOp c L G 0 le s).1) (jES M t ((eOp c L G 0 le s).2))) 1) (jn M) (0) (0) (jES M t (s.1 + 1, s.2)) 35 [.ref (t), .int (0), .int (le), .int (nI (o)), .int (nI (s.1)), .float 0] [] := by
    intro hx
    refine J_iload_n dX1_readOperation_35 rfl rfl ?_
    refine J_if_ne dX1_readOperation_36 (tgt := 47) (by decide) (fun c36 => ?_) (fun c36 => ?_)
    · exact absurd c36 (by decide)
    · have c36 := jeqT (a := 0) (b := 0) (by omega) (by omega) c36
      refine J_aload_n (t) dX1_readOperation_39 rfl rfl ?_
      refine J_iload_n dX1_readOperation_40 rfl rfl ?_
      refine J_calli0 (jrunV (As := [.int (nI (o))]) (hG.2 (jES M t (s.1 + 1, s.2)) ((s.1 + 1, s.2)) ((hR.es (s' := (s.1 + 1, s.2)) ⟨eAtO_lt hx, hR.ok.2⟩))) dX1_readOperation_41 yY_X1_readTerm gX1_readOperation_X1_readTerm rfl cs5 f1 f2 rfl ⟨by omega, by omega⟩ ⟨Nat.zero_le _, Nat.zero_le _⟩ rfl (Nat.le_of_ble_eq_true rfl)) (rfl) (jn_ES _ _ _) ?_
      refine J_mem (M' := jES M t ((G ((s.1 + 1, s.2))).2)) (by exact jES_ES _ _ _ _) ?_
      refine J_goto (tgt := 52) dX1_readOperation_44 (by decide) ?_
      refine J_istore (lv' := [.ref (t), .int (0), .int (le), .int (nI (o)), .int (nI (s.1)), .int ((G ((s.1 + 1, s.2))).1)]) dX1_readOperation_52 (by decide) rfl rfl ?_
      refine J_iload dX1_readOperation_54 rfl ?_
      refine J_iconst (x := (-1)) dX1_readOperation_56 (by decide) ?_
      refine J_icmp_ne dX1_readOperation_57 (tgt := 64) (by decide) (fun c57 => ?_) (fun c57 => ?_)
      · refine J_aload_n (t) dX1_readOperation_64 rfl rfl ?_
        refine J_iload_n dX1_readOperation_65 rfl rfl ?_
        refine J_iload dX1_readOperation_66 rfl ?_
        refine J_iload_n dX1_readOperation_68 rfl rfl ?_
        refine J_iload dX1_readOperation_69 rfl ?_
        refine J_calli0 (jrunV (As := [.int (0), .int (nI (s.1)), .int (le), .int ((G ((s.1 + 1, s.2))).1)]) (ct_X1_addNode l D dA hst (jES M t ((G ((s.1 + 1, s.2))).2)) t sg c L ((G ((s.1 + 1, s.2))).2) ((hR.es (s' := (G ((s.1 + 1, s.2))).2) (hG.1 _ ⟨eAtO_lt hx, hR.ok.2⟩))) ((0)) (nI (s.1)) ((le)) (((G ((s.1 + 1, s.2))).1))) dX1_readOperation_71 yY_X1_addNode gX1_readOperation_X1_addNode rfl cs5 f1 f2 rfl ⟨by omega, by omega⟩ ⟨Nat.zero_le _, Nat.zero_le _⟩ rfl (Nat.le_of_ble_eq_true rfl)) (rfl) (jn_ES _ _ _) ?_
        refine J_mem (M' := jES M t ((eAdd L ((0)) (nI (s.1)) ((le)) (((G ((s.1 + 1, s.2))).1)) ((G ((s.1 + 1, s.2))).2)).2)) (by exact jES_ES _ _ _ _) ?_
        exact J_iret (ty := .int) dX1_readOperation_74 rfl (rfl) ⟨(by first | (simp only [eOp, *, reduceIte]; done) | (simp only [eOp, eAtO, *, reduceIte, Bool.or_true, Bool.true_or, Bool.or_false, Bool.false_or, Bool.or_self, Bool.false_eq_true]; done) | fail "o"), (by first | (simp only [eOp, *, reduceIte]; done) | (simp only [eOp, eAtO, *, reduceIte, Bool.or_true, Bool.true_or, Bool.or_false, Bool.false_or, Bool.or_self, Bool.false_eq_true]; done) | fail "o")⟩
      · refine J_iconst (x := (-1)) dX1_readOperation_60 (by decide) ?_
        refine J_goto (tgt := 74) dX1_readOperation_61 (by decide) ?_
        exact J_iret (ty := .int) dX1_readOperation_74 rfl (rfl) ⟨(by first | (simp only [eOp, *, reduceIte]; done) | (simp only [eOp, eAtO, *, reduceIte, Bool.or_true, Bool.true_or, Bool.or_false, Bool.false_or, Bool.or_self, Bool.false_eq_true]; done) | fail "o"), (by first | (simp only [eOp, *, reduceIte]; done) | (simp only [eOp, eAtO, *, reduceIte, Bool.or_true, Bool.true_or, Bool.or_false, Bool.false_or, Bool.or_self, Bool.false_eq_true]; done) | fail "o")⟩
  refine J_mem (M' := jES M t s) (by exact hR.eq) ?_
  refine J_aload_n (t) dX1_readOperation_0 rfl rfl ?_
  refine J_calli0 (jrunU (As := []) (ct_X6_position_5 l D dA hst (jES M t s) t sg c L (s.1) ((hR.es (s' := s) hR.ok).1)) dX1_readOperation_1 yY_X6_position gX1_readOperation_X6_position_u60X1 rfl cs5 f1 f2 rfl ⟨by omega, by omega⟩ ⟨Nat.zero_le _, Nat.zero_le _⟩ rfl (Nat.le_of_ble_eq_true rfl)) (rfl) (rfl) ?_
  refine J_istore (lv' := [.ref (t), .int (0), .int (le), .int (nI (o)), .int (nI (s.1)), .float 0]) dX1_readOperation_4 (by decide) rfl rfl ?_
  refine J_aload_n (t) dX1_readOperation_6 rfl rfl ?_
  refine J_bipush (x := 43) dX1_readOperation_7 (by decide) ?_
  refine J_calli0 (jrunU (As := [.int (43)]) (ct_X6_takes_5 l D dA hst (jES M t s) t sg c L (s.1) ((hR.es (s' := s) hR.ok).1) ((43))) dX1_readOperation_9 yY_X6_takes gX1_readOperation_X6_takes_u63X1 rfl cs5 f1 f2 rfl ⟨by omega, by omega⟩ ⟨Nat.zero_le _, Nat.zero_le _⟩ rfl (Nat.le_of_ble_eq_true rfl)) (rfl) (rfl) ?_
  refine J_mem (M' := jES M t ((tTk c L (s.1) ((43)), s.2))) (by exact jES_2 _ _ _ _) ?_
  refine J_if_ne dX1_readOperation_12 (tgt := 35) (by decide) (fun c12 => ?_) (fun c12 => ?_)
  · have c12 := jb0F c12
    refine J_mem (M' := jES M t ((s.1 + 1, s.2))) (congrArg (fun q => jES M t (q, s.2)) (tTk_t c12)) ?_
    exact L35  (by first | (simp only [eAtO, *, Bool.or_true, Bool.true_or]; done) | fail "x")
  · have c12 := jb0T c12
    refine J_mem (M' := jES M t s) (congrArg (fun q => jES M t (q, s.2)) (tTk_f c12)) ?_
    refine J_aload_n (t) dX1_readOperation_15 rfl rfl ?_
    refine J_bipush (x := 38) dX1_readOperation_16 (by decide) ?_
    refine J_calli0 (jrunU (As := [.int (38)]) (ct_X6_takes_5 l D dA hst (jES M t s) t sg c L (s.1) ((hR.es (s' := s) hR.ok).1) ((38))) dX1_readOperation_18 yY_X6_takes gX1_readOperation_X6_takes_u63X1 rfl cs5 f1 f2 rfl ⟨by omega, by omega⟩ ⟨Nat.zero_le _, Nat.zero_le _⟩ rfl (Nat.le_of_ble_eq_true rfl)) (rfl) (rfl) ?_
    refine J_mem (M' := jES M t ((tTk c L (s.1) ((38)), s.2))) (by exact jES_2 _ _ _ _) ?_
    refine J_if_ne dX1_readOperation_21 (tgt := 35) (by decide) (fun c21 => ?_) (fun c21 => ?_)
    · have c21 := jb0F c21
      refine J_mem (M' := jES M t ((s.1 + 1, s.2))) (congrArg (fun q => jES M t (q, s.2)) (tTk_t c21)) ?_
      exact L35  (by first | (simp only [eAtO, *, Bool.or_true, Bool.true_or]; done) | fail "x")
    · have c21 := jb0T c21
      refine J_mem (M' := jES M t s) (congrArg (fun q => jES M t (q, s.2)) (tTk_f c21)) ?_
      refine J_aload_n (t) dX1_readOperation_24 rfl rfl ?_
      refine J_bipush (x := 45) dX1_readOperation_25 (by decide) ?_
      refine J_calli0 (jrunU (As := [.int (45)]) (ct_X6_takes_5 l D dA hst (jES M t s) t sg c L (s.1) ((hR.es (s' := s) hR.ok).1) ((45))) dX1_readOperation_27 yY_X6_takes gX1_readOperation_X6_takes_u63X1 rfl cs5 f1 f2 rfl ⟨by omega, by omega⟩ ⟨Nat.zero_le _, Nat.zero_le _⟩ rfl (Nat.le_of_ble_eq_true rfl)) (rfl) (rfl) ?_
      refine J_mem (M' := jES M t ((tTk c L (s.1) ((45)), s.2))) (by exact jES_2 _ _ _ _) ?_
      refine J_if_ne dX1_readOperation_30 (tgt := 35) (by decide) (fun c30 => ?_) (fun c30 => ?_)
      · have c30 := jb0F c30
        refine J_mem (M' := jES M t ((s.1 + 1, s.2))) (congrArg (fun q => jES M t (q, s.2)) (tTk_t c30)) ?_
        exact L35  (by first | (simp only [eAtO, *, Bool.or_true, Bool.true_or]; done) | fail "x")
      · have c30 := jb0T c30
        refine J_mem (M' := jES M t s) (congrArg (fun q => jES M t (q, s.2)) (tTk_f c30)) ?_
        refine J_iconst (x := (-1)) dX1_readOperation_33 (by decide) ?_
        exact J_iret (ty := .int) dX1_readOperation_34 rfl (rfl) ⟨(by first | (simp only [eOp, *, reduceIte]; done) | (simp only [eOp, eAtO, *, reduceIte, Bool.or_true, Bool.true_or, Bool.or_false, Bool.false_or, Bool.or_self, Bool.false_eq_true]; done) | fail "o"), (by first | (simp only [eOp, *, reduceIte]; done) | (simp only [eOp, eAtO, *, reduceIte, Bool.or_true, Bool.true_or, Bool.or_false, Bool.false_or, Bool.or_self, Bool.false_eq_true]; done) | fail "o")⟩

theorem dX1_readOperation_47 : decode cX1_readOperation 47 = .ok (.aload_n 0, 1) := by decide +kernel
theorem dX1_readOperation_48 : decode cX1_readOperation 48 = .ok (.iload_n 3, 1) := by decide +kernel
theorem dX1_readOperation_49 : decode cX1_readOperation 49 = .ok (.invokevirtual 57, 3) := by decide +kernel
set_option maxRecDepth 20000 in
theorem ggX1_readOperation_X1_readFactor : GoodIn wsX1_readOperation wsX1_readFactor := goodIn_ca (goodIn_r _ [42, 1, 2, 3, 4, 5, 6, 7, 43, 44, 45, 16, 17, 18, 19, 8, 9, 10, 11, 12, 13, 14, 15, 20, 25, 26, 27, 24, 28, 29, 30, 31, 32, 33, 34, 35, 36, 37, 38, 39, 40, 41, 46, 47, 48, 49, 50, 51, 52, 53, 54, 55, 56, 57, 58, 59, 0, 21, 22, 23, 60, 61, 62, 63, 64, 65, 66, 67, 68, 69, 70, 71, 72, 73, 74, 75, 76, 77, 78, 79, 80, 81, 82, 83, 84, 85, 86] (by decide +kernel) (by decide +kernel)) (goodIn_sub (fun _ h => List.mem_cons_of_mem _ (List.mem_append_right _ h)) (by decide +kernel))
set_option maxRecDepth 20000 in
theorem gX1_readOperation_X1_readFactor : GoodIn wsX1_readOperation (wsV RX1 57 RX1 yX1_readFactor wsX1_readFactor) := goodIn_app (goodIn_of _ (by decide +kernel)) ggX1_readOperation_X1_readFactor
theorem yY_X1_readFactor : jY yX1_readFactor wsX1_readFactor cX1_readFactor 4 (some .int) 1 := ⟨⟨_, rfl⟩, by decide +kernel, by decide +kernel, by decide +kernel⟩
set_option maxHeartbeats 2000000 in
set_option maxRecDepth 20000 in
theorem ct_X1_readOperation_F (l : Launch) (D : va_G) (dA : Nat → ClassId) (hst : l.stackTraces = false) (M : jM) (t sg : Nat) (c : Nat → Int32) (L : Nat) (s : eSt) (hR : jEr M t sg c L s) (o f0 l0 : Nat) (ho : o ≤ 8) (hf : 30 ≤ f0) (hl : 600 ≤ l0) (G : eRd) (kd le : Int32) (hk : ¬ kd = 0) (hG : eCT l D dA yX1_readFactor wsX1_readFactor f0 l0 t sg c L o G) : jCT l D dA yX1_readOperation wsX1_readOperation (f0 + 10) (l0 + 100) (0) (0) 1 [.ref (t), .int (kd), .int (le), .int (nI (o))] M (jPo (oI (eOp c L G kd le s).1) (jES M t ((eOp c L G kd le s).2))) := by
  refine jBody (cc := cX1_readOperation) (nL := 6) (rt := (some .int)) (ini := false) (by decide) rfl hst (Nat.le_of_ble_eq_true rfl) (by simp [Value.category]) (by intro h9; first | exact absurd h9 (by decide) | rfl) ?_
  show J l D dA RX1 cX1_readOperation wsX1_readOperation 6 false (some .int) [] (f0 + 10) (l0 + 100) (jF D dA (jn M) (jPo (oI (eOp c L G kd le s).1) (jES M t ((eOp c L G kd le s).2))) 1) (jn M) (0) (0) (M) 0 [.ref (t), .int (kd), .int (le), .int (nI (o)), .float 0, .float 0] []
  obtain ⟨⟨f1, f2, f3, f4, f5, f6, f7, f8, f9, f10, f11, f12⟩, g2, g3, g4, g5, g6⟩ := id hR
  have L35 : ∀  (hx : eAtO c L s.1 = true), J l D dA RX1 cX1_readOperation wsX1_readOperation 6 false (some .int) [] (f0 + 10) (l0 + 100) (jF D dA (jn M) (jPo (oI (eOp c L G kd le s).1) (jES M t ((eOp c L G kd le s).2))) 1) (jn M) (0) (0) (jES M t (s.1 + 1, s.2)) 35 [.ref (t), .int (kd), .int (le), .int (nI (o)), .int (nI (s.1)), .float 0] [] := by
    intro hx
    refine J_iload_n dX1_readOperation_35 rfl rfl ?_
    refine J_if_ne dX1_readOperation_36 (tgt := 47) (by decide) (fun c36 => ?_) (fun c36 => ?_)
    · refine J_aload_n (t) dX1_readOperation_47 rfl rfl ?_
      refine J_iload_n dX1_readOperation_48 rfl rfl ?_
      refine J_calli0 (jrunV (As := [.int (nI (o))]) (hG.2 (jES M t (s.1 + 1, s.2)) ((s.1 + 1, s.2)) ((hR.es (s' := (s.1 + 1, s.2)) ⟨eAtO_lt hx, hR.ok.2⟩))) dX1_readOperation_49 yY_X1_readFactor gX1_readOperation_X1_readFactor rfl cs5 f1 f2 rfl ⟨by omega, by omega⟩ ⟨Nat.zero_le _, Nat.zero_le _⟩ rfl (Nat.le_of_ble_eq_true rfl)) (rfl) (jn_ES _ _ _) ?_
      refine J_mem (M' := jES M t ((G ((s.1 + 1, s.2))).2)) (by exact jES_ES _ _ _ _) ?_
      refine J_istore (lv' := [.ref (t), .int (kd), .int (le), .int (nI (o)), .int (nI (s.1)), .int ((G ((s.1 + 1, s.2))).1)]) dX1_readOperation_52 (by decide) rfl rfl ?_
      refine J_iload dX1_readOperation_54 rfl ?_
      refine J_iconst (x := (-1)) dX1_readOperation_56 (by decide) ?_
      refine J_icmp_ne dX1_readOperation_57 (tgt := 64) (by decide) (fun c57 => ?_) (fun c57 => ?_)
      · refine J_aload_n (t) dX1_readOperation_64 rfl rfl ?_
        refine J_iload_n dX1_readOperation_65 rfl rfl ?_
        refine J_iload dX1_readOperation_66 rfl ?_
        refine J_iload_n dX1_readOperation_68 rfl rfl ?_
        refine J_iload dX1_readOperation_69 rfl ?_
        refine J_calli0 (jrunV (As := [.int (kd), .int (nI (s.1)), .int (le), .int ((G ((s.1 + 1, s.2))).1)]) (ct_X1_addNode l D dA hst (jES M t ((G ((s.1 + 1, s.2))).2)) t sg c L ((G ((s.1 + 1, s.2))).2) ((hR.es (s' := (G ((s.1 + 1, s.2))).2) (hG.1 _ ⟨eAtO_lt hx, hR.ok.2⟩))) ((kd)) (nI (s.1)) ((le)) (((G ((s.1 + 1, s.2))).1))) dX1_readOperation_71 yY_X1_addNode gX1_readOperation_X1_addNode rfl cs5 f1 f2 rfl ⟨by omega, by omega⟩ ⟨Nat.zero_le _, Nat.zero_le _⟩ rfl (Nat.le_of_ble_eq_true rfl)) (rfl) (jn_ES _ _ _) ?_
        refine J_mem (M' := jES M t ((eAdd L ((kd)) (nI (s.1)) ((le)) (((G ((s.1 + 1, s.2))).1)) ((G ((s.1 + 1, s.2))).2)).2)) (by exact jES_ES _ _ _ _) ?_
        exact J_iret (ty := .int) dX1_readOperation_74 rfl (rfl) ⟨(by first | (simp only [eOp, *, reduceIte]; done) | (simp only [eOp, eAtO, *, reduceIte, Bool.or_true, Bool.true_or, Bool.or_false, Bool.false_or, Bool.or_self, Bool.false_eq_true]; done) | fail "o"), (by first | (simp only [eOp, *, reduceIte]; done) | (simp only [eOp, eAtO, *, reduceIte, Bool.or_true, Bool.true_or, Bool.or_false, Bool.false_or, Bool.or_self, Bool.false_eq_true]; done) | fail "o")⟩
      · refine J_iconst (x := (-1)) dX1_readOperation_60 (by decide) ?_
        refine J_goto (tgt := 74) dX1_readOperation_61 (by decide) ?_
        exact J_iret (ty := .int) dX1_readOperation_74 rfl (rfl) ⟨(by first | (simp only [eOp, *, reduceIte]; done) | (simp only [eOp, eAtO, *, reduceIte, Bool.or_true, Bool.true_or, Bool.or_false, Bool.false_or, Bool.or_self, Bool.false_eq_true]; done) | fail "o"), (by first | (simp only [eOp, *, reduceIte]; done) | (simp only [eOp, eAtO, *, reduceIte, Bool.or_true, Bool.true_or, Bool.or_false, Bool.false_or, Bool.or_self, Bool.false_eq_true]; done) | fail "o")⟩
    · exact absurd c36 hk
  refine J_mem (M' := jES M t s) (by exact hR.eq) ?_
  refine J_aload_n (t) dX1_readOperation_0 rfl rfl ?_
  refine J_calli0 (jrunU (As := []) (ct_X6_position_5 l D dA hst (jES M t s) t sg c L (s.1) ((hR.es (s' := s) hR.ok).1)) dX1_readOperation_1 yY_X6_position gX1_readOperation_X6_position_u60X1 rfl cs5 f1 f2 rfl ⟨by omega, by omega⟩ ⟨Nat.zero_le _, Nat.zero_le _⟩ rfl (Nat.le_of_ble_eq_true rfl)) (rfl) (rfl) ?_
  refine J_istore (lv' := [.ref (t), .int (kd), .int (le), .int (nI (o)), .int (nI (s.1)), .float 0]) dX1_readOperation_4 (by decide) rfl rfl ?_
  refine J_aload_n (t) dX1_readOperation_6 rfl rfl ?_
  refine J_bipush (x := 43) dX1_readOperation_7 (by decide) ?_
  refine J_calli0 (jrunU (As := [.int (43)]) (ct_X6_takes_5 l D dA hst (jES M t s) t sg c L (s.1) ((hR.es (s' := s) hR.ok).1) ((43))) dX1_readOperation_9 yY_X6_takes gX1_readOperation_X6_takes_u63X1 rfl cs5 f1 f2 rfl ⟨by omega, by omega⟩ ⟨Nat.zero_le _, Nat.zero_le _⟩ rfl (Nat.le_of_ble_eq_true rfl)) (rfl) (rfl) ?_
  refine J_mem (M' := jES M t ((tTk c L (s.1) ((43)), s.2))) (by exact jES_2 _ _ _ _) ?_
  refine J_if_ne dX1_readOperation_12 (tgt := 35) (by decide) (fun c12 => ?_) (fun c12 => ?_)
  · have c12 := jb0F c12
    refine J_mem (M' := jES M t ((s.1 + 1, s.2))) (congrArg (fun q => jES M t (q, s.2)) (tTk_t c12)) ?_
    exact L35  (by first | (simp only [eAtO, *, Bool.or_true, Bool.true_or]; done) | fail "x")
  · have c12 := jb0T c12
    refine J_mem (M' := jES M t s) (congrArg (fun q => jES M t (q, s.2)) (tTk_f c12)) ?_
    refine J_aload_n (t) dX1_readOperation_15 rfl rfl ?_
    refine J_bipush (x := 38) dX1_readOperation_16 (by decide) ?_
    refine J_calli0 (jrunU (As := [.int (38)]) (ct_X6_takes_5 l D dA hst (jES M t s) t sg c L (s.1) ((hR.es (s' := s) hR.ok).1) ((38))) dX1_readOperation_18 yY_X6_takes gX1_readOperation_X6_takes_u63X1 rfl cs5 f1 f2 rfl ⟨by omega, by omega⟩ ⟨Nat.zero_le _, Nat.zero_le _⟩ rfl (Nat.le_of_ble_eq_true rfl)) (rfl) (rfl) ?_
    refine J_mem (M' := jES M t ((tTk c L (s.1) ((38)), s.2))) (by exact jES_2 _ _ _ _) ?_
    refine J_if_ne dX1_readOperation_21 (tgt := 35) (by decide) (fun c21 => ?_) (fun c21 => ?_)
    · have c21 := jb0F c21
      refine J_mem (M' := jES M t ((s.1 + 1, s.2))) (congrArg (fun q => jES M t (q, s.2)) (tTk_t c21)) ?_
      exact L35  (by first | (simp only [eAtO, *, Bool.or_true, Bool.true_or]; done) | fail "x")
    · have c21 := jb0T c21
      refine J_mem (M' := jES M t s) (congrArg (fun q => jES M t (q, s.2)) (tTk_f c21)) ?_
      refine J_aload_n (t) dX1_readOperation_24 rfl rfl ?_
      refine J_bipush (x := 45) dX1_readOperation_25 (by decide) ?_
      refine J_calli0 (jrunU (As := [.int (45)]) (ct_X6_takes_5 l D dA hst (jES M t s) t sg c L (s.1) ((hR.es (s' := s) hR.ok).1) ((45))) dX1_readOperation_27 yY_X6_takes gX1_readOperation_X6_takes_u63X1 rfl cs5 f1 f2 rfl ⟨by omega, by omega⟩ ⟨Nat.zero_le _, Nat.zero_le _⟩ rfl (Nat.le_of_ble_eq_true rfl)) (rfl) (rfl) ?_
      refine J_mem (M' := jES M t ((tTk c L (s.1) ((45)), s.2))) (by exact jES_2 _ _ _ _) ?_
      refine J_if_ne dX1_readOperation_30 (tgt := 35) (by decide) (fun c30 => ?_) (fun c30 => ?_)
      · have c30 := jb0F c30
        refine J_mem (M' := jES M t ((s.1 + 1, s.2))) (congrArg (fun q => jES M t (q, s.2)) (tTk_t c30)) ?_
        exact L35  (by first | (simp only [eAtO, *, Bool.or_true, Bool.true_or]; done) | fail "x")
      · have c30 := jb0T c30
        refine J_mem (M' := jES M t s) (congrArg (fun q => jES M t (q, s.2)) (tTk_f c30)) ?_
        refine J_iconst (x := (-1)) dX1_readOperation_33 (by decide) ?_
        exact J_iret (ty := .int) dX1_readOperation_34 rfl (rfl) ⟨(by first | (simp only [eOp, *, reduceIte]; done) | (simp only [eOp, eAtO, *, reduceIte, Bool.or_true, Bool.true_or, Bool.or_false, Bool.false_or, Bool.or_self, Bool.false_eq_true]; done) | fail "o"), (by first | (simp only [eOp, *, reduceIte]; done) | (simp only [eOp, eAtO, *, reduceIte, Bool.or_true, Bool.true_or, Bool.or_false, Bool.false_or, Bool.or_self, Bool.false_eq_true]; done) | fail "o")⟩

theorem eTgo_a {c : Nat → Int32} {L : Nat} {G : eRd} {k : Nat} {le : Int32} {z : eSt} (h : k ≤ L) (h1 : ¬ le = -1) (h2 : tIsAt c L z.1 38 = true) : eTgo c L G (L + 1 - k) le z = eTgo c L G (L + 1 - (k + 1)) (eOp c L G 1 le z).1 (eOp c L G 1 le z).2 := by
  rw [show L + 1 - k = (L + 1 - (k + 1)) + 1 from by omega]
  conv => lhs; unfold eTgo
  rw [if_neg h1, if_pos h2]
theorem eTgo_b {c : Nat → Int32} {L : Nat} {G : eRd} {k : Nat} {le : Int32} {z : eSt} (h : k ≤ L) (h1 : ¬ le = -1) (h2 : tIsAt c L z.1 38 = false) (h3 : tIsAt c L z.1 45 = true) : eTgo c L G (L + 1 - k) le z = eTgo c L G (L + 1 - (k + 1)) (eOp c L G 2 le z).1 (eOp c L G 2 le z).2 := by
  rw [show L + 1 - k = (L + 1 - (k + 1)) + 1 from by omega]
  conv => lhs; unfold eTgo
  rw [if_neg h1, if_neg (by rw [h2]; decide), if_pos h3]
theorem eTgo_c {c : Nat → Int32} {L : Nat} {G : eRd} {k : Nat} {le : Int32} {z : eSt} (h : L < k ∨ le = -1 ∨ (tIsAt c L z.1 38 = false ∧ tIsAt c L z.1 45 = false)) : eTgo c L G (L + 1 - k) le z = (le, z) := by
  rcases Nat.lt_or_ge L k with hk | hk
  · rw [show L + 1 - k = 0 from by omega]; rfl
  · rw [show L + 1 - k = (L + 1 - (k + 1)) + 1 from by omega]
    unfold eTgo
    rcases h with h | h | h
    · omega
    · rw [if_pos h]
    · rw [h.1, h.2]; simp
theorem eSgo_a {c : Nat → Int32} {L : Nat} {G : eRd} {k : Nat} {le : Int32} {z : eSt} (h : k ≤ L) (h1 : ¬ le = -1) (h2 : tIsAt c L z.1 43 = true) : eSgo c L G (L + 1 - k) le z = eSgo c L G (L + 1 - (k + 1)) (eOp c L (eT c L G) 0 le z).1 (eOp c L (eT c L G) 0 le z).2 := by
  rw [show L + 1 - k = (L + 1 - (k + 1)) + 1 from by omega]
  conv => lhs; unfold eSgo
  rw [if_neg h1, if_pos h2]
theorem eSgo_c {c : Nat → Int32} {L : Nat} {G : eRd} {k : Nat} {le : Int32} {z : eSt} (h : L < k ∨ le = -1 ∨ tIsAt c L z.1 43 = false) : eSgo c L G (L + 1 - k) le z = (le, z) := by
  rcases Nat.lt_or_ge L k with hk | hk
  · rw [show L + 1 - k = 0 from by omega]; rfl
  · rw [show L + 1 - k = (L + 1 - (k + 1)) + 1 from by omega]
    unfold eSgo
    rcases h with h | h | h
    · omega
    · rw [if_pos h]
    · rw [h]; simp
theorem dX1_readTerm_8 : decode cX1_readTerm 8 = .ok (.iload_n 3, 1) := by decide +kernel
theorem dX1_readTerm_9 : decode cX1_readTerm 9 = .ok (.aload_n 0, 1) := by decide +kernel
theorem dX1_readTerm_10 : decode cX1_readTerm 10 = .ok (.invokevirtual 18, 3) := by decide +kernel
set_option maxRecDepth 20000 in
theorem ggX1_readTerm_X6_textSize : GoodIn wsX1_readTerm wsX6_textSize := goodIn_r _ [10, 11, 70, 71, 72, 73, 74, 75, 76, 77, 78, 79, 80, 81, 82, 83, 84, 85, 86] (by decide +kernel) (by decide +kernel)
set_option maxRecDepth 20000 in
theorem gX1_readTerm_X6_textSize_u18X1 : GoodIn wsX1_readTerm (va_wsU RX1 18 RX1 "VersionAlgebra$TextReader" ⟨"VersionAlgebra$Expression", "textSize", "()I"⟩ yX6_textSize wsX6_textSize) := goodIn_app (goodIn_of _ (by decide +kernel)) ggX1_readTerm_X6_textSize
theorem dX1_readTerm_13 : decode cX1_readTerm 13 = .ok (.if_icmp .gt 53, 3) := by decide +kernel
theorem dX1_readTerm_66 : decode cX1_readTerm 66 = .ok (.iload_n 2, 1) := by decide +kernel
theorem dX1_readTerm_67 : decode cX1_readTerm 67 = .ok (.ireturn, 1) := by decide +kernel
theorem dX1_readTerm_16 : decode cX1_readTerm 16 = .ok (.iload_n 2, 1) := by decide +kernel
theorem dX1_readTerm_17 : decode cX1_readTerm 17 = .ok (.iconst (-1), 1) := by decide +kernel
theorem dX1_readTerm_18 : decode cX1_readTerm 18 = .ok (.if_icmp .eq 48, 3) := by decide +kernel
theorem dX1_readTerm_21 : decode cX1_readTerm 21 = .ok (.aload_n 0, 1) := by decide +kernel
theorem dX1_readTerm_22 : decode cX1_readTerm 22 = .ok (.bipush 38, 2) := by decide +kernel
theorem dX1_readTerm_24 : decode cX1_readTerm 24 = .ok (.invokevirtual 49, 3) := by decide +kernel
set_option maxRecDepth 20000 in
theorem ggX1_readTerm_X6_isAt : GoodIn wsX1_readTerm wsX6_isAt := goodIn_ca (goodIn_r _ [16, 17, 11, 18, 70, 71, 72, 73, 74, 75, 76, 77, 78, 79, 80, 81, 82, 83, 84, 85, 86] (by decide +kernel) (by decide +kernel)) (goodIn_sub (fun _ h => List.mem_cons_of_mem _ (List.mem_append_right _ h)) (by decide +kernel))
set_option maxRecDepth 20000 in
theorem gX1_readTerm_X6_isAt_u49X1 : GoodIn wsX1_readTerm (va_wsU RX1 49 RX1 "VersionAlgebra$TextReader" ⟨"VersionAlgebra$Expression", "isAt", "(C)Z"⟩ yX6_isAt wsX6_isAt) := goodIn_app (goodIn_of _ (by decide +kernel)) ggX1_readTerm_X6_isAt
theorem dX1_readTerm_27 : decode cX1_readTerm 27 = .ok (.ifCond .ne 12, 3) := by decide +kernel
theorem dX1_readTerm_39 : decode cX1_readTerm 39 = .ok (.aload_n 0, 1) := by decide +kernel
theorem dX1_readTerm_40 : decode cX1_readTerm 40 = .ok (.aload_n 0, 1) := by decide +kernel
theorem dX1_readTerm_41 : decode cX1_readTerm 41 = .ok (.bipush 38, 2) := by decide +kernel
theorem dX1_readTerm_43 : decode cX1_readTerm 43 = .ok (.invokevirtual 49, 3) := by decide +kernel
theorem dX1_readTerm_46 : decode cX1_readTerm 46 = .ok (.ifCond .eq 7, 3) := by decide +kernel
theorem dX1_readTerm_53 : decode cX1_readTerm 53 = .ok (.iconst 2, 1) := by decide +kernel
theorem dX1_readTerm_54 : decode cX1_readTerm 54 = .ok (.iload_n 2, 1) := by decide +kernel
theorem dX1_readTerm_55 : decode cX1_readTerm 55 = .ok (.iload_n 1, 1) := by decide +kernel
theorem dX1_readTerm_56 : decode cX1_readTerm 56 = .ok (.invokevirtual 53, 3) := by decide +kernel
set_option maxRecDepth 20000 in
theorem ggX1_readTerm_X1_readOperation : GoodIn wsX1_readTerm wsX1_readOperation := goodIn_ca (goodIn_r _ [65, 23, 24, 25, 26, 9, 27, 17, 28, 29, 30, 31, 32, 33, 34, 35, 15, 16, 11, 18, 36, 66, 67, 68, 4, 1, 2, 3, 37, 38, 39, 40, 41, 42, 43, 44, 45, 46, 47, 48, 49, 50, 22, 12, 13, 14, 51, 52, 53, 54, 55, 56, 57, 58, 59, 60, 61, 62, 63, 64, 69, 5, 6, 7, 8, 10, 19, 20, 21, 0, 70, 71, 72, 73, 74, 75, 76, 77, 78, 79, 80, 81, 82, 83, 84, 85, 86] (by decide +kernel) (by decide +kernel)) (goodIn_sub (fun _ h => List.mem_cons_of_mem _ (List.mem_append_right _ h)) (by decide +kernel))
set_option maxRecDepth 20000 in
theorem gX1_readTerm_X1_readOperation : GoodIn wsX1_readTerm (wsV RX1 53 RX1 yX1_readOperation wsX1_readOperation) := goodIn_app (goodIn_of _ (by decide +kernel)) ggX1_readTerm_X1_readOperation
theorem yY_X1_readOperation : jY yX1_readOperation wsX1_readOperation cX1_readOperation 6 (some .int) 3 := ⟨⟨_, rfl⟩, by decide +kernel, by decide +kernel, by decide +kernel⟩
theorem dX1_readTerm_59 : decode cX1_readTerm 59 = .ok (.istore_n 2, 1) := by decide +kernel
theorem dX1_readTerm_60 : decode cX1_readTerm 60 = .ok (.iinc 3 1, 3) := by decide +kernel
theorem dX1_readTerm_63 : decode cX1_readTerm 63 = .ok (.goto (-55), 3) := by decide +kernel
theorem dX1_readTerm_49 : decode cX1_readTerm 49 = .ok (.iconst 1, 1) := by decide +kernel
theorem dX1_readTerm_50 : decode cX1_readTerm 50 = .ok (.goto 4, 3) := by decide +kernel
theorem dX1_readTerm_30 : decode cX1_readTerm 30 = .ok (.aload_n 0, 1) := by decide +kernel
theorem dX1_readTerm_31 : decode cX1_readTerm 31 = .ok (.bipush 45, 2) := by decide +kernel
theorem dX1_readTerm_33 : decode cX1_readTerm 33 = .ok (.invokevirtual 49, 3) := by decide +kernel
theorem dX1_readTerm_36 : decode cX1_readTerm 36 = .ok (.ifCond .eq 30, 3) := by decide +kernel
theorem dX1_readTerm_0 : decode cX1_readTerm 0 = .ok (.aload_n 0, 1) := by decide +kernel
theorem dX1_readTerm_1 : decode cX1_readTerm 1 = .ok (.iload_n 1, 1) := by decide +kernel
theorem dX1_readTerm_2 : decode cX1_readTerm 2 = .ok (.invokevirtual 57, 3) := by decide +kernel
set_option maxRecDepth 20000 in
theorem ggX1_readTerm_X1_readFactor : GoodIn wsX1_readTerm wsX1_readFactor := goodIn_ca (goodIn_r _ [22, 23, 24, 25, 26, 9, 27, 17, 12, 13, 14, 15, 16, 11, 18, 28, 29, 30, 31, 32, 33, 34, 35, 36, 1, 2, 3, 4, 37, 38, 39, 40, 41, 42, 43, 44, 45, 46, 47, 48, 49, 50, 51, 52, 53, 54, 55, 56, 57, 58, 59, 60, 61, 62, 63, 64, 65, 66, 67, 68, 69, 5, 6, 7, 8, 10, 19, 20, 21, 0, 70, 71, 72, 73, 74, 75, 76, 77, 78, 79, 80, 81, 82, 83, 84, 85, 86] (by decide +kernel) (by decide +kernel)) (goodIn_sub (fun _ h => List.mem_cons_of_mem _ (List.mem_append_right _ h)) (by decide +kernel))
set_option maxRecDepth 20000 in
theorem gX1_readTerm_X1_readFactor : GoodIn wsX1_readTerm (wsV RX1 57 RX1 yX1_readFactor wsX1_readFactor) := goodIn_app (goodIn_of _ (by decide +kernel)) ggX1_readTerm_X1_readFactor
theorem dX1_readTerm_5 : decode cX1_readTerm 5 = .ok (.istore_n 2, 1) := by decide +kernel
theorem dX1_readTerm_6 : decode cX1_readTerm 6 = .ok (.iconst 0, 1) := by decide +kernel
theorem dX1_readTerm_7 : decode cX1_readTerm 7 = .ok (.istore_n 3, 1) := by decide +kernel
set_option maxHeartbeats 2000000 in
set_option maxRecDepth 20000 in
theorem ct_X1_readTerm (l : Launch) (D : va_G) (dA : Nat → ClassId) (hst : l.stackTraces = false) (M : jM) (t sg : Nat) (c : Nat → Int32) (L : Nat) (s : eSt) (hR : jEr M t sg c L s) (o f0 l0 : Nat) (ho : o ≤ 8) (hf : 30 ≤ f0) (hl : 600 ≤ l0) (G : eRd) (hG : eCT l D dA yX1_readFactor wsX1_readFactor f0 l0 t sg c L o G) : jCT l D dA yX1_readTerm wsX1_readTerm (f0 + 20) (l0 + 200) (0) (0) 1 [.ref (t), .int (nI (o))] M (jPo (oI (eT c L G s).1) (jES M t ((eT c L G s).2))) := by
  refine jBody (cc := cX1_readTerm) (nL := 4) (rt := (some .int)) (ini := false) (by decide) rfl hst (Nat.le_of_ble_eq_true rfl) (by simp [Value.category]) (by intro h9; first | exact absurd h9 (by decide) | rfl) ?_
  show J l D dA RX1 cX1_readTerm wsX1_readTerm 4 false (some .int) [] (f0 + 20) (l0 + 200) (jF D dA (jn M) (jPo (oI (eT c L G s).1) (jES M t ((eT c L G s).2))) 1) (jn M) (0) (0) (M) 0 [.ref (t), .int (nI (o)), .float 0, .float 0] []
  obtain ⟨⟨f1, f2, f3, f4, f5, f6, f7, f8, f9, f10, f11, f12⟩, g2, g3, g4, g5, g6⟩ := id hR
  have L8 : ∀ (fuel : Nat) (k : Nat) (le : Int32) (z : eSt) (hk : k ≤ L + 1) (hz : eOk L z) (hI : eTgo c L G (L + 1 - k) le z = eT c L G s), L + 1 - k < fuel → J l D dA RX1 cX1_readTerm wsX1_readTerm 4 false (some .int) [] (f0 + 20) (l0 + 200) (jF D dA (jn M) (jPo (oI (eT c L G s).1) (jES M t ((eT c L G s).2))) 1) (jn M) (0) (0) (jES M t z) 8 [.ref (t), .int (nI (o)), .int (le), .int (nI (k))] [] := by
    intro fuel
    induction fuel with
    | zero => intro k le z hk hz hI hm; exact absurd hm (Nat.not_lt_zero _)
    | succ fuel ih8 =>
      intro k le z hk hz hI hm8
      refine J_iload_n dX1_readTerm_8 rfl rfl ?_
      refine J_aload_n (t) dX1_readTerm_9 rfl rfl ?_
      refine J_calli0 (jrunU (As := []) (ct_X6_textSize_5 l D dA hst (jES M t z) t sg c L (z.1) ((hR.es (s' := z) hz).1)) dX1_readTerm_10 yY_X6_textSize gX1_readTerm_X6_textSize_u18X1 rfl cs5 f1 f2 rfl ⟨by omega, by omega⟩ ⟨Nat.zero_le _, Nat.zero_le _⟩ rfl (Nat.le_of_ble_eq_true rfl)) (rfl) (rfl) ?_
      refine J_icmp_gt dX1_readTerm_13 (tgt := 66) (by decide) (fun c13 => ?_) (fun c13 => ?_)
      · have c13 := jltT (a := L) (b := k) (by omega) (by omega) c13
        refine J_iload_n dX1_readTerm_66 rfl rfl ?_
        exact J_iret (ty := .int) dX1_readTerm_67 rfl (rfl) ⟨(by rw [← hI, eTgo_c (by first | (left; omega) | (right; left; assumption) | (right; right; exact ⟨by assumption, by assumption⟩) | (right; right; assumption) | fail "c")]), (by rw [← hI, eTgo_c (by first | (left; omega) | (right; left; assumption) | (right; right; exact ⟨by assumption, by assumption⟩) | (right; right; assumption) | fail "c")])⟩
      · have c13 := jltF (a := L) (b := k) (by omega) (by omega) c13
        refine J_iload_n dX1_readTerm_16 rfl rfl ?_
        refine J_iconst (x := (-1)) dX1_readTerm_17 (by decide) ?_
        refine J_icmp_eq dX1_readTerm_18 (tgt := 66) (by decide) (fun c18 => ?_) (fun c18 => ?_)
        · refine J_iload_n dX1_readTerm_66 rfl rfl ?_
          exact J_iret (ty := .int) dX1_readTerm_67 rfl (rfl) ⟨(by rw [← hI, eTgo_c (by first | (left; omega) | (right; left; assumption) | (right; right; exact ⟨by assumption, by assumption⟩) | (right; right; assumption) | fail "c")]), (by rw [← hI, eTgo_c (by first | (left; omega) | (right; left; assumption) | (right; right; exact ⟨by assumption, by assumption⟩) | (right; right; assumption) | fail "c")])⟩
        · refine J_aload_n (t) dX1_readTerm_21 rfl rfl ?_
          refine J_bipush (x := 38) dX1_readTerm_22 (by decide) ?_
          refine J_calli0 (jrunU (As := [.int (38)]) (ct_X6_isAt_5 l D dA hst (jES M t z) t sg c L (z.1) ((hR.es (s' := z) hz).1) ((38))) dX1_readTerm_24 yY_X6_isAt gX1_readTerm_X6_isAt_u49X1 rfl cs5 f1 f2 rfl ⟨by omega, by omega⟩ ⟨Nat.zero_le _, Nat.zero_le _⟩ rfl (Nat.le_of_ble_eq_true rfl)) (rfl) (rfl) ?_
          refine J_if_ne dX1_readTerm_27 (tgt := 39) (by decide) (fun c27 => ?_) (fun c27 => ?_)
          · have c27 := jb0F c27
            refine J_aload_n (t) dX1_readTerm_39 rfl rfl ?_
            refine J_aload_n (t) dX1_readTerm_40 rfl rfl ?_
            refine J_bipush (x := 38) dX1_readTerm_41 (by decide) ?_
            refine J_calli0 (jrunU (As := [.int (38)]) (ct_X6_isAt_5 l D dA hst (jES M t z) t sg c L (z.1) ((hR.es (s' := z) hz).1) ((38))) dX1_readTerm_43 yY_X6_isAt gX1_readTerm_X6_isAt_u49X1 rfl cs5 f1 f2 rfl ⟨by omega, by omega⟩ ⟨Nat.zero_le _, Nat.zero_le _⟩ rfl (Nat.le_of_ble_eq_true rfl)) (rfl) (rfl) ?_
            refine J_if_eq dX1_readTerm_46 (tgt := 53) (by decide) (fun c46 => ?_) (fun c46 => ?_)
            · have c46 := jb0T c46
              refine J_iconst (x := 2) dX1_readTerm_53 (by decide) ?_
              refine J_iload_n dX1_readTerm_54 rfl rfl ?_
              refine J_iload_n dX1_readTerm_55 rfl rfl ?_
              refine J_calli0 (jrunV (As := [.int (2), .int (le), .int (nI (o))]) (ct_X1_readOperation_F l D dA hst (jES M t z) t sg c L z ((hR.es (s' := z) hz)) o f0 l0 ho hf hl G (2) ((le)) (by decide) hG) dX1_readTerm_56 yY_X1_readOperation gX1_readTerm_X1_readOperation rfl cs5 f1 f2 rfl ⟨by omega, by omega⟩ ⟨Nat.zero_le _, Nat.zero_le _⟩ rfl (Nat.le_of_ble_eq_true rfl)) (rfl) (jn_ES _ _ _) ?_
              refine J_mem (M' := jES M t ((eOp c L G (2) ((le)) z).2)) (by exact jES_ES _ _ _ _) ?_
              refine J_istore_n (lv' := [.ref (t), .int (nI (o)), .int ((eOp c L G (2) ((le)) z).1), .int (nI (k))]) dX1_readTerm_59 rfl (by decide) rfl rfl ?_
              refine J_iinc (y := nI (k + 1)) (lv' := [.ref (t), .int (nI (o)), .int ((eOp c L G (2) ((le)) z).1), .int (nI (k + 1))]) dX1_readTerm_60 rfl (jinc (k)) (by decide) rfl rfl ?_
              refine J_goto (tgt := 8) dX1_readTerm_63 (by decide) ?_
              exact ih8 (k + 1) ((eOp c L G (2) ((le)) z).1) ((eOp c L G (2) ((le)) z).2) (by omega) (by exact (eOp_ok hG.1 hz)) (by first | (exact absurd (Eq.trans (Eq.symm ‹tIsAt c L z.1 38 = true›) ‹tIsAt c L z.1 38 = false›) (by decide)) | (refine Eq.trans ?_ hI; first | rw [eTgo_a (k := k) (z := z) (by omega) c18 ‹tIsAt c L z.1 38 = true›] | rw [eTgo_b (k := k) (z := z) (by omega) c18 ‹tIsAt c L z.1 38 = false› ‹tIsAt c L z.1 45 = true›]) | fail "b") (by omega)
            · have c46 := jb0F c46
              refine J_iconst (x := 1) dX1_readTerm_49 (by decide) ?_
              refine J_goto (tgt := 54) dX1_readTerm_50 (by decide) ?_
              refine J_iload_n dX1_readTerm_54 rfl rfl ?_
              refine J_iload_n dX1_readTerm_55 rfl rfl ?_
              refine J_calli0 (jrunV (As := [.int (1), .int (le), .int (nI (o))]) (ct_X1_readOperation_F l D dA hst (jES M t z) t sg c L z ((hR.es (s' := z) hz)) o f0 l0 ho hf hl G (1) ((le)) (by decide) hG) dX1_readTerm_56 yY_X1_readOperation gX1_readTerm_X1_readOperation rfl cs5 f1 f2 rfl ⟨by omega, by omega⟩ ⟨Nat.zero_le _, Nat.zero_le _⟩ rfl (Nat.le_of_ble_eq_true rfl)) (rfl) (jn_ES _ _ _) ?_
              refine J_mem (M' := jES M t ((eOp c L G (1) ((le)) z).2)) (by exact jES_ES _ _ _ _) ?_
              refine J_istore_n (lv' := [.ref (t), .int (nI (o)), .int ((eOp c L G (1) ((le)) z).1), .int (nI (k))]) dX1_readTerm_59 rfl (by decide) rfl rfl ?_
              refine J_iinc (y := nI (k + 1)) (lv' := [.ref (t), .int (nI (o)), .int ((eOp c L G (1) ((le)) z).1), .int (nI (k + 1))]) dX1_readTerm_60 rfl (jinc (k)) (by decide) rfl rfl ?_
              refine J_goto (tgt := 8) dX1_readTerm_63 (by decide) ?_
              exact ih8 (k + 1) ((eOp c L G (1) ((le)) z).1) ((eOp c L G (1) ((le)) z).2) (by omega) (by exact (eOp_ok hG.1 hz)) (by first | (exact absurd (Eq.trans (Eq.symm ‹tIsAt c L z.1 38 = true›) ‹tIsAt c L z.1 38 = false›) (by decide)) | (refine Eq.trans ?_ hI; first | rw [eTgo_a (k := k) (z := z) (by omega) c18 ‹tIsAt c L z.1 38 = true›] | rw [eTgo_b (k := k) (z := z) (by omega) c18 ‹tIsAt c L z.1 38 = false› ‹tIsAt c L z.1 45 = true›]) | fail "b") (by omega)
          · have c27 := jb0T c27
            refine J_aload_n (t) dX1_readTerm_30 rfl rfl ?_
            refine J_bipush (x := 45) dX1_readTerm_31 (by decide) ?_
            refine J_calli0 (jrunU (As := [.int (45)]) (ct_X6_isAt_5 l D dA hst (jES M t z) t sg c L (z.1) ((hR.es (s' := z) hz).1) ((45))) dX1_readTerm_33 yY_X6_isAt gX1_readTerm_X6_isAt_u49X1 rfl cs5 f1 f2 rfl ⟨by omega, by omega⟩ ⟨Nat.zero_le _, Nat.zero_le _⟩ rfl (Nat.le_of_ble_eq_true rfl)) (rfl) (rfl) ?_
            refine J_if_eq dX1_readTerm_36 (tgt := 66) (by decide) (fun c36 => ?_) (fun c36 => ?_)
            · have c36 := jb0T c36
              refine J_iload_n dX1_readTerm_66 rfl rfl ?_
              exact J_iret (ty := .int) dX1_readTerm_67 rfl (rfl) ⟨(by rw [← hI, eTgo_c (by first | (left; omega) | (right; left; assumption) | (right; right; exact ⟨by assumption, by assumption⟩) | (right; right; assumption) | fail "c")]), (by rw [← hI, eTgo_c (by first | (left; omega) | (right; left; assumption) | (right; right; exact ⟨by assumption, by assumption⟩) | (right; right; assumption) | fail "c")])⟩
            · have c36 := jb0F c36
              refine J_aload_n (t) dX1_readTerm_39 rfl rfl ?_
              refine J_aload_n (t) dX1_readTerm_40 rfl rfl ?_
              refine J_bipush (x := 38) dX1_readTerm_41 (by decide) ?_
              refine J_calli0 (jrunU (As := [.int (38)]) (ct_X6_isAt_5 l D dA hst (jES M t z) t sg c L (z.1) ((hR.es (s' := z) hz).1) ((38))) dX1_readTerm_43 yY_X6_isAt gX1_readTerm_X6_isAt_u49X1 rfl cs5 f1 f2 rfl ⟨by omega, by omega⟩ ⟨Nat.zero_le _, Nat.zero_le _⟩ rfl (Nat.le_of_ble_eq_true rfl)) (rfl) (rfl) ?_
              refine J_if_eq dX1_readTerm_46 (tgt := 53) (by decide) (fun c46 => ?_) (fun c46 => ?_)
              · have c46 := jb0T c46
                refine J_iconst (x := 2) dX1_readTerm_53 (by decide) ?_
                refine J_iload_n dX1_readTerm_54 rfl rfl ?_
                refine J_iload_n dX1_readTerm_55 rfl rfl ?_
                refine J_calli0 (jrunV (As := [.int (2), .int (le), .int (nI (o))]) (ct_X1_readOperation_F l D dA hst (jES M t z) t sg c L z ((hR.es (s' := z) hz)) o f0 l0 ho hf hl G (2) ((le)) (by decide) hG) dX1_readTerm_56 yY_X1_readOperation gX1_readTerm_X1_readOperation rfl cs5 f1 f2 rfl ⟨by omega, by omega⟩ ⟨Nat.zero_le _, Nat.zero_le _⟩ rfl (Nat.le_of_ble_eq_true rfl)) (rfl) (jn_ES _ _ _) ?_
                refine J_mem (M' := jES M t ((eOp c L G (2) ((le)) z).2)) (by exact jES_ES _ _ _ _) ?_
                refine J_istore_n (lv' := [.ref (t), .int (nI (o)), .int ((eOp c L G (2) ((le)) z).1), .int (nI (k))]) dX1_readTerm_59 rfl (by decide) rfl rfl ?_
                refine J_iinc (y := nI (k + 1)) (lv' := [.ref (t), .int (nI (o)), .int ((eOp c L G (2) ((le)) z).1), .int (nI (k + 1))]) dX1_readTerm_60 rfl (jinc (k)) (by decide) rfl rfl ?_
                refine J_goto (tgt := 8) dX1_readTerm_63 (by decide) ?_
                exact ih8 (k + 1) ((eOp c L G (2) ((le)) z).1) ((eOp c L G (2) ((le)) z).2) (by omega) (by exact (eOp_ok hG.1 hz)) (by first | (exact absurd (Eq.trans (Eq.symm ‹tIsAt c L z.1 38 = true›) ‹tIsAt c L z.1 38 = false›) (by decide)) | (refine Eq.trans ?_ hI; first | rw [eTgo_a (k := k) (z := z) (by omega) c18 ‹tIsAt c L z.1 38 = true›] | rw [eTgo_b (k := k) (z := z) (by omega) c18 ‹tIsAt c L z.1 38 = false› ‹tIsAt c L z.1 45 = true›]) | fail "b") (by omega)
              · have c46 := jb0F c46
                refine J_iconst (x := 1) dX1_readTerm_49 (by decide) ?_
                refine J_goto (tgt := 54) dX1_readTerm_50 (by decide) ?_
                refine J_iload_n dX1_readTerm_54 rfl rfl ?_
                refine J_iload_n dX1_readTerm_55 rfl rfl ?_
                refine J_calli0 (jrunV (As := [.int (1), .int (le), .int (nI (o))]) (ct_X1_readOperation_F l D dA hst (jES M t z) t sg c L z ((hR.es (s' := z) hz)) o f0 l0 ho hf hl G (1) ((le)) (by decide) hG) dX1_readTerm_56 yY_X1_readOperation gX1_readTerm_X1_readOperation rfl cs5 f1 f2 rfl ⟨by omega, by omega⟩ ⟨Nat.zero_le _, Nat.zero_le _⟩ rfl (Nat.le_of_ble_eq_true rfl)) (rfl) (jn_ES _ _ _) ?_
                refine J_mem (M' := jES M t ((eOp c L G (1) ((le)) z).2)) (by exact jES_ES _ _ _ _) ?_
                refine J_istore_n (lv' := [.ref (t), .int (nI (o)), .int ((eOp c L G (1) ((le)) z).1), .int (nI (k))]) dX1_readTerm_59 rfl (by decide) rfl rfl ?_
                refine J_iinc (y := nI (k + 1)) (lv' := [.ref (t), .int (nI (o)), .int ((eOp c L G (1) ((le)) z).1), .int (nI (k + 1))]) dX1_readTerm_60 rfl (jinc (k)) (by decide) rfl rfl ?_
                refine J_goto (tgt := 8) dX1_readTerm_63 (by decide) ?_
                exact ih8 (k + 1) ((eOp c L G (1) ((le)) z).1) ((eOp c L G (1) ((le)) z).2) (by omega) (by exact (eOp_ok hG.1 hz)) (by first | (exact absurd (Eq.trans (Eq.symm ‹tIsAt c L z.1 38 = true›) ‹tIsAt c L z.1 38 = false›) (by decide)) | (refine Eq.trans ?_ hI; first | rw [eTgo_a (k := k) (z := z) (by omega) c18 ‹tIsAt c L z.1 38 = true›] | rw [eTgo_b (k := k) (z := z) (by omega) c18 ‹tIsAt c L z.1 38 = false› ‹tIsAt c L z.1 45 = true›]) | fail "b") (by omega)
  refine J_mem (M' := jES M t s) (by exact hR.eq) ?_
  refine J_aload_n (t) dX1_readTerm_0 rfl rfl ?_
  refine J_iload_n dX1_readTerm_1 rfl rfl ?_
  refine J_calli0 (jrunV (As := [.int (nI (o))]) (hG.2 (jES M t s) s ((hR.es (s' := s) hR.ok))) dX1_readTerm_2 yY_X1_readFactor gX1_readTerm_X1_readFactor rfl cs5 f1 f2 rfl ⟨by omega, by omega⟩ ⟨Nat.zero_le _, Nat.zero_le _⟩ rfl (Nat.le_of_ble_eq_true rfl)) (rfl) (jn_ES _ _ _) ?_
  refine J_mem (M' := jES M t ((G s).2)) (by exact jES_ES _ _ _ _) ?_
  refine J_istore_n (lv' := [.ref (t), .int (nI (o)), .int ((G s).1), .float 0]) dX1_readTerm_5 rfl (by decide) rfl rfl ?_
  refine J_iconst (x := 0) dX1_readTerm_6 (by decide) ?_
  refine J_istore_n (lv' := [.ref (t), .int (nI (o)), .int ((G s).1), .int (0)]) dX1_readTerm_7 rfl (by decide) rfl rfl ?_
  exact L8 _ (0) ((G s).1) ((G s).2) (by omega) (by exact (hG.1 _ hR.ok)) (by rfl) (Nat.lt_succ_self _)

theorem dX1_readSum_8 : decode cX1_readSum 8 = .ok (.iload_n 3, 1) := by decide +kernel
theorem dX1_readSum_9 : decode cX1_readSum 9 = .ok (.aload_n 0, 1) := by decide +kernel
theorem dX1_readSum_10 : decode cX1_readSum 10 = .ok (.invokevirtual 18, 3) := by decide +kernel
set_option maxRecDepth 20000 in
theorem ggX1_readSum_X6_textSize : GoodIn wsX1_readSum wsX6_textSize := goodIn_r _ [10, 11, 70, 71, 72, 73, 74, 75, 76, 77, 78, 79, 80, 81, 82, 83, 84, 85, 86] (by decide +kernel) (by decide +kernel)
set_option maxRecDepth 20000 in
theorem gX1_readSum_X6_textSize_u18X1 : GoodIn wsX1_readSum (va_wsU RX1 18 RX1 "VersionAlgebra$TextReader" ⟨"VersionAlgebra$Expression", "textSize", "()I"⟩ yX6_textSize wsX6_textSize) := goodIn_app (goodIn_of _ (by decide +kernel)) ggX1_readSum_X6_textSize
theorem dX1_readSum_13 : decode cX1_readSum 13 = .ok (.if_icmp .gt 31, 3) := by decide +kernel
theorem dX1_readSum_44 : decode cX1_readSum 44 = .ok (.iload_n 2, 1) := by decide +kernel
theorem dX1_readSum_45 : decode cX1_readSum 45 = .ok (.ireturn, 1) := by decide +kernel
theorem dX1_readSum_16 : decode cX1_readSum 16 = .ok (.iload_n 2, 1) := by decide +kernel
theorem dX1_readSum_17 : decode cX1_readSum 17 = .ok (.iconst (-1), 1) := by decide +kernel
theorem dX1_readSum_18 : decode cX1_readSum 18 = .ok (.if_icmp .eq 26, 3) := by decide +kernel
theorem dX1_readSum_21 : decode cX1_readSum 21 = .ok (.aload_n 0, 1) := by decide +kernel
theorem dX1_readSum_22 : decode cX1_readSum 22 = .ok (.bipush 43, 2) := by decide +kernel
theorem dX1_readSum_24 : decode cX1_readSum 24 = .ok (.invokevirtual 49, 3) := by decide +kernel
set_option maxRecDepth 20000 in
theorem ggX1_readSum_X6_isAt : GoodIn wsX1_readSum wsX6_isAt := goodIn_ca (goodIn_r _ [16, 17, 11, 18, 70, 71, 72, 73, 74, 75, 76, 77, 78, 79, 80, 81, 82, 83, 84, 85, 86] (by decide +kernel) (by decide +kernel)) (goodIn_sub (fun _ h => List.mem_cons_of_mem _ (List.mem_append_right _ h)) (by decide +kernel))
set_option maxRecDepth 20000 in
theorem gX1_readSum_X6_isAt_u49X1 : GoodIn wsX1_readSum (va_wsU RX1 49 RX1 "VersionAlgebra$TextReader" ⟨"VersionAlgebra$Expression", "isAt", "(C)Z"⟩ yX6_isAt wsX6_isAt) := goodIn_app (goodIn_of _ (by decide +kernel)) ggX1_readSum_X6_isAt
theorem dX1_readSum_27 : decode cX1_readSum 27 = .ok (.ifCond .eq 17, 3) := by decide +kernel
theorem dX1_readSum_30 : decode cX1_readSum 30 = .ok (.aload_n 0, 1) := by decide +kernel
theorem dX1_readSum_31 : decode cX1_readSum 31 = .ok (.iconst 0, 1) := by decide +kernel
theorem dX1_readSum_32 : decode cX1_readSum 32 = .ok (.iload_n 2, 1) := by decide +kernel
theorem dX1_readSum_33 : decode cX1_readSum 33 = .ok (.iload_n 1, 1) := by decide +kernel
theorem dX1_readSum_34 : decode cX1_readSum 34 = .ok (.invokevirtual 53, 3) := by decide +kernel
set_option maxRecDepth 20000 in
theorem ggX1_readSum_X1_readOperation : GoodIn wsX1_readSum wsX1_readOperation := goodIn_ca (goodIn_r _ [68, 23, 24, 25, 26, 9, 27, 17, 28, 29, 30, 31, 32, 33, 34, 35, 15, 16, 11, 18, 36, 1, 2, 3, 4, 37, 38, 39, 40, 41, 42, 43, 44, 45, 46, 47, 48, 49, 50, 51, 52, 53, 22, 12, 13, 14, 54, 55, 56, 57, 58, 59, 60, 61, 62, 63, 64, 65, 66, 67, 0, 5, 6, 7, 8, 10, 19, 20, 21, 69, 70, 71, 72, 73, 74, 75, 76, 77, 78, 79, 80, 81, 82, 83, 84, 85, 86] (by decide +kernel) (by decide +kernel)) (goodIn_sub (fun _ h => List.mem_cons_of_mem _ (List.mem_append_right _ h)) (by decide +kernel))
set_option maxRecDepth 20000 in
theorem gX1_readSum_X1_readOperation : GoodIn wsX1_readSum (wsV RX1 53 RX1 yX1_readOperation wsX1_readOperation) := goodIn_app (goodIn_of _ (by decide +kernel)) ggX1_readSum_X1_readOperation
theorem dX1_readSum_37 : decode cX1_readSum 37 = .ok (.istore_n 2, 1) := by decide +kernel
theorem dX1_readSum_38 : decode cX1_readSum 38 = .ok (.iinc 3 1, 3) := by decide +kernel
theorem dX1_readSum_41 : decode cX1_readSum 41 = .ok (.goto (-33), 3) := by decide +kernel
theorem dX1_readSum_0 : decode cX1_readSum 0 = .ok (.aload_n 0, 1) := by decide +kernel
theorem dX1_readSum_1 : decode cX1_readSum 1 = .ok (.iload_n 1, 1) := by decide +kernel
theorem dX1_readSum_2 : decode cX1_readSum 2 = .ok (.invokevirtual 46, 3) := by decide +kernel
set_option maxRecDepth 20000 in
theorem ggX1_readSum_X1_readTerm : GoodIn wsX1_readSum wsX1_readTerm := goodIn_ca (goodIn_r _ [69, 37, 38, 39, 4, 5, 6, 7, 8, 9, 10, 11, 12, 13, 14, 15, 16, 17, 18, 19, 20, 21, 22, 23, 24, 25, 26, 27, 28, 29, 30, 31, 32, 33, 34, 35, 36, 40, 41, 42, 43, 44, 45, 46, 47, 48, 49, 50, 51, 52, 53, 54, 55, 56, 57, 58, 59, 60, 61, 62, 63, 64, 65, 66, 67, 68, 1, 2, 3, 0, 70, 71, 72, 73, 74, 75, 76, 77, 78, 79, 80, 81, 82, 83, 84, 85, 86] (by decide +kernel) (by decide +kernel)) (goodIn_sub (fun _ h => List.mem_cons_of_mem _ (List.mem_append_right _ h)) (by decide +kernel))
set_option maxRecDepth 20000 in
theorem gX1_readSum_X1_readTerm : GoodIn wsX1_readSum (wsV RX1 46 RX1 yX1_readTerm wsX1_readTerm) := goodIn_app (goodIn_of _ (by decide +kernel)) ggX1_readSum_X1_readTerm
theorem dX1_readSum_5 : decode cX1_readSum 5 = .ok (.istore_n 2, 1) := by decide +kernel
theorem dX1_readSum_6 : decode cX1_readSum 6 = .ok (.iconst 0, 1) := by decide +kernel
theorem dX1_readSum_7 : decode cX1_readSum 7 = .ok (.istore_n 3, 1) := by decide +kernel
set_option maxHeartbeats 2000000 in
set_option maxRecDepth 20000 in
theorem ct_X1_readSum (l : Launch) (D : va_G) (dA : Nat → ClassId) (hst : l.stackTraces = false) (M : jM) (t sg : Nat) (c : Nat → Int32) (L : Nat) (s : eSt) (hR : jEr M t sg c L s) (o f0 l0 : Nat) (ho : o ≤ 8) (hf : 30 ≤ f0) (hl : 600 ≤ l0) (G : eRd) (hG : eCT l D dA yX1_readFactor wsX1_readFactor f0 l0 t sg c L o G) : jCT l D dA yX1_readSum wsX1_readSum (f0 + 40) (l0 + 400) (0) (0) 1 [.ref (t), .int (nI (o))] M (jPo (oI (eS c L G s).1) (jES M t ((eS c L G s).2))) := by
  refine jBody (cc := cX1_readSum) (nL := 4) (rt := (some .int)) (ini := false) (by decide) rfl hst (Nat.le_of_ble_eq_true rfl) (by simp [Value.category]) (by intro h9; first | exact absurd h9 (by decide) | rfl) ?_
  show J l D dA RX1 cX1_readSum wsX1_readSum 4 false (some .int) [] (f0 + 40) (l0 + 400) (jF D dA (jn M) (jPo (oI (eS c L G s).1) (jES M t ((eS c L G s).2))) 1) (jn M) (0) (0) (M) 0 [.ref (t), .int (nI (o)), .float 0, .float 0] []
  obtain ⟨⟨f1, f2, f3, f4, f5, f6, f7, f8, f9, f10, f11, f12⟩, g2, g3, g4, g5, g6⟩ := id hR
  have hT : eCT l D dA yX1_readTerm wsX1_readTerm (f0 + 20) (l0 + 200) t sg c L o (eT c L G) := ⟨eT_ok hG.1, fun M s h => ct_X1_readTerm l D dA hst M t sg c L s h o f0 l0 ho hf hl G hG⟩
  have L8 : ∀ (fuel : Nat) (k : Nat) (le : Int32) (z : eSt) (hk : k ≤ L + 1) (hz : eOk L z) (hI : eSgo c L G (L + 1 - k) le z = eS c L G s), L + 1 - k < fuel → J l D dA RX1 cX1_readSum wsX1_readSum 4 false (some .int) [] (f0 + 40) (l0 + 400) (jF D dA (jn M) (jPo (oI (eS c L G s).1) (jES M t ((eS c L G s).2))) 1) (jn M) (0) (0) (jES M t z) 8 [.ref (t), .int (nI (o)), .int (le), .int (nI (k))] [] := by
    intro fuel
    induction fuel with
    | zero => intro k le z hk hz hI hm; exact absurd hm (Nat.not_lt_zero _)
    | succ fuel ih8 =>
      intro k le z hk hz hI hm8
      refine J_iload_n dX1_readSum_8 rfl rfl ?_
      refine J_aload_n (t) dX1_readSum_9 rfl rfl ?_
      refine J_calli0 (jrunU (As := []) (ct_X6_textSize_5 l D dA hst (jES M t z) t sg c L (z.1) ((hR.es (s' := z) hz).1)) dX1_readSum_10 yY_X6_textSize gX1_readSum_X6_textSize_u18X1 rfl cs5 f1 f2 rfl ⟨by omega, by omega⟩ ⟨Nat.zero_le _, Nat.zero_le _⟩ rfl (Nat.le_of_ble_eq_true rfl)) (rfl) (rfl) ?_
      refine J_icmp_gt dX1_readSum_13 (tgt := 44) (by decide) (fun c13 => ?_) (fun c13 => ?_)
      · have c13 := jltT (a := L) (b := k) (by omega) (by omega) c13
        refine J_iload_n dX1_readSum_44 rfl rfl ?_
        exact J_iret (ty := .int) dX1_readSum_45 rfl (rfl) ⟨(by rw [← hI, eSgo_c (by first | (left; omega) | (right; left; assumption) | (right; right; exact ⟨by assumption, by assumption⟩) | (right; right; assumption) | fail "c")]), (by rw [← hI, eSgo_c (by first | (left; omega) | (right; left; assumption) | (right; right; exact ⟨by assumption, by assumption⟩) | (right; right; assumption) | fail "c")])⟩
      · have c13 := jltF (a := L) (b := k) (by omega) (by omega) c13
        refine J_iload_n dX1_readSum_16 rfl rfl ?_
        refine J_iconst (x := (-1)) dX1_readSum_17 (by decide) ?_
        refine J_icmp_eq dX1_readSum_18 (tgt := 44) (by decide) (fun c18 => ?_) (fun c18 => ?_)
        · refine J_iload_n dX1_readSum_44 rfl rfl ?_
          exact J_iret (ty := .int) dX1_readSum_45 rfl (rfl) ⟨(by rw [← hI, eSgo_c (by first | (left; omega) | (right; left; assumption) | (right; right; exact ⟨by assumption, by assumption⟩) | (right; right; assumption) | fail "c")]), (by rw [← hI, eSgo_c (by first | (left; omega) | (right; left; assumption) | (right; right; exact ⟨by assumption, by assumption⟩) | (right; right; assumption) | fail "c")])⟩
        · refine J_aload_n (t) dX1_readSum_21 rfl rfl ?_
          refine J_bipush (x := 43) dX1_readSum_22 (by decide) ?_
          refine J_calli0 (jrunU (As := [.int (43)]) (ct_X6_isAt_5 l D dA hst (jES M t z) t sg c L (z.1) ((hR.es (s' := z) hz).1) ((43))) dX1_readSum_24 yY_X6_isAt gX1_readSum_X6_isAt_u49X1 rfl cs5 f1 f2 rfl ⟨by omega, by omega⟩ ⟨Nat.zero_le _, Nat.zero_le _⟩ rfl (Nat.le_of_ble_eq_true rfl)) (rfl) (rfl) ?_
          refine J_if_eq dX1_readSum_27 (tgt := 44) (by decide) (fun c27 => ?_) (fun c27 => ?_)
          · have c27 := jb0T c27
            refine J_iload_n dX1_readSum_44 rfl rfl ?_
            exact J_iret (ty := .int) dX1_readSum_45 rfl (rfl) ⟨(by rw [← hI, eSgo_c (by first | (left; omega) | (right; left; assumption) | (right; right; exact ⟨by assumption, by assumption⟩) | (right; right; assumption) | fail "c")]), (by rw [← hI, eSgo_c (by first | (left; omega) | (right; left; assumption) | (right; right; exact ⟨by assumption, by assumption⟩) | (right; right; assumption) | fail "c")])⟩
          · have c27 := jb0F c27
            refine J_aload_n (t) dX1_readSum_30 rfl rfl ?_
            refine J_iconst (x := 0) dX1_readSum_31 (by decide) ?_
            refine J_iload_n dX1_readSum_32 rfl rfl ?_
            refine J_iload_n dX1_readSum_33 rfl rfl ?_
            refine J_calli0 (jrunV (As := [.int (0), .int (le), .int (nI (o))]) (ct_X1_readOperation_T l D dA hst (jES M t z) t sg c L z ((hR.es (s' := z) hz)) o (f0 + 20) (l0 + 200) ho (by omega) (by omega) (eT c L G) ((le)) hT) dX1_readSum_34 yY_X1_readOperation gX1_readSum_X1_readOperation rfl cs5 f1 f2 rfl ⟨by omega, by omega⟩ ⟨Nat.zero_le _, Nat.zero_le _⟩ rfl (Nat.le_of_ble_eq_true rfl)) (rfl) (jn_ES _ _ _) ?_
            refine J_mem (M' := jES M t ((eOp c L (eT c L G) (0) ((le)) z).2)) (by exact jES_ES _ _ _ _) ?_
            refine J_istore_n (lv' := [.ref (t), .int (nI (o)), .int ((eOp c L (eT c L G) (0) ((le)) z).1), .int (nI (k))]) dX1_readSum_37 rfl (by decide) rfl rfl ?_
            refine J_iinc (y := nI (k + 1)) (lv' := [.ref (t), .int (nI (o)), .int ((eOp c L (eT c L G) (0) ((le)) z).1), .int (nI (k + 1))]) dX1_readSum_38 rfl (jinc (k)) (by decide) rfl rfl ?_
            refine J_goto (tgt := 8) dX1_readSum_41 (by decide) ?_
            exact ih8 (k + 1) ((eOp c L (eT c L G) (0) ((le)) z).1) ((eOp c L (eT c L G) (0) ((le)) z).2) (by omega) (by exact (eOp_ok (eT_ok hG.1) hz)) (by refine Eq.trans ?_ hI; rw [eSgo_a (k := k) (z := z) (by omega) c18 c27]) (by omega)
  refine J_mem (M' := jES M t s) (by exact hR.eq) ?_
  refine J_aload_n (t) dX1_readSum_0 rfl rfl ?_
  refine J_iload_n dX1_readSum_1 rfl rfl ?_
  refine J_calli0 (jrunV (As := [.int (nI (o))]) (hT.2 (jES M t s) s ((hR.es (s' := s) hR.ok))) dX1_readSum_2 yY_X1_readTerm gX1_readSum_X1_readTerm rfl cs5 f1 f2 rfl ⟨by omega, by omega⟩ ⟨Nat.zero_le _, Nat.zero_le _⟩ rfl (Nat.le_of_ble_eq_true rfl)) (rfl) (jn_ES _ _ _) ?_
  refine J_mem (M' := jES M t (((eT c L G) s).2)) (by exact jES_ES _ _ _ _) ?_
  refine J_istore_n (lv' := [.ref (t), .int (nI (o)), .int (((eT c L G) s).1), .float 0]) dX1_readSum_5 rfl (by decide) rfl rfl ?_
  refine J_iconst (x := 0) dX1_readSum_6 (by decide) ?_
  refine J_istore_n (lv' := [.ref (t), .int (nI (o)), .int (((eT c L G) s).1), .int (0)]) dX1_readSum_7 rfl (by decide) rfl rfl ?_
  exact L8 _ (0) (((eT c L G) s).1) (((eT c L G) s).2) (by omega) (by exact (hT.1 _ hR.ok)) (by rfl) (Nat.lt_succ_self _)

theorem dX1_readFactor_0 : decode cX1_readFactor 0 = .ok (.aload_n 0, 1) := by decide +kernel
theorem dX1_readFactor_1 : decode cX1_readFactor 1 = .ok (.invokevirtual 60, 3) := by decide +kernel
set_option maxRecDepth 20000 in
theorem ggX1_readFactor_X6_position : GoodIn wsX1_readFactor wsX6_position := goodIn_r _ [6, 7, 70, 71, 72, 73, 74, 75, 76, 77, 78, 79, 80, 81, 82, 83, 84, 85, 86] (by decide +kernel) (by decide +kernel)
set_option maxRecDepth 20000 in
theorem gX1_readFactor_X6_position_u60X1 : GoodIn wsX1_readFactor (va_wsU RX1 60 RX1 "VersionAlgebra$TextReader" ⟨"VersionAlgebra$Expression", "position", "()I"⟩ yX6_position wsX6_position) := goodIn_app (goodIn_of _ (by decide +kernel)) ggX1_readFactor_X6_position
theorem dX1_readFactor_4 : decode cX1_readFactor 4 = .ok (.istore_n 2, 1) := by decide +kernel
theorem dX1_readFactor_5 : decode cX1_readFactor 5 = .ok (.aload_n 0, 1) := by decide +kernel
theorem dX1_readFactor_6 : decode cX1_readFactor 6 = .ok (.bipush 33, 2) := by decide +kernel
theorem dX1_readFactor_8 : decode cX1_readFactor 8 = .ok (.invokevirtual 49, 3) := by decide +kernel
set_option maxRecDepth 20000 in
theorem ggX1_readFactor_X6_isAt : GoodIn wsX1_readFactor wsX6_isAt := goodIn_ca (goodIn_r _ [12, 7, 13, 14, 70, 71, 72, 73, 74, 75, 76, 77, 78, 79, 80, 81, 82, 83, 84, 85, 86] (by decide +kernel) (by decide +kernel)) (goodIn_sub (fun _ h => List.mem_cons_of_mem _ (List.mem_append_right _ h)) (by decide +kernel))
set_option maxRecDepth 20000 in
theorem gX1_readFactor_X6_isAt_u49X1 : GoodIn wsX1_readFactor (va_wsU RX1 49 RX1 "VersionAlgebra$TextReader" ⟨"VersionAlgebra$Expression", "isAt", "(C)Z"⟩ yX6_isAt wsX6_isAt) := goodIn_app (goodIn_of _ (by decide +kernel)) ggX1_readFactor_X6_isAt
theorem dX1_readFactor_11 : decode cX1_readFactor 11 = .ok (.ifCond .ne 12, 3) := by decide +kernel
theorem dX1_readFactor_23 : decode cX1_readFactor 23 = .ok (.iload_n 1, 1) := by decide +kernel
theorem dX1_readFactor_24 : decode cX1_readFactor 24 = .ok (.bipush 8, 2) := by decide +kernel
theorem dX1_readFactor_26 : decode cX1_readFactor 26 = .ok (.if_icmp .lt 5, 3) := by decide +kernel
theorem dX1_readFactor_29 : decode cX1_readFactor 29 = .ok (.iconst (-1), 1) := by decide +kernel
theorem dX1_readFactor_30 : decode cX1_readFactor 30 = .ok (.ireturn, 1) := by decide +kernel
theorem dX1_readFactor_14 : decode cX1_readFactor 14 = .ok (.aload_n 0, 1) := by decide +kernel
theorem dX1_readFactor_15 : decode cX1_readFactor 15 = .ok (.bipush 40, 2) := by decide +kernel
theorem dX1_readFactor_17 : decode cX1_readFactor 17 = .ok (.invokevirtual 49, 3) := by decide +kernel
theorem dX1_readFactor_20 : decode cX1_readFactor 20 = .ok (.ifCond .eq 11, 3) := by decide +kernel
theorem dX1_readFactor_31 : decode cX1_readFactor 31 = .ok (.aload_n 0, 1) := by decide +kernel
theorem dX1_readFactor_32 : decode cX1_readFactor 32 = .ok (.bipush 33, 2) := by decide +kernel
theorem dX1_readFactor_34 : decode cX1_readFactor 34 = .ok (.invokevirtual 63, 3) := by decide +kernel
set_option maxRecDepth 20000 in
theorem ggX1_readFactor_X6_takes : GoodIn wsX1_readFactor wsX6_takes := goodIn_ca (goodIn_r _ [19, 7, 20, 21, 22, 11, 5, 12, 13, 14, 23, 70, 71, 72, 73, 74, 75, 76, 77, 78, 79, 80, 81, 82, 83, 84, 85, 86] (by decide +kernel) (by decide +kernel)) (goodIn_sub (fun _ h => List.mem_cons_of_mem _ (List.mem_append_right _ h)) (by decide +kernel))
set_option maxRecDepth 20000 in
theorem gX1_readFactor_X6_takes_u63X1 : GoodIn wsX1_readFactor (va_wsU RX1 63 RX1 "VersionAlgebra$TextReader" ⟨"VersionAlgebra$Expression", "takes", "(C)Z"⟩ yX6_takes wsX6_takes) := goodIn_app (goodIn_of _ (by decide +kernel)) ggX1_readFactor_X6_takes
theorem dX1_readFactor_37 : decode cX1_readFactor 37 = .ok (.ifCond .eq 29, 3) := by decide +kernel
theorem dX1_readFactor_66 : decode cX1_readFactor 66 = .ok (.aload_n 0, 1) := by decide +kernel
theorem dX1_readFactor_67 : decode cX1_readFactor 67 = .ok (.bipush 40, 2) := by decide +kernel
theorem dX1_readFactor_69 : decode cX1_readFactor 69 = .ok (.invokevirtual 63, 3) := by decide +kernel
theorem dX1_readFactor_72 : decode cX1_readFactor 72 = .ok (.ifCond .eq 31, 3) := by decide +kernel
theorem dX1_readFactor_103 : decode cX1_readFactor 103 = .ok (.aload_n 0, 1) := by decide +kernel
theorem dX1_readFactor_104 : decode cX1_readFactor 104 = .ok (.invokevirtual 70, 3) := by decide +kernel
set_option maxRecDepth 20000 in
theorem ggX1_readFactor_X6_takeNumber : GoodIn wsX1_readFactor wsX6_takeNumber := goodIn_ca (goodIn_r _ [49, 7, 50, 51, 52, 53, 5, 54, 13, 14, 55, 70, 71, 72, 73, 74, 75, 76, 77, 78, 79, 80, 81, 82, 83, 84, 85, 86] (by decide +kernel) (by decide +kernel)) (goodIn_sub (fun _ h => List.mem_cons_of_mem _ (List.mem_append_right _ h)) (by decide +kernel))
set_option maxRecDepth 20000 in
theorem gX1_readFactor_X6_takeNumber_u70X1 : GoodIn wsX1_readFactor (va_wsU RX1 70 RX1 "VersionAlgebra$TextReader" ⟨"VersionAlgebra$Expression", "takeNumber", "()I"⟩ yX6_takeNumber wsX6_takeNumber) := goodIn_app (goodIn_of _ (by decide +kernel)) ggX1_readFactor_X6_takeNumber
theorem dX1_readFactor_107 : decode cX1_readFactor 107 = .ok (.istore_n 3, 1) := by decide +kernel
theorem dX1_readFactor_108 : decode cX1_readFactor 108 = .ok (.iload_n 3, 1) := by decide +kernel
theorem dX1_readFactor_109 : decode cX1_readFactor 109 = .ok (.iconst (-1), 1) := by decide +kernel
theorem dX1_readFactor_110 : decode cX1_readFactor 110 = .ok (.if_icmp .ne 7, 3) := by decide +kernel
theorem dX1_readFactor_117 : decode cX1_readFactor 117 = .ok (.aload_n 0, 1) := by decide +kernel
theorem dX1_readFactor_118 : decode cX1_readFactor 118 = .ok (.iconst 4, 1) := by decide +kernel
theorem dX1_readFactor_119 : decode cX1_readFactor 119 = .ok (.iload_n 2, 1) := by decide +kernel
theorem dX1_readFactor_120 : decode cX1_readFactor 120 = .ok (.iload_n 3, 1) := by decide +kernel
theorem dX1_readFactor_121 : decode cX1_readFactor 121 = .ok (.iconst (-1), 1) := by decide +kernel
theorem dX1_readFactor_122 : decode cX1_readFactor 122 = .ok (.invokevirtual 66, 3) := by decide +kernel
set_option maxRecDepth 20000 in
theorem ggX1_readFactor_X1_addNode : GoodIn wsX1_readFactor wsX1_addNode := goodIn_ca (goodIn_r _ [31, 32, 33, 34, 35, 36, 37, 38, 39, 40, 27, 41, 70, 71, 72, 73, 74, 75, 76, 77, 78, 79] (by decide +kernel) (by decide +kernel)) (goodIn_sub (fun _ h => List.mem_cons_of_mem _ (List.mem_append_right _ h)) (by decide +kernel))
set_option maxRecDepth 20000 in
theorem gX1_readFactor_X1_addNode : GoodIn wsX1_readFactor (wsV RX1 66 RX1 yX1_addNode wsX1_addNode) := goodIn_app (goodIn_of _ (by decide +kernel)) ggX1_readFactor_X1_addNode
theorem dX1_readFactor_125 : decode cX1_readFactor 125 = .ok (.ireturn, 1) := by decide +kernel
theorem dX1_readFactor_113 : decode cX1_readFactor 113 = .ok (.iconst (-1), 1) := by decide +kernel
theorem dX1_readFactor_114 : decode cX1_readFactor 114 = .ok (.goto 11, 3) := by decide +kernel
theorem dX1_readFactor_75 : decode cX1_readFactor 75 = .ok (.aload_n 0, 1) := by decide +kernel
theorem dX1_readFactor_76 : decode cX1_readFactor 76 = .ok (.iload_n 1, 1) := by decide +kernel
theorem dX1_readFactor_77 : decode cX1_readFactor 77 = .ok (.iconst 1, 1) := by decide +kernel
theorem dX1_readFactor_78 : decode cX1_readFactor 78 = .ok (.iadd, 1) := by decide +kernel
theorem dX1_readFactor_40 : decode cX1_readFactor 40 = .ok (.aload_n 0, 1) := by decide +kernel
theorem dX1_readFactor_41 : decode cX1_readFactor 41 = .ok (.iload_n 1, 1) := by decide +kernel
theorem dX1_readFactor_42 : decode cX1_readFactor 42 = .ok (.iconst 1, 1) := by decide +kernel
theorem dX1_readFactor_43 : decode cX1_readFactor 43 = .ok (.iadd, 1) := by decide +kernel
set_option maxHeartbeats 2000000 in
set_option maxRecDepth 20000 in
theorem ct_X1_readFactor_0 (l : Launch) (D : va_G) (dA : Nat → ClassId) (hst : l.stackTraces = false) (M : jM) (t sg : Nat) (c : Nat → Int32) (L : Nat) (s : eSt) (hR : jEr M t sg c L s) (o : Nat) (ho : o ≤ 8) (h8 : o = 8) : jCT l D dA yX1_readFactor wsX1_readFactor (30) (600) (0) (0) 1 [.ref (t), .int (nI (o))] M (jPo (oI (eFac c L 0 s).1) (jES M t ((eFac c L 0 s).2))) := by
  refine jBody (cc := cX1_readFactor) (nL := 4) (rt := (some .int)) (ini := false) (by decide) rfl hst (Nat.le_of_ble_eq_true rfl) (by simp [Value.category]) (by intro h9; first | exact absurd h9 (by decide) | rfl) ?_
  show J l D dA RX1 cX1_readFactor wsX1_readFactor 4 false (some .int) [] (30) (600) (jF D dA (jn M) (jPo (oI (eFac c L 0 s).1) (jES M t ((eFac c L 0 s).2))) 1) (jn M) (0) (0) (M) 0 [.ref (t), .int (nI (o)), .float 0, .float 0] []
  obtain ⟨⟨f1, f2, f3, f4, f5, f6, f7, f8, f9, f10, f11, f12⟩, g2, g3, g4, g5, g6⟩ := id hR
  refine J_mem (M' := jES M t s) (by exact hR.eq) ?_
  refine J_aload_n (t) dX1_readFactor_0 rfl rfl ?_
  refine J_calli0 (jrunU (As := []) (ct_X6_position_5 l D dA hst (jES M t s) t sg c L (s.1) ((hR.es (s' := s) hR.ok).1)) dX1_readFactor_1 yY_X6_position gX1_readFactor_X6_position_u60X1 rfl cs5 f1 f2 rfl ⟨by omega, by omega⟩ ⟨Nat.zero_le _, Nat.zero_le _⟩ rfl (Nat.le_of_ble_eq_true rfl)) (rfl) (rfl) ?_
  refine J_istore_n (lv' := [.ref (t), .int (nI (o)), .int (nI (s.1)), .float 0]) dX1_readFactor_4 rfl (by decide) rfl rfl ?_
  refine J_aload_n (t) dX1_readFactor_5 rfl rfl ?_
  refine J_bipush (x := 33) dX1_readFactor_6 (by decide) ?_
  refine J_calli0 (jrunU (As := [.int (33)]) (ct_X6_isAt_5 l D dA hst (jES M t s) t sg c L (s.1) ((hR.es (s' := s) hR.ok).1) ((33))) dX1_readFactor_8 yY_X6_isAt gX1_readFactor_X6_isAt_u49X1 rfl cs5 f1 f2 rfl ⟨by omega, by omega⟩ ⟨Nat.zero_le _, Nat.zero_le _⟩ rfl (Nat.le_of_ble_eq_true rfl)) (rfl) (rfl) ?_
  refine J_if_ne dX1_readFactor_11 (tgt := 23) (by decide) (fun c11 => ?_) (fun c11 => ?_)
  · have c11 := jb0F c11
    refine J_iload_n dX1_readFactor_23 rfl rfl ?_
    refine J_bipush (x := 8) dX1_readFactor_24 (by decide) ?_
    refine J_icmp_lt dX1_readFactor_26 (tgt := 31) (by decide) (fun c26 => ?_) (fun c26 => ?_)
    · have c26 := jltT (a := o) (b := 8) (by omega) (by omega) c26
      exact absurd c26 (by omega)
    · have c26 := jltF (a := o) (b := 8) (by omega) (by omega) c26
      refine J_iconst (x := (-1)) dX1_readFactor_29 (by decide) ?_
      exact J_iret (ty := .int) dX1_readFactor_30 rfl (rfl) ⟨(by first | (exact Bool.noConfusion (Eq.trans (Eq.symm ‹tIsAt c L s.1 33 = true›) ‹tIsAt c L s.1 33 = false›)) | (exact Bool.noConfusion (Eq.trans (Eq.symm ‹tIsAt c L s.1 40 = true›) ‹tIsAt c L s.1 40 = false›)) | (simp only [eFac, eNum, *, reduceIte, Bool.false_eq_true]; done) | fail "f"), (by first | (exact Bool.noConfusion (Eq.trans (Eq.symm ‹tIsAt c L s.1 33 = true›) ‹tIsAt c L s.1 33 = false›)) | (exact Bool.noConfusion (Eq.trans (Eq.symm ‹tIsAt c L s.1 40 = true›) ‹tIsAt c L s.1 40 = false›)) | (simp only [eFac, eNum, *, reduceIte, Bool.false_eq_true]; done) | fail "f")⟩
  · have c11 := jb0T c11
    refine J_aload_n (t) dX1_readFactor_14 rfl rfl ?_
    refine J_bipush (x := 40) dX1_readFactor_15 (by decide) ?_
    refine J_calli0 (jrunU (As := [.int (40)]) (ct_X6_isAt_5 l D dA hst (jES M t s) t sg c L (s.1) ((hR.es (s' := s) hR.ok).1) ((40))) dX1_readFactor_17 yY_X6_isAt gX1_readFactor_X6_isAt_u49X1 rfl cs5 f1 f2 rfl ⟨by omega, by omega⟩ ⟨Nat.zero_le _, Nat.zero_le _⟩ rfl (Nat.le_of_ble_eq_true rfl)) (rfl) (rfl) ?_
    refine J_if_eq dX1_readFactor_20 (tgt := 31) (by decide) (fun c20 => ?_) (fun c20 => ?_)
    · have c20 := jb0T c20
      refine J_aload_n (t) dX1_readFactor_31 rfl rfl ?_
      refine J_bipush (x := 33) dX1_readFactor_32 (by decide) ?_
      refine J_calli0 (jrunU (As := [.int (33)]) (ct_X6_takes_5 l D dA hst (jES M t s) t sg c L (s.1) ((hR.es (s' := s) hR.ok).1) ((33))) dX1_readFactor_34 yY_X6_takes gX1_readFactor_X6_takes_u63X1 rfl cs5 f1 f2 rfl ⟨by omega, by omega⟩ ⟨Nat.zero_le _, Nat.zero_le _⟩ rfl (Nat.le_of_ble_eq_true rfl)) (rfl) (rfl) ?_
      refine J_mem (M' := jES M t ((tTk c L (s.1) ((33)), s.2))) (by exact jES_2 _ _ _ _) ?_
      refine J_if_eq dX1_readFactor_37 (tgt := 66) (by decide) (fun c37 => ?_) (fun c37 => ?_)
      · have c37 := jb0T c37
        refine J_mem (M' := jES M t s) (congrArg (fun q => jES M t (q, s.2)) (tTk_f c37)) ?_
        refine J_aload_n (t) dX1_readFactor_66 rfl rfl ?_
        refine J_bipush (x := 40) dX1_readFactor_67 (by decide) ?_
        refine J_calli0 (jrunU (As := [.int (40)]) (ct_X6_takes_5 l D dA hst (jES M t s) t sg c L (s.1) ((hR.es (s' := s) hR.ok).1) ((40))) dX1_readFactor_69 yY_X6_takes gX1_readFactor_X6_takes_u63X1 rfl cs5 f1 f2 rfl ⟨by omega, by omega⟩ ⟨Nat.zero_le _, Nat.zero_le _⟩ rfl (Nat.le_of_ble_eq_true rfl)) (rfl) (rfl) ?_
        refine J_mem (M' := jES M t ((tTk c L (s.1) ((40)), s.2))) (by exact jES_2 _ _ _ _) ?_
        refine J_if_eq dX1_readFactor_72 (tgt := 103) (by decide) (fun c72 => ?_) (fun c72 => ?_)
        · have c72 := jb0T c72
          refine J_mem (M' := jES M t s) (congrArg (fun q => jES M t (q, s.2)) (tTk_f c72)) ?_
          refine J_aload_n (t) dX1_readFactor_103 rfl rfl ?_
          refine J_calli0 (jrunU (As := []) (ct_X6_takeNumber_5 l D dA hst (jES M t s) t sg c L (s.1) ((hR.es (s' := s) hR.ok).1)) dX1_readFactor_104 yY_X6_takeNumber gX1_readFactor_X6_takeNumber_u70X1 rfl cs5 f1 f2 rfl ⟨by omega, by omega⟩ ⟨Nat.zero_le _, Nat.zero_le _⟩ rfl (Nat.le_of_ble_eq_true rfl)) (rfl) (rfl) ?_
          refine J_mem (M' := jES M t (((tNum c L (s.1)).2, s.2))) (by exact jES_2 _ _ _ _) ?_
          refine J_istore_n (lv' := [.ref (t), .int (nI (o)), .int (nI (s.1)), .int ((tNum c L (s.1)).1)]) dX1_readFactor_107 rfl (by decide) rfl rfl ?_
          refine J_iload_n dX1_readFactor_108 rfl rfl ?_
          refine J_iconst (x := (-1)) dX1_readFactor_109 (by decide) ?_
          refine J_icmp_ne dX1_readFactor_110 (tgt := 117) (by decide) (fun c110 => ?_) (fun c110 => ?_)
          · refine J_aload_n (t) dX1_readFactor_117 rfl rfl ?_
            refine J_iconst (x := 4) dX1_readFactor_118 (by decide) ?_
            refine J_iload_n dX1_readFactor_119 rfl rfl ?_
            refine J_iload_n dX1_readFactor_120 rfl rfl ?_
            refine J_iconst (x := (-1)) dX1_readFactor_121 (by decide) ?_
            refine J_calli0 (jrunV (As := [.int (4), .int (nI (s.1)), .int ((tNum c L (s.1)).1), .int (-1)]) (ct_X1_addNode l D dA hst (jES M t (((tNum c L (s.1)).2, s.2))) t sg c L (((tNum c L (s.1)).2, s.2)) ((hR.es (s' := ((tNum c L (s.1)).2, s.2)) ⟨(tNum_le (hR.ok).1), (hR.ok).2⟩)) ((4)) (nI (s.1)) (((tNum c L (s.1)).1)) ((-1))) dX1_readFactor_122 yY_X1_addNode gX1_readFactor_X1_addNode rfl cs5 f1 f2 rfl ⟨by omega, by omega⟩ ⟨Nat.zero_le _, Nat.zero_le _⟩ rfl (Nat.le_of_ble_eq_true rfl)) (rfl) (jn_ES _ _ _) ?_
            refine J_mem (M' := jES M t ((eAdd L ((4)) (nI (s.1)) (((tNum c L (s.1)).1)) ((-1)) (((tNum c L (s.1)).2, s.2))).2)) (by exact jES_ES _ _ _ _) ?_
            exact J_iret (ty := .int) dX1_readFactor_125 rfl (rfl) ⟨(by first | (exact Bool.noConfusion (Eq.trans (Eq.symm ‹tIsAt c L s.1 33 = true›) ‹tIsAt c L s.1 33 = false›)) | (exact Bool.noConfusion (Eq.trans (Eq.symm ‹tIsAt c L s.1 40 = true›) ‹tIsAt c L s.1 40 = false›)) | (simp only [eFac, eNum, *, reduceIte, Bool.false_eq_true]; done) | fail "f"), (by first | (exact Bool.noConfusion (Eq.trans (Eq.symm ‹tIsAt c L s.1 33 = true›) ‹tIsAt c L s.1 33 = false›)) | (exact Bool.noConfusion (Eq.trans (Eq.symm ‹tIsAt c L s.1 40 = true›) ‹tIsAt c L s.1 40 = false›)) | (simp only [eFac, eNum, *, reduceIte, Bool.false_eq_true]; done) | fail "f")⟩
          · refine J_iconst (x := (-1)) dX1_readFactor_113 (by decide) ?_
            refine J_goto (tgt := 125) dX1_readFactor_114 (by decide) ?_
            exact J_iret (ty := .int) dX1_readFactor_125 rfl (rfl) ⟨(by first | (exact Bool.noConfusion (Eq.trans (Eq.symm ‹tIsAt c L s.1 33 = true›) ‹tIsAt c L s.1 33 = false›)) | (exact Bool.noConfusion (Eq.trans (Eq.symm ‹tIsAt c L s.1 40 = true›) ‹tIsAt c L s.1 40 = false›)) | (simp only [eFac, eNum, *, reduceIte, Bool.false_eq_true]; done) | fail "f"), (by first | (exact Bool.noConfusion (Eq.trans (Eq.symm ‹tIsAt c L s.1 33 = true›) ‹tIsAt c L s.1 33 = false›)) | (exact Bool.noConfusion (Eq.trans (Eq.symm ‹tIsAt c L s.1 40 = true›) ‹tIsAt c L s.1 40 = false›)) | (simp only [eFac, eNum, *, reduceIte, Bool.false_eq_true]; done) | fail "f")⟩
        · have c72 := jb0F c72
          refine J_mem (M' := jES M t ((s.1 + 1, s.2))) (congrArg (fun q => jES M t (q, s.2)) (tTk_t c72)) ?_
          refine J_aload_n (t) dX1_readFactor_75 rfl rfl ?_
          refine J_iload_n dX1_readFactor_76 rfl rfl ?_
          refine J_iconst (x := 1) dX1_readFactor_77 (by decide) ?_
          refine J_iadd dX1_readFactor_78 ?_
          refine J_topi (y := nI (o + 1)) (nI_add (o) (1)) ?_
          exact Bool.noConfusion (Eq.trans (Eq.symm ‹tIsAt c L s.1 40 = true›) ‹tIsAt c L s.1 40 = false›)
      · have c37 := jb0F c37
        refine J_mem (M' := jES M t ((s.1 + 1, s.2))) (congrArg (fun q => jES M t (q, s.2)) (tTk_t c37)) ?_
        refine J_aload_n (t) dX1_readFactor_40 rfl rfl ?_
        refine J_iload_n dX1_readFactor_41 rfl rfl ?_
        refine J_iconst (x := 1) dX1_readFactor_42 (by decide) ?_
        refine J_iadd dX1_readFactor_43 ?_
        refine J_topi (y := nI (o + 1)) (nI_add (o) (1)) ?_
        exact Bool.noConfusion (Eq.trans (Eq.symm ‹tIsAt c L s.1 33 = true›) ‹tIsAt c L s.1 33 = false›)
    · have c20 := jb0F c20
      refine J_iload_n dX1_readFactor_23 rfl rfl ?_
      refine J_bipush (x := 8) dX1_readFactor_24 (by decide) ?_
      refine J_icmp_lt dX1_readFactor_26 (tgt := 31) (by decide) (fun c26 => ?_) (fun c26 => ?_)
      · have c26 := jltT (a := o) (b := 8) (by omega) (by omega) c26
        exact absurd c26 (by omega)
      · have c26 := jltF (a := o) (b := 8) (by omega) (by omega) c26
        refine J_iconst (x := (-1)) dX1_readFactor_29 (by decide) ?_
        exact J_iret (ty := .int) dX1_readFactor_30 rfl (rfl) ⟨(by first | (exact Bool.noConfusion (Eq.trans (Eq.symm ‹tIsAt c L s.1 33 = true›) ‹tIsAt c L s.1 33 = false›)) | (exact Bool.noConfusion (Eq.trans (Eq.symm ‹tIsAt c L s.1 40 = true›) ‹tIsAt c L s.1 40 = false›)) | (simp only [eFac, eNum, *, reduceIte, Bool.false_eq_true]; done) | fail "f"), (by first | (exact Bool.noConfusion (Eq.trans (Eq.symm ‹tIsAt c L s.1 33 = true›) ‹tIsAt c L s.1 33 = false›)) | (exact Bool.noConfusion (Eq.trans (Eq.symm ‹tIsAt c L s.1 40 = true›) ‹tIsAt c L s.1 40 = false›)) | (simp only [eFac, eNum, *, reduceIte, Bool.false_eq_true]; done) | fail "f")⟩

theorem dX1_readFactor_79 : decode cX1_readFactor 79 = .ok (.invokevirtual 38, 3) := by decide +kernel
set_option maxRecDepth 20000 in
theorem ggX1_readFactor_X1_readSum : GoodIn wsX1_readFactor wsX1_readSum := goodIn_ca (goodIn_r _ [60, 57, 58, 59, 27, 61, 62, 63, 64, 5, 65, 13, 8, 9, 10, 11, 12, 7, 14, 66, 67, 68, 0, 1, 2, 3, 4, 6, 15, 16, 17, 18, 19, 20, 21, 22, 23, 24, 25, 26, 28, 29, 30, 31, 32, 33, 34, 35, 36, 37, 38, 39, 40, 41, 42, 43, 44, 45, 46, 47, 48, 49, 50, 51, 52, 53, 54, 55, 56, 69, 70, 71, 72, 73, 74, 75, 76, 77, 78, 79, 80, 81, 82, 83, 84, 85, 86] (by decide +kernel) (by decide +kernel)) (goodIn_sub (fun _ h => List.mem_cons_of_mem _ (List.mem_append_right _ h)) (by decide +kernel))
set_option maxRecDepth 20000 in
theorem gX1_readFactor_X1_readSum : GoodIn wsX1_readFactor (wsV RX1 38 RX1 yX1_readSum wsX1_readSum) := goodIn_app (goodIn_of _ (by decide +kernel)) ggX1_readFactor_X1_readSum
theorem yY_X1_readSum : jY yX1_readSum wsX1_readSum cX1_readSum 4 (some .int) 1 := ⟨⟨_, rfl⟩, by decide +kernel, by decide +kernel, by decide +kernel⟩
theorem dX1_readFactor_82 : decode cX1_readFactor 82 = .ok (.istore_n 3, 1) := by decide +kernel
theorem dX1_readFactor_83 : decode cX1_readFactor 83 = .ok (.iload_n 3, 1) := by decide +kernel
theorem dX1_readFactor_84 : decode cX1_readFactor 84 = .ok (.iconst (-1), 1) := by decide +kernel
theorem dX1_readFactor_85 : decode cX1_readFactor 85 = .ok (.if_icmp .eq 16, 3) := by decide +kernel
theorem dX1_readFactor_101 : decode cX1_readFactor 101 = .ok (.iconst (-1), 1) := by decide +kernel
theorem dX1_readFactor_102 : decode cX1_readFactor 102 = .ok (.ireturn, 1) := by decide +kernel
theorem dX1_readFactor_88 : decode cX1_readFactor 88 = .ok (.aload_n 0, 1) := by decide +kernel
theorem dX1_readFactor_89 : decode cX1_readFactor 89 = .ok (.bipush 41, 2) := by decide +kernel
theorem dX1_readFactor_91 : decode cX1_readFactor 91 = .ok (.invokevirtual 63, 3) := by decide +kernel
theorem dX1_readFactor_94 : decode cX1_readFactor 94 = .ok (.ifCond .eq 7, 3) := by decide +kernel
theorem dX1_readFactor_97 : decode cX1_readFactor 97 = .ok (.iload_n 3, 1) := by decide +kernel
theorem dX1_readFactor_98 : decode cX1_readFactor 98 = .ok (.goto 4, 3) := by decide +kernel
theorem dX1_readFactor_44 : decode cX1_readFactor 44 = .ok (.invokevirtual 57, 3) := by decide +kernel
set_option maxRecDepth 20000 in
theorem ggX1_readFactor_X1_readFactor : GoodIn wsX1_readFactor wsX1_readFactor := goodIn_ca (goodIn_r _ [0, 1, 2, 3, 4, 5, 6, 7, 8, 9, 10, 11, 12, 13, 14, 15, 16, 17, 18, 19, 20, 21, 22, 23, 24, 25, 26, 27, 28, 29, 30, 31, 32, 33, 34, 35, 36, 37, 38, 39, 40, 41, 42, 43, 44, 45, 46, 47, 48, 49, 50, 51, 52, 53, 54, 55, 56, 57, 58, 59, 60, 61, 62, 63, 64, 65, 66, 67, 68, 69, 70, 71, 72, 73, 74, 75, 76, 77, 78, 79, 80, 81, 82, 83, 84, 85, 86] (by decide +kernel) (by decide +kernel)) (goodIn_sub (fun _ h => List.mem_cons_of_mem _ (List.mem_append_right _ h)) (by decide +kernel))
set_option maxRecDepth 20000 in
theorem gX1_readFactor_X1_readFactor : GoodIn wsX1_readFactor (wsV RX1 57 RX1 yX1_readFactor wsX1_readFactor) := goodIn_app (goodIn_of _ (by decide +kernel)) ggX1_readFactor_X1_readFactor
theorem dX1_readFactor_47 : decode cX1_readFactor 47 = .ok (.istore_n 3, 1) := by decide +kernel
theorem dX1_readFactor_48 : decode cX1_readFactor 48 = .ok (.iload_n 3, 1) := by decide +kernel
theorem dX1_readFactor_49 : decode cX1_readFactor 49 = .ok (.iconst (-1), 1) := by decide +kernel
theorem dX1_readFactor_50 : decode cX1_readFactor 50 = .ok (.if_icmp .ne 7, 3) := by decide +kernel
theorem dX1_readFactor_57 : decode cX1_readFactor 57 = .ok (.aload_n 0, 1) := by decide +kernel
theorem dX1_readFactor_58 : decode cX1_readFactor 58 = .ok (.iconst 3, 1) := by decide +kernel
theorem dX1_readFactor_59 : decode cX1_readFactor 59 = .ok (.iload_n 2, 1) := by decide +kernel
theorem dX1_readFactor_60 : decode cX1_readFactor 60 = .ok (.iload_n 3, 1) := by decide +kernel
theorem dX1_readFactor_61 : decode cX1_readFactor 61 = .ok (.iconst (-1), 1) := by decide +kernel
theorem dX1_readFactor_62 : decode cX1_readFactor 62 = .ok (.invokevirtual 66, 3) := by decide +kernel
theorem dX1_readFactor_65 : decode cX1_readFactor 65 = .ok (.ireturn, 1) := by decide +kernel
theorem dX1_readFactor_53 : decode cX1_readFactor 53 = .ok (.iconst (-1), 1) := by decide +kernel
theorem dX1_readFactor_54 : decode cX1_readFactor 54 = .ok (.goto 11, 3) := by decide +kernel
set_option maxHeartbeats 2000000 in
set_option maxRecDepth 20000 in
theorem ct_X1_readFactor_s (l : Launch) (D : va_G) (dA : Nat → ClassId) (hst : l.stackTraces = false) (M : jM) (t sg : Nat) (c : Nat → Int32) (L : Nat) (s : eSt) (hR : jEr M t sg c L s) (o : Nat) (ho : o ≤ 8) (d f0 l0 : Nat) (hf : 30 ≤ f0) (hl : 600 ≤ l0) (ho8 : o < 8) (hG : eCT l D dA yX1_readFactor wsX1_readFactor f0 l0 t sg c L (o + 1) (eFac c L d)) (hS : eCT l D dA yX1_readSum wsX1_readSum (f0 + 40) (l0 + 400) t sg c L (o + 1) (eS c L (eFac c L d))) : jCT l D dA yX1_readFactor wsX1_readFactor (f0 + 50) (l0 + 500) (0) (0) 1 [.ref (t), .int (nI (o))] M (jPo (oI (eFac c L (d + 1) s).1) (jES M t ((eFac c L (d + 1) s).2))) := by
  refine jBody (cc := cX1_readFactor) (nL := 4) (rt := (some .int)) (ini := false) (by decide) rfl hst (Nat.le_of_ble_eq_true rfl) (by simp [Value.category]) (by intro h9; first | exact absurd h9 (by decide) | rfl) ?_
  show J l D dA RX1 cX1_readFactor wsX1_readFactor 4 false (some .int) [] (f0 + 50) (l0 + 500) (jF D dA (jn M) (jPo (oI (eFac c L (d + 1) s).1) (jES M t ((eFac c L (d + 1) s).2))) 1) (jn M) (0) (0) (M) 0 [.ref (t), .int (nI (o)), .float 0, .float 0] []
  obtain ⟨⟨f1, f2, f3, f4, f5, f6, f7, f8, f9, f10, f11, f12⟩, g2, g3, g4, g5, g6⟩ := id hR
  refine J_mem (M' := jES M t s) (by exact hR.eq) ?_
  refine J_aload_n (t) dX1_readFactor_0 rfl rfl ?_
  refine J_calli0 (jrunU (As := []) (ct_X6_position_5 l D dA hst (jES M t s) t sg c L (s.1) ((hR.es (s' := s) hR.ok).1)) dX1_readFactor_1 yY_X6_position gX1_readFactor_X6_position_u60X1 rfl cs5 f1 f2 rfl ⟨by omega, by omega⟩ ⟨Nat.zero_le _, Nat.zero_le _⟩ rfl (Nat.le_of_ble_eq_true rfl)) (rfl) (rfl) ?_
  refine J_istore_n (lv' := [.ref (t), .int (nI (o)), .int (nI (s.1)), .float 0]) dX1_readFactor_4 rfl (by decide) rfl rfl ?_
  refine J_aload_n (t) dX1_readFactor_5 rfl rfl ?_
  refine J_bipush (x := 33) dX1_readFactor_6 (by decide) ?_
  refine J_calli0 (jrunU (As := [.int (33)]) (ct_X6_isAt_5 l D dA hst (jES M t s) t sg c L (s.1) ((hR.es (s' := s) hR.ok).1) ((33))) dX1_readFactor_8 yY_X6_isAt gX1_readFactor_X6_isAt_u49X1 rfl cs5 f1 f2 rfl ⟨by omega, by omega⟩ ⟨Nat.zero_le _, Nat.zero_le _⟩ rfl (Nat.le_of_ble_eq_true rfl)) (rfl) (rfl) ?_
  refine J_if_ne dX1_readFactor_11 (tgt := 23) (by decide) (fun c11 => ?_) (fun c11 => ?_)
  · have c11 := jb0F c11
    refine J_iload_n dX1_readFactor_23 rfl rfl ?_
    refine J_bipush (x := 8) dX1_readFactor_24 (by decide) ?_
    refine J_icmp_lt dX1_readFactor_26 (tgt := 31) (by decide) (fun c26 => ?_) (fun c26 => ?_)
    · have c26 := jltT (a := o) (b := 8) (by omega) (by omega) c26
      refine J_aload_n (t) dX1_readFactor_31 rfl rfl ?_
      refine J_bipush (x := 33) dX1_readFactor_32 (by decide) ?_
      refine J_calli0 (jrunU (As := [.int (33)]) (ct_X6_takes_5 l D dA hst (jES M t s) t sg c L (s.1) ((hR.es (s' := s) hR.ok).1) ((33))) dX1_readFactor_34 yY_X6_takes gX1_readFactor_X6_takes_u63X1 rfl cs5 f1 f2 rfl ⟨by omega, by omega⟩ ⟨Nat.zero_le _, Nat.zero_le _⟩ rfl (Nat.le_of_ble_eq_true rfl)) (rfl) (rfl) ?_
      refine J_mem (M' := jES M t ((tTk c L (s.1) ((33)), s.2))) (by exact jES_2 _ _ _ _) ?_
      refine J_if_eq dX1_readFactor_37 (tgt := 66) (by decide) (fun c37 => ?_) (fun c37 => ?_)
      · have c37 := jb0T c37
        refine J_mem (M' := jES M t s) (congrArg (fun q => jES M t (q, s.2)) (tTk_f c37)) ?_
        refine J_aload_n (t) dX1_readFactor_66 rfl rfl ?_
        refine J_bipush (x := 40) dX1_readFactor_67 (by decide) ?_
        refine J_calli0 (jrunU (As := [.int (40)]) (ct_X6_takes_5 l D dA hst (jES M t s) t sg c L (s.1) ((hR.es (s' := s) hR.ok).1) ((40))) dX1_readFactor_69 yY_X6_takes gX1_readFactor_X6_takes_u63X1 rfl cs5 f1 f2 rfl ⟨by omega, by omega⟩ ⟨Nat.zero_le _, Nat.zero_le _⟩ rfl (Nat.le_of_ble_eq_true rfl)) (rfl) (rfl) ?_
        refine J_mem (M' := jES M t ((tTk c L (s.1) ((40)), s.2))) (by exact jES_2 _ _ _ _) ?_
        refine J_if_eq dX1_readFactor_72 (tgt := 103) (by decide) (fun c72 => ?_) (fun c72 => ?_)
        · have c72 := jb0T c72
          refine J_mem (M' := jES M t s) (congrArg (fun q => jES M t (q, s.2)) (tTk_f c72)) ?_
          refine J_aload_n (t) dX1_readFactor_103 rfl rfl ?_
          refine J_calli0 (jrunU (As := []) (ct_X6_takeNumber_5 l D dA hst (jES M t s) t sg c L (s.1) ((hR.es (s' := s) hR.ok).1)) dX1_readFactor_104 yY_X6_takeNumber gX1_readFactor_X6_takeNumber_u70X1 rfl cs5 f1 f2 rfl ⟨by omega, by omega⟩ ⟨Nat.zero_le _, Nat.zero_le _⟩ rfl (Nat.le_of_ble_eq_true rfl)) (rfl) (rfl) ?_
          refine J_mem (M' := jES M t (((tNum c L (s.1)).2, s.2))) (by exact jES_2 _ _ _ _) ?_
          refine J_istore_n (lv' := [.ref (t), .int (nI (o)), .int (nI (s.1)), .int ((tNum c L (s.1)).1)]) dX1_readFactor_107 rfl (by decide) rfl rfl ?_
          refine J_iload_n dX1_readFactor_108 rfl rfl ?_
          refine J_iconst (x := (-1)) dX1_readFactor_109 (by decide) ?_
          refine J_icmp_ne dX1_readFactor_110 (tgt := 117) (by decide) (fun c110 => ?_) (fun c110 => ?_)
          · refine J_aload_n (t) dX1_readFactor_117 rfl rfl ?_
            refine J_iconst (x := 4) dX1_readFactor_118 (by decide) ?_
            refine J_iload_n dX1_readFactor_119 rfl rfl ?_
            refine J_iload_n dX1_readFactor_120 rfl rfl ?_
            refine J_iconst (x := (-1)) dX1_readFactor_121 (by decide) ?_
            refine J_calli0 (jrunV (As := [.int (4), .int (nI (s.1)), .int ((tNum c L (s.1)).1), .int (-1)]) (ct_X1_addNode l D dA hst (jES M t (((tNum c L (s.1)).2, s.2))) t sg c L (((tNum c L (s.1)).2, s.2)) ((hR.es (s' := ((tNum c L (s.1)).2, s.2)) ⟨(tNum_le (hR.ok).1), (hR.ok).2⟩)) ((4)) (nI (s.1)) (((tNum c L (s.1)).1)) ((-1))) dX1_readFactor_122 yY_X1_addNode gX1_readFactor_X1_addNode rfl cs5 f1 f2 rfl ⟨by omega, by omega⟩ ⟨Nat.zero_le _, Nat.zero_le _⟩ rfl (Nat.le_of_ble_eq_true rfl)) (rfl) (jn_ES _ _ _) ?_
            refine J_mem (M' := jES M t ((eAdd L ((4)) (nI (s.1)) (((tNum c L (s.1)).1)) ((-1)) (((tNum c L (s.1)).2, s.2))).2)) (by exact jES_ES _ _ _ _) ?_
            exact J_iret (ty := .int) dX1_readFactor_125 rfl (rfl) ⟨(by first | (exact Bool.noConfusion (Eq.trans (Eq.symm ‹tIsAt c L s.1 33 = true›) ‹tIsAt c L s.1 33 = false›)) | (exact Bool.noConfusion (Eq.trans (Eq.symm ‹tIsAt c L s.1 40 = true›) ‹tIsAt c L s.1 40 = false›)) | (simp only [eFac, eNum, *, reduceIte, Bool.false_eq_true]; done) | fail "f"), (by first | (exact Bool.noConfusion (Eq.trans (Eq.symm ‹tIsAt c L s.1 33 = true›) ‹tIsAt c L s.1 33 = false›)) | (exact Bool.noConfusion (Eq.trans (Eq.symm ‹tIsAt c L s.1 40 = true›) ‹tIsAt c L s.1 40 = false›)) | (simp only [eFac, eNum, *, reduceIte, Bool.false_eq_true]; done) | fail "f")⟩
          · refine J_iconst (x := (-1)) dX1_readFactor_113 (by decide) ?_
            refine J_goto (tgt := 125) dX1_readFactor_114 (by decide) ?_
            exact J_iret (ty := .int) dX1_readFactor_125 rfl (rfl) ⟨(by first | (exact Bool.noConfusion (Eq.trans (Eq.symm ‹tIsAt c L s.1 33 = true›) ‹tIsAt c L s.1 33 = false›)) | (exact Bool.noConfusion (Eq.trans (Eq.symm ‹tIsAt c L s.1 40 = true›) ‹tIsAt c L s.1 40 = false›)) | (simp only [eFac, eNum, *, reduceIte, Bool.false_eq_true]; done) | fail "f"), (by first | (exact Bool.noConfusion (Eq.trans (Eq.symm ‹tIsAt c L s.1 33 = true›) ‹tIsAt c L s.1 33 = false›)) | (exact Bool.noConfusion (Eq.trans (Eq.symm ‹tIsAt c L s.1 40 = true›) ‹tIsAt c L s.1 40 = false›)) | (simp only [eFac, eNum, *, reduceIte, Bool.false_eq_true]; done) | fail "f")⟩
        · have c72 := jb0F c72
          refine J_mem (M' := jES M t ((s.1 + 1, s.2))) (congrArg (fun q => jES M t (q, s.2)) (tTk_t c72)) ?_
          refine J_aload_n (t) dX1_readFactor_75 rfl rfl ?_
          refine J_iload_n dX1_readFactor_76 rfl rfl ?_
          refine J_iconst (x := 1) dX1_readFactor_77 (by decide) ?_
          refine J_iadd dX1_readFactor_78 ?_
          refine J_topi (y := nI (o + 1)) (nI_add (o) (1)) ?_
          refine J_calli0 (jrunV (As := [.int (nI (o + 1))]) (hS.2 (jES M t ((s.1 + 1, s.2))) ((s.1 + 1, s.2)) ((hR.es (s' := (s.1 + 1, s.2)) ⟨tIsAt_lt c72, (hR.ok).2⟩))) dX1_readFactor_79 yY_X1_readSum gX1_readFactor_X1_readSum rfl cs5 f1 f2 rfl ⟨by omega, by omega⟩ ⟨Nat.zero_le _, Nat.zero_le _⟩ rfl (Nat.le_of_ble_eq_true rfl)) (rfl) (jn_ES _ _ _) ?_
          refine J_mem (M' := jES M t (((eS c L (eFac c L d)) ((s.1 + 1, s.2))).2)) (by exact jES_ES _ _ _ _) ?_
          refine J_istore_n (lv' := [.ref (t), .int (nI (o)), .int (nI (s.1)), .int (((eS c L (eFac c L d)) ((s.1 + 1, s.2))).1)]) dX1_readFactor_82 rfl (by decide) rfl rfl ?_
          refine J_iload_n dX1_readFactor_83 rfl rfl ?_
          refine J_iconst (x := (-1)) dX1_readFactor_84 (by decide) ?_
          refine J_icmp_eq dX1_readFactor_85 (tgt := 101) (by decide) (fun c85 => ?_) (fun c85 => ?_)
          · refine J_iconst (x := (-1)) dX1_readFactor_101 (by decide) ?_
            exact J_iret (ty := .int) dX1_readFactor_102 rfl (rfl) ⟨(by first | (exact Bool.noConfusion (Eq.trans (Eq.symm ‹tIsAt c L s.1 33 = true›) ‹tIsAt c L s.1 33 = false›)) | (exact Bool.noConfusion (Eq.trans (Eq.symm ‹tIsAt c L s.1 40 = true›) ‹tIsAt c L s.1 40 = false›)) | (simp only [eFac, eNum, *, reduceIte, Bool.false_eq_true]; done) | fail "f"), (by first | (exact Bool.noConfusion (Eq.trans (Eq.symm ‹tIsAt c L s.1 33 = true›) ‹tIsAt c L s.1 33 = false›)) | (exact Bool.noConfusion (Eq.trans (Eq.symm ‹tIsAt c L s.1 40 = true›) ‹tIsAt c L s.1 40 = false›)) | (simp only [eFac, eNum, *, reduceIte, Bool.false_eq_true]; done) | fail "f")⟩
          · refine J_aload_n (t) dX1_readFactor_88 rfl rfl ?_
            refine J_bipush (x := 41) dX1_readFactor_89 (by decide) ?_
            refine J_calli0 (jrunU (As := [.int (41)]) (ct_X6_takes_5 l D dA hst (jES M t (((eS c L (eFac c L d)) ((s.1 + 1, s.2))).2)) t sg c L ((((eS c L (eFac c L d)) ((s.1 + 1, s.2))).2).1) ((hR.es (s' := ((eS c L (eFac c L d)) ((s.1 + 1, s.2))).2) (hS.1 _ ⟨tIsAt_lt c72, (hR.ok).2⟩)).1) ((41))) dX1_readFactor_91 yY_X6_takes gX1_readFactor_X6_takes_u63X1 rfl cs5 f1 f2 rfl ⟨by omega, by omega⟩ ⟨Nat.zero_le _, Nat.zero_le _⟩ rfl (Nat.le_of_ble_eq_true rfl)) (rfl) (rfl) ?_
            refine J_mem (M' := jES M t ((tTk c L ((((eS c L (eFac c L d)) ((s.1 + 1, s.2))).2).1) ((41)), (((eS c L (eFac c L d)) ((s.1 + 1, s.2))).2).2))) (by exact jES_2 _ _ _ _) ?_
            refine J_if_eq dX1_readFactor_94 (tgt := 101) (by decide) (fun c94 => ?_) (fun c94 => ?_)
            · have c94 := jb0T c94
              refine J_mem (M' := jES M t (((eS c L (eFac c L d)) ((s.1 + 1, s.2))).2)) (congrArg (fun q => jES M t (q, (((eS c L (eFac c L d)) ((s.1 + 1, s.2))).2).2)) (tTk_f c94)) ?_
              refine J_iconst (x := (-1)) dX1_readFactor_101 (by decide) ?_
              exact J_iret (ty := .int) dX1_readFactor_102 rfl (rfl) ⟨(by first | (exact Bool.noConfusion (Eq.trans (Eq.symm ‹tIsAt c L s.1 33 = true›) ‹tIsAt c L s.1 33 = false›)) | (exact Bool.noConfusion (Eq.trans (Eq.symm ‹tIsAt c L s.1 40 = true›) ‹tIsAt c L s.1 40 = false›)) | (simp only [eFac, eNum, *, reduceIte, Bool.false_eq_true]; done) | fail "f"), (by first | (exact Bool.noConfusion (Eq.trans (Eq.symm ‹tIsAt c L s.1 33 = true›) ‹tIsAt c L s.1 33 = false›)) | (exact Bool.noConfusion (Eq.trans (Eq.symm ‹tIsAt c L s.1 40 = true›) ‹tIsAt c L s.1 40 = false›)) | (simp only [eFac, eNum, *, reduceIte, Bool.false_eq_true]; done) | fail "f")⟩
            · have c94 := jb0F c94
              refine J_mem (M' := jES M t (((((eS c L (eFac c L d)) ((s.1 + 1, s.2))).2).1 + 1, (((eS c L (eFac c L d)) ((s.1 + 1, s.2))).2).2))) (congrArg (fun q => jES M t (q, (((eS c L (eFac c L d)) ((s.1 + 1, s.2))).2).2)) (tTk_t c94)) ?_
              refine J_iload_n dX1_readFactor_97 rfl rfl ?_
              refine J_goto (tgt := 102) dX1_readFactor_98 (by decide) ?_
              exact J_iret (ty := .int) dX1_readFactor_102 rfl (rfl) ⟨(by first | (exact Bool.noConfusion (Eq.trans (Eq.symm ‹tIsAt c L s.1 33 = true›) ‹tIsAt c L s.1 33 = false›)) | (exact Bool.noConfusion (Eq.trans (Eq.symm ‹tIsAt c L s.1 40 = true›) ‹tIsAt c L s.1 40 = false›)) | (simp only [eFac, eNum, *, reduceIte, Bool.false_eq_true]; done) | fail "f"), (by first | (exact Bool.noConfusion (Eq.trans (Eq.symm ‹tIsAt c L s.1 33 = true›) ‹tIsAt c L s.1 33 = false›)) | (exact Bool.noConfusion (Eq.trans (Eq.symm ‹tIsAt c L s.1 40 = true›) ‹tIsAt c L s.1 40 = false›)) | (simp only [eFac, eNum, *, reduceIte, Bool.false_eq_true]; done) | fail "f")⟩
      · have c37 := jb0F c37
        refine J_mem (M' := jES M t ((s.1 + 1, s.2))) (congrArg (fun q => jES M t (q, s.2)) (tTk_t c37)) ?_
        refine J_aload_n (t) dX1_readFactor_40 rfl rfl ?_
        refine J_iload_n dX1_readFactor_41 rfl rfl ?_
        refine J_iconst (x := 1) dX1_readFactor_42 (by decide) ?_
        refine J_iadd dX1_readFactor_43 ?_
        refine J_topi (y := nI (o + 1)) (nI_add (o) (1)) ?_
        refine J_calli0 (jrunV (As := [.int (nI (o + 1))]) (hG.2 (jES M t ((s.1 + 1, s.2))) ((s.1 + 1, s.2)) ((hR.es (s' := (s.1 + 1, s.2)) ⟨tIsAt_lt c37, (hR.ok).2⟩))) dX1_readFactor_44 yY_X1_readFactor gX1_readFactor_X1_readFactor rfl cs5 f1 f2 rfl ⟨by omega, by omega⟩ ⟨Nat.zero_le _, Nat.zero_le _⟩ rfl (Nat.le_of_ble_eq_true rfl)) (rfl) (jn_ES _ _ _) ?_
        refine J_mem (M' := jES M t (((eFac c L d) ((s.1 + 1, s.2))).2)) (by exact jES_ES _ _ _ _) ?_
        refine J_istore_n (lv' := [.ref (t), .int (nI (o)), .int (nI (s.1)), .int (((eFac c L d) ((s.1 + 1, s.2))).1)]) dX1_readFactor_47 rfl (by decide) rfl rfl ?_
        refine J_iload_n dX1_readFactor_48 rfl rfl ?_
        refine J_iconst (x := (-1)) dX1_readFactor_49 (by decide) ?_
        refine J_icmp_ne dX1_readFactor_50 (tgt := 57) (by decide) (fun c50 => ?_) (fun c50 => ?_)
        · refine J_aload_n (t) dX1_readFactor_57 rfl rfl ?_
          refine J_iconst (x := 3) dX1_readFactor_58 (by decide) ?_
          refine J_iload_n dX1_readFactor_59 rfl rfl ?_
          refine J_iload_n dX1_readFactor_60 rfl rfl ?_
          refine J_iconst (x := (-1)) dX1_readFactor_61 (by decide) ?_
          refine J_calli0 (jrunV (As := [.int (3), .int (nI (s.1)), .int (((eFac c L d) ((s.1 + 1, s.2))).1), .int (-1)]) (ct_X1_addNode l D dA hst (jES M t (((eFac c L d) ((s.1 + 1, s.2))).2)) t sg c L (((eFac c L d) ((s.1 + 1, s.2))).2) ((hR.es (s' := ((eFac c L d) ((s.1 + 1, s.2))).2) (hG.1 _ ⟨tIsAt_lt c37, (hR.ok).2⟩))) ((3)) (nI (s.1)) ((((eFac c L d) ((s.1 + 1, s.2))).1)) ((-1))) dX1_readFactor_62 yY_X1_addNode gX1_readFactor_X1_addNode rfl cs5 f1 f2 rfl ⟨by omega, by omega⟩ ⟨Nat.zero_le _, Nat.zero_le _⟩ rfl (Nat.le_of_ble_eq_true rfl)) (rfl) (jn_ES _ _ _) ?_
          refine J_mem (M' := jES M t ((eAdd L ((3)) (nI (s.1)) ((((eFac c L d) ((s.1 + 1, s.2))).1)) ((-1)) (((eFac c L d) ((s.1 + 1, s.2))).2)).2)) (by exact jES_ES _ _ _ _) ?_
          exact J_iret (ty := .int) dX1_readFactor_65 rfl (rfl) ⟨(by first | (exact Bool.noConfusion (Eq.trans (Eq.symm ‹tIsAt c L s.1 33 = true›) ‹tIsAt c L s.1 33 = false›)) | (exact Bool.noConfusion (Eq.trans (Eq.symm ‹tIsAt c L s.1 40 = true›) ‹tIsAt c L s.1 40 = false›)) | (simp only [eFac, eNum, *, reduceIte, Bool.false_eq_true]; done) | fail "f"), (by first | (exact Bool.noConfusion (Eq.trans (Eq.symm ‹tIsAt c L s.1 33 = true›) ‹tIsAt c L s.1 33 = false›)) | (exact Bool.noConfusion (Eq.trans (Eq.symm ‹tIsAt c L s.1 40 = true›) ‹tIsAt c L s.1 40 = false›)) | (simp only [eFac, eNum, *, reduceIte, Bool.false_eq_true]; done) | fail "f")⟩
        · refine J_iconst (x := (-1)) dX1_readFactor_53 (by decide) ?_
          refine J_goto (tgt := 65) dX1_readFactor_54 (by decide) ?_
          exact J_iret (ty := .int) dX1_readFactor_65 rfl (rfl) ⟨(by first | (exact Bool.noConfusion (Eq.trans (Eq.symm ‹tIsAt c L s.1 33 = true›) ‹tIsAt c L s.1 33 = false›)) | (exact Bool.noConfusion (Eq.trans (Eq.symm ‹tIsAt c L s.1 40 = true›) ‹tIsAt c L s.1 40 = false›)) | (simp only [eFac, eNum, *, reduceIte, Bool.false_eq_true]; done) | fail "f"), (by first | (exact Bool.noConfusion (Eq.trans (Eq.symm ‹tIsAt c L s.1 33 = true›) ‹tIsAt c L s.1 33 = false›)) | (exact Bool.noConfusion (Eq.trans (Eq.symm ‹tIsAt c L s.1 40 = true›) ‹tIsAt c L s.1 40 = false›)) | (simp only [eFac, eNum, *, reduceIte, Bool.false_eq_true]; done) | fail "f")⟩
    · have c26 := jltF (a := o) (b := 8) (by omega) (by omega) c26
      exact absurd c26 (by omega)
  · have c11 := jb0T c11
    refine J_aload_n (t) dX1_readFactor_14 rfl rfl ?_
    refine J_bipush (x := 40) dX1_readFactor_15 (by decide) ?_
    refine J_calli0 (jrunU (As := [.int (40)]) (ct_X6_isAt_5 l D dA hst (jES M t s) t sg c L (s.1) ((hR.es (s' := s) hR.ok).1) ((40))) dX1_readFactor_17 yY_X6_isAt gX1_readFactor_X6_isAt_u49X1 rfl cs5 f1 f2 rfl ⟨by omega, by omega⟩ ⟨Nat.zero_le _, Nat.zero_le _⟩ rfl (Nat.le_of_ble_eq_true rfl)) (rfl) (rfl) ?_
    refine J_if_eq dX1_readFactor_20 (tgt := 31) (by decide) (fun c20 => ?_) (fun c20 => ?_)
    · have c20 := jb0T c20
      refine J_aload_n (t) dX1_readFactor_31 rfl rfl ?_
      refine J_bipush (x := 33) dX1_readFactor_32 (by decide) ?_
      refine J_calli0 (jrunU (As := [.int (33)]) (ct_X6_takes_5 l D dA hst (jES M t s) t sg c L (s.1) ((hR.es (s' := s) hR.ok).1) ((33))) dX1_readFactor_34 yY_X6_takes gX1_readFactor_X6_takes_u63X1 rfl cs5 f1 f2 rfl ⟨by omega, by omega⟩ ⟨Nat.zero_le _, Nat.zero_le _⟩ rfl (Nat.le_of_ble_eq_true rfl)) (rfl) (rfl) ?_
      refine J_mem (M' := jES M t ((tTk c L (s.1) ((33)), s.2))) (by exact jES_2 _ _ _ _) ?_
      refine J_if_eq dX1_readFactor_37 (tgt := 66) (by decide) (fun c37 => ?_) (fun c37 => ?_)
      · have c37 := jb0T c37
        refine J_mem (M' := jES M t s) (congrArg (fun q => jES M t (q, s.2)) (tTk_f c37)) ?_
        refine J_aload_n (t) dX1_readFactor_66 rfl rfl ?_
        refine J_bipush (x := 40) dX1_readFactor_67 (by decide) ?_
        refine J_calli0 (jrunU (As := [.int (40)]) (ct_X6_takes_5 l D dA hst (jES M t s) t sg c L (s.1) ((hR.es (s' := s) hR.ok).1) ((40))) dX1_readFactor_69 yY_X6_takes gX1_readFactor_X6_takes_u63X1 rfl cs5 f1 f2 rfl ⟨by omega, by omega⟩ ⟨Nat.zero_le _, Nat.zero_le _⟩ rfl (Nat.le_of_ble_eq_true rfl)) (rfl) (rfl) ?_
        refine J_mem (M' := jES M t ((tTk c L (s.1) ((40)), s.2))) (by exact jES_2 _ _ _ _) ?_
        refine J_if_eq dX1_readFactor_72 (tgt := 103) (by decide) (fun c72 => ?_) (fun c72 => ?_)
        · have c72 := jb0T c72
          refine J_mem (M' := jES M t s) (congrArg (fun q => jES M t (q, s.2)) (tTk_f c72)) ?_
          refine J_aload_n (t) dX1_readFactor_103 rfl rfl ?_
          refine J_calli0 (jrunU (As := []) (ct_X6_takeNumber_5 l D dA hst (jES M t s) t sg c L (s.1) ((hR.es (s' := s) hR.ok).1)) dX1_readFactor_104 yY_X6_takeNumber gX1_readFactor_X6_takeNumber_u70X1 rfl cs5 f1 f2 rfl ⟨by omega, by omega⟩ ⟨Nat.zero_le _, Nat.zero_le _⟩ rfl (Nat.le_of_ble_eq_true rfl)) (rfl) (rfl) ?_
          refine J_mem (M' := jES M t (((tNum c L (s.1)).2, s.2))) (by exact jES_2 _ _ _ _) ?_
          refine J_istore_n (lv' := [.ref (t), .int (nI (o)), .int (nI (s.1)), .int ((tNum c L (s.1)).1)]) dX1_readFactor_107 rfl (by decide) rfl rfl ?_
          refine J_iload_n dX1_readFactor_108 rfl rfl ?_
          refine J_iconst (x := (-1)) dX1_readFactor_109 (by decide) ?_
          refine J_icmp_ne dX1_readFactor_110 (tgt := 117) (by decide) (fun c110 => ?_) (fun c110 => ?_)
          · refine J_aload_n (t) dX1_readFactor_117 rfl rfl ?_
            refine J_iconst (x := 4) dX1_readFactor_118 (by decide) ?_
            refine J_iload_n dX1_readFactor_119 rfl rfl ?_
            refine J_iload_n dX1_readFactor_120 rfl rfl ?_
            refine J_iconst (x := (-1)) dX1_readFactor_121 (by decide) ?_
            refine J_calli0 (jrunV (As := [.int (4), .int (nI (s.1)), .int ((tNum c L (s.1)).1), .int (-1)]) (ct_X1_addNode l D dA hst (jES M t (((tNum c L (s.1)).2, s.2))) t sg c L (((tNum c L (s.1)).2, s.2)) ((hR.es (s' := ((tNum c L (s.1)).2, s.2)) ⟨(tNum_le (hR.ok).1), (hR.ok).2⟩)) ((4)) (nI (s.1)) (((tNum c L (s.1)).1)) ((-1))) dX1_readFactor_122 yY_X1_addNode gX1_readFactor_X1_addNode rfl cs5 f1 f2 rfl ⟨by omega, by omega⟩ ⟨Nat.zero_le _, Nat.zero_le _⟩ rfl (Nat.le_of_ble_eq_true rfl)) (rfl) (jn_ES _ _ _) ?_
            refine J_mem (M' := jES M t ((eAdd L ((4)) (nI (s.1)) (((tNum c L (s.1)).1)) ((-1)) (((tNum c L (s.1)).2, s.2))).2)) (by exact jES_ES _ _ _ _) ?_
            exact J_iret (ty := .int) dX1_readFactor_125 rfl (rfl) ⟨(by first | (exact Bool.noConfusion (Eq.trans (Eq.symm ‹tIsAt c L s.1 33 = true›) ‹tIsAt c L s.1 33 = false›)) | (exact Bool.noConfusion (Eq.trans (Eq.symm ‹tIsAt c L s.1 40 = true›) ‹tIsAt c L s.1 40 = false›)) | (simp only [eFac, eNum, *, reduceIte, Bool.false_eq_true]; done) | fail "f"), (by first | (exact Bool.noConfusion (Eq.trans (Eq.symm ‹tIsAt c L s.1 33 = true›) ‹tIsAt c L s.1 33 = false›)) | (exact Bool.noConfusion (Eq.trans (Eq.symm ‹tIsAt c L s.1 40 = true›) ‹tIsAt c L s.1 40 = false›)) | (simp only [eFac, eNum, *, reduceIte, Bool.false_eq_true]; done) | fail "f")⟩
          · refine J_iconst (x := (-1)) dX1_readFactor_113 (by decide) ?_
            refine J_goto (tgt := 125) dX1_readFactor_114 (by decide) ?_
            exact J_iret (ty := .int) dX1_readFactor_125 rfl (rfl) ⟨(by first | (exact Bool.noConfusion (Eq.trans (Eq.symm ‹tIsAt c L s.1 33 = true›) ‹tIsAt c L s.1 33 = false›)) | (exact Bool.noConfusion (Eq.trans (Eq.symm ‹tIsAt c L s.1 40 = true›) ‹tIsAt c L s.1 40 = false›)) | (simp only [eFac, eNum, *, reduceIte, Bool.false_eq_true]; done) | fail "f"), (by first | (exact Bool.noConfusion (Eq.trans (Eq.symm ‹tIsAt c L s.1 33 = true›) ‹tIsAt c L s.1 33 = false›)) | (exact Bool.noConfusion (Eq.trans (Eq.symm ‹tIsAt c L s.1 40 = true›) ‹tIsAt c L s.1 40 = false›)) | (simp only [eFac, eNum, *, reduceIte, Bool.false_eq_true]; done) | fail "f")⟩
        · have c72 := jb0F c72
          refine J_mem (M' := jES M t ((s.1 + 1, s.2))) (congrArg (fun q => jES M t (q, s.2)) (tTk_t c72)) ?_
          refine J_aload_n (t) dX1_readFactor_75 rfl rfl ?_
          refine J_iload_n dX1_readFactor_76 rfl rfl ?_
          refine J_iconst (x := 1) dX1_readFactor_77 (by decide) ?_
          refine J_iadd dX1_readFactor_78 ?_
          refine J_topi (y := nI (o + 1)) (nI_add (o) (1)) ?_
          refine J_calli0 (jrunV (As := [.int (nI (o + 1))]) (hS.2 (jES M t ((s.1 + 1, s.2))) ((s.1 + 1, s.2)) ((hR.es (s' := (s.1 + 1, s.2)) ⟨tIsAt_lt c72, (hR.ok).2⟩))) dX1_readFactor_79 yY_X1_readSum gX1_readFactor_X1_readSum rfl cs5 f1 f2 rfl ⟨by omega, by omega⟩ ⟨Nat.zero_le _, Nat.zero_le _⟩ rfl (Nat.le_of_ble_eq_true rfl)) (rfl) (jn_ES _ _ _) ?_
          refine J_mem (M' := jES M t (((eS c L (eFac c L d)) ((s.1 + 1, s.2))).2)) (by exact jES_ES _ _ _ _) ?_
          refine J_istore_n (lv' := [.ref (t), .int (nI (o)), .int (nI (s.1)), .int (((eS c L (eFac c L d)) ((s.1 + 1, s.2))).1)]) dX1_readFactor_82 rfl (by decide) rfl rfl ?_
          refine J_iload_n dX1_readFactor_83 rfl rfl ?_
          refine J_iconst (x := (-1)) dX1_readFactor_84 (by decide) ?_
          refine J_icmp_eq dX1_readFactor_85 (tgt := 101) (by decide) (fun c85 => ?_) (fun c85 => ?_)
          · refine J_iconst (x := (-1)) dX1_readFactor_101 (by decide) ?_
            exact J_iret (ty := .int) dX1_readFactor_102 rfl (rfl) ⟨(by first | (exact Bool.noConfusion (Eq.trans (Eq.symm ‹tIsAt c L s.1 33 = true›) ‹tIsAt c L s.1 33 = false›)) | (exact Bool.noConfusion (Eq.trans (Eq.symm ‹tIsAt c L s.1 40 = true›) ‹tIsAt c L s.1 40 = false›)) | (simp only [eFac, eNum, *, reduceIte, Bool.false_eq_true]; done) | fail "f"), (by first | (exact Bool.noConfusion (Eq.trans (Eq.symm ‹tIsAt c L s.1 33 = true›) ‹tIsAt c L s.1 33 = false›)) | (exact Bool.noConfusion (Eq.trans (Eq.symm ‹tIsAt c L s.1 40 = true›) ‹tIsAt c L s.1 40 = false›)) | (simp only [eFac, eNum, *, reduceIte, Bool.false_eq_true]; done) | fail "f")⟩
          · refine J_aload_n (t) dX1_readFactor_88 rfl rfl ?_
            refine J_bipush (x := 41) dX1_readFactor_89 (by decide) ?_
            refine J_calli0 (jrunU (As := [.int (41)]) (ct_X6_takes_5 l D dA hst (jES M t (((eS c L (eFac c L d)) ((s.1 + 1, s.2))).2)) t sg c L ((((eS c L (eFac c L d)) ((s.1 + 1, s.2))).2).1) ((hR.es (s' := ((eS c L (eFac c L d)) ((s.1 + 1, s.2))).2) (hS.1 _ ⟨tIsAt_lt c72, (hR.ok).2⟩)).1) ((41))) dX1_readFactor_91 yY_X6_takes gX1_readFactor_X6_takes_u63X1 rfl cs5 f1 f2 rfl ⟨by omega, by omega⟩ ⟨Nat.zero_le _, Nat.zero_le _⟩ rfl (Nat.le_of_ble_eq_true rfl)) (rfl) (rfl) ?_
            refine J_mem (M' := jES M t ((tTk c L ((((eS c L (eFac c L d)) ((s.1 + 1, s.2))).2).1) ((41)), (((eS c L (eFac c L d)) ((s.1 + 1, s.2))).2).2))) (by exact jES_2 _ _ _ _) ?_
            refine J_if_eq dX1_readFactor_94 (tgt := 101) (by decide) (fun c94 => ?_) (fun c94 => ?_)
            · have c94 := jb0T c94
              refine J_mem (M' := jES M t (((eS c L (eFac c L d)) ((s.1 + 1, s.2))).2)) (congrArg (fun q => jES M t (q, (((eS c L (eFac c L d)) ((s.1 + 1, s.2))).2).2)) (tTk_f c94)) ?_
              refine J_iconst (x := (-1)) dX1_readFactor_101 (by decide) ?_
              exact J_iret (ty := .int) dX1_readFactor_102 rfl (rfl) ⟨(by first | (exact Bool.noConfusion (Eq.trans (Eq.symm ‹tIsAt c L s.1 33 = true›) ‹tIsAt c L s.1 33 = false›)) | (exact Bool.noConfusion (Eq.trans (Eq.symm ‹tIsAt c L s.1 40 = true›) ‹tIsAt c L s.1 40 = false›)) | (simp only [eFac, eNum, *, reduceIte, Bool.false_eq_true]; done) | fail "f"), (by first | (exact Bool.noConfusion (Eq.trans (Eq.symm ‹tIsAt c L s.1 33 = true›) ‹tIsAt c L s.1 33 = false›)) | (exact Bool.noConfusion (Eq.trans (Eq.symm ‹tIsAt c L s.1 40 = true›) ‹tIsAt c L s.1 40 = false›)) | (simp only [eFac, eNum, *, reduceIte, Bool.false_eq_true]; done) | fail "f")⟩
            · have c94 := jb0F c94
              refine J_mem (M' := jES M t (((((eS c L (eFac c L d)) ((s.1 + 1, s.2))).2).1 + 1, (((eS c L (eFac c L d)) ((s.1 + 1, s.2))).2).2))) (congrArg (fun q => jES M t (q, (((eS c L (eFac c L d)) ((s.1 + 1, s.2))).2).2)) (tTk_t c94)) ?_
              refine J_iload_n dX1_readFactor_97 rfl rfl ?_
              refine J_goto (tgt := 102) dX1_readFactor_98 (by decide) ?_
              exact J_iret (ty := .int) dX1_readFactor_102 rfl (rfl) ⟨(by first | (exact Bool.noConfusion (Eq.trans (Eq.symm ‹tIsAt c L s.1 33 = true›) ‹tIsAt c L s.1 33 = false›)) | (exact Bool.noConfusion (Eq.trans (Eq.symm ‹tIsAt c L s.1 40 = true›) ‹tIsAt c L s.1 40 = false›)) | (simp only [eFac, eNum, *, reduceIte, Bool.false_eq_true]; done) | fail "f"), (by first | (exact Bool.noConfusion (Eq.trans (Eq.symm ‹tIsAt c L s.1 33 = true›) ‹tIsAt c L s.1 33 = false›)) | (exact Bool.noConfusion (Eq.trans (Eq.symm ‹tIsAt c L s.1 40 = true›) ‹tIsAt c L s.1 40 = false›)) | (simp only [eFac, eNum, *, reduceIte, Bool.false_eq_true]; done) | fail "f")⟩
      · have c37 := jb0F c37
        refine J_mem (M' := jES M t ((s.1 + 1, s.2))) (congrArg (fun q => jES M t (q, s.2)) (tTk_t c37)) ?_
        refine J_aload_n (t) dX1_readFactor_40 rfl rfl ?_
        refine J_iload_n dX1_readFactor_41 rfl rfl ?_
        refine J_iconst (x := 1) dX1_readFactor_42 (by decide) ?_
        refine J_iadd dX1_readFactor_43 ?_
        refine J_topi (y := nI (o + 1)) (nI_add (o) (1)) ?_
        refine J_calli0 (jrunV (As := [.int (nI (o + 1))]) (hG.2 (jES M t ((s.1 + 1, s.2))) ((s.1 + 1, s.2)) ((hR.es (s' := (s.1 + 1, s.2)) ⟨tIsAt_lt c37, (hR.ok).2⟩))) dX1_readFactor_44 yY_X1_readFactor gX1_readFactor_X1_readFactor rfl cs5 f1 f2 rfl ⟨by omega, by omega⟩ ⟨Nat.zero_le _, Nat.zero_le _⟩ rfl (Nat.le_of_ble_eq_true rfl)) (rfl) (jn_ES _ _ _) ?_
        refine J_mem (M' := jES M t (((eFac c L d) ((s.1 + 1, s.2))).2)) (by exact jES_ES _ _ _ _) ?_
        refine J_istore_n (lv' := [.ref (t), .int (nI (o)), .int (nI (s.1)), .int (((eFac c L d) ((s.1 + 1, s.2))).1)]) dX1_readFactor_47 rfl (by decide) rfl rfl ?_
        refine J_iload_n dX1_readFactor_48 rfl rfl ?_
        refine J_iconst (x := (-1)) dX1_readFactor_49 (by decide) ?_
        refine J_icmp_ne dX1_readFactor_50 (tgt := 57) (by decide) (fun c50 => ?_) (fun c50 => ?_)
        · refine J_aload_n (t) dX1_readFactor_57 rfl rfl ?_
          refine J_iconst (x := 3) dX1_readFactor_58 (by decide) ?_
          refine J_iload_n dX1_readFactor_59 rfl rfl ?_
          refine J_iload_n dX1_readFactor_60 rfl rfl ?_
          refine J_iconst (x := (-1)) dX1_readFactor_61 (by decide) ?_
          refine J_calli0 (jrunV (As := [.int (3), .int (nI (s.1)), .int (((eFac c L d) ((s.1 + 1, s.2))).1), .int (-1)]) (ct_X1_addNode l D dA hst (jES M t (((eFac c L d) ((s.1 + 1, s.2))).2)) t sg c L (((eFac c L d) ((s.1 + 1, s.2))).2) ((hR.es (s' := ((eFac c L d) ((s.1 + 1, s.2))).2) (hG.1 _ ⟨tIsAt_lt c37, (hR.ok).2⟩))) ((3)) (nI (s.1)) ((((eFac c L d) ((s.1 + 1, s.2))).1)) ((-1))) dX1_readFactor_62 yY_X1_addNode gX1_readFactor_X1_addNode rfl cs5 f1 f2 rfl ⟨by omega, by omega⟩ ⟨Nat.zero_le _, Nat.zero_le _⟩ rfl (Nat.le_of_ble_eq_true rfl)) (rfl) (jn_ES _ _ _) ?_
          refine J_mem (M' := jES M t ((eAdd L ((3)) (nI (s.1)) ((((eFac c L d) ((s.1 + 1, s.2))).1)) ((-1)) (((eFac c L d) ((s.1 + 1, s.2))).2)).2)) (by exact jES_ES _ _ _ _) ?_
          exact J_iret (ty := .int) dX1_readFactor_65 rfl (rfl) ⟨(by first | (exact Bool.noConfusion (Eq.trans (Eq.symm ‹tIsAt c L s.1 33 = true›) ‹tIsAt c L s.1 33 = false›)) | (exact Bool.noConfusion (Eq.trans (Eq.symm ‹tIsAt c L s.1 40 = true›) ‹tIsAt c L s.1 40 = false›)) | (simp only [eFac, eNum, *, reduceIte, Bool.false_eq_true]; done) | fail "f"), (by first | (exact Bool.noConfusion (Eq.trans (Eq.symm ‹tIsAt c L s.1 33 = true›) ‹tIsAt c L s.1 33 = false›)) | (exact Bool.noConfusion (Eq.trans (Eq.symm ‹tIsAt c L s.1 40 = true›) ‹tIsAt c L s.1 40 = false›)) | (simp only [eFac, eNum, *, reduceIte, Bool.false_eq_true]; done) | fail "f")⟩
        · refine J_iconst (x := (-1)) dX1_readFactor_53 (by decide) ?_
          refine J_goto (tgt := 65) dX1_readFactor_54 (by decide) ?_
          exact J_iret (ty := .int) dX1_readFactor_65 rfl (rfl) ⟨(by first | (exact Bool.noConfusion (Eq.trans (Eq.symm ‹tIsAt c L s.1 33 = true›) ‹tIsAt c L s.1 33 = false›)) | (exact Bool.noConfusion (Eq.trans (Eq.symm ‹tIsAt c L s.1 40 = true›) ‹tIsAt c L s.1 40 = false›)) | (simp only [eFac, eNum, *, reduceIte, Bool.false_eq_true]; done) | fail "f"), (by first | (exact Bool.noConfusion (Eq.trans (Eq.symm ‹tIsAt c L s.1 33 = true›) ‹tIsAt c L s.1 33 = false›)) | (exact Bool.noConfusion (Eq.trans (Eq.symm ‹tIsAt c L s.1 40 = true›) ‹tIsAt c L s.1 40 = false›)) | (simp only [eFac, eNum, *, reduceIte, Bool.false_eq_true]; done) | fail "f")⟩
    · have c20 := jb0F c20
      refine J_iload_n dX1_readFactor_23 rfl rfl ?_
      refine J_bipush (x := 8) dX1_readFactor_24 (by decide) ?_
      refine J_icmp_lt dX1_readFactor_26 (tgt := 31) (by decide) (fun c26 => ?_) (fun c26 => ?_)
      · have c26 := jltT (a := o) (b := 8) (by omega) (by omega) c26
        refine J_aload_n (t) dX1_readFactor_31 rfl rfl ?_
        refine J_bipush (x := 33) dX1_readFactor_32 (by decide) ?_
        refine J_calli0 (jrunU (As := [.int (33)]) (ct_X6_takes_5 l D dA hst (jES M t s) t sg c L (s.1) ((hR.es (s' := s) hR.ok).1) ((33))) dX1_readFactor_34 yY_X6_takes gX1_readFactor_X6_takes_u63X1 rfl cs5 f1 f2 rfl ⟨by omega, by omega⟩ ⟨Nat.zero_le _, Nat.zero_le _⟩ rfl (Nat.le_of_ble_eq_true rfl)) (rfl) (rfl) ?_
        refine J_mem (M' := jES M t ((tTk c L (s.1) ((33)), s.2))) (by exact jES_2 _ _ _ _) ?_
        refine J_if_eq dX1_readFactor_37 (tgt := 66) (by decide) (fun c37 => ?_) (fun c37 => ?_)
        · have c37 := jb0T c37
          refine J_mem (M' := jES M t s) (congrArg (fun q => jES M t (q, s.2)) (tTk_f c37)) ?_
          refine J_aload_n (t) dX1_readFactor_66 rfl rfl ?_
          refine J_bipush (x := 40) dX1_readFactor_67 (by decide) ?_
          refine J_calli0 (jrunU (As := [.int (40)]) (ct_X6_takes_5 l D dA hst (jES M t s) t sg c L (s.1) ((hR.es (s' := s) hR.ok).1) ((40))) dX1_readFactor_69 yY_X6_takes gX1_readFactor_X6_takes_u63X1 rfl cs5 f1 f2 rfl ⟨by omega, by omega⟩ ⟨Nat.zero_le _, Nat.zero_le _⟩ rfl (Nat.le_of_ble_eq_true rfl)) (rfl) (rfl) ?_
          refine J_mem (M' := jES M t ((tTk c L (s.1) ((40)), s.2))) (by exact jES_2 _ _ _ _) ?_
          refine J_if_eq dX1_readFactor_72 (tgt := 103) (by decide) (fun c72 => ?_) (fun c72 => ?_)
          · have c72 := jb0T c72
            refine J_mem (M' := jES M t s) (congrArg (fun q => jES M t (q, s.2)) (tTk_f c72)) ?_
            refine J_aload_n (t) dX1_readFactor_103 rfl rfl ?_
            refine J_calli0 (jrunU (As := []) (ct_X6_takeNumber_5 l D dA hst (jES M t s) t sg c L (s.1) ((hR.es (s' := s) hR.ok).1)) dX1_readFactor_104 yY_X6_takeNumber gX1_readFactor_X6_takeNumber_u70X1 rfl cs5 f1 f2 rfl ⟨by omega, by omega⟩ ⟨Nat.zero_le _, Nat.zero_le _⟩ rfl (Nat.le_of_ble_eq_true rfl)) (rfl) (rfl) ?_
            refine J_mem (M' := jES M t (((tNum c L (s.1)).2, s.2))) (by exact jES_2 _ _ _ _) ?_
            refine J_istore_n (lv' := [.ref (t), .int (nI (o)), .int (nI (s.1)), .int ((tNum c L (s.1)).1)]) dX1_readFactor_107 rfl (by decide) rfl rfl ?_
            refine J_iload_n dX1_readFactor_108 rfl rfl ?_
            refine J_iconst (x := (-1)) dX1_readFactor_109 (by decide) ?_
            refine J_icmp_ne dX1_readFactor_110 (tgt := 117) (by decide) (fun c110 => ?_) (fun c110 => ?_)
            · refine J_aload_n (t) dX1_readFactor_117 rfl rfl ?_
              refine J_iconst (x := 4) dX1_readFactor_118 (by decide) ?_
              refine J_iload_n dX1_readFactor_119 rfl rfl ?_
              refine J_iload_n dX1_readFactor_120 rfl rfl ?_
              refine J_iconst (x := (-1)) dX1_readFactor_121 (by decide) ?_
              refine J_calli0 (jrunV (As := [.int (4), .int (nI (s.1)), .int ((tNum c L (s.1)).1), .int (-1)]) (ct_X1_addNode l D dA hst (jES M t (((tNum c L (s.1)).2, s.2))) t sg c L (((tNum c L (s.1)).2, s.2)) ((hR.es (s' := ((tNum c L (s.1)).2, s.2)) ⟨(tNum_le (hR.ok).1), (hR.ok).2⟩)) ((4)) (nI (s.1)) (((tNum c L (s.1)).1)) ((-1))) dX1_readFactor_122 yY_X1_addNode gX1_readFactor_X1_addNode rfl cs5 f1 f2 rfl ⟨by omega, by omega⟩ ⟨Nat.zero_le _, Nat.zero_le _⟩ rfl (Nat.le_of_ble_eq_true rfl)) (rfl) (jn_ES _ _ _) ?_
              refine J_mem (M' := jES M t ((eAdd L ((4)) (nI (s.1)) (((tNum c L (s.1)).1)) ((-1)) (((tNum c L (s.1)).2, s.2))).2)) (by exact jES_ES _ _ _ _) ?_
              exact J_iret (ty := .int) dX1_readFactor_125 rfl (rfl) ⟨(by first | (exact Bool.noConfusion (Eq.trans (Eq.symm ‹tIsAt c L s.1 33 = true›) ‹tIsAt c L s.1 33 = false›)) | (exact Bool.noConfusion (Eq.trans (Eq.symm ‹tIsAt c L s.1 40 = true›) ‹tIsAt c L s.1 40 = false›)) | (simp only [eFac, eNum, *, reduceIte, Bool.false_eq_true]; done) | fail "f"), (by first | (exact Bool.noConfusion (Eq.trans (Eq.symm ‹tIsAt c L s.1 33 = true›) ‹tIsAt c L s.1 33 = false›)) | (exact Bool.noConfusion (Eq.trans (Eq.symm ‹tIsAt c L s.1 40 = true›) ‹tIsAt c L s.1 40 = false›)) | (simp only [eFac, eNum, *, reduceIte, Bool.false_eq_true]; done) | fail "f")⟩
            · refine J_iconst (x := (-1)) dX1_readFactor_113 (by decide) ?_
              refine J_goto (tgt := 125) dX1_readFactor_114 (by decide) ?_
              exact J_iret (ty := .int) dX1_readFactor_125 rfl (rfl) ⟨(by first | (exact Bool.noConfusion (Eq.trans (Eq.symm ‹tIsAt c L s.1 33 = true›) ‹tIsAt c L s.1 33 = false›)) | (exact Bool.noConfusion (Eq.trans (Eq.symm ‹tIsAt c L s.1 40 = true›) ‹tIsAt c L s.1 40 = false›)) | (simp only [eFac, eNum, *, reduceIte, Bool.false_eq_true]; done) | fail "f"), (by first | (exact Bool.noConfusion (Eq.trans (Eq.symm ‹tIsAt c L s.1 33 = true›) ‹tIsAt c L s.1 33 = false›)) | (exact Bool.noConfusion (Eq.trans (Eq.symm ‹tIsAt c L s.1 40 = true›) ‹tIsAt c L s.1 40 = false›)) | (simp only [eFac, eNum, *, reduceIte, Bool.false_eq_true]; done) | fail "f")⟩
          · have c72 := jb0F c72
            refine J_mem (M' := jES M t ((s.1 + 1, s.2))) (congrArg (fun q => jES M t (q, s.2)) (tTk_t c72)) ?_
            refine J_aload_n (t) dX1_readFactor_75 rfl rfl ?_
            refine J_iload_n dX1_readFactor_76 rfl rfl ?_
            refine J_iconst (x := 1) dX1_readFactor_77 (by decide) ?_
            refine J_iadd dX1_readFactor_78 ?_
            refine J_topi (y := nI (o + 1)) (nI_add (o) (1)) ?_
            refine J_calli0 (jrunV (As := [.int (nI (o + 1))]) (hS.2 (jES M t ((s.1 + 1, s.2))) ((s.1 + 1, s.2)) ((hR.es (s' := (s.1 + 1, s.2)) ⟨tIsAt_lt c72, (hR.ok).2⟩))) dX1_readFactor_79 yY_X1_readSum gX1_readFactor_X1_readSum rfl cs5 f1 f2 rfl ⟨by omega, by omega⟩ ⟨Nat.zero_le _, Nat.zero_le _⟩ rfl (Nat.le_of_ble_eq_true rfl)) (rfl) (jn_ES _ _ _) ?_
            refine J_mem (M' := jES M t (((eS c L (eFac c L d)) ((s.1 + 1, s.2))).2)) (by exact jES_ES _ _ _ _) ?_
            refine J_istore_n (lv' := [.ref (t), .int (nI (o)), .int (nI (s.1)), .int (((eS c L (eFac c L d)) ((s.1 + 1, s.2))).1)]) dX1_readFactor_82 rfl (by decide) rfl rfl ?_
            refine J_iload_n dX1_readFactor_83 rfl rfl ?_
            refine J_iconst (x := (-1)) dX1_readFactor_84 (by decide) ?_
            refine J_icmp_eq dX1_readFactor_85 (tgt := 101) (by decide) (fun c85 => ?_) (fun c85 => ?_)
            · refine J_iconst (x := (-1)) dX1_readFactor_101 (by decide) ?_
              exact J_iret (ty := .int) dX1_readFactor_102 rfl (rfl) ⟨(by first | (exact Bool.noConfusion (Eq.trans (Eq.symm ‹tIsAt c L s.1 33 = true›) ‹tIsAt c L s.1 33 = false›)) | (exact Bool.noConfusion (Eq.trans (Eq.symm ‹tIsAt c L s.1 40 = true›) ‹tIsAt c L s.1 40 = false›)) | (simp only [eFac, eNum, *, reduceIte, Bool.false_eq_true]; done) | fail "f"), (by first | (exact Bool.noConfusion (Eq.trans (Eq.symm ‹tIsAt c L s.1 33 = true›) ‹tIsAt c L s.1 33 = false›)) | (exact Bool.noConfusion (Eq.trans (Eq.symm ‹tIsAt c L s.1 40 = true›) ‹tIsAt c L s.1 40 = false›)) | (simp only [eFac, eNum, *, reduceIte, Bool.false_eq_true]; done) | fail "f")⟩
            · refine J_aload_n (t) dX1_readFactor_88 rfl rfl ?_
              refine J_bipush (x := 41) dX1_readFactor_89 (by decide) ?_
              refine J_calli0 (jrunU (As := [.int (41)]) (ct_X6_takes_5 l D dA hst (jES M t (((eS c L (eFac c L d)) ((s.1 + 1, s.2))).2)) t sg c L ((((eS c L (eFac c L d)) ((s.1 + 1, s.2))).2).1) ((hR.es (s' := ((eS c L (eFac c L d)) ((s.1 + 1, s.2))).2) (hS.1 _ ⟨tIsAt_lt c72, (hR.ok).2⟩)).1) ((41))) dX1_readFactor_91 yY_X6_takes gX1_readFactor_X6_takes_u63X1 rfl cs5 f1 f2 rfl ⟨by omega, by omega⟩ ⟨Nat.zero_le _, Nat.zero_le _⟩ rfl (Nat.le_of_ble_eq_true rfl)) (rfl) (rfl) ?_
              refine J_mem (M' := jES M t ((tTk c L ((((eS c L (eFac c L d)) ((s.1 + 1, s.2))).2).1) ((41)), (((eS c L (eFac c L d)) ((s.1 + 1, s.2))).2).2))) (by exact jES_2 _ _ _ _) ?_
              refine J_if_eq dX1_readFactor_94 (tgt := 101) (by decide) (fun c94 => ?_) (fun c94 => ?_)
              · have c94 := jb0T c94
                refine J_mem (M' := jES M t (((eS c L (eFac c L d)) ((s.1 + 1, s.2))).2)) (congrArg (fun q => jES M t (q, (((eS c L (eFac c L d)) ((s.1 + 1, s.2))).2).2)) (tTk_f c94)) ?_
                refine J_iconst (x := (-1)) dX1_readFactor_101 (by decide) ?_
                exact J_iret (ty := .int) dX1_readFactor_102 rfl (rfl) ⟨(by first | (exact Bool.noConfusion (Eq.trans (Eq.symm ‹tIsAt c L s.1 33 = true›) ‹tIsAt c L s.1 33 = false›)) | (exact Bool.noConfusion (Eq.trans (Eq.symm ‹tIsAt c L s.1 40 = true›) ‹tIsAt c L s.1 40 = false›)) | (simp only [eFac, eNum, *, reduceIte, Bool.false_eq_true]; done) | fail "f"), (by first | (exact Bool.noConfusion (Eq.trans (Eq.symm ‹tIsAt c L s.1 33 = true›) ‹tIsAt c L s.1 33 = false›)) | (exact Bool.noConfusion (Eq.trans (Eq.symm ‹tIsAt c L s.1 40 = true›) ‹tIsAt c L s.1 40 = false›)) | (simp only [eFac, eNum, *, reduceIte, Bool.false_eq_true]; done) | fail "f")⟩
              · have c94 := jb0F c94
                refine J_mem (M' := jES M t (((((eS c L (eFac c L d)) ((s.1 + 1, s.2))).2).1 + 1, (((eS c L (eFac c L d)) ((s.1 + 1, s.2))).2).2))) (congrArg (fun q => jES M t (q, (((eS c L (eFac c L d)) ((s.1 + 1, s.2))).2).2)) (tTk_t c94)) ?_
                refine J_iload_n dX1_readFactor_97 rfl rfl ?_
                refine J_goto (tgt := 102) dX1_readFactor_98 (by decide) ?_
                exact J_iret (ty := .int) dX1_readFactor_102 rfl (rfl) ⟨(by first | (exact Bool.noConfusion (Eq.trans (Eq.symm ‹tIsAt c L s.1 33 = true›) ‹tIsAt c L s.1 33 = false›)) | (exact Bool.noConfusion (Eq.trans (Eq.symm ‹tIsAt c L s.1 40 = true›) ‹tIsAt c L s.1 40 = false›)) | (simp only [eFac, eNum, *, reduceIte, Bool.false_eq_true]; done) | fail "f"), (by first | (exact Bool.noConfusion (Eq.trans (Eq.symm ‹tIsAt c L s.1 33 = true›) ‹tIsAt c L s.1 33 = false›)) | (exact Bool.noConfusion (Eq.trans (Eq.symm ‹tIsAt c L s.1 40 = true›) ‹tIsAt c L s.1 40 = false›)) | (simp only [eFac, eNum, *, reduceIte, Bool.false_eq_true]; done) | fail "f")⟩
        · have c37 := jb0F c37
          refine J_mem (M' := jES M t ((s.1 + 1, s.2))) (congrArg (fun q => jES M t (q, s.2)) (tTk_t c37)) ?_
          refine J_aload_n (t) dX1_readFactor_40 rfl rfl ?_
          refine J_iload_n dX1_readFactor_41 rfl rfl ?_
          refine J_iconst (x := 1) dX1_readFactor_42 (by decide) ?_
          refine J_iadd dX1_readFactor_43 ?_
          refine J_topi (y := nI (o + 1)) (nI_add (o) (1)) ?_
          refine J_calli0 (jrunV (As := [.int (nI (o + 1))]) (hG.2 (jES M t ((s.1 + 1, s.2))) ((s.1 + 1, s.2)) ((hR.es (s' := (s.1 + 1, s.2)) ⟨tIsAt_lt c37, (hR.ok).2⟩))) dX1_readFactor_44 yY_X1_readFactor gX1_readFactor_X1_readFactor rfl cs5 f1 f2 rfl ⟨by omega, by omega⟩ ⟨Nat.zero_le _, Nat.zero_le _⟩ rfl (Nat.le_of_ble_eq_true rfl)) (rfl) (jn_ES _ _ _) ?_
          refine J_mem (M' := jES M t (((eFac c L d) ((s.1 + 1, s.2))).2)) (by exact jES_ES _ _ _ _) ?_
          refine J_istore_n (lv' := [.ref (t), .int (nI (o)), .int (nI (s.1)), .int (((eFac c L d) ((s.1 + 1, s.2))).1)]) dX1_readFactor_47 rfl (by decide) rfl rfl ?_
          refine J_iload_n dX1_readFactor_48 rfl rfl ?_
          refine J_iconst (x := (-1)) dX1_readFactor_49 (by decide) ?_
          refine J_icmp_ne dX1_readFactor_50 (tgt := 57) (by decide) (fun c50 => ?_) (fun c50 => ?_)
          · refine J_aload_n (t) dX1_readFactor_57 rfl rfl ?_
            refine J_iconst (x := 3) dX1_readFactor_58 (by decide) ?_
            refine J_iload_n dX1_readFactor_59 rfl rfl ?_
            refine J_iload_n dX1_readFactor_60 rfl rfl ?_
            refine J_iconst (x := (-1)) dX1_readFactor_61 (by decide) ?_
            refine J_calli0 (jrunV (As := [.int (3), .int (nI (s.1)), .int (((eFac c L d) ((s.1 + 1, s.2))).1), .int (-1)]) (ct_X1_addNode l D dA hst (jES M t (((eFac c L d) ((s.1 + 1, s.2))).2)) t sg c L (((eFac c L d) ((s.1 + 1, s.2))).2) ((hR.es (s' := ((eFac c L d) ((s.1 + 1, s.2))).2) (hG.1 _ ⟨tIsAt_lt c37, (hR.ok).2⟩))) ((3)) (nI (s.1)) ((((eFac c L d) ((s.1 + 1, s.2))).1)) ((-1))) dX1_readFactor_62 yY_X1_addNode gX1_readFactor_X1_addNode rfl cs5 f1 f2 rfl ⟨by omega, by omega⟩ ⟨Nat.zero_le _, Nat.zero_le _⟩ rfl (Nat.le_of_ble_eq_true rfl)) (rfl) (jn_ES _ _ _) ?_
            refine J_mem (M' := jES M t ((eAdd L ((3)) (nI (s.1)) ((((eFac c L d) ((s.1 + 1, s.2))).1)) ((-1)) (((eFac c L d) ((s.1 + 1, s.2))).2)).2)) (by exact jES_ES _ _ _ _) ?_
            exact J_iret (ty := .int) dX1_readFactor_65 rfl (rfl) ⟨(by first | (exact Bool.noConfusion (Eq.trans (Eq.symm ‹tIsAt c L s.1 33 = true›) ‹tIsAt c L s.1 33 = false›)) | (exact Bool.noConfusion (Eq.trans (Eq.symm ‹tIsAt c L s.1 40 = true›) ‹tIsAt c L s.1 40 = false›)) | (simp only [eFac, eNum, *, reduceIte, Bool.false_eq_true]; done) | fail "f"), (by first | (exact Bool.noConfusion (Eq.trans (Eq.symm ‹tIsAt c L s.1 33 = true›) ‹tIsAt c L s.1 33 = false›)) | (exact Bool.noConfusion (Eq.trans (Eq.symm ‹tIsAt c L s.1 40 = true›) ‹tIsAt c L s.1 40 = false›)) | (simp only [eFac, eNum, *, reduceIte, Bool.false_eq_true]; done) | fail "f")⟩
          · refine J_iconst (x := (-1)) dX1_readFactor_53 (by decide) ?_
            refine J_goto (tgt := 65) dX1_readFactor_54 (by decide) ?_
            exact J_iret (ty := .int) dX1_readFactor_65 rfl (rfl) ⟨(by first | (exact Bool.noConfusion (Eq.trans (Eq.symm ‹tIsAt c L s.1 33 = true›) ‹tIsAt c L s.1 33 = false›)) | (exact Bool.noConfusion (Eq.trans (Eq.symm ‹tIsAt c L s.1 40 = true›) ‹tIsAt c L s.1 40 = false›)) | (simp only [eFac, eNum, *, reduceIte, Bool.false_eq_true]; done) | fail "f"), (by first | (exact Bool.noConfusion (Eq.trans (Eq.symm ‹tIsAt c L s.1 33 = true›) ‹tIsAt c L s.1 33 = false›)) | (exact Bool.noConfusion (Eq.trans (Eq.symm ‹tIsAt c L s.1 40 = true›) ‹tIsAt c L s.1 40 = false›)) | (simp only [eFac, eNum, *, reduceIte, Bool.false_eq_true]; done) | fail "f")⟩
      · have c26 := jltF (a := o) (b := 8) (by omega) (by omega) c26
        exact absurd c26 (by omega)

def eFr : Nat → Nat
  | 0 => 30
  | d + 1 => eFr d + 50
def eLo : Nat → Nat
  | 0 => 600
  | d + 1 => eLo d + 500
theorem eFr_ge : ∀ d, 30 ≤ eFr d ∧ 600 ≤ eLo d := by
  intro d
  induction d with
  | zero => exact ⟨Nat.le_refl _, Nat.le_refl _⟩
  | succ d ih => exact ⟨Nat.le_trans ih.1 (Nat.le_add_right _ _), Nat.le_trans ih.2 (Nat.le_add_right _ _)⟩
theorem eCT_fac (l : Launch) (D : va_G) (dA : Nat → ClassId) (hst : l.stackTraces = false) (t sg : Nat) (c : Nat → Int32) (L : Nat) : ∀ d o, o + d = 8 → eCT l D dA yX1_readFactor wsX1_readFactor (eFr d) (eLo d) t sg c L o (eFac c L d) := by
  intro d
  induction d with
  | zero => intro o ho; exact ⟨eFac_ok 0, fun M s h => ct_X1_readFactor_0 l D dA hst M t sg c L s h o (by omega) (by omega)⟩
  | succ d ih =>
    intro o ho
    have hG := ih (o + 1) (by omega)
    have hge := eFr_ge d
    have hS : eCT l D dA yX1_readSum wsX1_readSum (eFr d + 40) (eLo d + 400) t sg c L (o + 1) (eS c L (eFac c L d)) := ⟨eS_ok hG.1, fun M s h => ct_X1_readSum l D dA hst M t sg c L s h (o + 1) (eFr d) (eLo d) (by omega) hge.1 hge.2 (eFac c L d) hG⟩
    exact ⟨eFac_ok (d + 1), fun M s h => ct_X1_readFactor_s l D dA hst M t sg c L s h o (by omega) d (eFr d) (eLo d) hge.1 hge.2 (by omega) hG hS⟩
theorem eCT_8 (l : Launch) (D : va_G) (dA : Nat → ClassId) (hst : l.stackTraces = false) (t sg : Nat) (c : Nat → Int32) (L : Nat) : eCT l D dA yX1_readFactor wsX1_readFactor 430 4600 t sg c L 0 (eFac c L 8) := by
  have h1 : eFr 8 = 430 := rfl
  have h2 : eLo 8 = 4600 := rfl
  have h := eCT_fac l D dA hst t sg c L 8 0 rfl
  rw [h1, h2] at h
  exact h
/-- the whole text as an expression -/
def eWh (c : Nat → Int32) (L : Nat) (s : eSt) : Bool := !decide ((eS c L (eFac c L 8) s).1 = -1) && decide ((eS c L (eFac c L 8) s).2.1 = L)
theorem dX1_readWhole_0 : decode cX1_readWhole 0 = .ok (.aload_n 0, 1) := by decide +kernel
theorem dX1_readWhole_1 : decode cX1_readWhole 1 = .ok (.iconst 0, 1) := by decide +kernel
theorem dX1_readWhole_2 : decode cX1_readWhole 2 = .ok (.invokevirtual 38, 3) := by decide +kernel
set_option maxRecDepth 20000 in
theorem ggX1_readWhole_X1_readSum : GoodIn wsX1_readWhole wsX1_readSum := goodIn_ca (goodIn_r _ [5, 6, 7, 8, 4, 9, 10, 11, 12, 13, 14, 15, 16, 17, 18, 19, 20, 21, 22, 23, 24, 25, 26, 27, 28, 29, 30, 31, 32, 33, 34, 35, 36, 37, 38, 39, 40, 41, 42, 43, 44, 45, 46, 47, 48, 49, 50, 51, 52, 53, 54, 55, 56, 57, 1, 2, 3, 58, 59, 60, 61, 62, 63, 64, 65, 66, 67, 68, 69, 70, 76, 77, 78, 79, 80, 81, 82, 83, 84, 85, 86, 87, 88, 89, 90, 91, 92] (by decide +kernel) (by decide +kernel)) (goodIn_sub (fun _ h => List.mem_cons_of_mem _ (List.mem_append_right _ h)) (by decide +kernel))
set_option maxRecDepth 20000 in
theorem gX1_readWhole_X1_readSum : GoodIn wsX1_readWhole (wsV RX1 38 RX1 yX1_readSum wsX1_readSum) := goodIn_app (goodIn_of _ (by decide +kernel)) ggX1_readWhole_X1_readSum
theorem dX1_readWhole_5 : decode cX1_readWhole 5 = .ok (.iconst (-1), 1) := by decide +kernel
theorem dX1_readWhole_6 : decode cX1_readWhole 6 = .ok (.if_icmp .eq 14, 3) := by decide +kernel
theorem dX1_readWhole_20 : decode cX1_readWhole 20 = .ok (.iconst 0, 1) := by decide +kernel
theorem dX1_readWhole_21 : decode cX1_readWhole 21 = .ok (.ireturn, 1) := by decide +kernel
theorem dX1_readWhole_9 : decode cX1_readWhole 9 = .ok (.aload_n 0, 1) := by decide +kernel
theorem dX1_readWhole_10 : decode cX1_readWhole 10 = .ok (.invokevirtual 42, 3) := by decide +kernel
set_option maxRecDepth 20000 in
theorem ggX1_readWhole_X6_isAtEnd : GoodIn wsX1_readWhole wsX6_isAtEnd := goodIn_r _ [75, 21, 15, 76, 77, 78, 79, 80, 81, 82, 83, 84, 85, 86, 87, 88, 89, 90, 91, 92] (by decide +kernel) (by decide +kernel)
set_option maxRecDepth 20000 in
theorem gX1_readWhole_X6_isAtEnd_u42X1 : GoodIn wsX1_readWhole (va_wsU RX1 42 RX1 "VersionAlgebra$TextReader" ⟨"VersionAlgebra$Expression", "isAtEnd", "()Z"⟩ yX6_isAtEnd wsX6_isAtEnd) := goodIn_app (goodIn_of _ (by decide +kernel)) ggX1_readWhole_X6_isAtEnd
theorem dX1_readWhole_13 : decode cX1_readWhole 13 = .ok (.ifCond .eq 7, 3) := by decide +kernel
theorem dX1_readWhole_16 : decode cX1_readWhole 16 = .ok (.iconst 1, 1) := by decide +kernel
theorem dX1_readWhole_17 : decode cX1_readWhole 17 = .ok (.goto 4, 3) := by decide +kernel
set_option maxHeartbeats 2000000 in
set_option maxRecDepth 20000 in
theorem ct_X1_readWhole (l : Launch) (D : va_G) (dA : Nat → ClassId) (hst : l.stackTraces = false) (M : jM) (t sg : Nat) (c : Nat → Int32) (L : Nat) (s : eSt) (hR : jEr M t sg c L s) : jCT l D dA yX1_readWhole wsX1_readWhole (480) (5100) (0) (0) 1 [.ref (t)] M (jPo (oI (jb (eWh c L s))) (jES M t ((eS c L (eFac c L 8) s).2))) := by
  refine jBody (cc := cX1_readWhole) (nL := 1) (rt := (some .boolean)) (ini := false) (by decide) rfl hst (Nat.le_of_ble_eq_true rfl) (by simp [Value.category]) (by intro h9; first | exact absurd h9 (by decide) | rfl) ?_
  show J l D dA RX1 cX1_readWhole wsX1_readWhole 1 false (some .boolean) [] (480) (5100) (jF D dA (jn M) (jPo (oI (jb (eWh c L s))) (jES M t ((eS c L (eFac c L 8) s).2))) 1) (jn M) (0) (0) (M) 0 [.ref (t)] []
  obtain ⟨⟨f1, f2, f3, f4, f5, f6, f7, f8, f9, f10, f11, f12⟩, g2, g3, g4, g5, g6⟩ := id hR
  refine J_mem (M' := jES M t s) (by exact hR.eq) ?_
  refine J_aload_n (t) dX1_readWhole_0 rfl rfl ?_
  refine J_iconst (x := 0) dX1_readWhole_1 (by decide) ?_
  refine J_calli0 (jrunV (As := [.int (0)]) (ct_X1_readSum l D dA hst (jES M t s) t sg c L s ((hR.es (s' := s) hR.ok)) 0 430 4600 (by omega) (by omega) (by omega) _ (eCT_8 l D dA hst t sg c L)) dX1_readWhole_2 yY_X1_readSum gX1_readWhole_X1_readSum rfl cs5 f1 f2 rfl ⟨by omega, by omega⟩ ⟨Nat.zero_le _, Nat.zero_le _⟩ rfl (Nat.le_of_ble_eq_true rfl)) (rfl) (jn_ES _ _ _) ?_
  refine J_mem (M' := jES M t (((eS c L (eFac c L 8)) s).2)) (by exact jES_ES _ _ _ _) ?_
  refine J_iconst (x := (-1)) dX1_readWhole_5 (by decide) ?_
  refine J_icmp_eq dX1_readWhole_6 (tgt := 20) (by decide) (fun c6 => ?_) (fun c6 => ?_)
  · refine J_iconst (x := 0) dX1_readWhole_20 (by decide) ?_
    exact J_iret (ty := .boolean) dX1_readWhole_21 rfl (by rfl) ⟨(by first | (simp [jb, eWh, *]; done) | fail "w"), (by rfl)⟩
  · refine J_aload_n (t) dX1_readWhole_9 rfl rfl ?_
    refine J_calli0 (jrunU (As := []) (ct_X6_isAtEnd_5 l D dA hst (jES M t (((eS c L (eFac c L 8)) s).2)) t sg c L ((((eS c L (eFac c L 8)) s).2).1) ((hR.es (s' := ((eS c L (eFac c L 8)) s).2) (eS_ok (eFac_ok 8) _ hR.ok)).1)) dX1_readWhole_10 yY_X6_isAtEnd gX1_readWhole_X6_isAtEnd_u42X1 rfl cs5 f1 f2 rfl ⟨by omega, by omega⟩ ⟨Nat.zero_le _, Nat.zero_le _⟩ rfl (Nat.le_of_ble_eq_true rfl)) (rfl) (rfl) ?_
    refine J_if_eq dX1_readWhole_13 (tgt := 20) (by decide) (fun c13 => ?_) (fun c13 => ?_)
    · have c13 := jb0T c13
      refine J_iconst (x := 0) dX1_readWhole_20 (by decide) ?_
      exact J_iret (ty := .boolean) dX1_readWhole_21 rfl (by rfl) ⟨(by first | (simp [jb, eWh, *]; done) | fail "w"), (by rfl)⟩
    · have c13 := jb0F c13
      refine J_iconst (x := 1) dX1_readWhole_16 (by decide) ?_
      refine J_goto (tgt := 21) dX1_readWhole_17 (by decide) ?_
      exact J_iret (ty := .boolean) dX1_readWhole_21 rfl (by rfl) ⟨(by first | (simp [jb, eWh, *]; done) | fail "w"), (by rfl)⟩

