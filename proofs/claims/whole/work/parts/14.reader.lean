def iMx (x y : Int32) : Int32 := if x < y then y else x
/-- a reader at t: its signs, their length, its place -/
def jRd (M : jM) (t kd sg : Nat) (c : Nat → Int32) (L p : Nat) : Prop := t < jn M ∧ jk M t = kd ∧ jr M t 0 = some sg ∧ sg < jn M ∧ jk M sg = 21 ∧ jz M sg = 60 ∧ ji M sg = c ∧ ji M t 1 = nI L ∧ L ≤ 60 ∧ ji M t 2 = nI p ∧ p ≤ L ∧ t ≠ sg
def tIsAt (c : Nat → Int32) (L p : Nat) (x : Int32) : Bool := decide (p < L) && decide (c p = x)
def tTk (c : Nat → Int32) (L p : Nat) (x : Int32) : Nat := if tIsAt c L p x then p + 1 else p
def tDig (c : Nat → Int32) (L k : Nat) : Int32 := if k < L then (if 48 ≤ c k then (if c k ≤ 57 then c k - 48 else -1) else -1) else -1
def tNum (c : Nat → Int32) (L p : Nat) : Int32 × Nat :=
  if tDig c L p = -1 then (-1, p) else if tDig c L p = 0 then (tDig c L p, p + 1) else if tDig c L (p + 1) = -1 then (tDig c L p, p + 1) else (10 * tDig c L p + tDig c L (p + 1), p + 1 + 1)
theorem tIsAt_lt {c : Nat → Int32} {L p : Nat} {x : Int32} (h : tIsAt c L p x = true) : p + 1 ≤ L := by
  unfold tIsAt at h
  rw [Bool.and_eq_true] at h
  exact of_decide_eq_true h.1
theorem tTk_t {c : Nat → Int32} {L p : Nat} {x : Int32} (h : tIsAt c L p x = true) : tTk c L p x = p + 1 := by unfold tTk; rw [if_pos h]
theorem tTk_f {c : Nat → Int32} {L p : Nat} {x : Int32} (h : tIsAt c L p x = false) : tTk c L p x = p := by unfold tTk; rw [h]; rfl
theorem tTk_le {c : Nat → Int32} {L p : Nat} {x : Int32} (h : p ≤ L) : tTk c L p x ≤ L := by
  unfold tTk
  split
  · rename_i h2; exact tIsAt_lt h2
  · exact h
theorem tDig_lt {c : Nat → Int32} {L k : Nat} (h : ¬ tDig c L k = -1) : k < L := by
  by_cases hk : k < L
  · exact hk
  · exact absurd (by unfold tDig; rw [if_neg hk]) h
theorem tNum_le {c : Nat → Int32} {L p : Nat} (h : p ≤ L) : (tNum c L p).2 ≤ L := by
  unfold tNum
  split
  · exact h
  · rename_i h1
    have := tDig_lt h1
    split
    · exact this
    · split
      · exact this
      · rename_i h3; exact tDig_lt h3
theorem jSi_self {M : jM} {a k : Nat} {x : Int32} (h : ji M a k = x) : jSi M a k x = M := by
  refine jM_eq rfl rfl rfl ?_ rfl rfl rfl
  funext b j
  show (if b = a ∧ j = k then x else ji M b j) = _
  split
  · rename_i h2; rw [h2.1, h2.2]; exact h.symm
  · rfl
theorem jSi_Si (M : jM) (a k : Nat) (x y : Int32) : jSi (jSi M a k x) a k y = jSi M a k y := by
  refine jM_eq rfl rfl rfl ?_ rfl rfl rfl
  funext b j
  show (if b = a ∧ j = k then y else if b = a ∧ j = k then x else ji M b j) = (if b = a ∧ j = k then y else ji M b j)
  split <;> rfl
theorem jRd.mv {M : jM} {t kd sg : Nat} {c : Nat → Int32} {L p q : Nat} (h : jRd M t kd sg c L p) (hq : q ≤ L) : jRd (jSi M t 2 (nI q)) t kd sg c L q := by
  obtain ⟨h1, h2, h3, h4, h5, h6, h7, h8, h9, h10, h11, h12⟩ := h
  refine ⟨h1, h2, h3, h4, h5, h6, ?_, ?_, h9, ?_, hq, h12⟩
  · rw [← h7]; funext j; rw [ji_Si, if_neg (fun h => h12 h.1.symm)]
  · rw [ji_Si, if_neg (fun h => absurd h.2 (by decide))]; exact h8
  · rw [ji_Si, if_pos ⟨rfl, rfl⟩]
/-- the row of a reader of ranges -/
def jRS (M : jM) (t p : Nat) (lo hi : Int32) (b : Bool) : jM := jSv M t (fun j => if j = 2 then nI p else if j = 4 then lo else if j = 5 then hi else if j = 6 then jb b else ji M t j)
def jRr (M : jM) (t sg : Nat) (c : Nat → Int32) (L p : Nat) (lo hi : Int32) (b : Bool) : Prop := jRd M t 8 sg c L p ∧ ji M t 4 = lo ∧ ji M t 5 = hi ∧ ji M t 6 = jb b
theorem jRr.self {M : jM} {t sg : Nat} {c : Nat → Int32} {L p : Nat} {lo hi : Int32} {b : Bool} (h : jRr M t sg c L p lo hi b) : M = jRS M t p lo hi b := by
  refine jM_eq rfl rfl rfl ?_ rfl rfl rfl
  funext a j
  unfold jRS
  rw [ji_Sv]
  split
  · rename_i h2
    subst h2
    split
    · rename_i h3; subst h3; exact h.1.2.2.2.2.2.2.2.2.2.1
    · split
      · rename_i h3; subst h3; exact h.2.1
      · split
        · rename_i h3; subst h3; exact h.2.2.1
        · split
          · rename_i h3; subst h3; exact h.2.2.2
          · rfl
  · rfl
theorem jRr.rs {M : jM} {t sg : Nat} {c : Nat → Int32} {L p q : Nat} {lo hi lo' hi' : Int32} {b b' : Bool} (h : jRr M t sg c L p lo hi b) (hq : q ≤ L) : jRr (jRS M t q lo' hi' b') t sg c L q lo' hi' b' := by
  obtain ⟨⟨h1, h2, h3, h4, h5, h6, h7, h8, h9, h10, h11, h12⟩, -, -, -⟩ := h
  refine ⟨⟨h1, h2, h3, h4, h5, h6, ?_, ?_, h9, ?_, hq, h12⟩, ?_, ?_, ?_⟩
  · rw [← h7]; funext j; unfold jRS; rw [ji_Sv, if_neg (Ne.symm h12)]
  · unfold jRS; rw [ji_Sv, if_pos rfl]; exact h8
  all_goals (unfold jRS; rw [ji_Sv, if_pos rfl]; rfl)
theorem jRS_2 (M : jM) (t p q : Nat) (lo hi : Int32) (b : Bool) : jSi (jRS M t p lo hi b) t 2 (nI q) = jRS M t q lo hi b := by
  unfold jRS; rw [jSi_Sv]; congr 1; funext j; by_cases h : j = 2 <;> simp [h]
theorem jRS_4 (M : jM) (t p : Nat) (lo hi x : Int32) (b : Bool) : jSi (jRS M t p lo hi b) t 4 x = jRS M t p x hi b := by
  unfold jRS; rw [jSi_Sv]; congr 1; funext j
  by_cases h : j = 4
  · subst h; simp
  · simp [h]
theorem jRS_5 (M : jM) (t p : Nat) (lo hi x : Int32) (b : Bool) : jSi (jRS M t p lo hi b) t 5 x = jRS M t p lo x b := by
  unfold jRS; rw [jSi_Sv]; congr 1; funext j
  by_cases h : j = 5
  · subst h; simp
  · simp [h]
theorem jRS_6 (M : jM) (t p : Nat) (lo hi : Int32) (b b' : Bool) : jSi (jRS M t p lo hi b) t 6 (jb b') = jRS M t p lo hi b' := by
  unfold jRS; rw [jSi_Sv]; congr 1; funext j
  by_cases h : j = 6
  · subst h; simp
  · simp [h]
theorem jSv_Sv (M : jM) (a : Nat) (f g : Nat → Int32) : jSv (jSv M a f) a g = jSv M a g := by
  refine jM_eq rfl rfl rfl ?_ rfl rfl rfl
  funext b j
  show (if b = a then g j else if b = a then f j else ji M b j) = (if b = a then g j else ji M b j)
  split <;> rfl
theorem jRS_RS (M : jM) (t p q : Nat) (lo hi lo' hi' : Int32) (b b' : Bool) : jRS (jRS M t p lo hi b) t q lo' hi' b' = jRS M t q lo' hi' b' := by
  unfold jRS
  rw [jSv_Sv]
  congr 1
  funext j
  simp only [ji_Sv, if_pos]
  split
  · rfl
  · split
    · rfl
    · split
      · rfl
      · split <;> rfl
theorem dX6_position_0 : decode cX6_position 0 = .ok (.aload_n 0, 1) := by decide +kernel
theorem dX6_position_1 : decode cX6_position 1 = .ok (.getfield 9, 3) := by decide +kernel
theorem dX6_position_4 : decode cX6_position 4 = .ok (.ireturn, 1) := by decide +kernel
set_option maxHeartbeats 2000000 in
set_option maxRecDepth 20000 in
theorem ct_X6_position_8 (l : Launch) (D : va_G) (dA : Nat → ClassId) (hst : l.stackTraces = false) (M : jM) (t sg : Nat) (c : Nat → Int32) (L p : Nat) (hR : jRd M t 8 sg c L p) : jCT l D dA yX6_position wsX6_position (20) (300) (0) (0) 1 [.ref (t)] M (jPo (oI (nI p)) (M)) := by
  refine jBody (cc := cX6_position) (nL := 1) (rt := (some .int)) (ini := false) (by decide) rfl hst (Nat.le_of_ble_eq_true rfl) (by simp [Value.category]) (by intro h9; first | exact absurd h9 (by decide) | rfl) ?_
  show J l D dA RX6 cX6_position wsX6_position 1 false (some .int) [] (20) (300) (jF D dA (jn M) (jPo (oI (nI p)) (M)) 1) (jn M) (0) (0) (M) 0 [.ref (t)] []
  obtain ⟨f1, f2, f3, f4, f5, f6, f7, f8, f9, f10, f11, f12⟩ := id hR
  refine J_aload_n (t) dX6_position_0 rfl rfl ?_
  refine J_geti (j := 2) dX6_position_1 (fun _ h => List.mem_cons_of_mem _ (List.mem_append_right _ (h))) cs8 (by decide) rfl (List.mem_of_getElem? (i := 1) rfl) rfl f1 f2 ?_
  refine J_topi (y := nI (p)) (f10) ?_
  exact J_iret (ty := .int) dX6_position_4 rfl (rfl) ⟨(by rfl), (by rfl)⟩

theorem dX6_textSize_0 : decode cX6_textSize 0 = .ok (.aload_n 0, 1) := by decide +kernel
theorem dX6_textSize_1 : decode cX6_textSize 1 = .ok (.getfield 28, 3) := by decide +kernel
theorem dX6_textSize_4 : decode cX6_textSize 4 = .ok (.ireturn, 1) := by decide +kernel
set_option maxHeartbeats 2000000 in
set_option maxRecDepth 20000 in
theorem ct_X6_textSize_8 (l : Launch) (D : va_G) (dA : Nat → ClassId) (hst : l.stackTraces = false) (M : jM) (t sg : Nat) (c : Nat → Int32) (L p : Nat) (hR : jRd M t 8 sg c L p) : jCT l D dA yX6_textSize wsX6_textSize (20) (300) (0) (0) 1 [.ref (t)] M (jPo (oI (nI L)) (M)) := by
  refine jBody (cc := cX6_textSize) (nL := 1) (rt := (some .int)) (ini := false) (by decide) rfl hst (Nat.le_of_ble_eq_true rfl) (by simp [Value.category]) (by intro h9; first | exact absurd h9 (by decide) | rfl) ?_
  show J l D dA RX6 cX6_textSize wsX6_textSize 1 false (some .int) [] (20) (300) (jF D dA (jn M) (jPo (oI (nI L)) (M)) 1) (jn M) (0) (0) (M) 0 [.ref (t)] []
  obtain ⟨f1, f2, f3, f4, f5, f6, f7, f8, f9, f10, f11, f12⟩ := id hR
  refine J_aload_n (t) dX6_textSize_0 rfl rfl ?_
  refine J_geti (j := 1) dX6_textSize_1 (fun _ h => List.mem_cons_of_mem _ (List.mem_append_right _ (h))) cs8 (by decide) rfl (List.mem_of_getElem? (i := 1) rfl) rfl f1 f2 ?_
  refine J_topi (y := nI (L)) (f8) ?_
  exact J_iret (ty := .int) dX6_textSize_4 rfl (rfl) ⟨(by rfl), (by rfl)⟩

theorem dX6_isAtEnd_0 : decode cX6_isAtEnd 0 = .ok (.aload_n 0, 1) := by decide +kernel
theorem dX6_isAtEnd_1 : decode cX6_isAtEnd 1 = .ok (.getfield 9, 3) := by decide +kernel
theorem dX6_isAtEnd_4 : decode cX6_isAtEnd 4 = .ok (.aload_n 0, 1) := by decide +kernel
theorem dX6_isAtEnd_5 : decode cX6_isAtEnd 5 = .ok (.getfield 28, 3) := by decide +kernel
theorem dX6_isAtEnd_8 : decode cX6_isAtEnd 8 = .ok (.if_icmp .ne 7, 3) := by decide +kernel
theorem dX6_isAtEnd_15 : decode cX6_isAtEnd 15 = .ok (.iconst 0, 1) := by decide +kernel
theorem dX6_isAtEnd_16 : decode cX6_isAtEnd 16 = .ok (.ireturn, 1) := by decide +kernel
theorem dX6_isAtEnd_11 : decode cX6_isAtEnd 11 = .ok (.iconst 1, 1) := by decide +kernel
theorem dX6_isAtEnd_12 : decode cX6_isAtEnd 12 = .ok (.goto 4, 3) := by decide +kernel
set_option maxHeartbeats 2000000 in
set_option maxRecDepth 20000 in
theorem ct_X6_isAtEnd_8 (l : Launch) (D : va_G) (dA : Nat → ClassId) (hst : l.stackTraces = false) (M : jM) (t sg : Nat) (c : Nat → Int32) (L p : Nat) (hR : jRd M t 8 sg c L p) : jCT l D dA yX6_isAtEnd wsX6_isAtEnd (20) (300) (0) (0) 1 [.ref (t)] M (jPo (oI (jb (decide (p = L)))) (M)) := by
  refine jBody (cc := cX6_isAtEnd) (nL := 1) (rt := (some .boolean)) (ini := false) (by decide) rfl hst (Nat.le_of_ble_eq_true rfl) (by simp [Value.category]) (by intro h9; first | exact absurd h9 (by decide) | rfl) ?_
  show J l D dA RX6 cX6_isAtEnd wsX6_isAtEnd 1 false (some .boolean) [] (20) (300) (jF D dA (jn M) (jPo (oI (jb (decide (p = L)))) (M)) 1) (jn M) (0) (0) (M) 0 [.ref (t)] []
  obtain ⟨f1, f2, f3, f4, f5, f6, f7, f8, f9, f10, f11, f12⟩ := id hR
  refine J_aload_n (t) dX6_isAtEnd_0 rfl rfl ?_
  refine J_geti (j := 2) dX6_isAtEnd_1 (fun _ h => List.mem_cons_of_mem _ (List.mem_append_right _ (h))) cs8 (by decide) rfl (List.mem_of_getElem? (i := 1) rfl) rfl f1 f2 ?_
  refine J_topi (y := nI (p)) (f10) ?_
  refine J_aload_n (t) dX6_isAtEnd_4 rfl rfl ?_
  refine J_geti (j := 1) dX6_isAtEnd_5 (fun _ h => List.mem_cons_of_mem _ (List.mem_append_right _ (h))) cs8 (by decide) rfl (List.mem_of_getElem? (i := 2) rfl) rfl f1 f2 ?_
  refine J_topi (y := nI (L)) (f8) ?_
  refine J_icmp_ne dX6_isAtEnd_8 (tgt := 15) (by decide) (fun c8 => ?_) (fun c8 => ?_)
  · have c8 := jeqF (a := p) (b := L) (by omega) (by omega) c8
    refine J_iconst (x := 0) dX6_isAtEnd_15 (by decide) ?_
    exact J_iret (ty := .boolean) dX6_isAtEnd_16 rfl (by rfl) ⟨(by simp [jb, *]), (by rfl)⟩
  · have c8 := jeqT (a := p) (b := L) (by omega) (by omega) c8
    refine J_iconst (x := 1) dX6_isAtEnd_11 (by decide) ?_
    refine J_goto (tgt := 16) dX6_isAtEnd_12 (by decide) ?_
    exact J_iret (ty := .boolean) dX6_isAtEnd_16 rfl (by rfl) ⟨(by simp [jb, *]), (by rfl)⟩

theorem dX6_isAt_0 : decode cX6_isAt 0 = .ok (.aload_n 0, 1) := by decide +kernel
theorem dX6_isAt_1 : decode cX6_isAt 1 = .ok (.getfield 9, 3) := by decide +kernel
theorem dX6_isAt_4 : decode cX6_isAt 4 = .ok (.aload_n 0, 1) := by decide +kernel
theorem dX6_isAt_5 : decode cX6_isAt 5 = .ok (.getfield 28, 3) := by decide +kernel
theorem dX6_isAt_8 : decode cX6_isAt 8 = .ok (.if_icmp .ge 20, 3) := by decide +kernel
theorem dX6_isAt_28 : decode cX6_isAt 28 = .ok (.iconst 0, 1) := by decide +kernel
theorem dX6_isAt_29 : decode cX6_isAt 29 = .ok (.ireturn, 1) := by decide +kernel
theorem dX6_isAt_11 : decode cX6_isAt 11 = .ok (.aload_n 0, 1) := by decide +kernel
theorem dX6_isAt_12 : decode cX6_isAt 12 = .ok (.getfield 15, 3) := by decide +kernel
theorem dX6_isAt_15 : decode cX6_isAt 15 = .ok (.aload_n 0, 1) := by decide +kernel
theorem dX6_isAt_16 : decode cX6_isAt 16 = .ok (.getfield 9, 3) := by decide +kernel
theorem dX6_isAt_19 : decode cX6_isAt 19 = .ok (.caload, 1) := by decide +kernel
theorem dX6_isAt_20 : decode cX6_isAt 20 = .ok (.iload_n 1, 1) := by decide +kernel
theorem dX6_isAt_21 : decode cX6_isAt 21 = .ok (.if_icmp .ne 7, 3) := by decide +kernel
theorem dX6_isAt_24 : decode cX6_isAt 24 = .ok (.iconst 1, 1) := by decide +kernel
theorem dX6_isAt_25 : decode cX6_isAt 25 = .ok (.goto 4, 3) := by decide +kernel
set_option maxHeartbeats 2000000 in
set_option maxRecDepth 20000 in
theorem ct_X6_isAt_8 (l : Launch) (D : va_G) (dA : Nat → ClassId) (hst : l.stackTraces = false) (M : jM) (t sg : Nat) (c : Nat → Int32) (L p : Nat) (hR : jRd M t 8 sg c L p) (x : Int32) : jCT l D dA yX6_isAt wsX6_isAt (20) (300) (0) (0) 1 [.ref (t), .int (x)] M (jPo (oI (jb (tIsAt c L p x))) (M)) := by
  refine jBody (cc := cX6_isAt) (nL := 2) (rt := (some .boolean)) (ini := false) (by decide) rfl hst (Nat.le_of_ble_eq_true rfl) (by simp [Value.category]) (by intro h9; first | exact absurd h9 (by decide) | rfl) ?_
  show J l D dA RX6 cX6_isAt wsX6_isAt 2 false (some .boolean) [] (20) (300) (jF D dA (jn M) (jPo (oI (jb (tIsAt c L p x))) (M)) 1) (jn M) (0) (0) (M) 0 [.ref (t), .int (x)] []
  obtain ⟨f1, f2, f3, f4, f5, f6, f7, f8, f9, f10, f11, f12⟩ := id hR
  refine J_aload_n (t) dX6_isAt_0 rfl rfl ?_
  refine J_geti (j := 2) dX6_isAt_1 (fun _ h => List.mem_cons_of_mem _ (List.mem_append_left _ (List.mem_append_right _ (h)))) cs8 (by decide) rfl (List.mem_of_getElem? (i := 1) rfl) rfl f1 f2 ?_
  refine J_topi (y := nI (p)) (f10) ?_
  refine J_aload_n (t) dX6_isAt_4 rfl rfl ?_
  refine J_geti (j := 1) dX6_isAt_5 (fun _ h => List.mem_cons_of_mem _ (List.mem_append_left _ (List.mem_append_right _ (h)))) cs8 (by decide) rfl (List.mem_of_getElem? (i := 2) rfl) rfl f1 f2 ?_
  refine J_topi (y := nI (L)) (f8) ?_
  refine J_icmp_ge dX6_isAt_8 (tgt := 28) (by decide) (fun c8 => ?_) (fun c8 => ?_)
  · have c8 := jleT (a := L) (b := p) (by omega) (by omega) c8
    refine J_iconst (x := 0) dX6_isAt_28 (by decide) ?_
    exact J_iret (ty := .boolean) dX6_isAt_29 rfl (by rfl) ⟨(by first | (simp [jb, tIsAt, *]; done) | (have hl : ¬ p < L := by omega); simp [jb, tIsAt, hl] | fail "l"), (by rfl)⟩
  · have c8 := jleF (a := L) (b := p) (by omega) (by omega) c8
    refine J_aload_n (t) dX6_isAt_11 rfl rfl ?_
    refine J_getrs (q := sg) f3 dX6_isAt_12 (fun _ h => List.mem_cons_of_mem _ (List.mem_append_left _ (List.mem_append_right _ (h)))) cs8 (by decide) rfl (List.mem_of_getElem? (i := 3) rfl) rfl f1 f2 ?_
    refine J_aload_n (t) dX6_isAt_15 rfl rfl ?_
    refine J_geti (j := 2) dX6_isAt_16 (fun _ h => List.mem_cons_of_mem _ (List.mem_append_left _ (List.mem_append_right _ (h)))) cs8 (by decide) rfl (List.mem_of_getElem? (i := 1) rfl) rfl f1 f2 ?_
    refine J_topi (y := nI (p)) (f10) ?_
    refine J_caldN (k := p) dX6_isAt_19 f4 f5 (by exact Nat.lt_of_lt_of_eq (show _ < 60 by omega) (Eq.symm f6)) (by exact Nat.lt_of_le_of_lt (Nat.le_of_eq f6) (show 60 < 2 ^ 31 by omega)) ?_
    refine J_topi (y := (c p)) (congrFun f7 _) ?_
    refine J_iload_n dX6_isAt_20 rfl rfl ?_
    refine J_icmp_ne dX6_isAt_21 (tgt := 28) (by decide) (fun c21 => ?_) (fun c21 => ?_)
    · refine J_iconst (x := 0) dX6_isAt_28 (by decide) ?_
      exact J_iret (ty := .boolean) dX6_isAt_29 rfl (by rfl) ⟨(by first | (simp [jb, tIsAt, *]; done) | (have hl : ¬ p < L := by omega); simp [jb, tIsAt, hl] | fail "l"), (by rfl)⟩
    · refine J_iconst (x := 1) dX6_isAt_24 (by decide) ?_
      refine J_goto (tgt := 29) dX6_isAt_25 (by decide) ?_
      exact J_iret (ty := .boolean) dX6_isAt_29 rfl (by rfl) ⟨(by first | (simp [jb, tIsAt, *]; done) | (have hl : ¬ p < L := by omega); simp [jb, tIsAt, hl] | fail "l"), (by rfl)⟩

theorem dX6_digitAt_0 : decode cX6_digitAt 0 = .ok (.iload_n 1, 1) := by decide +kernel
theorem dX6_digitAt_1 : decode cX6_digitAt 1 = .ok (.ifCond .lt 37, 3) := by decide +kernel
theorem dX6_digitAt_38 : decode cX6_digitAt 38 = .ok (.iconst 0, 1) := by decide +kernel
theorem dX6_digitAt_39 : decode cX6_digitAt 39 = .ok (.istore_n 2, 1) := by decide +kernel
theorem dX6_digitAt_40 : decode cX6_digitAt 40 = .ok (.iload_n 2, 1) := by decide +kernel
theorem dX6_digitAt_41 : decode cX6_digitAt 41 = .ok (.ifCond .eq 15, 3) := by decide +kernel
theorem dX6_digitAt_56 : decode cX6_digitAt 56 = .ok (.iconst (-1), 1) := by decide +kernel
theorem dX6_digitAt_57 : decode cX6_digitAt 57 = .ok (.ireturn, 1) := by decide +kernel
theorem dX6_digitAt_4 : decode cX6_digitAt 4 = .ok (.iload_n 1, 1) := by decide +kernel
theorem dX6_digitAt_5 : decode cX6_digitAt 5 = .ok (.aload_n 0, 1) := by decide +kernel
theorem dX6_digitAt_6 : decode cX6_digitAt 6 = .ok (.getfield 28, 3) := by decide +kernel
theorem dX6_digitAt_9 : decode cX6_digitAt 9 = .ok (.if_icmp .ge 29, 3) := by decide +kernel
theorem dX6_digitAt_12 : decode cX6_digitAt 12 = .ok (.aload_n 0, 1) := by decide +kernel
theorem dX6_digitAt_13 : decode cX6_digitAt 13 = .ok (.getfield 15, 3) := by decide +kernel
theorem dX6_digitAt_16 : decode cX6_digitAt 16 = .ok (.iload_n 1, 1) := by decide +kernel
theorem dX6_digitAt_17 : decode cX6_digitAt 17 = .ok (.caload, 1) := by decide +kernel
theorem dX6_digitAt_18 : decode cX6_digitAt 18 = .ok (.bipush 48, 2) := by decide +kernel
theorem dX6_digitAt_20 : decode cX6_digitAt 20 = .ok (.if_icmp .lt 18, 3) := by decide +kernel
theorem dX6_digitAt_23 : decode cX6_digitAt 23 = .ok (.aload_n 0, 1) := by decide +kernel
theorem dX6_digitAt_24 : decode cX6_digitAt 24 = .ok (.getfield 15, 3) := by decide +kernel
theorem dX6_digitAt_27 : decode cX6_digitAt 27 = .ok (.iload_n 1, 1) := by decide +kernel
theorem dX6_digitAt_28 : decode cX6_digitAt 28 = .ok (.caload, 1) := by decide +kernel
theorem dX6_digitAt_29 : decode cX6_digitAt 29 = .ok (.bipush 57, 2) := by decide +kernel
theorem dX6_digitAt_31 : decode cX6_digitAt 31 = .ok (.if_icmp .gt 7, 3) := by decide +kernel
theorem dX6_digitAt_34 : decode cX6_digitAt 34 = .ok (.iconst 1, 1) := by decide +kernel
theorem dX6_digitAt_35 : decode cX6_digitAt 35 = .ok (.goto 4, 3) := by decide +kernel
theorem dX6_digitAt_44 : decode cX6_digitAt 44 = .ok (.aload_n 0, 1) := by decide +kernel
theorem dX6_digitAt_45 : decode cX6_digitAt 45 = .ok (.getfield 15, 3) := by decide +kernel
theorem dX6_digitAt_48 : decode cX6_digitAt 48 = .ok (.iload_n 1, 1) := by decide +kernel
theorem dX6_digitAt_49 : decode cX6_digitAt 49 = .ok (.caload, 1) := by decide +kernel
theorem dX6_digitAt_50 : decode cX6_digitAt 50 = .ok (.bipush 48, 2) := by decide +kernel
theorem dX6_digitAt_52 : decode cX6_digitAt 52 = .ok (.isub, 1) := by decide +kernel
theorem dX6_digitAt_53 : decode cX6_digitAt 53 = .ok (.goto 4, 3) := by decide +kernel
set_option maxHeartbeats 2000000 in
set_option maxRecDepth 20000 in
theorem ct_X6_digitAt_8 (l : Launch) (D : va_G) (dA : Nat → ClassId) (hst : l.stackTraces = false) (M : jM) (t sg : Nat) (c : Nat → Int32) (L p : Nat) (hR : jRd M t 8 sg c L p) (k : Nat) (hk : k ≤ 60) : jCT l D dA yX6_digitAt wsX6_digitAt (20) (300) (0) (0) 1 [.ref (t), .int (nI (k))] M (jPo (oI (tDig c L k)) (M)) := by
  refine jBody (cc := cX6_digitAt) (nL := 3) (rt := (some .int)) (ini := false) (by decide) rfl hst (Nat.le_of_ble_eq_true rfl) (by simp [Value.category]) (by intro h9; first | exact absurd h9 (by decide) | rfl) ?_
  show J l D dA RX6 cX6_digitAt wsX6_digitAt 3 false (some .int) [] (20) (300) (jF D dA (jn M) (jPo (oI (tDig c L k)) (M)) 1) (jn M) (0) (0) (M) 0 [.ref (t), .int (nI (k)), .float 0] []
  obtain ⟨f1, f2, f3, f4, f5, f6, f7, f8, f9, f10, f11, f12⟩ := id hR
  refine J_iload_n dX6_digitAt_0 rfl rfl ?_
  refine J_if_lt dX6_digitAt_1 (tgt := 38) (by decide) (fun c1 => ?_) (fun c1 => ?_)
  · have c1 := jltT (a := k) (b := 0) (by omega) (by omega) c1
    refine J_iconst (x := 0) dX6_digitAt_38 (by decide) ?_
    refine J_istore_n (lv' := [.ref (t), .int (nI (k)), .int (0)]) dX6_digitAt_39 rfl (by decide) rfl rfl ?_
    refine J_iload_n dX6_digitAt_40 rfl rfl ?_
    refine J_if_eq dX6_digitAt_41 (tgt := 56) (by decide) (fun c41 => ?_) (fun c41 => ?_)
    · have c41 := jeqT (a := 0) (b := 0) (by omega) (by omega) c41
      refine J_iconst (x := (-1)) dX6_digitAt_56 (by decide) ?_
      exact J_iret (ty := .int) dX6_digitAt_57 rfl (rfl) ⟨(by first | (simp [tDig, *]; done) | (have hl : ¬ k < L := by omega); simp [tDig, hl]; done | (unfold tDig; rw [if_pos (by omega), if_neg (Int32.not_le.mpr (by assumption))]) | (unfold tDig; rw [if_pos (by omega), if_pos (Int32.not_lt.mp (by assumption)), if_neg (Int32.not_le.mpr (by assumption))]) | (unfold tDig; rw [if_pos (by omega), if_pos (Int32.not_lt.mp (by assumption)), if_pos (Int32.not_lt.mp (by assumption))]) | fail "l"), (by rfl)⟩
    · exact absurd c41 (by decide)
  · have c1 := jltF (a := k) (b := 0) (by omega) (by omega) c1
    refine J_iload_n dX6_digitAt_4 rfl rfl ?_
    refine J_aload_n (t) dX6_digitAt_5 rfl rfl ?_
    refine J_geti (j := 1) dX6_digitAt_6 (fun _ h => List.mem_cons_of_mem _ (List.mem_append_left _ (List.mem_append_right _ (h)))) cs8 (by decide) rfl (List.mem_of_getElem? (i := 1) rfl) rfl f1 f2 ?_
    refine J_topi (y := nI (L)) (f8) ?_
    refine J_icmp_ge dX6_digitAt_9 (tgt := 38) (by decide) (fun c9 => ?_) (fun c9 => ?_)
    · have c9 := jleT (a := L) (b := k) (by omega) (by omega) c9
      refine J_iconst (x := 0) dX6_digitAt_38 (by decide) ?_
      refine J_istore_n (lv' := [.ref (t), .int (nI (k)), .int (0)]) dX6_digitAt_39 rfl (by decide) rfl rfl ?_
      refine J_iload_n dX6_digitAt_40 rfl rfl ?_
      refine J_if_eq dX6_digitAt_41 (tgt := 56) (by decide) (fun c41 => ?_) (fun c41 => ?_)
      · have c41 := jeqT (a := 0) (b := 0) (by omega) (by omega) c41
        refine J_iconst (x := (-1)) dX6_digitAt_56 (by decide) ?_
        exact J_iret (ty := .int) dX6_digitAt_57 rfl (rfl) ⟨(by first | (simp [tDig, *]; done) | (have hl : ¬ k < L := by omega); simp [tDig, hl]; done | (unfold tDig; rw [if_pos (by omega), if_neg (Int32.not_le.mpr (by assumption))]) | (unfold tDig; rw [if_pos (by omega), if_pos (Int32.not_lt.mp (by assumption)), if_neg (Int32.not_le.mpr (by assumption))]) | (unfold tDig; rw [if_pos (by omega), if_pos (Int32.not_lt.mp (by assumption)), if_pos (Int32.not_lt.mp (by assumption))]) | fail "l"), (by rfl)⟩
      · exact absurd c41 (by decide)
    · have c9 := jleF (a := L) (b := k) (by omega) (by omega) c9
      refine J_aload_n (t) dX6_digitAt_12 rfl rfl ?_
      refine J_getrs (q := sg) f3 dX6_digitAt_13 (fun _ h => List.mem_cons_of_mem _ (List.mem_append_left _ (List.mem_append_right _ (h)))) cs8 (by decide) rfl (List.mem_of_getElem? (i := 2) rfl) rfl f1 f2 ?_
      refine J_iload_n dX6_digitAt_16 rfl rfl ?_
      refine J_caldN (k := k) dX6_digitAt_17 f4 f5 (by exact Nat.lt_of_lt_of_eq (show _ < 60 by omega) (Eq.symm f6)) (by exact Nat.lt_of_le_of_lt (Nat.le_of_eq f6) (show 60 < 2 ^ 31 by omega)) ?_
      refine J_topi (y := (c k)) (congrFun f7 _) ?_
      refine J_bipush (x := 48) dX6_digitAt_18 (by decide) ?_
      refine J_icmp_lt dX6_digitAt_20 (tgt := 38) (by decide) (fun c20 => ?_) (fun c20 => ?_)
      · refine J_iconst (x := 0) dX6_digitAt_38 (by decide) ?_
        refine J_istore_n (lv' := [.ref (t), .int (nI (k)), .int (0)]) dX6_digitAt_39 rfl (by decide) rfl rfl ?_
        refine J_iload_n dX6_digitAt_40 rfl rfl ?_
        refine J_if_eq dX6_digitAt_41 (tgt := 56) (by decide) (fun c41 => ?_) (fun c41 => ?_)
        · have c41 := jeqT (a := 0) (b := 0) (by omega) (by omega) c41
          refine J_iconst (x := (-1)) dX6_digitAt_56 (by decide) ?_
          exact J_iret (ty := .int) dX6_digitAt_57 rfl (rfl) ⟨(by first | (simp [tDig, *]; done) | (have hl : ¬ k < L := by omega); simp [tDig, hl]; done | (unfold tDig; rw [if_pos (by omega), if_neg (Int32.not_le.mpr (by assumption))]) | (unfold tDig; rw [if_pos (by omega), if_pos (Int32.not_lt.mp (by assumption)), if_neg (Int32.not_le.mpr (by assumption))]) | (unfold tDig; rw [if_pos (by omega), if_pos (Int32.not_lt.mp (by assumption)), if_pos (Int32.not_lt.mp (by assumption))]) | fail "l"), (by rfl)⟩
        · exact absurd c41 (by decide)
      · refine J_aload_n (t) dX6_digitAt_23 rfl rfl ?_
        refine J_getrs (q := sg) f3 dX6_digitAt_24 (fun _ h => List.mem_cons_of_mem _ (List.mem_append_left _ (List.mem_append_right _ (h)))) cs8 (by decide) rfl (List.mem_of_getElem? (i := 2) rfl) rfl f1 f2 ?_
        refine J_iload_n dX6_digitAt_27 rfl rfl ?_
        refine J_caldN (k := k) dX6_digitAt_28 f4 f5 (by exact Nat.lt_of_lt_of_eq (show _ < 60 by omega) (Eq.symm f6)) (by exact Nat.lt_of_le_of_lt (Nat.le_of_eq f6) (show 60 < 2 ^ 31 by omega)) ?_
        refine J_topi (y := (c k)) (congrFun f7 _) ?_
        refine J_bipush (x := 57) dX6_digitAt_29 (by decide) ?_
        refine J_icmp_gt dX6_digitAt_31 (tgt := 38) (by decide) (fun c31 => ?_) (fun c31 => ?_)
        · refine J_iconst (x := 0) dX6_digitAt_38 (by decide) ?_
          refine J_istore_n (lv' := [.ref (t), .int (nI (k)), .int (0)]) dX6_digitAt_39 rfl (by decide) rfl rfl ?_
          refine J_iload_n dX6_digitAt_40 rfl rfl ?_
          refine J_if_eq dX6_digitAt_41 (tgt := 56) (by decide) (fun c41 => ?_) (fun c41 => ?_)
          · have c41 := jeqT (a := 0) (b := 0) (by omega) (by omega) c41
            refine J_iconst (x := (-1)) dX6_digitAt_56 (by decide) ?_
            exact J_iret (ty := .int) dX6_digitAt_57 rfl (rfl) ⟨(by first | (simp [tDig, *]; done) | (have hl : ¬ k < L := by omega); simp [tDig, hl]; done | (unfold tDig; rw [if_pos (by omega), if_neg (Int32.not_le.mpr (by assumption))]) | (unfold tDig; rw [if_pos (by omega), if_pos (Int32.not_lt.mp (by assumption)), if_neg (Int32.not_le.mpr (by assumption))]) | (unfold tDig; rw [if_pos (by omega), if_pos (Int32.not_lt.mp (by assumption)), if_pos (Int32.not_lt.mp (by assumption))]) | fail "l"), (by rfl)⟩
          · exact absurd c41 (by decide)
        · refine J_iconst (x := 1) dX6_digitAt_34 (by decide) ?_
          refine J_goto (tgt := 39) dX6_digitAt_35 (by decide) ?_
          refine J_istore_n (lv' := [.ref (t), .int (nI (k)), .int (1)]) dX6_digitAt_39 rfl (by decide) rfl rfl ?_
          refine J_iload_n dX6_digitAt_40 rfl rfl ?_
          refine J_if_eq dX6_digitAt_41 (tgt := 56) (by decide) (fun c41 => ?_) (fun c41 => ?_)
          · exact absurd c41 (by decide)
          · have c41 := jeqF (a := 1) (b := 0) (by omega) (by omega) c41
            refine J_aload_n (t) dX6_digitAt_44 rfl rfl ?_
            refine J_getrs (q := sg) f3 dX6_digitAt_45 (fun _ h => List.mem_cons_of_mem _ (List.mem_append_left _ (List.mem_append_right _ (h)))) cs8 (by decide) rfl (List.mem_of_getElem? (i := 2) rfl) rfl f1 f2 ?_
            refine J_iload_n dX6_digitAt_48 rfl rfl ?_
            refine J_caldN (k := k) dX6_digitAt_49 f4 f5 (by exact Nat.lt_of_lt_of_eq (show _ < 60 by omega) (Eq.symm f6)) (by exact Nat.lt_of_le_of_lt (Nat.le_of_eq f6) (show 60 < 2 ^ 31 by omega)) ?_
            refine J_topi (y := (c k)) (congrFun f7 _) ?_
            refine J_bipush (x := 48) dX6_digitAt_50 (by decide) ?_
            refine J_isub dX6_digitAt_52 ?_
            refine J_goto (tgt := 57) dX6_digitAt_53 (by decide) ?_
            exact J_iret (ty := .int) dX6_digitAt_57 rfl (rfl) ⟨(by first | (simp [tDig, *]; done) | (have hl : ¬ k < L := by omega); simp [tDig, hl]; done | (unfold tDig; rw [if_pos (by omega), if_neg (Int32.not_le.mpr (by assumption))]) | (unfold tDig; rw [if_pos (by omega), if_pos (Int32.not_lt.mp (by assumption)), if_neg (Int32.not_le.mpr (by assumption))]) | (unfold tDig; rw [if_pos (by omega), if_pos (Int32.not_lt.mp (by assumption)), if_pos (Int32.not_lt.mp (by assumption))]) | fail "l"), (by rfl)⟩

theorem dX6_takes_0 : decode cX6_takes 0 = .ok (.aload_n 0, 1) := by decide +kernel
theorem dX6_takes_1 : decode cX6_takes 1 = .ok (.iload_n 1, 1) := by decide +kernel
theorem dX6_takes_2 : decode cX6_takes 2 = .ok (.invokevirtual 31, 3) := by decide +kernel
set_option maxRecDepth 20000 in
theorem ggX6_takes_X6_isAt : GoodIn wsX6_takes wsX6_isAt := goodIn_ca (goodIn_r _ [7, 1, 8, 9, 11, 12, 13, 14, 15, 16, 17, 18, 19, 20, 21, 22, 23, 24, 25, 26, 27] (by decide +kernel) (by decide +kernel)) (goodIn_sub (fun _ h => List.mem_cons_of_mem _ (List.mem_append_right _ h)) (by decide +kernel))
set_option maxRecDepth 20000 in
theorem gX6_takes_X6_isAt_u31X4 : GoodIn wsX6_takes (va_wsU RX6 31 RX4 "VersionAlgebra$TextReader" ⟨"VersionAlgebra$TextReader", "isAt", "(C)Z"⟩ yX6_isAt wsX6_isAt) := goodIn_app (goodIn_of _ (by decide +kernel)) ggX6_takes_X6_isAt
theorem yY_X6_isAt : jY yX6_isAt wsX6_isAt cX6_isAt 2 (some .boolean) 1 := ⟨⟨_, rfl⟩, by decide +kernel, by decide +kernel, by decide +kernel⟩
theorem dX6_takes_5 : decode cX6_takes 5 = .ok (.ifCond .ne 5, 3) := by decide +kernel
theorem dX6_takes_10 : decode cX6_takes 10 = .ok (.aload_n 0, 1) := by decide +kernel
theorem dX6_takes_11 : decode cX6_takes 11 = .ok (.dup, 1) := by decide +kernel
theorem dX6_takes_12 : decode cX6_takes 12 = .ok (.getfield 9, 3) := by decide +kernel
theorem dX6_takes_15 : decode cX6_takes 15 = .ok (.iconst 1, 1) := by decide +kernel
theorem dX6_takes_16 : decode cX6_takes 16 = .ok (.iadd, 1) := by decide +kernel
theorem dX6_takes_17 : decode cX6_takes 17 = .ok (.putfield 9, 3) := by decide +kernel
theorem dX6_takes_20 : decode cX6_takes 20 = .ok (.iconst 1, 1) := by decide +kernel
theorem dX6_takes_21 : decode cX6_takes 21 = .ok (.ireturn, 1) := by decide +kernel
theorem dX6_takes_8 : decode cX6_takes 8 = .ok (.iconst 0, 1) := by decide +kernel
theorem dX6_takes_9 : decode cX6_takes 9 = .ok (.ireturn, 1) := by decide +kernel
set_option maxHeartbeats 2000000 in
set_option maxRecDepth 20000 in
theorem ct_X6_takes_8 (l : Launch) (D : va_G) (dA : Nat → ClassId) (hst : l.stackTraces = false) (M : jM) (t sg : Nat) (c : Nat → Int32) (L p : Nat) (hR : jRd M t 8 sg c L p) (x : Int32) : jCT l D dA yX6_takes wsX6_takes (21) (360) (0) (0) 1 [.ref (t), .int (x)] M (jPo (oI (jb (tIsAt c L p x))) (jSi M t 2 (nI (tTk c L p x)))) := by
  refine jBody (cc := cX6_takes) (nL := 2) (rt := (some .boolean)) (ini := false) (by decide) rfl hst (Nat.le_of_ble_eq_true rfl) (by simp [Value.category]) (by intro h9; first | exact absurd h9 (by decide) | rfl) ?_
  show J l D dA RX6 cX6_takes wsX6_takes 2 false (some .boolean) [] (21) (360) (jF D dA (jn M) (jPo (oI (jb (tIsAt c L p x))) (jSi M t 2 (nI (tTk c L p x)))) 1) (jn M) (0) (0) (M) 0 [.ref (t), .int (x)] []
  obtain ⟨f1, f2, f3, f4, f5, f6, f7, f8, f9, f10, f11, f12⟩ := id hR
  refine J_aload_n (t) dX6_takes_0 rfl rfl ?_
  refine J_iload_n dX6_takes_1 rfl rfl ?_
  refine J_calli0 (jrunU (As := [.int (x)]) (ct_X6_isAt_8 l D dA hst M t sg c L p hR ((x))) dX6_takes_2 yY_X6_isAt gX6_takes_X6_isAt_u31X4 rfl cs8 f1 f2 rfl ⟨by omega, by omega⟩ ⟨Nat.zero_le _, Nat.zero_le _⟩ rfl (Nat.le_of_ble_eq_true rfl)) (rfl) (rfl) ?_
  refine J_if_ne dX6_takes_5 (tgt := 10) (by decide) (fun c5 => ?_) (fun c5 => ?_)
  · have c5 := jb0F c5
    refine J_aload_n (t) dX6_takes_10 rfl rfl ?_
    refine J_dup dX6_takes_11 rfl ?_
    refine J_geti (j := 2) dX6_takes_12 (fun _ h => List.mem_cons_of_mem _ (List.mem_append_left _ (List.mem_append_right _ (h)))) cs8 (by decide) rfl (List.mem_of_getElem? (i := 1) rfl) rfl f1 f2 ?_
    refine J_topi (y := nI (p)) (f10) ?_
    refine J_iconst (x := 1) dX6_takes_15 (by decide) ?_
    refine J_iadd dX6_takes_16 ?_
    refine J_topi (y := nI (p + 1)) (nI_add (p) (1)) ?_
    refine J_puti (j := 2) (x := nI (p + 1)) dX6_takes_17 (fun _ h => List.mem_cons_of_mem _ (List.mem_append_left _ (List.mem_append_right _ (h)))) cs8 cty8 (by decide) rfl (List.mem_of_getElem? (i := 1) rfl) rfl rfl ⟨rfl, rfl⟩ f1 f2 ?_
    refine J_iconst (x := 1) dX6_takes_20 (by decide) ?_
    exact J_iret (ty := .boolean) dX6_takes_21 rfl (by rfl) ⟨(by rw [c5]; rfl), (by rw [tTk_t c5])⟩
  · have c5 := jb0T c5
    refine J_iconst (x := 0) dX6_takes_8 (by decide) ?_
    exact J_iret (ty := .boolean) dX6_takes_9 rfl (by rfl) ⟨(by rw [c5]; rfl), (by rw [tTk_f c5]; exact (jSi_self f10).symm)⟩

theorem dX6_takeNumber_0 : decode cX6_takeNumber 0 = .ok (.aload_n 0, 1) := by decide +kernel
theorem dX6_takeNumber_1 : decode cX6_takeNumber 1 = .ok (.aload_n 0, 1) := by decide +kernel
theorem dX6_takeNumber_2 : decode cX6_takeNumber 2 = .ok (.getfield 9, 3) := by decide +kernel
theorem dX6_takeNumber_5 : decode cX6_takeNumber 5 = .ok (.invokevirtual 35, 3) := by decide +kernel
set_option maxRecDepth 20000 in
theorem ggX6_takeNumber_X6_digitAt : GoodIn wsX6_takeNumber wsX6_digitAt := goodIn_ca (goodIn_r _ [7, 8, 9, 11, 12, 13, 14, 15, 16, 17, 18, 19, 20, 21, 22, 23, 24, 25, 26, 27] (by decide +kernel) (by decide +kernel)) (goodIn_sub (fun _ h => List.mem_cons_of_mem _ (List.mem_append_right _ h)) (by decide +kernel))
set_option maxRecDepth 20000 in
theorem gX6_takeNumber_X6_digitAt_u35X4 : GoodIn wsX6_takeNumber (va_wsU RX6 35 RX4 "VersionAlgebra$TextReader" ⟨"VersionAlgebra$TextReader", "digitAt", "(I)I"⟩ yX6_digitAt wsX6_digitAt) := goodIn_app (goodIn_of _ (by decide +kernel)) ggX6_takeNumber_X6_digitAt
theorem yY_X6_digitAt : jY yX6_digitAt wsX6_digitAt cX6_digitAt 3 (some .int) 1 := ⟨⟨_, rfl⟩, by decide +kernel, by decide +kernel, by decide +kernel⟩
theorem dX6_takeNumber_8 : decode cX6_takeNumber 8 = .ok (.istore_n 1, 1) := by decide +kernel
theorem dX6_takeNumber_9 : decode cX6_takeNumber 9 = .ok (.iload_n 1, 1) := by decide +kernel
theorem dX6_takeNumber_10 : decode cX6_takeNumber 10 = .ok (.iconst (-1), 1) := by decide +kernel
theorem dX6_takeNumber_11 : decode cX6_takeNumber 11 = .ok (.if_icmp .ne 5, 3) := by decide +kernel
theorem dX6_takeNumber_16 : decode cX6_takeNumber 16 = .ok (.aload_n 0, 1) := by decide +kernel
theorem dX6_takeNumber_17 : decode cX6_takeNumber 17 = .ok (.dup, 1) := by decide +kernel
theorem dX6_takeNumber_18 : decode cX6_takeNumber 18 = .ok (.getfield 9, 3) := by decide +kernel
theorem dX6_takeNumber_21 : decode cX6_takeNumber 21 = .ok (.iconst 1, 1) := by decide +kernel
theorem dX6_takeNumber_22 : decode cX6_takeNumber 22 = .ok (.iadd, 1) := by decide +kernel
theorem dX6_takeNumber_23 : decode cX6_takeNumber 23 = .ok (.putfield 9, 3) := by decide +kernel
theorem dX6_takeNumber_26 : decode cX6_takeNumber 26 = .ok (.aload_n 0, 1) := by decide +kernel
theorem dX6_takeNumber_27 : decode cX6_takeNumber 27 = .ok (.aload_n 0, 1) := by decide +kernel
theorem dX6_takeNumber_28 : decode cX6_takeNumber 28 = .ok (.getfield 9, 3) := by decide +kernel
theorem dX6_takeNumber_31 : decode cX6_takeNumber 31 = .ok (.invokevirtual 35, 3) := by decide +kernel
theorem dX6_takeNumber_34 : decode cX6_takeNumber 34 = .ok (.istore_n 2, 1) := by decide +kernel
theorem dX6_takeNumber_35 : decode cX6_takeNumber 35 = .ok (.iload_n 1, 1) := by decide +kernel
theorem dX6_takeNumber_36 : decode cX6_takeNumber 36 = .ok (.ifCond .eq 8, 3) := by decide +kernel
theorem dX6_takeNumber_44 : decode cX6_takeNumber 44 = .ok (.iload_n 1, 1) := by decide +kernel
theorem dX6_takeNumber_45 : decode cX6_takeNumber 45 = .ok (.ireturn, 1) := by decide +kernel
theorem dX6_takeNumber_39 : decode cX6_takeNumber 39 = .ok (.iload_n 2, 1) := by decide +kernel
theorem dX6_takeNumber_40 : decode cX6_takeNumber 40 = .ok (.iconst (-1), 1) := by decide +kernel
theorem dX6_takeNumber_41 : decode cX6_takeNumber 41 = .ok (.if_icmp .ne 5, 3) := by decide +kernel
theorem dX6_takeNumber_46 : decode cX6_takeNumber 46 = .ok (.aload_n 0, 1) := by decide +kernel
theorem dX6_takeNumber_47 : decode cX6_takeNumber 47 = .ok (.dup, 1) := by decide +kernel
theorem dX6_takeNumber_48 : decode cX6_takeNumber 48 = .ok (.getfield 9, 3) := by decide +kernel
theorem dX6_takeNumber_51 : decode cX6_takeNumber 51 = .ok (.iconst 1, 1) := by decide +kernel
theorem dX6_takeNumber_52 : decode cX6_takeNumber 52 = .ok (.iadd, 1) := by decide +kernel
theorem dX6_takeNumber_53 : decode cX6_takeNumber 53 = .ok (.putfield 9, 3) := by decide +kernel
theorem dX6_takeNumber_56 : decode cX6_takeNumber 56 = .ok (.bipush 10, 2) := by decide +kernel
theorem dX6_takeNumber_58 : decode cX6_takeNumber 58 = .ok (.iload_n 1, 1) := by decide +kernel
theorem dX6_takeNumber_59 : decode cX6_takeNumber 59 = .ok (.imul, 1) := by decide +kernel
theorem dX6_takeNumber_60 : decode cX6_takeNumber 60 = .ok (.iload_n 2, 1) := by decide +kernel
theorem dX6_takeNumber_61 : decode cX6_takeNumber 61 = .ok (.iadd, 1) := by decide +kernel
theorem dX6_takeNumber_62 : decode cX6_takeNumber 62 = .ok (.ireturn, 1) := by decide +kernel
theorem dX6_takeNumber_14 : decode cX6_takeNumber 14 = .ok (.iconst (-1), 1) := by decide +kernel
theorem dX6_takeNumber_15 : decode cX6_takeNumber 15 = .ok (.ireturn, 1) := by decide +kernel
set_option maxHeartbeats 2000000 in
set_option maxRecDepth 20000 in
theorem ct_X6_takeNumber_8 (l : Launch) (D : va_G) (dA : Nat → ClassId) (hst : l.stackTraces = false) (M : jM) (t sg : Nat) (c : Nat → Int32) (L p : Nat) (hR : jRd M t 8 sg c L p) : jCT l D dA yX6_takeNumber wsX6_takeNumber (21) (360) (0) (0) 1 [.ref (t)] M (jPo (oI (tNum c L p).1) (jSi M t 2 (nI (tNum c L p).2))) := by
  refine jBody (cc := cX6_takeNumber) (nL := 3) (rt := (some .int)) (ini := false) (by decide) rfl hst (Nat.le_of_ble_eq_true rfl) (by simp [Value.category]) (by intro h9; first | exact absurd h9 (by decide) | rfl) ?_
  show J l D dA RX6 cX6_takeNumber wsX6_takeNumber 3 false (some .int) [] (21) (360) (jF D dA (jn M) (jPo (oI (tNum c L p).1) (jSi M t 2 (nI (tNum c L p).2))) 1) (jn M) (0) (0) (M) 0 [.ref (t), .float 0, .float 0] []
  obtain ⟨f1, f2, f3, f4, f5, f6, f7, f8, f9, f10, f11, f12⟩ := id hR
  refine J_aload_n (t) dX6_takeNumber_0 rfl rfl ?_
  refine J_aload_n (t) dX6_takeNumber_1 rfl rfl ?_
  refine J_geti (j := 2) dX6_takeNumber_2 (fun _ h => List.mem_cons_of_mem _ (List.mem_append_left _ (List.mem_append_right _ (h)))) cs8 (by decide) rfl (List.mem_of_getElem? (i := 1) rfl) rfl f1 f2 ?_
  refine J_topi (y := nI (p)) (f10) ?_
  refine J_calli0 (jrunU (As := [.int (nI (p))]) (ct_X6_digitAt_8 l D dA hst M t sg c L p hR p (by omega)) dX6_takeNumber_5 yY_X6_digitAt gX6_takeNumber_X6_digitAt_u35X4 rfl cs8 f1 f2 rfl ⟨by omega, by omega⟩ ⟨Nat.zero_le _, Nat.zero_le _⟩ rfl (Nat.le_of_ble_eq_true rfl)) (rfl) (rfl) ?_
  refine J_istore_n (lv' := [.ref (t), .int (tDig c L p), .float 0]) dX6_takeNumber_8 rfl (by decide) rfl rfl ?_
  refine J_iload_n dX6_takeNumber_9 rfl rfl ?_
  refine J_iconst (x := (-1)) dX6_takeNumber_10 (by decide) ?_
  refine J_icmp_ne dX6_takeNumber_11 (tgt := 16) (by decide) (fun c11 => ?_) (fun c11 => ?_)
  · refine J_aload_n (t) dX6_takeNumber_16 rfl rfl ?_
    refine J_dup dX6_takeNumber_17 rfl ?_
    refine J_geti (j := 2) dX6_takeNumber_18 (fun _ h => List.mem_cons_of_mem _ (List.mem_append_left _ (List.mem_append_right _ (h)))) cs8 (by decide) rfl (List.mem_of_getElem? (i := 1) rfl) rfl f1 f2 ?_
    refine J_topi (y := nI (p)) (f10) ?_
    refine J_iconst (x := 1) dX6_takeNumber_21 (by decide) ?_
    refine J_iadd dX6_takeNumber_22 ?_
    refine J_topi (y := nI (p + 1)) (nI_add (p) (1)) ?_
    refine J_puti (j := 2) (x := nI (p + 1)) dX6_takeNumber_23 (fun _ h => List.mem_cons_of_mem _ (List.mem_append_left _ (List.mem_append_right _ (h)))) cs8 cty8 (by decide) rfl (List.mem_of_getElem? (i := 1) rfl) rfl rfl ⟨rfl, rfl⟩ f1 f2 ?_
    have hlt := tDig_lt c11
    refine J_aload_n (t) dX6_takeNumber_26 rfl rfl ?_
    refine J_aload_n (t) dX6_takeNumber_27 rfl rfl ?_
    refine J_geti (j := 2) dX6_takeNumber_28 (fun _ h => List.mem_cons_of_mem _ (List.mem_append_left _ (List.mem_append_right _ (h)))) cs8 (by decide) rfl (List.mem_of_getElem? (i := 1) rfl) rfl f1 f2 ?_
    refine J_topi (y := nI (p + 1)) ((by simp [ji_Si])) ?_
    refine J_calli0 (jrunU (As := [.int (nI (p + 1))]) (ct_X6_digitAt_8 l D dA hst (jSi M t 2 (nI (p + 1))) t sg c L (p + 1) (hR.mv (tDig_lt c11)) (p + 1) (by omega)) dX6_takeNumber_31 yY_X6_digitAt gX6_takeNumber_X6_digitAt_u35X4 rfl cs8 f1 f2 rfl ⟨by omega, by omega⟩ ⟨Nat.zero_le _, Nat.zero_le _⟩ rfl (Nat.le_of_ble_eq_true rfl)) (rfl) (rfl) ?_
    refine J_istore_n (lv' := [.ref (t), .int (tDig c L p), .int (tDig c L (p + 1))]) dX6_takeNumber_34 rfl (by decide) rfl rfl ?_
    refine J_iload_n dX6_takeNumber_35 rfl rfl ?_
    refine J_if_eq dX6_takeNumber_36 (tgt := 44) (by decide) (fun c36 => ?_) (fun c36 => ?_)
    · refine J_iload_n dX6_takeNumber_44 rfl rfl ?_
      exact J_iret (ty := .int) dX6_takeNumber_45 rfl (rfl) ⟨(by first | (simp only [tNum, c11, reduceIte]; done) | (unfold tNum; rw [if_neg c11, if_pos c36]; done) | (unfold tNum; rw [if_neg c11, if_neg c36, if_pos c41]; done) | (unfold tNum; rw [if_neg c11, if_neg c36, if_neg c41]; done) | fail "n"), (by rw [show (tNum c L p).2 = p + 1 from by first | (unfold tNum; rw [if_neg c11, if_pos c36]; done) | (unfold tNum; rw [if_neg c11, if_neg c36, if_pos c41]; done) | fail "q"])⟩
    · refine J_iload_n dX6_takeNumber_39 rfl rfl ?_
      refine J_iconst (x := (-1)) dX6_takeNumber_40 (by decide) ?_
      refine J_icmp_ne dX6_takeNumber_41 (tgt := 46) (by decide) (fun c41 => ?_) (fun c41 => ?_)
      · refine J_aload_n (t) dX6_takeNumber_46 rfl rfl ?_
        refine J_dup dX6_takeNumber_47 rfl ?_
        refine J_geti (j := 2) dX6_takeNumber_48 (fun _ h => List.mem_cons_of_mem _ (List.mem_append_left _ (List.mem_append_right _ (h)))) cs8 (by decide) rfl (List.mem_of_getElem? (i := 1) rfl) rfl f1 f2 ?_
        refine J_topi (y := nI (p + 1)) ((by simp [ji_Si])) ?_
        refine J_iconst (x := 1) dX6_takeNumber_51 (by decide) ?_
        refine J_iadd dX6_takeNumber_52 ?_
        refine J_topi (y := nI (p + 1 + 1)) (nI_add (p + 1) (1)) ?_
        refine J_puti (j := 2) (x := nI (p + 1 + 1)) dX6_takeNumber_53 (fun _ h => List.mem_cons_of_mem _ (List.mem_append_left _ (List.mem_append_right _ (h)))) cs8 cty8 (by decide) rfl (List.mem_of_getElem? (i := 1) rfl) rfl rfl ⟨rfl, rfl⟩ f1 f2 ?_
        refine J_bipush (x := 10) dX6_takeNumber_56 (by decide) ?_
        refine J_iload_n dX6_takeNumber_58 rfl rfl ?_
        refine J_imul dX6_takeNumber_59 ?_
        refine J_iload_n dX6_takeNumber_60 rfl rfl ?_
        refine J_iadd dX6_takeNumber_61 ?_
        exact J_iret (ty := .int) dX6_takeNumber_62 rfl (rfl) ⟨(by first | (simp only [tNum, c11, reduceIte]; done) | (unfold tNum; rw [if_neg c11, if_pos c36]; done) | (unfold tNum; rw [if_neg c11, if_neg c36, if_pos c41]; done) | (unfold tNum; rw [if_neg c11, if_neg c36, if_neg c41]; done) | fail "n"), (by rw [jSi_Si, show (tNum c L p).2 = p + 1 + 1 from by simp only [tNum, c11, c36, c41, reduceIte]])⟩
      · refine J_iload_n dX6_takeNumber_44 rfl rfl ?_
        exact J_iret (ty := .int) dX6_takeNumber_45 rfl (rfl) ⟨(by first | (simp only [tNum, c11, reduceIte]; done) | (unfold tNum; rw [if_neg c11, if_pos c36]; done) | (unfold tNum; rw [if_neg c11, if_neg c36, if_pos c41]; done) | (unfold tNum; rw [if_neg c11, if_neg c36, if_neg c41]; done) | fail "n"), (by rw [show (tNum c L p).2 = p + 1 from by first | (unfold tNum; rw [if_neg c11, if_pos c36]; done) | (unfold tNum; rw [if_neg c11, if_neg c36, if_pos c41]; done) | fail "q"])⟩
  · refine J_iconst (x := (-1)) dX6_takeNumber_14 (by decide) ?_
    exact J_iret (ty := .int) dX6_takeNumber_15 rfl (rfl) ⟨(by first | (simp only [tNum, c11, reduceIte]; done) | (unfold tNum; rw [if_neg c11, if_pos c36]; done) | (unfold tNum; rw [if_neg c11, if_neg c36, if_pos c41]; done) | (unfold tNum; rw [if_neg c11, if_neg c36, if_neg c41]; done) | fail "n"), (by rw [show (tNum c L p).2 = p from by simp only [tNum, c11, reduceIte]]; exact (jSi_self f10).symm)⟩

set_option maxHeartbeats 2000000 in
set_option maxRecDepth 20000 in
theorem ct_X6_position_5 (l : Launch) (D : va_G) (dA : Nat → ClassId) (hst : l.stackTraces = false) (M : jM) (t sg : Nat) (c : Nat → Int32) (L p : Nat) (hR : jRd M t 5 sg c L p) : jCT l D dA yX6_position wsX6_position (20) (300) (0) (0) 1 [.ref (t)] M (jPo (oI (nI p)) (M)) := by
  refine jBody (cc := cX6_position) (nL := 1) (rt := (some .int)) (ini := false) (by decide) rfl hst (Nat.le_of_ble_eq_true rfl) (by simp [Value.category]) (by intro h9; first | exact absurd h9 (by decide) | rfl) ?_
  show J l D dA RX6 cX6_position wsX6_position 1 false (some .int) [] (20) (300) (jF D dA (jn M) (jPo (oI (nI p)) (M)) 1) (jn M) (0) (0) (M) 0 [.ref (t)] []
  obtain ⟨f1, f2, f3, f4, f5, f6, f7, f8, f9, f10, f11, f12⟩ := id hR
  refine J_aload_n (t) dX6_position_0 rfl rfl ?_
  refine J_geti (j := 2) dX6_position_1 (fun _ h => List.mem_cons_of_mem _ (List.mem_append_left _ (List.mem_append_right _ (h)))) cs5 (by decide) rfl (List.mem_of_getElem? (i := 1) rfl) rfl f1 f2 ?_
  refine J_topi (y := nI (p)) (f10) ?_
  exact J_iret (ty := .int) dX6_position_4 rfl (rfl) ⟨(by rfl), (by rfl)⟩

set_option maxHeartbeats 2000000 in
set_option maxRecDepth 20000 in
theorem ct_X6_textSize_5 (l : Launch) (D : va_G) (dA : Nat → ClassId) (hst : l.stackTraces = false) (M : jM) (t sg : Nat) (c : Nat → Int32) (L p : Nat) (hR : jRd M t 5 sg c L p) : jCT l D dA yX6_textSize wsX6_textSize (20) (300) (0) (0) 1 [.ref (t)] M (jPo (oI (nI L)) (M)) := by
  refine jBody (cc := cX6_textSize) (nL := 1) (rt := (some .int)) (ini := false) (by decide) rfl hst (Nat.le_of_ble_eq_true rfl) (by simp [Value.category]) (by intro h9; first | exact absurd h9 (by decide) | rfl) ?_
  show J l D dA RX6 cX6_textSize wsX6_textSize 1 false (some .int) [] (20) (300) (jF D dA (jn M) (jPo (oI (nI L)) (M)) 1) (jn M) (0) (0) (M) 0 [.ref (t)] []
  obtain ⟨f1, f2, f3, f4, f5, f6, f7, f8, f9, f10, f11, f12⟩ := id hR
  refine J_aload_n (t) dX6_textSize_0 rfl rfl ?_
  refine J_geti (j := 1) dX6_textSize_1 (fun _ h => List.mem_cons_of_mem _ (List.mem_append_left _ (List.mem_append_right _ (h)))) cs5 (by decide) rfl (List.mem_of_getElem? (i := 1) rfl) rfl f1 f2 ?_
  refine J_topi (y := nI (L)) (f8) ?_
  exact J_iret (ty := .int) dX6_textSize_4 rfl (rfl) ⟨(by rfl), (by rfl)⟩

set_option maxHeartbeats 2000000 in
set_option maxRecDepth 20000 in
theorem ct_X6_isAtEnd_5 (l : Launch) (D : va_G) (dA : Nat → ClassId) (hst : l.stackTraces = false) (M : jM) (t sg : Nat) (c : Nat → Int32) (L p : Nat) (hR : jRd M t 5 sg c L p) : jCT l D dA yX6_isAtEnd wsX6_isAtEnd (20) (300) (0) (0) 1 [.ref (t)] M (jPo (oI (jb (decide (p = L)))) (M)) := by
  refine jBody (cc := cX6_isAtEnd) (nL := 1) (rt := (some .boolean)) (ini := false) (by decide) rfl hst (Nat.le_of_ble_eq_true rfl) (by simp [Value.category]) (by intro h9; first | exact absurd h9 (by decide) | rfl) ?_
  show J l D dA RX6 cX6_isAtEnd wsX6_isAtEnd 1 false (some .boolean) [] (20) (300) (jF D dA (jn M) (jPo (oI (jb (decide (p = L)))) (M)) 1) (jn M) (0) (0) (M) 0 [.ref (t)] []
  obtain ⟨f1, f2, f3, f4, f5, f6, f7, f8, f9, f10, f11, f12⟩ := id hR
  refine J_aload_n (t) dX6_isAtEnd_0 rfl rfl ?_
  refine J_geti (j := 2) dX6_isAtEnd_1 (fun _ h => List.mem_cons_of_mem _ (List.mem_append_left _ (List.mem_append_right _ (h)))) cs5 (by decide) rfl (List.mem_of_getElem? (i := 1) rfl) rfl f1 f2 ?_
  refine J_topi (y := nI (p)) (f10) ?_
  refine J_aload_n (t) dX6_isAtEnd_4 rfl rfl ?_
  refine J_geti (j := 1) dX6_isAtEnd_5 (fun _ h => List.mem_cons_of_mem _ (List.mem_append_left _ (List.mem_append_right _ (h)))) cs5 (by decide) rfl (List.mem_of_getElem? (i := 2) rfl) rfl f1 f2 ?_
  refine J_topi (y := nI (L)) (f8) ?_
  refine J_icmp_ne dX6_isAtEnd_8 (tgt := 15) (by decide) (fun c8 => ?_) (fun c8 => ?_)
  · have c8 := jeqF (a := p) (b := L) (by omega) (by omega) c8
    refine J_iconst (x := 0) dX6_isAtEnd_15 (by decide) ?_
    exact J_iret (ty := .boolean) dX6_isAtEnd_16 rfl (by rfl) ⟨(by simp [jb, *]), (by rfl)⟩
  · have c8 := jeqT (a := p) (b := L) (by omega) (by omega) c8
    refine J_iconst (x := 1) dX6_isAtEnd_11 (by decide) ?_
    refine J_goto (tgt := 16) dX6_isAtEnd_12 (by decide) ?_
    exact J_iret (ty := .boolean) dX6_isAtEnd_16 rfl (by rfl) ⟨(by simp [jb, *]), (by rfl)⟩

set_option maxHeartbeats 2000000 in
set_option maxRecDepth 20000 in
theorem ct_X6_isAt_5 (l : Launch) (D : va_G) (dA : Nat → ClassId) (hst : l.stackTraces = false) (M : jM) (t sg : Nat) (c : Nat → Int32) (L p : Nat) (hR : jRd M t 5 sg c L p) (x : Int32) : jCT l D dA yX6_isAt wsX6_isAt (20) (300) (0) (0) 1 [.ref (t), .int (x)] M (jPo (oI (jb (tIsAt c L p x))) (M)) := by
  refine jBody (cc := cX6_isAt) (nL := 2) (rt := (some .boolean)) (ini := false) (by decide) rfl hst (Nat.le_of_ble_eq_true rfl) (by simp [Value.category]) (by intro h9; first | exact absurd h9 (by decide) | rfl) ?_
  show J l D dA RX6 cX6_isAt wsX6_isAt 2 false (some .boolean) [] (20) (300) (jF D dA (jn M) (jPo (oI (jb (tIsAt c L p x))) (M)) 1) (jn M) (0) (0) (M) 0 [.ref (t), .int (x)] []
  obtain ⟨f1, f2, f3, f4, f5, f6, f7, f8, f9, f10, f11, f12⟩ := id hR
  refine J_aload_n (t) dX6_isAt_0 rfl rfl ?_
  refine J_geti (j := 2) dX6_isAt_1 (fun _ h => List.mem_cons_of_mem _ (List.mem_append_left _ (List.mem_append_left _ (List.mem_append_right _ (h))))) cs5 (by decide) rfl (List.mem_of_getElem? (i := 1) rfl) rfl f1 f2 ?_
  refine J_topi (y := nI (p)) (f10) ?_
  refine J_aload_n (t) dX6_isAt_4 rfl rfl ?_
  refine J_geti (j := 1) dX6_isAt_5 (fun _ h => List.mem_cons_of_mem _ (List.mem_append_left _ (List.mem_append_left _ (List.mem_append_right _ (h))))) cs5 (by decide) rfl (List.mem_of_getElem? (i := 2) rfl) rfl f1 f2 ?_
  refine J_topi (y := nI (L)) (f8) ?_
  refine J_icmp_ge dX6_isAt_8 (tgt := 28) (by decide) (fun c8 => ?_) (fun c8 => ?_)
  · have c8 := jleT (a := L) (b := p) (by omega) (by omega) c8
    refine J_iconst (x := 0) dX6_isAt_28 (by decide) ?_
    exact J_iret (ty := .boolean) dX6_isAt_29 rfl (by rfl) ⟨(by first | (simp [jb, tIsAt, *]; done) | (have hl : ¬ p < L := by omega); simp [jb, tIsAt, hl] | fail "l"), (by rfl)⟩
  · have c8 := jleF (a := L) (b := p) (by omega) (by omega) c8
    refine J_aload_n (t) dX6_isAt_11 rfl rfl ?_
    refine J_getrs (q := sg) f3 dX6_isAt_12 (fun _ h => List.mem_cons_of_mem _ (List.mem_append_left _ (List.mem_append_left _ (List.mem_append_right _ (h))))) cs5 (by decide) rfl (List.mem_of_getElem? (i := 3) rfl) rfl f1 f2 ?_
    refine J_aload_n (t) dX6_isAt_15 rfl rfl ?_
    refine J_geti (j := 2) dX6_isAt_16 (fun _ h => List.mem_cons_of_mem _ (List.mem_append_left _ (List.mem_append_left _ (List.mem_append_right _ (h))))) cs5 (by decide) rfl (List.mem_of_getElem? (i := 1) rfl) rfl f1 f2 ?_
    refine J_topi (y := nI (p)) (f10) ?_
    refine J_caldN (k := p) dX6_isAt_19 f4 f5 (by exact Nat.lt_of_lt_of_eq (show _ < 60 by omega) (Eq.symm f6)) (by exact Nat.lt_of_le_of_lt (Nat.le_of_eq f6) (show 60 < 2 ^ 31 by omega)) ?_
    refine J_topi (y := (c p)) (congrFun f7 _) ?_
    refine J_iload_n dX6_isAt_20 rfl rfl ?_
    refine J_icmp_ne dX6_isAt_21 (tgt := 28) (by decide) (fun c21 => ?_) (fun c21 => ?_)
    · refine J_iconst (x := 0) dX6_isAt_28 (by decide) ?_
      exact J_iret (ty := .boolean) dX6_isAt_29 rfl (by rfl) ⟨(by first | (simp [jb, tIsAt, *]; done) | (have hl : ¬ p < L := by omega); simp [jb, tIsAt, hl] | fail "l"), (by rfl)⟩
    · refine J_iconst (x := 1) dX6_isAt_24 (by decide) ?_
      refine J_goto (tgt := 29) dX6_isAt_25 (by decide) ?_
      exact J_iret (ty := .boolean) dX6_isAt_29 rfl (by rfl) ⟨(by first | (simp [jb, tIsAt, *]; done) | (have hl : ¬ p < L := by omega); simp [jb, tIsAt, hl] | fail "l"), (by rfl)⟩

set_option maxHeartbeats 2000000 in
set_option maxRecDepth 20000 in
theorem ct_X6_digitAt_5 (l : Launch) (D : va_G) (dA : Nat → ClassId) (hst : l.stackTraces = false) (M : jM) (t sg : Nat) (c : Nat → Int32) (L p : Nat) (hR : jRd M t 5 sg c L p) (k : Nat) (hk : k ≤ 60) : jCT l D dA yX6_digitAt wsX6_digitAt (20) (300) (0) (0) 1 [.ref (t), .int (nI (k))] M (jPo (oI (tDig c L k)) (M)) := by
  refine jBody (cc := cX6_digitAt) (nL := 3) (rt := (some .int)) (ini := false) (by decide) rfl hst (Nat.le_of_ble_eq_true rfl) (by simp [Value.category]) (by intro h9; first | exact absurd h9 (by decide) | rfl) ?_
  show J l D dA RX6 cX6_digitAt wsX6_digitAt 3 false (some .int) [] (20) (300) (jF D dA (jn M) (jPo (oI (tDig c L k)) (M)) 1) (jn M) (0) (0) (M) 0 [.ref (t), .int (nI (k)), .float 0] []
  obtain ⟨f1, f2, f3, f4, f5, f6, f7, f8, f9, f10, f11, f12⟩ := id hR
  refine J_iload_n dX6_digitAt_0 rfl rfl ?_
  refine J_if_lt dX6_digitAt_1 (tgt := 38) (by decide) (fun c1 => ?_) (fun c1 => ?_)
  · have c1 := jltT (a := k) (b := 0) (by omega) (by omega) c1
    refine J_iconst (x := 0) dX6_digitAt_38 (by decide) ?_
    refine J_istore_n (lv' := [.ref (t), .int (nI (k)), .int (0)]) dX6_digitAt_39 rfl (by decide) rfl rfl ?_
    refine J_iload_n dX6_digitAt_40 rfl rfl ?_
    refine J_if_eq dX6_digitAt_41 (tgt := 56) (by decide) (fun c41 => ?_) (fun c41 => ?_)
    · have c41 := jeqT (a := 0) (b := 0) (by omega) (by omega) c41
      refine J_iconst (x := (-1)) dX6_digitAt_56 (by decide) ?_
      exact J_iret (ty := .int) dX6_digitAt_57 rfl (rfl) ⟨(by first | (simp [tDig, *]; done) | (have hl : ¬ k < L := by omega); simp [tDig, hl]; done | (unfold tDig; rw [if_pos (by omega), if_neg (Int32.not_le.mpr (by assumption))]) | (unfold tDig; rw [if_pos (by omega), if_pos (Int32.not_lt.mp (by assumption)), if_neg (Int32.not_le.mpr (by assumption))]) | (unfold tDig; rw [if_pos (by omega), if_pos (Int32.not_lt.mp (by assumption)), if_pos (Int32.not_lt.mp (by assumption))]) | fail "l"), (by rfl)⟩
    · exact absurd c41 (by decide)
  · have c1 := jltF (a := k) (b := 0) (by omega) (by omega) c1
    refine J_iload_n dX6_digitAt_4 rfl rfl ?_
    refine J_aload_n (t) dX6_digitAt_5 rfl rfl ?_
    refine J_geti (j := 1) dX6_digitAt_6 (fun _ h => List.mem_cons_of_mem _ (List.mem_append_left _ (List.mem_append_left _ (List.mem_append_right _ (h))))) cs5 (by decide) rfl (List.mem_of_getElem? (i := 1) rfl) rfl f1 f2 ?_
    refine J_topi (y := nI (L)) (f8) ?_
    refine J_icmp_ge dX6_digitAt_9 (tgt := 38) (by decide) (fun c9 => ?_) (fun c9 => ?_)
    · have c9 := jleT (a := L) (b := k) (by omega) (by omega) c9
      refine J_iconst (x := 0) dX6_digitAt_38 (by decide) ?_
      refine J_istore_n (lv' := [.ref (t), .int (nI (k)), .int (0)]) dX6_digitAt_39 rfl (by decide) rfl rfl ?_
      refine J_iload_n dX6_digitAt_40 rfl rfl ?_
      refine J_if_eq dX6_digitAt_41 (tgt := 56) (by decide) (fun c41 => ?_) (fun c41 => ?_)
      · have c41 := jeqT (a := 0) (b := 0) (by omega) (by omega) c41
        refine J_iconst (x := (-1)) dX6_digitAt_56 (by decide) ?_
        exact J_iret (ty := .int) dX6_digitAt_57 rfl (rfl) ⟨(by first | (simp [tDig, *]; done) | (have hl : ¬ k < L := by omega); simp [tDig, hl]; done | (unfold tDig; rw [if_pos (by omega), if_neg (Int32.not_le.mpr (by assumption))]) | (unfold tDig; rw [if_pos (by omega), if_pos (Int32.not_lt.mp (by assumption)), if_neg (Int32.not_le.mpr (by assumption))]) | (unfold tDig; rw [if_pos (by omega), if_pos (Int32.not_lt.mp (by assumption)), if_pos (Int32.not_lt.mp (by assumption))]) | fail "l"), (by rfl)⟩
      · exact absurd c41 (by decide)
    · have c9 := jleF (a := L) (b := k) (by omega) (by omega) c9
      refine J_aload_n (t) dX6_digitAt_12 rfl rfl ?_
      refine J_getrs (q := sg) f3 dX6_digitAt_13 (fun _ h => List.mem_cons_of_mem _ (List.mem_append_left _ (List.mem_append_left _ (List.mem_append_right _ (h))))) cs5 (by decide) rfl (List.mem_of_getElem? (i := 2) rfl) rfl f1 f2 ?_
      refine J_iload_n dX6_digitAt_16 rfl rfl ?_
      refine J_caldN (k := k) dX6_digitAt_17 f4 f5 (by exact Nat.lt_of_lt_of_eq (show _ < 60 by omega) (Eq.symm f6)) (by exact Nat.lt_of_le_of_lt (Nat.le_of_eq f6) (show 60 < 2 ^ 31 by omega)) ?_
      refine J_topi (y := (c k)) (congrFun f7 _) ?_
      refine J_bipush (x := 48) dX6_digitAt_18 (by decide) ?_
      refine J_icmp_lt dX6_digitAt_20 (tgt := 38) (by decide) (fun c20 => ?_) (fun c20 => ?_)
      · refine J_iconst (x := 0) dX6_digitAt_38 (by decide) ?_
        refine J_istore_n (lv' := [.ref (t), .int (nI (k)), .int (0)]) dX6_digitAt_39 rfl (by decide) rfl rfl ?_
        refine J_iload_n dX6_digitAt_40 rfl rfl ?_
        refine J_if_eq dX6_digitAt_41 (tgt := 56) (by decide) (fun c41 => ?_) (fun c41 => ?_)
        · have c41 := jeqT (a := 0) (b := 0) (by omega) (by omega) c41
          refine J_iconst (x := (-1)) dX6_digitAt_56 (by decide) ?_
          exact J_iret (ty := .int) dX6_digitAt_57 rfl (rfl) ⟨(by first | (simp [tDig, *]; done) | (have hl : ¬ k < L := by omega); simp [tDig, hl]; done | (unfold tDig; rw [if_pos (by omega), if_neg (Int32.not_le.mpr (by assumption))]) | (unfold tDig; rw [if_pos (by omega), if_pos (Int32.not_lt.mp (by assumption)), if_neg (Int32.not_le.mpr (by assumption))]) | (unfold tDig; rw [if_pos (by omega), if_pos (Int32.not_lt.mp (by assumption)), if_pos (Int32.not_lt.mp (by assumption))]) | fail "l"), (by rfl)⟩
        · exact absurd c41 (by decide)
      · refine J_aload_n (t) dX6_digitAt_23 rfl rfl ?_
        refine J_getrs (q := sg) f3 dX6_digitAt_24 (fun _ h => List.mem_cons_of_mem _ (List.mem_append_left _ (List.mem_append_left _ (List.mem_append_right _ (h))))) cs5 (by decide) rfl (List.mem_of_getElem? (i := 2) rfl) rfl f1 f2 ?_
        refine J_iload_n dX6_digitAt_27 rfl rfl ?_
        refine J_caldN (k := k) dX6_digitAt_28 f4 f5 (by exact Nat.lt_of_lt_of_eq (show _ < 60 by omega) (Eq.symm f6)) (by exact Nat.lt_of_le_of_lt (Nat.le_of_eq f6) (show 60 < 2 ^ 31 by omega)) ?_
        refine J_topi (y := (c k)) (congrFun f7 _) ?_
        refine J_bipush (x := 57) dX6_digitAt_29 (by decide) ?_
        refine J_icmp_gt dX6_digitAt_31 (tgt := 38) (by decide) (fun c31 => ?_) (fun c31 => ?_)
        · refine J_iconst (x := 0) dX6_digitAt_38 (by decide) ?_
          refine J_istore_n (lv' := [.ref (t), .int (nI (k)), .int (0)]) dX6_digitAt_39 rfl (by decide) rfl rfl ?_
          refine J_iload_n dX6_digitAt_40 rfl rfl ?_
          refine J_if_eq dX6_digitAt_41 (tgt := 56) (by decide) (fun c41 => ?_) (fun c41 => ?_)
          · have c41 := jeqT (a := 0) (b := 0) (by omega) (by omega) c41
            refine J_iconst (x := (-1)) dX6_digitAt_56 (by decide) ?_
            exact J_iret (ty := .int) dX6_digitAt_57 rfl (rfl) ⟨(by first | (simp [tDig, *]; done) | (have hl : ¬ k < L := by omega); simp [tDig, hl]; done | (unfold tDig; rw [if_pos (by omega), if_neg (Int32.not_le.mpr (by assumption))]) | (unfold tDig; rw [if_pos (by omega), if_pos (Int32.not_lt.mp (by assumption)), if_neg (Int32.not_le.mpr (by assumption))]) | (unfold tDig; rw [if_pos (by omega), if_pos (Int32.not_lt.mp (by assumption)), if_pos (Int32.not_lt.mp (by assumption))]) | fail "l"), (by rfl)⟩
          · exact absurd c41 (by decide)
        · refine J_iconst (x := 1) dX6_digitAt_34 (by decide) ?_
          refine J_goto (tgt := 39) dX6_digitAt_35 (by decide) ?_
          refine J_istore_n (lv' := [.ref (t), .int (nI (k)), .int (1)]) dX6_digitAt_39 rfl (by decide) rfl rfl ?_
          refine J_iload_n dX6_digitAt_40 rfl rfl ?_
          refine J_if_eq dX6_digitAt_41 (tgt := 56) (by decide) (fun c41 => ?_) (fun c41 => ?_)
          · exact absurd c41 (by decide)
          · have c41 := jeqF (a := 1) (b := 0) (by omega) (by omega) c41
            refine J_aload_n (t) dX6_digitAt_44 rfl rfl ?_
            refine J_getrs (q := sg) f3 dX6_digitAt_45 (fun _ h => List.mem_cons_of_mem _ (List.mem_append_left _ (List.mem_append_left _ (List.mem_append_right _ (h))))) cs5 (by decide) rfl (List.mem_of_getElem? (i := 2) rfl) rfl f1 f2 ?_
            refine J_iload_n dX6_digitAt_48 rfl rfl ?_
            refine J_caldN (k := k) dX6_digitAt_49 f4 f5 (by exact Nat.lt_of_lt_of_eq (show _ < 60 by omega) (Eq.symm f6)) (by exact Nat.lt_of_le_of_lt (Nat.le_of_eq f6) (show 60 < 2 ^ 31 by omega)) ?_
            refine J_topi (y := (c k)) (congrFun f7 _) ?_
            refine J_bipush (x := 48) dX6_digitAt_50 (by decide) ?_
            refine J_isub dX6_digitAt_52 ?_
            refine J_goto (tgt := 57) dX6_digitAt_53 (by decide) ?_
            exact J_iret (ty := .int) dX6_digitAt_57 rfl (rfl) ⟨(by first | (simp [tDig, *]; done) | (have hl : ¬ k < L := by omega); simp [tDig, hl]; done | (unfold tDig; rw [if_pos (by omega), if_neg (Int32.not_le.mpr (by assumption))]) | (unfold tDig; rw [if_pos (by omega), if_pos (Int32.not_lt.mp (by assumption)), if_neg (Int32.not_le.mpr (by assumption))]) | (unfold tDig; rw [if_pos (by omega), if_pos (Int32.not_lt.mp (by assumption)), if_pos (Int32.not_lt.mp (by assumption))]) | fail "l"), (by rfl)⟩

set_option maxRecDepth 20000 in
theorem gX6_takes_X6_isAt_u31X1 : GoodIn wsX6_takes (va_wsU RX6 31 RX1 "VersionAlgebra$TextReader" ⟨"VersionAlgebra$TextReader", "isAt", "(C)Z"⟩ yX6_isAt wsX6_isAt) := goodIn_app (goodIn_of _ (by decide +kernel)) ggX6_takes_X6_isAt
set_option maxHeartbeats 2000000 in
set_option maxRecDepth 20000 in
theorem ct_X6_takes_5 (l : Launch) (D : va_G) (dA : Nat → ClassId) (hst : l.stackTraces = false) (M : jM) (t sg : Nat) (c : Nat → Int32) (L p : Nat) (hR : jRd M t 5 sg c L p) (x : Int32) : jCT l D dA yX6_takes wsX6_takes (21) (360) (0) (0) 1 [.ref (t), .int (x)] M (jPo (oI (jb (tIsAt c L p x))) (jSi M t 2 (nI (tTk c L p x)))) := by
  refine jBody (cc := cX6_takes) (nL := 2) (rt := (some .boolean)) (ini := false) (by decide) rfl hst (Nat.le_of_ble_eq_true rfl) (by simp [Value.category]) (by intro h9; first | exact absurd h9 (by decide) | rfl) ?_
  show J l D dA RX6 cX6_takes wsX6_takes 2 false (some .boolean) [] (21) (360) (jF D dA (jn M) (jPo (oI (jb (tIsAt c L p x))) (jSi M t 2 (nI (tTk c L p x)))) 1) (jn M) (0) (0) (M) 0 [.ref (t), .int (x)] []
  obtain ⟨f1, f2, f3, f4, f5, f6, f7, f8, f9, f10, f11, f12⟩ := id hR
  refine J_aload_n (t) dX6_takes_0 rfl rfl ?_
  refine J_iload_n dX6_takes_1 rfl rfl ?_
  refine J_calli0 (jrunU (As := [.int (x)]) (ct_X6_isAt_5 l D dA hst M t sg c L p hR ((x))) dX6_takes_2 yY_X6_isAt gX6_takes_X6_isAt_u31X1 rfl cs5 f1 f2 rfl ⟨by omega, by omega⟩ ⟨Nat.zero_le _, Nat.zero_le _⟩ rfl (Nat.le_of_ble_eq_true rfl)) (rfl) (rfl) ?_
  refine J_if_ne dX6_takes_5 (tgt := 10) (by decide) (fun c5 => ?_) (fun c5 => ?_)
  · have c5 := jb0F c5
    refine J_aload_n (t) dX6_takes_10 rfl rfl ?_
    refine J_dup dX6_takes_11 rfl ?_
    refine J_geti (j := 2) dX6_takes_12 (fun _ h => List.mem_cons_of_mem _ (List.mem_append_left _ (List.mem_append_left _ (List.mem_append_right _ (h))))) cs5 (by decide) rfl (List.mem_of_getElem? (i := 1) rfl) rfl f1 f2 ?_
    refine J_topi (y := nI (p)) (f10) ?_
    refine J_iconst (x := 1) dX6_takes_15 (by decide) ?_
    refine J_iadd dX6_takes_16 ?_
    refine J_topi (y := nI (p + 1)) (nI_add (p) (1)) ?_
    refine J_puti (j := 2) (x := nI (p + 1)) dX6_takes_17 (fun _ h => List.mem_cons_of_mem _ (List.mem_append_left _ (List.mem_append_left _ (List.mem_append_right _ (h))))) cs5 cty5 (by decide) rfl (List.mem_of_getElem? (i := 1) rfl) rfl rfl ⟨rfl, rfl⟩ f1 f2 ?_
    refine J_iconst (x := 1) dX6_takes_20 (by decide) ?_
    exact J_iret (ty := .boolean) dX6_takes_21 rfl (by rfl) ⟨(by rw [c5]; rfl), (by rw [tTk_t c5])⟩
  · have c5 := jb0T c5
    refine J_iconst (x := 0) dX6_takes_8 (by decide) ?_
    exact J_iret (ty := .boolean) dX6_takes_9 rfl (by rfl) ⟨(by rw [c5]; rfl), (by rw [tTk_f c5]; exact (jSi_self f10).symm)⟩

set_option maxRecDepth 20000 in
theorem gX6_takeNumber_X6_digitAt_u35X1 : GoodIn wsX6_takeNumber (va_wsU RX6 35 RX1 "VersionAlgebra$TextReader" ⟨"VersionAlgebra$TextReader", "digitAt", "(I)I"⟩ yX6_digitAt wsX6_digitAt) := goodIn_app (goodIn_of _ (by decide +kernel)) ggX6_takeNumber_X6_digitAt
set_option maxHeartbeats 2000000 in
set_option maxRecDepth 20000 in
theorem ct_X6_takeNumber_5 (l : Launch) (D : va_G) (dA : Nat → ClassId) (hst : l.stackTraces = false) (M : jM) (t sg : Nat) (c : Nat → Int32) (L p : Nat) (hR : jRd M t 5 sg c L p) : jCT l D dA yX6_takeNumber wsX6_takeNumber (21) (360) (0) (0) 1 [.ref (t)] M (jPo (oI (tNum c L p).1) (jSi M t 2 (nI (tNum c L p).2))) := by
  refine jBody (cc := cX6_takeNumber) (nL := 3) (rt := (some .int)) (ini := false) (by decide) rfl hst (Nat.le_of_ble_eq_true rfl) (by simp [Value.category]) (by intro h9; first | exact absurd h9 (by decide) | rfl) ?_
  show J l D dA RX6 cX6_takeNumber wsX6_takeNumber 3 false (some .int) [] (21) (360) (jF D dA (jn M) (jPo (oI (tNum c L p).1) (jSi M t 2 (nI (tNum c L p).2))) 1) (jn M) (0) (0) (M) 0 [.ref (t), .float 0, .float 0] []
  obtain ⟨f1, f2, f3, f4, f5, f6, f7, f8, f9, f10, f11, f12⟩ := id hR
  refine J_aload_n (t) dX6_takeNumber_0 rfl rfl ?_
  refine J_aload_n (t) dX6_takeNumber_1 rfl rfl ?_
  refine J_geti (j := 2) dX6_takeNumber_2 (fun _ h => List.mem_cons_of_mem _ (List.mem_append_left _ (List.mem_append_left _ (List.mem_append_right _ (h))))) cs5 (by decide) rfl (List.mem_of_getElem? (i := 1) rfl) rfl f1 f2 ?_
  refine J_topi (y := nI (p)) (f10) ?_
  refine J_calli0 (jrunU (As := [.int (nI (p))]) (ct_X6_digitAt_5 l D dA hst M t sg c L p hR p (by omega)) dX6_takeNumber_5 yY_X6_digitAt gX6_takeNumber_X6_digitAt_u35X1 rfl cs5 f1 f2 rfl ⟨by omega, by omega⟩ ⟨Nat.zero_le _, Nat.zero_le _⟩ rfl (Nat.le_of_ble_eq_true rfl)) (rfl) (rfl) ?_
  refine J_istore_n (lv' := [.ref (t), .int (tDig c L p), .float 0]) dX6_takeNumber_8 rfl (by decide) rfl rfl ?_
  refine J_iload_n dX6_takeNumber_9 rfl rfl ?_
  refine J_iconst (x := (-1)) dX6_takeNumber_10 (by decide) ?_
  refine J_icmp_ne dX6_takeNumber_11 (tgt := 16) (by decide) (fun c11 => ?_) (fun c11 => ?_)
  · refine J_aload_n (t) dX6_takeNumber_16 rfl rfl ?_
    refine J_dup dX6_takeNumber_17 rfl ?_
    refine J_geti (j := 2) dX6_takeNumber_18 (fun _ h => List.mem_cons_of_mem _ (List.mem_append_left _ (List.mem_append_left _ (List.mem_append_right _ (h))))) cs5 (by decide) rfl (List.mem_of_getElem? (i := 1) rfl) rfl f1 f2 ?_
    refine J_topi (y := nI (p)) (f10) ?_
    refine J_iconst (x := 1) dX6_takeNumber_21 (by decide) ?_
    refine J_iadd dX6_takeNumber_22 ?_
    refine J_topi (y := nI (p + 1)) (nI_add (p) (1)) ?_
    refine J_puti (j := 2) (x := nI (p + 1)) dX6_takeNumber_23 (fun _ h => List.mem_cons_of_mem _ (List.mem_append_left _ (List.mem_append_left _ (List.mem_append_right _ (h))))) cs5 cty5 (by decide) rfl (List.mem_of_getElem? (i := 1) rfl) rfl rfl ⟨rfl, rfl⟩ f1 f2 ?_
    have hlt := tDig_lt c11
    refine J_aload_n (t) dX6_takeNumber_26 rfl rfl ?_
    refine J_aload_n (t) dX6_takeNumber_27 rfl rfl ?_
    refine J_geti (j := 2) dX6_takeNumber_28 (fun _ h => List.mem_cons_of_mem _ (List.mem_append_left _ (List.mem_append_left _ (List.mem_append_right _ (h))))) cs5 (by decide) rfl (List.mem_of_getElem? (i := 1) rfl) rfl f1 f2 ?_
    refine J_topi (y := nI (p + 1)) ((by simp [ji_Si])) ?_
    refine J_calli0 (jrunU (As := [.int (nI (p + 1))]) (ct_X6_digitAt_5 l D dA hst (jSi M t 2 (nI (p + 1))) t sg c L (p + 1) (hR.mv (tDig_lt c11)) (p + 1) (by omega)) dX6_takeNumber_31 yY_X6_digitAt gX6_takeNumber_X6_digitAt_u35X1 rfl cs5 f1 f2 rfl ⟨by omega, by omega⟩ ⟨Nat.zero_le _, Nat.zero_le _⟩ rfl (Nat.le_of_ble_eq_true rfl)) (rfl) (rfl) ?_
    refine J_istore_n (lv' := [.ref (t), .int (tDig c L p), .int (tDig c L (p + 1))]) dX6_takeNumber_34 rfl (by decide) rfl rfl ?_
    refine J_iload_n dX6_takeNumber_35 rfl rfl ?_
    refine J_if_eq dX6_takeNumber_36 (tgt := 44) (by decide) (fun c36 => ?_) (fun c36 => ?_)
    · refine J_iload_n dX6_takeNumber_44 rfl rfl ?_
      exact J_iret (ty := .int) dX6_takeNumber_45 rfl (rfl) ⟨(by first | (simp only [tNum, c11, reduceIte]; done) | (unfold tNum; rw [if_neg c11, if_pos c36]; done) | (unfold tNum; rw [if_neg c11, if_neg c36, if_pos c41]; done) | (unfold tNum; rw [if_neg c11, if_neg c36, if_neg c41]; done) | fail "n"), (by rw [show (tNum c L p).2 = p + 1 from by first | (unfold tNum; rw [if_neg c11, if_pos c36]; done) | (unfold tNum; rw [if_neg c11, if_neg c36, if_pos c41]; done) | fail "q"])⟩
    · refine J_iload_n dX6_takeNumber_39 rfl rfl ?_
      refine J_iconst (x := (-1)) dX6_takeNumber_40 (by decide) ?_
      refine J_icmp_ne dX6_takeNumber_41 (tgt := 46) (by decide) (fun c41 => ?_) (fun c41 => ?_)
      · refine J_aload_n (t) dX6_takeNumber_46 rfl rfl ?_
        refine J_dup dX6_takeNumber_47 rfl ?_
        refine J_geti (j := 2) dX6_takeNumber_48 (fun _ h => List.mem_cons_of_mem _ (List.mem_append_left _ (List.mem_append_left _ (List.mem_append_right _ (h))))) cs5 (by decide) rfl (List.mem_of_getElem? (i := 1) rfl) rfl f1 f2 ?_
        refine J_topi (y := nI (p + 1)) ((by simp [ji_Si])) ?_
        refine J_iconst (x := 1) dX6_takeNumber_51 (by decide) ?_
        refine J_iadd dX6_takeNumber_52 ?_
        refine J_topi (y := nI (p + 1 + 1)) (nI_add (p + 1) (1)) ?_
        refine J_puti (j := 2) (x := nI (p + 1 + 1)) dX6_takeNumber_53 (fun _ h => List.mem_cons_of_mem _ (List.mem_append_left _ (List.mem_append_left _ (List.mem_append_right _ (h))))) cs5 cty5 (by decide) rfl (List.mem_of_getElem? (i := 1) rfl) rfl rfl ⟨rfl, rfl⟩ f1 f2 ?_
        refine J_bipush (x := 10) dX6_takeNumber_56 (by decide) ?_
        refine J_iload_n dX6_takeNumber_58 rfl rfl ?_
        refine J_imul dX6_takeNumber_59 ?_
        refine J_iload_n dX6_takeNumber_60 rfl rfl ?_
        refine J_iadd dX6_takeNumber_61 ?_
        exact J_iret (ty := .int) dX6_takeNumber_62 rfl (rfl) ⟨(by first | (simp only [tNum, c11, reduceIte]; done) | (unfold tNum; rw [if_neg c11, if_pos c36]; done) | (unfold tNum; rw [if_neg c11, if_neg c36, if_pos c41]; done) | (unfold tNum; rw [if_neg c11, if_neg c36, if_neg c41]; done) | fail "n"), (by rw [jSi_Si, show (tNum c L p).2 = p + 1 + 1 from by simp only [tNum, c11, c36, c41, reduceIte]])⟩
      · refine J_iload_n dX6_takeNumber_44 rfl rfl ?_
        exact J_iret (ty := .int) dX6_takeNumber_45 rfl (rfl) ⟨(by first | (simp only [tNum, c11, reduceIte]; done) | (unfold tNum; rw [if_neg c11, if_pos c36]; done) | (unfold tNum; rw [if_neg c11, if_neg c36, if_pos c41]; done) | (unfold tNum; rw [if_neg c11, if_neg c36, if_neg c41]; done) | fail "n"), (by rw [show (tNum c L p).2 = p + 1 from by first | (unfold tNum; rw [if_neg c11, if_pos c36]; done) | (unfold tNum; rw [if_neg c11, if_neg c36, if_pos c41]; done) | fail "q"])⟩
  · refine J_iconst (x := (-1)) dX6_takeNumber_14 (by decide) ?_
    exact J_iret (ty := .int) dX6_takeNumber_15 rfl (rfl) ⟨(by first | (simp only [tNum, c11, reduceIte]; done) | (unfold tNum; rw [if_neg c11, if_pos c36]; done) | (unfold tNum; rw [if_neg c11, if_neg c36, if_pos c41]; done) | (unfold tNum; rw [if_neg c11, if_neg c36, if_neg c41]; done) | fail "n"), (by rw [show (tNum c L p).2 = p from by simp only [tNum, c11, reduceIte]]; exact (jSi_self f10).symm)⟩

theorem dX6_init_0 : decode cX6_init 0 = .ok (.aload_n 0, 1) := by decide +kernel
theorem dX6_init_1 : decode cX6_init 1 = .ok (.invokespecial 3, 3) := by decide +kernel
theorem dX6_init_4 : decode cX6_init 4 = .ok (.aload_n 0, 1) := by decide +kernel
theorem dX6_init_5 : decode cX6_init 5 = .ok (.iconst 0, 1) := by decide +kernel
theorem dX6_init_6 : decode cX6_init 6 = .ok (.putfield 9, 3) := by decide +kernel
theorem dX6_init_9 : decode cX6_init 9 = .ok (.aload_n 0, 1) := by decide +kernel
theorem dX6_init_10 : decode cX6_init 10 = .ok (.aload_n 1, 1) := by decide +kernel
theorem dX6_init_11 : decode cX6_init 11 = .ok (.putfield 15, 3) := by decide +kernel
theorem dX6_init_14 : decode cX6_init 14 = .ok (.aload_n 0, 1) := by decide +kernel
theorem dX6_init_15 : decode cX6_init 15 = .ok (.iconst 0, 1) := by decide +kernel
theorem dX6_init_16 : decode cX6_init 16 = .ok (.iload_n 2, 1) := by decide +kernel
theorem dX6_init_17 : decode cX6_init 17 = .ok (.aload_n 1, 1) := by decide +kernel
theorem dX6_init_18 : decode cX6_init 18 = .ok (.arraylength, 1) := by decide +kernel
theorem dX6_init_19 : decode cX6_init 19 = .ok (.invokestatic 19, 3) := by decide +kernel
theorem dX6_init_22 : decode cX6_init 22 = .ok (.invokestatic 25, 3) := by decide +kernel
theorem dX6_init_25 : decode cX6_init 25 = .ok (.putfield 28, 3) := by decide +kernel
theorem dX6_init_28 : decode cX6_init 28 = .ok (.return_, 1) := by decide +kernel
set_option maxHeartbeats 2000000 in
set_option maxRecDepth 20000 in
theorem ct_X6_init_8 (l : Launch) (D : va_G) (dA : Nat → ClassId) (hst : l.stackTraces = false) (M : jM) (t : Nat) (ht : t < jn M) (hk : jk M t = 8) (sg L : Nat) (hs : sg < jn M) (hsk : jk M sg = 21) (hsz : jz M sg = 60) (hL : L ≤ 60) : jCT l D dA yX6_init wsX6_init (20) (300) (0) (0) 0 [.ref (t), .ref (sg), .int (nI (L))] M (jPo (oV) (jSi (jSr (jSi M t 2 0) t 0 (some sg)) t 1 (nI L))) := by
  refine jBody (cc := cX6_init) (nL := 3) (rt := none) (ini := true) (by decide) rfl hst (Nat.le_of_ble_eq_true rfl) (by simp [Value.category]) (by intro h9; first | exact absurd h9 (by decide) | rfl) ?_
  show J l D dA RX6 cX6_init wsX6_init 3 true none [] (20) (300) (jF D dA (jn M) (jPo (oV) (jSi (jSr (jSi M t 2 0) t 0 (some sg)) t 1 (nI L))) 0) (jn M) (0) (0) (M) 0 [.ref (t), .ref (sg), .int (nI (L))] []
  refine J_aload_n (t) dX6_init_0 rfl rfl ?_
  refine J_objInit dX6_init_1 (List.mem_of_getElem? (i := 1) rfl) (List.mem_of_getElem? (i := 2) rfl) (List.mem_of_getElem? (i := 3) rfl) (Nat.le_of_ble_eq_true rfl) (by omega) (by omega) ?_
  refine J_aload_n (t) dX6_init_4 rfl rfl ?_
  refine J_iconst (x := 0) dX6_init_5 (by decide) ?_
  refine J_puti (j := 2) (x := (0)) dX6_init_6 (fun _ h => List.mem_cons_of_mem _ (List.mem_append_right _ (h))) cs8 cty8 (by decide) rfl (List.mem_of_getElem? (i := 4) rfl) rfl rfl ⟨rfl, rfl⟩ ht hk ?_
  refine J_aload_n (t) dX6_init_9 rfl rfl ?_
  refine J_aload_n (sg) dX6_init_10 rfl rfl ?_
  refine J_putrF (j := 0) (r := some (sg)) dX6_init_11 (fun _ h => List.mem_cons_of_mem _ (List.mem_append_right _ (h))) cs8 cty8 (by decide) rfl (List.mem_of_getElem? (i := 5) rfl) rfl rfl rfl rfl jfit_rA ht hk ?_
  refine J_aload_n (t) dX6_init_14 rfl rfl ?_
  refine J_iconst (x := 0) dX6_init_15 (by decide) ?_
  refine J_iload_n dX6_init_16 rfl rfl ?_
  refine J_aload_n (sg) dX6_init_17 rfl rfl ?_
  refine J_alen (t := 1) dX6_init_18 hs hsk rfl ?_
  refine J_topi (y := nI (60)) (congrArg nI hsz) ?_
  refine J_mmin dX6_init_19 (List.mem_of_getElem? (i := 6) rfl) (List.mem_of_getElem? (i := 7) rfl) (List.mem_of_getElem? (i := 8) rfl) (List.mem_of_getElem? (i := 9) rfl) (Nat.le_of_ble_eq_true rfl) (by omega) (by omega) ?_
  refine J_mmax dX6_init_22 (List.mem_of_getElem? (i := 10) rfl) (List.mem_of_getElem? (i := 11) rfl) (List.mem_of_getElem? (i := 8) rfl) (List.mem_of_getElem? (i := 12) rfl) (Nat.le_of_ble_eq_true rfl) (by omega) (by omega) ?_
  refine J_topi (y := nI (L)) (by rw [if_neg (nI_nlt (a := 60) hL (by omega))]; rcases Nat.eq_zero_or_pos L with rfl | hp; rfl; exact if_pos (nI_lt (a := 0) hp (by omega))) ?_
  refine J_putiF (j := 1) (x := nI (L)) dX6_init_25 (fun _ h => List.mem_cons_of_mem _ (List.mem_append_right _ (h))) cs8 cty8 (by decide) rfl (List.mem_of_getElem? (i := 13) rfl) rfl rfl rfl rfl ⟨rfl, rfl⟩ ht hk ?_
  exact J_vret dX6_init_28 rfl ⟨(by rfl), (by rfl)⟩

