theorem ji_ne_i {M : jM} {a k b j : Nat} {v x : Int32} (h : ¬ (b = a ∧ j = k)) (hp : ji M b j = x) : ji (jSi M a k v) b j = x := by rw [ji_Si, if_neg h]; exact hp
theorem ji_ne_v {M : jM} {a b j : Nat} {g : Nat → Int32} {x : Int32} (h : ¬ b = a) (hp : ji M b j = x) : ji (jSv M a g) b j = x := by rw [ji_Sv, if_neg h]; exact hp
theorem jr_ne {M : jM} {a k b j : Nat} {v x : Option Nat} (h : ¬ (b = a ∧ j = k)) (hp : jr M b j = x) : jr (jSr M a k v) b j = x := by rw [jr_Sr, if_neg h]; exact hp
def rn (M : jM) (t : Nat) : Nat := jz M (t + 1) / 2
def jcnt (p : Nat → Bool) : Nat → Nat
  | 0 => 0
  | k + 1 => jcnt p k + (if p k then 1 else 0)
def jsum (f : Nat → Nat) : Nat → Nat
  | 0 => 0
  | k + 1 => jsum f k + f k
def jmax (f : Nat → Nat) : Nat → Nat
  | 0 => 0
  | k + 1 => max (jmax f k) (f k)
def jany (p : Nat → Bool) : Nat → Bool
  | 0 => false
  | k + 1 => jany p k || p k
/-- the last of the rows below k at which p holds: what f says there; -1 without -/
def jgrt (p : Nat → Bool) (f : Nat → Int32) : Nat → Int32
  | 0 => -1
  | k + 1 => if p k then f k else jgrt p f k
theorem jcnt_le (p : Nat → Bool) : ∀ k, jcnt p k ≤ k := by
  intro k
  induction k with
  | zero => exact Nat.le_refl _
  | succ k ih => unfold jcnt; split <;> omega
theorem jRg.rn {M : jM} {t n : Nat} (h : jRg M t n) : rn M t = n := by
  have := h.2.2.2.2.1
  show jz M (t + 1) / 2 = n
  omega
/-- a state at s: c versions published -/
def jStt (M : jM) (s c : Nat) : Prop := s + 2 < jn M ∧ jk M s = 9 ∧ jr M s 0 = some (s + 1) ∧ jr M s 1 = some (s + 2) ∧ jk M (s + 1) = 23 ∧ jz M (s + 1) = 12 ∧ jk M (s + 2) = 22 ∧ jz M (s + 2) = 30 ∧ ji M s 2 = nI c ∧ c ≤ 30
/-- its slots hold ranges -/
def jSlots (M : jM) (s : Nat) : Prop := ∀ j t, j < 12 → jr M (s + 1) j = some t → jRg M t (rn M t)
def stAt (f : Nat → Int32) (c p : Nat) : Int32 := if p < c then f p else -1
def stPlace (f : Nat → Int32) (c : Nat) (x : Int32) : Nat := jfind (fun p => decide (x ≤ f p)) c 0
theorem stPlace_le (f : Nat → Int32) (c : Nat) (x : Int32) : stPlace f c x ≤ c := by have := jfind_le (fun p => decide (x ≤ f p)) c 0; unfold stPlace; omega
/-- what the ranges of the slots say of a row -/
def slB (M : jM) (s : Nat) (p : Nat → Bool) (j : Nat) : Bool := match jr M (s + 1) j with
  | some t => p t
  | none => false
def slN (M : jM) (s : Nat) (j : Nat) : Nat := match jr M (s + 1) j with
  | some t => rn M t
  | none => 0
theorem slB_s {M : jM} {s j t : Nat} {p : Nat → Bool} (h : jr M (s + 1) j = some t) : slB M s p j = p t := by unfold slB; rw [h]
theorem slB_n {M : jM} {s j : Nat} {p : Nat → Bool} (h : jr M (s + 1) j = none) : slB M s p j = false := by unfold slB; rw [h]
theorem slN_s {M : jM} {s j t : Nat} (h : jr M (s + 1) j = some t) : slN M s j = rn M t := by unfold slN; rw [h]
theorem slN_n {M : jM} {s j : Nat} (h : jr M (s + 1) j = none) : slN M s j = 0 := by unfold slN; rw [h]
def inSome (M : jM) (s : Nat) (x : Int32) : Bool := jany (slB M s (fun t => rHolds (ji M (t + 1)) (rn M t) x)) 12
def stRange (M : jM) (s : Nat) (x : Int32) : Option Nat := if okSlot x then jr M (s + 1) x.toNatClampNeg else none
theorem jany_in {p : Nat → Bool} {m k : Nat} (h : k < m) (hp : p k = true) : jany p m = true := by
  induction m with
  | zero => omega
  | succ m ih =>
    unfold jany
    by_cases e : k = m
    · rw [← e, hp]; simp
    · rw [ih (by omega)]; rfl
theorem okSlot_of {x : Int32} (h : okSlot x = true) : ∃ k : Nat, k < 12 ∧ x = nI k := by
  unfold okSlot at h
  simp only [Bool.and_eq_true, Bool.not_eq_true', decide_eq_false_iff_not, decide_eq_true_eq] at h
  obtain ⟨j, hj, rfl⟩ := nI_of h.1
  exact ⟨j, (nI_ltI (b := 12) hj (by omega)).mp h.2, rfl⟩
theorem okSlot_c {x : Int32} (h1 : ¬ x < 0) (h2 : x < 12) : okSlot x = true := by simp [okSlot, h1, h2]
theorem jdecm (x : Int32) : x + Int32.ofInt (-1) = x - 1 := by rw [Int32.sub_eq_add_neg]; rfl
theorem jmaxI {a b : Nat} (ha : a < 2 ^ 31) (hb : b < 2 ^ 31) : (if nI a < nI b then nI b else nI a) = nI (max a b) := by
  by_cases h : a < b
  · rw [if_pos (nI_lt h hb), Nat.max_eq_right (Nat.le_of_lt h)]
  · rw [if_neg (nI_nlt (Nat.not_lt.mp h) ha), Nat.max_eq_left (Nat.not_lt.mp h)]
theorem dX5_publishedCount_0 : decode cX5_publishedCount 0 = .ok (.aload_n 0, 1) := by decide +kernel
theorem dX5_publishedCount_1 : decode cX5_publishedCount 1 = .ok (.getfield 21, 3) := by decide +kernel
theorem dX5_publishedCount_4 : decode cX5_publishedCount 4 = .ok (.ireturn, 1) := by decide +kernel
set_option maxHeartbeats 2000000 in
set_option maxRecDepth 20000 in
theorem ct_X5_publishedCount (l : Launch) (D : va_G) (dA : Nat → ClassId) (hst : l.stackTraces = false) (M : jM) (s c : Nat) (hS : jStt M s c) : jCT l D dA yX5_publishedCount wsX5_publishedCount (20) (300) (0) (0) 1 [.ref (s)] M (jPo (oI (nI c)) (M)) := by
  refine jBody (cc := cX5_publishedCount) (nL := 1) (rt := (some .int)) (ini := false) (by decide) rfl hst (Nat.le_of_ble_eq_true rfl) (by simp [Value.category]) (by intro h9; first | exact absurd h9 (by decide) | rfl) ?_
  show J l D dA RX5 cX5_publishedCount wsX5_publishedCount 1 false (some .int) [] (20) (300) (jF D dA (jn M) (jPo (oI (nI c)) (M)) 1) (jn M) (0) (0) (M) 0 [.ref (s)] []
  obtain ⟨s1, s2, s3, s4, s5, s6, s7, s8, s9, s10⟩ := id hS
  refine J_aload_n (s) dX5_publishedCount_0 rfl rfl ?_
  refine J_geti (j := 2) dX5_publishedCount_1 (fun _ h => List.mem_cons_of_mem _ (List.mem_append_right _ (h))) cs9 (by decide) rfl (List.mem_of_getElem? (i := 1) rfl) rfl (show s < jn M from by omega) s2 ?_
  refine J_topi (y := nI (c)) (s9) ?_
  exact J_iret (ty := .int) dX5_publishedCount_4 rfl (rfl) ⟨(by rfl), (by rfl)⟩

theorem dX5_publishedAt_0 : decode cX5_publishedAt 0 = .ok (.iload_n 1, 1) := by decide +kernel
theorem dX5_publishedAt_1 : decode cX5_publishedAt 1 = .ok (.ifCond .lt 26, 3) := by decide +kernel
theorem dX5_publishedAt_27 : decode cX5_publishedAt 27 = .ok (.iconst (-1), 1) := by decide +kernel
theorem dX5_publishedAt_28 : decode cX5_publishedAt 28 = .ok (.ireturn, 1) := by decide +kernel
theorem dX5_publishedAt_4 : decode cX5_publishedAt 4 = .ok (.iload_n 1, 1) := by decide +kernel
theorem dX5_publishedAt_5 : decode cX5_publishedAt 5 = .ok (.aload_n 0, 1) := by decide +kernel
theorem dX5_publishedAt_6 : decode cX5_publishedAt 6 = .ok (.getfield 21, 3) := by decide +kernel
theorem dX5_publishedAt_9 : decode cX5_publishedAt 9 = .ok (.if_icmp .ge 18, 3) := by decide +kernel
theorem dX5_publishedAt_12 : decode cX5_publishedAt 12 = .ok (.iload_n 1, 1) := by decide +kernel
theorem dX5_publishedAt_13 : decode cX5_publishedAt 13 = .ok (.bipush 30, 2) := by decide +kernel
theorem dX5_publishedAt_15 : decode cX5_publishedAt 15 = .ok (.if_icmp .ge 12, 3) := by decide +kernel
theorem dX5_publishedAt_18 : decode cX5_publishedAt 18 = .ok (.aload_n 0, 1) := by decide +kernel
theorem dX5_publishedAt_19 : decode cX5_publishedAt 19 = .ok (.getfield 17, 3) := by decide +kernel
theorem dX5_publishedAt_22 : decode cX5_publishedAt 22 = .ok (.iload_n 1, 1) := by decide +kernel
theorem dX5_publishedAt_23 : decode cX5_publishedAt 23 = .ok (.iaload, 1) := by decide +kernel
theorem dX5_publishedAt_24 : decode cX5_publishedAt 24 = .ok (.goto 4, 3) := by decide +kernel
set_option maxHeartbeats 2000000 in
set_option maxRecDepth 20000 in
theorem ct_X5_publishedAt (l : Launch) (D : va_G) (dA : Nat → ClassId) (hst : l.stackTraces = false) (M : jM) (s c : Nat) (hS : jStt M s c) (p : Nat) (hp : p < 2 ^ 31) : jCT l D dA yX5_publishedAt wsX5_publishedAt (20) (300) (0) (0) 1 [.ref (s), .int (nI (p))] M (jPo (oI (stAt (ji M (s + 2)) c p)) (M)) := by
  refine jBody (cc := cX5_publishedAt) (nL := 2) (rt := (some .int)) (ini := false) (by decide) rfl hst (Nat.le_of_ble_eq_true rfl) (by simp [Value.category]) (by intro h9; first | exact absurd h9 (by decide) | rfl) ?_
  show J l D dA RX5 cX5_publishedAt wsX5_publishedAt 2 false (some .int) [] (20) (300) (jF D dA (jn M) (jPo (oI (stAt (ji M (s + 2)) c p)) (M)) 1) (jn M) (0) (0) (M) 0 [.ref (s), .int (nI (p))] []
  obtain ⟨s1, s2, s3, s4, s5, s6, s7, s8, s9, s10⟩ := id hS
  refine J_iload_n dX5_publishedAt_0 rfl rfl ?_
  refine J_if_lt dX5_publishedAt_1 (tgt := 27) (by decide) (fun c1 => ?_) (fun c1 => ?_)
  · have c1 := jltT (a := p) (b := 0) (by omega) (by omega) c1
    refine J_iconst (x := (-1)) dX5_publishedAt_27 (by decide) ?_
    exact J_iret (ty := .int) dX5_publishedAt_28 rfl (rfl) ⟨(by simp [stAt] <;> omega), (by rfl)⟩
  · have c1 := jltF (a := p) (b := 0) (by omega) (by omega) c1
    refine J_iload_n dX5_publishedAt_4 rfl rfl ?_
    refine J_aload_n (s) dX5_publishedAt_5 rfl rfl ?_
    refine J_geti (j := 2) dX5_publishedAt_6 (fun _ h => List.mem_cons_of_mem _ (List.mem_append_left _ (List.mem_append_right _ (h)))) cs9 (by decide) rfl (List.mem_of_getElem? (i := 1) rfl) rfl (show s < jn M from by omega) s2 ?_
    refine J_topi (y := nI (c)) (s9) ?_
    refine J_icmp_ge dX5_publishedAt_9 (tgt := 27) (by decide) (fun c9 => ?_) (fun c9 => ?_)
    · have c9 := jleT (a := c) (b := p) (by omega) (by omega) c9
      refine J_iconst (x := (-1)) dX5_publishedAt_27 (by decide) ?_
      exact J_iret (ty := .int) dX5_publishedAt_28 rfl (rfl) ⟨(by simp [stAt] <;> omega), (by rfl)⟩
    · have c9 := jleF (a := c) (b := p) (by omega) (by omega) c9
      refine J_iload_n dX5_publishedAt_12 rfl rfl ?_
      refine J_bipush (x := 30) dX5_publishedAt_13 (by decide) ?_
      refine J_icmp_ge dX5_publishedAt_15 (tgt := 27) (by decide) (fun c15 => ?_) (fun c15 => ?_)
      · have c15 := jleT (a := 30) (b := p) (by omega) (by omega) c15
        refine J_iconst (x := (-1)) dX5_publishedAt_27 (by decide) ?_
        exact J_iret (ty := .int) dX5_publishedAt_28 rfl (rfl) ⟨(by simp [stAt] <;> omega), (by rfl)⟩
      · have c15 := jleF (a := 30) (b := p) (by omega) (by omega) c15
        refine J_aload_n (s) dX5_publishedAt_18 rfl rfl ?_
        refine J_getrs (q := s + 2) s4 dX5_publishedAt_19 (fun _ h => List.mem_cons_of_mem _ (List.mem_append_left _ (List.mem_append_right _ (h)))) cs9 (by decide) rfl (List.mem_of_getElem? (i := 2) rfl) rfl (show s < jn M from by omega) s2 ?_
        refine J_iload_n dX5_publishedAt_22 rfl rfl ?_
        refine J_ialdN (k := p) dX5_publishedAt_23 (show s + 2 < jn M from by omega) s7 (by exact Nat.lt_of_lt_of_eq (show _ < 30 by omega) (Eq.symm s8)) (by exact Nat.lt_of_le_of_lt (Nat.le_of_eq s8) (show 30 < 2 ^ 31 by omega)) ?_
        refine J_goto (tgt := 28) dX5_publishedAt_24 (by decide) ?_
        exact J_iret (ty := .int) dX5_publishedAt_28 rfl (rfl) ⟨(by simp [stAt] <;> omega), (by rfl)⟩

theorem dX5_placeFor_2 : decode cX5_placeFor 2 = .ok (.iload_n 2, 1) := by decide +kernel
theorem dX5_placeFor_3 : decode cX5_placeFor 3 = .ok (.aload_n 0, 1) := by decide +kernel
theorem dX5_placeFor_4 : decode cX5_placeFor 4 = .ok (.getfield 21, 3) := by decide +kernel
theorem dX5_placeFor_7 : decode cX5_placeFor 7 = .ok (.if_icmp .ge 18, 3) := by decide +kernel
theorem dX5_placeFor_25 : decode cX5_placeFor 25 = .ok (.iload_n 2, 1) := by decide +kernel
theorem dX5_placeFor_26 : decode cX5_placeFor 26 = .ok (.ireturn, 1) := by decide +kernel
theorem dX5_placeFor_10 : decode cX5_placeFor 10 = .ok (.aload_n 0, 1) := by decide +kernel
theorem dX5_placeFor_11 : decode cX5_placeFor 11 = .ok (.iload_n 2, 1) := by decide +kernel
theorem dX5_placeFor_12 : decode cX5_placeFor 12 = .ok (.invokevirtual 45, 3) := by decide +kernel
set_option maxRecDepth 20000 in
theorem ggX5_placeFor_X5_publishedAt : GoodIn wsX5_placeFor wsX5_publishedAt := goodIn_ca (goodIn_r _ [6, 1, 7, 8, 9, 10] (by decide +kernel) (by decide +kernel)) (goodIn_sub (fun _ h => List.mem_cons_of_mem _ (List.mem_append_right _ h)) (by decide +kernel))
set_option maxRecDepth 20000 in
theorem gX5_placeFor_X5_publishedAt : GoodIn wsX5_placeFor (wsV RX5 45 RX5 yX5_publishedAt wsX5_publishedAt) := goodIn_app (goodIn_of _ (by decide +kernel)) ggX5_placeFor_X5_publishedAt
theorem yY_X5_publishedAt : jY yX5_publishedAt wsX5_publishedAt cX5_publishedAt 2 (some .int) 1 := ⟨⟨_, rfl⟩, by decide +kernel, by decide +kernel, by decide +kernel⟩
theorem dX5_placeFor_15 : decode cX5_placeFor 15 = .ok (.iload_n 1, 1) := by decide +kernel
theorem dX5_placeFor_16 : decode cX5_placeFor 16 = .ok (.if_icmp .ge 9, 3) := by decide +kernel
theorem dX5_placeFor_19 : decode cX5_placeFor 19 = .ok (.iinc 2 1, 3) := by decide +kernel
theorem dX5_placeFor_22 : decode cX5_placeFor 22 = .ok (.goto (-20), 3) := by decide +kernel
theorem dX5_placeFor_0 : decode cX5_placeFor 0 = .ok (.iconst 0, 1) := by decide +kernel
theorem dX5_placeFor_1 : decode cX5_placeFor 1 = .ok (.istore_n 2, 1) := by decide +kernel
set_option maxHeartbeats 2000000 in
set_option maxRecDepth 20000 in
theorem ct_X5_placeFor (l : Launch) (D : va_G) (dA : Nat → ClassId) (hst : l.stackTraces = false) (M : jM) (s c : Nat) (hS : jStt M s c) (x : Int32) : jCT l D dA yX5_placeFor wsX5_placeFor (21) (360) (0) (0) 1 [.ref (s), .int (x)] M (jPo (oI (nI (stPlace (ji M (s + 2)) c x))) (M)) := by
  refine jBody (cc := cX5_placeFor) (nL := 3) (rt := (some .int)) (ini := false) (by decide) rfl hst (Nat.le_of_ble_eq_true rfl) (by simp [Value.category]) (by intro h9; first | exact absurd h9 (by decide) | rfl) ?_
  show J l D dA RX5 cX5_placeFor wsX5_placeFor 3 false (some .int) [] (21) (360) (jF D dA (jn M) (jPo (oI (nI (stPlace (ji M (s + 2)) c x))) (M)) 1) (jn M) (0) (0) (M) 0 [.ref (s), .int (x), .float 0] []
  obtain ⟨s1, s2, s3, s4, s5, s6, s7, s8, s9, s10⟩ := id hS
  have L2 : ∀ (fuel : Nat) (p : Nat) (hp : p ≤ c) (hI : jfind (fun p => decide (x ≤ ji M (s + 2) p)) (c - p) p = stPlace (ji M (s + 2)) c x), c - p < fuel → J l D dA RX5 cX5_placeFor wsX5_placeFor 3 false (some .int) [] (21) (360) (jF D dA (jn M) (jPo (oI (nI (stPlace (ji M (s + 2)) c x))) (M)) 1) (jn M) (0) (0) (M) 2 [.ref (s), .int (x), .int (nI (p))] [] := by
    intro fuel
    induction fuel with
    | zero => intro p hp hI hm; exact absurd hm (Nat.not_lt_zero _)
    | succ fuel ih2 =>
      intro p hp hI hm2
      refine J_iload_n dX5_placeFor_2 rfl rfl ?_
      refine J_aload_n (s) dX5_placeFor_3 rfl rfl ?_
      refine J_geti (j := 2) dX5_placeFor_4 (fun _ h => List.mem_cons_of_mem _ (List.mem_append_left _ (List.mem_append_right _ (h)))) cs9 (by decide) rfl (List.mem_of_getElem? (i := 1) rfl) rfl (show s < jn M from by omega) s2 ?_
      refine J_topi (y := nI (c)) (s9) ?_
      refine J_icmp_ge dX5_placeFor_7 (tgt := 25) (by decide) (fun c7 => ?_) (fun c7 => ?_)
      · have c7 := jleT (a := c) (b := p) (by omega) (by omega) c7
        refine J_iload_n dX5_placeFor_25 rfl rfl ?_
        exact J_iret (ty := .int) dX5_placeFor_26 rfl (rfl) ⟨(by first | (rw [← hI, show c - p = 0 from by omega]; rfl) | (rw [← hI]; obtain ⟨z, hz⟩ : ∃ z, c - p = z + 1 := ⟨c - p - 1, by omega⟩; rw [hz]; unfold jfind; rw [if_pos (by simpa using c16)])), (by rfl)⟩
      · have c7 := jleF (a := c) (b := p) (by omega) (by omega) c7
        refine J_aload_n (s) dX5_placeFor_10 rfl rfl ?_
        refine J_iload_n dX5_placeFor_11 rfl rfl ?_
        refine J_calli0 (jrunV (As := [.int (nI (p))]) (ct_X5_publishedAt l D dA hst M s c hS (p) (by omega)) dX5_placeFor_12 yY_X5_publishedAt gX5_placeFor_X5_publishedAt rfl cs9 (show s < jn M from by omega) s2 rfl ⟨by omega, by omega⟩ ⟨Nat.zero_le _, Nat.zero_le _⟩ rfl (Nat.le_of_ble_eq_true rfl)) (congrArg (fun z => oI z) (if_pos (by omega))) (rfl) ?_
        refine J_iload_n dX5_placeFor_15 rfl rfl ?_
        refine J_icmp_ge dX5_placeFor_16 (tgt := 25) (by decide) (fun c16 => ?_) (fun c16 => ?_)
        · refine J_iload_n dX5_placeFor_25 rfl rfl ?_
          exact J_iret (ty := .int) dX5_placeFor_26 rfl (rfl) ⟨(by first | (rw [← hI, show c - p = 0 from by omega]; rfl) | (rw [← hI]; obtain ⟨z, hz⟩ : ∃ z, c - p = z + 1 := ⟨c - p - 1, by omega⟩; rw [hz]; unfold jfind; rw [if_pos (by simpa using c16)])), (by rfl)⟩
        · refine J_iinc (y := nI (p + 1)) (lv' := [.ref (s), .int (x), .int (nI (p + 1))]) dX5_placeFor_19 rfl (jinc (p)) (by decide) rfl rfl ?_
          refine J_goto (tgt := 2) dX5_placeFor_22 (by decide) ?_
          exact ih2 (p + 1) (by omega) (by rw [← hI]; obtain ⟨z, hz⟩ : ∃ z, c - p = z + 1 := ⟨c - p - 1, by omega⟩; rw [hz, show c - (p + 1) = z from by omega]; conv => rhs; unfold jfind; rw [if_neg (by simpa using c16)]) (by omega)
  refine J_iconst (x := 0) dX5_placeFor_0 (by decide) ?_
  refine J_istore_n (lv' := [.ref (s), .int (x), .int (0)]) dX5_placeFor_1 rfl (by decide) rfl rfl ?_
  exact L2 _ (0) (by omega) (by rfl) (Nat.lt_succ_self _)

theorem dX5_isPublished_0 : decode cX5_isPublished 0 = .ok (.aload_n 0, 1) := by decide +kernel
theorem dX5_isPublished_1 : decode cX5_isPublished 1 = .ok (.aload_n 0, 1) := by decide +kernel
theorem dX5_isPublished_2 : decode cX5_isPublished 2 = .ok (.iload_n 1, 1) := by decide +kernel
theorem dX5_isPublished_3 : decode cX5_isPublished 3 = .ok (.invokevirtual 49, 3) := by decide +kernel
set_option maxRecDepth 20000 in
theorem ggX5_isPublished_X5_placeFor : GoodIn wsX5_isPublished wsX5_placeFor := goodIn_ca (goodIn_r _ [5, 6, 7, 8, 9, 4, 10, 11, 12, 13, 14] (by decide +kernel) (by decide +kernel)) (goodIn_sub (fun _ h => List.mem_cons_of_mem _ (List.mem_append_right _ h)) (by decide +kernel))
set_option maxRecDepth 20000 in
theorem gX5_isPublished_X5_placeFor : GoodIn wsX5_isPublished (wsV RX5 49 RX5 yX5_placeFor wsX5_placeFor) := goodIn_app (goodIn_of _ (by decide +kernel)) ggX5_isPublished_X5_placeFor
theorem yY_X5_placeFor : jY yX5_placeFor wsX5_placeFor cX5_placeFor 3 (some .int) 1 := ⟨⟨_, rfl⟩, by decide +kernel, by decide +kernel, by decide +kernel⟩
theorem dX5_isPublished_6 : decode cX5_isPublished 6 = .ok (.invokevirtual 45, 3) := by decide +kernel
set_option maxRecDepth 20000 in
theorem ggX5_isPublished_X5_publishedAt : GoodIn wsX5_isPublished wsX5_publishedAt := goodIn_ca (goodIn_r _ [10, 6, 11, 12, 13, 14] (by decide +kernel) (by decide +kernel)) (goodIn_sub (fun _ h => List.mem_cons_of_mem _ (List.mem_append_right _ h)) (by decide +kernel))
set_option maxRecDepth 20000 in
theorem gX5_isPublished_X5_publishedAt : GoodIn wsX5_isPublished (wsV RX5 45 RX5 yX5_publishedAt wsX5_publishedAt) := goodIn_app (goodIn_of _ (by decide +kernel)) ggX5_isPublished_X5_publishedAt
theorem dX5_isPublished_9 : decode cX5_isPublished 9 = .ok (.iload_n 1, 1) := by decide +kernel
theorem dX5_isPublished_10 : decode cX5_isPublished 10 = .ok (.if_icmp .ne 7, 3) := by decide +kernel
theorem dX5_isPublished_17 : decode cX5_isPublished 17 = .ok (.iconst 0, 1) := by decide +kernel
theorem dX5_isPublished_18 : decode cX5_isPublished 18 = .ok (.ireturn, 1) := by decide +kernel
theorem dX5_isPublished_13 : decode cX5_isPublished 13 = .ok (.iconst 1, 1) := by decide +kernel
theorem dX5_isPublished_14 : decode cX5_isPublished 14 = .ok (.goto 4, 3) := by decide +kernel
set_option maxHeartbeats 2000000 in
set_option maxRecDepth 20000 in
theorem ct_X5_isPublished (l : Launch) (D : va_G) (dA : Nat → ClassId) (hst : l.stackTraces = false) (M : jM) (s c : Nat) (hS : jStt M s c) (x : Int32) : jCT l D dA yX5_isPublished wsX5_isPublished (22) (420) (0) (0) 1 [.ref (s), .int (x)] M (jPo (oI (jb (decide (stAt (ji M (s + 2)) c (stPlace (ji M (s + 2)) c x) = x)))) (M)) := by
  refine jBody (cc := cX5_isPublished) (nL := 2) (rt := (some .boolean)) (ini := false) (by decide) rfl hst (Nat.le_of_ble_eq_true rfl) (by simp [Value.category]) (by intro h9; first | exact absurd h9 (by decide) | rfl) ?_
  show J l D dA RX5 cX5_isPublished wsX5_isPublished 2 false (some .boolean) [] (22) (420) (jF D dA (jn M) (jPo (oI (jb (decide (stAt (ji M (s + 2)) c (stPlace (ji M (s + 2)) c x) = x)))) (M)) 1) (jn M) (0) (0) (M) 0 [.ref (s), .int (x)] []
  obtain ⟨s1, s2, s3, s4, s5, s6, s7, s8, s9, s10⟩ := id hS
  have hpl := stPlace_le (ji M (s + 2)) c x
  refine J_aload_n (s) dX5_isPublished_0 rfl rfl ?_
  refine J_aload_n (s) dX5_isPublished_1 rfl rfl ?_
  refine J_iload_n dX5_isPublished_2 rfl rfl ?_
  refine J_calli0 (jrunV (As := [.int (x)]) (ct_X5_placeFor l D dA hst M s c hS ((x))) dX5_isPublished_3 yY_X5_placeFor gX5_isPublished_X5_placeFor rfl cs9 (show s < jn M from by omega) s2 rfl ⟨by omega, by omega⟩ ⟨Nat.zero_le _, Nat.zero_le _⟩ rfl (Nat.le_of_ble_eq_true rfl)) (rfl) (rfl) ?_
  refine J_calli0 (jrunV (As := [.int (nI (stPlace (ji M (s + 2)) c ((x))))]) (ct_X5_publishedAt l D dA hst M s c hS (stPlace (ji M (s + 2)) c ((x))) (by omega)) dX5_isPublished_6 yY_X5_publishedAt gX5_isPublished_X5_publishedAt rfl cs9 (show s < jn M from by omega) s2 rfl ⟨by omega, by omega⟩ ⟨Nat.zero_le _, Nat.zero_le _⟩ rfl (Nat.le_of_ble_eq_true rfl)) (rfl) (rfl) ?_
  refine J_iload_n dX5_isPublished_9 rfl rfl ?_
  refine J_icmp_ne dX5_isPublished_10 (tgt := 17) (by decide) (fun c10 => ?_) (fun c10 => ?_)
  · refine J_iconst (x := 0) dX5_isPublished_17 (by decide) ?_
    exact J_iret (ty := .boolean) dX5_isPublished_18 rfl (by rfl) ⟨(by simp [jb, *]), (by rfl)⟩
  · refine J_iconst (x := 1) dX5_isPublished_13 (by decide) ?_
    refine J_goto (tgt := 18) dX5_isPublished_14 (by decide) ?_
    exact J_iret (ty := .boolean) dX5_isPublished_18 rfl (by rfl) ⟨(by simp [jb, *]), (by rfl)⟩

theorem dX5_addPublished_0 : decode cX5_addPublished 0 = .ok (.aload_n 0, 1) := by decide +kernel
theorem dX5_addPublished_1 : decode cX5_addPublished 1 = .ok (.iload_n 1, 1) := by decide +kernel
theorem dX5_addPublished_2 : decode cX5_addPublished 2 = .ok (.invokevirtual 49, 3) := by decide +kernel
set_option maxRecDepth 20000 in
theorem ggX5_addPublished_X5_placeFor : GoodIn wsX5_addPublished wsX5_placeFor := goodIn_ca (goodIn_r _ [11, 1, 12, 13, 14, 10, 15, 2, 16, 17, 18] (by decide +kernel) (by decide +kernel)) (goodIn_sub (fun _ h => List.mem_cons_of_mem _ (List.mem_append_right _ h)) (by decide +kernel))
set_option maxRecDepth 20000 in
theorem gX5_addPublished_X5_placeFor : GoodIn wsX5_addPublished (wsV RX5 49 RX5 yX5_placeFor wsX5_placeFor) := goodIn_app (goodIn_of _ (by decide +kernel)) ggX5_addPublished_X5_placeFor
theorem dX5_addPublished_5 : decode cX5_addPublished 5 = .ok (.istore_n 2, 1) := by decide +kernel
theorem dX5_addPublished_6 : decode cX5_addPublished 6 = .ok (.aload_n 0, 1) := by decide +kernel
theorem dX5_addPublished_7 : decode cX5_addPublished 7 = .ok (.getfield 21, 3) := by decide +kernel
theorem dX5_addPublished_10 : decode cX5_addPublished 10 = .ok (.bipush 30, 2) := by decide +kernel
theorem dX5_addPublished_12 : decode cX5_addPublished 12 = .ok (.if_icmp .ge 11, 3) := by decide +kernel
theorem dX5_addPublished_23 : decode cX5_addPublished 23 = .ok (.return_, 1) := by decide +kernel
theorem dX5_addPublished_15 : decode cX5_addPublished 15 = .ok (.iload_n 2, 1) := by decide +kernel
theorem dX5_addPublished_16 : decode cX5_addPublished 16 = .ok (.aload_n 0, 1) := by decide +kernel
theorem dX5_addPublished_17 : decode cX5_addPublished 17 = .ok (.getfield 21, 3) := by decide +kernel
theorem dX5_addPublished_20 : decode cX5_addPublished 20 = .ok (.if_icmp .le 4, 3) := by decide +kernel
theorem dX5_addPublished_24 : decode cX5_addPublished 24 = .ok (.aload_n 0, 1) := by decide +kernel
theorem dX5_addPublished_25 : decode cX5_addPublished 25 = .ok (.getfield 17, 3) := by decide +kernel
theorem dX5_addPublished_28 : decode cX5_addPublished 28 = .ok (.iload_n 2, 1) := by decide +kernel
theorem dX5_addPublished_29 : decode cX5_addPublished 29 = .ok (.aload_n 0, 1) := by decide +kernel
theorem dX5_addPublished_30 : decode cX5_addPublished 30 = .ok (.getfield 17, 3) := by decide +kernel
theorem dX5_addPublished_33 : decode cX5_addPublished 33 = .ok (.iload_n 2, 1) := by decide +kernel
theorem dX5_addPublished_34 : decode cX5_addPublished 34 = .ok (.iconst 1, 1) := by decide +kernel
theorem dX5_addPublished_35 : decode cX5_addPublished 35 = .ok (.iadd, 1) := by decide +kernel
theorem dX5_addPublished_36 : decode cX5_addPublished 36 = .ok (.aload_n 0, 1) := by decide +kernel
theorem dX5_addPublished_37 : decode cX5_addPublished 37 = .ok (.getfield 21, 3) := by decide +kernel
theorem dX5_addPublished_40 : decode cX5_addPublished 40 = .ok (.iload_n 2, 1) := by decide +kernel
theorem dX5_addPublished_41 : decode cX5_addPublished 41 = .ok (.isub, 1) := by decide +kernel
theorem dX5_addPublished_42 : decode cX5_addPublished 42 = .ok (.invokestatic 25, 3) := by decide +kernel
theorem dX5_addPublished_45 : decode cX5_addPublished 45 = .ok (.aload_n 0, 1) := by decide +kernel
theorem dX5_addPublished_46 : decode cX5_addPublished 46 = .ok (.getfield 17, 3) := by decide +kernel
theorem dX5_addPublished_49 : decode cX5_addPublished 49 = .ok (.iload_n 2, 1) := by decide +kernel
theorem dX5_addPublished_50 : decode cX5_addPublished 50 = .ok (.iload_n 1, 1) := by decide +kernel
theorem dX5_addPublished_51 : decode cX5_addPublished 51 = .ok (.iastore, 1) := by decide +kernel
theorem dX5_addPublished_52 : decode cX5_addPublished 52 = .ok (.aload_n 0, 1) := by decide +kernel
theorem dX5_addPublished_53 : decode cX5_addPublished 53 = .ok (.dup, 1) := by decide +kernel
theorem dX5_addPublished_54 : decode cX5_addPublished 54 = .ok (.getfield 21, 3) := by decide +kernel
theorem dX5_addPublished_57 : decode cX5_addPublished 57 = .ok (.iconst 1, 1) := by decide +kernel
theorem dX5_addPublished_58 : decode cX5_addPublished 58 = .ok (.iadd, 1) := by decide +kernel
theorem dX5_addPublished_59 : decode cX5_addPublished 59 = .ok (.putfield 21, 3) := by decide +kernel
theorem dX5_addPublished_62 : decode cX5_addPublished 62 = .ok (.return_, 1) := by decide +kernel
set_option maxHeartbeats 2000000 in
set_option maxRecDepth 20000 in
theorem ct_X5_addPublished (l : Launch) (D : va_G) (dA : Nat → ClassId) (hst : l.stackTraces = false) (M : jM) (s c : Nat) (hS : jStt M s c) (x : Int32) : jCT l D dA yX5_addPublished wsX5_addPublished (22) (420) (0) (0) 0 [.ref (s), .int (x)] M (jPo (oV) (if 30 ≤ c then M else jSi (jSi (jSv M (s + 2) (va_cpy (ji M (s + 2)) (ji M (s + 2)) (stPlace (ji M (s + 2)) c x) ((stPlace (ji M (s + 2)) c x) + 1) (c - (stPlace (ji M (s + 2)) c x)))) (s + 2) (stPlace (ji M (s + 2)) c x) x) s 2 (nI (c + 1)))) := by
  refine jBody (cc := cX5_addPublished) (nL := 3) (rt := none) (ini := false) (by decide) rfl hst (Nat.le_of_ble_eq_true rfl) (by simp [Value.category]) (by intro h9; first | exact absurd h9 (by decide) | rfl) ?_
  show J l D dA RX5 cX5_addPublished wsX5_addPublished 3 false none [] (22) (420) (jF D dA (jn M) (jPo (oV) (if 30 ≤ c then M else jSi (jSi (jSv M (s + 2) (va_cpy (ji M (s + 2)) (ji M (s + 2)) (stPlace (ji M (s + 2)) c x) ((stPlace (ji M (s + 2)) c x) + 1) (c - (stPlace (ji M (s + 2)) c x)))) (s + 2) (stPlace (ji M (s + 2)) c x) x) s 2 (nI (c + 1)))) 0) (jn M) (0) (0) (M) 0 [.ref (s), .int (x), .float 0] []
  obtain ⟨s1, s2, s3, s4, s5, s6, s7, s8, s9, s10⟩ := id hS
  have hpl := stPlace_le (ji M (s + 2)) c x
  refine J_aload_n (s) dX5_addPublished_0 rfl rfl ?_
  refine J_iload_n dX5_addPublished_1 rfl rfl ?_
  refine J_calli0 (jrunV (As := [.int (x)]) (ct_X5_placeFor l D dA hst M s c hS ((x))) dX5_addPublished_2 yY_X5_placeFor gX5_addPublished_X5_placeFor rfl cs9 (show s < jn M from by omega) s2 rfl ⟨by omega, by omega⟩ ⟨Nat.zero_le _, Nat.zero_le _⟩ rfl (Nat.le_of_ble_eq_true rfl)) (rfl) (rfl) ?_
  refine J_istore_n (lv' := [.ref (s), .int (x), .int (nI (stPlace (ji M (s + 2)) c ((x))))]) dX5_addPublished_5 rfl (by decide) rfl rfl ?_
  refine J_aload_n (s) dX5_addPublished_6 rfl rfl ?_
  refine J_geti (j := 2) dX5_addPublished_7 (fun _ h => List.mem_cons_of_mem _ (List.mem_append_left _ (List.mem_append_right _ (h)))) cs9 (by decide) rfl (List.mem_of_getElem? (i := 1) rfl) rfl (show s < jn M from by omega) s2 ?_
  refine J_topi (y := nI (c)) (s9) ?_
  refine J_bipush (x := 30) dX5_addPublished_10 (by decide) ?_
  refine J_icmp_ge dX5_addPublished_12 (tgt := 23) (by decide) (fun c12 => ?_) (fun c12 => ?_)
  · have c12 := jleT (a := 30) (b := c) (by omega) (by omega) c12
    exact J_vret dX5_addPublished_23 rfl ⟨(by rfl), (by first | (rw [if_pos (by omega)]; done) | (exfalso; omega))⟩
  · have c12 := jleF (a := 30) (b := c) (by omega) (by omega) c12
    refine J_iload_n dX5_addPublished_15 rfl rfl ?_
    refine J_aload_n (s) dX5_addPublished_16 rfl rfl ?_
    refine J_geti (j := 2) dX5_addPublished_17 (fun _ h => List.mem_cons_of_mem _ (List.mem_append_left _ (List.mem_append_right _ (h)))) cs9 (by decide) rfl (List.mem_of_getElem? (i := 1) rfl) rfl (show s < jn M from by omega) s2 ?_
    refine J_topi (y := nI (c)) (s9) ?_
    refine J_icmp_le dX5_addPublished_20 (tgt := 24) (by decide) (fun c20 => ?_) (fun c20 => ?_)
    · have c20 := jleT (a := stPlace (ji M (s + 2)) c ((x))) (b := c) (by omega) (by omega) c20
      refine J_aload_n (s) dX5_addPublished_24 rfl rfl ?_
      refine J_getrs (q := s + 2) s4 dX5_addPublished_25 (fun _ h => List.mem_cons_of_mem _ (List.mem_append_left _ (List.mem_append_right _ (h)))) cs9 (by decide) rfl (List.mem_of_getElem? (i := 2) rfl) rfl (show s < jn M from by omega) s2 ?_
      refine J_iload_n dX5_addPublished_28 rfl rfl ?_
      refine J_aload_n (s) dX5_addPublished_29 rfl rfl ?_
      refine J_getrs (q := s + 2) s4 dX5_addPublished_30 (fun _ h => List.mem_cons_of_mem _ (List.mem_append_left _ (List.mem_append_right _ (h)))) cs9 (by decide) rfl (List.mem_of_getElem? (i := 2) rfl) rfl (show s < jn M from by omega) s2 ?_
      refine J_iload_n dX5_addPublished_33 rfl rfl ?_
      refine J_iconst (x := 1) dX5_addPublished_34 (by decide) ?_
      refine J_iadd dX5_addPublished_35 ?_
      refine J_topi (y := nI (stPlace (ji M (s + 2)) c ((x)) + 1)) (nI_add (stPlace (ji M (s + 2)) c ((x))) (1)) ?_
      refine J_aload_n (s) dX5_addPublished_36 rfl rfl ?_
      refine J_geti (j := 2) dX5_addPublished_37 (fun _ h => List.mem_cons_of_mem _ (List.mem_append_left _ (List.mem_append_right _ (h)))) cs9 (by decide) rfl (List.mem_of_getElem? (i := 1) rfl) rfl (show s < jn M from by omega) s2 ?_
      refine J_topi (y := nI (c)) (s9) ?_
      refine J_iload_n dX5_addPublished_40 rfl rfl ?_
      refine J_isub dX5_addPublished_41 ?_
      refine J_topi (y := nI (c - (stPlace (ji M (s + 2)) c ((x))))) (pk_sub (a := c) (b := stPlace (ji M (s + 2)) c ((x))) (by omega)) ?_
      refine J_copyi (z0 := 30) (z := 30) (sp := stPlace (ji M (s + 2)) c ((x))) (dp := stPlace (ji M (s + 2)) c ((x)) + 1) (n := c - (stPlace (ji M (s + 2)) c ((x)))) dX5_addPublished_42 (List.mem_of_getElem? (i := 3) rfl) (List.mem_of_getElem? (i := 4) rfl) (List.mem_of_getElem? (i := 5) rfl) (List.mem_of_getElem? (i := 6) rfl) (show s + 2 < jn M from by omega) s7 (show s + 2 < jn M from by omega) s7 s8 s8 (by omega) (by omega) (by omega) (by omega) (Nat.le_of_ble_eq_true rfl) (by omega) (by omega) ?_
      refine J_aload_n (s) dX5_addPublished_45 rfl rfl ?_
      refine J_getrs (q := s + 2) s4 dX5_addPublished_46 (fun _ h => List.mem_cons_of_mem _ (List.mem_append_left _ (List.mem_append_right _ (h)))) cs9 (by decide) rfl (List.mem_of_getElem? (i := 2) rfl) rfl (show s < jn M from by omega) s2 ?_
      refine J_iload_n dX5_addPublished_49 rfl rfl ?_
      refine J_iload_n dX5_addPublished_50 rfl rfl ?_
      refine J_iastN (k := stPlace (ji M (s + 2)) c ((x))) dX5_addPublished_51 (show s + 2 < jn M from by omega) s7 (by exact Nat.lt_of_lt_of_eq (show _ < 30 by omega) (Eq.symm s8)) (by exact Nat.lt_of_le_of_lt (Nat.le_of_eq s8) (show 30 < 2 ^ 31 by omega)) ?_
      refine J_aload_n (s) dX5_addPublished_52 rfl rfl ?_
      refine J_dup dX5_addPublished_53 rfl ?_
      refine J_geti (j := 2) dX5_addPublished_54 (fun _ h => List.mem_cons_of_mem _ (List.mem_append_left _ (List.mem_append_right _ (h)))) cs9 (by decide) rfl (List.mem_of_getElem? (i := 1) rfl) rfl (show s < jn M from by omega) s2 ?_
      refine J_topi (y := nI (c)) ((ji_ne_i (by omega) (ji_ne_v (by omega) s9))) ?_
      refine J_iconst (x := 1) dX5_addPublished_57 (by decide) ?_
      refine J_iadd dX5_addPublished_58 ?_
      refine J_topi (y := nI (c + 1)) (nI_add (c) (1)) ?_
      refine J_puti (j := 2) (x := nI (c + 1)) dX5_addPublished_59 (fun _ h => List.mem_cons_of_mem _ (List.mem_append_left _ (List.mem_append_right _ (h)))) cs9 cty9 (by decide) rfl (List.mem_of_getElem? (i := 1) rfl) rfl rfl ⟨rfl, rfl⟩ (show s < jn M from by omega) s2 ?_
      exact J_vret dX5_addPublished_62 rfl ⟨(by rfl), (by rw [if_neg (by omega)])⟩
    · have c20 := jleF (a := stPlace (ji M (s + 2)) c ((x))) (b := c) (by omega) (by omega) c20
      exact J_vret dX5_addPublished_23 rfl ⟨(by rfl), (by first | (rw [if_pos (by omega)]; done) | (exfalso; omega))⟩

theorem dX5_removePublished_0 : decode cX5_removePublished 0 = .ok (.aload_n 0, 1) := by decide +kernel
theorem dX5_removePublished_1 : decode cX5_removePublished 1 = .ok (.iload_n 1, 1) := by decide +kernel
theorem dX5_removePublished_2 : decode cX5_removePublished 2 = .ok (.invokevirtual 49, 3) := by decide +kernel
set_option maxRecDepth 20000 in
theorem ggX5_removePublished_X5_placeFor : GoodIn wsX5_removePublished wsX5_placeFor := goodIn_ca (goodIn_r _ [11, 1, 12, 13, 14, 10, 15, 2, 16, 17, 18] (by decide +kernel) (by decide +kernel)) (goodIn_sub (fun _ h => List.mem_cons_of_mem _ (List.mem_append_right _ h)) (by decide +kernel))
set_option maxRecDepth 20000 in
theorem gX5_removePublished_X5_placeFor : GoodIn wsX5_removePublished (wsV RX5 49 RX5 yX5_placeFor wsX5_placeFor) := goodIn_app (goodIn_of _ (by decide +kernel)) ggX5_removePublished_X5_placeFor
theorem dX5_removePublished_5 : decode cX5_removePublished 5 = .ok (.istore_n 2, 1) := by decide +kernel
theorem dX5_removePublished_6 : decode cX5_removePublished 6 = .ok (.iload_n 2, 1) := by decide +kernel
theorem dX5_removePublished_7 : decode cX5_removePublished 7 = .ok (.aload_n 0, 1) := by decide +kernel
theorem dX5_removePublished_8 : decode cX5_removePublished 8 = .ok (.getfield 21, 3) := by decide +kernel
theorem dX5_removePublished_11 : decode cX5_removePublished 11 = .ok (.if_icmp .lt 4, 3) := by decide +kernel
theorem dX5_removePublished_15 : decode cX5_removePublished 15 = .ok (.aload_n 0, 1) := by decide +kernel
theorem dX5_removePublished_16 : decode cX5_removePublished 16 = .ok (.getfield 17, 3) := by decide +kernel
theorem dX5_removePublished_19 : decode cX5_removePublished 19 = .ok (.iload_n 2, 1) := by decide +kernel
theorem dX5_removePublished_20 : decode cX5_removePublished 20 = .ok (.iconst 1, 1) := by decide +kernel
theorem dX5_removePublished_21 : decode cX5_removePublished 21 = .ok (.iadd, 1) := by decide +kernel
theorem dX5_removePublished_22 : decode cX5_removePublished 22 = .ok (.aload_n 0, 1) := by decide +kernel
theorem dX5_removePublished_23 : decode cX5_removePublished 23 = .ok (.getfield 17, 3) := by decide +kernel
theorem dX5_removePublished_26 : decode cX5_removePublished 26 = .ok (.iload_n 2, 1) := by decide +kernel
theorem dX5_removePublished_27 : decode cX5_removePublished 27 = .ok (.aload_n 0, 1) := by decide +kernel
theorem dX5_removePublished_28 : decode cX5_removePublished 28 = .ok (.getfield 21, 3) := by decide +kernel
theorem dX5_removePublished_31 : decode cX5_removePublished 31 = .ok (.iload_n 2, 1) := by decide +kernel
theorem dX5_removePublished_32 : decode cX5_removePublished 32 = .ok (.isub, 1) := by decide +kernel
theorem dX5_removePublished_33 : decode cX5_removePublished 33 = .ok (.iconst 1, 1) := by decide +kernel
theorem dX5_removePublished_34 : decode cX5_removePublished 34 = .ok (.isub, 1) := by decide +kernel
theorem dX5_removePublished_35 : decode cX5_removePublished 35 = .ok (.invokestatic 25, 3) := by decide +kernel
theorem dX5_removePublished_38 : decode cX5_removePublished 38 = .ok (.aload_n 0, 1) := by decide +kernel
theorem dX5_removePublished_39 : decode cX5_removePublished 39 = .ok (.dup, 1) := by decide +kernel
theorem dX5_removePublished_40 : decode cX5_removePublished 40 = .ok (.getfield 21, 3) := by decide +kernel
theorem dX5_removePublished_43 : decode cX5_removePublished 43 = .ok (.iconst 1, 1) := by decide +kernel
theorem dX5_removePublished_44 : decode cX5_removePublished 44 = .ok (.isub, 1) := by decide +kernel
theorem dX5_removePublished_45 : decode cX5_removePublished 45 = .ok (.putfield 21, 3) := by decide +kernel
theorem dX5_removePublished_48 : decode cX5_removePublished 48 = .ok (.return_, 1) := by decide +kernel
theorem dX5_removePublished_14 : decode cX5_removePublished 14 = .ok (.return_, 1) := by decide +kernel
set_option maxHeartbeats 2000000 in
set_option maxRecDepth 20000 in
theorem ct_X5_removePublished (l : Launch) (D : va_G) (dA : Nat → ClassId) (hst : l.stackTraces = false) (M : jM) (s c : Nat) (hS : jStt M s c) (x : Int32) : jCT l D dA yX5_removePublished wsX5_removePublished (22) (420) (0) (0) 0 [.ref (s), .int (x)] M (jPo (oV) (if c ≤ (stPlace (ji M (s + 2)) c x) then M else jSi (jSv M (s + 2) (va_cpy (ji M (s + 2)) (ji M (s + 2)) ((stPlace (ji M (s + 2)) c x) + 1) (stPlace (ji M (s + 2)) c x) (c - (stPlace (ji M (s + 2)) c x) - 1))) s 2 (nI (c - 1)))) := by
  refine jBody (cc := cX5_removePublished) (nL := 3) (rt := none) (ini := false) (by decide) rfl hst (Nat.le_of_ble_eq_true rfl) (by simp [Value.category]) (by intro h9; first | exact absurd h9 (by decide) | rfl) ?_
  show J l D dA RX5 cX5_removePublished wsX5_removePublished 3 false none [] (22) (420) (jF D dA (jn M) (jPo (oV) (if c ≤ (stPlace (ji M (s + 2)) c x) then M else jSi (jSv M (s + 2) (va_cpy (ji M (s + 2)) (ji M (s + 2)) ((stPlace (ji M (s + 2)) c x) + 1) (stPlace (ji M (s + 2)) c x) (c - (stPlace (ji M (s + 2)) c x) - 1))) s 2 (nI (c - 1)))) 0) (jn M) (0) (0) (M) 0 [.ref (s), .int (x), .float 0] []
  obtain ⟨s1, s2, s3, s4, s5, s6, s7, s8, s9, s10⟩ := id hS
  have hpl := stPlace_le (ji M (s + 2)) c x
  refine J_aload_n (s) dX5_removePublished_0 rfl rfl ?_
  refine J_iload_n dX5_removePublished_1 rfl rfl ?_
  refine J_calli0 (jrunV (As := [.int (x)]) (ct_X5_placeFor l D dA hst M s c hS ((x))) dX5_removePublished_2 yY_X5_placeFor gX5_removePublished_X5_placeFor rfl cs9 (show s < jn M from by omega) s2 rfl ⟨by omega, by omega⟩ ⟨Nat.zero_le _, Nat.zero_le _⟩ rfl (Nat.le_of_ble_eq_true rfl)) (rfl) (rfl) ?_
  refine J_istore_n (lv' := [.ref (s), .int (x), .int (nI (stPlace (ji M (s + 2)) c ((x))))]) dX5_removePublished_5 rfl (by decide) rfl rfl ?_
  refine J_iload_n dX5_removePublished_6 rfl rfl ?_
  refine J_aload_n (s) dX5_removePublished_7 rfl rfl ?_
  refine J_geti (j := 2) dX5_removePublished_8 (fun _ h => List.mem_cons_of_mem _ (List.mem_append_left _ (List.mem_append_right _ (h)))) cs9 (by decide) rfl (List.mem_of_getElem? (i := 1) rfl) rfl (show s < jn M from by omega) s2 ?_
  refine J_topi (y := nI (c)) (s9) ?_
  refine J_icmp_lt dX5_removePublished_11 (tgt := 15) (by decide) (fun c11 => ?_) (fun c11 => ?_)
  · have c11 := jltT (a := stPlace (ji M (s + 2)) c ((x))) (b := c) (by omega) (by omega) c11
    refine J_aload_n (s) dX5_removePublished_15 rfl rfl ?_
    refine J_getrs (q := s + 2) s4 dX5_removePublished_16 (fun _ h => List.mem_cons_of_mem _ (List.mem_append_left _ (List.mem_append_right _ (h)))) cs9 (by decide) rfl (List.mem_of_getElem? (i := 2) rfl) rfl (show s < jn M from by omega) s2 ?_
    refine J_iload_n dX5_removePublished_19 rfl rfl ?_
    refine J_iconst (x := 1) dX5_removePublished_20 (by decide) ?_
    refine J_iadd dX5_removePublished_21 ?_
    refine J_topi (y := nI (stPlace (ji M (s + 2)) c ((x)) + 1)) (nI_add (stPlace (ji M (s + 2)) c ((x))) (1)) ?_
    refine J_aload_n (s) dX5_removePublished_22 rfl rfl ?_
    refine J_getrs (q := s + 2) s4 dX5_removePublished_23 (fun _ h => List.mem_cons_of_mem _ (List.mem_append_left _ (List.mem_append_right _ (h)))) cs9 (by decide) rfl (List.mem_of_getElem? (i := 2) rfl) rfl (show s < jn M from by omega) s2 ?_
    refine J_iload_n dX5_removePublished_26 rfl rfl ?_
    refine J_aload_n (s) dX5_removePublished_27 rfl rfl ?_
    refine J_geti (j := 2) dX5_removePublished_28 (fun _ h => List.mem_cons_of_mem _ (List.mem_append_left _ (List.mem_append_right _ (h)))) cs9 (by decide) rfl (List.mem_of_getElem? (i := 1) rfl) rfl (show s < jn M from by omega) s2 ?_
    refine J_topi (y := nI (c)) (s9) ?_
    refine J_iload_n dX5_removePublished_31 rfl rfl ?_
    refine J_isub dX5_removePublished_32 ?_
    refine J_topi (y := nI (c - (stPlace (ji M (s + 2)) c ((x))))) (pk_sub (a := c) (b := stPlace (ji M (s + 2)) c ((x))) (by omega)) ?_
    refine J_iconst (x := 1) dX5_removePublished_33 (by decide) ?_
    refine J_isub dX5_removePublished_34 ?_
    refine J_topi (y := nI (c - (stPlace (ji M (s + 2)) c ((x))) - 1)) (pk_sub (a := c - (stPlace (ji M (s + 2)) c ((x)))) (b := 1) (by omega)) ?_
    refine J_copyi (z0 := 30) (z := 30) (sp := stPlace (ji M (s + 2)) c ((x)) + 1) (dp := stPlace (ji M (s + 2)) c ((x))) (n := c - (stPlace (ji M (s + 2)) c ((x))) - 1) dX5_removePublished_35 (List.mem_of_getElem? (i := 3) rfl) (List.mem_of_getElem? (i := 4) rfl) (List.mem_of_getElem? (i := 5) rfl) (List.mem_of_getElem? (i := 6) rfl) (show s + 2 < jn M from by omega) s7 (show s + 2 < jn M from by omega) s7 s8 s8 (by omega) (by omega) (by omega) (by omega) (Nat.le_of_ble_eq_true rfl) (by omega) (by omega) ?_
    refine J_aload_n (s) dX5_removePublished_38 rfl rfl ?_
    refine J_dup dX5_removePublished_39 rfl ?_
    refine J_geti (j := 2) dX5_removePublished_40 (fun _ h => List.mem_cons_of_mem _ (List.mem_append_left _ (List.mem_append_right _ (h)))) cs9 (by decide) rfl (List.mem_of_getElem? (i := 1) rfl) rfl (show s < jn M from by omega) s2 ?_
    refine J_topi (y := nI (c)) ((ji_ne_v (by omega) s9)) ?_
    refine J_iconst (x := 1) dX5_removePublished_43 (by decide) ?_
    refine J_isub dX5_removePublished_44 ?_
    refine J_topi (y := nI (c - 1)) (pk_sub (a := c) (b := 1) (by omega)) ?_
    refine J_puti (j := 2) (x := nI (c - 1)) dX5_removePublished_45 (fun _ h => List.mem_cons_of_mem _ (List.mem_append_left _ (List.mem_append_right _ (h)))) cs9 cty9 (by decide) rfl (List.mem_of_getElem? (i := 1) rfl) rfl rfl ⟨rfl, rfl⟩ (show s < jn M from by omega) s2 ?_
    exact J_vret dX5_removePublished_48 rfl ⟨(by rfl), (by rw [if_neg (by omega)])⟩
  · have c11 := jltF (a := stPlace (ji M (s + 2)) c ((x))) (b := c) (by omega) (by omega) c11
    exact J_vret dX5_removePublished_14 rfl ⟨(by rfl), (by rw [if_pos (by omega)])⟩

theorem dX5_rangeCount_13 : decode cX5_rangeCount 13 = .ok (.iload 4, 2) := by decide +kernel
theorem dX5_rangeCount_15 : decode cX5_rangeCount 15 = .ok (.iload_n 3, 1) := by decide +kernel
theorem dX5_rangeCount_16 : decode cX5_rangeCount 16 = .ok (.if_icmp .ge 28, 3) := by decide +kernel
theorem dX5_rangeCount_44 : decode cX5_rangeCount 44 = .ok (.iload_n 1, 1) := by decide +kernel
theorem dX5_rangeCount_45 : decode cX5_rangeCount 45 = .ok (.ireturn, 1) := by decide +kernel
theorem dX5_rangeCount_19 : decode cX5_rangeCount 19 = .ok (.aload_n 2, 1) := by decide +kernel
theorem dX5_rangeCount_20 : decode cX5_rangeCount 20 = .ok (.iload 4, 2) := by decide +kernel
theorem dX5_rangeCount_22 : decode cX5_rangeCount 22 = .ok (.aaload, 1) := by decide +kernel
theorem dX5_rangeCount_23 : decode cX5_rangeCount 23 = .ok (.astore 5, 2) := by decide +kernel
theorem dX5_rangeCount_25 : decode cX5_rangeCount 25 = .ok (.iload_n 1, 1) := by decide +kernel
theorem dX5_rangeCount_26 : decode cX5_rangeCount 26 = .ok (.aload 5, 2) := by decide +kernel
theorem dX5_rangeCount_28 : decode cX5_rangeCount 28 = .ok (.ifnull 7, 3) := by decide +kernel
theorem dX5_rangeCount_35 : decode cX5_rangeCount 35 = .ok (.iconst 0, 1) := by decide +kernel
theorem dX5_rangeCount_36 : decode cX5_rangeCount 36 = .ok (.iadd, 1) := by decide +kernel
theorem dX5_rangeCount_37 : decode cX5_rangeCount 37 = .ok (.istore_n 1, 1) := by decide +kernel
theorem dX5_rangeCount_38 : decode cX5_rangeCount 38 = .ok (.iinc 4 1, 3) := by decide +kernel
theorem dX5_rangeCount_41 : decode cX5_rangeCount 41 = .ok (.goto (-28), 3) := by decide +kernel
theorem dX5_rangeCount_31 : decode cX5_rangeCount 31 = .ok (.iconst 1, 1) := by decide +kernel
theorem dX5_rangeCount_32 : decode cX5_rangeCount 32 = .ok (.goto 4, 3) := by decide +kernel
theorem dX5_rangeCount_0 : decode cX5_rangeCount 0 = .ok (.iconst 0, 1) := by decide +kernel
theorem dX5_rangeCount_1 : decode cX5_rangeCount 1 = .ok (.istore_n 1, 1) := by decide +kernel
theorem dX5_rangeCount_2 : decode cX5_rangeCount 2 = .ok (.aload_n 0, 1) := by decide +kernel
theorem dX5_rangeCount_3 : decode cX5_rangeCount 3 = .ok (.getfield 11, 3) := by decide +kernel
theorem dX5_rangeCount_6 : decode cX5_rangeCount 6 = .ok (.astore_n 2, 1) := by decide +kernel
theorem dX5_rangeCount_7 : decode cX5_rangeCount 7 = .ok (.aload_n 2, 1) := by decide +kernel
theorem dX5_rangeCount_8 : decode cX5_rangeCount 8 = .ok (.arraylength, 1) := by decide +kernel
theorem dX5_rangeCount_9 : decode cX5_rangeCount 9 = .ok (.istore_n 3, 1) := by decide +kernel
theorem dX5_rangeCount_10 : decode cX5_rangeCount 10 = .ok (.iconst 0, 1) := by decide +kernel
theorem dX5_rangeCount_11 : decode cX5_rangeCount 11 = .ok (.istore 4, 2) := by decide +kernel
set_option maxHeartbeats 2000000 in
set_option maxRecDepth 20000 in
theorem ct_X5_rangeCount (l : Launch) (D : va_G) (dA : Nat → ClassId) (hst : l.stackTraces = false) (M : jM) (s c : Nat) (hS : jStt M s c) : jCT l D dA yX5_rangeCount wsX5_rangeCount (20) (300) (0) (0) 1 [.ref (s)] M (jPo (oI (nI (jcnt (fun j => (jr M (s + 1) j).isSome) 12))) (M)) := by
  refine jBody (cc := cX5_rangeCount) (nL := 6) (rt := (some .int)) (ini := false) (by decide) rfl hst (Nat.le_of_ble_eq_true rfl) (by simp [Value.category]) (by intro h9; first | exact absurd h9 (by decide) | rfl) ?_
  show J l D dA RX5 cX5_rangeCount wsX5_rangeCount 6 false (some .int) [] (20) (300) (jF D dA (jn M) (jPo (oI (nI (jcnt (fun j => (jr M (s + 1) j).isSome) 12))) (M)) 1) (jn M) (0) (0) (M) 0 [.ref (s), .float 0, .float 0, .float 0, .float 0, .float 0] []
  obtain ⟨s1, s2, s3, s4, s5, s6, s7, s8, s9, s10⟩ := id hS
  have L13 : ∀ (fuel : Nat) (k : Nat) (hk : k ≤ 12), 12 - k < fuel → J l D dA RX5 cX5_rangeCount wsX5_rangeCount 6 false (some .int) [] (20) (300) (jF D dA (jn M) (jPo (oI (nI (jcnt (fun j => (jr M (s + 1) j).isSome) 12))) (M)) 1) (jn M) (0) (0) (M) 13 [.ref (s), .int (nI (jcnt (fun j => (jr M (s + 1) j).isSome) k)), .ref (s + 1), .int (nI (12)), .int (nI (k)), .float 0] [] := by
    intro fuel
    induction fuel with
    | zero => intro k hk hm; exact absurd hm (Nat.not_lt_zero _)
    | succ fuel ih13 =>
      intro k hk hm13
      refine J_iload dX5_rangeCount_13 rfl ?_
      refine J_iload_n dX5_rangeCount_15 rfl rfl ?_
      refine J_icmp_ge dX5_rangeCount_16 (tgt := 44) (by decide) (fun c16 => ?_) (fun c16 => ?_)
      · have c16 := jleT (a := 12) (b := k) (by omega) (by omega) c16
        refine J_iload_n dX5_rangeCount_44 rfl rfl ?_
        exact J_iret (ty := .int) dX5_rangeCount_45 rfl (rfl) ⟨(by rw [show k = 12 from by omega]), (by rfl)⟩
      · have c16 := jleF (a := 12) (b := k) (by omega) (by omega) c16
        refine J_aload_n (s + 1) dX5_rangeCount_19 rfl rfl ?_
        refine J_iload dX5_rangeCount_20 rfl ?_
        refine J_aald3N (k := k) dX5_rangeCount_22 (show s + 1 < jn M from by omega) s5 (by exact Nat.lt_of_lt_of_eq (show _ < 12 by omega) (Eq.symm s6)) (by exact Nat.lt_of_le_of_lt (Nat.le_of_eq s6) (show 12 < 2 ^ 31 by omega)) ?_
        refine J_astoreq (r := jr M (s + 1) k) (lv' := [.ref (s), .int (nI (jcnt (fun j => (jr M (s + 1) j).isSome) k)), .ref (s + 1), .int (nI (12)), .int (nI (k)), va_rf (jr M (s + 1) k)]) dX5_rangeCount_23 (by decide) rfl rfl ?_
        refine J_iload_n dX5_rangeCount_25 rfl rfl ?_
        refine J_aloadq (jr M (s + 1) k) dX5_rangeCount_26 rfl ?_
        refine J_ifnull dX5_rangeCount_28 (tgt := 35) (by decide) (fun c28 => ?_) (fun r28 c28 => ?_)
        · refine J_iconst (x := 0) dX5_rangeCount_35 (by decide) ?_
          refine J_iadd dX5_rangeCount_36 ?_
          refine J_topi (y := nI (jcnt (fun j => (jr M (s + 1) j).isSome) k + 0)) (nI_add (jcnt (fun j => (jr M (s + 1) j).isSome) k) (0)) ?_
          refine J_topi (y := nI (jcnt (fun j => (jr M (s + 1) j).isSome) (k + 1))) (by exact congrArg nI (by simp [jcnt, c28])) ?_
          refine J_istore_n (lv' := [.ref (s), .int (nI (jcnt (fun j => (jr M (s + 1) j).isSome) (k + 1))), .ref (s + 1), .int (nI (12)), .int (nI (k)), va_rf (jr M (s + 1) k)]) dX5_rangeCount_37 rfl (by decide) rfl rfl ?_
          refine J_iinc (y := nI (k + 1)) (lv' := [.ref (s), .int (nI (jcnt (fun j => (jr M (s + 1) j).isSome) (k + 1))), .ref (s + 1), .int (nI (12)), .int (nI (k + 1)), va_rf (jr M (s + 1) k)]) dX5_rangeCount_38 rfl (jinc (k)) (by decide) rfl rfl ?_
          refine J_goto (tgt := 13) dX5_rangeCount_41 (by decide) ?_
          refine J_fg 5 (lv' := [.ref (s), .int (nI (jcnt (fun j => (jr M (s + 1) j).isSome) (k + 1))), .ref (s + 1), .int (nI (12)), .int (nI (k + 1)), .float 0]) rfl ?_
          exact ih13 (k + 1) (by omega) (by omega)
        · refine J_iconst (x := 1) dX5_rangeCount_31 (by decide) ?_
          refine J_goto (tgt := 36) dX5_rangeCount_32 (by decide) ?_
          refine J_iadd dX5_rangeCount_36 ?_
          refine J_topi (y := nI (jcnt (fun j => (jr M (s + 1) j).isSome) k + 1)) (nI_add (jcnt (fun j => (jr M (s + 1) j).isSome) k) (1)) ?_
          refine J_topi (y := nI (jcnt (fun j => (jr M (s + 1) j).isSome) (k + 1))) (by exact congrArg nI (by simp [jcnt, c28])) ?_
          refine J_istore_n (lv' := [.ref (s), .int (nI (jcnt (fun j => (jr M (s + 1) j).isSome) (k + 1))), .ref (s + 1), .int (nI (12)), .int (nI (k)), va_rf (jr M (s + 1) k)]) dX5_rangeCount_37 rfl (by decide) rfl rfl ?_
          refine J_iinc (y := nI (k + 1)) (lv' := [.ref (s), .int (nI (jcnt (fun j => (jr M (s + 1) j).isSome) (k + 1))), .ref (s + 1), .int (nI (12)), .int (nI (k + 1)), va_rf (jr M (s + 1) k)]) dX5_rangeCount_38 rfl (jinc (k)) (by decide) rfl rfl ?_
          refine J_goto (tgt := 13) dX5_rangeCount_41 (by decide) ?_
          refine J_fg 5 (lv' := [.ref (s), .int (nI (jcnt (fun j => (jr M (s + 1) j).isSome) (k + 1))), .ref (s + 1), .int (nI (12)), .int (nI (k + 1)), .float 0]) rfl ?_
          exact ih13 (k + 1) (by omega) (by omega)
  refine J_iconst (x := 0) dX5_rangeCount_0 (by decide) ?_
  refine J_istore_n (lv' := [.ref (s), .int (0), .float 0, .float 0, .float 0, .float 0]) dX5_rangeCount_1 rfl (by decide) rfl rfl ?_
  refine J_aload_n (s) dX5_rangeCount_2 rfl rfl ?_
  refine J_getrs (q := s + 1) s3 dX5_rangeCount_3 (fun _ h => List.mem_cons_of_mem _ (List.mem_append_right _ (h))) cs9 (by decide) rfl (List.mem_of_getElem? (i := 1) rfl) rfl (show s < jn M from by omega) s2 ?_
  refine J_astore_n (x := s + 1) (lv' := [.ref (s), .int (0), .ref (s + 1), .float 0, .float 0, .float 0]) dX5_rangeCount_6 rfl (by decide) rfl rfl ?_
  refine J_aload_n (s + 1) dX5_rangeCount_7 rfl rfl ?_
  refine J_alen (t := 3) dX5_rangeCount_8 (show s + 1 < jn M from by omega) s5 rfl ?_
  refine J_topi (y := nI (12)) (congrArg nI s6) ?_
  refine J_istore_n (lv' := [.ref (s), .int (0), .ref (s + 1), .int (nI (12)), .float 0, .float 0]) dX5_rangeCount_9 rfl (by decide) rfl rfl ?_
  refine J_iconst (x := 0) dX5_rangeCount_10 (by decide) ?_
  refine J_istore (lv' := [.ref (s), .int (0), .ref (s + 1), .int (nI (12)), .int (0), .float 0]) dX5_rangeCount_11 (by decide) rfl rfl ?_
  exact L13 _ (0) (by omega) (Nat.lt_succ_self _)

theorem dX5_spanSum_13 : decode cX5_spanSum 13 = .ok (.iload 4, 2) := by decide +kernel
theorem dX5_spanSum_15 : decode cX5_spanSum 15 = .ok (.iload_n 3, 1) := by decide +kernel
theorem dX5_spanSum_16 : decode cX5_spanSum 16 = .ok (.if_icmp .ge 32, 3) := by decide +kernel
theorem dX5_spanSum_48 : decode cX5_spanSum 48 = .ok (.iload_n 1, 1) := by decide +kernel
theorem dX5_spanSum_49 : decode cX5_spanSum 49 = .ok (.ireturn, 1) := by decide +kernel
theorem dX5_spanSum_19 : decode cX5_spanSum 19 = .ok (.aload_n 2, 1) := by decide +kernel
theorem dX5_spanSum_20 : decode cX5_spanSum 20 = .ok (.iload 4, 2) := by decide +kernel
theorem dX5_spanSum_22 : decode cX5_spanSum 22 = .ok (.aaload, 1) := by decide +kernel
theorem dX5_spanSum_23 : decode cX5_spanSum 23 = .ok (.astore 5, 2) := by decide +kernel
theorem dX5_spanSum_25 : decode cX5_spanSum 25 = .ok (.iload_n 1, 1) := by decide +kernel
theorem dX5_spanSum_26 : decode cX5_spanSum 26 = .ok (.aload 5, 2) := by decide +kernel
theorem dX5_spanSum_28 : decode cX5_spanSum 28 = .ok (.ifnull 11, 3) := by decide +kernel
theorem dX5_spanSum_39 : decode cX5_spanSum 39 = .ok (.iconst 0, 1) := by decide +kernel
theorem dX5_spanSum_40 : decode cX5_spanSum 40 = .ok (.iadd, 1) := by decide +kernel
theorem dX5_spanSum_41 : decode cX5_spanSum 41 = .ok (.istore_n 1, 1) := by decide +kernel
theorem dX5_spanSum_42 : decode cX5_spanSum 42 = .ok (.iinc 4 1, 3) := by decide +kernel
theorem dX5_spanSum_45 : decode cX5_spanSum 45 = .ok (.goto (-32), 3) := by decide +kernel
theorem dX5_spanSum_31 : decode cX5_spanSum 31 = .ok (.aload 5, 2) := by decide +kernel
theorem dX5_spanSum_33 : decode cX5_spanSum 33 = .ok (.invokevirtual 31, 3) := by decide +kernel
set_option maxRecDepth 20000 in
theorem ggX5_spanSum_X3_spanCount : GoodIn wsX5_spanSum wsX3_spanCount := goodIn_r _ [6, 7, 11] (by decide +kernel) (by decide +kernel)
set_option maxRecDepth 20000 in
theorem gX5_spanSum_X3_spanCount : GoodIn wsX5_spanSum (wsV RX5 31 RX3 yX3_spanCount wsX3_spanCount) := goodIn_app (goodIn_of _ (by decide +kernel)) ggX5_spanSum_X3_spanCount
theorem dX5_spanSum_36 : decode cX5_spanSum 36 = .ok (.goto 4, 3) := by decide +kernel
theorem dX5_spanSum_0 : decode cX5_spanSum 0 = .ok (.iconst 0, 1) := by decide +kernel
theorem dX5_spanSum_1 : decode cX5_spanSum 1 = .ok (.istore_n 1, 1) := by decide +kernel
theorem dX5_spanSum_2 : decode cX5_spanSum 2 = .ok (.aload_n 0, 1) := by decide +kernel
theorem dX5_spanSum_3 : decode cX5_spanSum 3 = .ok (.getfield 11, 3) := by decide +kernel
theorem dX5_spanSum_6 : decode cX5_spanSum 6 = .ok (.astore_n 2, 1) := by decide +kernel
theorem dX5_spanSum_7 : decode cX5_spanSum 7 = .ok (.aload_n 2, 1) := by decide +kernel
theorem dX5_spanSum_8 : decode cX5_spanSum 8 = .ok (.arraylength, 1) := by decide +kernel
theorem dX5_spanSum_9 : decode cX5_spanSum 9 = .ok (.istore_n 3, 1) := by decide +kernel
theorem dX5_spanSum_10 : decode cX5_spanSum 10 = .ok (.iconst 0, 1) := by decide +kernel
theorem dX5_spanSum_11 : decode cX5_spanSum 11 = .ok (.istore 4, 2) := by decide +kernel
set_option maxHeartbeats 2000000 in
set_option maxRecDepth 20000 in
theorem ct_X5_spanSum (l : Launch) (D : va_G) (dA : Nat → ClassId) (hst : l.stackTraces = false) (M : jM) (s c : Nat) (hS : jStt M s c) (hSl : jSlots M s) : jCT l D dA yX5_spanSum wsX5_spanSum (21) (360) (0) (0) 1 [.ref (s)] M (jPo (oI (nI (jsum (slN M s) 12))) (M)) := by
  refine jBody (cc := cX5_spanSum) (nL := 6) (rt := (some .int)) (ini := false) (by decide) rfl hst (Nat.le_of_ble_eq_true rfl) (by simp [Value.category]) (by intro h9; first | exact absurd h9 (by decide) | rfl) ?_
  show J l D dA RX5 cX5_spanSum wsX5_spanSum 6 false (some .int) [] (21) (360) (jF D dA (jn M) (jPo (oI (nI (jsum (slN M s) 12))) (M)) 1) (jn M) (0) (0) (M) 0 [.ref (s), .float 0, .float 0, .float 0, .float 0, .float 0] []
  obtain ⟨s1, s2, s3, s4, s5, s6, s7, s8, s9, s10⟩ := id hS
  have L13 : ∀ (fuel : Nat) (k : Nat) (hk : k ≤ 12), 12 - k < fuel → J l D dA RX5 cX5_spanSum wsX5_spanSum 6 false (some .int) [] (21) (360) (jF D dA (jn M) (jPo (oI (nI (jsum (slN M s) 12))) (M)) 1) (jn M) (0) (0) (M) 13 [.ref (s), .int (nI (jsum (slN M s) k)), .ref (s + 1), .int (nI (12)), .int (nI (k)), .float 0] [] := by
    intro fuel
    induction fuel with
    | zero => intro k hk hm; exact absurd hm (Nat.not_lt_zero _)
    | succ fuel ih13 =>
      intro k hk hm13
      refine J_iload dX5_spanSum_13 rfl ?_
      refine J_iload_n dX5_spanSum_15 rfl rfl ?_
      refine J_icmp_ge dX5_spanSum_16 (tgt := 48) (by decide) (fun c16 => ?_) (fun c16 => ?_)
      · have c16 := jleT (a := 12) (b := k) (by omega) (by omega) c16
        refine J_iload_n dX5_spanSum_48 rfl rfl ?_
        exact J_iret (ty := .int) dX5_spanSum_49 rfl (rfl) ⟨(by rw [show k = 12 from by omega]), (by rfl)⟩
      · have c16 := jleF (a := 12) (b := k) (by omega) (by omega) c16
        refine J_aload_n (s + 1) dX5_spanSum_19 rfl rfl ?_
        refine J_iload dX5_spanSum_20 rfl ?_
        refine J_aald3N (k := k) dX5_spanSum_22 (show s + 1 < jn M from by omega) s5 (by exact Nat.lt_of_lt_of_eq (show _ < 12 by omega) (Eq.symm s6)) (by exact Nat.lt_of_le_of_lt (Nat.le_of_eq s6) (show 12 < 2 ^ 31 by omega)) ?_
        refine J_astoreq (r := jr M (s + 1) k) (lv' := [.ref (s), .int (nI (jsum (slN M s) k)), .ref (s + 1), .int (nI (12)), .int (nI (k)), va_rf (jr M (s + 1) k)]) dX5_spanSum_23 (by decide) rfl rfl ?_
        refine J_iload_n dX5_spanSum_25 rfl rfl ?_
        refine J_aloadq (jr M (s + 1) k) dX5_spanSum_26 rfl ?_
        refine J_ifnull dX5_spanSum_28 (tgt := 39) (by decide) (fun c28 => ?_) (fun r28 c28 => ?_)
        · refine J_iconst (x := 0) dX5_spanSum_39 (by decide) ?_
          refine J_iadd dX5_spanSum_40 ?_
          refine J_topi (y := nI (jsum (slN M s) k + 0)) (nI_add (jsum (slN M s) k) (0)) ?_
          refine J_topi (y := nI (jsum (slN M s) (k + 1))) (by exact congrArg nI (by first | (simp [jsum, slN_s c28]; done) | (simp [jsum, slN_n c28]; done))) ?_
          refine J_istore_n (lv' := [.ref (s), .int (nI (jsum (slN M s) (k + 1))), .ref (s + 1), .int (nI (12)), .int (nI (k)), va_rf (jr M (s + 1) k)]) dX5_spanSum_41 rfl (by decide) rfl rfl ?_
          refine J_iinc (y := nI (k + 1)) (lv' := [.ref (s), .int (nI (jsum (slN M s) (k + 1))), .ref (s + 1), .int (nI (12)), .int (nI (k + 1)), va_rf (jr M (s + 1) k)]) dX5_spanSum_42 rfl (jinc (k)) (by decide) rfl rfl ?_
          refine J_goto (tgt := 13) dX5_spanSum_45 (by decide) ?_
          refine J_fg 5 (lv' := [.ref (s), .int (nI (jsum (slN M s) (k + 1))), .ref (s + 1), .int (nI (12)), .int (nI (k + 1)), .float 0]) rfl ?_
          exact ih13 (k + 1) (by omega) (by omega)
        · refine J_conv (M' := M) (lv' := [.ref (s), .int (nI (jsum (slN M s) k)), .ref (s + 1), .int (nI (12)), .int (nI (k)), .ref (r28)]) (st' := [.int (nI (jsum (slN M s) k))]) rfl (by first | (rw [c28]; done) | (rw [c28]; rfl)) rfl ?_
          have hrr28 := hSl k r28 (by omega) c28
          refine J_aload (r28) dX5_spanSum_31 rfl ?_
          refine J_calli0 (jrunV (As := []) (ct_X3_spanCount l D dA hst M r28 (rn M r28) hrr28) dX5_spanSum_33 yY_X3_spanCount gX5_spanSum_X3_spanCount rfl cs7 (Nat.lt_of_succ_lt hrr28.1) hrr28.2.1 rfl ⟨by omega, by omega⟩ ⟨Nat.zero_le _, Nat.zero_le _⟩ rfl (Nat.le_of_ble_eq_true rfl)) (rfl) (rfl) ?_
          refine J_goto (tgt := 40) dX5_spanSum_36 (by decide) ?_
          refine J_iadd dX5_spanSum_40 ?_
          refine J_topi (y := nI (jsum (slN M s) k + (rn M r28))) (nI_add (jsum (slN M s) k) ((rn M r28))) ?_
          refine J_topi (y := nI (jsum (slN M s) (k + 1))) (by exact congrArg nI (by first | (simp [jsum, slN_s c28]; done) | (simp [jsum, slN_n c28]; done))) ?_
          refine J_istore_n (lv' := [.ref (s), .int (nI (jsum (slN M s) (k + 1))), .ref (s + 1), .int (nI (12)), .int (nI (k)), .ref (r28)]) dX5_spanSum_41 rfl (by decide) rfl rfl ?_
          refine J_iinc (y := nI (k + 1)) (lv' := [.ref (s), .int (nI (jsum (slN M s) (k + 1))), .ref (s + 1), .int (nI (12)), .int (nI (k + 1)), .ref (r28)]) dX5_spanSum_42 rfl (jinc (k)) (by decide) rfl rfl ?_
          refine J_goto (tgt := 13) dX5_spanSum_45 (by decide) ?_
          refine J_fg 5 (lv' := [.ref (s), .int (nI (jsum (slN M s) (k + 1))), .ref (s + 1), .int (nI (12)), .int (nI (k + 1)), .float 0]) rfl ?_
          exact ih13 (k + 1) (by omega) (by omega)
  refine J_iconst (x := 0) dX5_spanSum_0 (by decide) ?_
  refine J_istore_n (lv' := [.ref (s), .int (0), .float 0, .float 0, .float 0, .float 0]) dX5_spanSum_1 rfl (by decide) rfl rfl ?_
  refine J_aload_n (s) dX5_spanSum_2 rfl rfl ?_
  refine J_getrs (q := s + 1) s3 dX5_spanSum_3 (fun _ h => List.mem_cons_of_mem _ (List.mem_append_left _ (List.mem_append_right _ (h)))) cs9 (by decide) rfl (List.mem_of_getElem? (i := 1) rfl) rfl (show s < jn M from by omega) s2 ?_
  refine J_astore_n (x := s + 1) (lv' := [.ref (s), .int (0), .ref (s + 1), .float 0, .float 0, .float 0]) dX5_spanSum_6 rfl (by decide) rfl rfl ?_
  refine J_aload_n (s + 1) dX5_spanSum_7 rfl rfl ?_
  refine J_alen (t := 3) dX5_spanSum_8 (show s + 1 < jn M from by omega) s5 rfl ?_
  refine J_topi (y := nI (12)) (congrArg nI s6) ?_
  refine J_istore_n (lv' := [.ref (s), .int (0), .ref (s + 1), .int (nI (12)), .float 0, .float 0]) dX5_spanSum_9 rfl (by decide) rfl rfl ?_
  refine J_iconst (x := 0) dX5_spanSum_10 (by decide) ?_
  refine J_istore (lv' := [.ref (s), .int (0), .ref (s + 1), .int (nI (12)), .int (0), .float 0]) dX5_spanSum_11 (by decide) rfl rfl ?_
  exact L13 _ (0) (by omega) (Nat.lt_succ_self _)

theorem dX5_mostSpans_13 : decode cX5_mostSpans 13 = .ok (.iload 4, 2) := by decide +kernel
theorem dX5_mostSpans_15 : decode cX5_mostSpans 15 = .ok (.iload_n 3, 1) := by decide +kernel
theorem dX5_mostSpans_16 : decode cX5_mostSpans 16 = .ok (.if_icmp .ge 34, 3) := by decide +kernel
theorem dX5_mostSpans_50 : decode cX5_mostSpans 50 = .ok (.iload_n 1, 1) := by decide +kernel
theorem dX5_mostSpans_51 : decode cX5_mostSpans 51 = .ok (.ireturn, 1) := by decide +kernel
theorem dX5_mostSpans_19 : decode cX5_mostSpans 19 = .ok (.aload_n 2, 1) := by decide +kernel
theorem dX5_mostSpans_20 : decode cX5_mostSpans 20 = .ok (.iload 4, 2) := by decide +kernel
theorem dX5_mostSpans_22 : decode cX5_mostSpans 22 = .ok (.aaload, 1) := by decide +kernel
theorem dX5_mostSpans_23 : decode cX5_mostSpans 23 = .ok (.astore 5, 2) := by decide +kernel
theorem dX5_mostSpans_25 : decode cX5_mostSpans 25 = .ok (.aload 5, 2) := by decide +kernel
theorem dX5_mostSpans_27 : decode cX5_mostSpans 27 = .ok (.ifnull 15, 3) := by decide +kernel
theorem dX5_mostSpans_42 : decode cX5_mostSpans 42 = .ok (.iload_n 1, 1) := by decide +kernel
theorem dX5_mostSpans_43 : decode cX5_mostSpans 43 = .ok (.istore_n 1, 1) := by decide +kernel
theorem dX5_mostSpans_44 : decode cX5_mostSpans 44 = .ok (.iinc 4 1, 3) := by decide +kernel
theorem dX5_mostSpans_47 : decode cX5_mostSpans 47 = .ok (.goto (-34), 3) := by decide +kernel
theorem dX5_mostSpans_30 : decode cX5_mostSpans 30 = .ok (.iload_n 1, 1) := by decide +kernel
theorem dX5_mostSpans_31 : decode cX5_mostSpans 31 = .ok (.aload 5, 2) := by decide +kernel
theorem dX5_mostSpans_33 : decode cX5_mostSpans 33 = .ok (.invokevirtual 31, 3) := by decide +kernel
set_option maxRecDepth 20000 in
theorem ggX5_mostSpans_X3_spanCount : GoodIn wsX5_mostSpans wsX3_spanCount := goodIn_r _ [10, 11, 15] (by decide +kernel) (by decide +kernel)
set_option maxRecDepth 20000 in
theorem gX5_mostSpans_X3_spanCount : GoodIn wsX5_mostSpans (wsV RX5 31 RX3 yX3_spanCount wsX3_spanCount) := goodIn_app (goodIn_of _ (by decide +kernel)) ggX5_mostSpans_X3_spanCount
theorem dX5_mostSpans_36 : decode cX5_mostSpans 36 = .ok (.invokestatic 35, 3) := by decide +kernel
theorem dX5_mostSpans_39 : decode cX5_mostSpans 39 = .ok (.goto 4, 3) := by decide +kernel
theorem dX5_mostSpans_0 : decode cX5_mostSpans 0 = .ok (.iconst 0, 1) := by decide +kernel
theorem dX5_mostSpans_1 : decode cX5_mostSpans 1 = .ok (.istore_n 1, 1) := by decide +kernel
theorem dX5_mostSpans_2 : decode cX5_mostSpans 2 = .ok (.aload_n 0, 1) := by decide +kernel
theorem dX5_mostSpans_3 : decode cX5_mostSpans 3 = .ok (.getfield 11, 3) := by decide +kernel
theorem dX5_mostSpans_6 : decode cX5_mostSpans 6 = .ok (.astore_n 2, 1) := by decide +kernel
theorem dX5_mostSpans_7 : decode cX5_mostSpans 7 = .ok (.aload_n 2, 1) := by decide +kernel
theorem dX5_mostSpans_8 : decode cX5_mostSpans 8 = .ok (.arraylength, 1) := by decide +kernel
theorem dX5_mostSpans_9 : decode cX5_mostSpans 9 = .ok (.istore_n 3, 1) := by decide +kernel
theorem dX5_mostSpans_10 : decode cX5_mostSpans 10 = .ok (.iconst 0, 1) := by decide +kernel
theorem dX5_mostSpans_11 : decode cX5_mostSpans 11 = .ok (.istore 4, 2) := by decide +kernel
set_option maxHeartbeats 2000000 in
set_option maxRecDepth 20000 in
theorem ct_X5_mostSpans (l : Launch) (D : va_G) (dA : Nat → ClassId) (hst : l.stackTraces = false) (M : jM) (s c : Nat) (hS : jStt M s c) (hSl : jSlots M s) : jCT l D dA yX5_mostSpans wsX5_mostSpans (21) (360) (0) (0) 1 [.ref (s)] M (jPo (oI (nI (jmax (slN M s) 12))) (M)) := by
  refine jBody (cc := cX5_mostSpans) (nL := 6) (rt := (some .int)) (ini := false) (by decide) rfl hst (Nat.le_of_ble_eq_true rfl) (by simp [Value.category]) (by intro h9; first | exact absurd h9 (by decide) | rfl) ?_
  show J l D dA RX5 cX5_mostSpans wsX5_mostSpans 6 false (some .int) [] (21) (360) (jF D dA (jn M) (jPo (oI (nI (jmax (slN M s) 12))) (M)) 1) (jn M) (0) (0) (M) 0 [.ref (s), .float 0, .float 0, .float 0, .float 0, .float 0] []
  obtain ⟨s1, s2, s3, s4, s5, s6, s7, s8, s9, s10⟩ := id hS
  have L13 : ∀ (fuel : Nat) (k : Nat) (hk : k ≤ 12) (hb : jmax (slN M s) k < 1000000), 12 - k < fuel → J l D dA RX5 cX5_mostSpans wsX5_mostSpans 6 false (some .int) [] (21) (360) (jF D dA (jn M) (jPo (oI (nI (jmax (slN M s) 12))) (M)) 1) (jn M) (0) (0) (M) 13 [.ref (s), .int (nI (jmax (slN M s) k)), .ref (s + 1), .int (nI (12)), .int (nI (k)), .float 0] [] := by
    intro fuel
    induction fuel with
    | zero => intro k hk hb hm; exact absurd hm (Nat.not_lt_zero _)
    | succ fuel ih13 =>
      intro k hk hb hm13
      refine J_iload dX5_mostSpans_13 rfl ?_
      refine J_iload_n dX5_mostSpans_15 rfl rfl ?_
      refine J_icmp_ge dX5_mostSpans_16 (tgt := 50) (by decide) (fun c16 => ?_) (fun c16 => ?_)
      · have c16 := jleT (a := 12) (b := k) (by omega) (by omega) c16
        refine J_iload_n dX5_mostSpans_50 rfl rfl ?_
        exact J_iret (ty := .int) dX5_mostSpans_51 rfl (rfl) ⟨(by rw [show k = 12 from by omega]), (by rfl)⟩
      · have c16 := jleF (a := 12) (b := k) (by omega) (by omega) c16
        refine J_aload_n (s + 1) dX5_mostSpans_19 rfl rfl ?_
        refine J_iload dX5_mostSpans_20 rfl ?_
        refine J_aald3N (k := k) dX5_mostSpans_22 (show s + 1 < jn M from by omega) s5 (by exact Nat.lt_of_lt_of_eq (show _ < 12 by omega) (Eq.symm s6)) (by exact Nat.lt_of_le_of_lt (Nat.le_of_eq s6) (show 12 < 2 ^ 31 by omega)) ?_
        refine J_astoreq (r := jr M (s + 1) k) (lv' := [.ref (s), .int (nI (jmax (slN M s) k)), .ref (s + 1), .int (nI (12)), .int (nI (k)), va_rf (jr M (s + 1) k)]) dX5_mostSpans_23 (by decide) rfl rfl ?_
        refine J_aloadq (jr M (s + 1) k) dX5_mostSpans_25 rfl ?_
        refine J_ifnull dX5_mostSpans_27 (tgt := 42) (by decide) (fun c27 => ?_) (fun r27 c27 => ?_)
        · refine J_iload_n dX5_mostSpans_42 rfl rfl ?_
          refine J_topi (y := nI (jmax (slN M s) (k + 1))) (by first | rfl | (show _ = nI (max (jmax (slN M s) k) (slN M s k)); rw [slN_n c27, Nat.max_eq_left (Nat.zero_le _)]) | fail "none") ?_
          refine J_istore_n (lv' := [.ref (s), .int (nI (jmax (slN M s) (k + 1))), .ref (s + 1), .int (nI (12)), .int (nI (k)), va_rf (jr M (s + 1) k)]) dX5_mostSpans_43 rfl (by decide) rfl rfl ?_
          refine J_iinc (y := nI (k + 1)) (lv' := [.ref (s), .int (nI (jmax (slN M s) (k + 1))), .ref (s + 1), .int (nI (12)), .int (nI (k + 1)), va_rf (jr M (s + 1) k)]) dX5_mostSpans_44 rfl (jinc (k)) (by decide) rfl rfl ?_
          refine J_goto (tgt := 13) dX5_mostSpans_47 (by decide) ?_
          refine J_fg 5 (lv' := [.ref (s), .int (nI (jmax (slN M s) (k + 1))), .ref (s + 1), .int (nI (12)), .int (nI (k + 1)), .float 0]) rfl ?_
          exact ih13 (k + 1) (by omega) (by first | (show (0:Nat) < 1000000; decide) | (show max (jmax (slN M s) k) (slN M s k) < 1000000; first | (rw [slN_s c27]; have := hrr27.2.2.2.2.2; omega) | (rw [slN_n c27]; omega) | fail "hb")) (by omega)
        · refine J_conv (M' := M) (lv' := [.ref (s), .int (nI (jmax (slN M s) k)), .ref (s + 1), .int (nI (12)), .int (nI (k)), .ref (r27)]) (st' := []) rfl (by first | (rw [c27]; done) | (rw [c27]; rfl)) rfl ?_
          have hrr27 := hSl k r27 (by omega) c27
          refine J_iload_n dX5_mostSpans_30 rfl rfl ?_
          refine J_aload (r27) dX5_mostSpans_31 rfl ?_
          refine J_calli0 (jrunV (As := []) (ct_X3_spanCount l D dA hst M r27 (rn M r27) hrr27) dX5_mostSpans_33 yY_X3_spanCount gX5_mostSpans_X3_spanCount rfl cs7 (Nat.lt_of_succ_lt hrr27.1) hrr27.2.1 rfl ⟨by omega, by omega⟩ ⟨Nat.zero_le _, Nat.zero_le _⟩ rfl (Nat.le_of_ble_eq_true rfl)) (rfl) (rfl) ?_
          refine J_mmax dX5_mostSpans_36 (List.mem_of_getElem? (i := 2) rfl) (List.mem_of_getElem? (i := 3) rfl) (List.mem_of_getElem? (i := 4) rfl) (List.mem_of_getElem? (i := 5) rfl) (Nat.le_of_ble_eq_true rfl) (by omega) (by omega) ?_
          refine J_topi (y := nI (jmax (slN M s) (k + 1))) (by show _ = nI (max (jmax (slN M s) k) (slN M s k)); rw [slN_s c27]; exact jmaxI (a := jmax (slN M s) k) (b := rn M r27) (by omega) (by have := hrr27.2.2.2.2.2; omega)) ?_
          refine J_goto (tgt := 43) dX5_mostSpans_39 (by decide) ?_
          refine J_topi (y := nI (jmax (slN M s) (k + 1))) (by first | rfl | (show _ = nI (max (jmax (slN M s) k) (slN M s k)); rw [slN_n c27, Nat.max_eq_left (Nat.zero_le _)]) | fail "none") ?_
          refine J_istore_n (lv' := [.ref (s), .int (nI (jmax (slN M s) (k + 1))), .ref (s + 1), .int (nI (12)), .int (nI (k)), .ref (r27)]) dX5_mostSpans_43 rfl (by decide) rfl rfl ?_
          refine J_iinc (y := nI (k + 1)) (lv' := [.ref (s), .int (nI (jmax (slN M s) (k + 1))), .ref (s + 1), .int (nI (12)), .int (nI (k + 1)), .ref (r27)]) dX5_mostSpans_44 rfl (jinc (k)) (by decide) rfl rfl ?_
          refine J_goto (tgt := 13) dX5_mostSpans_47 (by decide) ?_
          refine J_fg 5 (lv' := [.ref (s), .int (nI (jmax (slN M s) (k + 1))), .ref (s + 1), .int (nI (12)), .int (nI (k + 1)), .float 0]) rfl ?_
          exact ih13 (k + 1) (by omega) (by first | (show (0:Nat) < 1000000; decide) | (show max (jmax (slN M s) k) (slN M s k) < 1000000; first | (rw [slN_s c27]; have := hrr27.2.2.2.2.2; omega) | (rw [slN_n c27]; omega) | fail "hb")) (by omega)
  refine J_iconst (x := 0) dX5_mostSpans_0 (by decide) ?_
  refine J_istore_n (lv' := [.ref (s), .int (0), .float 0, .float 0, .float 0, .float 0]) dX5_mostSpans_1 rfl (by decide) rfl rfl ?_
  refine J_aload_n (s) dX5_mostSpans_2 rfl rfl ?_
  refine J_getrs (q := s + 1) s3 dX5_mostSpans_3 (fun _ h => List.mem_cons_of_mem _ (List.mem_append_left _ (List.mem_append_right _ (h)))) cs9 (by decide) rfl (List.mem_of_getElem? (i := 1) rfl) rfl (show s < jn M from by omega) s2 ?_
  refine J_astore_n (x := s + 1) (lv' := [.ref (s), .int (0), .ref (s + 1), .float 0, .float 0, .float 0]) dX5_mostSpans_6 rfl (by decide) rfl rfl ?_
  refine J_aload_n (s + 1) dX5_mostSpans_7 rfl rfl ?_
  refine J_alen (t := 3) dX5_mostSpans_8 (show s + 1 < jn M from by omega) s5 rfl ?_
  refine J_topi (y := nI (12)) (congrArg nI s6) ?_
  refine J_istore_n (lv' := [.ref (s), .int (0), .ref (s + 1), .int (nI (12)), .float 0, .float 0]) dX5_mostSpans_9 rfl (by decide) rfl rfl ?_
  refine J_iconst (x := 0) dX5_mostSpans_10 (by decide) ?_
  refine J_istore (lv' := [.ref (s), .int (0), .ref (s + 1), .int (nI (12)), .int (0), .float 0]) dX5_mostSpans_11 (by decide) rfl rfl ?_
  exact L13 _ (0) (by omega) (by first | (show (0:Nat) < 1000000; decide) | (show max (jmax (slN M s) k) (slN M s k) < 1000000; first | (rw [slN_s c27]; have := hrr27.2.2.2.2.2; omega) | (rw [slN_n c27]; omega) | fail "hb")) (Nat.lt_succ_self _)

theorem dX5_emptyRangeCount_13 : decode cX5_emptyRangeCount 13 = .ok (.iload 4, 2) := by decide +kernel
theorem dX5_emptyRangeCount_15 : decode cX5_emptyRangeCount 15 = .ok (.iload_n 3, 1) := by decide +kernel
theorem dX5_emptyRangeCount_16 : decode cX5_emptyRangeCount 16 = .ok (.if_icmp .ge 36, 3) := by decide +kernel
theorem dX5_emptyRangeCount_52 : decode cX5_emptyRangeCount 52 = .ok (.iload_n 1, 1) := by decide +kernel
theorem dX5_emptyRangeCount_53 : decode cX5_emptyRangeCount 53 = .ok (.ireturn, 1) := by decide +kernel
theorem dX5_emptyRangeCount_19 : decode cX5_emptyRangeCount 19 = .ok (.aload_n 2, 1) := by decide +kernel
theorem dX5_emptyRangeCount_20 : decode cX5_emptyRangeCount 20 = .ok (.iload 4, 2) := by decide +kernel
theorem dX5_emptyRangeCount_22 : decode cX5_emptyRangeCount 22 = .ok (.aaload, 1) := by decide +kernel
theorem dX5_emptyRangeCount_23 : decode cX5_emptyRangeCount 23 = .ok (.astore 5, 2) := by decide +kernel
theorem dX5_emptyRangeCount_25 : decode cX5_emptyRangeCount 25 = .ok (.iload_n 1, 1) := by decide +kernel
theorem dX5_emptyRangeCount_26 : decode cX5_emptyRangeCount 26 = .ok (.aload 5, 2) := by decide +kernel
theorem dX5_emptyRangeCount_28 : decode cX5_emptyRangeCount 28 = .ok (.ifnull 15, 3) := by decide +kernel
theorem dX5_emptyRangeCount_43 : decode cX5_emptyRangeCount 43 = .ok (.iconst 0, 1) := by decide +kernel
theorem dX5_emptyRangeCount_44 : decode cX5_emptyRangeCount 44 = .ok (.iadd, 1) := by decide +kernel
theorem dX5_emptyRangeCount_45 : decode cX5_emptyRangeCount 45 = .ok (.istore_n 1, 1) := by decide +kernel
theorem dX5_emptyRangeCount_46 : decode cX5_emptyRangeCount 46 = .ok (.iinc 4 1, 3) := by decide +kernel
theorem dX5_emptyRangeCount_49 : decode cX5_emptyRangeCount 49 = .ok (.goto (-36), 3) := by decide +kernel
theorem dX5_emptyRangeCount_31 : decode cX5_emptyRangeCount 31 = .ok (.aload 5, 2) := by decide +kernel
theorem dX5_emptyRangeCount_33 : decode cX5_emptyRangeCount 33 = .ok (.invokevirtual 41, 3) := by decide +kernel
set_option maxRecDepth 20000 in
theorem ggX5_emptyRangeCount_X3_isEmpty : GoodIn wsX5_emptyRangeCount wsX3_isEmpty := goodIn_r _ [6, 7, 11] (by decide +kernel) (by decide +kernel)
set_option maxRecDepth 20000 in
theorem gX5_emptyRangeCount_X3_isEmpty : GoodIn wsX5_emptyRangeCount (wsV RX5 41 RX3 yX3_isEmpty wsX3_isEmpty) := goodIn_app (goodIn_of _ (by decide +kernel)) ggX5_emptyRangeCount_X3_isEmpty
theorem yY_X3_isEmpty : jY yX3_isEmpty wsX3_isEmpty cX3_isEmpty 1 (some .boolean) 0 := ⟨⟨_, rfl⟩, by decide +kernel, by decide +kernel, by decide +kernel⟩
theorem dX5_emptyRangeCount_36 : decode cX5_emptyRangeCount 36 = .ok (.ifCond .eq 7, 3) := by decide +kernel
theorem dX5_emptyRangeCount_39 : decode cX5_emptyRangeCount 39 = .ok (.iconst 1, 1) := by decide +kernel
theorem dX5_emptyRangeCount_40 : decode cX5_emptyRangeCount 40 = .ok (.goto 4, 3) := by decide +kernel
theorem dX5_emptyRangeCount_0 : decode cX5_emptyRangeCount 0 = .ok (.iconst 0, 1) := by decide +kernel
theorem dX5_emptyRangeCount_1 : decode cX5_emptyRangeCount 1 = .ok (.istore_n 1, 1) := by decide +kernel
theorem dX5_emptyRangeCount_2 : decode cX5_emptyRangeCount 2 = .ok (.aload_n 0, 1) := by decide +kernel
theorem dX5_emptyRangeCount_3 : decode cX5_emptyRangeCount 3 = .ok (.getfield 11, 3) := by decide +kernel
theorem dX5_emptyRangeCount_6 : decode cX5_emptyRangeCount 6 = .ok (.astore_n 2, 1) := by decide +kernel
theorem dX5_emptyRangeCount_7 : decode cX5_emptyRangeCount 7 = .ok (.aload_n 2, 1) := by decide +kernel
theorem dX5_emptyRangeCount_8 : decode cX5_emptyRangeCount 8 = .ok (.arraylength, 1) := by decide +kernel
theorem dX5_emptyRangeCount_9 : decode cX5_emptyRangeCount 9 = .ok (.istore_n 3, 1) := by decide +kernel
theorem dX5_emptyRangeCount_10 : decode cX5_emptyRangeCount 10 = .ok (.iconst 0, 1) := by decide +kernel
theorem dX5_emptyRangeCount_11 : decode cX5_emptyRangeCount 11 = .ok (.istore 4, 2) := by decide +kernel
set_option maxHeartbeats 2000000 in
set_option maxRecDepth 20000 in
theorem ct_X5_emptyRangeCount (l : Launch) (D : va_G) (dA : Nat → ClassId) (hst : l.stackTraces = false) (M : jM) (s c : Nat) (hS : jStt M s c) (hSl : jSlots M s) : jCT l D dA yX5_emptyRangeCount wsX5_emptyRangeCount (21) (360) (0) (0) 1 [.ref (s)] M (jPo (oI (nI (jcnt (slB M s (fun t => decide (rn M t = 0))) 12))) (M)) := by
  refine jBody (cc := cX5_emptyRangeCount) (nL := 6) (rt := (some .int)) (ini := false) (by decide) rfl hst (Nat.le_of_ble_eq_true rfl) (by simp [Value.category]) (by intro h9; first | exact absurd h9 (by decide) | rfl) ?_
  show J l D dA RX5 cX5_emptyRangeCount wsX5_emptyRangeCount 6 false (some .int) [] (21) (360) (jF D dA (jn M) (jPo (oI (nI (jcnt (slB M s (fun t => decide (rn M t = 0))) 12))) (M)) 1) (jn M) (0) (0) (M) 0 [.ref (s), .float 0, .float 0, .float 0, .float 0, .float 0] []
  obtain ⟨s1, s2, s3, s4, s5, s6, s7, s8, s9, s10⟩ := id hS
  have L13 : ∀ (fuel : Nat) (k : Nat) (hk : k ≤ 12), 12 - k < fuel → J l D dA RX5 cX5_emptyRangeCount wsX5_emptyRangeCount 6 false (some .int) [] (21) (360) (jF D dA (jn M) (jPo (oI (nI (jcnt (slB M s (fun t => decide (rn M t = 0))) 12))) (M)) 1) (jn M) (0) (0) (M) 13 [.ref (s), .int (nI (jcnt (slB M s (fun t => decide (rn M t = 0))) k)), .ref (s + 1), .int (nI (12)), .int (nI (k)), .float 0] [] := by
    intro fuel
    induction fuel with
    | zero => intro k hk hm; exact absurd hm (Nat.not_lt_zero _)
    | succ fuel ih13 =>
      intro k hk hm13
      refine J_iload dX5_emptyRangeCount_13 rfl ?_
      refine J_iload_n dX5_emptyRangeCount_15 rfl rfl ?_
      refine J_icmp_ge dX5_emptyRangeCount_16 (tgt := 52) (by decide) (fun c16 => ?_) (fun c16 => ?_)
      · have c16 := jleT (a := 12) (b := k) (by omega) (by omega) c16
        refine J_iload_n dX5_emptyRangeCount_52 rfl rfl ?_
        exact J_iret (ty := .int) dX5_emptyRangeCount_53 rfl (rfl) ⟨(by rw [show k = 12 from by omega]), (by rfl)⟩
      · have c16 := jleF (a := 12) (b := k) (by omega) (by omega) c16
        refine J_aload_n (s + 1) dX5_emptyRangeCount_19 rfl rfl ?_
        refine J_iload dX5_emptyRangeCount_20 rfl ?_
        refine J_aald3N (k := k) dX5_emptyRangeCount_22 (show s + 1 < jn M from by omega) s5 (by exact Nat.lt_of_lt_of_eq (show _ < 12 by omega) (Eq.symm s6)) (by exact Nat.lt_of_le_of_lt (Nat.le_of_eq s6) (show 12 < 2 ^ 31 by omega)) ?_
        refine J_astoreq (r := jr M (s + 1) k) (lv' := [.ref (s), .int (nI (jcnt (slB M s (fun t => decide (rn M t = 0))) k)), .ref (s + 1), .int (nI (12)), .int (nI (k)), va_rf (jr M (s + 1) k)]) dX5_emptyRangeCount_23 (by decide) rfl rfl ?_
        refine J_iload_n dX5_emptyRangeCount_25 rfl rfl ?_
        refine J_aloadq (jr M (s + 1) k) dX5_emptyRangeCount_26 rfl ?_
        refine J_ifnull dX5_emptyRangeCount_28 (tgt := 43) (by decide) (fun c28 => ?_) (fun r28 c28 => ?_)
        · refine J_iconst (x := 0) dX5_emptyRangeCount_43 (by decide) ?_
          refine J_iadd dX5_emptyRangeCount_44 ?_
          refine J_topi (y := nI (jcnt (slB M s (fun t => decide (rn M t = 0))) k + 0)) (nI_add (jcnt (slB M s (fun t => decide (rn M t = 0))) k) (0)) ?_
          refine J_topi (y := nI (jcnt (slB M s (fun t => decide (rn M t = 0))) (k + 1))) (by exact congrArg nI (by first | (simp [jcnt, slB_s c28]; simpa using c36) | (simp [jcnt, slB_n c28]; done) | (simp [jcnt, slB_s c28, c36]; done))) ?_
          refine J_istore_n (lv' := [.ref (s), .int (nI (jcnt (slB M s (fun t => decide (rn M t = 0))) (k + 1))), .ref (s + 1), .int (nI (12)), .int (nI (k)), va_rf (jr M (s + 1) k)]) dX5_emptyRangeCount_45 rfl (by decide) rfl rfl ?_
          refine J_iinc (y := nI (k + 1)) (lv' := [.ref (s), .int (nI (jcnt (slB M s (fun t => decide (rn M t = 0))) (k + 1))), .ref (s + 1), .int (nI (12)), .int (nI (k + 1)), va_rf (jr M (s + 1) k)]) dX5_emptyRangeCount_46 rfl (jinc (k)) (by decide) rfl rfl ?_
          refine J_goto (tgt := 13) dX5_emptyRangeCount_49 (by decide) ?_
          refine J_fg 5 (lv' := [.ref (s), .int (nI (jcnt (slB M s (fun t => decide (rn M t = 0))) (k + 1))), .ref (s + 1), .int (nI (12)), .int (nI (k + 1)), .float 0]) rfl ?_
          exact ih13 (k + 1) (by omega) (by omega)
        · refine J_conv (M' := M) (lv' := [.ref (s), .int (nI (jcnt (slB M s (fun t => decide (rn M t = 0))) k)), .ref (s + 1), .int (nI (12)), .int (nI (k)), .ref (r28)]) (st' := [.int (nI (jcnt (slB M s (fun t => decide (rn M t = 0))) k))]) rfl (by first | (rw [c28]; done) | (rw [c28]; rfl)) rfl ?_
          have hrr28 := hSl k r28 (by omega) c28
          refine J_aload (r28) dX5_emptyRangeCount_31 rfl ?_
          refine J_calli0 (jrunV (As := []) (ct_X3_isEmpty l D dA hst M r28 (rn M r28) hrr28) dX5_emptyRangeCount_33 yY_X3_isEmpty gX5_emptyRangeCount_X3_isEmpty rfl cs7 (Nat.lt_of_succ_lt hrr28.1) hrr28.2.1 rfl ⟨by omega, by omega⟩ ⟨Nat.zero_le _, Nat.zero_le _⟩ rfl (Nat.le_of_ble_eq_true rfl)) (rfl) (rfl) ?_
          refine J_if_eq dX5_emptyRangeCount_36 (tgt := 43) (by decide) (fun c36 => ?_) (fun c36 => ?_)
          · have c36 := jb0T c36
            refine J_iconst (x := 0) dX5_emptyRangeCount_43 (by decide) ?_
            refine J_iadd dX5_emptyRangeCount_44 ?_
            refine J_topi (y := nI (jcnt (slB M s (fun t => decide (rn M t = 0))) k + 0)) (nI_add (jcnt (slB M s (fun t => decide (rn M t = 0))) k) (0)) ?_
            refine J_topi (y := nI (jcnt (slB M s (fun t => decide (rn M t = 0))) (k + 1))) (by exact congrArg nI (by first | (simp [jcnt, slB_s c28]; simpa using c36) | (simp [jcnt, slB_n c28]; done) | (simp [jcnt, slB_s c28, c36]; done))) ?_
            refine J_istore_n (lv' := [.ref (s), .int (nI (jcnt (slB M s (fun t => decide (rn M t = 0))) (k + 1))), .ref (s + 1), .int (nI (12)), .int (nI (k)), .ref (r28)]) dX5_emptyRangeCount_45 rfl (by decide) rfl rfl ?_
            refine J_iinc (y := nI (k + 1)) (lv' := [.ref (s), .int (nI (jcnt (slB M s (fun t => decide (rn M t = 0))) (k + 1))), .ref (s + 1), .int (nI (12)), .int (nI (k + 1)), .ref (r28)]) dX5_emptyRangeCount_46 rfl (jinc (k)) (by decide) rfl rfl ?_
            refine J_goto (tgt := 13) dX5_emptyRangeCount_49 (by decide) ?_
            refine J_fg 5 (lv' := [.ref (s), .int (nI (jcnt (slB M s (fun t => decide (rn M t = 0))) (k + 1))), .ref (s + 1), .int (nI (12)), .int (nI (k + 1)), .float 0]) rfl ?_
            exact ih13 (k + 1) (by omega) (by omega)
          · have c36 := jb0F c36
            refine J_iconst (x := 1) dX5_emptyRangeCount_39 (by decide) ?_
            refine J_goto (tgt := 44) dX5_emptyRangeCount_40 (by decide) ?_
            refine J_iadd dX5_emptyRangeCount_44 ?_
            refine J_topi (y := nI (jcnt (slB M s (fun t => decide (rn M t = 0))) k + 1)) (nI_add (jcnt (slB M s (fun t => decide (rn M t = 0))) k) (1)) ?_
            refine J_topi (y := nI (jcnt (slB M s (fun t => decide (rn M t = 0))) (k + 1))) (by exact congrArg nI (by first | (simp [jcnt, slB_s c28]; simpa using c36) | (simp [jcnt, slB_n c28]; done) | (simp [jcnt, slB_s c28, c36]; done))) ?_
            refine J_istore_n (lv' := [.ref (s), .int (nI (jcnt (slB M s (fun t => decide (rn M t = 0))) (k + 1))), .ref (s + 1), .int (nI (12)), .int (nI (k)), .ref (r28)]) dX5_emptyRangeCount_45 rfl (by decide) rfl rfl ?_
            refine J_iinc (y := nI (k + 1)) (lv' := [.ref (s), .int (nI (jcnt (slB M s (fun t => decide (rn M t = 0))) (k + 1))), .ref (s + 1), .int (nI (12)), .int (nI (k + 1)), .ref (r28)]) dX5_emptyRangeCount_46 rfl (jinc (k)) (by decide) rfl rfl ?_
            refine J_goto (tgt := 13) dX5_emptyRangeCount_49 (by decide) ?_
            refine J_fg 5 (lv' := [.ref (s), .int (nI (jcnt (slB M s (fun t => decide (rn M t = 0))) (k + 1))), .ref (s + 1), .int (nI (12)), .int (nI (k + 1)), .float 0]) rfl ?_
            exact ih13 (k + 1) (by omega) (by omega)
  refine J_iconst (x := 0) dX5_emptyRangeCount_0 (by decide) ?_
  refine J_istore_n (lv' := [.ref (s), .int (0), .float 0, .float 0, .float 0, .float 0]) dX5_emptyRangeCount_1 rfl (by decide) rfl rfl ?_
  refine J_aload_n (s) dX5_emptyRangeCount_2 rfl rfl ?_
  refine J_getrs (q := s + 1) s3 dX5_emptyRangeCount_3 (fun _ h => List.mem_cons_of_mem _ (List.mem_append_left _ (List.mem_append_right _ (h)))) cs9 (by decide) rfl (List.mem_of_getElem? (i := 1) rfl) rfl (show s < jn M from by omega) s2 ?_
  refine J_astore_n (x := s + 1) (lv' := [.ref (s), .int (0), .ref (s + 1), .float 0, .float 0, .float 0]) dX5_emptyRangeCount_6 rfl (by decide) rfl rfl ?_
  refine J_aload_n (s + 1) dX5_emptyRangeCount_7 rfl rfl ?_
  refine J_alen (t := 3) dX5_emptyRangeCount_8 (show s + 1 < jn M from by omega) s5 rfl ?_
  refine J_topi (y := nI (12)) (congrArg nI s6) ?_
  refine J_istore_n (lv' := [.ref (s), .int (0), .ref (s + 1), .int (nI (12)), .float 0, .float 0]) dX5_emptyRangeCount_9 rfl (by decide) rfl rfl ?_
  refine J_iconst (x := 0) dX5_emptyRangeCount_10 (by decide) ?_
  refine J_istore (lv' := [.ref (s), .int (0), .ref (s + 1), .int (nI (12)), .int (0), .float 0]) dX5_emptyRangeCount_11 (by decide) rfl rfl ?_
  exact L13 _ (0) (by omega) (Nat.lt_succ_self _)

theorem dX5_isInSomeRange_11 : decode cX5_isInSomeRange 11 = .ok (.iload 4, 2) := by decide +kernel
theorem dX5_isInSomeRange_13 : decode cX5_isInSomeRange 13 = .ok (.iload_n 3, 1) := by decide +kernel
theorem dX5_isInSomeRange_14 : decode cX5_isInSomeRange 14 = .ok (.if_icmp .ge 31, 3) := by decide +kernel
theorem dX5_isInSomeRange_45 : decode cX5_isInSomeRange 45 = .ok (.iconst 0, 1) := by decide +kernel
theorem dX5_isInSomeRange_46 : decode cX5_isInSomeRange 46 = .ok (.ireturn, 1) := by decide +kernel
theorem dX5_isInSomeRange_17 : decode cX5_isInSomeRange 17 = .ok (.aload_n 2, 1) := by decide +kernel
theorem dX5_isInSomeRange_18 : decode cX5_isInSomeRange 18 = .ok (.iload 4, 2) := by decide +kernel
theorem dX5_isInSomeRange_20 : decode cX5_isInSomeRange 20 = .ok (.aaload, 1) := by decide +kernel
theorem dX5_isInSomeRange_21 : decode cX5_isInSomeRange 21 = .ok (.astore 5, 2) := by decide +kernel
theorem dX5_isInSomeRange_23 : decode cX5_isInSomeRange 23 = .ok (.aload 5, 2) := by decide +kernel
theorem dX5_isInSomeRange_25 : decode cX5_isInSomeRange 25 = .ok (.ifnull 14, 3) := by decide +kernel
theorem dX5_isInSomeRange_39 : decode cX5_isInSomeRange 39 = .ok (.iinc 4 1, 3) := by decide +kernel
theorem dX5_isInSomeRange_42 : decode cX5_isInSomeRange 42 = .ok (.goto (-31), 3) := by decide +kernel
theorem dX5_isInSomeRange_28 : decode cX5_isInSomeRange 28 = .ok (.aload 5, 2) := by decide +kernel
theorem dX5_isInSomeRange_30 : decode cX5_isInSomeRange 30 = .ok (.iload_n 1, 1) := by decide +kernel
theorem dX5_isInSomeRange_31 : decode cX5_isInSomeRange 31 = .ok (.invokevirtual 63, 3) := by decide +kernel
set_option maxRecDepth 20000 in
theorem ggX5_isInSomeRange_X3_holds : GoodIn wsX5_isInSomeRange wsX3_holds := goodIn_ca (goodIn_r _ [6, 7, 8, 9, 5, 10, 11, 12, 13, 14, 15, 16, 17, 18, 19, 23] (by decide +kernel) (by decide +kernel)) (goodIn_sub (fun _ h => List.mem_cons_of_mem _ (List.mem_append_right _ h)) (by decide +kernel))
set_option maxRecDepth 20000 in
theorem gX5_isInSomeRange_X3_holds : GoodIn wsX5_isInSomeRange (wsV RX5 63 RX3 yX3_holds wsX3_holds) := goodIn_app (goodIn_of _ (by decide +kernel)) ggX5_isInSomeRange_X3_holds
theorem dX5_isInSomeRange_34 : decode cX5_isInSomeRange 34 = .ok (.ifCond .eq 5, 3) := by decide +kernel
theorem dX5_isInSomeRange_37 : decode cX5_isInSomeRange 37 = .ok (.iconst 1, 1) := by decide +kernel
theorem dX5_isInSomeRange_38 : decode cX5_isInSomeRange 38 = .ok (.ireturn, 1) := by decide +kernel
theorem dX5_isInSomeRange_0 : decode cX5_isInSomeRange 0 = .ok (.aload_n 0, 1) := by decide +kernel
theorem dX5_isInSomeRange_1 : decode cX5_isInSomeRange 1 = .ok (.getfield 11, 3) := by decide +kernel
theorem dX5_isInSomeRange_4 : decode cX5_isInSomeRange 4 = .ok (.astore_n 2, 1) := by decide +kernel
theorem dX5_isInSomeRange_5 : decode cX5_isInSomeRange 5 = .ok (.aload_n 2, 1) := by decide +kernel
theorem dX5_isInSomeRange_6 : decode cX5_isInSomeRange 6 = .ok (.arraylength, 1) := by decide +kernel
theorem dX5_isInSomeRange_7 : decode cX5_isInSomeRange 7 = .ok (.istore_n 3, 1) := by decide +kernel
theorem dX5_isInSomeRange_8 : decode cX5_isInSomeRange 8 = .ok (.iconst 0, 1) := by decide +kernel
theorem dX5_isInSomeRange_9 : decode cX5_isInSomeRange 9 = .ok (.istore 4, 2) := by decide +kernel
set_option maxHeartbeats 2000000 in
set_option maxRecDepth 20000 in
theorem ct_X5_isInSomeRange (l : Launch) (D : va_G) (dA : Nat → ClassId) (hst : l.stackTraces = false) (M : jM) (s c : Nat) (hS : jStt M s c) (hSl : jSlots M s) (x : Int32) : jCT l D dA yX5_isInSomeRange wsX5_isInSomeRange (23) (480) (0) (0) 1 [.ref (s), .int (x)] M (jPo (oI (jb (inSome M s x))) (M)) := by
  refine jBody (cc := cX5_isInSomeRange) (nL := 6) (rt := (some .boolean)) (ini := false) (by decide) rfl hst (Nat.le_of_ble_eq_true rfl) (by simp [Value.category]) (by intro h9; first | exact absurd h9 (by decide) | rfl) ?_
  show J l D dA RX5 cX5_isInSomeRange wsX5_isInSomeRange 6 false (some .boolean) [] (23) (480) (jF D dA (jn M) (jPo (oI (jb (inSome M s x))) (M)) 1) (jn M) (0) (0) (M) 0 [.ref (s), .int (x), .float 0, .float 0, .float 0, .float 0] []
  obtain ⟨s1, s2, s3, s4, s5, s6, s7, s8, s9, s10⟩ := id hS
  have L11 : ∀ (fuel : Nat) (k : Nat) (hk : k ≤ 12) (hI : jany (slB M s (fun t => rHolds (ji M (t + 1)) (rn M t) x)) k = false), 12 - k < fuel → J l D dA RX5 cX5_isInSomeRange wsX5_isInSomeRange 6 false (some .boolean) [] (23) (480) (jF D dA (jn M) (jPo (oI (jb (inSome M s x))) (M)) 1) (jn M) (0) (0) (M) 11 [.ref (s), .int (x), .ref (s + 1), .int (nI (12)), .int (nI (k)), .float 0] [] := by
    intro fuel
    induction fuel with
    | zero => intro k hk hI hm; exact absurd hm (Nat.not_lt_zero _)
    | succ fuel ih11 =>
      intro k hk hI hm11
      refine J_iload dX5_isInSomeRange_11 rfl ?_
      refine J_iload_n dX5_isInSomeRange_13 rfl rfl ?_
      refine J_icmp_ge dX5_isInSomeRange_14 (tgt := 45) (by decide) (fun c14 => ?_) (fun c14 => ?_)
      · have c14 := jleT (a := 12) (b := k) (by omega) (by omega) c14
        refine J_iconst (x := 0) dX5_isInSomeRange_45 (by decide) ?_
        exact J_iret (ty := .boolean) dX5_isInSomeRange_46 rfl (by rfl) ⟨(by unfold inSome; rw [show k = 12 from by omega] at hI; rw [hI]; rfl), (by rfl)⟩
      · have c14 := jleF (a := 12) (b := k) (by omega) (by omega) c14
        refine J_aload_n (s + 1) dX5_isInSomeRange_17 rfl rfl ?_
        refine J_iload dX5_isInSomeRange_18 rfl ?_
        refine J_aald3N (k := k) dX5_isInSomeRange_20 (show s + 1 < jn M from by omega) s5 (by exact Nat.lt_of_lt_of_eq (show _ < 12 by omega) (Eq.symm s6)) (by exact Nat.lt_of_le_of_lt (Nat.le_of_eq s6) (show 12 < 2 ^ 31 by omega)) ?_
        refine J_astoreq (r := jr M (s + 1) k) (lv' := [.ref (s), .int (x), .ref (s + 1), .int (nI (12)), .int (nI (k)), va_rf (jr M (s + 1) k)]) dX5_isInSomeRange_21 (by decide) rfl rfl ?_
        refine J_aloadq (jr M (s + 1) k) dX5_isInSomeRange_23 rfl ?_
        refine J_ifnull dX5_isInSomeRange_25 (tgt := 39) (by decide) (fun c25 => ?_) (fun r25 c25 => ?_)
        · refine J_iinc (y := nI (k + 1)) (lv' := [.ref (s), .int (x), .ref (s + 1), .int (nI (12)), .int (nI (k + 1)), va_rf (jr M (s + 1) k)]) dX5_isInSomeRange_39 rfl (jinc (k)) (by decide) rfl rfl ?_
          refine J_goto (tgt := 11) dX5_isInSomeRange_42 (by decide) ?_
          refine J_fg 5 (lv' := [.ref (s), .int (x), .ref (s + 1), .int (nI (12)), .int (nI (k + 1)), .float 0]) rfl ?_
          exact ih11 (k + 1) (by omega) (by first | rfl | (simp [jany, hI, slB_n c25]; done) | (simp [jany, hI, slB_s c25, c34]; done)) (by omega)
        · refine J_conv (M' := M) (lv' := [.ref (s), .int (x), .ref (s + 1), .int (nI (12)), .int (nI (k)), .ref (r25)]) (st' := []) rfl (by first | (rw [c25]; done) | (rw [c25]; rfl)) rfl ?_
          have hrr25 := hSl k r25 (by omega) c25
          refine J_aload (r25) dX5_isInSomeRange_28 rfl ?_
          refine J_iload_n dX5_isInSomeRange_30 rfl rfl ?_
          refine J_calli0 (jrunV (As := [.int (x)]) (ct_X3_holds l D dA hst M r25 (rn M r25) hrr25 ((x))) dX5_isInSomeRange_31 yY_X3_holds gX5_isInSomeRange_X3_holds rfl cs7 (Nat.lt_of_succ_lt hrr25.1) hrr25.2.1 rfl ⟨by omega, by omega⟩ ⟨Nat.zero_le _, Nat.zero_le _⟩ rfl (Nat.le_of_ble_eq_true rfl)) (rfl) (rfl) ?_
          refine J_if_eq dX5_isInSomeRange_34 (tgt := 39) (by decide) (fun c34 => ?_) (fun c34 => ?_)
          · have c34 := jb0T c34
            refine J_iinc (y := nI (k + 1)) (lv' := [.ref (s), .int (x), .ref (s + 1), .int (nI (12)), .int (nI (k + 1)), .ref (r25)]) dX5_isInSomeRange_39 rfl (jinc (k)) (by decide) rfl rfl ?_
            refine J_goto (tgt := 11) dX5_isInSomeRange_42 (by decide) ?_
            refine J_fg 5 (lv' := [.ref (s), .int (x), .ref (s + 1), .int (nI (12)), .int (nI (k + 1)), .float 0]) rfl ?_
            exact ih11 (k + 1) (by omega) (by first | rfl | (simp [jany, hI, slB_n c25]; done) | (simp [jany, hI, slB_s c25, c34]; done)) (by omega)
          · have c34 := jb0F c34
            refine J_iconst (x := 1) dX5_isInSomeRange_37 (by decide) ?_
            exact J_iret (ty := .boolean) dX5_isInSomeRange_38 rfl (by rfl) ⟨(by unfold inSome; rw [jany_in (k := k) (by omega) (by rw [slB_s c25]; exact c34)]; rfl), (by rfl)⟩
  refine J_aload_n (s) dX5_isInSomeRange_0 rfl rfl ?_
  refine J_getrs (q := s + 1) s3 dX5_isInSomeRange_1 (fun _ h => List.mem_cons_of_mem _ (List.mem_append_left _ (List.mem_append_left _ (List.mem_append_right _ (h))))) cs9 (by decide) rfl (List.mem_of_getElem? (i := 1) rfl) rfl (show s < jn M from by omega) s2 ?_
  refine J_astore_n (x := s + 1) (lv' := [.ref (s), .int (x), .ref (s + 1), .float 0, .float 0, .float 0]) dX5_isInSomeRange_4 rfl (by decide) rfl rfl ?_
  refine J_aload_n (s + 1) dX5_isInSomeRange_5 rfl rfl ?_
  refine J_alen (t := 3) dX5_isInSomeRange_6 (show s + 1 < jn M from by omega) s5 rfl ?_
  refine J_topi (y := nI (12)) (congrArg nI s6) ?_
  refine J_istore_n (lv' := [.ref (s), .int (x), .ref (s + 1), .int (nI (12)), .float 0, .float 0]) dX5_isInSomeRange_7 rfl (by decide) rfl rfl ?_
  refine J_iconst (x := 0) dX5_isInSomeRange_8 (by decide) ?_
  refine J_istore (lv' := [.ref (s), .int (x), .ref (s + 1), .int (nI (12)), .int (0), .float 0]) dX5_isInSomeRange_9 (by decide) rfl rfl ?_
  exact L11 _ (0) (by omega) (by first | rfl | (simp [jany, hI, slB_n c25]; done) | (simp [jany, hI, slB_s c25, c34]; done)) (Nat.lt_succ_self _)

theorem dX5_publishedPrereleaseCount_4 : decode cX5_publishedPrereleaseCount 4 = .ok (.iload_n 2, 1) := by decide +kernel
theorem dX5_publishedPrereleaseCount_5 : decode cX5_publishedPrereleaseCount 5 = .ok (.aload_n 0, 1) := by decide +kernel
theorem dX5_publishedPrereleaseCount_6 : decode cX5_publishedPrereleaseCount 6 = .ok (.getfield 21, 3) := by decide +kernel
theorem dX5_publishedPrereleaseCount_9 : decode cX5_publishedPrereleaseCount 9 = .ok (.if_icmp .ge 28, 3) := by decide +kernel
theorem dX5_publishedPrereleaseCount_37 : decode cX5_publishedPrereleaseCount 37 = .ok (.iload_n 1, 1) := by decide +kernel
theorem dX5_publishedPrereleaseCount_38 : decode cX5_publishedPrereleaseCount 38 = .ok (.ireturn, 1) := by decide +kernel
theorem dX5_publishedPrereleaseCount_12 : decode cX5_publishedPrereleaseCount 12 = .ok (.iload_n 1, 1) := by decide +kernel
theorem dX5_publishedPrereleaseCount_13 : decode cX5_publishedPrereleaseCount 13 = .ok (.aload_n 0, 1) := by decide +kernel
theorem dX5_publishedPrereleaseCount_14 : decode cX5_publishedPrereleaseCount 14 = .ok (.iload_n 2, 1) := by decide +kernel
theorem dX5_publishedPrereleaseCount_15 : decode cX5_publishedPrereleaseCount 15 = .ok (.invokevirtual 45, 3) := by decide +kernel
set_option maxRecDepth 20000 in
theorem ggX5_publishedPrereleaseCount_X5_publishedAt : GoodIn wsX5_publishedPrereleaseCount wsX5_publishedAt := goodIn_ca (goodIn_r _ [6, 1, 7, 11, 12, 13] (by decide +kernel) (by decide +kernel)) (goodIn_sub (fun _ h => List.mem_cons_of_mem _ (List.mem_append_right _ h)) (by decide +kernel))
set_option maxRecDepth 20000 in
theorem gX5_publishedPrereleaseCount_X5_publishedAt : GoodIn wsX5_publishedPrereleaseCount (wsV RX5 45 RX5 yX5_publishedAt wsX5_publishedAt) := goodIn_app (goodIn_of _ (by decide +kernel)) ggX5_publishedPrereleaseCount_X5_publishedAt
theorem dX5_publishedPrereleaseCount_18 : decode cX5_publishedPrereleaseCount 18 = .ok (.invokestatic 56, 3) := by decide +kernel
set_option maxRecDepth 20000 in
theorem ggX5_publishedPrereleaseCount_X7_isPrerelease : GoodIn wsX5_publishedPrereleaseCount wsX7_isPrerelease := goodIn_r _ [10] (by decide +kernel) (by decide +kernel)
set_option maxRecDepth 20000 in
theorem gX5_publishedPrereleaseCount_X7_isPrerelease_n56 : GoodIn wsX5_publishedPrereleaseCount (wsX7_isPrerelease) := ggX5_publishedPrereleaseCount_X7_isPrerelease
theorem jnw_X5_publishedPrereleaseCount_56 : Cond.methodLinkNest RX5 56 yX7_isPrerelease "VersionAlgebra" ∈ jNws := List.mem_filter.mpr ⟨by decide +kernel, rfl⟩
theorem dX5_publishedPrereleaseCount_21 : decode cX5_publishedPrereleaseCount 21 = .ok (.ifCond .eq 7, 3) := by decide +kernel
theorem dX5_publishedPrereleaseCount_28 : decode cX5_publishedPrereleaseCount 28 = .ok (.iconst 0, 1) := by decide +kernel
theorem dX5_publishedPrereleaseCount_29 : decode cX5_publishedPrereleaseCount 29 = .ok (.iadd, 1) := by decide +kernel
theorem dX5_publishedPrereleaseCount_30 : decode cX5_publishedPrereleaseCount 30 = .ok (.istore_n 1, 1) := by decide +kernel
theorem dX5_publishedPrereleaseCount_31 : decode cX5_publishedPrereleaseCount 31 = .ok (.iinc 2 1, 3) := by decide +kernel
theorem dX5_publishedPrereleaseCount_34 : decode cX5_publishedPrereleaseCount 34 = .ok (.goto (-30), 3) := by decide +kernel
theorem dX5_publishedPrereleaseCount_24 : decode cX5_publishedPrereleaseCount 24 = .ok (.iconst 1, 1) := by decide +kernel
theorem dX5_publishedPrereleaseCount_25 : decode cX5_publishedPrereleaseCount 25 = .ok (.goto 4, 3) := by decide +kernel
theorem dX5_publishedPrereleaseCount_0 : decode cX5_publishedPrereleaseCount 0 = .ok (.iconst 0, 1) := by decide +kernel
theorem dX5_publishedPrereleaseCount_1 : decode cX5_publishedPrereleaseCount 1 = .ok (.istore_n 1, 1) := by decide +kernel
theorem dX5_publishedPrereleaseCount_2 : decode cX5_publishedPrereleaseCount 2 = .ok (.iconst 0, 1) := by decide +kernel
theorem dX5_publishedPrereleaseCount_3 : decode cX5_publishedPrereleaseCount 3 = .ok (.istore_n 2, 1) := by decide +kernel
set_option maxHeartbeats 2000000 in
set_option maxRecDepth 20000 in
theorem ct_X5_publishedPrereleaseCount (l : Launch) (D : va_G) (dA : Nat → ClassId) (hst : l.stackTraces = false) (M : jM) (s c : Nat) (hS : jStt M s c) : jCT l D dA yX5_publishedPrereleaseCount wsX5_publishedPrereleaseCount (21) (360) (0) (0) 1 [.ref (s)] M (jPo (oI (nI (jcnt (fun p => vPre (ji M (s + 2) p)) c))) (M)) := by
  refine jBody (cc := cX5_publishedPrereleaseCount) (nL := 3) (rt := (some .int)) (ini := false) (by decide) rfl hst (Nat.le_of_ble_eq_true rfl) (by simp [Value.category]) (by intro h9; first | exact absurd h9 (by decide) | rfl) ?_
  show J l D dA RX5 cX5_publishedPrereleaseCount wsX5_publishedPrereleaseCount 3 false (some .int) [] (21) (360) (jF D dA (jn M) (jPo (oI (nI (jcnt (fun p => vPre (ji M (s + 2) p)) c))) (M)) 1) (jn M) (0) (0) (M) 0 [.ref (s), .float 0, .float 0] []
  obtain ⟨s1, s2, s3, s4, s5, s6, s7, s8, s9, s10⟩ := id hS
  have L4 : ∀ (fuel : Nat) (k : Nat) (hk : k ≤ c), c - k < fuel → J l D dA RX5 cX5_publishedPrereleaseCount wsX5_publishedPrereleaseCount 3 false (some .int) [] (21) (360) (jF D dA (jn M) (jPo (oI (nI (jcnt (fun p => vPre (ji M (s + 2) p)) c))) (M)) 1) (jn M) (0) (0) (M) 4 [.ref (s), .int (nI (jcnt (fun p => vPre (ji M (s + 2) p)) k)), .int (nI (k))] [] := by
    intro fuel
    induction fuel with
    | zero => intro k hk hm; exact absurd hm (Nat.not_lt_zero _)
    | succ fuel ih4 =>
      intro k hk hm4
      refine J_iload_n dX5_publishedPrereleaseCount_4 rfl rfl ?_
      refine J_aload_n (s) dX5_publishedPrereleaseCount_5 rfl rfl ?_
      refine J_geti (j := 2) dX5_publishedPrereleaseCount_6 (fun _ h => List.mem_cons_of_mem _ (List.mem_append_left _ (List.mem_append_right _ (h)))) cs9 (by decide) rfl (List.mem_of_getElem? (i := 1) rfl) rfl (show s < jn M from by omega) s2 ?_
      refine J_topi (y := nI (c)) (s9) ?_
      refine J_icmp_ge dX5_publishedPrereleaseCount_9 (tgt := 37) (by decide) (fun c9 => ?_) (fun c9 => ?_)
      · have c9 := jleT (a := c) (b := k) (by omega) (by omega) c9
        refine J_iload_n dX5_publishedPrereleaseCount_37 rfl rfl ?_
        exact J_iret (ty := .int) dX5_publishedPrereleaseCount_38 rfl (rfl) ⟨(by rw [show k = c from by omega]), (by rfl)⟩
      · have c9 := jleF (a := c) (b := k) (by omega) (by omega) c9
        refine J_iload_n dX5_publishedPrereleaseCount_12 rfl rfl ?_
        refine J_aload_n (s) dX5_publishedPrereleaseCount_13 rfl rfl ?_
        refine J_iload_n dX5_publishedPrereleaseCount_14 rfl rfl ?_
        refine J_calli0 (jrunV (As := [.int (nI (k))]) (ct_X5_publishedAt l D dA hst M s c hS (k) (by omega)) dX5_publishedPrereleaseCount_15 yY_X5_publishedAt gX5_publishedPrereleaseCount_X5_publishedAt rfl cs9 (show s < jn M from by omega) s2 rfl ⟨by omega, by omega⟩ ⟨Nat.zero_le _, Nat.zero_le _⟩ rfl (Nat.le_of_ble_eq_true rfl)) (congrArg (fun z => oI z) (if_pos (by omega))) (rfl) ?_
        refine J_calli0 (jrunSN (As := [.int (ji M (s + 2) k)]) (ct_X7_isPrerelease l D dA hst M ((ji M (s + 2) k))) dX5_publishedPrereleaseCount_18 yY_X7_isPrerelease gX5_publishedPrereleaseCount_X7_isPrerelease_n56 (List.mem_of_getElem? (i := 9) rfl) jnw_X5_publishedPrereleaseCount_56 (List.mem_of_getElem? (i := 8) rfl) rfl ⟨by omega, by omega⟩ ⟨Nat.zero_le _, Nat.zero_le _⟩ rfl (Nat.le_of_ble_eq_true rfl)) (rfl) (rfl) ?_
        refine J_if_eq dX5_publishedPrereleaseCount_21 (tgt := 28) (by decide) (fun c21 => ?_) (fun c21 => ?_)
        · have c21 := jb0T c21
          refine J_iconst (x := 0) dX5_publishedPrereleaseCount_28 (by decide) ?_
          refine J_iadd dX5_publishedPrereleaseCount_29 ?_
          refine J_topi (y := nI (jcnt (fun p => vPre (ji M (s + 2) p)) k + 0)) (nI_add (jcnt (fun p => vPre (ji M (s + 2) p)) k) (0)) ?_
          refine J_topi (y := nI (jcnt (fun p => vPre (ji M (s + 2) p)) (k + 1))) (by exact congrArg nI (by simp [jcnt, c21])) ?_
          refine J_istore_n (lv' := [.ref (s), .int (nI (jcnt (fun p => vPre (ji M (s + 2) p)) (k + 1))), .int (nI (k))]) dX5_publishedPrereleaseCount_30 rfl (by decide) rfl rfl ?_
          refine J_iinc (y := nI (k + 1)) (lv' := [.ref (s), .int (nI (jcnt (fun p => vPre (ji M (s + 2) p)) (k + 1))), .int (nI (k + 1))]) dX5_publishedPrereleaseCount_31 rfl (jinc (k)) (by decide) rfl rfl ?_
          refine J_goto (tgt := 4) dX5_publishedPrereleaseCount_34 (by decide) ?_
          exact ih4 (k + 1) (by omega) (by omega)
        · have c21 := jb0F c21
          refine J_iconst (x := 1) dX5_publishedPrereleaseCount_24 (by decide) ?_
          refine J_goto (tgt := 29) dX5_publishedPrereleaseCount_25 (by decide) ?_
          refine J_iadd dX5_publishedPrereleaseCount_29 ?_
          refine J_topi (y := nI (jcnt (fun p => vPre (ji M (s + 2) p)) k + 1)) (nI_add (jcnt (fun p => vPre (ji M (s + 2) p)) k) (1)) ?_
          refine J_topi (y := nI (jcnt (fun p => vPre (ji M (s + 2) p)) (k + 1))) (by exact congrArg nI (by simp [jcnt, c21])) ?_
          refine J_istore_n (lv' := [.ref (s), .int (nI (jcnt (fun p => vPre (ji M (s + 2) p)) (k + 1))), .int (nI (k))]) dX5_publishedPrereleaseCount_30 rfl (by decide) rfl rfl ?_
          refine J_iinc (y := nI (k + 1)) (lv' := [.ref (s), .int (nI (jcnt (fun p => vPre (ji M (s + 2) p)) (k + 1))), .int (nI (k + 1))]) dX5_publishedPrereleaseCount_31 rfl (jinc (k)) (by decide) rfl rfl ?_
          refine J_goto (tgt := 4) dX5_publishedPrereleaseCount_34 (by decide) ?_
          exact ih4 (k + 1) (by omega) (by omega)
  refine J_iconst (x := 0) dX5_publishedPrereleaseCount_0 (by decide) ?_
  refine J_istore_n (lv' := [.ref (s), .int (0), .float 0]) dX5_publishedPrereleaseCount_1 rfl (by decide) rfl rfl ?_
  refine J_iconst (x := 0) dX5_publishedPrereleaseCount_2 (by decide) ?_
  refine J_istore_n (lv' := [.ref (s), .int (0), .int (0)]) dX5_publishedPrereleaseCount_3 rfl (by decide) rfl rfl ?_
  exact L4 _ (0) (by omega) (Nat.lt_succ_self _)

theorem dX5_publishedInNoRangeCount_4 : decode cX5_publishedInNoRangeCount 4 = .ok (.iload_n 2, 1) := by decide +kernel
theorem dX5_publishedInNoRangeCount_5 : decode cX5_publishedInNoRangeCount 5 = .ok (.aload_n 0, 1) := by decide +kernel
theorem dX5_publishedInNoRangeCount_6 : decode cX5_publishedInNoRangeCount 6 = .ok (.getfield 21, 3) := by decide +kernel
theorem dX5_publishedInNoRangeCount_9 : decode cX5_publishedInNoRangeCount 9 = .ok (.if_icmp .ge 29, 3) := by decide +kernel
theorem dX5_publishedInNoRangeCount_38 : decode cX5_publishedInNoRangeCount 38 = .ok (.iload_n 1, 1) := by decide +kernel
theorem dX5_publishedInNoRangeCount_39 : decode cX5_publishedInNoRangeCount 39 = .ok (.ireturn, 1) := by decide +kernel
theorem dX5_publishedInNoRangeCount_12 : decode cX5_publishedInNoRangeCount 12 = .ok (.iload_n 1, 1) := by decide +kernel
theorem dX5_publishedInNoRangeCount_13 : decode cX5_publishedInNoRangeCount 13 = .ok (.aload_n 0, 1) := by decide +kernel
theorem dX5_publishedInNoRangeCount_14 : decode cX5_publishedInNoRangeCount 14 = .ok (.aload_n 0, 1) := by decide +kernel
theorem dX5_publishedInNoRangeCount_15 : decode cX5_publishedInNoRangeCount 15 = .ok (.iload_n 2, 1) := by decide +kernel
theorem dX5_publishedInNoRangeCount_16 : decode cX5_publishedInNoRangeCount 16 = .ok (.invokevirtual 45, 3) := by decide +kernel
set_option maxRecDepth 20000 in
theorem ggX5_publishedInNoRangeCount_X5_publishedAt : GoodIn wsX5_publishedInNoRangeCount wsX5_publishedAt := goodIn_ca (goodIn_r _ [6, 1, 7, 31, 32, 33] (by decide +kernel) (by decide +kernel)) (goodIn_sub (fun _ h => List.mem_cons_of_mem _ (List.mem_append_right _ h)) (by decide +kernel))
set_option maxRecDepth 20000 in
theorem gX5_publishedInNoRangeCount_X5_publishedAt : GoodIn wsX5_publishedInNoRangeCount (wsV RX5 45 RX5 yX5_publishedAt wsX5_publishedAt) := goodIn_app (goodIn_of _ (by decide +kernel)) ggX5_publishedInNoRangeCount_X5_publishedAt
theorem dX5_publishedInNoRangeCount_19 : decode cX5_publishedInNoRangeCount 19 = .ok (.invokevirtual 60, 3) := by decide +kernel
set_option maxRecDepth 20000 in
theorem ggX5_publishedInNoRangeCount_X5_isInSomeRange : GoodIn wsX5_publishedInNoRangeCount wsX5_isInSomeRange := goodIn_ca (goodIn_r _ [11, 12, 13, 14, 15, 16, 17, 18, 19, 20, 21, 22, 23, 24, 25, 26, 27, 28, 29, 30, 31, 32, 33, 34] (by decide +kernel) (by decide +kernel)) (goodIn_sub (fun _ h => List.mem_cons_of_mem _ (List.mem_append_right _ h)) (by decide +kernel))
set_option maxRecDepth 20000 in
theorem gX5_publishedInNoRangeCount_X5_isInSomeRange : GoodIn wsX5_publishedInNoRangeCount (wsV RX5 60 RX5 yX5_isInSomeRange wsX5_isInSomeRange) := goodIn_app (goodIn_of _ (by decide +kernel)) ggX5_publishedInNoRangeCount_X5_isInSomeRange
theorem yY_X5_isInSomeRange : jY yX5_isInSomeRange wsX5_isInSomeRange cX5_isInSomeRange 6 (some .boolean) 1 := ⟨⟨_, rfl⟩, by decide +kernel, by decide +kernel, by decide +kernel⟩
theorem dX5_publishedInNoRangeCount_22 : decode cX5_publishedInNoRangeCount 22 = .ok (.ifCond .eq 7, 3) := by decide +kernel
theorem dX5_publishedInNoRangeCount_29 : decode cX5_publishedInNoRangeCount 29 = .ok (.iconst 1, 1) := by decide +kernel
theorem dX5_publishedInNoRangeCount_30 : decode cX5_publishedInNoRangeCount 30 = .ok (.iadd, 1) := by decide +kernel
theorem dX5_publishedInNoRangeCount_31 : decode cX5_publishedInNoRangeCount 31 = .ok (.istore_n 1, 1) := by decide +kernel
theorem dX5_publishedInNoRangeCount_32 : decode cX5_publishedInNoRangeCount 32 = .ok (.iinc 2 1, 3) := by decide +kernel
theorem dX5_publishedInNoRangeCount_35 : decode cX5_publishedInNoRangeCount 35 = .ok (.goto (-31), 3) := by decide +kernel
theorem dX5_publishedInNoRangeCount_25 : decode cX5_publishedInNoRangeCount 25 = .ok (.iconst 0, 1) := by decide +kernel
theorem dX5_publishedInNoRangeCount_26 : decode cX5_publishedInNoRangeCount 26 = .ok (.goto 4, 3) := by decide +kernel
theorem dX5_publishedInNoRangeCount_0 : decode cX5_publishedInNoRangeCount 0 = .ok (.iconst 0, 1) := by decide +kernel
theorem dX5_publishedInNoRangeCount_1 : decode cX5_publishedInNoRangeCount 1 = .ok (.istore_n 1, 1) := by decide +kernel
theorem dX5_publishedInNoRangeCount_2 : decode cX5_publishedInNoRangeCount 2 = .ok (.iconst 0, 1) := by decide +kernel
theorem dX5_publishedInNoRangeCount_3 : decode cX5_publishedInNoRangeCount 3 = .ok (.istore_n 2, 1) := by decide +kernel
set_option maxHeartbeats 2000000 in
set_option maxRecDepth 20000 in
theorem ct_X5_publishedInNoRangeCount (l : Launch) (D : va_G) (dA : Nat → ClassId) (hst : l.stackTraces = false) (M : jM) (s c : Nat) (hS : jStt M s c) (hSl : jSlots M s) : jCT l D dA yX5_publishedInNoRangeCount wsX5_publishedInNoRangeCount (24) (540) (0) (0) 1 [.ref (s)] M (jPo (oI (nI (jcnt (fun p => !inSome M s (ji M (s + 2) p)) c))) (M)) := by
  refine jBody (cc := cX5_publishedInNoRangeCount) (nL := 3) (rt := (some .int)) (ini := false) (by decide) rfl hst (Nat.le_of_ble_eq_true rfl) (by simp [Value.category]) (by intro h9; first | exact absurd h9 (by decide) | rfl) ?_
  show J l D dA RX5 cX5_publishedInNoRangeCount wsX5_publishedInNoRangeCount 3 false (some .int) [] (24) (540) (jF D dA (jn M) (jPo (oI (nI (jcnt (fun p => !inSome M s (ji M (s + 2) p)) c))) (M)) 1) (jn M) (0) (0) (M) 0 [.ref (s), .float 0, .float 0] []
  obtain ⟨s1, s2, s3, s4, s5, s6, s7, s8, s9, s10⟩ := id hS
  have L4 : ∀ (fuel : Nat) (k : Nat) (hk : k ≤ c), c - k < fuel → J l D dA RX5 cX5_publishedInNoRangeCount wsX5_publishedInNoRangeCount 3 false (some .int) [] (24) (540) (jF D dA (jn M) (jPo (oI (nI (jcnt (fun p => !inSome M s (ji M (s + 2) p)) c))) (M)) 1) (jn M) (0) (0) (M) 4 [.ref (s), .int (nI (jcnt (fun p => !inSome M s (ji M (s + 2) p)) k)), .int (nI (k))] [] := by
    intro fuel
    induction fuel with
    | zero => intro k hk hm; exact absurd hm (Nat.not_lt_zero _)
    | succ fuel ih4 =>
      intro k hk hm4
      refine J_iload_n dX5_publishedInNoRangeCount_4 rfl rfl ?_
      refine J_aload_n (s) dX5_publishedInNoRangeCount_5 rfl rfl ?_
      refine J_geti (j := 2) dX5_publishedInNoRangeCount_6 (fun _ h => List.mem_cons_of_mem _ (List.mem_append_left _ (List.mem_append_left _ (List.mem_append_right _ (h))))) cs9 (by decide) rfl (List.mem_of_getElem? (i := 1) rfl) rfl (show s < jn M from by omega) s2 ?_
      refine J_topi (y := nI (c)) (s9) ?_
      refine J_icmp_ge dX5_publishedInNoRangeCount_9 (tgt := 38) (by decide) (fun c9 => ?_) (fun c9 => ?_)
      · have c9 := jleT (a := c) (b := k) (by omega) (by omega) c9
        refine J_iload_n dX5_publishedInNoRangeCount_38 rfl rfl ?_
        exact J_iret (ty := .int) dX5_publishedInNoRangeCount_39 rfl (rfl) ⟨(by rw [show k = c from by omega]), (by rfl)⟩
      · have c9 := jleF (a := c) (b := k) (by omega) (by omega) c9
        refine J_iload_n dX5_publishedInNoRangeCount_12 rfl rfl ?_
        refine J_aload_n (s) dX5_publishedInNoRangeCount_13 rfl rfl ?_
        refine J_aload_n (s) dX5_publishedInNoRangeCount_14 rfl rfl ?_
        refine J_iload_n dX5_publishedInNoRangeCount_15 rfl rfl ?_
        refine J_calli0 (jrunV (As := [.int (nI (k))]) (ct_X5_publishedAt l D dA hst M s c hS (k) (by omega)) dX5_publishedInNoRangeCount_16 yY_X5_publishedAt gX5_publishedInNoRangeCount_X5_publishedAt rfl cs9 (show s < jn M from by omega) s2 rfl ⟨by omega, by omega⟩ ⟨Nat.zero_le _, Nat.zero_le _⟩ rfl (Nat.le_of_ble_eq_true rfl)) (congrArg (fun z => oI z) (if_pos (by omega))) (rfl) ?_
        refine J_calli0 (jrunV (As := [.int (ji M (s + 2) k)]) (ct_X5_isInSomeRange l D dA hst M s c hS hSl ((ji M (s + 2) k))) dX5_publishedInNoRangeCount_19 yY_X5_isInSomeRange gX5_publishedInNoRangeCount_X5_isInSomeRange rfl cs9 (show s < jn M from by omega) s2 rfl ⟨by omega, by omega⟩ ⟨Nat.zero_le _, Nat.zero_le _⟩ rfl (Nat.le_of_ble_eq_true rfl)) (rfl) (rfl) ?_
        refine J_if_eq dX5_publishedInNoRangeCount_22 (tgt := 29) (by decide) (fun c22 => ?_) (fun c22 => ?_)
        · have c22 := jb0T c22
          refine J_iconst (x := 1) dX5_publishedInNoRangeCount_29 (by decide) ?_
          refine J_iadd dX5_publishedInNoRangeCount_30 ?_
          refine J_topi (y := nI (jcnt (fun p => !inSome M s (ji M (s + 2) p)) k + 1)) (nI_add (jcnt (fun p => !inSome M s (ji M (s + 2) p)) k) (1)) ?_
          refine J_topi (y := nI (jcnt (fun p => !inSome M s (ji M (s + 2) p)) (k + 1))) (by exact congrArg nI (by simp [jcnt, c22])) ?_
          refine J_istore_n (lv' := [.ref (s), .int (nI (jcnt (fun p => !inSome M s (ji M (s + 2) p)) (k + 1))), .int (nI (k))]) dX5_publishedInNoRangeCount_31 rfl (by decide) rfl rfl ?_
          refine J_iinc (y := nI (k + 1)) (lv' := [.ref (s), .int (nI (jcnt (fun p => !inSome M s (ji M (s + 2) p)) (k + 1))), .int (nI (k + 1))]) dX5_publishedInNoRangeCount_32 rfl (jinc (k)) (by decide) rfl rfl ?_
          refine J_goto (tgt := 4) dX5_publishedInNoRangeCount_35 (by decide) ?_
          exact ih4 (k + 1) (by omega) (by omega)
        · have c22 := jb0F c22
          refine J_iconst (x := 0) dX5_publishedInNoRangeCount_25 (by decide) ?_
          refine J_goto (tgt := 30) dX5_publishedInNoRangeCount_26 (by decide) ?_
          refine J_iadd dX5_publishedInNoRangeCount_30 ?_
          refine J_topi (y := nI (jcnt (fun p => !inSome M s (ji M (s + 2) p)) k + 0)) (nI_add (jcnt (fun p => !inSome M s (ji M (s + 2) p)) k) (0)) ?_
          refine J_topi (y := nI (jcnt (fun p => !inSome M s (ji M (s + 2) p)) (k + 1))) (by exact congrArg nI (by simp [jcnt, c22])) ?_
          refine J_istore_n (lv' := [.ref (s), .int (nI (jcnt (fun p => !inSome M s (ji M (s + 2) p)) (k + 1))), .int (nI (k))]) dX5_publishedInNoRangeCount_31 rfl (by decide) rfl rfl ?_
          refine J_iinc (y := nI (k + 1)) (lv' := [.ref (s), .int (nI (jcnt (fun p => !inSome M s (ji M (s + 2) p)) (k + 1))), .int (nI (k + 1))]) dX5_publishedInNoRangeCount_32 rfl (jinc (k)) (by decide) rfl rfl ?_
          refine J_goto (tgt := 4) dX5_publishedInNoRangeCount_35 (by decide) ?_
          exact ih4 (k + 1) (by omega) (by omega)
  refine J_iconst (x := 0) dX5_publishedInNoRangeCount_0 (by decide) ?_
  refine J_istore_n (lv' := [.ref (s), .int (0), .float 0]) dX5_publishedInNoRangeCount_1 rfl (by decide) rfl rfl ?_
  refine J_iconst (x := 0) dX5_publishedInNoRangeCount_2 (by decide) ?_
  refine J_istore_n (lv' := [.ref (s), .int (0), .int (0)]) dX5_publishedInNoRangeCount_3 rfl (by decide) rfl rfl ?_
  exact L4 _ (0) (by omega) (Nat.lt_succ_self _)

theorem dX5_countPublishedIn_5 : decode cX5_countPublishedIn 5 = .ok (.iload 4, 2) := by decide +kernel
theorem dX5_countPublishedIn_7 : decode cX5_countPublishedIn 7 = .ok (.aload_n 0, 1) := by decide +kernel
theorem dX5_countPublishedIn_8 : decode cX5_countPublishedIn 8 = .ok (.getfield 21, 3) := by decide +kernel
theorem dX5_countPublishedIn_11 : decode cX5_countPublishedIn 11 = .ok (.if_icmp .ge 31, 3) := by decide +kernel
theorem dX5_countPublishedIn_42 : decode cX5_countPublishedIn 42 = .ok (.iload_n 3, 1) := by decide +kernel
theorem dX5_countPublishedIn_43 : decode cX5_countPublishedIn 43 = .ok (.ireturn, 1) := by decide +kernel
theorem dX5_countPublishedIn_14 : decode cX5_countPublishedIn 14 = .ok (.iload_n 3, 1) := by decide +kernel
theorem dX5_countPublishedIn_15 : decode cX5_countPublishedIn 15 = .ok (.aload_n 1, 1) := by decide +kernel
theorem dX5_countPublishedIn_16 : decode cX5_countPublishedIn 16 = .ok (.iload_n 2, 1) := by decide +kernel
theorem dX5_countPublishedIn_17 : decode cX5_countPublishedIn 17 = .ok (.aload_n 0, 1) := by decide +kernel
theorem dX5_countPublishedIn_18 : decode cX5_countPublishedIn 18 = .ok (.iload 4, 2) := by decide +kernel
theorem dX5_countPublishedIn_20 : decode cX5_countPublishedIn 20 = .ok (.invokevirtual 45, 3) := by decide +kernel
set_option maxRecDepth 20000 in
theorem ggX5_countPublishedIn_X5_publishedAt : GoodIn wsX5_countPublishedIn wsX5_publishedAt := goodIn_ca (goodIn_r _ [6, 1, 7, 40, 41, 42] (by decide +kernel) (by decide +kernel)) (goodIn_sub (fun _ h => List.mem_cons_of_mem _ (List.mem_append_right _ h)) (by decide +kernel))
set_option maxRecDepth 20000 in
theorem gX5_countPublishedIn_X5_publishedAt : GoodIn wsX5_countPublishedIn (wsV RX5 45 RX5 yX5_publishedAt wsX5_publishedAt) := goodIn_app (goodIn_of _ (by decide +kernel)) ggX5_countPublishedIn_X5_publishedAt
theorem dX5_countPublishedIn_23 : decode cX5_countPublishedIn 23 = .ok (.invokevirtual 52, 3) := by decide +kernel
set_option maxRecDepth 20000 in
theorem ggX5_countPublishedIn_X3_holdsFor : GoodIn wsX5_countPublishedIn wsX3_holdsFor := goodIn_ca (goodIn_r _ [12, 13, 14, 15, 11, 16, 17, 18, 19, 20, 21, 22, 23, 24, 25, 26, 27, 28, 29, 30, 31, 32, 33, 34, 35, 36, 37, 38, 39, 43] (by decide +kernel) (by decide +kernel)) (goodIn_sub (fun _ h => List.mem_cons_of_mem _ (List.mem_append_right _ h)) (by decide +kernel))
set_option maxRecDepth 20000 in
theorem gX5_countPublishedIn_X3_holdsFor : GoodIn wsX5_countPublishedIn (wsV RX5 52 RX3 yX3_holdsFor wsX3_holdsFor) := goodIn_app (goodIn_of _ (by decide +kernel)) ggX5_countPublishedIn_X3_holdsFor
theorem yY_X3_holdsFor : jY yX3_holdsFor wsX3_holdsFor cX3_holdsFor 4 (some .boolean) 2 := ⟨⟨_, rfl⟩, by decide +kernel, by decide +kernel, by decide +kernel⟩
theorem dX5_countPublishedIn_26 : decode cX5_countPublishedIn 26 = .ok (.ifCond .eq 7, 3) := by decide +kernel
theorem dX5_countPublishedIn_33 : decode cX5_countPublishedIn 33 = .ok (.iconst 0, 1) := by decide +kernel
theorem dX5_countPublishedIn_34 : decode cX5_countPublishedIn 34 = .ok (.iadd, 1) := by decide +kernel
theorem dX5_countPublishedIn_35 : decode cX5_countPublishedIn 35 = .ok (.istore_n 3, 1) := by decide +kernel
theorem dX5_countPublishedIn_36 : decode cX5_countPublishedIn 36 = .ok (.iinc 4 1, 3) := by decide +kernel
theorem dX5_countPublishedIn_39 : decode cX5_countPublishedIn 39 = .ok (.goto (-34), 3) := by decide +kernel
theorem dX5_countPublishedIn_29 : decode cX5_countPublishedIn 29 = .ok (.iconst 1, 1) := by decide +kernel
theorem dX5_countPublishedIn_30 : decode cX5_countPublishedIn 30 = .ok (.goto 4, 3) := by decide +kernel
theorem dX5_countPublishedIn_0 : decode cX5_countPublishedIn 0 = .ok (.iconst 0, 1) := by decide +kernel
theorem dX5_countPublishedIn_1 : decode cX5_countPublishedIn 1 = .ok (.istore_n 3, 1) := by decide +kernel
theorem dX5_countPublishedIn_2 : decode cX5_countPublishedIn 2 = .ok (.iconst 0, 1) := by decide +kernel
theorem dX5_countPublishedIn_3 : decode cX5_countPublishedIn 3 = .ok (.istore 4, 2) := by decide +kernel
set_option maxHeartbeats 2000000 in
set_option maxRecDepth 20000 in
theorem ct_X5_countPublishedIn (l : Launch) (D : va_G) (dA : Nat → ClassId) (hst : l.stackTraces = false) (M : jM) (s c : Nat) (hS : jStt M s c) (t n : Nat) (hR : jRg M t n) (b9 : Bool) : jCT l D dA yX5_countPublishedIn wsX5_countPublishedIn (24) (540) (0) (0) 1 [.ref (s), .ref (t), .int (jb (b9))] M (jPo (oI (nI (jcnt (fun p => rHoldsFor (ji M (t + 1)) n b9 (ji M (s + 2) p)) c))) (M)) := by
  refine jBody (cc := cX5_countPublishedIn) (nL := 5) (rt := (some .int)) (ini := false) (by decide) rfl hst (Nat.le_of_ble_eq_true rfl) (by simp [Value.category]) (by intro h9; first | exact absurd h9 (by decide) | rfl) ?_
  show J l D dA RX5 cX5_countPublishedIn wsX5_countPublishedIn 5 false (some .int) [] (24) (540) (jF D dA (jn M) (jPo (oI (nI (jcnt (fun p => rHoldsFor (ji M (t + 1)) n b9 (ji M (s + 2) p)) c))) (M)) 1) (jn M) (0) (0) (M) 0 [.ref (s), .ref (t), .int (jb (b9)), .float 0, .float 0] []
  obtain ⟨s1, s2, s3, s4, s5, s6, s7, s8, s9, s10⟩ := id hS
  obtain ⟨h1, h2, h3, h4, h5, h6⟩ := id hR
  have L5 : ∀ (fuel : Nat) (k : Nat) (hk : k ≤ c), c - k < fuel → J l D dA RX5 cX5_countPublishedIn wsX5_countPublishedIn 5 false (some .int) [] (24) (540) (jF D dA (jn M) (jPo (oI (nI (jcnt (fun p => rHoldsFor (ji M (t + 1)) n b9 (ji M (s + 2) p)) c))) (M)) 1) (jn M) (0) (0) (M) 5 [.ref (s), .ref (t), .int (jb (b9)), .int (nI (jcnt (fun p => rHoldsFor (ji M (t + 1)) n b9 (ji M (s + 2) p)) k)), .int (nI (k))] [] := by
    intro fuel
    induction fuel with
    | zero => intro k hk hm; exact absurd hm (Nat.not_lt_zero _)
    | succ fuel ih5 =>
      intro k hk hm5
      refine J_iload dX5_countPublishedIn_5 rfl ?_
      refine J_aload_n (s) dX5_countPublishedIn_7 rfl rfl ?_
      refine J_geti (j := 2) dX5_countPublishedIn_8 (fun _ h => List.mem_cons_of_mem _ (List.mem_append_left _ (List.mem_append_left _ (List.mem_append_right _ (h))))) cs9 (by decide) rfl (List.mem_of_getElem? (i := 1) rfl) rfl (show s < jn M from by omega) s2 ?_
      refine J_topi (y := nI (c)) (s9) ?_
      refine J_icmp_ge dX5_countPublishedIn_11 (tgt := 42) (by decide) (fun c11 => ?_) (fun c11 => ?_)
      · have c11 := jleT (a := c) (b := k) (by omega) (by omega) c11
        refine J_iload_n dX5_countPublishedIn_42 rfl rfl ?_
        exact J_iret (ty := .int) dX5_countPublishedIn_43 rfl (rfl) ⟨(by rw [show k = c from by omega]), (by rfl)⟩
      · have c11 := jleF (a := c) (b := k) (by omega) (by omega) c11
        refine J_iload_n dX5_countPublishedIn_14 rfl rfl ?_
        refine J_aload_n (t) dX5_countPublishedIn_15 rfl rfl ?_
        refine J_iload_n dX5_countPublishedIn_16 rfl rfl ?_
        refine J_aload_n (s) dX5_countPublishedIn_17 rfl rfl ?_
        refine J_iload dX5_countPublishedIn_18 rfl ?_
        refine J_calli0 (jrunV (As := [.int (nI (k))]) (ct_X5_publishedAt l D dA hst M s c hS (k) (by omega)) dX5_countPublishedIn_20 yY_X5_publishedAt gX5_countPublishedIn_X5_publishedAt rfl cs9 (show s < jn M from by omega) s2 rfl ⟨by omega, by omega⟩ ⟨Nat.zero_le _, Nat.zero_le _⟩ rfl (Nat.le_of_ble_eq_true rfl)) (congrArg (fun z => oI z) (if_pos (by omega))) (rfl) ?_
        refine J_calli0 (jrunV (As := [.int (jb (b9)), .int (ji M (s + 2) k)]) (ct_X3_holdsFor l D dA hst M t n hR (b9) ((ji M (s + 2) k))) dX5_countPublishedIn_23 yY_X3_holdsFor gX5_countPublishedIn_X3_holdsFor rfl cs7 (Nat.lt_of_succ_lt h1) h2 rfl ⟨by omega, by omega⟩ ⟨Nat.zero_le _, Nat.zero_le _⟩ rfl (Nat.le_of_ble_eq_true rfl)) (rfl) (rfl) ?_
        refine J_if_eq dX5_countPublishedIn_26 (tgt := 33) (by decide) (fun c26 => ?_) (fun c26 => ?_)
        · have c26 := jb0T c26
          refine J_iconst (x := 0) dX5_countPublishedIn_33 (by decide) ?_
          refine J_iadd dX5_countPublishedIn_34 ?_
          refine J_topi (y := nI (jcnt (fun p => rHoldsFor (ji M (t + 1)) n b9 (ji M (s + 2) p)) k + 0)) (nI_add (jcnt (fun p => rHoldsFor (ji M (t + 1)) n b9 (ji M (s + 2) p)) k) (0)) ?_
          refine J_topi (y := nI (jcnt (fun p => rHoldsFor (ji M (t + 1)) n b9 (ji M (s + 2) p)) (k + 1))) (by exact congrArg nI (by simp [jcnt, c26])) ?_
          refine J_istore_n (lv' := [.ref (s), .ref (t), .int (jb (b9)), .int (nI (jcnt (fun p => rHoldsFor (ji M (t + 1)) n b9 (ji M (s + 2) p)) (k + 1))), .int (nI (k))]) dX5_countPublishedIn_35 rfl (by decide) rfl rfl ?_
          refine J_iinc (y := nI (k + 1)) (lv' := [.ref (s), .ref (t), .int (jb (b9)), .int (nI (jcnt (fun p => rHoldsFor (ji M (t + 1)) n b9 (ji M (s + 2) p)) (k + 1))), .int (nI (k + 1))]) dX5_countPublishedIn_36 rfl (jinc (k)) (by decide) rfl rfl ?_
          refine J_goto (tgt := 5) dX5_countPublishedIn_39 (by decide) ?_
          exact ih5 (k + 1) (by omega) (by omega)
        · have c26 := jb0F c26
          refine J_iconst (x := 1) dX5_countPublishedIn_29 (by decide) ?_
          refine J_goto (tgt := 34) dX5_countPublishedIn_30 (by decide) ?_
          refine J_iadd dX5_countPublishedIn_34 ?_
          refine J_topi (y := nI (jcnt (fun p => rHoldsFor (ji M (t + 1)) n b9 (ji M (s + 2) p)) k + 1)) (nI_add (jcnt (fun p => rHoldsFor (ji M (t + 1)) n b9 (ji M (s + 2) p)) k) (1)) ?_
          refine J_topi (y := nI (jcnt (fun p => rHoldsFor (ji M (t + 1)) n b9 (ji M (s + 2) p)) (k + 1))) (by exact congrArg nI (by simp [jcnt, c26])) ?_
          refine J_istore_n (lv' := [.ref (s), .ref (t), .int (jb (b9)), .int (nI (jcnt (fun p => rHoldsFor (ji M (t + 1)) n b9 (ji M (s + 2) p)) (k + 1))), .int (nI (k))]) dX5_countPublishedIn_35 rfl (by decide) rfl rfl ?_
          refine J_iinc (y := nI (k + 1)) (lv' := [.ref (s), .ref (t), .int (jb (b9)), .int (nI (jcnt (fun p => rHoldsFor (ji M (t + 1)) n b9 (ji M (s + 2) p)) (k + 1))), .int (nI (k + 1))]) dX5_countPublishedIn_36 rfl (jinc (k)) (by decide) rfl rfl ?_
          refine J_goto (tgt := 5) dX5_countPublishedIn_39 (by decide) ?_
          exact ih5 (k + 1) (by omega) (by omega)
  refine J_iconst (x := 0) dX5_countPublishedIn_0 (by decide) ?_
  refine J_istore_n (lv' := [.ref (s), .ref (t), .int (jb (b9)), .int (0), .float 0]) dX5_countPublishedIn_1 rfl (by decide) rfl rfl ?_
  refine J_iconst (x := 0) dX5_countPublishedIn_2 (by decide) ?_
  refine J_istore (lv' := [.ref (s), .ref (t), .int (jb (b9)), .int (0), .int (0)]) dX5_countPublishedIn_3 (by decide) rfl rfl ?_
  exact L5 _ (0) (by omega) (Nat.lt_succ_self _)

theorem dX5_greatestPublishedIn_7 : decode cX5_greatestPublishedIn 7 = .ok (.iload_n 3, 1) := by decide +kernel
theorem dX5_greatestPublishedIn_8 : decode cX5_greatestPublishedIn 8 = .ok (.ifCond .lt 28, 3) := by decide +kernel
theorem dX5_greatestPublishedIn_36 : decode cX5_greatestPublishedIn 36 = .ok (.iconst (-1), 1) := by decide +kernel
theorem dX5_greatestPublishedIn_37 : decode cX5_greatestPublishedIn 37 = .ok (.ireturn, 1) := by decide +kernel
theorem dX5_greatestPublishedIn_11 : decode cX5_greatestPublishedIn 11 = .ok (.aload_n 1, 1) := by decide +kernel
theorem dX5_greatestPublishedIn_12 : decode cX5_greatestPublishedIn 12 = .ok (.iload_n 2, 1) := by decide +kernel
theorem dX5_greatestPublishedIn_13 : decode cX5_greatestPublishedIn 13 = .ok (.aload_n 0, 1) := by decide +kernel
theorem dX5_greatestPublishedIn_14 : decode cX5_greatestPublishedIn 14 = .ok (.iload_n 3, 1) := by decide +kernel
theorem dX5_greatestPublishedIn_15 : decode cX5_greatestPublishedIn 15 = .ok (.invokevirtual 45, 3) := by decide +kernel
set_option maxRecDepth 20000 in
theorem ggX5_greatestPublishedIn_X5_publishedAt : GoodIn wsX5_greatestPublishedIn wsX5_publishedAt := goodIn_ca (goodIn_r _ [6, 1, 7, 40, 41, 42] (by decide +kernel) (by decide +kernel)) (goodIn_sub (fun _ h => List.mem_cons_of_mem _ (List.mem_append_right _ h)) (by decide +kernel))
set_option maxRecDepth 20000 in
theorem gX5_greatestPublishedIn_X5_publishedAt : GoodIn wsX5_greatestPublishedIn (wsV RX5 45 RX5 yX5_publishedAt wsX5_publishedAt) := goodIn_app (goodIn_of _ (by decide +kernel)) ggX5_greatestPublishedIn_X5_publishedAt
theorem dX5_greatestPublishedIn_18 : decode cX5_greatestPublishedIn 18 = .ok (.invokevirtual 52, 3) := by decide +kernel
set_option maxRecDepth 20000 in
theorem ggX5_greatestPublishedIn_X3_holdsFor : GoodIn wsX5_greatestPublishedIn wsX3_holdsFor := goodIn_ca (goodIn_r _ [12, 13, 14, 15, 11, 16, 17, 18, 19, 20, 21, 22, 23, 24, 25, 26, 27, 28, 29, 30, 31, 32, 33, 34, 35, 36, 37, 38, 39, 43] (by decide +kernel) (by decide +kernel)) (goodIn_sub (fun _ h => List.mem_cons_of_mem _ (List.mem_append_right _ h)) (by decide +kernel))
set_option maxRecDepth 20000 in
theorem gX5_greatestPublishedIn_X3_holdsFor : GoodIn wsX5_greatestPublishedIn (wsV RX5 52 RX3 yX3_holdsFor wsX3_holdsFor) := goodIn_app (goodIn_of _ (by decide +kernel)) ggX5_greatestPublishedIn_X3_holdsFor
theorem dX5_greatestPublishedIn_21 : decode cX5_greatestPublishedIn 21 = .ok (.ifCond .eq 9, 3) := by decide +kernel
theorem dX5_greatestPublishedIn_30 : decode cX5_greatestPublishedIn 30 = .ok (.iinc 3 (-1), 3) := by decide +kernel
theorem dX5_greatestPublishedIn_33 : decode cX5_greatestPublishedIn 33 = .ok (.goto (-26), 3) := by decide +kernel
theorem dX5_greatestPublishedIn_24 : decode cX5_greatestPublishedIn 24 = .ok (.aload_n 0, 1) := by decide +kernel
theorem dX5_greatestPublishedIn_25 : decode cX5_greatestPublishedIn 25 = .ok (.iload_n 3, 1) := by decide +kernel
theorem dX5_greatestPublishedIn_26 : decode cX5_greatestPublishedIn 26 = .ok (.invokevirtual 45, 3) := by decide +kernel
theorem dX5_greatestPublishedIn_29 : decode cX5_greatestPublishedIn 29 = .ok (.ireturn, 1) := by decide +kernel
theorem dX5_greatestPublishedIn_0 : decode cX5_greatestPublishedIn 0 = .ok (.aload_n 0, 1) := by decide +kernel
theorem dX5_greatestPublishedIn_1 : decode cX5_greatestPublishedIn 1 = .ok (.getfield 21, 3) := by decide +kernel
theorem dX5_greatestPublishedIn_4 : decode cX5_greatestPublishedIn 4 = .ok (.iconst 1, 1) := by decide +kernel
theorem dX5_greatestPublishedIn_5 : decode cX5_greatestPublishedIn 5 = .ok (.isub, 1) := by decide +kernel
theorem dX5_greatestPublishedIn_6 : decode cX5_greatestPublishedIn 6 = .ok (.istore_n 3, 1) := by decide +kernel
set_option maxHeartbeats 2000000 in
set_option maxRecDepth 20000 in
theorem ct_X5_greatestPublishedIn (l : Launch) (D : va_G) (dA : Nat → ClassId) (hst : l.stackTraces = false) (M : jM) (s c : Nat) (hS : jStt M s c) (t n : Nat) (hR : jRg M t n) (b9 : Bool) : jCT l D dA yX5_greatestPublishedIn wsX5_greatestPublishedIn (24) (540) (0) (0) 1 [.ref (s), .ref (t), .int (jb (b9))] M (jPo (oI (jgrt (fun p => rHoldsFor (ji M (t + 1)) n b9 (ji M (s + 2) p)) (ji M (s + 2)) c)) (M)) := by
  refine jBody (cc := cX5_greatestPublishedIn) (nL := 4) (rt := (some .int)) (ini := false) (by decide) rfl hst (Nat.le_of_ble_eq_true rfl) (by simp [Value.category]) (by intro h9; first | exact absurd h9 (by decide) | rfl) ?_
  show J l D dA RX5 cX5_greatestPublishedIn wsX5_greatestPublishedIn 4 false (some .int) [] (24) (540) (jF D dA (jn M) (jPo (oI (jgrt (fun p => rHoldsFor (ji M (t + 1)) n b9 (ji M (s + 2) p)) (ji M (s + 2)) c)) (M)) 1) (jn M) (0) (0) (M) 0 [.ref (s), .ref (t), .int (jb (b9)), .float 0] []
  obtain ⟨s1, s2, s3, s4, s5, s6, s7, s8, s9, s10⟩ := id hS
  obtain ⟨h1, h2, h3, h4, h5, h6⟩ := id hR
  have L7 : ∀ (fuel : Nat) (k : Nat) (hk : k ≤ c) (hI : jgrt (fun p => rHoldsFor (ji M (t + 1)) n b9 (ji M (s + 2) p)) (ji M (s + 2)) k = jgrt (fun p => rHoldsFor (ji M (t + 1)) n b9 (ji M (s + 2) p)) (ji M (s + 2)) c), k < fuel → J l D dA RX5 cX5_greatestPublishedIn wsX5_greatestPublishedIn 4 false (some .int) [] (24) (540) (jF D dA (jn M) (jPo (oI (jgrt (fun p => rHoldsFor (ji M (t + 1)) n b9 (ji M (s + 2) p)) (ji M (s + 2)) c)) (M)) 1) (jn M) (0) (0) (M) 7 [.ref (s), .ref (t), .int (jb (b9)), .int (nI k - 1)] [] := by
    intro fuel
    induction fuel with
    | zero => intro k hk hI hm; exact absurd hm (Nat.not_lt_zero _)
    | succ fuel ih7 =>
      intro k hk hI hm7
      rcases Nat.eq_zero_or_pos k with rfl | hk0
      · refine J_conv (M' := M) (lv' := [.ref (s), .ref (t), .int (jb (b9)), .int (-1)]) (st' := []) rfl rfl rfl ?_
        refine J_iload_n dX5_greatestPublishedIn_7 rfl rfl ?_
        refine J_if_lt dX5_greatestPublishedIn_8 (tgt := 36) (by decide) (fun c8 => ?_) (fun c8 => ?_)
        · refine J_iconst (x := (-1)) dX5_greatestPublishedIn_36 (by decide) ?_
          exact J_iret (ty := .int) dX5_greatestPublishedIn_37 rfl (rfl) ⟨(by first | (exfalso; omega) | (rw [← hI]; rfl)), (by rfl)⟩
        · exact absurd c8 (by decide)
      · refine J_conv (M' := M) (lv' := [.ref (s), .ref (t), .int (jb (b9)), .int (nI (k - 1))]) (st' := []) rfl (by rw [show nI k - 1 = nI (k - 1) from pk_sub (a := k) (b := 1) hk0]) rfl ?_
        refine J_iload_n dX5_greatestPublishedIn_7 rfl rfl ?_
        refine J_if_lt dX5_greatestPublishedIn_8 (tgt := 36) (by decide) (fun c8 => ?_) (fun c8 => ?_)
        · have c8 := jltT (a := k - 1) (b := 0) (by omega) (by omega) c8
          refine J_iconst (x := (-1)) dX5_greatestPublishedIn_36 (by decide) ?_
          exact J_iret (ty := .int) dX5_greatestPublishedIn_37 rfl (rfl) ⟨(by first | (exfalso; omega) | (rw [← hI]; rfl)), (by rfl)⟩
        · have c8 := jltF (a := k - 1) (b := 0) (by omega) (by omega) c8
          refine J_aload_n (t) dX5_greatestPublishedIn_11 rfl rfl ?_
          refine J_iload_n dX5_greatestPublishedIn_12 rfl rfl ?_
          refine J_aload_n (s) dX5_greatestPublishedIn_13 rfl rfl ?_
          refine J_iload_n dX5_greatestPublishedIn_14 rfl rfl ?_
          refine J_calli0 (jrunV (As := [.int (nI (k - 1))]) (ct_X5_publishedAt l D dA hst M s c hS (k - 1) (by omega)) dX5_greatestPublishedIn_15 yY_X5_publishedAt gX5_greatestPublishedIn_X5_publishedAt rfl cs9 (show s < jn M from by omega) s2 rfl ⟨by omega, by omega⟩ ⟨Nat.zero_le _, Nat.zero_le _⟩ rfl (Nat.le_of_ble_eq_true rfl)) (congrArg (fun z => oI z) (if_pos (by omega))) (rfl) ?_
          refine J_calli0 (jrunV (As := [.int (jb (b9)), .int (ji M (s + 2) (k - 1))]) (ct_X3_holdsFor l D dA hst M t n hR (b9) ((ji M (s + 2) (k - 1)))) dX5_greatestPublishedIn_18 yY_X3_holdsFor gX5_greatestPublishedIn_X3_holdsFor rfl cs7 (Nat.lt_of_succ_lt h1) h2 rfl ⟨by omega, by omega⟩ ⟨Nat.zero_le _, Nat.zero_le _⟩ rfl (Nat.le_of_ble_eq_true rfl)) (rfl) (rfl) ?_
          refine J_if_eq dX5_greatestPublishedIn_21 (tgt := 30) (by decide) (fun c21 => ?_) (fun c21 => ?_)
          · have c21 := jb0T c21
            refine J_iinc (y := (nI (k - 1) - 1)) (lv' := [.ref (s), .ref (t), .int (jb (b9)), .int (nI (k - 1) - 1)]) dX5_greatestPublishedIn_30 rfl (jdecm _) (by decide) rfl rfl ?_
            refine J_goto (tgt := 7) dX5_greatestPublishedIn_33 (by decide) ?_
            exact ih7 (k - 1) (by omega) (by first | rfl | (rw [← hI]; obtain ⟨z, rfl⟩ : ∃ z, k = z + 1 := ⟨k - 1, by omega⟩; rw [Nat.add_sub_cancel] at c21 ⊢; conv => rhs; unfold jgrt; rw [if_neg (by rw [c21]; decide)])) (by omega)
          · have c21 := jb0F c21
            refine J_aload_n (s) dX5_greatestPublishedIn_24 rfl rfl ?_
            refine J_iload_n dX5_greatestPublishedIn_25 rfl rfl ?_
            refine J_calli0 (jrunV (As := [.int (nI (k - 1))]) (ct_X5_publishedAt l D dA hst M s c hS (k - 1) (by omega)) dX5_greatestPublishedIn_26 yY_X5_publishedAt gX5_greatestPublishedIn_X5_publishedAt rfl cs9 (show s < jn M from by omega) s2 rfl ⟨by omega, by omega⟩ ⟨Nat.zero_le _, Nat.zero_le _⟩ rfl (Nat.le_of_ble_eq_true rfl)) (congrArg (fun z => oI z) (if_pos (by omega))) (rfl) ?_
            exact J_iret (ty := .int) dX5_greatestPublishedIn_29 rfl (rfl) ⟨(by rw [← hI]; obtain ⟨z, rfl⟩ : ∃ z, k = z + 1 := ⟨k - 1, by omega⟩; rw [Nat.add_sub_cancel] at c21 ⊢; unfold jgrt; rw [if_pos c21]), (by rfl)⟩
  refine J_aload_n (s) dX5_greatestPublishedIn_0 rfl rfl ?_
  refine J_geti (j := 2) dX5_greatestPublishedIn_1 (fun _ h => List.mem_cons_of_mem _ (List.mem_append_left _ (List.mem_append_left _ (List.mem_append_right _ (h))))) cs9 (by decide) rfl (List.mem_of_getElem? (i := 1) rfl) rfl (show s < jn M from by omega) s2 ?_
  refine J_topi (y := nI (c)) (s9) ?_
  refine J_iconst (x := 1) dX5_greatestPublishedIn_4 (by decide) ?_
  refine J_isub dX5_greatestPublishedIn_5 ?_
  refine J_istore_n (lv' := [.ref (s), .ref (t), .int (jb (b9)), .int (nI (c) - (1))]) dX5_greatestPublishedIn_6 rfl (by decide) rfl rfl ?_
  exact L7 _ (c) (by omega) (by first | rfl | (rw [← hI]; obtain ⟨z, rfl⟩ : ∃ z, k = z + 1 := ⟨k - 1, by omega⟩; rw [Nat.add_sub_cancel] at c21 ⊢; conv => rhs; unfold jgrt; rw [if_neg (by rw [c21]; decide)])) (Nat.lt_succ_self _)

