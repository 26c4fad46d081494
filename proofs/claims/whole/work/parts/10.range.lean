theorem jleT {a b : Nat} (ha : a < 2 ^ 31) (hb : b < 2 ^ 31) (h : nI a ≤ nI b) : a ≤ b := (nI_leI ha hb).mp h
theorem jleF {a b : Nat} (ha : a < 2 ^ 31) (hb : b < 2 ^ 31) (h : ¬ nI a ≤ nI b) : b < a := Nat.not_le.mp (fun z => h ((nI_leI ha hb).mpr z))
theorem jltT {a b : Nat} (ha : a < 2 ^ 31) (hb : b < 2 ^ 31) (h : nI a < nI b) : a < b := (nI_ltI ha hb).mp h
theorem jltF {a b : Nat} (ha : a < 2 ^ 31) (hb : b < 2 ^ 31) (h : ¬ nI a < nI b) : b ≤ a := Nat.not_lt.mp (fun z => h ((nI_ltI ha hb).mpr z))
theorem jeqT {a b : Nat} (ha : a < 2 ^ 31) (hb : b < 2 ^ 31) (h : nI a = nI b) : a = b := (nI_eq ha hb).mp h
theorem jeqF {a b : Nat} (ha : a < 2 ^ 31) (hb : b < 2 ^ 31) (h : ¬ nI a = nI b) : a ≠ b := fun z => h ((nI_eq ha hb).mpr z)
theorem jb0T {b : Bool} (h : jb b = 0) : b = false := (jb_eq0 b).mp h
theorem jb0F {b : Bool} (h : ¬ jb b = 0) : b = true := by cases b; exact absurd rfl h; rfl
theorem jdec {k : Nat} (h : 1 ≤ k) : nI k + Int32.ofInt (-1) = nI (k - 1) := by
  obtain ⟨j, rfl⟩ : ∃ j, k = j + 1 := ⟨k - 1, by omega⟩
  exact pk_m1 j
theorem jcat_rf (r : Option Nat) : (va_rf r).category = 1 := by cases r <;> rfl
theorem jfit_r {n : String} : ∀ v : Option Nat, narrow (.object n) (va_rf v) = va_rf v ∧ fits (.object n) (va_rf v) = true := fun v => by cases v <;> exact ⟨rfl, rfl⟩
theorem jfit_rA {t : FieldType} : ∀ v : Option Nat, narrow (.array t) (va_rf v) = va_rf v ∧ fits (.array t) (va_rf v) = true := fun v => by cases v <;> exact ⟨rfl, rfl⟩
/-- a range of n spans at t: its ends lie in the cell behind it -/
def jRg (M : jM) (t n : Nat) : Prop := t + 1 < jn M ∧ jk M t = 7 ∧ jr M t 0 = some (t + 1) ∧ jk M (t + 1) = 22 ∧ jz M (t + 1) = 2 * n ∧ n < 1000000
/-- the first of the rows i, i+1 .. (f of them) at which p holds -/
def jfind (p : Nat → Bool) : Nat → Nat → Nat
  | 0, i => i
  | f + 1, i => if p i then i else jfind p f (i + 1)
theorem jfind_le (p : Nat → Bool) : ∀ f i, i ≤ jfind p f i ∧ jfind p f i ≤ i + f := by
  intro f
  induction f with
  | zero => intro i; exact ⟨Nat.le_refl _, Nat.le_refl _⟩
  | succ f ih =>
    intro i
    unfold jfind
    split
    · omega
    · have := ih (i + 1); omega
/-- the first span that isn't wholly ahead of v, of n spans with the ends e -/
def rsf (e : Nat → Int32) (n : Nat) (v : Int32) : Nat := jfind (fun i => decide (v ≤ e (2 * i + 1))) n 0
theorem rsf_le (e : Nat → Int32) (n : Nat) (v : Int32) : rsf e n v ≤ n := by have := jfind_le (fun i => decide (v ≤ e (2 * i + 1))) n 0; unfold rsf; omega
def rFirst (e : Nat → Int32) (n : Nat) (s : Nat) : Int32 := if s < n then e (2 * s) else -1
def rLast (e : Nat → Int32) (n : Nat) (s : Nat) : Int32 := if s < n then e (2 * s + 1) else -1
def rHolds (e : Nat → Int32) (n : Nat) (v : Int32) : Bool := decide (rsf e n v < n) && decide (rFirst e n (rsf e n v) ≤ v)
theorem dX3_spanCount_0 : decode cX3_spanCount 0 = .ok (.aload_n 0, 1) := by decide +kernel
theorem dX3_spanCount_1 : decode cX3_spanCount 1 = .ok (.getfield 9, 3) := by decide +kernel
theorem dX3_spanCount_4 : decode cX3_spanCount 4 = .ok (.arraylength, 1) := by decide +kernel
theorem dX3_spanCount_5 : decode cX3_spanCount 5 = .ok (.iconst 2, 1) := by decide +kernel
theorem dX3_spanCount_6 : decode cX3_spanCount 6 = .ok (.idiv, 1) := by decide +kernel
theorem dX3_spanCount_7 : decode cX3_spanCount 7 = .ok (.ireturn, 1) := by decide +kernel
set_option maxHeartbeats 2000000 in
set_option maxRecDepth 20000 in
theorem ct_X3_spanCount (l : Launch) (D : va_G) (dA : Nat → ClassId) (hst : l.stackTraces = false) (M : jM) (t n : Nat) (hR : jRg M t n) : jCT l D dA yX3_spanCount wsX3_spanCount (20) (300) (0) (0) 1 [.ref (t)] M (jPo (oI (nI n)) (M)) := by
  refine jBody (cc := cX3_spanCount) (nL := 1) (rt := (some .int)) (ini := false) (by decide) rfl hst (Nat.le_of_ble_eq_true rfl) (by simp [Value.category]) (by intro h9; first | exact absurd h9 (by decide) | rfl) ?_
  show J l D dA RX3 cX3_spanCount wsX3_spanCount 1 false (some .int) [] (20) (300) (jF D dA (jn M) (jPo (oI (nI n)) (M)) 1) (jn M) (0) (0) (M) 0 [.ref (t)] []
  obtain ⟨h1, h2, h3, h4, h5, h6⟩ := id hR
  refine J_aload_n (t) dX3_spanCount_0 rfl rfl ?_
  refine J_getrs (q := t + 1) h3 dX3_spanCount_1 (fun _ h => List.mem_cons_of_mem _ (List.mem_append_right _ (h))) cs7 (by decide) rfl (List.mem_of_getElem? (i := 1) rfl) rfl (Nat.lt_of_succ_lt h1) h2 ?_
  refine J_alen (t := 2) dX3_spanCount_4 h1 h4 rfl ?_
  refine J_topi (y := nI (2 * n)) (congrArg nI h5) ?_
  refine J_iconst (x := 2) dX3_spanCount_5 (by decide) ?_
  refine J_idiv dX3_spanCount_6 (by decide) ?_
  refine J_topi (y := nI ((2 * n) / 2)) (pk_div (a := 2 * n) (d := 2) (by omega) (by omega) (by omega)) ?_
  exact J_iret (ty := .int) dX3_spanCount_7 rfl (rfl) ⟨(by rw [show 2 * n / 2 = n from by omega]), (by rfl)⟩

theorem dX3_spanFrom_2 : decode cX3_spanFrom 2 = .ok (.iconst 2, 1) := by decide +kernel
theorem dX3_spanFrom_3 : decode cX3_spanFrom 3 = .ok (.iload_n 2, 1) := by decide +kernel
theorem dX3_spanFrom_4 : decode cX3_spanFrom 4 = .ok (.imul, 1) := by decide +kernel
theorem dX3_spanFrom_5 : decode cX3_spanFrom 5 = .ok (.iconst 1, 1) := by decide +kernel
theorem dX3_spanFrom_6 : decode cX3_spanFrom 6 = .ok (.iadd, 1) := by decide +kernel
theorem dX3_spanFrom_7 : decode cX3_spanFrom 7 = .ok (.aload_n 0, 1) := by decide +kernel
theorem dX3_spanFrom_8 : decode cX3_spanFrom 8 = .ok (.getfield 9, 3) := by decide +kernel
theorem dX3_spanFrom_11 : decode cX3_spanFrom 11 = .ok (.arraylength, 1) := by decide +kernel
theorem dX3_spanFrom_12 : decode cX3_spanFrom 12 = .ok (.if_icmp .ge 23, 3) := by decide +kernel
theorem dX3_spanFrom_35 : decode cX3_spanFrom 35 = .ok (.iload_n 2, 1) := by decide +kernel
theorem dX3_spanFrom_36 : decode cX3_spanFrom 36 = .ok (.ireturn, 1) := by decide +kernel
theorem dX3_spanFrom_15 : decode cX3_spanFrom 15 = .ok (.aload_n 0, 1) := by decide +kernel
theorem dX3_spanFrom_16 : decode cX3_spanFrom 16 = .ok (.getfield 9, 3) := by decide +kernel
theorem dX3_spanFrom_19 : decode cX3_spanFrom 19 = .ok (.iconst 2, 1) := by decide +kernel
theorem dX3_spanFrom_20 : decode cX3_spanFrom 20 = .ok (.iload_n 2, 1) := by decide +kernel
theorem dX3_spanFrom_21 : decode cX3_spanFrom 21 = .ok (.imul, 1) := by decide +kernel
theorem dX3_spanFrom_22 : decode cX3_spanFrom 22 = .ok (.iconst 1, 1) := by decide +kernel
theorem dX3_spanFrom_23 : decode cX3_spanFrom 23 = .ok (.iadd, 1) := by decide +kernel
theorem dX3_spanFrom_24 : decode cX3_spanFrom 24 = .ok (.iaload, 1) := by decide +kernel
theorem dX3_spanFrom_25 : decode cX3_spanFrom 25 = .ok (.iload_n 1, 1) := by decide +kernel
theorem dX3_spanFrom_26 : decode cX3_spanFrom 26 = .ok (.if_icmp .ge 9, 3) := by decide +kernel
theorem dX3_spanFrom_29 : decode cX3_spanFrom 29 = .ok (.iinc 2 1, 3) := by decide +kernel
theorem dX3_spanFrom_32 : decode cX3_spanFrom 32 = .ok (.goto (-30), 3) := by decide +kernel
theorem dX3_spanFrom_0 : decode cX3_spanFrom 0 = .ok (.iconst 0, 1) := by decide +kernel
theorem dX3_spanFrom_1 : decode cX3_spanFrom 1 = .ok (.istore_n 2, 1) := by decide +kernel
set_option maxHeartbeats 2000000 in
set_option maxRecDepth 20000 in
theorem ct_X3_spanFrom (l : Launch) (D : va_G) (dA : Nat → ClassId) (hst : l.stackTraces = false) (M : jM) (t n : Nat) (hR : jRg M t n) (v : Int32) : jCT l D dA yX3_spanFrom wsX3_spanFrom (20) (300) (0) (0) 1 [.ref (t), .int (v)] M (jPo (oI (nI (rsf (ji M (t + 1)) n v))) (M)) := by
  refine jBody (cc := cX3_spanFrom) (nL := 3) (rt := (some .int)) (ini := false) (by decide) rfl hst (Nat.le_of_ble_eq_true rfl) (by simp [Value.category]) (by intro h9; first | exact absurd h9 (by decide) | rfl) ?_
  show J l D dA RX3 cX3_spanFrom wsX3_spanFrom 3 false (some .int) [] (20) (300) (jF D dA (jn M) (jPo (oI (nI (rsf (ji M (t + 1)) n v))) (M)) 1) (jn M) (0) (0) (M) 0 [.ref (t), .int (v), .float 0] []
  obtain ⟨h1, h2, h3, h4, h5, h6⟩ := id hR
  have L2 : ∀ (fuel : Nat) (k : Nat) (hk : k ≤ n) (hI : jfind (fun i => decide (v ≤ ji M (t + 1) (2 * i + 1))) (n - k) k = rsf (ji M (t + 1)) n v), n - k < fuel → J l D dA RX3 cX3_spanFrom wsX3_spanFrom 3 false (some .int) [] (20) (300) (jF D dA (jn M) (jPo (oI (nI (rsf (ji M (t + 1)) n v))) (M)) 1) (jn M) (0) (0) (M) 2 [.ref (t), .int (v), .int (nI (k))] [] := by
    intro fuel
    induction fuel with
    | zero => intro k hk hI hm; exact absurd hm (Nat.not_lt_zero _)
    | succ fuel ih2 =>
      intro k hk hI hm2
      refine J_iconst (x := 2) dX3_spanFrom_2 (by decide) ?_
      refine J_iload_n dX3_spanFrom_3 rfl rfl ?_
      refine J_imul dX3_spanFrom_4 ?_
      refine J_topi (y := nI (2 * k)) (pk_mul (2) (k)) ?_
      refine J_iconst (x := 1) dX3_spanFrom_5 (by decide) ?_
      refine J_iadd dX3_spanFrom_6 ?_
      refine J_topi (y := nI (2 * k + 1)) (nI_add (2 * k) (1)) ?_
      refine J_aload_n (t) dX3_spanFrom_7 rfl rfl ?_
      refine J_getrs (q := t + 1) h3 dX3_spanFrom_8 (fun _ h => List.mem_cons_of_mem _ (List.mem_append_left _ (List.mem_append_right _ (h)))) cs7 (by decide) rfl (List.mem_of_getElem? (i := 1) rfl) rfl (Nat.lt_of_succ_lt h1) h2 ?_
      refine J_alen (t := 2) dX3_spanFrom_11 h1 h4 rfl ?_
      refine J_topi (y := nI (2 * n)) (congrArg nI h5) ?_
      refine J_icmp_ge dX3_spanFrom_12 (tgt := 35) (by decide) (fun c12 => ?_) (fun c12 => ?_)
      · have c12 := jleT (a := 2 * n) (b := 2 * k + 1) (by omega) (by omega) c12
        refine J_iload_n dX3_spanFrom_35 rfl rfl ?_
        exact J_iret (ty := .int) dX3_spanFrom_36 rfl (rfl) ⟨(by first | (rw [← hI, show n - k = 0 from by omega]; rfl) | (rw [← hI]; obtain ⟨z, hz⟩ : ∃ z, n - k = z + 1 := ⟨n - k - 1, by omega⟩; rw [hz]; unfold jfind; rw [if_pos (by simpa using c26)])), (by rfl)⟩
      · have c12 := jleF (a := 2 * n) (b := 2 * k + 1) (by omega) (by omega) c12
        refine J_aload_n (t) dX3_spanFrom_15 rfl rfl ?_
        refine J_getrs (q := t + 1) h3 dX3_spanFrom_16 (fun _ h => List.mem_cons_of_mem _ (List.mem_append_left _ (List.mem_append_right _ (h)))) cs7 (by decide) rfl (List.mem_of_getElem? (i := 1) rfl) rfl (Nat.lt_of_succ_lt h1) h2 ?_
        refine J_iconst (x := 2) dX3_spanFrom_19 (by decide) ?_
        refine J_iload_n dX3_spanFrom_20 rfl rfl ?_
        refine J_imul dX3_spanFrom_21 ?_
        refine J_topi (y := nI (2 * k)) (pk_mul (2) (k)) ?_
        refine J_iconst (x := 1) dX3_spanFrom_22 (by decide) ?_
        refine J_iadd dX3_spanFrom_23 ?_
        refine J_topi (y := nI (2 * k + 1)) (nI_add (2 * k) (1)) ?_
        refine J_ialdN (k := 2 * k + 1) dX3_spanFrom_24 h1 h4 (by exact Nat.lt_of_lt_of_eq (show _ < 2 * n by omega) (Eq.symm h5)) (by exact Nat.lt_of_le_of_lt (Nat.le_of_eq h5) (show 2 * n < 2 ^ 31 by omega)) ?_
        refine J_iload_n dX3_spanFrom_25 rfl rfl ?_
        refine J_icmp_ge dX3_spanFrom_26 (tgt := 35) (by decide) (fun c26 => ?_) (fun c26 => ?_)
        · refine J_iload_n dX3_spanFrom_35 rfl rfl ?_
          exact J_iret (ty := .int) dX3_spanFrom_36 rfl (rfl) ⟨(by first | (rw [← hI, show n - k = 0 from by omega]; rfl) | (rw [← hI]; obtain ⟨z, hz⟩ : ∃ z, n - k = z + 1 := ⟨n - k - 1, by omega⟩; rw [hz]; unfold jfind; rw [if_pos (by simpa using c26)])), (by rfl)⟩
        · refine J_iinc (y := nI (k + 1)) (lv' := [.ref (t), .int (v), .int (nI (k + 1))]) dX3_spanFrom_29 rfl (jinc (k)) (by decide) rfl rfl ?_
          refine J_goto (tgt := 2) dX3_spanFrom_32 (by decide) ?_
          exact ih2 (k + 1) (by omega) (by rw [← hI]; obtain ⟨z, hz⟩ : ∃ z, n - k = z + 1 := ⟨n - k - 1, by omega⟩; rw [hz, show n - (k + 1) = z from by omega]; conv => rhs; unfold jfind; rw [if_neg (by simpa using c26)]) (by omega)
  refine J_iconst (x := 0) dX3_spanFrom_0 (by decide) ?_
  refine J_istore_n (lv' := [.ref (t), .int (v), .int (0)]) dX3_spanFrom_1 rfl (by decide) rfl rfl ?_
  exact L2 _ (0) (by omega) (by first | rfl | skip) (Nat.lt_succ_self _)

theorem dX3_firstOf_0 : decode cX3_firstOf 0 = .ok (.iload_n 1, 1) := by decide +kernel
theorem dX3_firstOf_1 : decode cX3_firstOf 1 = .ok (.ifCond .lt 22, 3) := by decide +kernel
theorem dX3_firstOf_23 : decode cX3_firstOf 23 = .ok (.iconst (-1), 1) := by decide +kernel
theorem dX3_firstOf_24 : decode cX3_firstOf 24 = .ok (.ireturn, 1) := by decide +kernel
theorem dX3_firstOf_4 : decode cX3_firstOf 4 = .ok (.iload_n 1, 1) := by decide +kernel
theorem dX3_firstOf_5 : decode cX3_firstOf 5 = .ok (.aload_n 0, 1) := by decide +kernel
theorem dX3_firstOf_6 : decode cX3_firstOf 6 = .ok (.invokevirtual 18, 3) := by decide +kernel
set_option maxRecDepth 20000 in
theorem ggX3_firstOf_X3_spanCount : GoodIn wsX3_firstOf wsX3_spanCount := goodIn_r _ [6, 1, 7] (by decide +kernel) (by decide +kernel)
set_option maxRecDepth 20000 in
theorem gX3_firstOf_X3_spanCount : GoodIn wsX3_firstOf (wsV RX3 18 RX3 yX3_spanCount wsX3_spanCount) := goodIn_app (goodIn_of _ (by decide +kernel)) ggX3_firstOf_X3_spanCount
theorem yY_X3_spanCount : jY yX3_spanCount wsX3_spanCount cX3_spanCount 1 (some .int) 0 := ⟨⟨_, rfl⟩, by decide +kernel, by decide +kernel, by decide +kernel⟩
theorem dX3_firstOf_9 : decode cX3_firstOf 9 = .ok (.if_icmp .ge 14, 3) := by decide +kernel
theorem dX3_firstOf_12 : decode cX3_firstOf 12 = .ok (.aload_n 0, 1) := by decide +kernel
theorem dX3_firstOf_13 : decode cX3_firstOf 13 = .ok (.getfield 9, 3) := by decide +kernel
theorem dX3_firstOf_16 : decode cX3_firstOf 16 = .ok (.iconst 2, 1) := by decide +kernel
theorem dX3_firstOf_17 : decode cX3_firstOf 17 = .ok (.iload_n 1, 1) := by decide +kernel
theorem dX3_firstOf_18 : decode cX3_firstOf 18 = .ok (.imul, 1) := by decide +kernel
theorem dX3_firstOf_19 : decode cX3_firstOf 19 = .ok (.iaload, 1) := by decide +kernel
theorem dX3_firstOf_20 : decode cX3_firstOf 20 = .ok (.goto 4, 3) := by decide +kernel
set_option maxHeartbeats 2000000 in
set_option maxRecDepth 20000 in
theorem ct_X3_firstOf (l : Launch) (D : va_G) (dA : Nat → ClassId) (hst : l.stackTraces = false) (M : jM) (t n : Nat) (hR : jRg M t n) (s : Nat) (hs : s < 2 ^ 31) : jCT l D dA yX3_firstOf wsX3_firstOf (21) (360) (0) (0) 1 [.ref (t), .int (nI (s))] M (jPo (oI (rFirst (ji M (t + 1)) n s)) (M)) := by
  refine jBody (cc := cX3_firstOf) (nL := 2) (rt := (some .int)) (ini := false) (by decide) rfl hst (Nat.le_of_ble_eq_true rfl) (by simp [Value.category]) (by intro h9; first | exact absurd h9 (by decide) | rfl) ?_
  show J l D dA RX3 cX3_firstOf wsX3_firstOf 2 false (some .int) [] (21) (360) (jF D dA (jn M) (jPo (oI (rFirst (ji M (t + 1)) n s)) (M)) 1) (jn M) (0) (0) (M) 0 [.ref (t), .int (nI (s))] []
  obtain ⟨h1, h2, h3, h4, h5, h6⟩ := id hR
  refine J_iload_n dX3_firstOf_0 rfl rfl ?_
  refine J_if_lt dX3_firstOf_1 (tgt := 23) (by decide) (fun c1 => ?_) (fun c1 => ?_)
  · have c1 := jltT (a := s) (b := 0) (by omega) (by omega) c1
    refine J_iconst (x := (-1)) dX3_firstOf_23 (by decide) ?_
    exact J_iret (ty := .int) dX3_firstOf_24 rfl (rfl) ⟨(by simp [rFirst]; omega), (by rfl)⟩
  · have c1 := jltF (a := s) (b := 0) (by omega) (by omega) c1
    refine J_iload_n dX3_firstOf_4 rfl rfl ?_
    refine J_aload_n (t) dX3_firstOf_5 rfl rfl ?_
    refine J_calli0 (jrunV (As := []) (ct_X3_spanCount l D dA hst M t n hR) dX3_firstOf_6 yY_X3_spanCount gX3_firstOf_X3_spanCount rfl cs7 (Nat.lt_of_succ_lt h1) h2 rfl ⟨by omega, by omega⟩ ⟨Nat.zero_le _, Nat.zero_le _⟩ rfl (Nat.le_of_ble_eq_true rfl)) (rfl) (rfl) ?_
    refine J_icmp_ge dX3_firstOf_9 (tgt := 23) (by decide) (fun c9 => ?_) (fun c9 => ?_)
    · have c9 := jleT (a := n) (b := s) (by omega) (by omega) c9
      refine J_iconst (x := (-1)) dX3_firstOf_23 (by decide) ?_
      exact J_iret (ty := .int) dX3_firstOf_24 rfl (rfl) ⟨(by simp [rFirst]; omega), (by rfl)⟩
    · have c9 := jleF (a := n) (b := s) (by omega) (by omega) c9
      refine J_aload_n (t) dX3_firstOf_12 rfl rfl ?_
      refine J_getrs (q := t + 1) h3 dX3_firstOf_13 (fun _ h => List.mem_cons_of_mem _ (List.mem_append_left _ (List.mem_append_right _ (h)))) cs7 (by decide) rfl (List.mem_of_getElem? (i := 1) rfl) rfl (Nat.lt_of_succ_lt h1) h2 ?_
      refine J_iconst (x := 2) dX3_firstOf_16 (by decide) ?_
      refine J_iload_n dX3_firstOf_17 rfl rfl ?_
      refine J_imul dX3_firstOf_18 ?_
      refine J_topi (y := nI (2 * s)) (pk_mul (2) (s)) ?_
      refine J_ialdN (k := 2 * s) dX3_firstOf_19 h1 h4 (by exact Nat.lt_of_lt_of_eq (show _ < 2 * n by omega) (Eq.symm h5)) (by exact Nat.lt_of_le_of_lt (Nat.le_of_eq h5) (show 2 * n < 2 ^ 31 by omega)) ?_
      refine J_goto (tgt := 24) dX3_firstOf_20 (by decide) ?_
      exact J_iret (ty := .int) dX3_firstOf_24 rfl (rfl) ⟨(by simp [rFirst]; omega), (by rfl)⟩

theorem dX3_lastOf_0 : decode cX3_lastOf 0 = .ok (.iload_n 1, 1) := by decide +kernel
theorem dX3_lastOf_1 : decode cX3_lastOf 1 = .ok (.ifCond .lt 24, 3) := by decide +kernel
theorem dX3_lastOf_25 : decode cX3_lastOf 25 = .ok (.iconst (-1), 1) := by decide +kernel
theorem dX3_lastOf_26 : decode cX3_lastOf 26 = .ok (.ireturn, 1) := by decide +kernel
theorem dX3_lastOf_4 : decode cX3_lastOf 4 = .ok (.iload_n 1, 1) := by decide +kernel
theorem dX3_lastOf_5 : decode cX3_lastOf 5 = .ok (.aload_n 0, 1) := by decide +kernel
theorem dX3_lastOf_6 : decode cX3_lastOf 6 = .ok (.invokevirtual 18, 3) := by decide +kernel
set_option maxRecDepth 20000 in
theorem ggX3_lastOf_X3_spanCount : GoodIn wsX3_lastOf wsX3_spanCount := goodIn_r _ [6, 1, 7] (by decide +kernel) (by decide +kernel)
set_option maxRecDepth 20000 in
theorem gX3_lastOf_X3_spanCount : GoodIn wsX3_lastOf (wsV RX3 18 RX3 yX3_spanCount wsX3_spanCount) := goodIn_app (goodIn_of _ (by decide +kernel)) ggX3_lastOf_X3_spanCount
theorem dX3_lastOf_9 : decode cX3_lastOf 9 = .ok (.if_icmp .ge 16, 3) := by decide +kernel
theorem dX3_lastOf_12 : decode cX3_lastOf 12 = .ok (.aload_n 0, 1) := by decide +kernel
theorem dX3_lastOf_13 : decode cX3_lastOf 13 = .ok (.getfield 9, 3) := by decide +kernel
theorem dX3_lastOf_16 : decode cX3_lastOf 16 = .ok (.iconst 2, 1) := by decide +kernel
theorem dX3_lastOf_17 : decode cX3_lastOf 17 = .ok (.iload_n 1, 1) := by decide +kernel
theorem dX3_lastOf_18 : decode cX3_lastOf 18 = .ok (.imul, 1) := by decide +kernel
theorem dX3_lastOf_19 : decode cX3_lastOf 19 = .ok (.iconst 1, 1) := by decide +kernel
theorem dX3_lastOf_20 : decode cX3_lastOf 20 = .ok (.iadd, 1) := by decide +kernel
theorem dX3_lastOf_21 : decode cX3_lastOf 21 = .ok (.iaload, 1) := by decide +kernel
theorem dX3_lastOf_22 : decode cX3_lastOf 22 = .ok (.goto 4, 3) := by decide +kernel
set_option maxHeartbeats 2000000 in
set_option maxRecDepth 20000 in
theorem ct_X3_lastOf (l : Launch) (D : va_G) (dA : Nat → ClassId) (hst : l.stackTraces = false) (M : jM) (t n : Nat) (hR : jRg M t n) (s : Nat) (hs : s < 2 ^ 31) : jCT l D dA yX3_lastOf wsX3_lastOf (21) (360) (0) (0) 1 [.ref (t), .int (nI (s))] M (jPo (oI (rLast (ji M (t + 1)) n s)) (M)) := by
  refine jBody (cc := cX3_lastOf) (nL := 2) (rt := (some .int)) (ini := false) (by decide) rfl hst (Nat.le_of_ble_eq_true rfl) (by simp [Value.category]) (by intro h9; first | exact absurd h9 (by decide) | rfl) ?_
  show J l D dA RX3 cX3_lastOf wsX3_lastOf 2 false (some .int) [] (21) (360) (jF D dA (jn M) (jPo (oI (rLast (ji M (t + 1)) n s)) (M)) 1) (jn M) (0) (0) (M) 0 [.ref (t), .int (nI (s))] []
  obtain ⟨h1, h2, h3, h4, h5, h6⟩ := id hR
  refine J_iload_n dX3_lastOf_0 rfl rfl ?_
  refine J_if_lt dX3_lastOf_1 (tgt := 25) (by decide) (fun c1 => ?_) (fun c1 => ?_)
  · have c1 := jltT (a := s) (b := 0) (by omega) (by omega) c1
    refine J_iconst (x := (-1)) dX3_lastOf_25 (by decide) ?_
    exact J_iret (ty := .int) dX3_lastOf_26 rfl (rfl) ⟨(by simp [rLast]; omega), (by rfl)⟩
  · have c1 := jltF (a := s) (b := 0) (by omega) (by omega) c1
    refine J_iload_n dX3_lastOf_4 rfl rfl ?_
    refine J_aload_n (t) dX3_lastOf_5 rfl rfl ?_
    refine J_calli0 (jrunV (As := []) (ct_X3_spanCount l D dA hst M t n hR) dX3_lastOf_6 yY_X3_spanCount gX3_lastOf_X3_spanCount rfl cs7 (Nat.lt_of_succ_lt h1) h2 rfl ⟨by omega, by omega⟩ ⟨Nat.zero_le _, Nat.zero_le _⟩ rfl (Nat.le_of_ble_eq_true rfl)) (rfl) (rfl) ?_
    refine J_icmp_ge dX3_lastOf_9 (tgt := 25) (by decide) (fun c9 => ?_) (fun c9 => ?_)
    · have c9 := jleT (a := n) (b := s) (by omega) (by omega) c9
      refine J_iconst (x := (-1)) dX3_lastOf_25 (by decide) ?_
      exact J_iret (ty := .int) dX3_lastOf_26 rfl (rfl) ⟨(by simp [rLast]; omega), (by rfl)⟩
    · have c9 := jleF (a := n) (b := s) (by omega) (by omega) c9
      refine J_aload_n (t) dX3_lastOf_12 rfl rfl ?_
      refine J_getrs (q := t + 1) h3 dX3_lastOf_13 (fun _ h => List.mem_cons_of_mem _ (List.mem_append_left _ (List.mem_append_right _ (h)))) cs7 (by decide) rfl (List.mem_of_getElem? (i := 1) rfl) rfl (Nat.lt_of_succ_lt h1) h2 ?_
      refine J_iconst (x := 2) dX3_lastOf_16 (by decide) ?_
      refine J_iload_n dX3_lastOf_17 rfl rfl ?_
      refine J_imul dX3_lastOf_18 ?_
      refine J_topi (y := nI (2 * s)) (pk_mul (2) (s)) ?_
      refine J_iconst (x := 1) dX3_lastOf_19 (by decide) ?_
      refine J_iadd dX3_lastOf_20 ?_
      refine J_topi (y := nI (2 * s + 1)) (nI_add (2 * s) (1)) ?_
      refine J_ialdN (k := 2 * s + 1) dX3_lastOf_21 h1 h4 (by exact Nat.lt_of_lt_of_eq (show _ < 2 * n by omega) (Eq.symm h5)) (by exact Nat.lt_of_le_of_lt (Nat.le_of_eq h5) (show 2 * n < 2 ^ 31 by omega)) ?_
      refine J_goto (tgt := 26) dX3_lastOf_22 (by decide) ?_
      exact J_iret (ty := .int) dX3_lastOf_26 rfl (rfl) ⟨(by simp [rLast]; omega), (by rfl)⟩

theorem jk_new {M : jM} {a c kd len : Nat} (h : a < jn M) (hk : jk M a = c) : jk (jNw M kd len) a = c := by rw [jk_Nw, if_neg (Nat.ne_of_lt h)]; exact hk
theorem jz_new {M : jM} {a c kd len : Nat} (h : a < jn M) (hk : jz M a = c) : jz (jNw M kd len) a = c := by rw [jz_Nw, if_neg (Nat.ne_of_lt h)]; exact hk
theorem jr_new {M : jM} {a j kd len : Nat} {r : Option Nat} (h : a < jn M) (hk : jr M a j = r) : jr (jNw M kd len) a j = r := by rw [jr_Nw, if_neg (Nat.ne_of_lt h)]; exact hk
/-- a prerelease -/
def vPre (x : Int32) : Bool := !decide (x - x / 100 * 100 = 99)
def vMeets (op : Int32) (a b : Bool) : Bool := if op = 0 then a || b else if op = 1 then a && b else a && !b
def okSlot (s : Int32) : Bool := !decide (s < 0) && decide (s < 12)
def okVer (x : Int32) : Bool := !decide (x < 0) && decide (x ≤ 99999999)
def vCaret (x : Int32) : Int32 := if x < 1000000 then (if x < 10000 then (x / 100 + 1) * 100 - 1 else (x / 10000 + 1) * 10000 - 1) else (x / 1000000 + 1) * 1000000 - 1
def vTilde (x : Int32) : Int32 := (x / 10000 + 1) * 10000 - 1
def xIOOBE : String := "java/lang/IndexOutOfBoundsException"
def xIAE : String := "java/lang/IllegalArgumentException"
def xISE : String := "java/lang/IllegalStateException"
def xNSE : String := "java/util/NoSuchElementException"
def xUOE : String := "java/lang/UnsupportedOperationException"
def xAE : String := "java/lang/ArithmeticException"
def vBeside (e x : Int32) : Bool := vPre e && decide (e / 100 = x / 100)
def rHoldsFor (e : Nat → Int32) (n : Nat) (b : Bool) (x : Int32) : Bool :=
  rHolds e n x && (!b || !vPre x || vBeside (rFirst e n (rsf e n x)) x || vBeside (rLast e n (rsf e n x)) x)
def rLeast (e : Nat → Int32) (n : Nat) (x : Int32) : Int32 := if rsf e n x < n then (if x < rFirst e n (rsf e n x) then rFirst e n (rsf e n x) else x) else -1
def rNext (e : Nat → Int32) (n : Nat) (x : Int32) : Int32 := if rsf e n x = n then 100000000 else if x < rFirst e n (rsf e n x) then rFirst e n (rsf e n x) else rLast e n (rsf e n x) + 1
def rWhole (e : Nat → Int32) (n : Nat) : Bool := decide (n = 1) && decide (rFirst e n 0 = 0) && decide (rLast e n 0 = 99999999)
def rSize (e : Nat → Int32) (n : Nat) : Nat → Int32
  | 0 => 0
  | k + 1 => rSize e n k + (rLast e n k - rFirst e n k + 1)
theorem dX7_isPrerelease_0 : decode cX7_isPrerelease 0 = .ok (.iload_n 0, 1) := by decide +kernel
theorem dX7_isPrerelease_1 : decode cX7_isPrerelease 1 = .ok (.bipush 100, 2) := by decide +kernel
theorem dX7_isPrerelease_3 : decode cX7_isPrerelease 3 = .ok (.irem, 1) := by decide +kernel
theorem dX7_isPrerelease_4 : decode cX7_isPrerelease 4 = .ok (.bipush 99, 2) := by decide +kernel
theorem dX7_isPrerelease_6 : decode cX7_isPrerelease 6 = .ok (.if_icmp .eq 7, 3) := by decide +kernel
theorem dX7_isPrerelease_13 : decode cX7_isPrerelease 13 = .ok (.iconst 0, 1) := by decide +kernel
theorem dX7_isPrerelease_14 : decode cX7_isPrerelease 14 = .ok (.ireturn, 1) := by decide +kernel
theorem dX7_isPrerelease_9 : decode cX7_isPrerelease 9 = .ok (.iconst 1, 1) := by decide +kernel
theorem dX7_isPrerelease_10 : decode cX7_isPrerelease 10 = .ok (.goto 4, 3) := by decide +kernel
set_option maxHeartbeats 2000000 in
set_option maxRecDepth 20000 in
theorem ct_X7_isPrerelease (l : Launch) (D : va_G) (dA : Nat → ClassId) (hst : l.stackTraces = false) (M : jM) (x : Int32) : jCT l D dA yX7_isPrerelease wsX7_isPrerelease (20) (300) (0) (0) 1 [.int (x)] M (jPo (oI (jb (vPre x))) (M)) := by
  refine jBody (cc := cX7_isPrerelease) (nL := 1) (rt := (some .boolean)) (ini := false) (by decide) rfl hst (Nat.le_of_ble_eq_true rfl) (by simp [Value.category]) (by intro h9; first | exact absurd h9 (by decide) | rfl) ?_
  show J l D dA RX7 cX7_isPrerelease wsX7_isPrerelease 1 false (some .boolean) [] (20) (300) (jF D dA (jn M) (jPo (oI (jb (vPre x))) (M)) 1) (jn M) (0) (0) (M) 0 [.int (x)] []
  refine J_iload_n dX7_isPrerelease_0 rfl rfl ?_
  refine J_bipush (x := 100) dX7_isPrerelease_1 (by decide) ?_
  refine J_irem dX7_isPrerelease_3 (by decide) ?_
  refine J_bipush (x := 99) dX7_isPrerelease_4 (by decide) ?_
  refine J_icmp_eq dX7_isPrerelease_6 (tgt := 13) (by decide) (fun c6 => ?_) (fun c6 => ?_)
  · refine J_iconst (x := 0) dX7_isPrerelease_13 (by decide) ?_
    exact J_iret (ty := .boolean) dX7_isPrerelease_14 rfl (by rfl) ⟨(by simp [jb, vPre, *]), (by rfl)⟩
  · refine J_iconst (x := 1) dX7_isPrerelease_9 (by decide) ?_
    refine J_goto (tgt := 14) dX7_isPrerelease_10 (by decide) ?_
    exact J_iret (ty := .boolean) dX7_isPrerelease_14 rfl (by rfl) ⟨(by simp [jb, vPre, *]), (by rfl)⟩

theorem dX7_meets_0 : decode cX7_meets 0 = .ok (.iload_n 0, 1) := by decide +kernel
theorem dX7_meets_1 : decode cX7_meets 1 = .ok (.lookupswitch 55 #[(0, 27), (1, 41)], 27) := by decide +kernel
theorem dX7_meets_28 : decode cX7_meets 28 = .ok (.iload_n 1, 1) := by decide +kernel
theorem dX7_meets_29 : decode cX7_meets 29 = .ok (.ifCond .ne 7, 3) := by decide +kernel
theorem dX7_meets_36 : decode cX7_meets 36 = .ok (.iconst 1, 1) := by decide +kernel
theorem dX7_meets_37 : decode cX7_meets 37 = .ok (.goto 4, 3) := by decide +kernel
theorem dX7_meets_41 : decode cX7_meets 41 = .ok (.ireturn, 1) := by decide +kernel
theorem dX7_meets_32 : decode cX7_meets 32 = .ok (.iload_n 2, 1) := by decide +kernel
theorem dX7_meets_33 : decode cX7_meets 33 = .ok (.ifCond .eq 7, 3) := by decide +kernel
theorem dX7_meets_40 : decode cX7_meets 40 = .ok (.iconst 0, 1) := by decide +kernel
theorem dX7_meets_42 : decode cX7_meets 42 = .ok (.iload_n 1, 1) := by decide +kernel
theorem dX7_meets_43 : decode cX7_meets 43 = .ok (.ifCond .eq 11, 3) := by decide +kernel
theorem dX7_meets_54 : decode cX7_meets 54 = .ok (.iconst 0, 1) := by decide +kernel
theorem dX7_meets_55 : decode cX7_meets 55 = .ok (.ireturn, 1) := by decide +kernel
theorem dX7_meets_46 : decode cX7_meets 46 = .ok (.iload_n 2, 1) := by decide +kernel
theorem dX7_meets_47 : decode cX7_meets 47 = .ok (.ifCond .eq 7, 3) := by decide +kernel
theorem dX7_meets_50 : decode cX7_meets 50 = .ok (.iconst 1, 1) := by decide +kernel
theorem dX7_meets_51 : decode cX7_meets 51 = .ok (.goto 4, 3) := by decide +kernel
theorem dX7_meets_56 : decode cX7_meets 56 = .ok (.iload_n 1, 1) := by decide +kernel
theorem dX7_meets_57 : decode cX7_meets 57 = .ok (.ifCond .eq 11, 3) := by decide +kernel
theorem dX7_meets_68 : decode cX7_meets 68 = .ok (.iconst 0, 1) := by decide +kernel
theorem dX7_meets_69 : decode cX7_meets 69 = .ok (.ireturn, 1) := by decide +kernel
theorem dX7_meets_60 : decode cX7_meets 60 = .ok (.iload_n 2, 1) := by decide +kernel
theorem dX7_meets_61 : decode cX7_meets 61 = .ok (.ifCond .ne 7, 3) := by decide +kernel
theorem dX7_meets_64 : decode cX7_meets 64 = .ok (.iconst 1, 1) := by decide +kernel
theorem dX7_meets_65 : decode cX7_meets 65 = .ok (.goto 4, 3) := by decide +kernel
set_option maxHeartbeats 2000000 in
set_option maxRecDepth 20000 in
theorem ct_X7_meets (l : Launch) (D : va_G) (dA : Nat → ClassId) (hst : l.stackTraces = false) (M : jM) (op : Int32) (a c : Bool) : jCT l D dA yX7_meets wsX7_meets (20) (300) (0) (0) 1 [.int (op), .int (jb (a)), .int (jb (c))] M (jPo (oI (jb (vMeets op a c))) (M)) := by
  refine jBody (cc := cX7_meets) (nL := 3) (rt := (some .boolean)) (ini := false) (by decide) rfl hst (Nat.le_of_ble_eq_true rfl) (by simp [Value.category]) (by intro h9; first | exact absurd h9 (by decide) | rfl) ?_
  show J l D dA RX7 cX7_meets wsX7_meets 3 false (some .boolean) [] (20) (300) (jF D dA (jn M) (jPo (oI (jb (vMeets op a c))) (M)) 1) (jn M) (0) (0) (M) 0 [.int (op), .int (jb (a)), .int (jb (c))] []
  refine J_iload_n dX7_meets_0 rfl rfl ?_
  by_cases s0 : op = 0
  · refine J_lookup (tgt := 28) dX7_meets_1 (by decide) (off := 27) (by rw [s0]; decide) (by decide) ?_
    refine J_iload_n dX7_meets_28 rfl rfl ?_
    refine J_if_ne dX7_meets_29 (tgt := 36) (by decide) (fun c29 => ?_) (fun c29 => ?_)
    · have c29 := jb0F c29
      refine J_iconst (x := 1) dX7_meets_36 (by decide) ?_
      refine J_goto (tgt := 41) dX7_meets_37 (by decide) ?_
      exact J_iret (ty := .boolean) dX7_meets_41 rfl (by rfl) ⟨(by simp [jb, vMeets, *]), (by rfl)⟩
    · have c29 := jb0T c29
      refine J_iload_n dX7_meets_32 rfl rfl ?_
      refine J_if_eq dX7_meets_33 (tgt := 40) (by decide) (fun c33 => ?_) (fun c33 => ?_)
      · have c33 := jb0T c33
        refine J_iconst (x := 0) dX7_meets_40 (by decide) ?_
        exact J_iret (ty := .boolean) dX7_meets_41 rfl (by rfl) ⟨(by simp [jb, vMeets, *]), (by rfl)⟩
      · have c33 := jb0F c33
        refine J_iconst (x := 1) dX7_meets_36 (by decide) ?_
        refine J_goto (tgt := 41) dX7_meets_37 (by decide) ?_
        exact J_iret (ty := .boolean) dX7_meets_41 rfl (by rfl) ⟨(by simp [jb, vMeets, *]), (by rfl)⟩
  · by_cases s1 : op = 1
    · refine J_lookup (tgt := 42) dX7_meets_1 (by decide) (off := 41) (by rw [s1]; decide) (by decide) ?_
      refine J_iload_n dX7_meets_42 rfl rfl ?_
      refine J_if_eq dX7_meets_43 (tgt := 54) (by decide) (fun c43 => ?_) (fun c43 => ?_)
      · have c43 := jb0T c43
        refine J_iconst (x := 0) dX7_meets_54 (by decide) ?_
        exact J_iret (ty := .boolean) dX7_meets_55 rfl (by rfl) ⟨(by simp [jb, vMeets, *]), (by rfl)⟩
      · have c43 := jb0F c43
        refine J_iload_n dX7_meets_46 rfl rfl ?_
        refine J_if_eq dX7_meets_47 (tgt := 54) (by decide) (fun c47 => ?_) (fun c47 => ?_)
        · have c47 := jb0T c47
          refine J_iconst (x := 0) dX7_meets_54 (by decide) ?_
          exact J_iret (ty := .boolean) dX7_meets_55 rfl (by rfl) ⟨(by simp [jb, vMeets, *]), (by rfl)⟩
        · have c47 := jb0F c47
          refine J_iconst (x := 1) dX7_meets_50 (by decide) ?_
          refine J_goto (tgt := 55) dX7_meets_51 (by decide) ?_
          exact J_iret (ty := .boolean) dX7_meets_55 rfl (by rfl) ⟨(by simp [jb, vMeets, *]), (by rfl)⟩
    · refine J_lookup (tgt := 56) dX7_meets_1 (by decide) (off := 55) (by show Op.lookupswitch.offset [(0, 27), (1, 41)] 55 _ = _; rw [lv_osw (k := 0) s0 (by decide), lv_osw (k := 1) s1 (by decide)]; rfl) (by decide) ?_
      refine J_iload_n dX7_meets_56 rfl rfl ?_
      refine J_if_eq dX7_meets_57 (tgt := 68) (by decide) (fun c57 => ?_) (fun c57 => ?_)
      · have c57 := jb0T c57
        refine J_iconst (x := 0) dX7_meets_68 (by decide) ?_
        exact J_iret (ty := .boolean) dX7_meets_69 rfl (by rfl) ⟨(by simp [jb, vMeets, *]), (by rfl)⟩
      · have c57 := jb0F c57
        refine J_iload_n dX7_meets_60 rfl rfl ?_
        refine J_if_ne dX7_meets_61 (tgt := 68) (by decide) (fun c61 => ?_) (fun c61 => ?_)
        · have c61 := jb0F c61
          refine J_iconst (x := 0) dX7_meets_68 (by decide) ?_
          exact J_iret (ty := .boolean) dX7_meets_69 rfl (by rfl) ⟨(by simp [jb, vMeets, *]), (by rfl)⟩
        · have c61 := jb0T c61
          refine J_iconst (x := 1) dX7_meets_64 (by decide) ?_
          refine J_goto (tgt := 69) dX7_meets_65 (by decide) ?_
          exact J_iret (ty := .boolean) dX7_meets_69 rfl (by rfl) ⟨(by simp [jb, vMeets, *]), (by rfl)⟩

theorem dX7_lastOfCaret_0 : decode cX7_lastOfCaret 0 = .ok (.iload_n 0, 1) := by decide +kernel
theorem dX7_lastOfCaret_1 : decode cX7_lastOfCaret 1 = .ok (.ldc_w 306, 3) := by decide +kernel
theorem dX7_lastOfCaret_4 : decode cX7_lastOfCaret 4 = .ok (.if_icmp .lt 17, 3) := by decide +kernel
theorem dX7_lastOfCaret_21 : decode cX7_lastOfCaret 21 = .ok (.iload_n 0, 1) := by decide +kernel
theorem dX7_lastOfCaret_22 : decode cX7_lastOfCaret 22 = .ok (.sipush 10000, 3) := by decide +kernel
theorem dX7_lastOfCaret_25 : decode cX7_lastOfCaret 25 = .ok (.if_icmp .lt 17, 3) := by decide +kernel
theorem dX7_lastOfCaret_42 : decode cX7_lastOfCaret 42 = .ok (.iload_n 0, 1) := by decide +kernel
theorem dX7_lastOfCaret_43 : decode cX7_lastOfCaret 43 = .ok (.bipush 100, 2) := by decide +kernel
theorem dX7_lastOfCaret_45 : decode cX7_lastOfCaret 45 = .ok (.idiv, 1) := by decide +kernel
theorem dX7_lastOfCaret_46 : decode cX7_lastOfCaret 46 = .ok (.iconst 1, 1) := by decide +kernel
theorem dX7_lastOfCaret_47 : decode cX7_lastOfCaret 47 = .ok (.iadd, 1) := by decide +kernel
theorem dX7_lastOfCaret_48 : decode cX7_lastOfCaret 48 = .ok (.bipush 100, 2) := by decide +kernel
theorem dX7_lastOfCaret_50 : decode cX7_lastOfCaret 50 = .ok (.imul, 1) := by decide +kernel
theorem dX7_lastOfCaret_51 : decode cX7_lastOfCaret 51 = .ok (.iconst 1, 1) := by decide +kernel
theorem dX7_lastOfCaret_52 : decode cX7_lastOfCaret 52 = .ok (.isub, 1) := by decide +kernel
theorem dX7_lastOfCaret_53 : decode cX7_lastOfCaret 53 = .ok (.ireturn, 1) := by decide +kernel
theorem dX7_lastOfCaret_28 : decode cX7_lastOfCaret 28 = .ok (.iload_n 0, 1) := by decide +kernel
theorem dX7_lastOfCaret_29 : decode cX7_lastOfCaret 29 = .ok (.sipush 10000, 3) := by decide +kernel
theorem dX7_lastOfCaret_32 : decode cX7_lastOfCaret 32 = .ok (.idiv, 1) := by decide +kernel
theorem dX7_lastOfCaret_33 : decode cX7_lastOfCaret 33 = .ok (.iconst 1, 1) := by decide +kernel
theorem dX7_lastOfCaret_34 : decode cX7_lastOfCaret 34 = .ok (.iadd, 1) := by decide +kernel
theorem dX7_lastOfCaret_35 : decode cX7_lastOfCaret 35 = .ok (.sipush 10000, 3) := by decide +kernel
theorem dX7_lastOfCaret_38 : decode cX7_lastOfCaret 38 = .ok (.imul, 1) := by decide +kernel
theorem dX7_lastOfCaret_39 : decode cX7_lastOfCaret 39 = .ok (.iconst 1, 1) := by decide +kernel
theorem dX7_lastOfCaret_40 : decode cX7_lastOfCaret 40 = .ok (.isub, 1) := by decide +kernel
theorem dX7_lastOfCaret_41 : decode cX7_lastOfCaret 41 = .ok (.ireturn, 1) := by decide +kernel
theorem dX7_lastOfCaret_7 : decode cX7_lastOfCaret 7 = .ok (.iload_n 0, 1) := by decide +kernel
theorem dX7_lastOfCaret_8 : decode cX7_lastOfCaret 8 = .ok (.ldc_w 306, 3) := by decide +kernel
theorem dX7_lastOfCaret_11 : decode cX7_lastOfCaret 11 = .ok (.idiv, 1) := by decide +kernel
theorem dX7_lastOfCaret_12 : decode cX7_lastOfCaret 12 = .ok (.iconst 1, 1) := by decide +kernel
theorem dX7_lastOfCaret_13 : decode cX7_lastOfCaret 13 = .ok (.iadd, 1) := by decide +kernel
theorem dX7_lastOfCaret_14 : decode cX7_lastOfCaret 14 = .ok (.ldc_w 306, 3) := by decide +kernel
theorem dX7_lastOfCaret_17 : decode cX7_lastOfCaret 17 = .ok (.imul, 1) := by decide +kernel
theorem dX7_lastOfCaret_18 : decode cX7_lastOfCaret 18 = .ok (.iconst 1, 1) := by decide +kernel
theorem dX7_lastOfCaret_19 : decode cX7_lastOfCaret 19 = .ok (.isub, 1) := by decide +kernel
theorem dX7_lastOfCaret_20 : decode cX7_lastOfCaret 20 = .ok (.ireturn, 1) := by decide +kernel
set_option maxHeartbeats 2000000 in
set_option maxRecDepth 20000 in
theorem ct_X7_lastOfCaret (l : Launch) (D : va_G) (dA : Nat → ClassId) (hst : l.stackTraces = false) (M : jM) (x : Int32) : jCT l D dA yX7_lastOfCaret wsX7_lastOfCaret (20) (300) (0) (0) 1 [.int (x)] M (jPo (oI (vCaret x)) (M)) := by
  refine jBody (cc := cX7_lastOfCaret) (nL := 1) (rt := (some .int)) (ini := false) (by decide) rfl hst (Nat.le_of_ble_eq_true rfl) (by simp [Value.category]) (by intro h9; first | exact absurd h9 (by decide) | rfl) ?_
  show J l D dA RX7 cX7_lastOfCaret wsX7_lastOfCaret 1 false (some .int) [] (20) (300) (jF D dA (jn M) (jPo (oI (vCaret x)) (M)) 1) (jn M) (0) (0) (M) 0 [.int (x)] []
  refine J_iload_n dX7_lastOfCaret_0 rfl rfl ?_
  refine J_ldcw (x := 1000000) dX7_lastOfCaret_1 (List.mem_of_getElem? (i := 1) rfl) ?_
  refine J_icmp_lt dX7_lastOfCaret_4 (tgt := 21) (by decide) (fun c4 => ?_) (fun c4 => ?_)
  · refine J_iload_n dX7_lastOfCaret_21 rfl rfl ?_
    refine J_sipush (x := 10000) dX7_lastOfCaret_22 (by decide) ?_
    refine J_icmp_lt dX7_lastOfCaret_25 (tgt := 42) (by decide) (fun c25 => ?_) (fun c25 => ?_)
    · refine J_iload_n dX7_lastOfCaret_42 rfl rfl ?_
      refine J_bipush (x := 100) dX7_lastOfCaret_43 (by decide) ?_
      refine J_idiv dX7_lastOfCaret_45 (by decide) ?_
      refine J_iconst (x := 1) dX7_lastOfCaret_46 (by decide) ?_
      refine J_iadd dX7_lastOfCaret_47 ?_
      refine J_bipush (x := 100) dX7_lastOfCaret_48 (by decide) ?_
      refine J_imul dX7_lastOfCaret_50 ?_
      refine J_iconst (x := 1) dX7_lastOfCaret_51 (by decide) ?_
      refine J_isub dX7_lastOfCaret_52 ?_
      exact J_iret (ty := .int) dX7_lastOfCaret_53 rfl (rfl) ⟨(by simp [vCaret, *]), (by rfl)⟩
    · refine J_iload_n dX7_lastOfCaret_28 rfl rfl ?_
      refine J_sipush (x := 10000) dX7_lastOfCaret_29 (by decide) ?_
      refine J_idiv dX7_lastOfCaret_32 (by decide) ?_
      refine J_iconst (x := 1) dX7_lastOfCaret_33 (by decide) ?_
      refine J_iadd dX7_lastOfCaret_34 ?_
      refine J_sipush (x := 10000) dX7_lastOfCaret_35 (by decide) ?_
      refine J_imul dX7_lastOfCaret_38 ?_
      refine J_iconst (x := 1) dX7_lastOfCaret_39 (by decide) ?_
      refine J_isub dX7_lastOfCaret_40 ?_
      exact J_iret (ty := .int) dX7_lastOfCaret_41 rfl (rfl) ⟨(by simp [vCaret, *]), (by rfl)⟩
  · refine J_iload_n dX7_lastOfCaret_7 rfl rfl ?_
    refine J_ldcw (x := 1000000) dX7_lastOfCaret_8 (List.mem_of_getElem? (i := 1) rfl) ?_
    refine J_idiv dX7_lastOfCaret_11 (by decide) ?_
    refine J_iconst (x := 1) dX7_lastOfCaret_12 (by decide) ?_
    refine J_iadd dX7_lastOfCaret_13 ?_
    refine J_ldcw (x := 1000000) dX7_lastOfCaret_14 (List.mem_of_getElem? (i := 1) rfl) ?_
    refine J_imul dX7_lastOfCaret_17 ?_
    refine J_iconst (x := 1) dX7_lastOfCaret_18 (by decide) ?_
    refine J_isub dX7_lastOfCaret_19 ?_
    exact J_iret (ty := .int) dX7_lastOfCaret_20 rfl (rfl) ⟨(by simp [vCaret, *]), (by rfl)⟩

theorem dX7_lastOfTilde_0 : decode cX7_lastOfTilde 0 = .ok (.iload_n 0, 1) := by decide +kernel
theorem dX7_lastOfTilde_1 : decode cX7_lastOfTilde 1 = .ok (.sipush 10000, 3) := by decide +kernel
theorem dX7_lastOfTilde_4 : decode cX7_lastOfTilde 4 = .ok (.idiv, 1) := by decide +kernel
theorem dX7_lastOfTilde_5 : decode cX7_lastOfTilde 5 = .ok (.iconst 1, 1) := by decide +kernel
theorem dX7_lastOfTilde_6 : decode cX7_lastOfTilde 6 = .ok (.iadd, 1) := by decide +kernel
theorem dX7_lastOfTilde_7 : decode cX7_lastOfTilde 7 = .ok (.sipush 10000, 3) := by decide +kernel
theorem dX7_lastOfTilde_10 : decode cX7_lastOfTilde 10 = .ok (.imul, 1) := by decide +kernel
theorem dX7_lastOfTilde_11 : decode cX7_lastOfTilde 11 = .ok (.iconst 1, 1) := by decide +kernel
theorem dX7_lastOfTilde_12 : decode cX7_lastOfTilde 12 = .ok (.isub, 1) := by decide +kernel
theorem dX7_lastOfTilde_13 : decode cX7_lastOfTilde 13 = .ok (.ireturn, 1) := by decide +kernel
set_option maxHeartbeats 2000000 in
set_option maxRecDepth 20000 in
theorem ct_X7_lastOfTilde (l : Launch) (D : va_G) (dA : Nat → ClassId) (hst : l.stackTraces = false) (M : jM) (x : Int32) : jCT l D dA yX7_lastOfTilde wsX7_lastOfTilde (20) (300) (0) (0) 1 [.int (x)] M (jPo (oI (vTilde x)) (M)) := by
  refine jBody (cc := cX7_lastOfTilde) (nL := 1) (rt := (some .int)) (ini := false) (by decide) rfl hst (Nat.le_of_ble_eq_true rfl) (by simp [Value.category]) (by intro h9; first | exact absurd h9 (by decide) | rfl) ?_
  show J l D dA RX7 cX7_lastOfTilde wsX7_lastOfTilde 1 false (some .int) [] (20) (300) (jF D dA (jn M) (jPo (oI (vTilde x)) (M)) 1) (jn M) (0) (0) (M) 0 [.int (x)] []
  refine J_iload_n dX7_lastOfTilde_0 rfl rfl ?_
  refine J_sipush (x := 10000) dX7_lastOfTilde_1 (by decide) ?_
  refine J_idiv dX7_lastOfTilde_4 (by decide) ?_
  refine J_iconst (x := 1) dX7_lastOfTilde_5 (by decide) ?_
  refine J_iadd dX7_lastOfTilde_6 ?_
  refine J_sipush (x := 10000) dX7_lastOfTilde_7 (by decide) ?_
  refine J_imul dX7_lastOfTilde_10 ?_
  refine J_iconst (x := 1) dX7_lastOfTilde_11 (by decide) ?_
  refine J_isub dX7_lastOfTilde_12 ?_
  exact J_iret (ty := .int) dX7_lastOfTilde_13 rfl (rfl) ⟨(by simp [vTilde]), (by rfl)⟩

theorem dX7_checkSlot_0 : decode cX7_checkSlot 0 = .ok (.iload_n 0, 1) := by decide +kernel
theorem dX7_checkSlot_1 : decode cX7_checkSlot 1 = .ok (.ifCond .lt 9, 3) := by decide +kernel
theorem dX7_checkSlot_10 : decode cX7_checkSlot 10 = .ok (.new 281, 3) := by decide +kernel
theorem thr_RX7_285 : ∀ w ∈ (vy_atS RX7 285 "java/lang/IndexOutOfBoundsException" ["java/lang/RuntimeException", "java/lang/Exception"]).filter (fun w => !goodWord w), w ∈ jNws := by decide +kernel
theorem thr_RX7_285_g : ∀ w ∈ Cond.classLink RX7 281 "java/lang/IndexOutOfBoundsException" :: Cond.initialized "java/lang/IndexOutOfBoundsException" :: vy_atS RX7 285 "java/lang/IndexOutOfBoundsException" ["java/lang/RuntimeException", "java/lang/Exception"], vx_ot w = true := by decide +kernel
theorem thr_RX7_285_s : (RX7, 283, "there is no such slot") ∈ jStrs := List.mem_of_getElem? (i := 1) rfl
theorem dX7_checkSlot_13 : decode cX7_checkSlot 13 = .ok (.dup, 1) := by decide +kernel
theorem dX7_checkSlot_14 : decode cX7_checkSlot 14 = .ok (.ldc_w 283, 3) := by decide +kernel
theorem dX7_checkSlot_17 : decode cX7_checkSlot 17 = .ok (.invokespecial 285, 3) := by decide +kernel
theorem dX7_checkSlot_20 : decode cX7_checkSlot 20 = .ok (.athrow, 1) := by decide +kernel
theorem dX7_checkSlot_4 : decode cX7_checkSlot 4 = .ok (.iload_n 0, 1) := by decide +kernel
theorem dX7_checkSlot_5 : decode cX7_checkSlot 5 = .ok (.bipush 12, 2) := by decide +kernel
theorem dX7_checkSlot_7 : decode cX7_checkSlot 7 = .ok (.if_icmp .lt 14, 3) := by decide +kernel
theorem dX7_checkSlot_21 : decode cX7_checkSlot 21 = .ok (.return_, 1) := by decide +kernel
set_option maxHeartbeats 2000000 in
set_option maxRecDepth 20000 in
theorem ct_X7_checkSlot (l : Launch) (D : va_G) (dA : Nat → ClassId) (hst : l.stackTraces = false) (M : jM) (s : Int32) : jCT l D dA yX7_checkSlot wsX7_checkSlot (20) (300) (1) (6) 0 [.int (s)] M (jPo (if okSlot s then oV else oX xIOOBE) (M)) := by
  refine jBody (cc := cX7_checkSlot) (nL := 1) (rt := none) (ini := false) (by decide) rfl hst (Nat.le_of_ble_eq_true rfl) (by simp [Value.category]) (by intro h9; first | exact absurd h9 (by decide) | rfl) ?_
  show J l D dA RX7 cX7_checkSlot wsX7_checkSlot 1 false none [] (20) (300) (jF D dA (jn M) (jPo (if okSlot s then oV else oX xIOOBE) (M)) 0) (jn M) (1) (6) (M) 0 [.int (s)] []
  refine J_iload_n dX7_checkSlot_0 rfl rfl ?_
  refine J_if_lt dX7_checkSlot_1 (tgt := 10) (by decide) (fun c1 => ?_) (fun c1 => ?_)
  · exact J_throwSW (E := "java/lang/IndexOutOfBoundsException") (text := "there is no such slot") (names := ["java/lang/RuntimeException", "java/lang/Exception"]) (by decide) (by decide) dX7_checkSlot_10 dX7_checkSlot_13 dX7_checkSlot_14 dX7_checkSlot_17 dX7_checkSlot_20 (List.mem_of_getElem? (i := 1) rfl) (List.mem_of_getElem? (i := 2) rfl) thr_RX7_285_s (fun _ h => List.mem_cons_of_mem _ (List.mem_append_right _ (h))) thr_RX7_285 thr_RX7_285_g rfl (Nat.le_of_ble_eq_true rfl) (by first | decide | (simp only [List.length_cons, List.length_nil]; omega)) (by first | decide | (simp only [List.length_cons, List.length_nil]; omega)) (by omega) (by omega) ⟨(by simp [okSlot, xIOOBE, *]), (by rfl)⟩
  · refine J_iload_n dX7_checkSlot_4 rfl rfl ?_
    refine J_bipush (x := 12) dX7_checkSlot_5 (by decide) ?_
    refine J_icmp_lt dX7_checkSlot_7 (tgt := 21) (by decide) (fun c7 => ?_) (fun c7 => ?_)
    · exact J_vret dX7_checkSlot_21 rfl ⟨(by simp [okSlot, xIOOBE, *]), (by rfl)⟩
    · exact J_throwSW (E := "java/lang/IndexOutOfBoundsException") (text := "there is no such slot") (names := ["java/lang/RuntimeException", "java/lang/Exception"]) (by decide) (by decide) dX7_checkSlot_10 dX7_checkSlot_13 dX7_checkSlot_14 dX7_checkSlot_17 dX7_checkSlot_20 (List.mem_of_getElem? (i := 1) rfl) (List.mem_of_getElem? (i := 2) rfl) thr_RX7_285_s (fun _ h => List.mem_cons_of_mem _ (List.mem_append_right _ (h))) thr_RX7_285 thr_RX7_285_g rfl (Nat.le_of_ble_eq_true rfl) (by first | decide | (simp only [List.length_cons, List.length_nil]; omega)) (by first | decide | (simp only [List.length_cons, List.length_nil]; omega)) (by omega) (by omega) ⟨(by simp [okSlot, xIOOBE, *]), (by rfl)⟩

theorem dX7_checkVersion_0 : decode cX7_checkVersion 0 = .ok (.iload_n 0, 1) := by decide +kernel
theorem dX7_checkVersion_1 : decode cX7_checkVersion 1 = .ok (.ifCond .lt 10, 3) := by decide +kernel
theorem dX7_checkVersion_11 : decode cX7_checkVersion 11 = .ok (.new 122, 3) := by decide +kernel
theorem thr_RX7_126 : ∀ w ∈ (vy_atS RX7 126 "java/lang/IllegalArgumentException" ["java/lang/RuntimeException", "java/lang/Exception"]).filter (fun w => !goodWord w), w ∈ jNws := by decide +kernel
theorem thr_RX7_126_g : ∀ w ∈ Cond.classLink RX7 122 "java/lang/IllegalArgumentException" :: Cond.initialized "java/lang/IllegalArgumentException" :: vy_atS RX7 126 "java/lang/IllegalArgumentException" ["java/lang/RuntimeException", "java/lang/Exception"], vx_ot w = true := by decide +kernel
theorem thr_RX7_126_s : (RX7, 287, "the number is no version") ∈ jStrs := List.mem_of_getElem? (i := 4) rfl
theorem dX7_checkVersion_14 : decode cX7_checkVersion 14 = .ok (.dup, 1) := by decide +kernel
theorem dX7_checkVersion_15 : decode cX7_checkVersion 15 = .ok (.ldc_w 287, 3) := by decide +kernel
theorem dX7_checkVersion_18 : decode cX7_checkVersion 18 = .ok (.invokespecial 126, 3) := by decide +kernel
theorem dX7_checkVersion_21 : decode cX7_checkVersion 21 = .ok (.athrow, 1) := by decide +kernel
theorem dX7_checkVersion_4 : decode cX7_checkVersion 4 = .ok (.iload_n 0, 1) := by decide +kernel
theorem dX7_checkVersion_5 : decode cX7_checkVersion 5 = .ok (.ldc_w 286, 3) := by decide +kernel
theorem dX7_checkVersion_8 : decode cX7_checkVersion 8 = .ok (.if_icmp .le 14, 3) := by decide +kernel
theorem dX7_checkVersion_22 : decode cX7_checkVersion 22 = .ok (.return_, 1) := by decide +kernel
set_option maxHeartbeats 2000000 in
set_option maxRecDepth 20000 in
theorem ct_X7_checkVersion (l : Launch) (D : va_G) (dA : Nat → ClassId) (hst : l.stackTraces = false) (M : jM) (x : Int32) : jCT l D dA yX7_checkVersion wsX7_checkVersion (20) (300) (1) (6) 0 [.int (x)] M (jPo (if okVer x then oV else oX xIAE) (M)) := by
  refine jBody (cc := cX7_checkVersion) (nL := 1) (rt := none) (ini := false) (by decide) rfl hst (Nat.le_of_ble_eq_true rfl) (by simp [Value.category]) (by intro h9; first | exact absurd h9 (by decide) | rfl) ?_
  show J l D dA RX7 cX7_checkVersion wsX7_checkVersion 1 false none [] (20) (300) (jF D dA (jn M) (jPo (if okVer x then oV else oX xIAE) (M)) 0) (jn M) (1) (6) (M) 0 [.int (x)] []
  refine J_iload_n dX7_checkVersion_0 rfl rfl ?_
  refine J_if_lt dX7_checkVersion_1 (tgt := 11) (by decide) (fun c1 => ?_) (fun c1 => ?_)
  · exact J_throwSW (E := "java/lang/IllegalArgumentException") (text := "the number is no version") (names := ["java/lang/RuntimeException", "java/lang/Exception"]) (by decide) (by decide) dX7_checkVersion_11 dX7_checkVersion_14 dX7_checkVersion_15 dX7_checkVersion_18 dX7_checkVersion_21 (List.mem_of_getElem? (i := 1) rfl) (List.mem_of_getElem? (i := 2) rfl) thr_RX7_126_s (fun _ h => List.mem_cons_of_mem _ (List.mem_append_right _ (h))) thr_RX7_126 thr_RX7_126_g rfl (Nat.le_of_ble_eq_true rfl) (by first | decide | (simp only [List.length_cons, List.length_nil]; omega)) (by first | decide | (simp only [List.length_cons, List.length_nil]; omega)) (by omega) (by omega) ⟨(by simp [okVer, xIAE, *]), (by rfl)⟩
  · refine J_iload_n dX7_checkVersion_4 rfl rfl ?_
    refine J_ldcw (x := 99999999) dX7_checkVersion_5 (List.mem_of_getElem? (i := 3) rfl) ?_
    refine J_icmp_le dX7_checkVersion_8 (tgt := 22) (by decide) (fun c8 => ?_) (fun c8 => ?_)
    · exact J_vret dX7_checkVersion_22 rfl ⟨(by simp [okVer, xIAE, *]), (by rfl)⟩
    · exact J_throwSW (E := "java/lang/IllegalArgumentException") (text := "the number is no version") (names := ["java/lang/RuntimeException", "java/lang/Exception"]) (by decide) (by decide) dX7_checkVersion_11 dX7_checkVersion_14 dX7_checkVersion_15 dX7_checkVersion_18 dX7_checkVersion_21 (List.mem_of_getElem? (i := 1) rfl) (List.mem_of_getElem? (i := 2) rfl) thr_RX7_126_s (fun _ h => List.mem_cons_of_mem _ (List.mem_append_right _ (h))) thr_RX7_126 thr_RX7_126_g rfl (Nat.le_of_ble_eq_true rfl) (by first | decide | (simp only [List.length_cons, List.length_nil]; omega)) (by first | decide | (simp only [List.length_cons, List.length_nil]; omega)) (by omega) (by omega) ⟨(by simp [okVer, xIAE, *]), (by rfl)⟩

theorem dX3_holds_0 : decode cX3_holds 0 = .ok (.aload_n 0, 1) := by decide +kernel
theorem dX3_holds_1 : decode cX3_holds 1 = .ok (.iload_n 1, 1) := by decide +kernel
theorem dX3_holds_2 : decode cX3_holds 2 = .ok (.invokevirtual 53, 3) := by decide +kernel
set_option maxRecDepth 20000 in
theorem ggX3_holds_X3_spanFrom : GoodIn wsX3_holds wsX3_spanFrom := goodIn_ca (goodIn_r _ [5, 6, 15] (by decide +kernel) (by decide +kernel)) (goodIn_sub (fun _ h => List.mem_cons_of_mem _ (List.mem_append_right _ h)) (by decide +kernel))
set_option maxRecDepth 20000 in
theorem gX3_holds_X3_spanFrom : GoodIn wsX3_holds (wsV RX3 53 RX3 yX3_spanFrom wsX3_spanFrom) := goodIn_app (goodIn_of _ (by decide +kernel)) ggX3_holds_X3_spanFrom
theorem yY_X3_spanFrom : jY yX3_spanFrom wsX3_spanFrom cX3_spanFrom 3 (some .int) 1 := ⟨⟨_, rfl⟩, by decide +kernel, by decide +kernel, by decide +kernel⟩
theorem dX3_holds_5 : decode cX3_holds 5 = .ok (.istore_n 2, 1) := by decide +kernel
theorem dX3_holds_6 : decode cX3_holds 6 = .ok (.iload_n 2, 1) := by decide +kernel
theorem dX3_holds_7 : decode cX3_holds 7 = .ok (.aload_n 0, 1) := by decide +kernel
theorem dX3_holds_8 : decode cX3_holds 8 = .ok (.invokevirtual 18, 3) := by decide +kernel
set_option maxRecDepth 20000 in
theorem ggX3_holds_X3_spanCount : GoodIn wsX3_holds wsX3_spanCount := goodIn_r _ [10, 6, 15] (by decide +kernel) (by decide +kernel)
set_option maxRecDepth 20000 in
theorem gX3_holds_X3_spanCount : GoodIn wsX3_holds (wsV RX3 18 RX3 yX3_spanCount wsX3_spanCount) := goodIn_app (goodIn_of _ (by decide +kernel)) ggX3_holds_X3_spanCount
theorem dX3_holds_11 : decode cX3_holds 11 = .ok (.if_icmp .ge 16, 3) := by decide +kernel
theorem dX3_holds_27 : decode cX3_holds 27 = .ok (.iconst 0, 1) := by decide +kernel
theorem dX3_holds_28 : decode cX3_holds 28 = .ok (.ireturn, 1) := by decide +kernel
theorem dX3_holds_14 : decode cX3_holds 14 = .ok (.aload_n 0, 1) := by decide +kernel
theorem dX3_holds_15 : decode cX3_holds 15 = .ok (.iload_n 2, 1) := by decide +kernel
theorem dX3_holds_16 : decode cX3_holds 16 = .ok (.invokevirtual 47, 3) := by decide +kernel
set_option maxRecDepth 20000 in
theorem ggX3_holds_X3_firstOf : GoodIn wsX3_holds wsX3_firstOf := goodIn_ca (goodIn_r _ [14, 6, 7, 8, 9, 4, 10, 15] (by decide +kernel) (by decide +kernel)) (goodIn_sub (fun _ h => List.mem_cons_of_mem _ (List.mem_append_right _ h)) (by decide +kernel))
set_option maxRecDepth 20000 in
theorem gX3_holds_X3_firstOf : GoodIn wsX3_holds (wsV RX3 47 RX3 yX3_firstOf wsX3_firstOf) := goodIn_app (goodIn_of _ (by decide +kernel)) ggX3_holds_X3_firstOf
theorem yY_X3_firstOf : jY yX3_firstOf wsX3_firstOf cX3_firstOf 2 (some .int) 1 := ⟨⟨_, rfl⟩, by decide +kernel, by decide +kernel, by decide +kernel⟩
theorem dX3_holds_19 : decode cX3_holds 19 = .ok (.iload_n 1, 1) := by decide +kernel
theorem dX3_holds_20 : decode cX3_holds 20 = .ok (.if_icmp .gt 7, 3) := by decide +kernel
theorem dX3_holds_23 : decode cX3_holds 23 = .ok (.iconst 1, 1) := by decide +kernel
theorem dX3_holds_24 : decode cX3_holds 24 = .ok (.goto 4, 3) := by decide +kernel
set_option maxHeartbeats 2000000 in
set_option maxRecDepth 20000 in
theorem ct_X3_holds (l : Launch) (D : va_G) (dA : Nat → ClassId) (hst : l.stackTraces = false) (M : jM) (t n : Nat) (hR : jRg M t n) (x : Int32) : jCT l D dA yX3_holds wsX3_holds (22) (420) (0) (0) 1 [.ref (t), .int (x)] M (jPo (oI (jb (rHolds (ji M (t + 1)) n x))) (M)) := by
  refine jBody (cc := cX3_holds) (nL := 3) (rt := (some .boolean)) (ini := false) (by decide) rfl hst (Nat.le_of_ble_eq_true rfl) (by simp [Value.category]) (by intro h9; first | exact absurd h9 (by decide) | rfl) ?_
  show J l D dA RX3 cX3_holds wsX3_holds 3 false (some .boolean) [] (22) (420) (jF D dA (jn M) (jPo (oI (jb (rHolds (ji M (t + 1)) n x))) (M)) 1) (jn M) (0) (0) (M) 0 [.ref (t), .int (x), .float 0] []
  obtain ⟨h1, h2, h3, h4, h5, h6⟩ := id hR
  have hsn := rsf_le (ji M (t + 1)) n x
  refine J_aload_n (t) dX3_holds_0 rfl rfl ?_
  refine J_iload_n dX3_holds_1 rfl rfl ?_
  refine J_calli0 (jrunV (As := [.int (x)]) (ct_X3_spanFrom l D dA hst M t n hR ((x))) dX3_holds_2 yY_X3_spanFrom gX3_holds_X3_spanFrom rfl cs7 (Nat.lt_of_succ_lt h1) h2 rfl ⟨by omega, by omega⟩ ⟨Nat.zero_le _, Nat.zero_le _⟩ rfl (Nat.le_of_ble_eq_true rfl)) (rfl) (rfl) ?_
  refine J_istore_n (lv' := [.ref (t), .int (x), .int (nI (rsf (ji M (t + 1)) n ((x))))]) dX3_holds_5 rfl (by decide) rfl rfl ?_
  refine J_iload_n dX3_holds_6 rfl rfl ?_
  refine J_aload_n (t) dX3_holds_7 rfl rfl ?_
  refine J_calli0 (jrunV (As := []) (ct_X3_spanCount l D dA hst M t n hR) dX3_holds_8 yY_X3_spanCount gX3_holds_X3_spanCount rfl cs7 (Nat.lt_of_succ_lt h1) h2 rfl ⟨by omega, by omega⟩ ⟨Nat.zero_le _, Nat.zero_le _⟩ rfl (Nat.le_of_ble_eq_true rfl)) (rfl) (rfl) ?_
  refine J_icmp_ge dX3_holds_11 (tgt := 27) (by decide) (fun c11 => ?_) (fun c11 => ?_)
  · have c11 := jleT (a := n) (b := rsf (ji M (t + 1)) n ((x))) (by omega) (by omega) c11
    refine J_iconst (x := 0) dX3_holds_27 (by decide) ?_
    exact J_iret (ty := .boolean) dX3_holds_28 rfl (by rfl) ⟨(by first | (simp [jb, rHolds, Int32.not_le, *]; done) | (simp [jb, rHolds]; omega)), (by rfl)⟩
  · have c11 := jleF (a := n) (b := rsf (ji M (t + 1)) n ((x))) (by omega) (by omega) c11
    refine J_aload_n (t) dX3_holds_14 rfl rfl ?_
    refine J_iload_n dX3_holds_15 rfl rfl ?_
    refine J_calli0 (jrunV (As := [.int (nI (rsf (ji M (t + 1)) n ((x))))]) (ct_X3_firstOf l D dA hst M t n hR (rsf (ji M (t + 1)) n ((x))) (by omega)) dX3_holds_16 yY_X3_firstOf gX3_holds_X3_firstOf rfl cs7 (Nat.lt_of_succ_lt h1) h2 rfl ⟨by omega, by omega⟩ ⟨Nat.zero_le _, Nat.zero_le _⟩ rfl (Nat.le_of_ble_eq_true rfl)) (rfl) (rfl) ?_
    refine J_iload_n dX3_holds_19 rfl rfl ?_
    refine J_icmp_gt dX3_holds_20 (tgt := 27) (by decide) (fun c20 => ?_) (fun c20 => ?_)
    · refine J_iconst (x := 0) dX3_holds_27 (by decide) ?_
      exact J_iret (ty := .boolean) dX3_holds_28 rfl (by rfl) ⟨(by first | (simp [jb, rHolds, Int32.not_le, *]; done) | (simp [jb, rHolds]; omega)), (by rfl)⟩
    · refine J_iconst (x := 1) dX3_holds_23 (by decide) ?_
      refine J_goto (tgt := 28) dX3_holds_24 (by decide) ?_
      exact J_iret (ty := .boolean) dX3_holds_28 rfl (by rfl) ⟨(by first | (simp [jb, rHolds, Int32.not_le, *]; done) | (simp [jb, rHolds]; omega)), (by rfl)⟩

theorem dX3_isPrereleaseBeside_0 : decode cX3_isPrereleaseBeside 0 = .ok (.iload_n 0, 1) := by decide +kernel
theorem dX3_isPrereleaseBeside_1 : decode cX3_isPrereleaseBeside 1 = .ok (.invokestatic 56, 3) := by decide +kernel
set_option maxRecDepth 20000 in
theorem ggX3_isPrereleaseBeside_X7_isPrerelease : GoodIn wsX3_isPrereleaseBeside wsX7_isPrerelease := goodIn_r _ [3] (by decide +kernel) (by decide +kernel)
set_option maxRecDepth 20000 in
theorem gX3_isPrereleaseBeside_X7_isPrerelease_n56 : GoodIn wsX3_isPrereleaseBeside (wsX7_isPrerelease) := ggX3_isPrereleaseBeside_X7_isPrerelease
theorem yY_X7_isPrerelease : jY yX7_isPrerelease wsX7_isPrerelease cX7_isPrerelease 1 (some .boolean) 1 := ⟨⟨_, rfl⟩, by decide +kernel, by decide +kernel, by decide +kernel⟩
theorem jnw_X3_isPrereleaseBeside_56 : Cond.methodLinkNest RX3 56 yX7_isPrerelease "VersionAlgebra" ∈ jNws := List.mem_filter.mpr ⟨by decide +kernel, rfl⟩
theorem dX3_isPrereleaseBeside_4 : decode cX3_isPrereleaseBeside 4 = .ok (.ifCond .eq 18, 3) := by decide +kernel
theorem dX3_isPrereleaseBeside_22 : decode cX3_isPrereleaseBeside 22 = .ok (.iconst 0, 1) := by decide +kernel
theorem dX3_isPrereleaseBeside_23 : decode cX3_isPrereleaseBeside 23 = .ok (.ireturn, 1) := by decide +kernel
theorem dX3_isPrereleaseBeside_7 : decode cX3_isPrereleaseBeside 7 = .ok (.iload_n 0, 1) := by decide +kernel
theorem dX3_isPrereleaseBeside_8 : decode cX3_isPrereleaseBeside 8 = .ok (.bipush 100, 2) := by decide +kernel
theorem dX3_isPrereleaseBeside_10 : decode cX3_isPrereleaseBeside 10 = .ok (.idiv, 1) := by decide +kernel
theorem dX3_isPrereleaseBeside_11 : decode cX3_isPrereleaseBeside 11 = .ok (.iload_n 1, 1) := by decide +kernel
theorem dX3_isPrereleaseBeside_12 : decode cX3_isPrereleaseBeside 12 = .ok (.bipush 100, 2) := by decide +kernel
theorem dX3_isPrereleaseBeside_14 : decode cX3_isPrereleaseBeside 14 = .ok (.idiv, 1) := by decide +kernel
theorem dX3_isPrereleaseBeside_15 : decode cX3_isPrereleaseBeside 15 = .ok (.if_icmp .ne 7, 3) := by decide +kernel
theorem dX3_isPrereleaseBeside_18 : decode cX3_isPrereleaseBeside 18 = .ok (.iconst 1, 1) := by decide +kernel
theorem dX3_isPrereleaseBeside_19 : decode cX3_isPrereleaseBeside 19 = .ok (.goto 4, 3) := by decide +kernel
set_option maxHeartbeats 2000000 in
set_option maxRecDepth 20000 in
theorem ct_X3_isPrereleaseBeside (l : Launch) (D : va_G) (dA : Nat → ClassId) (hst : l.stackTraces = false) (M : jM) (e x : Int32) : jCT l D dA yX3_isPrereleaseBeside wsX3_isPrereleaseBeside (21) (360) (0) (0) 1 [.int (e), .int (x)] M (jPo (oI (jb (vBeside e x))) (M)) := by
  refine jBody (cc := cX3_isPrereleaseBeside) (nL := 2) (rt := (some .boolean)) (ini := false) (by decide) rfl hst (Nat.le_of_ble_eq_true rfl) (by simp [Value.category]) (by intro h9; first | exact absurd h9 (by decide) | rfl) ?_
  show J l D dA RX3 cX3_isPrereleaseBeside wsX3_isPrereleaseBeside 2 false (some .boolean) [] (21) (360) (jF D dA (jn M) (jPo (oI (jb (vBeside e x))) (M)) 1) (jn M) (0) (0) (M) 0 [.int (e), .int (x)] []
  refine J_iload_n dX3_isPrereleaseBeside_0 rfl rfl ?_
  refine J_calli0 (jrunSN (As := [.int (e)]) (ct_X7_isPrerelease l D dA hst M ((e))) dX3_isPrereleaseBeside_1 yY_X7_isPrerelease gX3_isPrereleaseBeside_X7_isPrerelease_n56 (List.mem_of_getElem? (i := 2) rfl) jnw_X3_isPrereleaseBeside_56 (List.mem_of_getElem? (i := 1) rfl) rfl ⟨by omega, by omega⟩ ⟨Nat.zero_le _, Nat.zero_le _⟩ rfl (Nat.le_of_ble_eq_true rfl)) (rfl) (rfl) ?_
  refine J_if_eq dX3_isPrereleaseBeside_4 (tgt := 22) (by decide) (fun c4 => ?_) (fun c4 => ?_)
  · have c4 := jb0T c4
    refine J_iconst (x := 0) dX3_isPrereleaseBeside_22 (by decide) ?_
    exact J_iret (ty := .boolean) dX3_isPrereleaseBeside_23 rfl (by rfl) ⟨(by simp [jb, vBeside, *]), (by rfl)⟩
  · have c4 := jb0F c4
    refine J_iload_n dX3_isPrereleaseBeside_7 rfl rfl ?_
    refine J_bipush (x := 100) dX3_isPrereleaseBeside_8 (by decide) ?_
    refine J_idiv dX3_isPrereleaseBeside_10 (by decide) ?_
    refine J_iload_n dX3_isPrereleaseBeside_11 rfl rfl ?_
    refine J_bipush (x := 100) dX3_isPrereleaseBeside_12 (by decide) ?_
    refine J_idiv dX3_isPrereleaseBeside_14 (by decide) ?_
    refine J_icmp_ne dX3_isPrereleaseBeside_15 (tgt := 22) (by decide) (fun c15 => ?_) (fun c15 => ?_)
    · refine J_iconst (x := 0) dX3_isPrereleaseBeside_22 (by decide) ?_
      exact J_iret (ty := .boolean) dX3_isPrereleaseBeside_23 rfl (by rfl) ⟨(by simp [jb, vBeside, *]), (by rfl)⟩
    · refine J_iconst (x := 1) dX3_isPrereleaseBeside_18 (by decide) ?_
      refine J_goto (tgt := 23) dX3_isPrereleaseBeside_19 (by decide) ?_
      exact J_iret (ty := .boolean) dX3_isPrereleaseBeside_23 rfl (by rfl) ⟨(by simp [jb, vBeside, *]), (by rfl)⟩

theorem dX3_holdsFor_0 : decode cX3_holdsFor 0 = .ok (.aload_n 0, 1) := by decide +kernel
theorem dX3_holdsFor_1 : decode cX3_holdsFor 1 = .ok (.iload_n 2, 1) := by decide +kernel
theorem dX3_holdsFor_2 : decode cX3_holdsFor 2 = .ok (.invokevirtual 33, 3) := by decide +kernel
set_option maxRecDepth 20000 in
theorem ggX3_holdsFor_X3_holds : GoodIn wsX3_holdsFor wsX3_holds := goodIn_ca (goodIn_r _ [5, 6, 7, 8, 4, 9, 10, 11, 12, 13, 14, 15, 16, 17, 18, 29] (by decide +kernel) (by decide +kernel)) (goodIn_sub (fun _ h => List.mem_cons_of_mem _ (List.mem_append_right _ h)) (by decide +kernel))
set_option maxRecDepth 20000 in
theorem gX3_holdsFor_X3_holds : GoodIn wsX3_holdsFor (wsV RX3 33 RX3 yX3_holds wsX3_holds) := goodIn_app (goodIn_of _ (by decide +kernel)) ggX3_holdsFor_X3_holds
theorem yY_X3_holds : jY yX3_holds wsX3_holds cX3_holds 3 (some .boolean) 1 := ⟨⟨_, rfl⟩, by decide +kernel, by decide +kernel, by decide +kernel⟩
theorem dX3_holdsFor_5 : decode cX3_holdsFor 5 = .ok (.ifCond .ne 5, 3) := by decide +kernel
theorem dX3_holdsFor_10 : decode cX3_holdsFor 10 = .ok (.iload_n 1, 1) := by decide +kernel
theorem dX3_holdsFor_11 : decode cX3_holdsFor 11 = .ok (.ifCond .eq 10, 3) := by decide +kernel
theorem dX3_holdsFor_21 : decode cX3_holdsFor 21 = .ok (.iconst 1, 1) := by decide +kernel
theorem dX3_holdsFor_22 : decode cX3_holdsFor 22 = .ok (.ireturn, 1) := by decide +kernel
theorem dX3_holdsFor_14 : decode cX3_holdsFor 14 = .ok (.iload_n 2, 1) := by decide +kernel
theorem dX3_holdsFor_15 : decode cX3_holdsFor 15 = .ok (.invokestatic 56, 3) := by decide +kernel
set_option maxRecDepth 20000 in
theorem ggX3_holdsFor_X7_isPrerelease : GoodIn wsX3_holdsFor wsX7_isPrerelease := goodIn_r _ [21] (by decide +kernel) (by decide +kernel)
set_option maxRecDepth 20000 in
theorem gX3_holdsFor_X7_isPrerelease_n56 : GoodIn wsX3_holdsFor (wsX7_isPrerelease) := ggX3_holdsFor_X7_isPrerelease
theorem jnw_X3_holdsFor_56 : Cond.methodLinkNest RX3 56 yX7_isPrerelease "VersionAlgebra" ∈ jNws := List.mem_filter.mpr ⟨by decide +kernel, rfl⟩
theorem dX3_holdsFor_18 : decode cX3_holdsFor 18 = .ok (.ifCond .ne 5, 3) := by decide +kernel
theorem dX3_holdsFor_23 : decode cX3_holdsFor 23 = .ok (.aload_n 0, 1) := by decide +kernel
theorem dX3_holdsFor_24 : decode cX3_holdsFor 24 = .ok (.iload_n 2, 1) := by decide +kernel
theorem dX3_holdsFor_25 : decode cX3_holdsFor 25 = .ok (.invokevirtual 53, 3) := by decide +kernel
set_option maxRecDepth 20000 in
theorem ggX3_holdsFor_X3_spanFrom : GoodIn wsX3_holdsFor wsX3_spanFrom := goodIn_ca (goodIn_r _ [9, 10, 29] (by decide +kernel) (by decide +kernel)) (goodIn_sub (fun _ h => List.mem_cons_of_mem _ (List.mem_append_right _ h)) (by decide +kernel))
set_option maxRecDepth 20000 in
theorem gX3_holdsFor_X3_spanFrom : GoodIn wsX3_holdsFor (wsV RX3 53 RX3 yX3_spanFrom wsX3_spanFrom) := goodIn_app (goodIn_of _ (by decide +kernel)) ggX3_holdsFor_X3_spanFrom
theorem dX3_holdsFor_28 : decode cX3_holdsFor 28 = .ok (.istore_n 3, 1) := by decide +kernel
theorem dX3_holdsFor_29 : decode cX3_holdsFor 29 = .ok (.aload_n 0, 1) := by decide +kernel
theorem dX3_holdsFor_30 : decode cX3_holdsFor 30 = .ok (.iload_n 3, 1) := by decide +kernel
theorem dX3_holdsFor_31 : decode cX3_holdsFor 31 = .ok (.invokevirtual 47, 3) := by decide +kernel
set_option maxRecDepth 20000 in
theorem ggX3_holdsFor_X3_firstOf : GoodIn wsX3_holdsFor wsX3_firstOf := goodIn_ca (goodIn_r _ [18, 10, 11, 12, 13, 4, 14, 29] (by decide +kernel) (by decide +kernel)) (goodIn_sub (fun _ h => List.mem_cons_of_mem _ (List.mem_append_right _ h)) (by decide +kernel))
set_option maxRecDepth 20000 in
theorem gX3_holdsFor_X3_firstOf : GoodIn wsX3_holdsFor (wsV RX3 47 RX3 yX3_firstOf wsX3_firstOf) := goodIn_app (goodIn_of _ (by decide +kernel)) ggX3_holdsFor_X3_firstOf
theorem dX3_holdsFor_34 : decode cX3_holdsFor 34 = .ok (.iload_n 2, 1) := by decide +kernel
theorem dX3_holdsFor_35 : decode cX3_holdsFor 35 = .ok (.invokestatic 59, 3) := by decide +kernel
set_option maxRecDepth 20000 in
theorem ggX3_holdsFor_X3_isPrereleaseBeside : GoodIn wsX3_holdsFor wsX3_isPrereleaseBeside := goodIn_r _ [24, 19, 20, 21] (by decide +kernel) (by decide +kernel)
set_option maxRecDepth 20000 in
theorem gX3_holdsFor_X3_isPrereleaseBeside : GoodIn wsX3_holdsFor (va_wsS RX3 59 yX3_isPrereleaseBeside wsX3_isPrereleaseBeside) := goodIn_app (goodIn_of _ (by decide +kernel)) ggX3_holdsFor_X3_isPrereleaseBeside
theorem yY_X3_isPrereleaseBeside : jY yX3_isPrereleaseBeside wsX3_isPrereleaseBeside cX3_isPrereleaseBeside 2 (some .boolean) 2 := ⟨⟨_, rfl⟩, by decide +kernel, by decide +kernel, by decide +kernel⟩
theorem dX3_holdsFor_38 : decode cX3_holdsFor 38 = .ok (.ifCond .ne 15, 3) := by decide +kernel
theorem dX3_holdsFor_53 : decode cX3_holdsFor 53 = .ok (.iconst 1, 1) := by decide +kernel
theorem dX3_holdsFor_54 : decode cX3_holdsFor 54 = .ok (.goto 4, 3) := by decide +kernel
theorem dX3_holdsFor_58 : decode cX3_holdsFor 58 = .ok (.ireturn, 1) := by decide +kernel
theorem dX3_holdsFor_41 : decode cX3_holdsFor 41 = .ok (.aload_n 0, 1) := by decide +kernel
theorem dX3_holdsFor_42 : decode cX3_holdsFor 42 = .ok (.iload_n 3, 1) := by decide +kernel
theorem dX3_holdsFor_43 : decode cX3_holdsFor 43 = .ok (.invokevirtual 50, 3) := by decide +kernel
set_option maxRecDepth 20000 in
theorem ggX3_holdsFor_X3_lastOf : GoodIn wsX3_holdsFor wsX3_lastOf := goodIn_ca (goodIn_r _ [28, 10, 11, 12, 13, 4, 14, 29] (by decide +kernel) (by decide +kernel)) (goodIn_sub (fun _ h => List.mem_cons_of_mem _ (List.mem_append_right _ h)) (by decide +kernel))
set_option maxRecDepth 20000 in
theorem gX3_holdsFor_X3_lastOf : GoodIn wsX3_holdsFor (wsV RX3 50 RX3 yX3_lastOf wsX3_lastOf) := goodIn_app (goodIn_of _ (by decide +kernel)) ggX3_holdsFor_X3_lastOf
theorem yY_X3_lastOf : jY yX3_lastOf wsX3_lastOf cX3_lastOf 2 (some .int) 1 := ⟨⟨_, rfl⟩, by decide +kernel, by decide +kernel, by decide +kernel⟩
theorem dX3_holdsFor_46 : decode cX3_holdsFor 46 = .ok (.iload_n 2, 1) := by decide +kernel
theorem dX3_holdsFor_47 : decode cX3_holdsFor 47 = .ok (.invokestatic 59, 3) := by decide +kernel
theorem dX3_holdsFor_50 : decode cX3_holdsFor 50 = .ok (.ifCond .eq 7, 3) := by decide +kernel
theorem dX3_holdsFor_57 : decode cX3_holdsFor 57 = .ok (.iconst 0, 1) := by decide +kernel
theorem dX3_holdsFor_8 : decode cX3_holdsFor 8 = .ok (.iconst 0, 1) := by decide +kernel
theorem dX3_holdsFor_9 : decode cX3_holdsFor 9 = .ok (.ireturn, 1) := by decide +kernel
set_option maxHeartbeats 2000000 in
set_option maxRecDepth 20000 in
theorem ct_X3_holdsFor (l : Launch) (D : va_G) (dA : Nat → ClassId) (hst : l.stackTraces = false) (M : jM) (t n : Nat) (hR : jRg M t n) (c : Bool) (x : Int32) : jCT l D dA yX3_holdsFor wsX3_holdsFor (23) (480) (0) (0) 1 [.ref (t), .int (jb (c)), .int (x)] M (jPo (oI (jb (rHoldsFor (ji M (t + 1)) n c x))) (M)) := by
  refine jBody (cc := cX3_holdsFor) (nL := 4) (rt := (some .boolean)) (ini := false) (by decide) rfl hst (Nat.le_of_ble_eq_true rfl) (by simp [Value.category]) (by intro h9; first | exact absurd h9 (by decide) | rfl) ?_
  show J l D dA RX3 cX3_holdsFor wsX3_holdsFor 4 false (some .boolean) [] (23) (480) (jF D dA (jn M) (jPo (oI (jb (rHoldsFor (ji M (t + 1)) n c x))) (M)) 1) (jn M) (0) (0) (M) 0 [.ref (t), .int (jb (c)), .int (x), .float 0] []
  obtain ⟨h1, h2, h3, h4, h5, h6⟩ := id hR
  have hsn := rsf_le (ji M (t + 1)) n x
  refine J_aload_n (t) dX3_holdsFor_0 rfl rfl ?_
  refine J_iload_n dX3_holdsFor_1 rfl rfl ?_
  refine J_calli0 (jrunV (As := [.int (x)]) (ct_X3_holds l D dA hst M t n hR ((x))) dX3_holdsFor_2 yY_X3_holds gX3_holdsFor_X3_holds rfl cs7 (Nat.lt_of_succ_lt h1) h2 rfl ⟨by omega, by omega⟩ ⟨Nat.zero_le _, Nat.zero_le _⟩ rfl (Nat.le_of_ble_eq_true rfl)) (rfl) (rfl) ?_
  refine J_if_ne dX3_holdsFor_5 (tgt := 10) (by decide) (fun c5 => ?_) (fun c5 => ?_)
  · have c5 := jb0F c5
    refine J_iload_n dX3_holdsFor_10 rfl rfl ?_
    refine J_if_eq dX3_holdsFor_11 (tgt := 21) (by decide) (fun c11 => ?_) (fun c11 => ?_)
    · have c11 := jb0T c11
      refine J_iconst (x := 1) dX3_holdsFor_21 (by decide) ?_
      exact J_iret (ty := .boolean) dX3_holdsFor_22 rfl (by rfl) ⟨(by simp [jb, rHoldsFor, *]), (by rfl)⟩
    · have c11 := jb0F c11
      refine J_iload_n dX3_holdsFor_14 rfl rfl ?_
      refine J_calli0 (jrunSN (As := [.int (x)]) (ct_X7_isPrerelease l D dA hst M ((x))) dX3_holdsFor_15 yY_X7_isPrerelease gX3_holdsFor_X7_isPrerelease_n56 (List.mem_of_getElem? (i := 20) rfl) jnw_X3_holdsFor_56 (List.mem_of_getElem? (i := 19) rfl) rfl ⟨by omega, by omega⟩ ⟨Nat.zero_le _, Nat.zero_le _⟩ rfl (Nat.le_of_ble_eq_true rfl)) (rfl) (rfl) ?_
      refine J_if_ne dX3_holdsFor_18 (tgt := 23) (by decide) (fun c18 => ?_) (fun c18 => ?_)
      · have c18 := jb0F c18
        refine J_aload_n (t) dX3_holdsFor_23 rfl rfl ?_
        refine J_iload_n dX3_holdsFor_24 rfl rfl ?_
        refine J_calli0 (jrunV (As := [.int (x)]) (ct_X3_spanFrom l D dA hst M t n hR ((x))) dX3_holdsFor_25 yY_X3_spanFrom gX3_holdsFor_X3_spanFrom rfl cs7 (Nat.lt_of_succ_lt h1) h2 rfl ⟨by omega, by omega⟩ ⟨Nat.zero_le _, Nat.zero_le _⟩ rfl (Nat.le_of_ble_eq_true rfl)) (rfl) (rfl) ?_
        refine J_istore_n (lv' := [.ref (t), .int (jb (c)), .int (x), .int (nI (rsf (ji M (t + 1)) n ((x))))]) dX3_holdsFor_28 rfl (by decide) rfl rfl ?_
        refine J_aload_n (t) dX3_holdsFor_29 rfl rfl ?_
        refine J_iload_n dX3_holdsFor_30 rfl rfl ?_
        refine J_calli0 (jrunV (As := [.int (nI (rsf (ji M (t + 1)) n ((x))))]) (ct_X3_firstOf l D dA hst M t n hR (rsf (ji M (t + 1)) n ((x))) (by omega)) dX3_holdsFor_31 yY_X3_firstOf gX3_holdsFor_X3_firstOf rfl cs7 (Nat.lt_of_succ_lt h1) h2 rfl ⟨by omega, by omega⟩ ⟨Nat.zero_le _, Nat.zero_le _⟩ rfl (Nat.le_of_ble_eq_true rfl)) (rfl) (rfl) ?_
        refine J_iload_n dX3_holdsFor_34 rfl rfl ?_
        refine J_calli0 (jrunS (As := [.int (rFirst (ji M (t + 1)) n (rsf (ji M (t + 1)) n ((x)))), .int (x)]) (ct_X3_isPrereleaseBeside l D dA hst M ((rFirst (ji M (t + 1)) n (rsf (ji M (t + 1)) n ((x))))) ((x))) dX3_holdsFor_35 yY_X3_isPrereleaseBeside gX3_holdsFor_X3_isPrereleaseBeside rfl ⟨by omega, by omega⟩ ⟨Nat.zero_le _, Nat.zero_le _⟩ rfl (Nat.le_of_ble_eq_true rfl)) (rfl) (rfl) ?_
        refine J_if_ne dX3_holdsFor_38 (tgt := 53) (by decide) (fun c38 => ?_) (fun c38 => ?_)
        · have c38 := jb0F c38
          refine J_iconst (x := 1) dX3_holdsFor_53 (by decide) ?_
          refine J_goto (tgt := 58) dX3_holdsFor_54 (by decide) ?_
          exact J_iret (ty := .boolean) dX3_holdsFor_58 rfl (by rfl) ⟨(by simp [jb, rHoldsFor, *]), (by rfl)⟩
        · have c38 := jb0T c38
          refine J_aload_n (t) dX3_holdsFor_41 rfl rfl ?_
          refine J_iload_n dX3_holdsFor_42 rfl rfl ?_
          refine J_calli0 (jrunV (As := [.int (nI (rsf (ji M (t + 1)) n ((x))))]) (ct_X3_lastOf l D dA hst M t n hR (rsf (ji M (t + 1)) n ((x))) (by omega)) dX3_holdsFor_43 yY_X3_lastOf gX3_holdsFor_X3_lastOf rfl cs7 (Nat.lt_of_succ_lt h1) h2 rfl ⟨by omega, by omega⟩ ⟨Nat.zero_le _, Nat.zero_le _⟩ rfl (Nat.le_of_ble_eq_true rfl)) (rfl) (rfl) ?_
          refine J_iload_n dX3_holdsFor_46 rfl rfl ?_
          refine J_calli0 (jrunS (As := [.int (rLast (ji M (t + 1)) n (rsf (ji M (t + 1)) n ((x)))), .int (x)]) (ct_X3_isPrereleaseBeside l D dA hst M ((rLast (ji M (t + 1)) n (rsf (ji M (t + 1)) n ((x))))) ((x))) dX3_holdsFor_47 yY_X3_isPrereleaseBeside gX3_holdsFor_X3_isPrereleaseBeside rfl ⟨by omega, by omega⟩ ⟨Nat.zero_le _, Nat.zero_le _⟩ rfl (Nat.le_of_ble_eq_true rfl)) (rfl) (rfl) ?_
          refine J_if_eq dX3_holdsFor_50 (tgt := 57) (by decide) (fun c50 => ?_) (fun c50 => ?_)
          · have c50 := jb0T c50
            refine J_iconst (x := 0) dX3_holdsFor_57 (by decide) ?_
            exact J_iret (ty := .boolean) dX3_holdsFor_58 rfl (by rfl) ⟨(by simp [jb, rHoldsFor, *]), (by rfl)⟩
          · have c50 := jb0F c50
            refine J_iconst (x := 1) dX3_holdsFor_53 (by decide) ?_
            refine J_goto (tgt := 58) dX3_holdsFor_54 (by decide) ?_
            exact J_iret (ty := .boolean) dX3_holdsFor_58 rfl (by rfl) ⟨(by simp [jb, rHoldsFor, *]), (by rfl)⟩
      · have c18 := jb0T c18
        refine J_iconst (x := 1) dX3_holdsFor_21 (by decide) ?_
        exact J_iret (ty := .boolean) dX3_holdsFor_22 rfl (by rfl) ⟨(by simp [jb, rHoldsFor, *]), (by rfl)⟩
  · have c5 := jb0T c5
    refine J_iconst (x := 0) dX3_holdsFor_8 (by decide) ?_
    exact J_iret (ty := .boolean) dX3_holdsFor_9 rfl (by rfl) ⟨(by simp [jb, rHoldsFor, *]), (by rfl)⟩

theorem dX3_leastFrom_0 : decode cX3_leastFrom 0 = .ok (.aload_n 0, 1) := by decide +kernel
theorem dX3_leastFrom_1 : decode cX3_leastFrom 1 = .ok (.iload_n 1, 1) := by decide +kernel
theorem dX3_leastFrom_2 : decode cX3_leastFrom 2 = .ok (.invokevirtual 53, 3) := by decide +kernel
set_option maxRecDepth 20000 in
theorem ggX3_leastFrom_X3_spanFrom : GoodIn wsX3_leastFrom wsX3_spanFrom := goodIn_ca (goodIn_r _ [9, 10, 19] (by decide +kernel) (by decide +kernel)) (goodIn_sub (fun _ h => List.mem_cons_of_mem _ (List.mem_append_right _ h)) (by decide +kernel))
set_option maxRecDepth 20000 in
theorem gX3_leastFrom_X3_spanFrom : GoodIn wsX3_leastFrom (wsV RX3 53 RX3 yX3_spanFrom wsX3_spanFrom) := goodIn_app (goodIn_of _ (by decide +kernel)) ggX3_leastFrom_X3_spanFrom
theorem dX3_leastFrom_5 : decode cX3_leastFrom 5 = .ok (.istore_n 2, 1) := by decide +kernel
theorem dX3_leastFrom_6 : decode cX3_leastFrom 6 = .ok (.iload_n 2, 1) := by decide +kernel
theorem dX3_leastFrom_7 : decode cX3_leastFrom 7 = .ok (.aload_n 0, 1) := by decide +kernel
theorem dX3_leastFrom_8 : decode cX3_leastFrom 8 = .ok (.invokevirtual 18, 3) := by decide +kernel
set_option maxRecDepth 20000 in
theorem ggX3_leastFrom_X3_spanCount : GoodIn wsX3_leastFrom wsX3_spanCount := goodIn_r _ [14, 10, 19] (by decide +kernel) (by decide +kernel)
set_option maxRecDepth 20000 in
theorem gX3_leastFrom_X3_spanCount : GoodIn wsX3_leastFrom (wsV RX3 18 RX3 yX3_spanCount wsX3_spanCount) := goodIn_app (goodIn_of _ (by decide +kernel)) ggX3_leastFrom_X3_spanCount
theorem dX3_leastFrom_11 : decode cX3_leastFrom 11 = .ok (.if_icmp .ge 15, 3) := by decide +kernel
theorem dX3_leastFrom_26 : decode cX3_leastFrom 26 = .ok (.iconst (-1), 1) := by decide +kernel
theorem dX3_leastFrom_27 : decode cX3_leastFrom 27 = .ok (.ireturn, 1) := by decide +kernel
theorem dX3_leastFrom_14 : decode cX3_leastFrom 14 = .ok (.iload_n 1, 1) := by decide +kernel
theorem dX3_leastFrom_15 : decode cX3_leastFrom 15 = .ok (.aload_n 0, 1) := by decide +kernel
theorem dX3_leastFrom_16 : decode cX3_leastFrom 16 = .ok (.iload_n 2, 1) := by decide +kernel
theorem dX3_leastFrom_17 : decode cX3_leastFrom 17 = .ok (.invokevirtual 47, 3) := by decide +kernel
set_option maxRecDepth 20000 in
theorem ggX3_leastFrom_X3_firstOf : GoodIn wsX3_leastFrom wsX3_firstOf := goodIn_ca (goodIn_r _ [18, 10, 11, 12, 13, 8, 14, 19] (by decide +kernel) (by decide +kernel)) (goodIn_sub (fun _ h => List.mem_cons_of_mem _ (List.mem_append_right _ h)) (by decide +kernel))
set_option maxRecDepth 20000 in
theorem gX3_leastFrom_X3_firstOf : GoodIn wsX3_leastFrom (wsV RX3 47 RX3 yX3_firstOf wsX3_firstOf) := goodIn_app (goodIn_of _ (by decide +kernel)) ggX3_leastFrom_X3_firstOf
theorem dX3_leastFrom_20 : decode cX3_leastFrom 20 = .ok (.invokestatic 63, 3) := by decide +kernel
theorem dX3_leastFrom_23 : decode cX3_leastFrom 23 = .ok (.goto 4, 3) := by decide +kernel
set_option maxHeartbeats 2000000 in
set_option maxRecDepth 20000 in
theorem ct_X3_leastFrom (l : Launch) (D : va_G) (dA : Nat → ClassId) (hst : l.stackTraces = false) (M : jM) (t n : Nat) (hR : jRg M t n) (x : Int32) : jCT l D dA yX3_leastFrom wsX3_leastFrom (22) (420) (0) (0) 1 [.ref (t), .int (x)] M (jPo (oI (rLeast (ji M (t + 1)) n x)) (M)) := by
  refine jBody (cc := cX3_leastFrom) (nL := 3) (rt := (some .int)) (ini := false) (by decide) rfl hst (Nat.le_of_ble_eq_true rfl) (by simp [Value.category]) (by intro h9; first | exact absurd h9 (by decide) | rfl) ?_
  show J l D dA RX3 cX3_leastFrom wsX3_leastFrom 3 false (some .int) [] (22) (420) (jF D dA (jn M) (jPo (oI (rLeast (ji M (t + 1)) n x)) (M)) 1) (jn M) (0) (0) (M) 0 [.ref (t), .int (x), .float 0] []
  obtain ⟨h1, h2, h3, h4, h5, h6⟩ := id hR
  have hsn := rsf_le (ji M (t + 1)) n x
  refine J_aload_n (t) dX3_leastFrom_0 rfl rfl ?_
  refine J_iload_n dX3_leastFrom_1 rfl rfl ?_
  refine J_calli0 (jrunV (As := [.int (x)]) (ct_X3_spanFrom l D dA hst M t n hR ((x))) dX3_leastFrom_2 yY_X3_spanFrom gX3_leastFrom_X3_spanFrom rfl cs7 (Nat.lt_of_succ_lt h1) h2 rfl ⟨by omega, by omega⟩ ⟨Nat.zero_le _, Nat.zero_le _⟩ rfl (Nat.le_of_ble_eq_true rfl)) (rfl) (rfl) ?_
  refine J_istore_n (lv' := [.ref (t), .int (x), .int (nI (rsf (ji M (t + 1)) n ((x))))]) dX3_leastFrom_5 rfl (by decide) rfl rfl ?_
  refine J_iload_n dX3_leastFrom_6 rfl rfl ?_
  refine J_aload_n (t) dX3_leastFrom_7 rfl rfl ?_
  refine J_calli0 (jrunV (As := []) (ct_X3_spanCount l D dA hst M t n hR) dX3_leastFrom_8 yY_X3_spanCount gX3_leastFrom_X3_spanCount rfl cs7 (Nat.lt_of_succ_lt h1) h2 rfl ⟨by omega, by omega⟩ ⟨Nat.zero_le _, Nat.zero_le _⟩ rfl (Nat.le_of_ble_eq_true rfl)) (rfl) (rfl) ?_
  refine J_icmp_ge dX3_leastFrom_11 (tgt := 26) (by decide) (fun c11 => ?_) (fun c11 => ?_)
  · have c11 := jleT (a := n) (b := rsf (ji M (t + 1)) n ((x))) (by omega) (by omega) c11
    refine J_iconst (x := (-1)) dX3_leastFrom_26 (by decide) ?_
    exact J_iret (ty := .int) dX3_leastFrom_27 rfl (rfl) ⟨(by first | (simp [rLeast, *]; done) | (simp [rLeast]; omega)), (by rfl)⟩
  · have c11 := jleF (a := n) (b := rsf (ji M (t + 1)) n ((x))) (by omega) (by omega) c11
    refine J_iload_n dX3_leastFrom_14 rfl rfl ?_
    refine J_aload_n (t) dX3_leastFrom_15 rfl rfl ?_
    refine J_iload_n dX3_leastFrom_16 rfl rfl ?_
    refine J_calli0 (jrunV (As := [.int (nI (rsf (ji M (t + 1)) n ((x))))]) (ct_X3_firstOf l D dA hst M t n hR (rsf (ji M (t + 1)) n ((x))) (by omega)) dX3_leastFrom_17 yY_X3_firstOf gX3_leastFrom_X3_firstOf rfl cs7 (Nat.lt_of_succ_lt h1) h2 rfl ⟨by omega, by omega⟩ ⟨Nat.zero_le _, Nat.zero_le _⟩ rfl (Nat.le_of_ble_eq_true rfl)) (rfl) (rfl) ?_
    refine J_mmax dX3_leastFrom_20 (List.mem_of_getElem? (i := 1) rfl) (List.mem_of_getElem? (i := 2) rfl) (List.mem_of_getElem? (i := 3) rfl) (List.mem_of_getElem? (i := 4) rfl) (Nat.le_of_ble_eq_true rfl) (by omega) (by omega) ?_
    refine J_goto (tgt := 27) dX3_leastFrom_23 (by decide) ?_
    exact J_iret (ty := .int) dX3_leastFrom_27 rfl (rfl) ⟨(by first | (simp [rLeast, *]; done) | (simp [rLeast]; omega)), (by rfl)⟩

theorem dX3_nextChange_0 : decode cX3_nextChange 0 = .ok (.aload_n 0, 1) := by decide +kernel
theorem dX3_nextChange_1 : decode cX3_nextChange 1 = .ok (.iload_n 1, 1) := by decide +kernel
theorem dX3_nextChange_2 : decode cX3_nextChange 2 = .ok (.invokevirtual 53, 3) := by decide +kernel
set_option maxRecDepth 20000 in
theorem ggX3_nextChange_X3_spanFrom : GoodIn wsX3_nextChange wsX3_spanFrom := goodIn_ca (goodIn_r _ [6, 7, 20] (by decide +kernel) (by decide +kernel)) (goodIn_sub (fun _ h => List.mem_cons_of_mem _ (List.mem_append_right _ h)) (by decide +kernel))
set_option maxRecDepth 20000 in
theorem gX3_nextChange_X3_spanFrom : GoodIn wsX3_nextChange (wsV RX3 53 RX3 yX3_spanFrom wsX3_spanFrom) := goodIn_app (goodIn_of _ (by decide +kernel)) ggX3_nextChange_X3_spanFrom
theorem dX3_nextChange_5 : decode cX3_nextChange 5 = .ok (.istore_n 2, 1) := by decide +kernel
theorem dX3_nextChange_6 : decode cX3_nextChange 6 = .ok (.iload_n 2, 1) := by decide +kernel
theorem dX3_nextChange_7 : decode cX3_nextChange 7 = .ok (.aload_n 0, 1) := by decide +kernel
theorem dX3_nextChange_8 : decode cX3_nextChange 8 = .ok (.invokevirtual 18, 3) := by decide +kernel
set_option maxRecDepth 20000 in
theorem ggX3_nextChange_X3_spanCount : GoodIn wsX3_nextChange wsX3_spanCount := goodIn_r _ [11, 7, 20] (by decide +kernel) (by decide +kernel)
set_option maxRecDepth 20000 in
theorem gX3_nextChange_X3_spanCount : GoodIn wsX3_nextChange (wsV RX3 18 RX3 yX3_spanCount wsX3_spanCount) := goodIn_app (goodIn_of _ (by decide +kernel)) ggX3_nextChange_X3_spanCount
theorem dX3_nextChange_11 : decode cX3_nextChange 11 = .ok (.if_icmp .ne 6, 3) := by decide +kernel
theorem dX3_nextChange_17 : decode cX3_nextChange 17 = .ok (.aload_n 0, 1) := by decide +kernel
theorem dX3_nextChange_18 : decode cX3_nextChange 18 = .ok (.iload_n 2, 1) := by decide +kernel
theorem dX3_nextChange_19 : decode cX3_nextChange 19 = .ok (.invokevirtual 47, 3) := by decide +kernel
set_option maxRecDepth 20000 in
theorem ggX3_nextChange_X3_firstOf : GoodIn wsX3_nextChange wsX3_firstOf := goodIn_ca (goodIn_r _ [15, 7, 8, 9, 10, 5, 11, 20] (by decide +kernel) (by decide +kernel)) (goodIn_sub (fun _ h => List.mem_cons_of_mem _ (List.mem_append_right _ h)) (by decide +kernel))
set_option maxRecDepth 20000 in
theorem gX3_nextChange_X3_firstOf : GoodIn wsX3_nextChange (wsV RX3 47 RX3 yX3_firstOf wsX3_firstOf) := goodIn_app (goodIn_of _ (by decide +kernel)) ggX3_nextChange_X3_firstOf
theorem dX3_nextChange_22 : decode cX3_nextChange 22 = .ok (.iload_n 1, 1) := by decide +kernel
theorem dX3_nextChange_23 : decode cX3_nextChange 23 = .ok (.if_icmp .le 11, 3) := by decide +kernel
theorem dX3_nextChange_34 : decode cX3_nextChange 34 = .ok (.aload_n 0, 1) := by decide +kernel
theorem dX3_nextChange_35 : decode cX3_nextChange 35 = .ok (.iload_n 2, 1) := by decide +kernel
theorem dX3_nextChange_36 : decode cX3_nextChange 36 = .ok (.invokevirtual 50, 3) := by decide +kernel
set_option maxRecDepth 20000 in
theorem ggX3_nextChange_X3_lastOf : GoodIn wsX3_nextChange wsX3_lastOf := goodIn_ca (goodIn_r _ [19, 7, 8, 9, 10, 5, 11, 20] (by decide +kernel) (by decide +kernel)) (goodIn_sub (fun _ h => List.mem_cons_of_mem _ (List.mem_append_right _ h)) (by decide +kernel))
set_option maxRecDepth 20000 in
theorem gX3_nextChange_X3_lastOf : GoodIn wsX3_nextChange (wsV RX3 50 RX3 yX3_lastOf wsX3_lastOf) := goodIn_app (goodIn_of _ (by decide +kernel)) ggX3_nextChange_X3_lastOf
theorem dX3_nextChange_39 : decode cX3_nextChange 39 = .ok (.iconst 1, 1) := by decide +kernel
theorem dX3_nextChange_40 : decode cX3_nextChange 40 = .ok (.iadd, 1) := by decide +kernel
theorem dX3_nextChange_41 : decode cX3_nextChange 41 = .ok (.ireturn, 1) := by decide +kernel
theorem dX3_nextChange_26 : decode cX3_nextChange 26 = .ok (.aload_n 0, 1) := by decide +kernel
theorem dX3_nextChange_27 : decode cX3_nextChange 27 = .ok (.iload_n 2, 1) := by decide +kernel
theorem dX3_nextChange_28 : decode cX3_nextChange 28 = .ok (.invokevirtual 47, 3) := by decide +kernel
theorem dX3_nextChange_31 : decode cX3_nextChange 31 = .ok (.goto 10, 3) := by decide +kernel
theorem dX3_nextChange_14 : decode cX3_nextChange 14 = .ok (.ldc 66, 2) := by decide +kernel
theorem dX3_nextChange_16 : decode cX3_nextChange 16 = .ok (.ireturn, 1) := by decide +kernel
set_option maxHeartbeats 2000000 in
set_option maxRecDepth 20000 in
theorem ct_X3_nextChange (l : Launch) (D : va_G) (dA : Nat → ClassId) (hst : l.stackTraces = false) (M : jM) (t n : Nat) (hR : jRg M t n) (x : Int32) : jCT l D dA yX3_nextChange wsX3_nextChange (22) (420) (0) (0) 1 [.ref (t), .int (x)] M (jPo (oI (rNext (ji M (t + 1)) n x)) (M)) := by
  refine jBody (cc := cX3_nextChange) (nL := 3) (rt := (some .int)) (ini := false) (by decide) rfl hst (Nat.le_of_ble_eq_true rfl) (by simp [Value.category]) (by intro h9; first | exact absurd h9 (by decide) | rfl) ?_
  show J l D dA RX3 cX3_nextChange wsX3_nextChange 3 false (some .int) [] (22) (420) (jF D dA (jn M) (jPo (oI (rNext (ji M (t + 1)) n x)) (M)) 1) (jn M) (0) (0) (M) 0 [.ref (t), .int (x), .float 0] []
  obtain ⟨h1, h2, h3, h4, h5, h6⟩ := id hR
  have hsn := rsf_le (ji M (t + 1)) n x
  refine J_aload_n (t) dX3_nextChange_0 rfl rfl ?_
  refine J_iload_n dX3_nextChange_1 rfl rfl ?_
  refine J_calli0 (jrunV (As := [.int (x)]) (ct_X3_spanFrom l D dA hst M t n hR ((x))) dX3_nextChange_2 yY_X3_spanFrom gX3_nextChange_X3_spanFrom rfl cs7 (Nat.lt_of_succ_lt h1) h2 rfl ⟨by omega, by omega⟩ ⟨Nat.zero_le _, Nat.zero_le _⟩ rfl (Nat.le_of_ble_eq_true rfl)) (rfl) (rfl) ?_
  refine J_istore_n (lv' := [.ref (t), .int (x), .int (nI (rsf (ji M (t + 1)) n ((x))))]) dX3_nextChange_5 rfl (by decide) rfl rfl ?_
  refine J_iload_n dX3_nextChange_6 rfl rfl ?_
  refine J_aload_n (t) dX3_nextChange_7 rfl rfl ?_
  refine J_calli0 (jrunV (As := []) (ct_X3_spanCount l D dA hst M t n hR) dX3_nextChange_8 yY_X3_spanCount gX3_nextChange_X3_spanCount rfl cs7 (Nat.lt_of_succ_lt h1) h2 rfl ⟨by omega, by omega⟩ ⟨Nat.zero_le _, Nat.zero_le _⟩ rfl (Nat.le_of_ble_eq_true rfl)) (rfl) (rfl) ?_
  refine J_icmp_ne dX3_nextChange_11 (tgt := 17) (by decide) (fun c11 => ?_) (fun c11 => ?_)
  · have c11 := jeqF (a := rsf (ji M (t + 1)) n ((x))) (b := n) (by omega) (by omega) c11
    refine J_aload_n (t) dX3_nextChange_17 rfl rfl ?_
    refine J_iload_n dX3_nextChange_18 rfl rfl ?_
    refine J_calli0 (jrunV (As := [.int (nI (rsf (ji M (t + 1)) n ((x))))]) (ct_X3_firstOf l D dA hst M t n hR (rsf (ji M (t + 1)) n ((x))) (by omega)) dX3_nextChange_19 yY_X3_firstOf gX3_nextChange_X3_firstOf rfl cs7 (Nat.lt_of_succ_lt h1) h2 rfl ⟨by omega, by omega⟩ ⟨Nat.zero_le _, Nat.zero_le _⟩ rfl (Nat.le_of_ble_eq_true rfl)) (rfl) (rfl) ?_
    refine J_iload_n dX3_nextChange_22 rfl rfl ?_
    refine J_icmp_le dX3_nextChange_23 (tgt := 34) (by decide) (fun c23 => ?_) (fun c23 => ?_)
    · refine J_aload_n (t) dX3_nextChange_34 rfl rfl ?_
      refine J_iload_n dX3_nextChange_35 rfl rfl ?_
      refine J_calli0 (jrunV (As := [.int (nI (rsf (ji M (t + 1)) n ((x))))]) (ct_X3_lastOf l D dA hst M t n hR (rsf (ji M (t + 1)) n ((x))) (by omega)) dX3_nextChange_36 yY_X3_lastOf gX3_nextChange_X3_lastOf rfl cs7 (Nat.lt_of_succ_lt h1) h2 rfl ⟨by omega, by omega⟩ ⟨Nat.zero_le _, Nat.zero_le _⟩ rfl (Nat.le_of_ble_eq_true rfl)) (rfl) (rfl) ?_
      refine J_iconst (x := 1) dX3_nextChange_39 (by decide) ?_
      refine J_iadd dX3_nextChange_40 ?_
      exact J_iret (ty := .int) dX3_nextChange_41 rfl (rfl) ⟨(by first | (simp [rNext, *]; done) | (simp [rNext, Int32.not_lt.mpr c23, c11])), (by rfl)⟩
    · refine J_aload_n (t) dX3_nextChange_26 rfl rfl ?_
      refine J_iload_n dX3_nextChange_27 rfl rfl ?_
      refine J_calli0 (jrunV (As := [.int (nI (rsf (ji M (t + 1)) n ((x))))]) (ct_X3_firstOf l D dA hst M t n hR (rsf (ji M (t + 1)) n ((x))) (by omega)) dX3_nextChange_28 yY_X3_firstOf gX3_nextChange_X3_firstOf rfl cs7 (Nat.lt_of_succ_lt h1) h2 rfl ⟨by omega, by omega⟩ ⟨Nat.zero_le _, Nat.zero_le _⟩ rfl (Nat.le_of_ble_eq_true rfl)) (rfl) (rfl) ?_
      refine J_goto (tgt := 41) dX3_nextChange_31 (by decide) ?_
      exact J_iret (ty := .int) dX3_nextChange_41 rfl (rfl) ⟨(by first | (simp [rNext, *]; done) | (simp [rNext, Int32.not_lt.mpr c23, c11])), (by rfl)⟩
  · have c11 := jeqT (a := rsf (ji M (t + 1)) n ((x))) (b := n) (by omega) (by omega) c11
    refine J_ldc (x := 100000000) dX3_nextChange_14 (List.mem_of_getElem? (i := 1) rfl) ?_
    exact J_iret (ty := .int) dX3_nextChange_16 rfl (rfl) ⟨(by first | (simp [rNext, *]; done) | (simp [rNext, Int32.not_lt.mpr c23, c11])), (by rfl)⟩

theorem dX3_isEmpty_0 : decode cX3_isEmpty 0 = .ok (.aload_n 0, 1) := by decide +kernel
theorem dX3_isEmpty_1 : decode cX3_isEmpty 1 = .ok (.getfield 9, 3) := by decide +kernel
theorem dX3_isEmpty_4 : decode cX3_isEmpty 4 = .ok (.arraylength, 1) := by decide +kernel
theorem dX3_isEmpty_5 : decode cX3_isEmpty 5 = .ok (.ifCond .ne 7, 3) := by decide +kernel
theorem dX3_isEmpty_12 : decode cX3_isEmpty 12 = .ok (.iconst 0, 1) := by decide +kernel
theorem dX3_isEmpty_13 : decode cX3_isEmpty 13 = .ok (.ireturn, 1) := by decide +kernel
theorem dX3_isEmpty_8 : decode cX3_isEmpty 8 = .ok (.iconst 1, 1) := by decide +kernel
theorem dX3_isEmpty_9 : decode cX3_isEmpty 9 = .ok (.goto 4, 3) := by decide +kernel
set_option maxHeartbeats 2000000 in
set_option maxRecDepth 20000 in
theorem ct_X3_isEmpty (l : Launch) (D : va_G) (dA : Nat → ClassId) (hst : l.stackTraces = false) (M : jM) (t n : Nat) (hR : jRg M t n) : jCT l D dA yX3_isEmpty wsX3_isEmpty (20) (300) (0) (0) 1 [.ref (t)] M (jPo (oI (jb (decide (n = 0)))) (M)) := by
  refine jBody (cc := cX3_isEmpty) (nL := 1) (rt := (some .boolean)) (ini := false) (by decide) rfl hst (Nat.le_of_ble_eq_true rfl) (by simp [Value.category]) (by intro h9; first | exact absurd h9 (by decide) | rfl) ?_
  show J l D dA RX3 cX3_isEmpty wsX3_isEmpty 1 false (some .boolean) [] (20) (300) (jF D dA (jn M) (jPo (oI (jb (decide (n = 0)))) (M)) 1) (jn M) (0) (0) (M) 0 [.ref (t)] []
  obtain ⟨h1, h2, h3, h4, h5, h6⟩ := id hR
  refine J_aload_n (t) dX3_isEmpty_0 rfl rfl ?_
  refine J_getrs (q := t + 1) h3 dX3_isEmpty_1 (fun _ h => List.mem_cons_of_mem _ (List.mem_append_right _ (h))) cs7 (by decide) rfl (List.mem_of_getElem? (i := 1) rfl) rfl (Nat.lt_of_succ_lt h1) h2 ?_
  refine J_alen (t := 2) dX3_isEmpty_4 h1 h4 rfl ?_
  refine J_topi (y := nI (2 * n)) (congrArg nI h5) ?_
  refine J_if_ne dX3_isEmpty_5 (tgt := 12) (by decide) (fun c5 => ?_) (fun c5 => ?_)
  · have c5 := jeqF (a := 2 * n) (b := 0) (by omega) (by omega) c5
    refine J_iconst (x := 0) dX3_isEmpty_12 (by decide) ?_
    exact J_iret (ty := .boolean) dX3_isEmpty_13 rfl (by rfl) ⟨(by first | (have : n = 0 := by omega); simp [jb, this]; done | (have : n ≠ 0 := by omega); simp [jb, this]), (by rfl)⟩
  · have c5 := jeqT (a := 2 * n) (b := 0) (by omega) (by omega) c5
    refine J_iconst (x := 1) dX3_isEmpty_8 (by decide) ?_
    refine J_goto (tgt := 13) dX3_isEmpty_9 (by decide) ?_
    exact J_iret (ty := .boolean) dX3_isEmpty_13 rfl (by rfl) ⟨(by first | (have : n = 0 := by omega); simp [jb, this]; done | (have : n ≠ 0 := by omega); simp [jb, this]), (by rfl)⟩

theorem dX3_isWhole_0 : decode cX3_isWhole 0 = .ok (.aload_n 0, 1) := by decide +kernel
theorem dX3_isWhole_1 : decode cX3_isWhole 1 = .ok (.invokevirtual 18, 3) := by decide +kernel
set_option maxRecDepth 20000 in
theorem ggX3_isWhole_X3_spanCount : GoodIn wsX3_isWhole wsX3_spanCount := goodIn_r _ [6, 7, 16] (by decide +kernel) (by decide +kernel)
set_option maxRecDepth 20000 in
theorem gX3_isWhole_X3_spanCount : GoodIn wsX3_isWhole (wsV RX3 18 RX3 yX3_spanCount wsX3_spanCount) := goodIn_app (goodIn_of _ (by decide +kernel)) ggX3_isWhole_X3_spanCount
theorem dX3_isWhole_4 : decode cX3_isWhole 4 = .ok (.iconst 1, 1) := by decide +kernel
theorem dX3_isWhole_5 : decode cX3_isWhole 5 = .ok (.if_icmp .ne 25, 3) := by decide +kernel
theorem dX3_isWhole_30 : decode cX3_isWhole 30 = .ok (.iconst 0, 1) := by decide +kernel
theorem dX3_isWhole_31 : decode cX3_isWhole 31 = .ok (.ireturn, 1) := by decide +kernel
theorem dX3_isWhole_8 : decode cX3_isWhole 8 = .ok (.aload_n 0, 1) := by decide +kernel
theorem dX3_isWhole_9 : decode cX3_isWhole 9 = .ok (.iconst 0, 1) := by decide +kernel
theorem dX3_isWhole_10 : decode cX3_isWhole 10 = .ok (.invokevirtual 47, 3) := by decide +kernel
set_option maxRecDepth 20000 in
theorem ggX3_isWhole_X3_firstOf : GoodIn wsX3_isWhole wsX3_firstOf := goodIn_ca (goodIn_r _ [11, 7, 2, 3, 4, 5, 6, 16] (by decide +kernel) (by decide +kernel)) (goodIn_sub (fun _ h => List.mem_cons_of_mem _ (List.mem_append_right _ h)) (by decide +kernel))
set_option maxRecDepth 20000 in
theorem gX3_isWhole_X3_firstOf : GoodIn wsX3_isWhole (wsV RX3 47 RX3 yX3_firstOf wsX3_firstOf) := goodIn_app (goodIn_of _ (by decide +kernel)) ggX3_isWhole_X3_firstOf
theorem dX3_isWhole_13 : decode cX3_isWhole 13 = .ok (.ifCond .ne 17, 3) := by decide +kernel
theorem dX3_isWhole_16 : decode cX3_isWhole 16 = .ok (.aload_n 0, 1) := by decide +kernel
theorem dX3_isWhole_17 : decode cX3_isWhole 17 = .ok (.iconst 0, 1) := by decide +kernel
theorem dX3_isWhole_18 : decode cX3_isWhole 18 = .ok (.invokevirtual 50, 3) := by decide +kernel
set_option maxRecDepth 20000 in
theorem ggX3_isWhole_X3_lastOf : GoodIn wsX3_isWhole wsX3_lastOf := goodIn_ca (goodIn_r _ [15, 7, 2, 3, 4, 5, 6, 16] (by decide +kernel) (by decide +kernel)) (goodIn_sub (fun _ h => List.mem_cons_of_mem _ (List.mem_append_right _ h)) (by decide +kernel))
set_option maxRecDepth 20000 in
theorem gX3_isWhole_X3_lastOf : GoodIn wsX3_isWhole (wsV RX3 50 RX3 yX3_lastOf wsX3_lastOf) := goodIn_app (goodIn_of _ (by decide +kernel)) ggX3_isWhole_X3_lastOf
theorem dX3_isWhole_21 : decode cX3_isWhole 21 = .ok (.ldc 22, 2) := by decide +kernel
theorem dX3_isWhole_23 : decode cX3_isWhole 23 = .ok (.if_icmp .ne 7, 3) := by decide +kernel
theorem dX3_isWhole_26 : decode cX3_isWhole 26 = .ok (.iconst 1, 1) := by decide +kernel
theorem dX3_isWhole_27 : decode cX3_isWhole 27 = .ok (.goto 4, 3) := by decide +kernel
set_option maxHeartbeats 2000000 in
set_option maxRecDepth 20000 in
theorem ct_X3_isWhole (l : Launch) (D : va_G) (dA : Nat → ClassId) (hst : l.stackTraces = false) (M : jM) (t n : Nat) (hR : jRg M t n) : jCT l D dA yX3_isWhole wsX3_isWhole (22) (420) (0) (0) 1 [.ref (t)] M (jPo (oI (jb (rWhole (ji M (t + 1)) n))) (M)) := by
  refine jBody (cc := cX3_isWhole) (nL := 1) (rt := (some .boolean)) (ini := false) (by decide) rfl hst (Nat.le_of_ble_eq_true rfl) (by simp [Value.category]) (by intro h9; first | exact absurd h9 (by decide) | rfl) ?_
  show J l D dA RX3 cX3_isWhole wsX3_isWhole 1 false (some .boolean) [] (22) (420) (jF D dA (jn M) (jPo (oI (jb (rWhole (ji M (t + 1)) n))) (M)) 1) (jn M) (0) (0) (M) 0 [.ref (t)] []
  obtain ⟨h1, h2, h3, h4, h5, h6⟩ := id hR
  refine J_aload_n (t) dX3_isWhole_0 rfl rfl ?_
  refine J_calli0 (jrunV (As := []) (ct_X3_spanCount l D dA hst M t n hR) dX3_isWhole_1 yY_X3_spanCount gX3_isWhole_X3_spanCount rfl cs7 (Nat.lt_of_succ_lt h1) h2 rfl ⟨by omega, by omega⟩ ⟨Nat.zero_le _, Nat.zero_le _⟩ rfl (Nat.le_of_ble_eq_true rfl)) (rfl) (rfl) ?_
  refine J_iconst (x := 1) dX3_isWhole_4 (by decide) ?_
  refine J_icmp_ne dX3_isWhole_5 (tgt := 30) (by decide) (fun c5 => ?_) (fun c5 => ?_)
  · have c5 := jeqF (a := n) (b := 1) (by omega) (by omega) c5
    refine J_iconst (x := 0) dX3_isWhole_30 (by decide) ?_
    exact J_iret (ty := .boolean) dX3_isWhole_31 rfl (by rfl) ⟨(by first | (subst c5; simp [jb, rWhole, *]; done) | (simp [jb, rWhole, *]; done) | (simp [jb, rWhole]; omega)), (by rfl)⟩
  · have c5 := jeqT (a := n) (b := 1) (by omega) (by omega) c5
    refine J_aload_n (t) dX3_isWhole_8 rfl rfl ?_
    refine J_iconst (x := 0) dX3_isWhole_9 (by decide) ?_
    refine J_calli0 (jrunV (As := [.int (0)]) (ct_X3_firstOf l D dA hst M t n hR (0) (by omega)) dX3_isWhole_10 yY_X3_firstOf gX3_isWhole_X3_firstOf rfl cs7 (Nat.lt_of_succ_lt h1) h2 rfl ⟨by omega, by omega⟩ ⟨Nat.zero_le _, Nat.zero_le _⟩ rfl (Nat.le_of_ble_eq_true rfl)) (rfl) (rfl) ?_
    refine J_if_ne dX3_isWhole_13 (tgt := 30) (by decide) (fun c13 => ?_) (fun c13 => ?_)
    · refine J_iconst (x := 0) dX3_isWhole_30 (by decide) ?_
      exact J_iret (ty := .boolean) dX3_isWhole_31 rfl (by rfl) ⟨(by first | (subst c5; simp [jb, rWhole, *]; done) | (simp [jb, rWhole, *]; done) | (simp [jb, rWhole]; omega)), (by rfl)⟩
    · refine J_aload_n (t) dX3_isWhole_16 rfl rfl ?_
      refine J_iconst (x := 0) dX3_isWhole_17 (by decide) ?_
      refine J_calli0 (jrunV (As := [.int (0)]) (ct_X3_lastOf l D dA hst M t n hR (0) (by omega)) dX3_isWhole_18 yY_X3_lastOf gX3_isWhole_X3_lastOf rfl cs7 (Nat.lt_of_succ_lt h1) h2 rfl ⟨by omega, by omega⟩ ⟨Nat.zero_le _, Nat.zero_le _⟩ rfl (Nat.le_of_ble_eq_true rfl)) (rfl) (rfl) ?_
      refine J_ldc (x := 99999999) dX3_isWhole_21 (List.mem_of_getElem? (i := 1) rfl) ?_
      refine J_icmp_ne dX3_isWhole_23 (tgt := 30) (by decide) (fun c23 => ?_) (fun c23 => ?_)
      · refine J_iconst (x := 0) dX3_isWhole_30 (by decide) ?_
        exact J_iret (ty := .boolean) dX3_isWhole_31 rfl (by rfl) ⟨(by first | (subst c5; simp [jb, rWhole, *]; done) | (simp [jb, rWhole, *]; done) | (simp [jb, rWhole]; omega)), (by rfl)⟩
      · refine J_iconst (x := 1) dX3_isWhole_26 (by decide) ?_
        refine J_goto (tgt := 31) dX3_isWhole_27 (by decide) ?_
        exact J_iret (ty := .boolean) dX3_isWhole_31 rfl (by rfl) ⟨(by first | (subst c5; simp [jb, rWhole, *]; done) | (simp [jb, rWhole, *]; done) | (simp [jb, rWhole]; omega)), (by rfl)⟩

theorem dX3_isTooLong_0 : decode cX3_isTooLong 0 = .ok (.aload_n 0, 1) := by decide +kernel
theorem dX3_isTooLong_1 : decode cX3_isTooLong 1 = .ok (.invokevirtual 18, 3) := by decide +kernel
set_option maxRecDepth 20000 in
theorem ggX3_isTooLong_X3_spanCount : GoodIn wsX3_isTooLong wsX3_spanCount := goodIn_r _ [5, 6, 7] (by decide +kernel) (by decide +kernel)
set_option maxRecDepth 20000 in
theorem gX3_isTooLong_X3_spanCount : GoodIn wsX3_isTooLong (wsV RX3 18 RX3 yX3_spanCount wsX3_spanCount) := goodIn_app (goodIn_of _ (by decide +kernel)) ggX3_isTooLong_X3_spanCount
theorem dX3_isTooLong_4 : decode cX3_isTooLong 4 = .ok (.bipush 16, 2) := by decide +kernel
theorem dX3_isTooLong_6 : decode cX3_isTooLong 6 = .ok (.if_icmp .le 7, 3) := by decide +kernel
theorem dX3_isTooLong_13 : decode cX3_isTooLong 13 = .ok (.iconst 0, 1) := by decide +kernel
theorem dX3_isTooLong_14 : decode cX3_isTooLong 14 = .ok (.ireturn, 1) := by decide +kernel
theorem dX3_isTooLong_9 : decode cX3_isTooLong 9 = .ok (.iconst 1, 1) := by decide +kernel
theorem dX3_isTooLong_10 : decode cX3_isTooLong 10 = .ok (.goto 4, 3) := by decide +kernel
set_option maxHeartbeats 2000000 in
set_option maxRecDepth 20000 in
theorem ct_X3_isTooLong (l : Launch) (D : va_G) (dA : Nat → ClassId) (hst : l.stackTraces = false) (M : jM) (t n : Nat) (hR : jRg M t n) : jCT l D dA yX3_isTooLong wsX3_isTooLong (21) (360) (0) (0) 1 [.ref (t)] M (jPo (oI (jb (decide (16 < n)))) (M)) := by
  refine jBody (cc := cX3_isTooLong) (nL := 1) (rt := (some .boolean)) (ini := false) (by decide) rfl hst (Nat.le_of_ble_eq_true rfl) (by simp [Value.category]) (by intro h9; first | exact absurd h9 (by decide) | rfl) ?_
  show J l D dA RX3 cX3_isTooLong wsX3_isTooLong 1 false (some .boolean) [] (21) (360) (jF D dA (jn M) (jPo (oI (jb (decide (16 < n)))) (M)) 1) (jn M) (0) (0) (M) 0 [.ref (t)] []
  obtain ⟨h1, h2, h3, h4, h5, h6⟩ := id hR
  refine J_aload_n (t) dX3_isTooLong_0 rfl rfl ?_
  refine J_calli0 (jrunV (As := []) (ct_X3_spanCount l D dA hst M t n hR) dX3_isTooLong_1 yY_X3_spanCount gX3_isTooLong_X3_spanCount rfl cs7 (Nat.lt_of_succ_lt h1) h2 rfl ⟨by omega, by omega⟩ ⟨Nat.zero_le _, Nat.zero_le _⟩ rfl (Nat.le_of_ble_eq_true rfl)) (rfl) (rfl) ?_
  refine J_bipush (x := 16) dX3_isTooLong_4 (by decide) ?_
  refine J_icmp_le dX3_isTooLong_6 (tgt := 13) (by decide) (fun c6 => ?_) (fun c6 => ?_)
  · have c6 := jleT (a := n) (b := 16) (by omega) (by omega) c6
    refine J_iconst (x := 0) dX3_isTooLong_13 (by decide) ?_
    exact J_iret (ty := .boolean) dX3_isTooLong_14 rfl (by rfl) ⟨(by simp [jb]; omega), (by rfl)⟩
  · have c6 := jleF (a := n) (b := 16) (by omega) (by omega) c6
    refine J_iconst (x := 1) dX3_isTooLong_9 (by decide) ?_
    refine J_goto (tgt := 14) dX3_isTooLong_10 (by decide) ?_
    exact J_iret (ty := .boolean) dX3_isTooLong_14 rfl (by rfl) ⟨(by simp [jb]; omega), (by rfl)⟩

theorem dX3_versionCount_4 : decode cX3_versionCount 4 = .ok (.iload_n 2, 1) := by decide +kernel
theorem dX3_versionCount_5 : decode cX3_versionCount 5 = .ok (.aload_n 0, 1) := by decide +kernel
theorem dX3_versionCount_6 : decode cX3_versionCount 6 = .ok (.invokevirtual 18, 3) := by decide +kernel
set_option maxRecDepth 20000 in
theorem ggX3_versionCount_X3_spanCount : GoodIn wsX3_versionCount wsX3_spanCount := goodIn_r _ [5, 6, 15] (by decide +kernel) (by decide +kernel)
set_option maxRecDepth 20000 in
theorem gX3_versionCount_X3_spanCount : GoodIn wsX3_versionCount (wsV RX3 18 RX3 yX3_spanCount wsX3_spanCount) := goodIn_app (goodIn_of _ (by decide +kernel)) ggX3_versionCount_X3_spanCount
theorem dX3_versionCount_9 : decode cX3_versionCount 9 = .ok (.if_icmp .ge 25, 3) := by decide +kernel
theorem dX3_versionCount_34 : decode cX3_versionCount 34 = .ok (.iload_n 1, 1) := by decide +kernel
theorem dX3_versionCount_35 : decode cX3_versionCount 35 = .ok (.ireturn, 1) := by decide +kernel
theorem dX3_versionCount_12 : decode cX3_versionCount 12 = .ok (.iload_n 1, 1) := by decide +kernel
theorem dX3_versionCount_13 : decode cX3_versionCount 13 = .ok (.aload_n 0, 1) := by decide +kernel
theorem dX3_versionCount_14 : decode cX3_versionCount 14 = .ok (.iload_n 2, 1) := by decide +kernel
theorem dX3_versionCount_15 : decode cX3_versionCount 15 = .ok (.invokevirtual 50, 3) := by decide +kernel
set_option maxRecDepth 20000 in
theorem ggX3_versionCount_X3_lastOf : GoodIn wsX3_versionCount wsX3_lastOf := goodIn_ca (goodIn_r _ [10, 6, 1, 2, 3, 4, 5, 15] (by decide +kernel) (by decide +kernel)) (goodIn_sub (fun _ h => List.mem_cons_of_mem _ (List.mem_append_right _ h)) (by decide +kernel))
set_option maxRecDepth 20000 in
theorem gX3_versionCount_X3_lastOf : GoodIn wsX3_versionCount (wsV RX3 50 RX3 yX3_lastOf wsX3_lastOf) := goodIn_app (goodIn_of _ (by decide +kernel)) ggX3_versionCount_X3_lastOf
theorem dX3_versionCount_18 : decode cX3_versionCount 18 = .ok (.aload_n 0, 1) := by decide +kernel
theorem dX3_versionCount_19 : decode cX3_versionCount 19 = .ok (.iload_n 2, 1) := by decide +kernel
theorem dX3_versionCount_20 : decode cX3_versionCount 20 = .ok (.invokevirtual 47, 3) := by decide +kernel
set_option maxRecDepth 20000 in
theorem ggX3_versionCount_X3_firstOf : GoodIn wsX3_versionCount wsX3_firstOf := goodIn_ca (goodIn_r _ [14, 6, 1, 2, 3, 4, 5, 15] (by decide +kernel) (by decide +kernel)) (goodIn_sub (fun _ h => List.mem_cons_of_mem _ (List.mem_append_right _ h)) (by decide +kernel))
set_option maxRecDepth 20000 in
theorem gX3_versionCount_X3_firstOf : GoodIn wsX3_versionCount (wsV RX3 47 RX3 yX3_firstOf wsX3_firstOf) := goodIn_app (goodIn_of _ (by decide +kernel)) ggX3_versionCount_X3_firstOf
theorem dX3_versionCount_23 : decode cX3_versionCount 23 = .ok (.isub, 1) := by decide +kernel
theorem dX3_versionCount_24 : decode cX3_versionCount 24 = .ok (.iconst 1, 1) := by decide +kernel
theorem dX3_versionCount_25 : decode cX3_versionCount 25 = .ok (.iadd, 1) := by decide +kernel
theorem dX3_versionCount_26 : decode cX3_versionCount 26 = .ok (.iadd, 1) := by decide +kernel
theorem dX3_versionCount_27 : decode cX3_versionCount 27 = .ok (.istore_n 1, 1) := by decide +kernel
theorem dX3_versionCount_28 : decode cX3_versionCount 28 = .ok (.iinc 2 1, 3) := by decide +kernel
theorem dX3_versionCount_31 : decode cX3_versionCount 31 = .ok (.goto (-27), 3) := by decide +kernel
theorem dX3_versionCount_0 : decode cX3_versionCount 0 = .ok (.iconst 0, 1) := by decide +kernel
theorem dX3_versionCount_1 : decode cX3_versionCount 1 = .ok (.istore_n 1, 1) := by decide +kernel
theorem dX3_versionCount_2 : decode cX3_versionCount 2 = .ok (.iconst 0, 1) := by decide +kernel
theorem dX3_versionCount_3 : decode cX3_versionCount 3 = .ok (.istore_n 2, 1) := by decide +kernel
set_option maxHeartbeats 2000000 in
set_option maxRecDepth 20000 in
theorem ct_X3_versionCount (l : Launch) (D : va_G) (dA : Nat → ClassId) (hst : l.stackTraces = false) (M : jM) (t n : Nat) (hR : jRg M t n) : jCT l D dA yX3_versionCount wsX3_versionCount (22) (420) (0) (0) 1 [.ref (t)] M (jPo (oI (rSize (ji M (t + 1)) n n)) (M)) := by
  refine jBody (cc := cX3_versionCount) (nL := 3) (rt := (some .int)) (ini := false) (by decide) rfl hst (Nat.le_of_ble_eq_true rfl) (by simp [Value.category]) (by intro h9; first | exact absurd h9 (by decide) | rfl) ?_
  show J l D dA RX3 cX3_versionCount wsX3_versionCount 3 false (some .int) [] (22) (420) (jF D dA (jn M) (jPo (oI (rSize (ji M (t + 1)) n n)) (M)) 1) (jn M) (0) (0) (M) 0 [.ref (t), .float 0, .float 0] []
  obtain ⟨h1, h2, h3, h4, h5, h6⟩ := id hR
  have L4 : ∀ (fuel : Nat) (k : Nat) (hk : k ≤ n), n - k < fuel → J l D dA RX3 cX3_versionCount wsX3_versionCount 3 false (some .int) [] (22) (420) (jF D dA (jn M) (jPo (oI (rSize (ji M (t + 1)) n n)) (M)) 1) (jn M) (0) (0) (M) 4 [.ref (t), .int (rSize (ji M (t + 1)) n k), .int (nI (k))] [] := by
    intro fuel
    induction fuel with
    | zero => intro k hk hm; exact absurd hm (Nat.not_lt_zero _)
    | succ fuel ih4 =>
      intro k hk hm4
      refine J_iload_n dX3_versionCount_4 rfl rfl ?_
      refine J_aload_n (t) dX3_versionCount_5 rfl rfl ?_
      refine J_calli0 (jrunV (As := []) (ct_X3_spanCount l D dA hst M t n hR) dX3_versionCount_6 yY_X3_spanCount gX3_versionCount_X3_spanCount rfl cs7 (Nat.lt_of_succ_lt h1) h2 rfl ⟨by omega, by omega⟩ ⟨Nat.zero_le _, Nat.zero_le _⟩ rfl (Nat.le_of_ble_eq_true rfl)) (rfl) (rfl) ?_
      refine J_icmp_ge dX3_versionCount_9 (tgt := 34) (by decide) (fun c9 => ?_) (fun c9 => ?_)
      · have c9 := jleT (a := n) (b := k) (by omega) (by omega) c9
        refine J_iload_n dX3_versionCount_34 rfl rfl ?_
        exact J_iret (ty := .int) dX3_versionCount_35 rfl (rfl) ⟨(by rw [show k = n from by omega]), (by rfl)⟩
      · have c9 := jleF (a := n) (b := k) (by omega) (by omega) c9
        refine J_iload_n dX3_versionCount_12 rfl rfl ?_
        refine J_aload_n (t) dX3_versionCount_13 rfl rfl ?_
        refine J_iload_n dX3_versionCount_14 rfl rfl ?_
        refine J_calli0 (jrunV (As := [.int (nI (k))]) (ct_X3_lastOf l D dA hst M t n hR (k) (by omega)) dX3_versionCount_15 yY_X3_lastOf gX3_versionCount_X3_lastOf rfl cs7 (Nat.lt_of_succ_lt h1) h2 rfl ⟨by omega, by omega⟩ ⟨Nat.zero_le _, Nat.zero_le _⟩ rfl (Nat.le_of_ble_eq_true rfl)) (rfl) (rfl) ?_
        refine J_aload_n (t) dX3_versionCount_18 rfl rfl ?_
        refine J_iload_n dX3_versionCount_19 rfl rfl ?_
        refine J_calli0 (jrunV (As := [.int (nI (k))]) (ct_X3_firstOf l D dA hst M t n hR (k) (by omega)) dX3_versionCount_20 yY_X3_firstOf gX3_versionCount_X3_firstOf rfl cs7 (Nat.lt_of_succ_lt h1) h2 rfl ⟨by omega, by omega⟩ ⟨Nat.zero_le _, Nat.zero_le _⟩ rfl (Nat.le_of_ble_eq_true rfl)) (rfl) (rfl) ?_
        refine J_isub dX3_versionCount_23 ?_
        refine J_iconst (x := 1) dX3_versionCount_24 (by decide) ?_
        refine J_iadd dX3_versionCount_25 ?_
        refine J_iadd dX3_versionCount_26 ?_
        refine J_topi (y := (rSize (ji M (t + 1)) n (k + 1))) (by rfl) ?_
        refine J_istore_n (lv' := [.ref (t), .int (rSize (ji M (t + 1)) n (k + 1)), .int (nI (k))]) dX3_versionCount_27 rfl (by decide) rfl rfl ?_
        refine J_iinc (y := nI (k + 1)) (lv' := [.ref (t), .int (rSize (ji M (t + 1)) n (k + 1)), .int (nI (k + 1))]) dX3_versionCount_28 rfl (jinc (k)) (by decide) rfl rfl ?_
        refine J_goto (tgt := 4) dX3_versionCount_31 (by decide) ?_
        exact ih4 (k + 1) (by omega) (by omega)
  refine J_iconst (x := 0) dX3_versionCount_0 (by decide) ?_
  refine J_istore_n (lv' := [.ref (t), .int (0), .float 0]) dX3_versionCount_1 rfl (by decide) rfl rfl ?_
  refine J_iconst (x := 0) dX3_versionCount_2 (by decide) ?_
  refine J_istore_n (lv' := [.ref (t), .int (0), .int (0)]) dX3_versionCount_3 rfl (by decide) rfl rfl ?_
  exact L4 _ (0) (by omega) (Nat.lt_succ_self _)

