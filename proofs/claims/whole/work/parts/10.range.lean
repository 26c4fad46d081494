theorem jleT {a b : Nat} (ha : a < 2 ^ 31) (hb : b < 2 ^ 31) (h : nI a ≤ nI b) : a ≤ b := (nI_leI ha hb).mp h
theorem jleF {a b : Nat} (ha : a < 2 ^ 31) (hb : b < 2 ^ 31) (h : ¬ nI a ≤ nI b) : b < a := Nat.not_le.mp (fun z => h ((nI_leI ha hb).mpr z))
theorem jltT {a b : Nat} (ha : a < 2 ^ 31) (hb : b < 2 ^ 31) (h : nI a < nI b) : a < b := (nI_ltI ha hb).mp h
theorem jltF {a b : Nat} (ha : a < 2 ^ 31) (hb : b < 2 ^ 31) (h : ¬ nI a < nI b) : b ≤ a := Nat.not_lt.mp (fun z => h ((nI_ltI ha hb).mpr z))
theorem jeqT {a b : Nat} (ha : a < 2 ^ 31) (hb : b < 2 ^ 31) (h : nI a = nI b) : a = b := (nI_eq ha hb).mp h
theorem jeqF {a b : Nat} (ha : a < 2 ^ 31) (hb : b < 2 ^ 31) (h : ¬ nI a = nI b) : a ≠ b := fun z => h ((nI_eq ha hb).mpr z)
theorem jb0T {b : Bool} (h : jb b = 0) : b = false := (jb_eq0 b).mp h
theorem jb0F {b : Bool} (h : ¬ jb b = 0) : b = true := by cases b; exact absurd rfl h; rfl
theorem jdec {k : Nat} (h : 1 ≤ k) : nI k + Int32.ofInt (-1) = nI (k - 1) := by
  obtain ⟨j, rfl⟩ : ∃ j, k = j + 1 := ⟨k - 1, by omega⟩
  exact pk_m1 j
theorem jcat_rf (r : Option Nat) : (va_rf r).category = 1 := by cases r <;> rfl
theorem jfit_r {n : String} : ∀ v : Option Nat, narrow (.object n) (va_rf v) = va_rf v ∧ fits (.object n) (va_rf v) = true := fun v => by cases v <;> exact ⟨rfl, rfl⟩
theorem jfit_rA {t : FieldType} : ∀ v : Option Nat, narrow (.array t) (va_rf v) = va_rf v ∧ fits (.array t) (va_rf v) = true := fun v => by cases v <;> exact ⟨rfl, rfl⟩
/-- a range of n spans at t: its ends lie in the cell behind it -/
def jRg (M : jM) (t n : Nat) : Prop := t + 1 < jn M ∧ jk M t = 7 ∧ jr M t 0 = some (t + 1) ∧ jk M (t + 1) = 22 ∧ jz M (t + 1) = 2 * n ∧ n < 1000000
/-- the first of the rows i, i+1 .. (f of them) at which p holds -/
def jfind (p : Nat → Bool) : Nat → Nat → Nat
  | 0, i => i
  | f + 1, i => if p i then i else jfind p f (i + 1)
theorem jfind_le (p : Nat → Bool) : ∀ f i, i ≤ jfind p f i ∧ jfind p f i ≤ i + f := by
  intro f
  induction f with
  | zero => intro i; exact ⟨Nat.le_refl _, Nat.le_refl _⟩
  | succ f ih =>
    intro i
    unfold jfind
    split
    · omega
    · have := ih (i + 1); omega
/-- the first span that isn't wholly ahead of v, of n spans with the ends e -/
def rsf (e : Nat → Int32) (n : Nat) (v : Int32) : Nat := jfind (fun i => decide (v ≤ e (2 * i + 1))) n 0
theorem rsf_le (e : Nat → Int32) (n : Nat) (v : Int32) : rsf e n v ≤ n := by have := jfind_le (fun i => decide (v ≤ e (2 * i + 1))) n 0; unfold rsf; omega
def rFirst (e : Nat → Int32) (n : Nat) (s : Nat) : Int32 := if s < n then e (2 * s) else -1
def rLast (e : Nat → Int32) (n : Nat) (s : Nat) : Int32 := if s < n then e (2 * s + 1) else -1
def rHolds (e : Nat → Int32) (n : Nat) (v : Int32) : Bool := decide (rsf e n v < n) && decide (rFirst e n (rsf e n v) ≤ v)
theorem dX3_spanCount_0 : decode cX3_spanCount 0 = .ok (.aload_n 0, 1) := by decide +kernel
theorem dX3_spanCount_1 : decode cX3_spanCount 1 = .ok (.getfield 9, 3) := by decide +kernel
theorem dX3_spanCount_4 : decode cX3_spanCount 4 = .ok (.arraylength, 1) := by decide +kernel
theorem dX3_spanCount_5 : decode cX3_spanCount 5 = .ok (.iconst 2, 1) := by decide +kernel
theorem dX3_spanCount_6 : decode cX3_spanCount 6 = .ok (.idiv, 1) := by decide +kernel
theorem dX3_spanCount_7 : decode cX3_spanCount 7 = .ok (.ireturn, 1) := by decide +kernel
set_option maxHeartbeats 2000000 in
set_option maxRecDepth 20000 in
theorem ct_X3_spanCount (l : Launch) (D : va_G) (dA : Nat → ClassId) (hst : l.stackTraces = false) (M : jM) (t n : Nat) (hR : jRg M t n) : jCT l D dA yX3_spanCount wsX3_spanCount (20) (300) (0) (0) 1 [.ref (t)] M (jPo (oI (nI n)) (M)) := by
  refine jBody (cc := cX3_spanCount) (nL := 1) (rt := (some .int)) (ini := false) (by decide) rfl hst (Nat.le_of_ble_eq_true rfl) (by simp [Value.category]) (by intro h9; first | exact absurd h9 (by decide) | rfl) ?_
  show J l D dA RX3 cX3_spanCount wsX3_spanCount 1 false (some .int) [] (20) (300) (jF D dA (jn M) (jPo (oI (nI n)) (M)) 1) (jn M) (0) (0) (M) 0 [.ref (t)] []
  obtain ⟨h1, h2, h3, h4, h5, h6⟩ := id hR
  refine J_aload_n (t) dX3_spanCount_0 rfl rfl ?_
  refine J_getrs (q := t + 1) h3 dX3_spanCount_1 (fun _ h => List.mem_cons_of_mem _ (List.mem_append_right _ (h))) cs7 (by decide) rfl (List.mem_of_getElem? (i := 1) rfl) rfl (Nat.lt_of_succ_lt h1) h2 ?_
  refine J_alen (t := 2) dX3_spanCount_4 h1 h4 rfl ?_
  refine J_topi (y := nI (2 * n)) (congrArg nI h5) ?_
  refine J_iconst (x := 2) dX3_spanCount_5 (by decide) ?_
  refine J_idiv dX3_spanCount_6 (by decide) ?_
  refine J_topi (y := nI ((2 * n) / 2)) (pk_div (a := 2 * n) (d := 2) (by omega) (by omega) (by omega)) ?_
  exact J_iret (ty := .int) dX3_spanCount_7 rfl (rfl) ⟨by rw [show 2 * n / 2 = n from by omega], by rfl⟩

theorem dX3_spanFrom_2 : decode cX3_spanFrom 2 = .ok (.iconst 2, 1) := by decide +kernel
theorem dX3_spanFrom_3 : decode cX3_spanFrom 3 = .ok (.iload_n 2, 1) := by decide +kernel
theorem dX3_spanFrom_4 : decode cX3_spanFrom 4 = .ok (.imul, 1) := by decide +kernel
theorem dX3_spanFrom_5 : decode cX3_spanFrom 5 = .ok (.iconst 1, 1) := by decide +kernel
theorem dX3_spanFrom_6 : decode cX3_spanFrom 6 = .ok (.iadd, 1) := by decide +kernel
theorem dX3_spanFrom_7 : decode cX3_spanFrom 7 = .ok (.aload_n 0, 1) := by decide +kernel
theorem dX3_spanFrom_8 : decode cX3_spanFrom 8 = .ok (.getfield 9, 3) := by decide +kernel
theorem dX3_spanFrom_11 : decode cX3_spanFrom 11 = .ok (.arraylength, 1) := by decide +kernel
theorem dX3_spanFrom_12 : decode cX3_spanFrom 12 = .ok (.if_icmp .ge 23, 3) := by decide +kernel
theorem dX3_spanFrom_35 : decode cX3_spanFrom 35 = .ok (.iload_n 2, 1) := by decide +kernel
theorem dX3_spanFrom_36 : decode cX3_spanFrom 36 = .ok (.ireturn, 1) := by decide +kernel
theorem dX3_spanFrom_15 : decode cX3_spanFrom 15 = .ok (.aload_n 0, 1) := by decide +kernel
theorem dX3_spanFrom_16 : decode cX3_spanFrom 16 = .ok (.getfield 9, 3) := by decide +kernel
theorem dX3_spanFrom_19 : decode cX3_spanFrom 19 = .ok (.iconst 2, 1) := by decide +kernel
theorem dX3_spanFrom_20 : decode cX3_spanFrom 20 = .ok (.iload_n 2, 1) := by decide +kernel
theorem dX3_spanFrom_21 : decode cX3_spanFrom 21 = .ok (.imul, 1) := by decide +kernel
theorem dX3_spanFrom_22 : decode cX3_spanFrom 22 = .ok (.iconst 1, 1) := by decide +kernel
theorem dX3_spanFrom_23 : decode cX3_spanFrom 23 = .ok (.iadd, 1) := by decide +kernel
theorem dX3_spanFrom_24 : decode cX3_spanFrom 24 = .ok (.iaload, 1) := by decide +kernel
theorem dX3_spanFrom_25 : decode cX3_spanFrom 25 = .ok (.iload_n 1, 1) := by decide +kernel
theorem dX3_spanFrom_26 : decode cX3_spanFrom 26 = .ok (.if_icmp .ge 9, 3) := by decide +kernel
theorem dX3_spanFrom_29 : decode cX3_spanFrom 29 = .ok (.iinc 2 1, 3) := by decide +kernel
theorem dX3_spanFrom_32 : decode cX3_spanFrom 32 = .ok (.goto (-30), 3) := by decide +kernel
theorem dX3_spanFrom_0 : decode cX3_spanFrom 0 = .ok (.iconst 0, 1) := by decide +kernel
theorem dX3_spanFrom_1 : decode cX3_spanFrom 1 = .ok (.istore_n 2, 1) := by decide +kernel
set_option maxHeartbeats 2000000 in
set_option maxRecDepth 20000 in
theorem ct_X3_spanFrom (l : Launch) (D : va_G) (dA : Nat → ClassId) (hst : l.stackTraces = false) (M : jM) (t n : Nat) (hR : jRg M t n) (v : Int32) : jCT l D dA yX3_spanFrom wsX3_spanFrom (20) (300) (0) (0) 1 [.ref (t), .int (v)] M (jPo (oI (nI (rsf (ji M (t + 1)) n v))) (M)) := by
  refine jBody (cc := cX3_spanFrom) (nL := 3) (rt := (some .int)) (ini := false) (by decide) rfl hst (Nat.le_of_ble_eq_true rfl) (by simp [Value.category]) (by intro h9; first | exact absurd h9 (by decide) | rfl) ?_
  show J l D dA RX3 cX3_spanFrom wsX3_spanFrom 3 false (some .int) [] (20) (300) (jF D dA (jn M) (jPo (oI (nI (rsf (ji M (t + 1)) n v))) (M)) 1) (jn M) (0) (0) (M) 0 [.ref (t), .int (v), .float 0] []
  obtain ⟨h1, h2, h3, h4, h5, h6⟩ := id hR
  have L2 : ∀ (fuel : Nat) (k : Nat) (hk : k ≤ n) (hI : jfind (fun i => decide (v ≤ ji M (t + 1) (2 * i + 1))) (n - k) k = rsf (ji M (t + 1)) n v), n - k < fuel → J l D dA RX3 cX3_spanFrom wsX3_spanFrom 3 false (some .int) [] (20) (300) (jF D dA (jn M) (jPo (oI (nI (rsf (ji M (t + 1)) n v))) (M)) 1) (jn M) (0) (0) (M) 2 [.ref (t), .int (v), .int (nI (k))] [] := by
    intro fuel
    induction fuel with
    | zero => intro k hk hI hm; exact absurd hm (Nat.not_lt_zero _)
    | succ fuel ih2 =>
      intro k hk hI hm2
      refine J_iconst (x := 2) dX3_spanFrom_2 (by decide) ?_
      refine J_iload_n dX3_spanFrom_3 rfl rfl ?_
      refine J_imul dX3_spanFrom_4 ?_
      refine J_topi (y := nI (2 * k)) (pk_mul (2) (k)) ?_
      refine J_iconst (x := 1) dX3_spanFrom_5 (by decide) ?_
      refine J_iadd dX3_spanFrom_6 ?_
      refine J_topi (y := nI (2 * k + 1)) (nI_add (2 * k) (1)) ?_
      refine J_aload_n (t) dX3_spanFrom_7 rfl rfl ?_
      refine J_getrs (q := t + 1) h3 dX3_spanFrom_8 (fun _ h => List.mem_cons_of_mem _ (List.mem_append_left _ (List.mem_append_right _ (h)))) cs7 (by decide) rfl (List.mem_of_getElem? (i := 1) rfl) rfl (Nat.lt_of_succ_lt h1) h2 ?_
      refine J_alen (t := 2) dX3_spanFrom_11 h1 h4 rfl ?_
      refine J_topi (y := nI (2 * n)) (congrArg nI h5) ?_
      refine J_icmp_ge dX3_spanFrom_12 (tgt := 35) (by decide) (fun c12 => ?_) (fun c12 => ?_)
      · have c12 := jleT (a := 2 * n) (b := 2 * k + 1) (by omega) (by omega) c12
        refine J_iload_n dX3_spanFrom_35 rfl rfl ?_
        exact J_iret (ty := .int) dX3_spanFrom_36 rfl (rfl) ⟨by first | (rw [← hI, show n - k = 0 from by omega]; rfl) | (rw [← hI]; obtain ⟨z, hz⟩ : ∃ z, n - k = z + 1 := ⟨n - k - 1, by omega⟩; rw [hz]; unfold jfind; rw [if_pos (by simpa using c26)]), by rfl⟩
      · have c12 := jleF (a := 2 * n) (b := 2 * k + 1) (by omega) (by omega) c12
        refine J_aload_n (t) dX3_spanFrom_15 rfl rfl ?_
        refine J_getrs (q := t + 1) h3 dX3_spanFrom_16 (fun _ h => List.mem_cons_of_mem _ (List.mem_append_left _ (List.mem_append_right _ (h)))) cs7 (by decide) rfl (List.mem_of_getElem? (i := 1) rfl) rfl (Nat.lt_of_succ_lt h1) h2 ?_
        refine J_iconst (x := 2) dX3_spanFrom_19 (by decide) ?_
        refine J_iload_n dX3_spanFrom_20 rfl rfl ?_
        refine J_imul dX3_spanFrom_21 ?_
        refine J_topi (y := nI (2 * k)) (pk_mul (2) (k)) ?_
        refine J_iconst (x := 1) dX3_spanFrom_22 (by decide) ?_
        refine J_iadd dX3_spanFrom_23 ?_
        refine J_topi (y := nI (2 * k + 1)) (nI_add (2 * k) (1)) ?_
        refine J_ialdN (k := 2 * k + 1) dX3_spanFrom_24 h1 h4 (by show _ < _; rw [show jz _ _ = _ from h5]; omega) (by rw [show jz _ _ = _ from h5]; omega) ?_
        refine J_iload_n dX3_spanFrom_25 rfl rfl ?_
        refine J_icmp_ge dX3_spanFrom_26 (tgt := 35) (by decide) (fun c26 => ?_) (fun c26 => ?_)
        · refine J_iload_n dX3_spanFrom_35 rfl rfl ?_
          exact J_iret (ty := .int) dX3_spanFrom_36 rfl (rfl) ⟨by first | (rw [← hI, show n - k = 0 from by omega]; rfl) | (rw [← hI]; obtain ⟨z, hz⟩ : ∃ z, n - k = z + 1 := ⟨n - k - 1, by omega⟩; rw [hz]; unfold jfind; rw [if_pos (by simpa using c26)]), by rfl⟩
        · refine J_iinc (y := nI (k + 1)) (lv' := [.ref (t), .int (v), .int (nI (k + 1))]) dX3_spanFrom_29 rfl (jinc (k)) (by decide) rfl rfl ?_
          refine J_goto (tgt := 2) dX3_spanFrom_32 (by decide) ?_
          exact ih2 (k + 1) (by omega) (by rw [← hI]; obtain ⟨z, hz⟩ : ∃ z, n - k = z + 1 := ⟨n - k - 1, by omega⟩; rw [hz, show n - (k + 1) = z from by omega]; conv => rhs; unfold jfind; rw [if_neg (by simpa using c26)]) (by omega)
  refine J_iconst (x := 0) dX3_spanFrom_0 (by decide) ?_
  refine J_istore_n (lv' := [.ref (t), .int (v), .int (0)]) dX3_spanFrom_1 rfl (by decide) rfl rfl ?_
  exact L2 _ (0) (by omega) (by first | rfl | skip) (Nat.lt_succ_self _)

theorem dX3_firstOf_0 : decode cX3_firstOf 0 = .ok (.iload_n 1, 1) := by decide +kernel
theorem dX3_firstOf_1 : decode cX3_firstOf 1 = .ok (.ifCond .lt 22, 3) := by decide +kernel
theorem dX3_firstOf_23 : decode cX3_firstOf 23 = .ok (.iconst (-1), 1) := by decide +kernel
theorem dX3_firstOf_24 : decode cX3_firstOf 24 = .ok (.ireturn, 1) := by decide +kernel
theorem dX3_firstOf_4 : decode cX3_firstOf 4 = .ok (.iload_n 1, 1) := by decide +kernel
theorem dX3_firstOf_5 : decode cX3_firstOf 5 = .ok (.aload_n 0, 1) := by decide +kernel
theorem dX3_firstOf_6 : decode cX3_firstOf 6 = .ok (.invokevirtual 18, 3) := by decide +kernel
set_option maxRecDepth 20000 in
theorem ggX3_firstOf_X3_spanCount : GoodIn wsX3_firstOf wsX3_spanCount := goodIn_r _ [6, 1, 7] (by decide +kernel) (by decide +kernel)
set_option maxRecDepth 20000 in
theorem gX3_firstOf_X3_spanCount : GoodIn wsX3_firstOf (wsV RX3 18 RX3 yX3_spanCount wsX3_spanCount) := goodIn_app (goodIn_of _ (by decide +kernel)) ggX3_firstOf_X3_spanCount
theorem yY_X3_spanCount : jY yX3_spanCount wsX3_spanCount cX3_spanCount 1 (some .int) 0 := ⟨⟨_, rfl⟩, by decide +kernel, by decide +kernel, by decide +kernel⟩
theorem dX3_firstOf_9 : decode cX3_firstOf 9 = .ok (.if_icmp .ge 14, 3) := by decide +kernel
theorem dX3_firstOf_12 : decode cX3_firstOf 12 = .ok (.aload_n 0, 1) := by decide +kernel
theorem dX3_firstOf_13 : decode cX3_firstOf 13 = .ok (.getfield 9, 3) := by decide +kernel
theorem dX3_firstOf_16 : decode cX3_firstOf 16 = .ok (.iconst 2, 1) := by decide +kernel
theorem dX3_firstOf_17 : decode cX3_firstOf 17 = .ok (.iload_n 1, 1) := by decide +kernel
theorem dX3_firstOf_18 : decode cX3_firstOf 18 = .ok (.imul, 1) := by decide +kernel
theorem dX3_firstOf_19 : decode cX3_firstOf 19 = .ok (.iaload, 1) := by decide +kernel
theorem dX3_firstOf_20 : decode cX3_firstOf 20 = .ok (.goto 4, 3) := by decide +kernel
set_option maxHeartbeats 2000000 in
set_option maxRecDepth 20000 in
theorem ct_X3_firstOf (l : Launch) (D : va_G) (dA : Nat → ClassId) (hst : l.stackTraces = false) (M : jM) (t n : Nat) (hR : jRg M t n) (s : Nat) (hs : s < 2 ^ 31) : jCT l D dA yX3_firstOf wsX3_firstOf (21) (360) (0) (0) 1 [.ref (t), .int (nI (s))] M (jPo (oI (rFirst (ji M (t + 1)) n s)) (M)) := by
  refine jBody (cc := cX3_firstOf) (nL := 2) (rt := (some .int)) (ini := false) (by decide) rfl hst (Nat.le_of_ble_eq_true rfl) (by simp [Value.category]) (by intro h9; first | exact absurd h9 (by decide) | rfl) ?_
  show J l D dA RX3 cX3_firstOf wsX3_firstOf 2 false (some .int) [] (21) (360) (jF D dA (jn M) (jPo (oI (rFirst (ji M (t + 1)) n s)) (M)) 1) (jn M) (0) (0) (M) 0 [.ref (t), .int (nI (s))] []
  obtain ⟨h1, h2, h3, h4, h5, h6⟩ := id hR
  refine J_iload_n dX3_firstOf_0 rfl rfl ?_
  refine J_if_lt dX3_firstOf_1 (tgt := 23) (by decide) (fun c1 => ?_) (fun c1 => ?_)
  · have c1 := jltT (a := s) (b := 0) (by omega) (by omega) c1
    refine J_iconst (x := (-1)) dX3_firstOf_23 (by decide) ?_
    exact J_iret (ty := .int) dX3_firstOf_24 rfl (rfl) ⟨by simp [rFirst]; omega, by rfl⟩
  · have c1 := jltF (a := s) (b := 0) (by omega) (by omega) c1
    refine J_iload_n dX3_firstOf_4 rfl rfl ?_
    refine J_aload_n (t) dX3_firstOf_5 rfl rfl ?_
    refine J_calli0 (jrunV (As := []) (ct_X3_spanCount l D dA hst M t n hR) dX3_firstOf_6 yY_X3_spanCount gX3_firstOf_X3_spanCount rfl cs7 (Nat.lt_of_succ_lt h1) h2 rfl ⟨by omega, by omega⟩ ⟨Nat.zero_le _, Nat.zero_le _⟩ rfl (Nat.le_of_ble_eq_true rfl)) (rfl) (rfl) ?_
    refine J_icmp_ge dX3_firstOf_9 (tgt := 23) (by decide) (fun c9 => ?_) (fun c9 => ?_)
    · have c9 := jleT (a := n) (b := s) (by omega) (by omega) c9
      refine J_iconst (x := (-1)) dX3_firstOf_23 (by decide) ?_
      exact J_iret (ty := .int) dX3_firstOf_24 rfl (rfl) ⟨by simp [rFirst]; omega, by rfl⟩
    · have c9 := jleF (a := n) (b := s) (by omega) (by omega) c9
      refine J_aload_n (t) dX3_firstOf_12 rfl rfl ?_
      refine J_getrs (q := t + 1) h3 dX3_firstOf_13 (fun _ h => List.mem_cons_of_mem _ (List.mem_append_left _ (List.mem_append_right _ (h)))) cs7 (by decide) rfl (List.mem_of_getElem? (i := 1) rfl) rfl (Nat.lt_of_succ_lt h1) h2 ?_
      refine J_iconst (x := 2) dX3_firstOf_16 (by decide) ?_
      refine J_iload_n dX3_firstOf_17 rfl rfl ?_
      refine J_imul dX3_firstOf_18 ?_
      refine J_topi (y := nI (2 * s)) (pk_mul (2) (s)) ?_
      refine J_ialdN (k := 2 * s) dX3_firstOf_19 h1 h4 (by show _ < _; rw [show jz _ _ = _ from h5]; omega) (by rw [show jz _ _ = _ from h5]; omega) ?_
      refine J_goto (tgt := 24) dX3_firstOf_20 (by decide) ?_
      exact J_iret (ty := .int) dX3_firstOf_24 rfl (rfl) ⟨by simp [rFirst]; omega, by rfl⟩

theorem dX3_lastOf_0 : decode cX3_lastOf 0 = .ok (.iload_n 1, 1) := by decide +kernel
theorem dX3_lastOf_1 : decode cX3_lastOf 1 = .ok (.ifCond .lt 24, 3) := by decide +kernel
theorem dX3_lastOf_25 : decode cX3_lastOf 25 = .ok (.iconst (-1), 1) := by decide +kernel
theorem dX3_lastOf_26 : decode cX3_lastOf 26 = .ok (.ireturn, 1) := by decide +kernel
theorem dX3_lastOf_4 : decode cX3_lastOf 4 = .ok (.iload_n 1, 1) := by decide +kernel
theorem dX3_lastOf_5 : decode cX3_lastOf 5 = .ok (.aload_n 0, 1) := by decide +kernel
theorem dX3_lastOf_6 : decode cX3_lastOf 6 = .ok (.invokevirtual 18, 3) := by decide +kernel
set_option maxRecDepth 20000 in
theorem ggX3_lastOf_X3_spanCount : GoodIn wsX3_lastOf wsX3_spanCount := goodIn_r _ [6, 1, 7] (by decide +kernel) (by decide +kernel)
set_option maxRecDepth 20000 in
theorem gX3_lastOf_X3_spanCount : GoodIn wsX3_lastOf (wsV RX3 18 RX3 yX3_spanCount wsX3_spanCount) := goodIn_app (goodIn_of _ (by decide +kernel)) ggX3_lastOf_X3_spanCount
theorem dX3_lastOf_9 : decode cX3_lastOf 9 = .ok (.if_icmp .ge 16, 3) := by decide +kernel
theorem dX3_lastOf_12 : decode cX3_lastOf 12 = .ok (.aload_n 0, 1) := by decide +kernel
theorem dX3_lastOf_13 : decode cX3_lastOf 13 = .ok (.getfield 9, 3) := by decide +kernel
theorem dX3_lastOf_16 : decode cX3_lastOf 16 = .ok (.iconst 2, 1) := by decide +kernel
theorem dX3_lastOf_17 : decode cX3_lastOf 17 = .ok (.iload_n 1, 1) := by decide +kernel
theorem dX3_lastOf_18 : decode cX3_lastOf 18 = .ok (.imul, 1) := by decide +kernel
theorem dX3_lastOf_19 : decode cX3_lastOf 19 = .ok (.iconst 1, 1) := by decide +kernel
theorem dX3_lastOf_20 : decode cX3_lastOf 20 = .ok (.iadd, 1) := by decide +kernel
theorem dX3_lastOf_21 : decode cX3_lastOf 21 = .ok (.iaload, 1) := by decide +kernel
theorem dX3_lastOf_22 : decode cX3_lastOf 22 = .ok (.goto 4, 3) := by decide +kernel
set_option maxHeartbeats 2000000 in
set_option maxRecDepth 20000 in
theorem ct_X3_lastOf (l : Launch) (D : va_G) (dA : Nat → ClassId) (hst : l.stackTraces = false) (M : jM) (t n : Nat) (hR : jRg M t n) (s : Nat) (hs : s < 2 ^ 31) : jCT l D dA yX3_lastOf wsX3_lastOf (21) (360) (0) (0) 1 [.ref (t), .int (nI (s))] M (jPo (oI (rLast (ji M (t + 1)) n s)) (M)) := by
  refine jBody (cc := cX3_lastOf) (nL := 2) (rt := (some .int)) (ini := false) (by decide) rfl hst (Nat.le_of_ble_eq_true rfl) (by simp [Value.category]) (by intro h9; first | exact absurd h9 (by decide) | rfl) ?_
  show J l D dA RX3 cX3_lastOf wsX3_lastOf 2 false (some .int) [] (21) (360) (jF D dA (jn M) (jPo (oI (rLast (ji M (t + 1)) n s)) (M)) 1) (jn M) (0) (0) (M) 0 [.ref (t), .int (nI (s))] []
  obtain ⟨h1, h2, h3, h4, h5, h6⟩ := id hR
  refine J_iload_n dX3_lastOf_0 rfl rfl ?_
  refine J_if_lt dX3_lastOf_1 (tgt := 25) (by decide) (fun c1 => ?_) (fun c1 => ?_)
  · have c1 := jltT (a := s) (b := 0) (by omega) (by omega) c1
    refine J_iconst (x := (-1)) dX3_lastOf_25 (by decide) ?_
    exact J_iret (ty := .int) dX3_lastOf_26 rfl (rfl) ⟨by simp [rLast]; omega, by rfl⟩
  · have c1 := jltF (a := s) (b := 0) (by omega) (by omega) c1
    refine J_iload_n dX3_lastOf_4 rfl rfl ?_
    refine J_aload_n (t) dX3_lastOf_5 rfl rfl ?_
    refine J_calli0 (jrunV (As := []) (ct_X3_spanCount l D dA hst M t n hR) dX3_lastOf_6 yY_X3_spanCount gX3_lastOf_X3_spanCount rfl cs7 (Nat.lt_of_succ_lt h1) h2 rfl ⟨by omega, by omega⟩ ⟨Nat.zero_le _, Nat.zero_le _⟩ rfl (Nat.le_of_ble_eq_true rfl)) (rfl) (rfl) ?_
    refine J_icmp_ge dX3_lastOf_9 (tgt := 25) (by decide) (fun c9 => ?_) (fun c9 => ?_)
    · have c9 := jleT (a := n) (b := s) (by omega) (by omega) c9
      refine J_iconst (x := (-1)) dX3_lastOf_25 (by decide) ?_
      exact J_iret (ty := .int) dX3_lastOf_26 rfl (rfl) ⟨by simp [rLast]; omega, by rfl⟩
    · have c9 := jleF (a := n) (b := s) (by omega) (by omega) c9
      refine J_aload_n (t) dX3_lastOf_12 rfl rfl ?_
      refine J_getrs (q := t + 1) h3 dX3_lastOf_13 (fun _ h => List.mem_cons_of_mem _ (List.mem_append_left _ (List.mem_append_right _ (h)))) cs7 (by decide) rfl (List.mem_of_getElem? (i := 1) rfl) rfl (Nat.lt_of_succ_lt h1) h2 ?_
      refine J_iconst (x := 2) dX3_lastOf_16 (by decide) ?_
      refine J_iload_n dX3_lastOf_17 rfl rfl ?_
      refine J_imul dX3_lastOf_18 ?_
      refine J_topi (y := nI (2 * s)) (pk_mul (2) (s)) ?_
      refine J_iconst (x := 1) dX3_lastOf_19 (by decide) ?_
      refine J_iadd dX3_lastOf_20 ?_
      refine J_topi (y := nI (2 * s + 1)) (nI_add (2 * s) (1)) ?_
      refine J_ialdN (k := 2 * s + 1) dX3_lastOf_21 h1 h4 (by show _ < _; rw [show jz _ _ = _ from h5]; omega) (by rw [show jz _ _ = _ from h5]; omega) ?_
      refine J_goto (tgt := 26) dX3_lastOf_22 (by decide) ?_
      exact J_iret (ty := .int) dX3_lastOf_26 rfl (rfl) ⟨by simp [rLast]; omega, by rfl⟩

