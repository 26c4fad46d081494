/-- THE REFERENCE: its object lies at m, its rows of ints behind it -/
def mOk (M : jM) (m : Nat) : Prop := m + 13 < jn M ∧ jk M m = 11 ∧ (jr M m 0 = some (m + 1) ∧ jr M m 1 = some (m + 2) ∧ jr M m 2 = some (m + 3) ∧ jr M m 5 = some (m + 4) ∧ jr M m 9 = some (m + 5) ∧ jr M m 12 = some (m + 6) ∧ jr M m 13 = some (m + 7) ∧ jr M m 21 = some (m + 8) ∧ jr M m 22 = some (m + 9) ∧ jr M m 23 = some (m + 10) ∧ jr M m 24 = some (m + 11) ∧ jr M m 27 = some (m + 12) ∧ jr M m 29 = some (m + 13)) ∧ (jk M (m + 1) = 22 ∧ jk M (m + 2) = 22 ∧ jk M (m + 3) = 22 ∧ jk M (m + 4) = 22 ∧ jk M (m + 5) = 22 ∧ jk M (m + 6) = 22 ∧ jk M (m + 7) = 22 ∧ jk M (m + 8) = 22 ∧ jk M (m + 9) = 22 ∧ jk M (m + 10) = 22 ∧ jk M (m + 11) = 22 ∧ jk M (m + 12) = 22 ∧ jk M (m + 13) = 22) ∧ jz M (m + 1) = 427 ∧ jz M (m + 2) = 3416 ∧ jz M (m + 3) = 427 ∧ jz M (m + 4) = 60 ∧ jz M (m + 5) = 60 ∧ jz M (m + 6) = 2112 ∧ jz M (m + 7) = 200 ∧ jz M (m + 8) = 60 ∧ jz M (m + 9) = 60 ∧ jz M (m + 10) = 60 ∧ jz M (m + 11) = 60 ∧ jz M (m + 12) = 60 ∧ jz M (m + 13) = 512
/-- a range in a row at a place -/
def mSlot (row : Nat → Int32) (p : Nat) : Option rVl → Prop
  | none => row p = -1
  | some w => row p = nI w.1 ∧ w.1 ≤ 16 ∧ ∀ i, i < 2 * w.1 → row (p + 1 + i) = w.2 i
/-- a state in a row at a place -/
def mSt (row : Nat → Int32) (p : Nat) (z : cSt) : Prop := (∀ j, j < 12 → mSlot row (p + 33 * j) (z.1 j)) ∧ row (p + 396) = nI z.2.1 ∧ z.2.1 ≤ 30 ∧ ∀ i, i < z.2.1 → row (p + 397 + i) = z.2.2 i
/-- the spans of a range stand in their order, with room between them -/
def rWf (w : rVl) : Prop := rOk w ∧ (∀ k, k < w.1 → (w.2 (2 * k)).toNatClampNeg ≤ (w.2 (2 * k + 1)).toNatClampNeg) ∧ ∀ k, k + 1 < w.1 → (w.2 (2 * k + 1)).toNatClampNeg + 1 < (w.2 (2 * k + 2)).toNatClampNeg
theorem rWf.at {w : rVl} (h : rWf w) {i : Nat} (hi : i < 2 * w.1) : ∃ q, w.2 i = nI q ∧ q < 100000000 ∧ (w.2 i).toNatClampNeg = q := ⟨_, (h.1 i hi).1, (h.1 i hi).2, rfl⟩
theorem rWf.lt {w : rVl} (h : rWf w) : ∀ d k, k + d < w.1 → 0 < d → (w.2 (2 * k + 1)).toNatClampNeg + 1 < (w.2 (2 * (k + d))).toNatClampNeg := by
  intro d
  induction d with
  | zero => intro k _ h0; omega
  | succ d ih =>
    intro k hk _
    rcases Nat.eq_zero_or_pos d with rfl | hd
    · exact h.2.2 k hk
    · have h1 := ih k (by omega) hd
      have h2 := h.2.1 (k + d) (by omega)
      have h3 := h.2.2 (k + d) (by omega)
      rw [show 2 * (k + (d + 1)) = 2 * (k + d) + 2 from by omega]
      omega
theorem nI_leN {a b : Nat} (ha : a < 2 ^ 31) (hb : b < 2 ^ 31) : nI a ≤ nI b ↔ a ≤ b := nI_leI ha hb
/-- what a version is, against the ends of a range -/
theorem rsf_spec (e : Nat → Int32) (n : Nat) (x : Int32) : (∀ j, j < rsf e n x → ¬ x ≤ e (2 * j + 1)) ∧ (rsf e n x < n → x ≤ e (2 * rsf e n x + 1)) := by
  unfold rsf
  have key : ∀ (f i : Nat), (∀ j, i ≤ j → j < jfind (fun i => decide (x ≤ e (2 * i + 1))) f i → ¬ x ≤ e (2 * j + 1)) ∧ (jfind (fun i => decide (x ≤ e (2 * i + 1))) f i < i + f → x ≤ e (2 * jfind (fun i => decide (x ≤ e (2 * i + 1))) f i + 1)) := by
    intro f
    induction f with
    | zero => intro i; exact ⟨fun j h1 h2 => absurd (Nat.lt_of_le_of_lt h1 h2) (Nat.lt_irrefl _), fun h => absurd h (Nat.lt_irrefl _)⟩
    | succ f ih =>
      intro i
      unfold jfind
      by_cases hp : x ≤ e (2 * i + 1)
      · rw [if_pos (by simpa using hp)]
        exact ⟨fun j h1 h2 => absurd (Nat.lt_of_le_of_lt h1 h2) (Nat.lt_irrefl _), fun _ => hp⟩
      · rw [if_neg (by simpa using hp)]
        obtain ⟨a, b⟩ := ih (i + 1)
        refine ⟨fun j h1 h2 => ?_, fun h => b (by omega)⟩
        rcases Nat.eq_or_lt_of_le h1 with rfl | h3
        · exact hp
        · exact a j h3 h2
  obtain ⟨a, b⟩ := key n 0
  exact ⟨fun j hj => a j (Nat.zero_le _) hj, fun h => b (by omega)⟩
theorem rsf_is {e : Nat → Int32} {n k : Nat} {x : Int32} (h1 : ∀ j, j < k → ¬ x ≤ e (2 * j + 1)) (h2 : k < n → x ≤ e (2 * k + 1)) (h3 : k ≤ n) : rsf e n x = k := by
  have hs := rsf_spec e n x
  have hl := rsf_le e n x
  rcases Nat.lt_trichotomy (rsf e n x) k with h | h | h
  · exact absurd (hs.2 (by omega)) (h1 _ h)
  · exact h
  · exact absurd (h2 (by omega)) (hs.1 k h)
theorem rHolds_in {w : rVl} (hw : rWf w) {k : Nat} {x : Int32} (hk : k < w.1) (h1 : w.2 (2 * k) ≤ x) (h2 : x ≤ w.2 (2 * k + 1)) : rHolds w.2 w.1 x = true ∧ rsf w.2 w.1 x = k := by
  have hs : rsf w.2 w.1 x = k := by
    refine rsf_is (fun j hj hx => ?_) (fun _ => h2) (by omega)
    obtain ⟨a, ea, la, ta⟩ := hw.at (i := 2 * j + 1) (by omega)
    obtain ⟨b, eb, lb, tb⟩ := hw.at (i := 2 * k) (by omega)
    have h9 := Int32.le_trans h1 hx
    rw [ea, eb] at h9
    have h8 := (nI_leN (by omega) (by omega)).mp h9
    have h7 := hw.lt (k - j) j (by omega) (by omega)
    rw [show j + (k - j) = k from by omega, ta, tb] at h7
    omega
  refine ⟨?_, hs⟩
  unfold rHolds rFirst
  rw [hs, decide_eq_true hk, if_pos hk, decide_eq_true h1]
  rfl
theorem rHolds_out {w : rVl} {x : Int32} (h : ∀ k, k < w.1 → ¬ (w.2 (2 * k) ≤ x ∧ x ≤ w.2 (2 * k + 1))) : rHolds w.2 w.1 x = false := by
  unfold rHolds rFirst
  by_cases hk : rsf w.2 w.1 x < w.1
  · have h2 := (rsf_spec w.2 w.1 x).2 hk
    rw [if_pos hk, decide_eq_true hk, decide_eq_false (fun h1 => h _ hk ⟨h1, h2⟩)]
    rfl
  · rw [decide_eq_false hk]; rfl
def vGv (what : Int32) (a b : Bool) : Bool := if what = 38 then a && b else if what = 43 then a || b else if what = 45 then a && !b else !a
/-- the next turn, as the reference finds it -/
def mTurn (e : Nat → Int32) (x : Int32) : Nat → Int32 → Int32
  | 0, nx => nx
  | k + 1, nx => if x < e (2 * k) then mTurn e x k (e (2 * k)) else if x ≤ e (2 * k + 1) then e (2 * k + 1) + 1 else mTurn e x k nx
def mF1 (z : cSt) (s : Int32) : Int32 := if okSlot s then (if (cAt z s).isNone then 2 else 0) else 1
def mF2 (z : cSt) (s x : Int32) : Int32 := if okSlot s then (if okVer x then (if (cAt z s).isNone then 3 else 0) else 2) else 1
theorem mSlot_neg {row : Nat → Int32} {p : Nat} {x : Option rVl} (h : mSlot row p x) : 0 ≤ row p ↔ x.isNone = false := by
  cases x with
  | none => rw [show row p = -1 from h]; exact ⟨fun h3 => absurd h3 (by decide), fun h3 => nomatch h3⟩
  | some w =>
    have h2 := h.2.1
    rw [show row p = nI w.1 from h.1]
    exact ⟨fun _ => rfl, fun _ => Int32.not_lt.mp (nI_pos (by omega))⟩
theorem cAt_n {z : cSt} {k : Nat} (hk : k < 12) : cAt z (nI k) = z.1 k := by
  unfold cAt
  rw [if_pos (okSlot_c (nI_pos (by omega)) (nI_lt (b := 12) hk (by omega))), nI_clamp (by omega)]
theorem jSi_jSi (M : jM) (a k : Nat) (x y : Int32) : jSi (jSi M a k x) a k y = jSi M a k y := jM_eq rfl rfl rfl (by funext b j; show jU (jU (ji M) a k x) a k y b j = jU (ji M) a k y b j; unfold jU; split <;> rfl) rfl rfl rfl
theorem dX8_thrown_0 : decode cX8_thrown 0 = .ok (.aload_n 0, 1) := by decide +kernel
theorem dX8_thrown_1 : decode cX8_thrown 1 = .ok (.getfield 56, 3) := by decide +kernel
theorem dX8_thrown_4 : decode cX8_thrown 4 = .ok (.ireturn, 1) := by decide +kernel
set_option maxHeartbeats 400000 in
set_option maxRecDepth 20000 in
theorem ct_X8_thrown (l : Launch) (D : va_G) (dA : Nat → ClassId) (hst : l.stackTraces = false) (M : jM) (m : Nat) (hM : mOk M m) : jCT l D dA yX8_thrown wsX8_thrown (20) (300) (0) (0) 1 [.ref (m)] M (jPo (oI (ji M m 11)) (M)) := by
  refine jBody (cc := cX8_thrown) (nL := 1) (rt := (some .int)) (ini := false) (by decide) rfl hst (Nat.le_of_ble_eq_true rfl) (by simp [Value.category]) (by intro h9; first | exact absurd h9 (by decide) | rfl) ?_
  show J l D dA RX8 cX8_thrown wsX8_thrown 1 false (some .int) [] (20) (300) (jF D dA (jn M) (jPo (oI (ji M m 11)) (M)) 1) (jn M) (0) (0) (M) 0 [.ref (m)] []
  obtain ⟨m1, m2, ⟨r1, r2, r3, r4, r5, r6, r7, r8, r9, r10, r11, r12, r13⟩, ⟨k1, k2, k3, k4, k5, k6, k7, k8, k9, k10, k11, k12, k13⟩, z1, z2, z3, z4, z5, z6, z7, z8, z9, z10, z11, z12, z13⟩ := id hM
  refine J_aload_n (m) dX8_thrown_0 rfl rfl ?_
  refine J_geti (j := 11) dX8_thrown_1 (fun _ h => List.mem_cons_of_mem _ (List.mem_append_right _ (h))) cs11 (by decide) rfl (List.mem_of_getElem? (i := 1) rfl) rfl (show m < jn M from by omega) m2 ?_
  exact J_iret (ty := .int) dX8_thrown_4 rfl (rfl) ⟨(by rfl), (by rfl)⟩

theorem dX8_fails_0 : decode cX8_fails 0 = .ok (.aload_n 0, 1) := by decide +kernel
theorem dX8_fails_1 : decode cX8_fails 1 = .ok (.iload_n 1, 1) := by decide +kernel
theorem dX8_fails_2 : decode cX8_fails 2 = .ok (.putfield 56, 3) := by decide +kernel
theorem dX8_fails_5 : decode cX8_fails 5 = .ok (.iload_n 1, 1) := by decide +kernel
theorem dX8_fails_6 : decode cX8_fails 6 = .ok (.ifCond .le 7, 3) := by decide +kernel
theorem dX8_fails_13 : decode cX8_fails 13 = .ok (.iconst 0, 1) := by decide +kernel
theorem dX8_fails_14 : decode cX8_fails 14 = .ok (.ireturn, 1) := by decide +kernel
theorem dX8_fails_9 : decode cX8_fails 9 = .ok (.iconst 1, 1) := by decide +kernel
theorem dX8_fails_10 : decode cX8_fails 10 = .ok (.goto 4, 3) := by decide +kernel
set_option maxHeartbeats 400000 in
set_option maxRecDepth 20000 in
theorem ct_X8_fails (l : Launch) (D : va_G) (dA : Nat → ClassId) (hst : l.stackTraces = false) (M : jM) (m : Nat) (hM : mOk M m) (x : Int32) : jCT l D dA yX8_fails wsX8_fails (20) (300) (0) (0) 1 [.ref (m), .int (x)] M (jPo (oI (jb (decide (0 < x)))) (jSi M m 11 x)) := by
  refine jBody (cc := cX8_fails) (nL := 2) (rt := (some .boolean)) (ini := false) (by decide) rfl hst (Nat.le_of_ble_eq_true rfl) (by simp [Value.category]) (by intro h9; first | exact absurd h9 (by decide) | rfl) ?_
  show J l D dA RX8 cX8_fails wsX8_fails 2 false (some .boolean) [] (20) (300) (jF D dA (jn M) (jPo (oI (jb (decide (0 < x)))) (jSi M m 11 x)) 1) (jn M) (0) (0) (M) 0 [.ref (m), .int (x)] []
  obtain ⟨m1, m2, ⟨r1, r2, r3, r4, r5, r6, r7, r8, r9, r10, r11, r12, r13⟩, ⟨k1, k2, k3, k4, k5, k6, k7, k8, k9, k10, k11, k12, k13⟩, z1, z2, z3, z4, z5, z6, z7, z8, z9, z10, z11, z12, z13⟩ := id hM
  refine J_aload_n (m) dX8_fails_0 rfl rfl ?_
  refine J_iload_n dX8_fails_1 rfl rfl ?_
  refine J_puti (j := 11) (x := (x)) dX8_fails_2 (fun _ h => List.mem_cons_of_mem _ (List.mem_append_right _ (h))) cs11 cty11 (by decide) rfl (List.mem_of_getElem? (i := 1) rfl) rfl rfl ⟨rfl, rfl⟩ (show m < jn M from by omega) m2 ?_
  refine J_iload_n dX8_fails_5 rfl rfl ?_
  refine J_if_le dX8_fails_6 (tgt := 13) (by decide) (fun c6 => ?_) (fun c6 => ?_)
  · refine J_iconst (x := 0) dX8_fails_13 (by decide) ?_
    exact J_iret (ty := .boolean) dX8_fails_14 rfl (by rfl) ⟨(by first | (rw [decide_eq_true (by first | exact Int32.not_le.mp c6 | exact c6)]; rfl) | (rw [decide_eq_false (by first | exact Int32.not_lt.mpr c6 | exact c6)]; rfl) | fail "f"), (by rfl)⟩
  · refine J_iconst (x := 1) dX8_fails_9 (by decide) ?_
    refine J_goto (tgt := 14) dX8_fails_10 (by decide) ?_
    exact J_iret (ty := .boolean) dX8_fails_14 rfl (by rfl) ⟨(by first | (rw [decide_eq_true (by first | exact Int32.not_le.mp c6 | exact c6)]; rfl) | (rw [decide_eq_false (by first | exact Int32.not_lt.mpr c6 | exact c6)]; rfl) | fail "f"), (by rfl)⟩

theorem dX8_isSlot_0 : decode cX8_isSlot 0 = .ok (.iload_n 0, 1) := by decide +kernel
theorem dX8_isSlot_1 : decode cX8_isSlot 1 = .ok (.ifCond .lt 13, 3) := by decide +kernel
theorem dX8_isSlot_14 : decode cX8_isSlot 14 = .ok (.iconst 0, 1) := by decide +kernel
theorem dX8_isSlot_15 : decode cX8_isSlot 15 = .ok (.ireturn, 1) := by decide +kernel
theorem dX8_isSlot_4 : decode cX8_isSlot 4 = .ok (.iload_n 0, 1) := by decide +kernel
theorem dX8_isSlot_5 : decode cX8_isSlot 5 = .ok (.bipush 12, 2) := by decide +kernel
theorem dX8_isSlot_7 : decode cX8_isSlot 7 = .ok (.if_icmp .ge 7, 3) := by decide +kernel
theorem dX8_isSlot_10 : decode cX8_isSlot 10 = .ok (.iconst 1, 1) := by decide +kernel
theorem dX8_isSlot_11 : decode cX8_isSlot 11 = .ok (.goto 4, 3) := by decide +kernel
set_option maxHeartbeats 400000 in
set_option maxRecDepth 20000 in
theorem ct_X8_isSlot (l : Launch) (D : va_G) (dA : Nat → ClassId) (hst : l.stackTraces = false) (M : jM) (s : Int32) : jCT l D dA yX8_isSlot wsX8_isSlot (20) (300) (0) (0) 1 [.int (s)] M (jPo (oI (jb (okSlot s))) (M)) := by
  refine jBody (cc := cX8_isSlot) (nL := 1) (rt := (some .boolean)) (ini := false) (by decide) rfl hst (Nat.le_of_ble_eq_true rfl) (by simp [Value.category]) (by intro h9; first | exact absurd h9 (by decide) | rfl) ?_
  show J l D dA RX8 cX8_isSlot wsX8_isSlot 1 false (some .boolean) [] (20) (300) (jF D dA (jn M) (jPo (oI (jb (okSlot s))) (M)) 1) (jn M) (0) (0) (M) 0 [.int (s)] []
  refine J_iload_n dX8_isSlot_0 rfl rfl ?_
  refine J_if_lt dX8_isSlot_1 (tgt := 14) (by decide) (fun c1 => ?_) (fun c1 => ?_)
  · refine J_iconst (x := 0) dX8_isSlot_14 (by decide) ?_
    exact J_iret (ty := .boolean) dX8_isSlot_15 rfl (by rfl) ⟨(by simp [okSlot, jb, *]), (by rfl)⟩
  · refine J_iload_n dX8_isSlot_4 rfl rfl ?_
    refine J_bipush (x := 12) dX8_isSlot_5 (by decide) ?_
    refine J_icmp_ge dX8_isSlot_7 (tgt := 14) (by decide) (fun c7 => ?_) (fun c7 => ?_)
    · refine J_iconst (x := 0) dX8_isSlot_14 (by decide) ?_
      exact J_iret (ty := .boolean) dX8_isSlot_15 rfl (by rfl) ⟨(by simp [okSlot, jb, *]), (by rfl)⟩
    · refine J_iconst (x := 1) dX8_isSlot_10 (by decide) ?_
      refine J_goto (tgt := 15) dX8_isSlot_11 (by decide) ?_
      exact J_iret (ty := .boolean) dX8_isSlot_15 rfl (by rfl) ⟨(by simp [okSlot, jb, *]), (by rfl)⟩

theorem dX8_isVersion_0 : decode cX8_isVersion 0 = .ok (.iload_n 0, 1) := by decide +kernel
theorem dX8_isVersion_1 : decode cX8_isVersion 1 = .ok (.ifCond .lt 13, 3) := by decide +kernel
theorem dX8_isVersion_14 : decode cX8_isVersion 14 = .ok (.iconst 0, 1) := by decide +kernel
theorem dX8_isVersion_15 : decode cX8_isVersion 15 = .ok (.ireturn, 1) := by decide +kernel
theorem dX8_isVersion_4 : decode cX8_isVersion 4 = .ok (.iload_n 0, 1) := by decide +kernel
theorem dX8_isVersion_5 : decode cX8_isVersion 5 = .ok (.ldc 59, 2) := by decide +kernel
theorem dX8_isVersion_7 : decode cX8_isVersion 7 = .ok (.if_icmp .gt 7, 3) := by decide +kernel
theorem dX8_isVersion_10 : decode cX8_isVersion 10 = .ok (.iconst 1, 1) := by decide +kernel
theorem dX8_isVersion_11 : decode cX8_isVersion 11 = .ok (.goto 4, 3) := by decide +kernel
set_option maxHeartbeats 400000 in
set_option maxRecDepth 20000 in
theorem ct_X8_isVersion (l : Launch) (D : va_G) (dA : Nat → ClassId) (hst : l.stackTraces = false) (M : jM) (x : Int32) : jCT l D dA yX8_isVersion wsX8_isVersion (20) (300) (0) (0) 1 [.int (x)] M (jPo (oI (jb (okVer x))) (M)) := by
  refine jBody (cc := cX8_isVersion) (nL := 1) (rt := (some .boolean)) (ini := false) (by decide) rfl hst (Nat.le_of_ble_eq_true rfl) (by simp [Value.category]) (by intro h9; first | exact absurd h9 (by decide) | rfl) ?_
  show J l D dA RX8 cX8_isVersion wsX8_isVersion 1 false (some .boolean) [] (20) (300) (jF D dA (jn M) (jPo (oI (jb (okVer x))) (M)) 1) (jn M) (0) (0) (M) 0 [.int (x)] []
  refine J_iload_n dX8_isVersion_0 rfl rfl ?_
  refine J_if_lt dX8_isVersion_1 (tgt := 14) (by decide) (fun c1 => ?_) (fun c1 => ?_)
  · refine J_iconst (x := 0) dX8_isVersion_14 (by decide) ?_
    exact J_iret (ty := .boolean) dX8_isVersion_15 rfl (by rfl) ⟨(by first | (simp [okVer, jb, *]; done) | (simp [okVer, jb, Int32.not_lt.mp, Int32.not_le.mp, *]; done) | fail "v"), (by rfl)⟩
  · refine J_iload_n dX8_isVersion_4 rfl rfl ?_
    refine J_ldc (x := 99999999) dX8_isVersion_5 (List.mem_of_getElem? (i := 1) rfl) ?_
    refine J_icmp_gt dX8_isVersion_7 (tgt := 14) (by decide) (fun c7 => ?_) (fun c7 => ?_)
    · refine J_iconst (x := 0) dX8_isVersion_14 (by decide) ?_
      exact J_iret (ty := .boolean) dX8_isVersion_15 rfl (by rfl) ⟨(by first | (simp [okVer, jb, *]; done) | (simp [okVer, jb, Int32.not_lt.mp, Int32.not_le.mp, *]; done) | fail "v"), (by rfl)⟩
    · refine J_iconst (x := 1) dX8_isVersion_10 (by decide) ?_
      refine J_goto (tgt := 15) dX8_isVersion_11 (by decide) ?_
      exact J_iret (ty := .boolean) dX8_isVersion_15 rfl (by rfl) ⟨(by first | (simp [okVer, jb, *]; done) | (simp [okVer, jb, Int32.not_lt.mp, Int32.not_le.mp, *]; done) | fail "v"), (by rfl)⟩

theorem dX8_isEarly_0 : decode cX8_isEarly 0 = .ok (.iload_n 0, 1) := by decide +kernel
theorem dX8_isEarly_1 : decode cX8_isEarly 1 = .ok (.bipush 100, 2) := by decide +kernel
theorem dX8_isEarly_3 : decode cX8_isEarly 3 = .ok (.irem, 1) := by decide +kernel
theorem dX8_isEarly_4 : decode cX8_isEarly 4 = .ok (.bipush 99, 2) := by decide +kernel
theorem dX8_isEarly_6 : decode cX8_isEarly 6 = .ok (.if_icmp .eq 7, 3) := by decide +kernel
theorem dX8_isEarly_13 : decode cX8_isEarly 13 = .ok (.iconst 0, 1) := by decide +kernel
theorem dX8_isEarly_14 : decode cX8_isEarly 14 = .ok (.ireturn, 1) := by decide +kernel
theorem dX8_isEarly_9 : decode cX8_isEarly 9 = .ok (.iconst 1, 1) := by decide +kernel
theorem dX8_isEarly_10 : decode cX8_isEarly 10 = .ok (.goto 4, 3) := by decide +kernel
set_option maxHeartbeats 400000 in
set_option maxRecDepth 20000 in
theorem ct_X8_isEarly (l : Launch) (D : va_G) (dA : Nat → ClassId) (hst : l.stackTraces = false) (M : jM) (x : Int32) : jCT l D dA yX8_isEarly wsX8_isEarly (20) (300) (0) (0) 1 [.int (x)] M (jPo (oI (jb (vPre x))) (M)) := by
  refine jBody (cc := cX8_isEarly) (nL := 1) (rt := (some .boolean)) (ini := false) (by decide) rfl hst (Nat.le_of_ble_eq_true rfl) (by simp [Value.category]) (by intro h9; first | exact absurd h9 (by decide) | rfl) ?_
  show J l D dA RX8 cX8_isEarly wsX8_isEarly 1 false (some .boolean) [] (20) (300) (jF D dA (jn M) (jPo (oI (jb (vPre x))) (M)) 1) (jn M) (0) (0) (M) 0 [.int (x)] []
  refine J_iload_n dX8_isEarly_0 rfl rfl ?_
  refine J_bipush (x := 100) dX8_isEarly_1 (by decide) ?_
  refine J_irem dX8_isEarly_3 (by decide) ?_
  refine J_bipush (x := 99) dX8_isEarly_4 (by decide) ?_
  refine J_icmp_eq dX8_isEarly_6 (tgt := 13) (by decide) (fun c6 => ?_) (fun c6 => ?_)
  · refine J_iconst (x := 0) dX8_isEarly_13 (by decide) ?_
    exact J_iret (ty := .boolean) dX8_isEarly_14 rfl (by rfl) ⟨(by simp [jb, vPre, *]), (by rfl)⟩
  · refine J_iconst (x := 1) dX8_isEarly_9 (by decide) ?_
    refine J_goto (tgt := 14) dX8_isEarly_10 (by decide) ?_
    exact J_iret (ty := .boolean) dX8_isEarly_14 rfl (by rfl) ⟨(by simp [jb, vPre, *]), (by rfl)⟩

theorem dX8_isEmpty_0 : decode cX8_isEmpty 0 = .ok (.aload_n 0, 1) := by decide +kernel
theorem dX8_isEmpty_1 : decode cX8_isEmpty 1 = .ok (.getfield 9, 3) := by decide +kernel
theorem dX8_isEmpty_4 : decode cX8_isEmpty 4 = .ok (.bipush 33, 2) := by decide +kernel
theorem dX8_isEmpty_6 : decode cX8_isEmpty 6 = .ok (.iload_n 1, 1) := by decide +kernel
theorem dX8_isEmpty_7 : decode cX8_isEmpty 7 = .ok (.imul, 1) := by decide +kernel
theorem dX8_isEmpty_8 : decode cX8_isEmpty 8 = .ok (.iaload, 1) := by decide +kernel
theorem dX8_isEmpty_9 : decode cX8_isEmpty 9 = .ok (.ifCond .ge 7, 3) := by decide +kernel
theorem dX8_isEmpty_16 : decode cX8_isEmpty 16 = .ok (.iconst 0, 1) := by decide +kernel
theorem dX8_isEmpty_17 : decode cX8_isEmpty 17 = .ok (.ireturn, 1) := by decide +kernel
theorem dX8_isEmpty_12 : decode cX8_isEmpty 12 = .ok (.iconst 1, 1) := by decide +kernel
theorem dX8_isEmpty_13 : decode cX8_isEmpty 13 = .ok (.goto 4, 3) := by decide +kernel
set_option maxHeartbeats 400000 in
set_option maxRecDepth 20000 in
theorem ct_X8_isEmpty (l : Launch) (D : va_G) (dA : Nat → ClassId) (hst : l.stackTraces = false) (M : jM) (m : Nat) (hM : mOk M m) (k : Nat) (hk : k < 12) (x : Option rVl) (hx : mSlot (ji M (m + 1)) (33 * k) x) : jCT l D dA yX8_isEmpty wsX8_isEmpty (20) (300) (0) (0) 1 [.ref (m), .int (nI (k))] M (jPo (oI (jb x.isNone)) (M)) := by
  refine jBody (cc := cX8_isEmpty) (nL := 2) (rt := (some .boolean)) (ini := false) (by decide) rfl hst (Nat.le_of_ble_eq_true rfl) (by simp [Value.category]) (by intro h9; first | exact absurd h9 (by decide) | rfl) ?_
  show J l D dA RX8 cX8_isEmpty wsX8_isEmpty 2 false (some .boolean) [] (20) (300) (jF D dA (jn M) (jPo (oI (jb x.isNone)) (M)) 1) (jn M) (0) (0) (M) 0 [.ref (m), .int (nI (k))] []
  obtain ⟨m1, m2, ⟨r1, r2, r3, r4, r5, r6, r7, r8, r9, r10, r11, r12, r13⟩, ⟨k1, k2, k3, k4, k5, k6, k7, k8, k9, k10, k11, k12, k13⟩, z1, z2, z3, z4, z5, z6, z7, z8, z9, z10, z11, z12, z13⟩ := id hM
  refine J_aload_n (m) dX8_isEmpty_0 rfl rfl ?_
  refine J_getrs (q := m + 1) r1 dX8_isEmpty_1 (fun _ h => List.mem_cons_of_mem _ (List.mem_append_left _ (List.mem_append_right _ (h)))) cs11 (by decide) rfl (List.mem_of_getElem? (i := 1) rfl) rfl (show m < jn M from by omega) m2 ?_
  refine J_bipush (x := 33) dX8_isEmpty_4 (by decide) ?_
  refine J_iload_n dX8_isEmpty_6 rfl rfl ?_
  refine J_imul dX8_isEmpty_7 ?_
  refine J_topi (y := nI (33 * k)) (pk_mul (33) (k)) ?_
  refine J_ialdN (k := 33 * k) dX8_isEmpty_8 (show m + 1 < jn M from by omega) k1 (by exact Nat.lt_of_lt_of_eq (show _ < 427 by omega) (Eq.symm z1)) (by exact Nat.lt_of_le_of_lt (Nat.le_of_eq z1) (show 427 < 2 ^ 31 by omega)) ?_
  refine J_if_ge dX8_isEmpty_9 (tgt := 16) (by decide) (fun c9 => ?_) (fun c9 => ?_)
  · refine J_iconst (x := 0) dX8_isEmpty_16 (by decide) ?_
    exact J_iret (ty := .boolean) dX8_isEmpty_17 rfl (by rfl) ⟨(by first | (rw [mSlot_neg hx] at c9; rw [c9]; rfl) | (rw [mSlot_neg hx, Bool.not_eq_false] at c9; rw [c9]; rfl) | (rw [ge_iff_le, mSlot_neg hx] at c9; rw [c9]; rfl) | fail "e"), (by rfl)⟩
  · refine J_iconst (x := 1) dX8_isEmpty_12 (by decide) ?_
    refine J_goto (tgt := 17) dX8_isEmpty_13 (by decide) ?_
    exact J_iret (ty := .boolean) dX8_isEmpty_17 rfl (by rfl) ⟨(by first | (rw [mSlot_neg hx] at c9; rw [c9]; rfl) | (rw [mSlot_neg hx, Bool.not_eq_false] at c9; rw [c9]; rfl) | (rw [ge_iff_le, mSlot_neg hx] at c9; rw [c9]; rfl) | fail "e"), (by rfl)⟩

theorem dX8_gives_0 : decode cX8_gives 0 = .ok (.iload_n 0, 1) := by decide +kernel
theorem dX8_gives_1 : decode cX8_gives 1 = .ok (.lookupswitch 77 #[(38, 49), (43, 35), (45, 63)], 35) := by decide +kernel
theorem dX8_gives_50 : decode cX8_gives 50 = .ok (.iload_n 1, 1) := by decide +kernel
theorem dX8_gives_51 : decode cX8_gives 51 = .ok (.ifCond .eq 11, 3) := by decide +kernel
theorem dX8_gives_62 : decode cX8_gives 62 = .ok (.iconst 0, 1) := by decide +kernel
theorem dX8_gives_63 : decode cX8_gives 63 = .ok (.ireturn, 1) := by decide +kernel
theorem dX8_gives_54 : decode cX8_gives 54 = .ok (.iload_n 2, 1) := by decide +kernel
theorem dX8_gives_55 : decode cX8_gives 55 = .ok (.ifCond .eq 7, 3) := by decide +kernel
theorem dX8_gives_58 : decode cX8_gives 58 = .ok (.iconst 1, 1) := by decide +kernel
theorem dX8_gives_59 : decode cX8_gives 59 = .ok (.goto 4, 3) := by decide +kernel
theorem dX8_gives_36 : decode cX8_gives 36 = .ok (.iload_n 1, 1) := by decide +kernel
theorem dX8_gives_37 : decode cX8_gives 37 = .ok (.ifCond .ne 7, 3) := by decide +kernel
theorem dX8_gives_44 : decode cX8_gives 44 = .ok (.iconst 1, 1) := by decide +kernel
theorem dX8_gives_45 : decode cX8_gives 45 = .ok (.goto 4, 3) := by decide +kernel
theorem dX8_gives_49 : decode cX8_gives 49 = .ok (.ireturn, 1) := by decide +kernel
theorem dX8_gives_40 : decode cX8_gives 40 = .ok (.iload_n 2, 1) := by decide +kernel
theorem dX8_gives_41 : decode cX8_gives 41 = .ok (.ifCond .eq 7, 3) := by decide +kernel
theorem dX8_gives_48 : decode cX8_gives 48 = .ok (.iconst 0, 1) := by decide +kernel
theorem dX8_gives_64 : decode cX8_gives 64 = .ok (.iload_n 1, 1) := by decide +kernel
theorem dX8_gives_65 : decode cX8_gives 65 = .ok (.ifCond .eq 11, 3) := by decide +kernel
theorem dX8_gives_76 : decode cX8_gives 76 = .ok (.iconst 0, 1) := by decide +kernel
theorem dX8_gives_77 : decode cX8_gives 77 = .ok (.ireturn, 1) := by decide +kernel
theorem dX8_gives_68 : decode cX8_gives 68 = .ok (.iload_n 2, 1) := by decide +kernel
theorem dX8_gives_69 : decode cX8_gives 69 = .ok (.ifCond .ne 7, 3) := by decide +kernel
theorem dX8_gives_72 : decode cX8_gives 72 = .ok (.iconst 1, 1) := by decide +kernel
theorem dX8_gives_73 : decode cX8_gives 73 = .ok (.goto 4, 3) := by decide +kernel
theorem dX8_gives_78 : decode cX8_gives 78 = .ok (.iload_n 1, 1) := by decide +kernel
theorem dX8_gives_79 : decode cX8_gives 79 = .ok (.ifCond .ne 7, 3) := by decide +kernel
theorem dX8_gives_86 : decode cX8_gives 86 = .ok (.iconst 0, 1) := by decide +kernel
theorem dX8_gives_87 : decode cX8_gives 87 = .ok (.ireturn, 1) := by decide +kernel
theorem dX8_gives_82 : decode cX8_gives 82 = .ok (.iconst 1, 1) := by decide +kernel
theorem dX8_gives_83 : decode cX8_gives 83 = .ok (.goto 4, 3) := by decide +kernel
set_option maxHeartbeats 400000 in
set_option maxRecDepth 20000 in
theorem ct_X8_gives (l : Launch) (D : va_G) (dA : Nat → ClassId) (hst : l.stackTraces = false) (M : jM) (op : Int32) (a c : Bool) : jCT l D dA yX8_gives wsX8_gives (20) (300) (0) (0) 1 [.int (op), .int (jb (a)), .int (jb (c))] M (jPo (oI (jb (vGv op a c))) (M)) := by
  refine jBody (cc := cX8_gives) (nL := 3) (rt := (some .boolean)) (ini := false) (by decide) rfl hst (Nat.le_of_ble_eq_true rfl) (by simp [Value.category]) (by intro h9; first | exact absurd h9 (by decide) | rfl) ?_
  show J l D dA RX8 cX8_gives wsX8_gives 3 false (some .boolean) [] (20) (300) (jF D dA (jn M) (jPo (oI (jb (vGv op a c))) (M)) 1) (jn M) (0) (0) (M) 0 [.int (op), .int (jb (a)), .int (jb (c))] []
  refine J_iload_n dX8_gives_0 rfl rfl ?_
  by_cases s38 : ((op)) = 38
  · refine J_lookup (tgt := 50) dX8_gives_1 (by decide) (off := 49) (by rw [s38]; decide) (by decide) ?_
    refine J_iload_n dX8_gives_50 rfl rfl ?_
    refine J_if_eq dX8_gives_51 (tgt := 62) (by decide) (fun c51 => ?_) (fun c51 => ?_)
    · have c51 := jb0T c51
      refine J_iconst (x := 0) dX8_gives_62 (by decide) ?_
      exact J_iret (ty := .boolean) dX8_gives_63 rfl (by rfl) ⟨(by simp [jb, vGv, *]), (by rfl)⟩
    · have c51 := jb0F c51
      refine J_iload_n dX8_gives_54 rfl rfl ?_
      refine J_if_eq dX8_gives_55 (tgt := 62) (by decide) (fun c55 => ?_) (fun c55 => ?_)
      · have c55 := jb0T c55
        refine J_iconst (x := 0) dX8_gives_62 (by decide) ?_
        exact J_iret (ty := .boolean) dX8_gives_63 rfl (by rfl) ⟨(by simp [jb, vGv, *]), (by rfl)⟩
      · have c55 := jb0F c55
        refine J_iconst (x := 1) dX8_gives_58 (by decide) ?_
        refine J_goto (tgt := 63) dX8_gives_59 (by decide) ?_
        exact J_iret (ty := .boolean) dX8_gives_63 rfl (by rfl) ⟨(by simp [jb, vGv, *]), (by rfl)⟩
  by_cases s43 : ((op)) = 43
  · refine J_lookup (tgt := 36) dX8_gives_1 (by decide) (off := 35) (by rw [s43]; decide) (by decide) ?_
    refine J_iload_n dX8_gives_36 rfl rfl ?_
    refine J_if_ne dX8_gives_37 (tgt := 44) (by decide) (fun c37 => ?_) (fun c37 => ?_)
    · have c37 := jb0F c37
      refine J_iconst (x := 1) dX8_gives_44 (by decide) ?_
      refine J_goto (tgt := 49) dX8_gives_45 (by decide) ?_
      exact J_iret (ty := .boolean) dX8_gives_49 rfl (by rfl) ⟨(by simp [jb, vGv, *]), (by rfl)⟩
    · have c37 := jb0T c37
      refine J_iload_n dX8_gives_40 rfl rfl ?_
      refine J_if_eq dX8_gives_41 (tgt := 48) (by decide) (fun c41 => ?_) (fun c41 => ?_)
      · have c41 := jb0T c41
        refine J_iconst (x := 0) dX8_gives_48 (by decide) ?_
        exact J_iret (ty := .boolean) dX8_gives_49 rfl (by rfl) ⟨(by simp [jb, vGv, *]), (by rfl)⟩
      · have c41 := jb0F c41
        refine J_iconst (x := 1) dX8_gives_44 (by decide) ?_
        refine J_goto (tgt := 49) dX8_gives_45 (by decide) ?_
        exact J_iret (ty := .boolean) dX8_gives_49 rfl (by rfl) ⟨(by simp [jb, vGv, *]), (by rfl)⟩
  by_cases s45 : ((op)) = 45
  · refine J_lookup (tgt := 64) dX8_gives_1 (by decide) (off := 63) (by rw [s45]; decide) (by decide) ?_
    refine J_iload_n dX8_gives_64 rfl rfl ?_
    refine J_if_eq dX8_gives_65 (tgt := 76) (by decide) (fun c65 => ?_) (fun c65 => ?_)
    · have c65 := jb0T c65
      refine J_iconst (x := 0) dX8_gives_76 (by decide) ?_
      exact J_iret (ty := .boolean) dX8_gives_77 rfl (by rfl) ⟨(by simp [jb, vGv, *]), (by rfl)⟩
    · have c65 := jb0F c65
      refine J_iload_n dX8_gives_68 rfl rfl ?_
      refine J_if_ne dX8_gives_69 (tgt := 76) (by decide) (fun c69 => ?_) (fun c69 => ?_)
      · have c69 := jb0F c69
        refine J_iconst (x := 0) dX8_gives_76 (by decide) ?_
        exact J_iret (ty := .boolean) dX8_gives_77 rfl (by rfl) ⟨(by simp [jb, vGv, *]), (by rfl)⟩
      · have c69 := jb0T c69
        refine J_iconst (x := 1) dX8_gives_72 (by decide) ?_
        refine J_goto (tgt := 77) dX8_gives_73 (by decide) ?_
        exact J_iret (ty := .boolean) dX8_gives_77 rfl (by rfl) ⟨(by simp [jb, vGv, *]), (by rfl)⟩
  refine J_lookup (tgt := 78) dX8_gives_1 (by decide) (off := 77) (by show Op.lookupswitch.offset [(38, 49), (43, 35), (45, 63)] 77 _ = _; rw [lv_osw (k := 38) s38 (by decide), lv_osw (k := 43) s43 (by decide), lv_osw (k := 45) s45 (by decide)]; rfl) (by decide) ?_
  refine J_iload_n dX8_gives_78 rfl rfl ?_
  refine J_if_ne dX8_gives_79 (tgt := 86) (by decide) (fun c79 => ?_) (fun c79 => ?_)
  · have c79 := jb0F c79
    refine J_iconst (x := 0) dX8_gives_86 (by decide) ?_
    exact J_iret (ty := .boolean) dX8_gives_87 rfl (by rfl) ⟨(by simp [jb, vGv, *]), (by rfl)⟩
  · have c79 := jb0T c79
    refine J_iconst (x := 1) dX8_gives_82 (by decide) ?_
    refine J_goto (tgt := 87) dX8_gives_83 (by decide) ?_
    exact J_iret (ty := .boolean) dX8_gives_87 rfl (by rfl) ⟨(by simp [jb, vGv, *]), (by rfl)⟩

