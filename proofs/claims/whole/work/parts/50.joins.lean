/-- what an operation gives, change by change: by what holds, and by what comes next -/
def uS (mt : Int32 → Bool) (nx : Int32 → Int32) : Nat → Int32 → Nat → (Nat → Int32) → Nat × (Nat → Int32)
  | 0, _, len, f => (len, f)
  | fu + 1, x, len, f =>
    if 99999999 < x then (len, f) else
    if mt x then
      if 0 < len ∧ f (len - 1) = x - 1 then uS mt nx fu (nx x) len (upd f (len - 1) (nx x - 1))
      else uS mt nx fu (nx x) (len + 2) (upd (upd f len x) (len + 1) (nx x - 1))
    else uS mt nx fu (nx x) len f
theorem uS_e {mt : Int32 → Bool} {nx : Int32 → Int32} {x : Int32} {len : Nat} {f : Nat → Int32} (fu : Nat) (h : 99999999 < x) : uS mt nx fu x len f = (len, f) := by
  cases fu with
  | zero => rfl
  | succ fu => unfold uS; rw [if_pos h]
/-- what comes next is greater, and not without end -/
def nxOk (nx : Int32 → Int32) (c : Nat → Nat) : Prop := ∀ p, p < 100000000 → ∃ x, nx (nI p) = nI x ∧ p < x ∧ x ≤ 100000000 ∧ (x < 100000000 → c x < c p)
theorem uS_fu {mt : Int32 → Bool} {nx : Int32 → Int32} {c : Nat → Nat} (hn : nxOk nx c) : ∀ fu fu2 p len f, p ≤ 100000000 → (p < 100000000 → c p < fu ∧ c p < fu2) → uS mt nx fu (nI p) len f = uS mt nx fu2 (nI p) len f := by
  intro fu
  induction fu with
  | zero =>
    intro fu2 p len f hp h
    have h9 : p = 100000000 := Nat.le_antisymm hp (Nat.not_lt.mp (fun h8 => absurd (h h8).1 (Nat.not_lt_zero _)))
    rw [uS_e _ ((nI_most hp).mpr h9), uS_e _ ((nI_most hp).mpr h9)]
  | succ fu ih =>
    intro fu2 p len f hp h
    by_cases h9 : p = 100000000
    · rw [uS_e _ ((nI_most hp).mpr h9), uS_e _ ((nI_most hp).mpr h9)]
    · have hp2 : p < 100000000 := by omega
      cases fu2 with
      | zero => exact absurd (h hp2).2 (Nat.not_lt_zero _)
      | succ fu2 =>
        obtain ⟨x, e, h1, h2, h3⟩ := hn p hp2
        have h4 := h hp2
        have hx : x < 100000000 → c x < fu ∧ c x < fu2 := fun h8 => ⟨by have := h3 h8; omega, by have := h3 h8; omega⟩
        unfold uS
        rw [e, ih fu2 x _ _ h2 hx, ih fu2 x _ _ h2 hx, ih fu2 x _ _ h2 hx]
theorem uS_eq {mt mt2 : Int32 → Bool} {nx nx2 : Int32 → Int32} {c : Nat → Nat} (hn : nxOk nx c) (h : ∀ p, p < 100000000 → mt (nI p) = mt2 (nI p) ∧ nx (nI p) = nx2 (nI p)) : ∀ fu p len f, p ≤ 100000000 → uS mt nx fu (nI p) len f = uS mt2 nx2 fu (nI p) len f := by
  intro fu
  induction fu with
  | zero => intro p len f _; rfl
  | succ fu ih =>
    intro p len f hp
    by_cases h9 : p = 100000000
    · rw [uS_e _ ((nI_most hp).mpr h9), uS_e _ ((nI_most hp).mpr h9)]
    · obtain ⟨x, e, h1, h2, h3⟩ := hn p (by omega)
      obtain ⟨a, b⟩ := h p (by omega)
      unfold uS
      rw [← a, ← b, e, ih x _ _ h2, ih x _ _ h2, ih x _ _ h2]
/-- the gatherer's room is never short -/
theorem rcS_uS {op : Int32} {e1 : Nat → Int32} {n1 : Nat} {e2 : Nat → Int32} {n2 cap : Nat} (hc : cap % 2 = 0) : ∀ fu x len f, len % 2 = 0 → len + fu ≤ cap + 1 → (¬ (0 < len ∧ f (len - 1) = x - 1) → len + fu ≤ cap) →
    rcS op e1 n1 e2 n2 cap fu x len f = uS (fun y => vMeets op (rHolds e1 n1 y) (rHolds e2 n2 y)) (fun y => rMin (rNext e1 n1 y) (rNext e2 n2 y)) fu x len f := by
  intro fu
  induction fu with
  | zero => intro x len f _ _ _; rfl
  | succ fu ih =>
    intro x len f h1 h2 h3
    unfold rcS uS
    by_cases hx : 99999999 < x
    · rw [if_pos hx, if_pos hx]
    · rw [if_neg hx, if_neg hx]
      by_cases hm : vMeets op (rHolds e1 n1 x) (rHolds e2 n2 x) = true
      · rw [if_pos hm, if_pos hm]
        by_cases hj : 0 < len ∧ f (len - 1) = x - 1
        · rw [if_pos hj, if_pos hj]
          exact ih _ _ _ h1 (by omega) (fun _ => by omega)
        · have h4 := h3 hj
          rw [if_neg hj, if_neg hj, if_pos (by omega)]
          exact ih _ _ _ (by omega) (by omega) (fun h9 => absurd ⟨by omega, by simp [upd]⟩ h9)
      · rw [if_neg hm, if_neg hm]
        exact ih _ _ _ h1 (by omega) (fun _ => by omega)
/-- what lies behind the gathered doesn't matter -/
theorem uS_pre {mt : Int32 → Bool} {nx : Int32 → Int32} : ∀ fu x len f g, (∀ j, j < len → f j = g j) → (uS mt nx fu x len f).1 = (uS mt nx fu x len g).1 ∧ ∀ j, j < (uS mt nx fu x len f).1 → (uS mt nx fu x len f).2 j = (uS mt nx fu x len g).2 j := by
  intro fu
  induction fu with
  | zero => intro x len f g h; exact ⟨rfl, h⟩
  | succ fu ih =>
    intro x len f g h
    unfold uS
    by_cases hx : 99999999 < x
    · rw [if_pos hx, if_pos hx]; exact ⟨rfl, h⟩
    · rw [if_neg hx, if_neg hx]
      by_cases hm : mt x = true
      · rw [if_pos hm, if_pos hm]
        by_cases hj : 0 < len ∧ f (len - 1) = x - 1
        · rw [if_pos hj, if_pos ⟨hj.1, by rw [← h (len - 1) (by omega)]; exact hj.2⟩]
          refine ih _ _ _ _ (fun j hj2 => ?_)
          unfold upd
          split
          · rfl
          · exact h j hj2
        · rw [if_neg hj, if_neg (fun h9 => hj ⟨h9.1, by rw [h (len - 1) (by omega)]; exact h9.2⟩)]
          refine ih _ _ _ _ (fun j hj2 => ?_)
          unfold upd
          split
          · rfl
          · split
            · rfl
            · exact h j (by omega)
      · rw [if_neg hm, if_neg hm]; exact ih _ _ _ _ h
/-- how many changes are still to come -/
def rTg (w : rVl) (x : Int32) : Nat := if rsf w.2 w.1 x < w.1 then (if x < w.2 (2 * rsf w.2 w.1 x) then 2 * (w.1 - rsf w.2 w.1 x) else 2 * (w.1 - rsf w.2 w.1 x) - 1) else 0
theorem rsf_mono {w : rVl} {x y : Int32} (h : x ≤ y) : rsf w.2 w.1 x ≤ rsf w.2 w.1 y := by
  have hs := rsf_spec w.2 w.1 x
  have hs2 := rsf_spec w.2 w.1 y
  have hl := rsf_le w.2 w.1 x
  refine Nat.not_lt.mp (fun h9 => ?_)
  exact hs.1 _ h9 (Int32.le_trans h (hs2.2 (by omega)))
theorem rTg_mono {w : rVl} {x y : Int32} (h : x ≤ y) : rTg w y ≤ rTg w x := by
  have h1 := rsf_mono (w := w) h
  unfold rTg
  by_cases hy : rsf w.2 w.1 y < w.1
  · rw [if_pos hy, if_pos (show rsf w.2 w.1 x < w.1 from by omega)]
    by_cases he : rsf w.2 w.1 y = rsf w.2 w.1 x
    · rw [he]
      by_cases h2 : x < w.2 (2 * rsf w.2 w.1 x)
      · rw [if_pos h2]; split <;> omega
      · rw [if_neg h2, if_neg (fun h9 => h2 (Int32.lt_of_le_of_lt h h9))]
        exact Nat.le_refl _
    · split <;> split <;> omega
  · rw [if_neg hy]; exact Nat.zero_le _
theorem rTg_le {w : rVl} {x : Int32} : rTg w x ≤ 2 * w.1 := by unfold rTg; split; split <;> omega; omega
theorem rNext_nat {w : rVl} (hw : rWf w) {p : Nat} (hp : p < 100000000) : ∃ x, rNext w.2 w.1 (nI p) = nI x ∧ p < x ∧ x ≤ 100000000 ∧ (x < 100000000 → rTg w (nI x) < rTg w (nI p)) := by
  have hs := rsf_spec w.2 w.1 (nI p)
  have hl := rsf_le w.2 w.1 (nI p)
  by_cases hr : rsf w.2 w.1 (nI p) < w.1
  · obtain ⟨a, ea, la, ta⟩ := hw.at (i := 2 * rsf w.2 w.1 (nI p)) (by omega)
    obtain ⟨b, eb, lb, tb⟩ := hw.at (i := 2 * rsf w.2 w.1 (nI p) + 1) (by omega)
    have hab := hw.2.1 _ hr
    rw [ta, tb] at hab
    have h2 := hs.2 hr
    rw [eb] at h2
    have hpb := (nI_leN (by omega) (by omega)).mp h2
    by_cases h1 : nI p < nI a
    · have hpa : p < a := Nat.not_le.mp (fun h9 => absurd h1 (Int32.not_lt.mpr ((nI_leN (by omega) (by omega)).mpr h9)))
      refine ⟨a, ?_, hpa, by omega, fun _ => ?_⟩
      · unfold rNext rFirst; rw [if_neg (by omega), if_pos hr, ea, if_pos h1]
      · have hra : rsf w.2 w.1 (nI a) = rsf w.2 w.1 (nI p) := by
          refine rsf_is (fun j hj h9 => ?_) (fun _ => ?_) (by omega)
          · have h8 := wf_lt hw hj hr
            rw [ea] at h8
            exact absurd h9 (Int32.not_le.mpr h8)
          · rw [eb]; exact (nI_leN (by omega) (by omega)).mpr hab
        unfold rTg
        rw [hra, if_pos hr, if_pos hr, ea, if_pos h1, if_neg (Int32.not_lt.mpr (Int32.le_refl _))]
        omega
    · refine ⟨b + 1, ?_, by omega, by omega, fun hx => ?_⟩
      · unfold rNext rFirst rLast; rw [if_neg (by omega), if_pos hr, ea, if_neg h1, if_pos hr, eb]; exact nI_add b 1
      · have h5 : rsf w.2 w.1 (nI p) < rsf w.2 w.1 (nI (b + 1)) := by
          have h6 := rsf_spec w.2 w.1 (nI (b + 1))
          have h7 := rsf_mono (w := w) (x := nI p) (y := nI (b + 1)) ((nI_leN (by omega) (by omega)).mpr (by omega))
          refine Nat.lt_of_le_of_ne h7 (fun h8 => ?_)
          have h9 := h6.2 (by omega)
          rw [← h8, eb] at h9
          have := (nI_leN (by omega) (by omega)).mp h9
          omega
        have e2 : rTg w (nI p) = 2 * (w.1 - rsf w.2 w.1 (nI p)) - 1 := by unfold rTg; rw [if_pos hr, ea, if_neg h1]
        rw [e2]
        unfold rTg
        split
        · split <;> omega
        · omega
  · exact ⟨100000000, by unfold rNext; rw [if_pos (by omega)]; rfl, by omega, Nat.le_refl _, fun h => absurd h (Nat.lt_irrefl _)⟩
theorem rMin_n {a b2 : Nat} (ha : a ≤ 100000000) (hb : b2 ≤ 100000000) : rMin (nI a) (nI b2) = nI (min a b2) := by
  unfold rMin
  by_cases h : nI b2 < nI a
  · have : b2 < a := Nat.not_le.mp (fun h9 => absurd h (Int32.not_lt.mpr ((nI_leN (by omega) (by omega)).mpr h9)))
    rw [if_pos h, show min a b2 = b2 from by omega]
  · have : a ≤ b2 := (nI_leN (by omega) (by omega)).mp (Int32.not_lt.mp h)
    rw [if_neg h, show min a b2 = a from by omega]
theorem nx_two {w1 w2 : rVl} (h1 : rWf w1) (h2 : rWf w2) : nxOk (fun y => rMin (rNext w1.2 w1.1 y) (rNext w2.2 w2.1 y)) (fun p => rTg w1 (nI p) + rTg w2 (nI p)) := by
  intro p hp
  obtain ⟨x, ex, a1, a2, a3⟩ := rNext_nat h1 hp
  obtain ⟨y, ey, b1, b2, b3⟩ := rNext_nat h2 hp
  refine ⟨min x y, by show rMin _ _ = _; rw [ex, ey, rMin_n a2 b2], by omega, by omega, fun h9 => ?_⟩
  have m1 := rTg_mono (w := w1) (x := nI p) (y := nI (min x y)) ((nI_leN (by omega) (by omega)).mpr (by omega))
  have m2 := rTg_mono (w := w2) (x := nI p) (y := nI (min x y)) ((nI_leN (by omega) (by omega)).mpr (by omega))
  show rTg w1 (nI (min x y)) + rTg w2 (nI (min x y)) < rTg w1 (nI p) + rTg w2 (nI p)
  rcases Nat.le_total x y with h | h
  · rw [show min x y = x from by omega] at *
    have := a3 h9
    omega
  · rw [show min x y = y from by omega] at *
    have := b3 h9
    omega
