theorem rTg_in {w : rVl} {x : Int32} (h : rHolds w.2 w.1 x = true) : 1 ≤ rTg w x := by
  have hr := rHolds_lt h
  unfold rHolds rFirst at h
  rw [Bool.and_eq_true, if_pos hr] at h
  unfold rTg
  rw [if_pos hr, if_neg (Int32.not_lt.mpr (of_decide_eq_true h.2))]
  omega
/-- how many spans are made at most -/
theorem uS_cnt {mt : Int32 → Bool} {nx : Int32 → Int32} {c : Nat → Nat} (hn : nxOk nx c) (hm : ∀ p, p < 100000000 → mt (nI p) = true → 1 ≤ c p) : ∀ fu p len f, p ≤ 100000000 →
    (uS mt nx fu (nI p) len f).1 ≤ len + 2 * (((if p < 100000000 then c p else 0) + (if 0 < len ∧ f (len - 1) = nI p - 1 then 0 else 1)) / 2) := by
  intro fu
  induction fu with
  | zero => intro p len f _; exact Nat.le_add_right _ _
  | succ fu ih =>
    intro p len f hp
    by_cases h9 : p = 100000000
    · rw [uS_e _ ((nI_most hp).mpr h9)]; exact Nat.le_add_right _ _
    · have hp2 : p < 100000000 := by omega
      obtain ⟨x, e, h1, h2, h3⟩ := hn p hp2
      rw [if_pos hp2]
      by_cases hmt : mt (nI p) = true
      · have hc := hm p hp2 hmt
        by_cases hj : 0 < len ∧ f (len - 1) = nI p - 1
        · rw [uS_m (most_n hp2) hmt hj, e, if_pos hj]
          have := ih x len (upd f (len - 1) (nI x - 1)) h2
          rw [if_pos (show 0 < len ∧ upd f (len - 1) (nI x - 1) (len - 1) = nI x - 1 from ⟨hj.1, by unfold upd; rw [if_pos rfl]⟩)] at this
          by_cases hx : x < 100000000
          · rw [if_pos hx] at this; have := h3 hx; omega
          · rw [if_neg hx] at this; omega
        · rw [uS_a (most_n hp2) hmt hj, e, if_neg hj]
          have := ih x (len + 2) (upd (upd f len (nI p)) (len + 1) (nI x - 1)) h2
          rw [if_pos (show 0 < len + 2 ∧ upd (upd f len (nI p)) (len + 1) (nI x - 1) (len + 2 - 1) = nI x - 1 from ⟨by omega, by unfold upd; rw [if_pos (by omega)]⟩)] at this
          by_cases hx : x < 100000000
          · rw [if_pos hx] at this; have := h3 hx; omega
          · rw [if_neg hx] at this; omega
      · rw [uS_n (most_n hp2) hmt, e]
        have := ih x len f h2
        have h5 : (if 0 < len ∧ f (len - 1) = nI x - 1 then 0 else 1) ≤ 1 := by split <;> omega
        by_cases hx : x < 100000000
        · rw [if_pos hx] at this; have := h3 hx; omega
        · rw [if_neg hx] at this; omega
theorem uS_all {mt : Int32 → Bool} {nx : Int32 → Int32} {c : Nat → Nat} (hn : nxOk nx c) (hm : ∀ p, p < 100000000 → mt (nI p) = true) : ∀ fu p len f, p ≤ 100000000 → 0 < len → f (len - 1) = nI p - 1 → (uS mt nx fu (nI p) len f).1 = len := by
  intro fu
  induction fu with
  | zero => intro p len f _ _ _; rfl
  | succ fu ih =>
    intro p len f hp h0 hf
    by_cases h9 : p = 100000000
    · rw [uS_e _ ((nI_most hp).mpr h9)]
    · have hp2 : p < 100000000 := by omega
      obtain ⟨x, e, h1, h2, h3⟩ := hn p hp2
      rw [uS_m (most_n hp2) (hm p hp2) ⟨h0, hf⟩, e]
      exact ih x len _ h2 h0 (by unfold upd; rw [if_pos rfl])
theorem comb_cnt {op : Int32} {a b : rVl} (ha : rWf a) (hb : rWf b) (h0 : vMeets op false false = false) : (vComb op a b).1 ≤ a.1 + b.1 := by
  have h1 := uS_cnt (mt := fun y => vMeets op (rHolds a.2 a.1 y) (rHolds b.2 b.1 y)) (nx_two ha hb) (fun p hp h => ?_) (2 * (a.1 + b.1 + 1)) 0 0 (fun _ => 0) (by omega)
  · have h2 := rTg_le (w := a) (x := nI 0)
    have h3 := rTg_le (w := b) (x := nI 0)
    rw [if_pos (by omega), if_neg (by omega)] at h1
    have h4 : (rComb op a.2 a.1 b.2 b.1).1 ≤ 0 + 2 * ((rTg a (nI 0) + rTg b (nI 0) + 1) / 2) := by rw [comb_uS]; exact h1
    show (rComb op a.2 a.1 b.2 b.1).1 / 2 ≤ _
    omega
  · show 1 ≤ rTg a (nI p) + rTg b (nI p)
    have h' : vMeets op (rHolds a.2 a.1 (nI p)) (rHolds b.2 b.1 (nI p)) = true := h
    rcases Bool.eq_false_or_eq_true (rHolds a.2 a.1 (nI p)) with h5 | h5
    · have := rTg_in h5; omega
    · rcases Bool.eq_false_or_eq_true (rHolds b.2 b.1 (nI p)) with h6 | h6
      · have := rTg_in h6; omega
      · rw [h5, h6, h0] at h'; exact nomatch h'
theorem vM0 (a b : Bool) : vMeets 0 a b = (a || b) := by cases a <;> cases b <;> decide
def rSp (x y : Int32) : rVl := ((if x ≤ y then 1 else 0), fun j => if j = 0 then x else y)
theorem rSp_wf {x y : Int32} (h0 : ¬ x < 0) (h1 : y ≤ 99999999) : rWf (rSp x y) := by
  unfold rSp
  by_cases h : x ≤ y
  · rw [if_pos h]
    obtain ⟨a, ha, rfl⟩ := nI_of2 (n := 99999999) (by decide) h0 (Int32.le_trans h h1)
    obtain ⟨b, hb, rfl⟩ := nI_of2 (x := y) (n := 99999999) (by decide) (fun h9 => absurd (Int32.lt_of_le_of_lt h h9) (nI_pos (by omega))) h1
    have hab := (nI_leN (by omega) (by omega)).mp h
    refine ⟨fun j hj => ?_, fun k hk => ?_, fun k hk => ?_⟩
    · show (if j = 0 then nI a else nI b) = nI (if j = 0 then nI a else nI b).toNatClampNeg ∧ (if j = 0 then nI a else nI b).toNatClampNeg < 100000000
      split
      · rw [nI_clamp (by omega)]; exact ⟨rfl, by omega⟩
      · rw [nI_clamp (by omega)]; exact ⟨rfl, by omega⟩
    · have : k = 0 := by have hk2 : k < 1 := hk; omega
      subst this
      show (nI a).toNatClampNeg ≤ (nI b).toNatClampNeg
      rw [nI_clamp (by omega), nI_clamp (by omega)]; exact hab
    · have hk2 : k + 1 < 1 := hk; omega
  · rw [if_neg h]
    exact ⟨fun j hj => absurd hj (by show ¬ j < 2 * 0; omega), fun k hk => absurd hk (by show ¬ k < 0; omega), fun k hk => absurd hk (by show ¬ k + 1 < 0; omega)⟩
theorem comb_whole {a : rVl} (ha : rWf a) : (vComb 0 a (rSp 0 99999999)).1 ≤ 1 := by
  have hb : rWf (rSp 0 99999999) := rSp_wf (by decide) (by decide)
  have hall : ∀ p, p < 100000000 → (fun y => vMeets 0 (rHolds a.2 a.1 y) (rHolds (rSp 0 99999999).2 (rSp 0 99999999).1 y)) (nI p) = true := fun p hp => by
    have := (rHolds_in hb (k := 0) (x := nI p) (by decide) (by show (0 : Int32) ≤ nI p; exact nI_pos' (by omega)) (by show nI p ≤ 99999999; exact (nI_leN (b := 99999999) (by omega) (by omega)).mpr (by omega))).1
    show vMeets 0 _ _ = true
    rw [this, vM0, Bool.or_true]
  show (rComb 0 a.2 a.1 (rSp 0 99999999).2 (rSp 0 99999999).1).1 / 2 ≤ 1
  rw [comb_uS, show 2 * (a.1 + (rSp 0 99999999).1 + 1) = (2 * (a.1 + (rSp 0 99999999).1) + 1) + 1 from by omega]
  obtain ⟨x, e, h1, h2, h3⟩ := nx_two ha hb 0 (by omega)
  have e' : jNx a (rSp 0 99999999) 0 = nI x := e
  rw [uS_a (by decide) (hall 0 (by omega)) (fun h => absurd h.1 (Nat.lt_irrefl _)), e']
  have e9 := uS_all (mt := fun y => vMeets 0 (rHolds a.2 a.1 y) (rHolds (rSp 0 99999999).2 (rSp 0 99999999).1 y)) (nx_two ha hb) hall (2 * (a.1 + (rSp 0 99999999).1) + 1) x 2 (upd (upd (fun _ => 0) 0 0) 1 (nI x - 1)) h2 (by omega) (by unfold upd; rw [if_pos (by omega)])
  exact Nat.div_le_div_right (c := 2) (Nat.le_of_eq e9)
theorem mSlot.eqv {row : Nat → Int32} {p n : Nat} {f g : Nat → Int32} (h : mSlot row p (some (n, f))) (e : ∀ j, j < 2 * n → f j = g j) : mSlot row p (some (n, g)) := ⟨h.1, h.2.1, fun i hi => (h.2.2 i hi).trans (e i hi)⟩
/-- what joining leaves, told by the class's own combining -/
theorem mJn_comb {M M1 : jM} {m : Nat} {what op : Int32} {w1 w2 : rVl} {t : Nat} {o : jO} (h : mJn M m what w1 w2 t o M1) (hg : ∀ p q, vGv what p q = vMeets op p q) (h1 : rWf w1) (h2 : rWf w2) :
    ∃ D y H, M1 = jSv (jSi (jSv M (m + 7) D) m 14 y) (m + 6) H ∧ (∀ j, (j < t ∨ t + 33 ≤ j) → H j = ji M (m + 6) j) ∧ ((16 < (vComb op w1 w2).1 ∧ o = oI (jb false)) ∨ ((vComb op w1 w2).1 ≤ 16 ∧ o = oI (jb true) ∧ mSlot H t (some (vComb op w1 w2)))) := by
  obtain ⟨n, D, y, H, e, eM, hH, ho⟩ := h
  have e1 : jMt what w1 w2 = fun y => vMeets op (rHolds w1.2 w1.1 y) (rHolds w2.2 w2.1 y) := funext fun y => hg _ _
  have hp := uS_pre (mt := fun y => vMeets op (rHolds w1.2 w1.1 y) (rHolds w2.2 w2.1 y)) (nx := jNx w1 w2) (2 * (w1.1 + w2.1 + 1)) 0 0 (ji M (m + 7)) (fun _ => 0) (fun j hj => absurd hj (Nat.not_lt_zero _))
  unfold jJn at e
  rw [e1] at e
  rw [e, ← comb_uS] at hp
  have hn : (vComb op w1 w2).1 = n := by
    show (rComb op w1.2 w1.1 w2.2 w2.1).1 / 2 = n
    rw [← hp.1]; show 2 * n / 2 = n; omega
  have hv : vComb op w1 w2 = (n, (rComb op w1.2 w1.1 w2.2 w2.1).2) := Prod.ext hn rfl
  refine ⟨D, y, H, eM, hH, ?_⟩
  rw [hn]
  rcases ho with ⟨a, b⟩ | ⟨a, b, c⟩
  · exact Or.inl ⟨a, b⟩
  · refine Or.inr ⟨a, b, ?_⟩
    rw [hv]
    exact c.eqv (fun j hj => hp.2 j hj)
