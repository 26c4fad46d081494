/-- every state that the object holds is well formed -/
def zA (A : cA) : Prop := zWf (cNw A) ∧ zWf (cSn A) ∧ ∀ i, i < cKp A → zWf (cHi A i)
theorem zWf_0 : zWf cS0 := ⟨fun _ _ h => (Option.some_ne_none _ h.symm).elim, fun i hi => absurd hi (Nat.not_lt_zero _), fun i hi => absurd hi (Nat.not_lt_zero _)⟩
theorem zA_0 : zA cA0 := ⟨zWf_0, zWf_0, fun i hi => absurd hi (Nat.not_lt_zero _)⟩
theorem zA.keep {A : cA} (h : zA A) : zA (cKeep A) := by
  refine ⟨h.1, h.2.1, fun i hi => ?_⟩
  have hi2 : i < min (cKp A + 1) 8 := hi
  show zWf (if i + 1 = min (cKp A + 1) 8 then cNw A else cHi A (i + (cKp A + 1) - min (cKp A + 1) 8))
  split
  · exact h.1
  · exact h.2.2 _ (by omega)
theorem zA.set {A : cA} {k : Nat} {x : Option rVl} (h : zA A) (hx : ∀ w, x = some w → rWf w) : zA (cSet A k x) := by
  refine ⟨⟨fun j w hw => ?_, h.1.2.1, h.1.2.2⟩, h.2.1, h.2.2⟩
  have hw : (if j = k then x else (cNw A).1 j) = some w := hw
  split at hw
  · exact hx w hw
  · exact h.1.1 j w hw
theorem zA.put {A : cA} {k : Nat} {x : Option rVl} (h : zA A) (hx : ∀ w, x = some w → rWf w) : zA (cPut A k x) := h.keep.set hx
theorem zA.nws {A : cA} {z : cSt} (h : zA A) (hz : zWf z) : zA (cNwS A z) := ⟨hz, h.2.1, h.2.2⟩
theorem zA.sl {A : cA} {x : Int32} {R : cR} (h : zA A) (h2 : okSlot x = true → zA R.2) : zA (sSl x A R).2 := by
  unfold sSl
  split
  · rename_i c; exact h2 c
  · exact h
theorem zA.ve {A : cA} {x : Int32} {R : cR} (h : zA A) (h2 : okVer x = true → zA R.2) : zA (sVe x A R).2 := by
  unfold sVe
  split
  · rename_i c; exact h2 c
  · exact h
theorem zA.ite {c : Prop} [Decidable c] {R S : cR} (h1 : c → zA R.2) (h2 : ¬ c → zA S.2) : zA (if c then R else S).2 := by
  split
  · rename_i g; exact h1 g
  · rename_i g; exact h2 g
/-- what lies between the ends of what is read -/
theorem rPt_b {c : Nat → Int32} {L p : Nat} {lt : Bool} {lo hi : Int32} (h0 : ¬ lo < 0) (h1 : hi ≤ 99999999) (h : (rPt c L p lo hi lt).1 = true) : ¬ (rPt c L p lo hi lt).2.2.1 < 0 ∧ (rPt c L p lo hi lt).2.2.2.1 ≤ 99999999 := by
  have := (gPrt_rPt (p := p) (nu := 0) (a := 0) (b := 0) (c := c) (L := L) (lt := lt) h0 h1).2 h
  obtain ⟨e1, e2⟩ := this
  rw [e1, e2]
  unfold iMx rMin
  refine ⟨?_, ?_⟩
  · split
    · rename_i g; exact fun h9 => h0 (Int32.lt_trans g h9)
    · exact h0
  · split
    · rename_i g; exact Int32.le_trans (Int32.le_of_lt g) h1
    · exact h1
theorem rRwG_b {c : Nat → Int32} {L : Nat} : ∀ fu p lo hi b, ¬ lo < 0 → hi ≤ 99999999 → (rRwGo c L fu p lo hi b).1 = true → ¬ (rRwGo c L fu p lo hi b).2.2.1 < 0 ∧ (rRwGo c L fu p lo hi b).2.2.2.1 ≤ 99999999 := by
  intro fu
  induction fu with
  | zero => intro p lo hi b _ _ h; exact nomatch h
  | succ fu ih =>
    intro p lo hi b h0 h1 h
    unfold rRwGo at h ⊢
    by_cases c1 : (rPt c L p lo hi b).1 = true
    · rw [if_pos c1] at h ⊢
      have hb := rPt_b h0 h1 c1
      by_cases c2 : tIsAt c L (rPt c L p lo hi b).2.1 32 = true
      · rw [if_pos c2] at h ⊢
        exact ih _ _ _ _ hb.1 hb.2 h
      · rw [if_neg c2]
        exact hb
    · rw [if_neg c1] at h
      exact nomatch h
theorem rRow_b {c : Nat → Int32} {L p : Nat} {b : Bool} (h : (rRow c L p b).1 = true) : ¬ (rRow c L p b).2.2.1 < 0 ∧ (rRow c L p b).2.2.2.1 ≤ 99999999 := rRwG_b _ _ _ _ _ (by decide) (by decide) h
theorem rRs_wf {c : Nat → Int32} {L : Nat} : ∀ fu p lo hi b n e, rWf (n, e) → rWf (rRs c L fu p lo hi b n e).2 := by
  intro fu
  induction fu with
  | zero => intro p lo hi b n e h; exact h
  | succ fu ih =>
    intro p lo hi b n e h
    unfold rRs
    by_cases c1 : (rRow c L p b).1 = true
    · rw [if_pos c1]
      have hb := rRow_b c1
      have hw : rWf (vComb 0 (n, e) (rSp (rRow c L p b).2.2.1 (rRow c L p b).2.2.2.1)) := comb_wf h (rSp_wf hb.1 hb.2)
      by_cases c2 : tIsAt c L (rRow c L p b).2.1 124 = true
      · rw [if_pos c2]
        exact ih _ _ _ _ _ _ hw
      · rw [if_neg c2]
        exact hw
    · rw [if_neg c1]
      exact h
theorem rdZ_wf {A : cA} : rWf (rdZ A).2 := rRs_wf _ _ _ _ _ _ _ rE_wf
/-- what working an expression out gives -/
theorem vComb_wf {op : Int32} {a b : rVl} (ha : rWf a) (hb : rWf b) : rWf (vComb op a b) := comb_wf ha hb
theorem eRes_wf {S : Int32 → Option rVl} {s : eSt} {vs : Nat → Option rVl} {z k : Nat} (hS : ∀ x w, S x = some w → rWf w) (hv : ∀ i w, vs i = some w → rWf w) : ∀ w, eRes S s vs z k = some w → rWf w := by
  intro w h
  have hat : ∀ x a, vAt vs z x = some a → rWf a := fun x a ha => by
    unfold vAt at ha
    split at ha
    · exact nomatch ha
    · split at ha
      · exact hv _ _ ha
      · exact nomatch ha
  unfold eRes at h
  split at h
  · exact hS _ _ h
  · split at h
    · exact nomatch h
    · rename_i a ha
      split at h
      · cases h; exact comb_wf r9_wf (hat _ _ ha)
      · split at h
        · exact nomatch h
        · rename_i b hb
          cases h; exact comb_wf (hat _ _ ha) (hat _ _ hb)
theorem eWk_wf {S : Int32 → Option rVl} {s : eSt} (hS : ∀ x w, S x = some w → rWf w) : ∀ fu k vs la, (∀ i w, vs i = some w → rWf w) → (∀ w, la = some w → rWf w) → ∀ w, eWk S s fu k vs la = .inr (some w) → rWf w := by
  intro fu
  induction fu with
  | zero => intro k vs la _ hl w h; cases h; exact hl w rfl
  | succ fu ih =>
    intro k vs la hv hl w h
    unfold eWk at h
    cases hr : eRes S s vs s.2.1 k with
    | none => rw [hr] at h; exact nomatch h
    | some a =>
      rw [hr] at h
      have ha := eRes_wf hS hv a hr
      have h : (if 16 < a.1 then Sum.inl k else eWk S s fu (k + 1) (fun i => if i = k then some a else vs i) (some a)) = .inr (some w) := h
      split at h
      · exact nomatch h
      · refine ih _ _ _ (fun i w2 h2 => ?_) (fun w2 h2 => ?_) w h
        · have h2 : (if i = k then some a else vs i) = some w2 := h2
          split at h2
          · cases h2; exact ha
          · exact hv _ _ h2
        · cases h2; exact ha
theorem cAt_wf {z : cSt} (h : zWf z) : ∀ x w, cAt z x = some w → rWf w := by
  intro x w hx
  unfold cAt at hx
  split at hx
  · exact h.1 _ _ hx
  · exact nomatch hx
theorem zA.app {A : cA} {c : Int32} (h : zA A) : zA (sApp A c).2 := zA.ite (fun _ => h) (fun _ => h)
theorem zA.read {A : cA} {x : Int32} (h : zA A) : zA (sRead A x).2 := zA.sl h (fun _ => zA.ite (fun _ => zA.ite (fun _ => h) (fun _ => zA.ite (fun _ => h) (fun _ => zA.put (A := cFin A (-1)) h (fun w hw => by cases hw; exact rdZ_wf)))) (fun _ => h))
theorem zA.eval {A : cA} {x : Int32} (h : zA A) : zA (sEval A x).2 := zA.sl h (fun _ => zA.ite (fun _ => by
  unfold sEvW
  split
  · exact h
  · exact h
  · rename_i w hw
    exact zA.put (A := cFin A (-1)) h (fun w2 h2 => by cases h2; exact eWk_wf (cAt_wf h.1) _ _ _ _ (fun _ _ h => (Option.some_ne_none _ h.symm).elim) (fun _ h => (Option.some_ne_none _ h.symm).elim) w hw)) (fun _ => h))
theorem okVer_b {x : Int32} (h : okVer x = true) : ¬ x < 0 ∧ x ≤ 99999999 := by
  obtain ⟨k, hk, rfl⟩ := okVer_of h
  exact ⟨nI_pos (by omega), (nI_leN (b := 99999999) (by omega) (by omega)).mpr (by omega)⟩
theorem zA.sput {A : cA} {x y z : Int32} (h : zA A) : zA (sPut A x y z).2 := zA.sl h (fun _ => zA.ve h (fun h1 => zA.ve h (fun h2 => zA.ite (fun _ => h) (fun h3 => zA.put h (fun w hw => by
  cases hw
  have := rSp_wf (okVer_b h1).1 (okVer_b h2).2
  unfold rSp at this
  rw [if_pos (Int32.not_lt.mp h3)] at this
  exact this)))))
theorem zA.clr {A : cA} {x : Int32} (h : zA A) : zA (sClr A x).2 := zA.sl h (fun _ => h.put (fun w hw => (Option.some_ne_none _ hw.symm).elim))
theorem zA.cpy {A : cA} {x y : Int32} (h : zA A) : zA (sCpy A x y).2 := zA.sl h (fun _ => zA.sl h (fun _ => h.put (fun w hw => cAt_wf h.1 _ _ hw)))
theorem zA.und {A : cA} (h : zA A) : zA (sUnd A).2 := zA.ite (fun _ => h) (fun h0 => ⟨h.2.2 _ (by omega), h.2.1, fun i hi => h.2.2 i (by have hi2 : i < cKp A - 1 := hi; omega)⟩)
theorem zA.res {A : cA} (h : zA A) : zA (sRes A).2 := zA.ite (fun _ => ⟨h.2.1, h.2.1, fun i hi => absurd hi (Nat.not_lt_zero _)⟩) (fun _ => h)
theorem zA.sav {A : cA} (h : zA A) : zA (sSav A).2 := ⟨h.1, h.1, h.2.2⟩
/-- the place of a version in the row -/
theorem stPlace_lt {f : Nat → Int32} {n : Nat} {x : Int32} : (∀ j, j < stPlace f n x → f j < x) ∧ (stPlace f n x < n → x ≤ f (stPlace f n x)) := by
  unfold stPlace
  have key : ∀ (fu i : Nat), (∀ j, i ≤ j → j < jfind (fun p => decide (x ≤ f p)) fu i → f j < x) ∧ (jfind (fun p => decide (x ≤ f p)) fu i < i + fu → x ≤ f (jfind (fun p => decide (x ≤ f p)) fu i)) := by
    intro fu
    induction fu with
    | zero => intro i; exact ⟨fun j h1 h2 => absurd (Nat.lt_of_le_of_lt h1 h2) (Nat.lt_irrefl _), fun h => absurd h (Nat.lt_irrefl _)⟩
    | succ fu ih =>
      intro i
      unfold jfind
      by_cases hp : x ≤ f i
      · rw [if_pos (by simpa using hp)]
        exact ⟨fun j h1 h2 => absurd (Nat.lt_of_le_of_lt h1 h2) (Nat.lt_irrefl _), fun _ => hp⟩
      · rw [if_neg (by simpa using hp)]
        obtain ⟨a, b⟩ := ih (i + 1)
        refine ⟨fun j h1 h2 => ?_, fun h => b (by omega)⟩
        rcases Nat.eq_or_lt_of_le h1 with rfl | h3
        · exact Int32.not_le.mp hp
        · exact a j h3 h2
  obtain ⟨a, b⟩ := key n 0
  exact ⟨fun j hj => a j (Nat.zero_le _) hj, fun h => b (by omega)⟩
theorem zWf.ins {z : cSt} {x : Int32} (h : zWf z) (hx : okVer x = true) (hn : cIsP z x = false) : zWf (z.1, z.2.1 + 1, cIns z.2.2 (stPlace z.2.2 z.2.1 x) x) := by
  obtain ⟨p1, p2⟩ := stPlace_lt (f := z.2.2) (n := z.2.1) (x := x)
  have hp := stPlace_le z.2.2 z.2.1 x
  have hne : stPlace z.2.2 z.2.1 x < z.2.1 → x < z.2.2 (stPlace z.2.2 z.2.1 x) := fun hlt => by
    unfold cIsP stAt at hn
    rw [if_pos hlt] at hn
    have := of_decide_eq_false hn
    rcases Int32.lt_or_eq_of_le (p2 hlt) with h9 | h9
    · exact h9
    · exact absurd h9.symm this
  generalize stPlace z.2.2 z.2.1 x = p at p1 p2 hp hne ⊢
  refine ⟨h.1, fun i hi => ?_, fun i hi => ?_⟩
  · have hi : i < z.2.1 + 1 := hi
    show okVer (cIns z.2.2 p x i) = true
    unfold cIns
    split
    · exact h.2.1 i (by omega)
    · split
      · exact hx
      · exact h.2.1 _ (by omega)
  · have hi : i + 1 < z.2.1 + 1 := hi
    show cIns z.2.2 p x i < cIns z.2.2 p x (i + 1)
    unfold cIns
    rcases Nat.lt_trichotomy i p with g | g | g
    · rw [if_pos g]
      by_cases g2 : i + 1 < p
      · rw [if_pos g2]; exact h.2.2 i (by omega)
      · rw [if_neg g2, if_pos (by omega)]; exact p1 i g
    · rw [if_neg (by omega), if_pos g, if_neg (by omega), if_neg (by omega), Nat.add_sub_cancel, g]
      exact hne (by omega)
    · rw [if_neg (by omega), if_neg (by omega), if_neg (by omega), if_neg (by omega), Nat.add_sub_cancel]
      have := h.2.2 (i - 1) (by omega)
      rwa [show i - 1 + 1 = i from by omega] at this
theorem zWf.del {z : cSt} {p : Nat} (h : zWf z) : zWf (z.1, z.2.1 - 1, cDel z.2.2 p) := by
  refine ⟨h.1, fun i hi => ?_, fun i hi => ?_⟩
  · have hi : i < z.2.1 - 1 := hi
    show okVer (cDel z.2.2 p i) = true
    unfold cDel
    split
    · exact h.2.1 i (by omega)
    · exact h.2.1 _ (by omega)
  · have hi : i + 1 < z.2.1 - 1 := hi
    show cDel z.2.2 p i < cDel z.2.2 p (i + 1)
    unfold cDel
    by_cases g : i < p
    · rw [if_pos g]
      by_cases g2 : i + 1 < p
      · rw [if_pos g2]; exact h.2.2 i (by omega)
      · rw [if_neg g2]; exact Int32.lt_trans (h.2.2 i (by omega)) (h.2.2 (i + 1) (by omega))
    · rw [if_neg g, if_neg (by omega)]; exact h.2.2 (i + 1) (by omega)
theorem zA.pub {A : cA} {x : Int32} (h : zA A) : zA (sPub A x).2 := zA.ve h (fun hx => zA.ite (fun _ => h) (fun _ => zA.ite (fun _ => h) (fun hn => h.keep.nws (h.1.ins hx (by simpa using hn)))))
theorem zA.wdr {A : cA} {x : Int32} (h : zA A) : zA (sWdr A x).2 := zA.ve h (fun _ => zA.ite (fun _ => h.keep.nws h.1.del) (fun _ => h))
