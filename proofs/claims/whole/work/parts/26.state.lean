/-- a cell as it was -/
def jEq (M M1 : jM) (a : Nat) : Prop := jk M1 a = jk M a ∧ jz M1 a = jz M a ∧ ji M1 a = ji M a ∧ jr M1 a = jr M a ∧ jl M1 a = jl M a ∧ jd M1 a = jd M a
theorem jEq.rf {M : jM} {a : Nat} : jEq M M a := ⟨rfl, rfl, rfl, rfl, rfl, rfl⟩
theorem jEq.tr {M M1 M2 : jM} {a : Nat} (h : jEq M M1 a) (h2 : jEq M1 M2 a) : jEq M M2 a := ⟨h2.1.trans h.1, h2.2.1.trans h.2.1, h2.2.2.1.trans h.2.2.1, h2.2.2.2.1.trans h.2.2.2.1, h2.2.2.2.2.1.trans h.2.2.2.2.1, h2.2.2.2.2.2.trans h.2.2.2.2.2⟩
/-- every range stays what it is -/
def jRk (M M1 : jM) : Prop := jn M ≤ jn M1 ∧ (∀ a, a < jn M → jk M1 a = jk M a ∧ jz M1 a = jz M a) ∧ ∀ t n, jRg M t n → jr M1 t 0 = jr M t 0 ∧ ji M1 (t + 1) = ji M (t + 1)
theorem jRg.rk {M M1 : jM} {t n : Nat} (h : jRg M t n) (e : jRk M M1) : jRg M1 t n := by
  obtain ⟨h1, h2, h3, h4, h5, h6⟩ := id h
  obtain ⟨a1, a2⟩ := e.2.1 t (Nat.lt_of_succ_lt h1)
  obtain ⟨b1, b2⟩ := e.2.1 (t + 1) h1
  exact ⟨Nat.lt_of_lt_of_le h1 e.1, a1.trans h2, by rw [(e.2.2 t n h).1]; exact h3, b1.trans h4, b2.trans h5, h6⟩
theorem jVa.rk {M M1 : jM} {r : Option Nat} {v : Option rVl} (h : jVa M r v) (e : jRk M M1) : jVa M1 r v := by
  cases r with
  | none => cases v with
    | none => trivial
    | some w => exact h
  | some t => cases v with
    | none => exact h
    | some w => exact ⟨h.1.rk e, fun j hj => by rw [(e.2.2 t _ h.1).2]; exact h.2 j hj⟩
theorem jRk.rf {M : jM} : jRk M M := ⟨Nat.le_refl _, fun _ _ => ⟨rfl, rfl⟩, fun _ _ _ => ⟨rfl, rfl⟩⟩
theorem jRk.tr {M M1 M2 : jM} (h : jRk M M1) (h2 : jRk M1 M2) : jRk M M2 := by
  refine ⟨Nat.le_trans h.1 h2.1, fun a ha => ?_, fun t n ht => ?_⟩
  · obtain ⟨a1, a2⟩ := h.2.1 a ha
    obtain ⟨b1, b2⟩ := h2.2.1 a (Nat.lt_of_lt_of_le ha h.1)
    exact ⟨b1.trans a1, b2.trans a2⟩
  · obtain ⟨a1, a2⟩ := h.2.2 t n ht
    obtain ⟨b1, b2⟩ := h2.2.2 t n (ht.rk h)
    exact ⟨b1.trans a1, b2.trans a2⟩
theorem jExt.rk {M M1 : jM} (h : jExt M M1) : jRk M M1 := ⟨h.1, fun a ha => ⟨(h.2 a ha).1, (h.2 a ha).2.1⟩, fun t n ht => ⟨by rw [(h.2 t (Nat.lt_of_succ_lt ht.1)).2.2.2.1], (h.2 (t + 1) ht.1).2.2.1⟩⟩
/-- where the object and what belongs to it lies: no range there -/
def jReg (M : jM) (v : Nat) : Prop := v + 52 ≤ jn M ∧ jk M v = 10 ∧ ∀ a, v ≤ a → a < v + 36 → jk M a ≠ 7
theorem jReg.ne {M : jM} {v t n : Nat} (h : jReg M v) (ht : jRg M t n) : (t < v ∨ v + 36 ≤ t) ∧ (t + 1 < v ∨ v + 36 ≤ t + 1) := by
  obtain ⟨h1, h2, h3⟩ := h
  have a : t < v ∨ v + 36 ≤ t := by
    rcases Nat.lt_or_ge t v with hl | hl
    · exact Or.inl hl
    · rcases Nat.lt_or_ge t (v + 36) with hl2 | hl2
      · exact absurd ht.2.1 (h3 t hl hl2)
      · exact Or.inr hl2
  refine ⟨a, ?_⟩
  rcases a with a | a
  · rcases Nat.lt_or_ge (t + 1) v with hl | hl
    · exact Or.inl hl
    · have : t + 1 = v := by omega
      have h4 := ht.2.2.2.1
      rw [this] at h4
      omega
  · exact Or.inr (by omega)
/-- what changes nothing beyond the object, and nothing of arrays of bytes matters, leaves the ranges -/
theorem jReg.rk {M M1 : jM} {v : Nat} (h : jReg M v) (hn : jn M ≤ jn M1) (hk : ∀ a, a < jn M → jk M1 a = jk M a ∧ jz M1 a = jz M a) (ho : ∀ a, a < jn M → (a < v ∨ v + 36 ≤ a) → jk M a ≠ 20 → ji M1 a = ji M a ∧ jr M1 a = jr M a) : jRk M M1 := by
  refine ⟨hn, hk, fun t n ht => ?_⟩
  obtain ⟨a, b⟩ := h.ne ht
  refine ⟨?_, (ho (t + 1) ht.1 b (by rw [ht.2.2.2.1]; decide)).1⟩
  rw [(ho t (Nat.lt_of_succ_lt ht.1) a (by rw [ht.2.1]; decide)).2]
/-- the bytes of an array fit -/
def jBf (M : jM) (a : Nat) : Prop := ∀ j, fits .byte (.int (ji M a j)) = true
theorem jBf.eq {M M1 : jM} {a : Nat} (h : jBf M a) (e : ji M1 a = ji M a) : jBf M1 a := fun j => by rw [e]; exact h j
/-- what a call may change -/
def jFv (v : Nat) (M M1 : jM) : Prop := jn M ≤ jn M1 ∧ (∀ a, a < jn M → jk M1 a = jk M a ∧ jz M1 a = jz M a) ∧ (∀ a, a < jn M → (a < v ∨ v + 36 ≤ a) → jk M a ≠ 20 → ji M1 a = ji M a ∧ jr M1 a = jr M a ∧ jl M1 a = jl M a ∧ jd M1 a = jd M a) ∧ ∀ a, a < jn M → (a < v ∨ v + 35 ≤ a) → jk M a = 20 → jBf M a → jBf M1 a
theorem jFv.rf {v : Nat} {M : jM} : jFv v M M := ⟨Nat.le_refl _, fun _ _ => ⟨rfl, rfl⟩, fun _ _ _ _ => ⟨rfl, rfl, rfl, rfl⟩, fun _ _ _ _ h => h⟩
theorem jFv.tr {v : Nat} {M M1 M2 : jM} (h : jFv v M M1) (h2 : jFv v M1 M2) : jFv v M M2 := by
  refine ⟨Nat.le_trans h.1 h2.1, fun a ha => ?_, fun a ha hv hk => ?_, fun a ha hv hk hb => h2.2.2.2 a (Nat.lt_of_lt_of_le ha h.1) hv (by rw [(h.2.1 a ha).1]; exact hk) (h.2.2.2 a ha hv hk hb)⟩
  · obtain ⟨a1, a2⟩ := h.2.1 a ha
    obtain ⟨b1, b2⟩ := h2.2.1 a (Nat.lt_of_lt_of_le ha h.1)
    exact ⟨b1.trans a1, b2.trans a2⟩
  · obtain ⟨a1, a2, a3, a4⟩ := h.2.2.1 a ha hv hk
    obtain ⟨b1, b2, b3, b4⟩ := h2.2.2.1 a (Nat.lt_of_lt_of_le ha h.1) hv (by rw [(h.2.1 a ha).1]; exact hk)
    exact ⟨b1.trans a1, b2.trans a2, b3.trans a3, b4.trans a4⟩
theorem jFv.rk {v : Nat} {M M1 : jM} (h : jFv v M M1) (hr : jReg M v) : jRk M M1 := hr.rk h.1 h.2.1 (fun a ha hv hk => ⟨(h.2.2.1 a ha hv hk).1, (h.2.2.1 a ha hv hk).2.1⟩)
theorem jFv.sb {v : Nat} {M M1 : jM} (h : jFv v M M1) : ∀ b, b < jn M → (b + 34 < v + 34 ∨ v + 34 < b) → jk M b = 20 → jBf M b → jBf M1 b := fun b hb hs => h.2.2.2 b hb (by omega)
theorem jReg.fv {M M1 : jM} {v : Nat} (h : jReg M v) (hf : jFv v M M1) : jReg M1 v := by
  obtain ⟨h1, h2, h3⟩ := h
  have hn := hf.1
  exact ⟨by omega, (hf.2.1 v (by omega)).1.trans h2, fun a ha hb => by rw [(hf.2.1 a (by omega)).1]; exact h3 a ha hb⟩
theorem jExt.fv {v : Nat} {M M1 : jM} (h : jExt M M1) : jFv v M M1 := ⟨h.1, fun a ha => ⟨(h.2 a ha).1, (h.2 a ha).2.1⟩, fun a ha _ _ => (h.2 a ha).2.2, fun a ha _ _ h9 => h9.eq (h.2 a ha).2.2.1⟩
/-- what a state holds: ranges of the slots, how many versions are published, which -/
abbrev cSt : Type := (Nat → Option rVl) × Nat × (Nat → Int32)
def jSt (M : jM) (s : Nat) (z : cSt) : Prop := jStt M s z.2.1 ∧ (∀ j, j < 12 → jVa M (jr M (s + 1) j) (z.1 j) ∧ v16 (z.1 j)) ∧ ∀ j, j < z.2.1 → ji M (s + 2) j = z.2.2 j
theorem jSt.rk {M M1 : jM} {s : Nat} {z : cSt} (h : jSt M s z) (e : jRk M M1) (h0 : jr M1 s = jr M s ∧ ji M1 s 2 = ji M s 2) (h1 : jr M1 (s + 1) = jr M (s + 1)) (h2 : ji M1 (s + 2) = ji M (s + 2)) : jSt M1 s z := by
  obtain ⟨⟨a1, a2, a3, a4, a5, a6, a7, a8, a9, a10⟩, b, c⟩ := h
  have k0 := e.2.1 s (by omega)
  have k1 := e.2.1 (s + 1) (by omega)
  have k2 := e.2.1 (s + 2) (by omega)
  refine ⟨⟨Nat.lt_of_lt_of_le a1 e.1, k0.1.trans a2, by rw [h0.1]; exact a3, by rw [h0.1]; exact a4, k1.1.trans a5, k1.2.trans a6, k2.1.trans a7, k2.2.trans a8, by rw [h0.2]; exact a9, a10⟩, fun j hj => ?_, fun j hj => ?_⟩
  · rw [h1]; exact ⟨(b j hj).1.rk e, (b j hj).2⟩
  · rw [h2]; exact c j hj
theorem jSt.slots {M : jM} {s : Nat} {z : cSt} (h : jSt M s z) : jSlots M s := by
  intro j t hj ht
  have h1 := (h.2.1 j hj).1
  rw [ht] at h1
  obtain ⟨w, hw, hg, -⟩ := h1.some
  rw [hg.rn]
  exact hg
theorem jSt.like {M : jM} {s o : Nat} {z y : cSt} (h : jSt M o z) (hs : jStt M s y.2.1) (e : jRk M (jBL M s o)) (hd : s + 2 < o ∨ o + 2 < s) : jSt (jBL M s o) s z := by
  obtain ⟨⟨a1, a2, a3, a4, a5, a6, a7, a8, a9, a10⟩, b, c⟩ := h
  obtain ⟨s1, s2, s3, s4, s5, s6, s7, s8, s9, s10⟩ := hs
  refine ⟨⟨s1, s2, ?_, ?_, s5, s6, s7, s8, ?_, a10⟩, fun j hj => ?_, fun j hj => ?_⟩
  · rw [jBL_r (by omega)]; exact s3
  · rw [jBL_r (by omega)]; exact s4
  · unfold jBL; rw [ji_Si, if_pos ⟨rfl, rfl⟩]; exact a9
  · have hr : jr (jBL M s o) (s + 1) j = jr M (o + 1) j := by
      unfold jBL
      rw [jr_Si, jr_Sv, jr_Sq, if_pos rfl]
      unfold jBR
      rw [if_pos hj]
    rw [hr]
    exact ⟨(b j hj).1.rk e, (b j hj).2⟩
  · have hr : ji (jBL M s o) (s + 2) j = ji M (o + 2) j := by
      unfold jBL
      rw [ji_Si, if_neg (fun h => by omega), ji_Sv, if_pos rfl]
      simp [va_cpy, show j < 30 by omega]
    rw [hr]
    exact c j hj
/-- the builder of the canonical text -/
def jSB (M : jM) (s : Nat) : Prop := ∃ b len : Nat, s < jn M ∧ jk M s = 1 ∧ jr M s 0 = some b ∧ b < jn M ∧ jk M b = 20 ∧ ji M s 1 = 0 ∧ ji M s 3 = nI len ∧ len ≤ jz M b ∧ 16 ≤ jz M b ∧ jz M b ≤ 2000 ∧ (b + 34 < s ∨ s < b) ∧ jBf M b
theorem jSB.rk {M M1 : jM} {s : Nat} (h : jSB M s) (e : jn M ≤ jn M1) (hk : ∀ a, a < jn M → jk M1 a = jk M a ∧ jz M1 a = jz M a) (h0 : jr M1 s = jr M s) (h1 : ji M1 s = ji M s) (h4 : ∀ b, b < jn M → (b + 34 < s ∨ s < b) → jk M b = 20 → jBf M b → jBf M1 b) : jSB M1 s := by
  obtain ⟨b, len, a1, a2, a3, a4, a5, a6, a7, a8, a9, a10, a11, a12⟩ := h
  exact ⟨b, len, Nat.lt_of_lt_of_le a1 e, (hk s a1).1.trans a2, by rw [h0]; exact a3, Nat.lt_of_lt_of_le a4 e, (hk b a4).1.trans a5, by rw [h1]; exact a6, by rw [h1]; exact a7, by rw [(hk b a4).2]; exact a8, by rw [(hk b a4).2]; exact a9, by rw [(hk b a4).2]; exact a10, a11, h4 b a4 a11 a5 a12⟩
/-- the chain of the last failure -/
def jCh (M : jM) (v : Nat) : Option rVl → Prop
  | none => jr M v 4 = none
  | some w => ∃ a, jr M v 4 = some a ∧ a < jn M ∧ (a < v ∨ v + 52 ≤ a) ∧ jk M a = 22 ∧ jz M a = w.1 ∧ w.1 ≤ 60 ∧ ∀ j, j < w.1 → ji M a j = w.2 j
theorem jCh.fv {M M1 : jM} {v : Nat} {ch : Option rVl} (h : jCh M v ch) (hf : jFv v M M1) (hr : jr M1 v 4 = jr M v 4) : jCh M1 v ch := by
  cases ch with
  | none => exact hr.trans h
  | some w =>
    obtain ⟨a, a1, a2, a3, a4, a5, a6, a7⟩ := h
    have k := hf.2.1 a a2
    have e := hf.2.2.1 a a2 (by omega) (by rw [a4]; decide)
    exact ⟨a, hr.trans a1, Nat.lt_of_lt_of_le a2 hf.1, a3, k.1.trans a4, k.2.trans a5, a6, fun j hj => by rw [e.1]; exact a7 j hj⟩
/-- the object's state: its text, the fault, the reason, the chain, the states now and saved, whether one is saved, how many are kept, which -/
abbrev cA : Type := (Nat × (Nat → Int32)) × Int32 × Int32 × Option rVl × cSt × cSt × Bool × Nat × (Nat → cSt)
def cL (A : cA) : Nat := A.1.1
def cC (A : cA) : Nat → Int32 := A.1.2
def cFl (A : cA) : Int32 := A.2.1
def cRs (A : cA) : Int32 := A.2.2.1
def cCh (A : cA) : Option rVl := A.2.2.2.1
def cNw (A : cA) : cSt := A.2.2.2.2.1
def cSn (A : cA) : cSt := A.2.2.2.2.2.1
def cHs (A : cA) : Bool := A.2.2.2.2.2.2.1
def cKp (A : cA) : Nat := A.2.2.2.2.2.2.2.1
def cHi (A : cA) : Nat → cSt := A.2.2.2.2.2.2.2.2
def jA1 (M : jM) (v : Nat) (A : cA) : Prop := jr M v 0 = some (v + 1) ∧ jr M v 5 = some (v + 2) ∧ jr M v 6 = some (v + 5) ∧ jr M v 8 = some (v + 8) ∧ jr M v 9 = some (v + 34) ∧ jk M (v + 1) = 21 ∧ jz M (v + 1) = 60 ∧ ji M v 1 = nI (cL A) ∧ cL A ≤ 60 ∧ ji M (v + 1) = cC A ∧ ji M v 2 = cFl A ∧ ji M v 3 = cRs A ∧ ji M v 7 = jb (cHs A)
def jA4 (M : jM) (v : Nat) (A : cA) : Prop := ∃ nx, jHis M (v + 8) nx (cKp A) ∧ ∀ i, i < cKp A → jSt M (v + 8 + 2 + 3 * ((nx + 8 - cKp A + i) % 8)) (cHi A i)
def jAb (M : jM) (v : Nat) (A : cA) : Prop := jReg M v ∧ jCl M ∧ jA1 M v A ∧ jCh M v (cCh A) ∧ jSt M (v + 2) (cNw A) ∧ jSt M (v + 5) (cSn A) ∧ jA4 M v A ∧ jSB M (v + 34)
theorem jHis.fv {M M1 : jM} {h nx kp : Nat} (hH : jHis M h nx kp) (hn : jn M ≤ jn M1) (hk : ∀ a, a < jn M → jk M1 a = jk M a ∧ jz M1 a = jz M a) (h0 : jr M1 h = jr M h ∧ ji M1 h = ji M h) (h1 : jr M1 (h + 1) = jr M (h + 1)) (hs : ∀ j, j < 8 → jr M1 (h + 2 + 3 * j) = jr M (h + 2 + 3 * j) ∧ ji M1 (h + 2 + 3 * j) = ji M (h + 2 + 3 * j)) : jHis M1 h nx kp := by
  obtain ⟨e1, e2, e3, e4, e5, e6, e7, e8, e9, e10, e11⟩ := hH
  refine ⟨by omega, (hk h (by omega)).1.trans e2, by rw [h0.1]; exact e3, (hk (h + 1) (by omega)).1.trans e4, (hk (h + 1) (by omega)).2.trans e5, fun j hj => by rw [h1]; exact e6 j hj, fun j hj => ?_, by rw [h0.2]; exact e8, by rw [h0.2]; exact e9, e10, e11⟩
  obtain ⟨c, s1, s2, s3, s4, s5, s6, s7, s8, s9, s10⟩ := e7 j hj
  obtain ⟨r1, r2⟩ := hs j hj
  exact ⟨c, Nat.lt_of_lt_of_le s1 hn, (hk _ (by omega)).1.trans s2, by rw [r1]; exact s3, by rw [r1]; exact s4, (hk _ (by omega)).1.trans s5, (hk _ (by omega)).2.trans s6, (hk _ (by omega)).1.trans s7, (hk _ (by omega)).2.trans s8, by rw [r2]; exact s9, s10⟩
/-- a memory in which nothing of the object has changed but, of its own row, what A2 says -/
theorem jAb.own {M M1 : jM} {v : Nat} {A A2 : cA} (h : jAb M v A) (hf : jFv v M M1) (hcl : jCl M1) (h1 : jA1 M1 v A2) (h2 : jCh M1 v (cCh A2)) (hr : ∀ a, v + 2 ≤ a → a < v + 36 → ji M1 a = ji M a ∧ jr M1 a = jr M a) (e1 : cNw A2 = cNw A) (e2 : cSn A2 = cSn A) (e3 : cKp A2 = cKp A) (e4 : cHi A2 = cHi A) : jAb M1 v A2 := by
  obtain ⟨g1, g2, g3, g4, g5, g6, ⟨nx, g7, g8⟩, g9⟩ := h
  have rk := hf.rk g1
  have lt := Nat.le_trans (Nat.add_le_add_left (show 36 ≤ 52 by decide) _) g1.1
  refine ⟨g1.fv hf, hcl, h1, h2, ?_, ?_, ⟨nx, ?_, fun i hi => ?_⟩, ?_⟩
  · rw [e1]; exact g5.rk rk ⟨(hr _ (by omega) (by omega)).2, by rw [(hr _ (by omega) (by omega)).1]⟩ (hr _ (by omega) (by omega)).2 (hr _ (by omega) (by omega)).1
  · rw [e2]; exact g6.rk rk ⟨(hr _ (by omega) (by omega)).2, by rw [(hr _ (by omega) (by omega)).1]⟩ (hr _ (by omega) (by omega)).2 (hr _ (by omega) (by omega)).1
  · rw [e3]; exact g7.fv hf.1 hf.2.1 ⟨(hr _ (by omega) (by omega)).2, (hr _ (by omega) (by omega)).1⟩ (hr _ (by omega) (by omega)).2 (fun j hj => ⟨(hr _ (by omega) (by omega)).2, (hr _ (by omega) (by omega)).1⟩)
  · rw [e3] at hi ⊢
    rw [e4]
    exact (g8 i hi).rk rk ⟨(hr _ (by omega) (by omega)).2, by rw [(hr _ (by omega) (by omega)).1]⟩ (hr _ (by omega) (by omega)).2 (hr _ (by omega) (by omega)).1
  · exact g9.rk hf.1 hf.2.1 (hr _ (by omega) (by omega)).2 (hr _ (by omega) (by omega)).1 hf.sb
/-- new cells alone -/
theorem jA1.ext {M M1 : jM} {v : Nat} {A : cA} (h : jA1 M v A) (hv : v + 36 ≤ jn M) (e : jExt M M1) : jA1 M1 v A := by
  obtain ⟨a1, a2, a3, a4, a5, a6, a7, a8, a9, a10, a11, a12, a13⟩ := h
  obtain ⟨b1, b2, b3, b4, -, -⟩ := e.2 v (by omega)
  obtain ⟨c1, c2, c3, c4, -, -⟩ := e.2 (v + 1) (by omega)
  exact ⟨by rw [b4]; exact a1, by rw [b4]; exact a2, by rw [b4]; exact a3, by rw [b4]; exact a4, by rw [b4]; exact a5, c1.trans a6, c2.trans a7, by rw [b3]; exact a8, a9, c3.trans a10, by rw [b3]; exact a11, by rw [b3]; exact a12, by rw [b3]; exact a13⟩
theorem jAb.ext {M M1 : jM} {v : Nat} {A : cA} (h : jAb M v A) (e : jExt M M1) (hcl : jCl M1) : jAb M1 v A :=
  h.own e.fv hcl (h.2.2.1.ext (by have := h.1.1; omega) e) (h.2.2.2.1.fv e.fv (by rw [(e.2 v (by have := h.1.1; omega)).2.2.2.1])) (fun a h1 h2 => ⟨(e.2 a (by have := h.1.1; omega)).2.2.1, (e.2 a (by have := h.1.1; omega)).2.2.2.1⟩) rfl rfl rfl rfl
