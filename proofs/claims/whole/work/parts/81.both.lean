theorem mOk.kd {M : jM} {m : Nat} (h : mOk M m) : ∀ a, m ≤ a → a ≤ m + 13 → jk M a = 11 ∨ jk M a = 22 := by
  intro a h1 h2
  obtain ⟨g1, g2, -, ⟨k1, k2, k3, k4, k5, k6, k7, k8, k9, k10, k11, k12, k13⟩, -⟩ := h
  rcases (show a = m ∨ a = m + 1 ∨ a = m + 2 ∨ a = m + 3 ∨ a = m + 4 ∨ a = m + 5 ∨ a = m + 6 ∨ a = m + 7 ∨ a = m + 8 ∨ a = m + 9 ∨ a = m + 10 ∨ a = m + 11 ∨ a = m + 12 ∨ a = m + 13 from by omega) with rfl | rfl | rfl | rfl | rfl | rfl | rfl | rfl | rfl | rfl | rfl | rfl | rfl | rfl
  · exact Or.inl g2
  · exact Or.inr k1
  · exact Or.inr k2
  · exact Or.inr k3
  · exact Or.inr k4
  · exact Or.inr k5
  · exact Or.inr k6
  · exact Or.inr k7
  · exact Or.inr k8
  · exact Or.inr k9
  · exact Or.inr k10
  · exact Or.inr k11
  · exact Or.inr k12
  · exact Or.inr k13
theorem mOk.eq {M M1 : jM} {m : Nat} (h : mOk M m) (hn : jn M ≤ jn M1) (e : ∀ a, m ≤ a → a ≤ m + 13 → jk M1 a = jk M a ∧ jz M1 a = jz M a ∧ jr M1 a = jr M a) : mOk M1 m := by
  obtain ⟨g1, g2, ⟨r1, r2, r3, r4, r5, r6, r7, r8, r9, r10, r11, r12, r13⟩, ⟨k1, k2, k3, k4, k5, k6, k7, k8, k9, k10, k11, k12, k13⟩, z1, z2, z3, z4, z5, z6, z7, z8, z9, z10, z11, z12, z13⟩ := h
  have e0 := e m (by omega) (by omega)
  have e1 := e (m + 1) (by omega) (by omega)
  have e2 := e (m + 2) (by omega) (by omega)
  have e3 := e (m + 3) (by omega) (by omega)
  have e4 := e (m + 4) (by omega) (by omega)
  have e5 := e (m + 5) (by omega) (by omega)
  have e6 := e (m + 6) (by omega) (by omega)
  have e7 := e (m + 7) (by omega) (by omega)
  have e8 := e (m + 8) (by omega) (by omega)
  have e9 := e (m + 9) (by omega) (by omega)
  have e10 := e (m + 10) (by omega) (by omega)
  have e11 := e (m + 11) (by omega) (by omega)
  have e12 := e (m + 12) (by omega) (by omega)
  have e13 := e (m + 13) (by omega) (by omega)
  exact ⟨by omega, e0.1.trans g2, ⟨by rw [e0.2.2]; exact r1, by rw [e0.2.2]; exact r2, by rw [e0.2.2]; exact r3, by rw [e0.2.2]; exact r4, by rw [e0.2.2]; exact r5, by rw [e0.2.2]; exact r6, by rw [e0.2.2]; exact r7, by rw [e0.2.2]; exact r8, by rw [e0.2.2]; exact r9, by rw [e0.2.2]; exact r10, by rw [e0.2.2]; exact r11, by rw [e0.2.2]; exact r12, by rw [e0.2.2]; exact r13⟩, ⟨e1.1.trans k1, e2.1.trans k2, e3.1.trans k3, e4.1.trans k4, e5.1.trans k5, e6.1.trans k6, e7.1.trans k7, e8.1.trans k8, e9.1.trans k9, e10.1.trans k10, e11.1.trans k11, e12.1.trans k12, e13.1.trans k13⟩, e1.2.1.trans z1, e2.2.1.trans z2, e3.2.1.trans z3, e4.2.1.trans z4, e5.2.1.trans z5, e6.2.1.trans z6, e7.2.1.trans z7, e8.2.1.trans z8, e9.2.1.trans z9, e10.2.1.trans z10, e11.2.1.trans z11, e12.2.1.trans z12, e13.2.1.trans z13⟩
/-- the class's call leaves the reference as it is -/
theorem mAb.fv {M M1 : jM} {v m : Nat} {A : cA} (h : mAb M m A) (hf : jFv v M M1) (hm : v + 36 ≤ m) : mAb M1 m A := by
  have hk := h.1.kd
  have hlt := h.1.1
  have E : ∀ a, m ≤ a → a ≤ m + 13 → ji M1 a = ji M a ∧ jr M1 a = jr M a := fun a h1 h2 => by
    have := hf.2.2.1 a (by omega) (by omega) (by rcases hk a h1 h2 with g | g <;> rw [g] <;> decide)
    exact ⟨this.1, this.2.1⟩
  have hO : mOk M1 m := h.1.eq hf.1 (fun a h1 h2 => ⟨(hf.2.1 a (by omega)).1, (hf.2.1 a (by omega)).2, (E a h1 h2).2⟩)
  obtain ⟨a1, a2, a3, a4, a5, a6, a7, a8⟩ := h
  have e0 := (E m (by omega) (by omega)).1
  have hC : mCh M1 m (cCh A) := by
    cases hc : cCh A with
    | none => rw [hc] at a8; show ji M1 m 10 = -1; rw [e0]; exact a8
    | some w => rw [hc] at a8; exact ⟨by rw [e0]; exact a8.1, a8.2.1, fun j hj => by rw [(E (m + 5) (by omega) (by omega)).1]; exact a8.2.2 j hj⟩
  refine ⟨hO, ?_, ?_, ?_, ?_, ?_, ?_, hC⟩
  · rw [(E (m + 1) (by omega) (by omega)).1]; exact a2
  · rw [(E (m + 2) (by omega) (by omega)).1, e0]; exact a3
  · rw [(E (m + 3) (by omega) (by omega)).1, e0]; exact a4
  · rw [(E (m + 4) (by omega) (by omega)).1, e0]; exact a5
  · rw [e0]; exact a6
  · rw [e0]; exact a7
/-- the reference's call leaves the class's object as it is -/
theorem jAb.mfr {M M1 : jM} {v : Nat} {A : cA} (h : jAb M v A) (hO : mOk M (v + 36)) (hf : mFr (v + 36) M M1) : jAb M1 v A := by
  have hkd := hO.kd
  obtain ⟨f1, f2, f3, f4, f5, f6, f7⟩ := hf
  obtain ⟨g1, g2, g3, g4, g5, g6, ⟨nx, g7, g8⟩, g9⟩ := h
  have hrow : ∀ a, (a < v + 36 ∨ v + 36 + 13 < a) → ji M1 a = ji M a := f7
  have hr : ∀ a, jr M1 a = jr M a := fun a => by rw [f4]
  have hk : ∀ a, jk M1 a = jk M a ∧ jz M1 a = jz M a := fun a => ⟨by rw [f2], by rw [f3]⟩
  have rk : jRk M M1 := ⟨Nat.le_of_eq f1.symm, fun a _ => hk a, fun t n ht => ⟨by rw [f4], hrow _ (by
    rcases Nat.lt_or_ge (t + 1) (v + 36) with q | q
    · exact Or.inl q
    · rcases Nat.lt_or_ge (v + 36 + 13) (t + 1) with q2 | q2
      · exact Or.inr q2
      · exfalso
        by_cases q3 : t + 1 = v + 36
        · exact g1.2.2 t (by omega) (by omega) ht.2.1
        · rcases hkd t (by omega) (by omega) with q4 | q4
          · rw [ht.2.1] at q4; exact absurd q4 (by decide)
          · rw [ht.2.1] at q4; exact absurd q4 (by decide))⟩⟩
  have lt := g1.1
  refine ⟨⟨by rw [f1]; exact lt, by rw [f2]; exact g1.2.1, by rw [f2]; exact g1.2.2⟩, ?_, g3.same (hk _).1 (hk _).2 (hr _) (hrow _ (by omega)) (hrow _ (by omega)), ?_, g5.rk rk ⟨hr _, by rw [hrow _ (by omega)]⟩ (hr _) (hrow _ (by omega)), g6.rk rk ⟨hr _, by rw [hrow _ (by omega)]⟩ (hr _) (hrow _ (by omega)), ⟨nx, g7.fv (Nat.le_of_eq f1.symm) (fun a _ => hk a) ⟨hr _, hrow _ (by omega)⟩ (hr _) (fun i hi => ⟨hr _, hrow _ (by omega)⟩), fun i hi => (g8 i hi).rk rk ⟨hr _, by rw [hrow _ (by omega)]⟩ (hr _) (hrow _ (by omega))⟩, g9.rk (Nat.le_of_eq f1.symm) (fun a _ => hk a) (hr _) (hrow _ (by omega)) (fun b _ _ hk2 h9 => h9.eq (hrow b (by
    rcases Nat.lt_or_ge b (v + 36) with q | q
    · exact Or.inl q
    · rcases Nat.lt_or_ge (v + 36 + 13) b with q2 | q2
      · exact Or.inr q2
      · exfalso
        rcases hkd b q q2 with q4 | q4
        · rw [hk2] at q4; exact absurd q4 (by decide)
        · rw [hk2] at q4; exact absurd q4 (by decide))))⟩
  · intro a j q ha hq
    rw [f4] at hq
    rw [f1] at ha ⊢
    exact g2 a j q ha hq
  · revert g4
    unfold jCh
    cases cCh A with
    | none => intro g4; rw [f4]; exact g4
    | some w =>
      rintro ⟨a, a1, a2, a3, a4, a5, a6, a7⟩
      exact ⟨a, by rw [f4]; exact a1, by rw [f1]; exact a2, a3, by rw [f2]; exact a4, by rw [f3]; exact a5, a6, fun j hj => by rw [hrow a (by omega)]; exact a7 j hj⟩
theorem jAb.jsl {M : jM} {v s k : Nat} {x : Int64} {A : cA} (h : jAb M v A) : jAb (jSl M s k x) v A := h
theorem jAb.jsd {M : jM} {v s k : Nat} {x : UInt64} {A : cA} (h : jAb M v A) : jAb (jSd M s k x) v A := h
theorem mAb.jsl {M : jM} {m s k : Nat} {x : Int64} {A : cA} (h : mAb M m A) : mAb (jSl M s k x) m A := h
theorem mAb.jsd {M : jM} {m s k : Nat} {x : UInt64} {A : cA} (h : mAb M m A) : mAb (jSd M s k x) m A := h
/-- WHAT THE LAW'S LOOP KEEPS: the class's object at v, the reference at v + 36, the two numbers behind -/
def lAb (M : jM) (v : Nat) (A B : cA) : Prop := jAb M v A ∧ mAb M (v + 36) B ∧ (jk M (v + 50) = 25 ∧ jz M (v + 50) = 1) ∧ jk M (v + 51) = 26 ∧ jz M (v + 51) = 1
theorem lAb.fv {M K : jM} {v : Nat} {A A2 B : cA} (h : lAb M v A B) (hB : jAb K v A2) (hf : jFv v M K) : lAb K v A2 B := by
  have lt := h.1.1.1
  have k50 := hf.2.1 (v + 50) (by omega)
  have k51 := hf.2.1 (v + 51) (by omega)
  exact ⟨hB, h.2.1.fv hf (Nat.le_refl _), ⟨k50.1.trans h.2.2.1.1, k50.2.trans h.2.2.1.2⟩, k51.1.trans h.2.2.2.1, k51.2.trans h.2.2.2.2⟩
theorem lAb.mf {M K : jM} {v : Nat} {A B B2 : cA} (h : lAb M v A B) (hB : mAb K (v + 36) B2) (hf : mFr (v + 36) M K) : lAb K v A B2 :=
  ⟨h.1.mfr h.2.1.1 hf, hB, ⟨by rw [hf.2.1]; exact h.2.2.1.1, by rw [hf.2.2.1]; exact h.2.2.1.2⟩, by rw [hf.2.1]; exact h.2.2.2.1, by rw [hf.2.2.1]; exact h.2.2.2.2⟩
theorem lAb.jsl {M : jM} {v s k : Nat} {x : Int64} {A B : cA} (h : lAb M v A B) : lAb (jSl M s k x) v A B := h
theorem lAb.jsd {M : jM} {v s k : Nat} {x : UInt64} {A B : cA} (h : lAb M v A B) : lAb (jSd M s k x) v A B := h
/-- what both say: the code that the law's call gave, and the reference's -/
theorem l_code {e : List String} {r o1 : jO} {c x6 : Int32} (hnd : ∀ i, i < 3 → ∀ j, j < 3 → e[i]? = e[j]? → e[i]? ≠ none → i = j) (hg : mAg e r o1 c) (hu : ∃ u, o1 = Sum.inl u) (h6 : (x6 = 0 ∧ ∃ u, r = Sum.inl u) ∨ ∃ k E, e[k]? = some E ∧ k < 3 ∧ r = oX E ∧ x6 = nI (k + 1)) : c = x6 := by
  obtain ⟨u, hu⟩ := hu
  rcases hg with ⟨g1, g2⟩ | ⟨k, E, g1, g2, g3, g4⟩
  · rcases h6 with ⟨h1, _⟩ | ⟨k, E, _, _, h3, _⟩
    · exact g1.trans h1.symm
    · rw [g2, hu] at h3; exact nomatch h3
  · rcases h6 with ⟨_, u2, h2⟩ | ⟨k2, E2, h1, h2, h3, h4⟩
    · rw [g4] at h2; exact nomatch h2
    · rw [g4] at h3
      cases h3
      have : k = k2 := hnd k g2 k2 h2 (g1.trans h1.symm) (by rw [g1]; exact Option.some_ne_none _)
      rw [g3, h4, this]
theorem l_out {e : List String} {r o1 : jO} {c : Int32} (hg : mAg e r o1 c) (hu : ∃ u, r = Sum.inl u) : c = 0 ∧ r = o1 := by
  obtain ⟨u, hu⟩ := hu
  rcases hg with h | ⟨k, E, _, _, _, g4⟩
  · exact h
  · rw [hu] at g4; exact nomatch g4
