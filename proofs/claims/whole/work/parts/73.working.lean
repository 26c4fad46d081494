def lst : List Nat → Nat
  | [] => 0
  | t :: p => match p with
    | [] => t
    | _ :: _ => lst p
theorem lst_c {t : Nat} {p : List Nat} (h : p ≠ []) : lst (t :: p) = lst p := by
  cases p with
  | nil => exact absurd rfl h
  | cons a b => rfl
/-- what a tree of nodes gives: the way down to where it fails, or a range -/
def evT (S : Int32 → Option rVl) (s : eSt) : Nat → Nat → List Nat ⊕ rVl
  | 0, _ => .inl []
  | f + 1, t =>
    if s.2.2.1 t = 4 then (match S (s.2.2.2.2.1 t) with
      | none => .inl [t]
      | some w => .inr w)
    else if s.2.2.1 t = 3 then (match evT S s f (s.2.2.2.2.1 t).toNatClampNeg with
      | .inl p => .inl (t :: p)
      | .inr a => if 16 < (vComb 2 rWhole9 a).1 then .inl [t] else .inr (vComb 2 rWhole9 a))
    else (match evT S s f (s.2.2.2.2.1 t).toNatClampNeg with
      | .inl p => .inl (t :: p)
      | .inr a => match evT S s f (s.2.2.2.2.2.1 t).toNatClampNeg with
        | .inl p => .inl (t :: p)
        | .inr b => if 16 < (vComb (s.2.2.1 t) a b).1 then .inl [t] else .inr (vComb (s.2.2.1 t) a b))
section Ev
variable {S : Int32 → Option rVl} {s : eSt} {f t l r : Nat}
theorem evT_4n (h : s.2.2.1 t = 4) (h2 : S (s.2.2.2.2.1 t) = none) : evT S s (f + 1) t = .inl [t] := by unfold evT; rw [if_pos h, h2]
theorem evT_4s {w : rVl} (h : s.2.2.1 t = 4) (h2 : S (s.2.2.2.2.1 t) = some w) : evT S s (f + 1) t = .inr w := by unfold evT; rw [if_pos h, h2]
theorem evT_3i {p : List Nat} (h : s.2.2.1 t = 3) (hl : s.2.2.2.2.1 t = nI l) (hb : l < 2 ^ 31) (h2 : evT S s f l = .inl p) : evT S s (f + 1) t = .inl (t :: p) := by unfold evT; rw [if_neg (by rw [h]; decide), if_pos h, hl, nI_clamp hb, h2]
theorem evT_3x {a : rVl} (h : s.2.2.1 t = 3) (hl : s.2.2.2.2.1 t = nI l) (hb : l < 2 ^ 31) (h2 : evT S s f l = .inr a) (h3 : 16 < (vComb 2 rWhole9 a).1) : evT S s (f + 1) t = .inl [t] := by unfold evT; rw [if_neg (by rw [h]; decide), if_pos h, hl, nI_clamp hb, h2]; dsimp only; rw [if_pos h3]
theorem evT_3r {a : rVl} (h : s.2.2.1 t = 3) (hl : s.2.2.2.2.1 t = nI l) (hb : l < 2 ^ 31) (h2 : evT S s f l = .inr a) (h3 : ¬ 16 < (vComb 2 rWhole9 a).1) : evT S s (f + 1) t = .inr (vComb 2 rWhole9 a) := by unfold evT; rw [if_neg (by rw [h]; decide), if_pos h, hl, nI_clamp hb, h2]; dsimp only; rw [if_neg h3]
theorem kd_n (h : s.2.2.1 t = 0 ∨ s.2.2.1 t = 1 ∨ s.2.2.1 t = 2) : s.2.2.1 t ≠ 4 ∧ s.2.2.1 t ≠ 3 := by rcases h with h | h | h <;> rw [h] <;> exact ⟨by decide, by decide⟩
theorem evT_2a {p : List Nat} (h : s.2.2.1 t = 0 ∨ s.2.2.1 t = 1 ∨ s.2.2.1 t = 2) (hl : s.2.2.2.2.1 t = nI l) (hb : l < 2 ^ 31) (h2 : evT S s f l = .inl p) : evT S s (f + 1) t = .inl (t :: p) := by unfold evT; rw [if_neg (kd_n h).1, if_neg (kd_n h).2, hl, nI_clamp hb, h2]
theorem evT_2b {p : List Nat} {a : rVl} (h : s.2.2.1 t = 0 ∨ s.2.2.1 t = 1 ∨ s.2.2.1 t = 2) (hl : s.2.2.2.2.1 t = nI l) (hr : s.2.2.2.2.2.1 t = nI r) (hb : l < 2 ^ 31) (hc : r < 2 ^ 31) (h2 : evT S s f l = .inr a) (h3 : evT S s f r = .inl p) : evT S s (f + 1) t = .inl (t :: p) := by unfold evT; rw [if_neg (kd_n h).1, if_neg (kd_n h).2, hl, hr, nI_clamp hb, nI_clamp hc, h2]; dsimp only; rw [h3]
theorem evT_2x {a b : rVl} (h : s.2.2.1 t = 0 ∨ s.2.2.1 t = 1 ∨ s.2.2.1 t = 2) (hl : s.2.2.2.2.1 t = nI l) (hr : s.2.2.2.2.2.1 t = nI r) (hb : l < 2 ^ 31) (hc : r < 2 ^ 31) (h2 : evT S s f l = .inr a) (h3 : evT S s f r = .inr b) (h4 : 16 < (vComb (s.2.2.1 t) a b).1) : evT S s (f + 1) t = .inl [t] := by unfold evT; rw [if_neg (kd_n h).1, if_neg (kd_n h).2, hl, hr, nI_clamp hb, nI_clamp hc, h2]; dsimp only; rw [h3]; dsimp only; rw [if_pos h4]
theorem evT_2r {a b : rVl} (h : s.2.2.1 t = 0 ∨ s.2.2.1 t = 1 ∨ s.2.2.1 t = 2) (hl : s.2.2.2.2.1 t = nI l) (hr : s.2.2.2.2.2.1 t = nI r) (hb : l < 2 ^ 31) (hc : r < 2 ^ 31) (h2 : evT S s f l = .inr a) (h3 : evT S s f r = .inr b) (h4 : ¬ 16 < (vComb (s.2.2.1 t) a b).1) : evT S s (f + 1) t = .inr (vComb (s.2.2.1 t) a b) := by unfold evT; rw [if_neg (kd_n h).1, if_neg (kd_n h).2, hl, hr, nI_clamp hb, nI_clamp hc, h2]; dsimp only; rw [h3]; dsimp only; rw [if_neg h4]
end Ev
/-- what working out changes at all -/
def mWfr (m nn : Nat) (M M1 : jM) : Prop := mFr m M M1 ∧ (∀ a, m < a → a ≠ m + 5 → a ≠ m + 6 → a ≠ m + 7 → a ≠ m + 12 → ji M1 a = ji M a) ∧ (∀ f, f ≠ 10 → f ≠ 14 → f ≠ 28 → ji M1 m f = ji M m f) ∧ ∀ j, j < nn → ji M1 (m + 12) j = ji M (m + 12) j
theorem mWfr.rf {m nn : Nat} {M : jM} : mWfr m nn M M := ⟨mFr.rf, fun _ _ _ _ _ _ => rfl, fun _ _ _ _ => rfl, fun _ _ => rfl⟩
theorem mWfr.tr {m nn n2 : Nat} {M K L : jM} (h : mWfr m nn M K) (h2 : mWfr m n2 K L) (hn : nn ≤ n2) : mWfr m nn M L :=
  ⟨h.1.tr h2.1, fun a a1 a2 a3 a4 a5 => (h2.2.1 a a1 a2 a3 a4 a5).trans (h.2.1 a a1 a2 a3 a4 a5), fun f f1 f2 f3 => (h2.2.2.1 f f1 f2 f3).trans (h.2.2.1 f f1 f2 f3), fun j hj => (h2.2.2.2 j (by omega)).trans (h.2.2.2 j hj)⟩
theorem mWfr.si {m nn a k : Nat} {x : Int32} {M K : jM} (h : mWfr m nn M K) (ha : a = m + 5 ∨ a = m + 6 ∨ a = m + 7) : mWfr m nn M (jSi K a k x) :=
  ⟨h.1.si (by omega), fun b b1 b2 b3 b4 b5 => (funext fun j => ji_Sin (by omega)).trans (h.2.1 b b1 b2 b3 b4 b5), fun f f1 f2 f3 => (ji_Sin (by omega)).trans (h.2.2.1 f f1 f2 f3), fun j hj => (ji_Sin (by omega)).trans (h.2.2.2 j hj)⟩
theorem mWfr.sv {m nn a : Nat} {g : Nat → Int32} {M K : jM} (h : mWfr m nn M K) (ha : a = m + 5 ∨ a = m + 6 ∨ a = m + 7) : mWfr m nn M (jSv K a g) :=
  ⟨h.1.sv (by omega), fun b b1 b2 b3 b4 b5 => (funext fun j => ji_Svn (by omega)).trans (h.2.1 b b1 b2 b3 b4 b5), fun f f1 f2 f3 => (ji_Svn (by omega)).trans (h.2.2.1 f f1 f2 f3), fun j hj => (ji_Svn (by omega)).trans (h.2.2.2 j hj)⟩
theorem mWfr.fi {m nn k : Nat} {x : Int32} {M K : jM} (h : mWfr m nn M K) (hk : k = 10 ∨ k = 14 ∨ k = 28) : mWfr m nn M (jSi K m k x) :=
  ⟨h.1.si ⟨by omega, by omega⟩, fun b b1 b2 b3 b4 b5 => (funext fun j => ji_Sin (by omega)).trans (h.2.1 b b1 b2 b3 b4 b5), fun f f1 f2 f3 => (ji_Sik (by omega)).trans (h.2.2.1 f f1 f2 f3), fun j hj => (ji_Sin (by omega)).trans (h.2.2.2 j hj)⟩
theorem mWfr.go {m nn k : Nat} {x : Int32} {M K : jM} (h : mWfr m nn M K) (hk : nn ≤ k) : mWfr m nn M (jSi K (m + 12) k x) :=
  ⟨h.1.si ⟨by omega, by omega⟩, fun b b1 b2 b3 b4 b5 => (funext fun j => ji_Sin (by omega)).trans (h.2.1 b b1 b2 b3 b4 b5), fun f f1 f2 f3 => (ji_Sin (by omega)).trans (h.2.2.1 f f1 f2 f3), fun j hj => (ji_Sik (by omega)).trans (h.2.2.2 j hj)⟩
theorem mWfr.nd {m nn : Nat} {M K : jM} {s : eSt} (h : mWfr m nn M K) (hN : mNd M m s) : mNd K m s := fun k hk => by
  rw [h.2.1 (m + 8) (by omega) (by omega) (by omega) (by omega) (by omega), h.2.1 (m + 9) (by omega) (by omega) (by omega) (by omega) (by omega), h.2.1 (m + 10) (by omega) (by omega) (by omega) (by omega) (by omega), h.2.1 (m + 11) (by omega) (by omega) (by omega) (by omega) (by omega)]; exact hN k hk
theorem mWfr.st {m nn : Nat} {M K : jM} {z : cSt} (h : mWfr m nn M K) (hz : mSt (ji M (m + 1)) 0 z) : mSt (ji K (m + 1)) 0 z := by
  rw [h.2.1 (m + 1) (by omega) (by omega) (by omega) (by omega) (by omega)]; exact hz
def mWr (M M1 : jM) (m : Nat) (s : eSt) (to nn : Nat) : List Nat ⊕ rVl → Prop
  | .inl p => p ≠ [] ∧ nn + p.length ≤ 60 ∧ ji M1 m 28 = eWhy s (lst p) ∧ ji M1 m 10 = nI (nn + p.length) ∧ (∀ j, j < nn → ji M1 (m + 5) j = ji M (m + 12) j) ∧ ∀ i, i < p.length → ji M1 (m + 5) (nn + i) = s.2.2.2.1 (p.getD i 0)
  | .inr w => ji M1 m 28 = 0 ∧ ji M1 m 10 = ji M m 10 ∧ ji M1 (m + 5) = ji M (m + 5) ∧ mSlot (ji M1 (m + 6)) to (some w) ∧ rWf w ∧ ∀ j, j < to → ji M1 (m + 6) j = ji M (m + 6) j
def mWk (M : jM) (m : Nat) (z : cSt) (s : eSt) (f t to nn : Nat) : jP := fun o M1 => o = oV ∧ mWfr m nn M M1 ∧ mWr M M1 m s to nn (evT (cAt z) s f t)
def mWC (l : Launch) (D : va_G) (dA : Nat → ClassId) (m : Nat) (z : cSt) (s : eSt) (f : Nat) : Prop := ∀ M a t to nn, mOk M m → mSt (ji M (m + 1)) 0 z → mNd M m s → tTr s f a t → t < s.2.1 → to + 33 * (f + 1) ≤ 2112 → nn + f ≤ 60 → ji M m 28 = 0 → jCT l D dA yX8_works wsX8_works (30 + f) (700 + 60 * f) 0 0 0 [.ref m, .int (nI t), .int (nI to), .int (nI nn)] M (mWk M m z s f t to nn)
def nM (M : jM) (m : Nat) (why : Int32) (nn : Nat) (p : Int32) : jM := jSi (jSv (jSi (jSi M m 28 why) m 10 (nI (nn + 1))) (m + 5) (mCp (ji M (m + 5)) 0 (ji M (m + 12)) nn)) (m + 5) nn p
theorem nM_f {M : jM} {m : Nat} {why : Int32} {nn n2 : Nat} {p : Int32} : mWfr m n2 M (nM M m why nn p) := (((mWfr.rf.fi (by omega)).fi (by omega)).sv (by omega)).si (by omega)
theorem nM_28 {M : jM} {m : Nat} {why : Int32} {nn : Nat} {p : Int32} : ji (nM M m why nn p) m 28 = why ∧ ji (nM M m why nn p) m 10 = nI (nn + 1) := by
  unfold nM
  refine ⟨?_, ?_⟩
  · rw [ji_Sin (by omega), ji_Svn (by omega), ji_Sik (by decide)]; exact ji_Sis
  · rw [ji_Sin (by omega), ji_Svn (by omega)]; exact ji_Sis
theorem nM_c {M : jM} {m : Nat} {why : Int32} {nn : Nat} {p : Int32} : (∀ j, j < nn → ji (nM M m why nn p) (m + 5) j = ji M (m + 12) j) ∧ ji (nM M m why nn p) (m + 5) nn = p := by
  unfold nM
  refine ⟨fun j hj => ?_, ji_Sis⟩
  rw [ji_Sik (by omega), ji_Sv, if_pos rfl]
  have := mCp_in (f := ji M (m + 5)) (p := 0) (g := ji M (m + 12)) (k := nn) hj
  rw [Nat.zero_add] at this
  exact this
theorem nM_r {M M1 : jM} {m : Nat} {s : eSt} {to nn t : Nat} {why : Int32} (hn : nn < 60) (h : ∀ j, j < nn → ji M1 (m + 12) j = ji M (m + 12) j) (hw : why = eWhy s t) : mWr M (nM M1 m why nn (s.2.2.2.1 t)) m s to nn (.inl [t]) :=
  ⟨List.cons_ne_nil _ _, by show nn + 1 ≤ 60; omega, nM_28.1.trans hw, nM_28.2, fun j hj => (nM_c.1 j hj).trans (h j hj), fun i hi => by
    have hi2 : i < 1 := hi
    obtain rfl : i = 0 := by omega
    exact nM_c.2⟩
/-- a part that fails, one level up -/
theorem mWr_up {M M0 M1 : jM} {m : Nat} {s : eSt} {to to2 nn t : Nat} {p : List Nat} (h0 : ∀ j, j < nn → ji M0 (m + 12) j = ji M (m + 12) j) (h1 : ji M0 (m + 12) nn = s.2.2.2.1 t) (h : mWr M0 M1 m s to2 (nn + 1) (.inl p)) : mWr M M1 m s to nn (.inl (t :: p)) := by
  obtain ⟨a1, a2, a3, a4, a5, a6⟩ := h
  refine ⟨List.cons_ne_nil _ _, by show nn + (p.length + 1) ≤ 60; omega, by rw [lst_c a1]; exact a3, a4.trans (congrArg nI (by show nn + 1 + p.length = nn + (p.length + 1); omega)), fun j hj => (a5 j (by omega)).trans (h0 j hj), fun i hi => ?_⟩
  cases i with
  | zero => exact (a5 nn (by omega)).trans h1
  | succ i =>
    have hi2 : i + 1 < p.length + 1 := hi
    have := a6 i (by omega)
    rw [show nn + 1 + i = nn + (i + 1) from by omega] at this
    exact this
theorem eWhy_p {s : eSt} {k : Nat} : 0 < eWhy s k := by unfold eWhy; split <;> decide
theorem rE_wf : rWf (0, fun _ => 0) := ⟨fun j hj => absurd hj (by show ¬ j < 2 * 0; omega), fun k hk => absurd hk (by show ¬ k < 0; omega), fun k hk => absurd hk (by show ¬ k + 1 < 0; omega)⟩
theorem r9_wf : rWf rWhole9 := rSp_wf (x := 0) (y := 99999999) (by decide) (by decide)
theorem r9_in {p : Nat} (hp : p < 100000000) : rHolds rWhole9.2 rWhole9.1 (nI p) = true ∧ rNext rWhole9.2 rWhole9.1 (nI p) = nI 100000000 := by
  have h := rHolds_in r9_wf (k := 0) (x := nI p) (by decide) (by show (0 : Int32) ≤ nI p; exact nI_pos' (by omega)) (by show nI p ≤ 99999999; exact (nI_leN (b := 99999999) (by omega) (by omega)).mpr (by omega))
  refine ⟨h.1, ?_⟩
  have hf : rFirst rWhole9.2 rWhole9.1 0 = 0 := rfl
  have hl : rLast rWhole9.2 rWhole9.1 0 = 99999999 := rfl
  unfold rNext
  rw [h.2, if_neg (by decide), hf, hl, if_neg (nI_pos (by omega))]
  rfl
/-- the opposite, told by the class's own combining -/
theorem mJn_not {M M1 : jM} {m : Nat} {w : rVl} {t : Nat} {o : jO} (h : mJn M m 33 w (0, fun _ => 0) t o M1) (h1 : rWf w) :
    ∃ D y H, M1 = jSv (jSi (jSv M (m + 7) D) m 14 y) (m + 6) H ∧ (∀ j, (j < t ∨ t + 33 ≤ j) → H j = ji M (m + 6) j) ∧ ((16 < (vComb 2 rWhole9 w).1 ∧ o = oI (jb false)) ∨ ((vComb 2 rWhole9 w).1 ≤ 16 ∧ o = oI (jb true) ∧ mSlot H t (some (vComb 2 rWhole9 w)))) := by
  obtain ⟨n, D, y, H, e, eM, hH, ho⟩ := h
  have hn := nx_two h1 rE_wf
  have hmt : ∀ p, p < 100000000 → jMt 33 w (0, fun _ => 0) (nI p) = (fun y => vMeets 2 (rHolds rWhole9.2 rWhole9.1 y) (rHolds w.2 w.1 y)) (nI p) ∧ (fun y => rMin (rNext w.2 w.1 y) (rNext (fun _ => 0) 0 y)) (nI p) = jNx rWhole9 w (nI p) := fun p hp => by
    obtain ⟨a, b⟩ := r9_in hp
    refine ⟨?_, ?_⟩
    · show vGv 33 _ _ = vMeets 2 _ _
      rw [a, vM2]; unfold vGv; rw [if_neg (by decide), if_neg (by decide), if_neg (by decide)]; rfl
    · show rMin (rNext w.2 w.1 (nI p)) (nI 100000000) = rMin _ _
      rw [b, rMin_comm]
  have hp := uS_pre (mt := jMt 33 w (0, fun _ => 0)) (nx := jNx w (0, fun _ => 0)) (2 * (w.1 + 0 + 1)) 0 0 (ji M (m + 7)) (fun _ => 0) (fun j hj => absurd hj (Nat.not_lt_zero _))
  have hE : uS (jMt 33 w (0, fun _ => 0)) (jNx w (0, fun _ => 0)) (2 * (w.1 + 0 + 1)) 0 0 (fun _ => 0) = rComb 2 rWhole9.2 rWhole9.1 w.2 w.1 := by
    rw [comb_uS]
    refine (uS_eq (mt := jMt 33 w (0, fun _ => 0)) (mt2 := fun y => vMeets 2 (rHolds rWhole9.2 rWhole9.1 y) (rHolds w.2 w.1 y)) (nx2 := jNx rWhole9 w) hn hmt (2 * (w.1 + 0 + 1)) 0 0 (fun _ => 0) (by omega)).trans ?_
    have h2 := rTg_le (w := rWhole9) (x := nI 0)
    have h3 := rTg_le (w := w) (x := nI 0)
    have h4 := rTg_le (w := ((0, fun _ => 0) : rVl)) (x := nI 0)
    refine uS_fu (c := fun p => rTg w (nI p) + rTg ((0, fun _ => 0) : rVl) (nI p)) (fun p hp => ?_) _ _ 0 0 (fun _ => 0) (by omega) (fun _ => ⟨?_, ?_⟩)
    · obtain ⟨x, e1, e2, e3, e4⟩ := hn p hp
      exact ⟨x, (hmt p hp).2.symm.trans e1, e2, e3, e4⟩
    · show rTg w (nI 0) + rTg ((0, fun _ => 0) : rVl) (nI 0) < _
      have h5 : rTg ((0, fun _ => 0) : rVl) (nI 0) ≤ 2 * 0 := h4
      omega
    · show rTg w (nI 0) + rTg ((0, fun _ => 0) : rVl) (nI 0) < _
      have h5 : rTg ((0, fun _ => 0) : rVl) (nI 0) ≤ 2 * 0 := h4
      have h6 : rWhole9.1 = 1 := rfl
      omega
  unfold jJn at e
  have e' : uS (jMt 33 w (0, fun _ => 0)) (jNx w (0, fun _ => 0)) (2 * (w.1 + 0 + 1)) 0 0 (ji M (m + 7)) = (2 * n, D) := e
  rw [e', hE] at hp
  have hnn : (vComb 2 rWhole9 w).1 = n := by
    show (rComb 2 rWhole9.2 rWhole9.1 w.2 w.1).1 / 2 = n
    rw [← hp.1]; show 2 * n / 2 = n; omega
  have hv : vComb 2 rWhole9 w = (n, (rComb 2 rWhole9.2 rWhole9.1 w.2 w.1).2) := Prod.ext hnn rfl
  refine ⟨D, y, H, eM, hH, ?_⟩
  rw [hnn]
  rcases ho with ⟨a, b⟩ | ⟨a, b, c⟩
  · exact Or.inl ⟨a, b⟩
  · refine Or.inr ⟨a, b, ?_⟩
    rw [hv]
    exact c.eqv (fun j hj => hp.2 j hj)
theorem vGv_kd {kd : Int32} (h : kd = 0 ∨ kd = 1 ∨ kd = 2) : (∀ p q, vGv (sgK kd) p q = vMeets kd p q) ∧ sgK kd ≠ 115 ∧ sgK kd ≠ 33 := by
  rcases h with rfl | rfl | rfl
  · exact ⟨fun p q => by cases p <;> cases q <;> decide, by decide, by decide⟩
  · exact ⟨fun p q => by cases p <;> cases q <;> decide, by decide, by decide⟩
  · exact ⟨fun p q => by cases p <;> cases q <;> decide, by decide, by decide⟩
theorem mJ_fr {M M1 : jM} {m nn t : Nat} {D H : Nat → Int32} {y : Int32} (e : M1 = jSv (jSi (jSv M (m + 7) D) m 14 y) (m + 6) H) : mWfr m nn M M1 ∧ ji M1 m 28 = ji M m 28 ∧ ji M1 m 10 = ji M m 10 ∧ ji M1 (m + 5) = ji M (m + 5) ∧ ji M1 (m + 6) = H := by
  subst e
  refine ⟨((mWfr.rf.sv (by omega)).fi (by omega)).sv (by omega), ?_, ?_, funext fun j => ?_, funext fun j => ?_⟩
  · rw [ji_Svn (by omega), ji_Sik (by decide), ji_Svn (by omega)]
  · rw [ji_Svn (by omega), ji_Sik (by decide), ji_Svn (by omega)]
  · rw [ji_Svn (by omega), ji_Sin (by omega), ji_Svn (by omega)]
  · rw [ji_Sv, if_pos rfl]
theorem dX8_takes_2 : decode cX8_takes 2 = .ok (.iload_n 3, 1) := by decide +kernel
theorem dX8_takes_3 : decode cX8_takes 3 = .ok (.bipush 33, 2) := by decide +kernel
theorem dX8_takes_5 : decode cX8_takes 5 = .ok (.if_icmp .ge 51, 3) := by decide +kernel
theorem dX8_takes_56 : decode cX8_takes 56 = .ok (.return_, 1) := by decide +kernel
theorem dX8_takes_8 : decode cX8_takes 8 = .ok (.aload_n 0, 1) := by decide +kernel
theorem dX8_takes_9 : decode cX8_takes 9 = .ok (.getfield 32, 3) := by decide +kernel
theorem dX8_takes_12 : decode cX8_takes 12 = .ok (.iload_n 2, 1) := by decide +kernel
theorem dX8_takes_13 : decode cX8_takes 13 = .ok (.iload_n 3, 1) := by decide +kernel
theorem dX8_takes_14 : decode cX8_takes 14 = .ok (.iadd, 1) := by decide +kernel
theorem dX8_takes_15 : decode cX8_takes 15 = .ok (.iload_n 3, 1) := by decide +kernel
theorem dX8_takes_16 : decode cX8_takes 16 = .ok (.ifCond .eq 18, 3) := by decide +kernel
theorem dX8_takes_34 : decode cX8_takes 34 = .ok (.aload_n 0, 1) := by decide +kernel
theorem dX8_takes_35 : decode cX8_takes 35 = .ok (.getfield 9, 3) := by decide +kernel
theorem dX8_takes_38 : decode cX8_takes 38 = .ok (.bipush 33, 2) := by decide +kernel
theorem dX8_takes_40 : decode cX8_takes 40 = .ok (.iload_n 1, 1) := by decide +kernel
theorem dX8_takes_41 : decode cX8_takes 41 = .ok (.imul, 1) := by decide +kernel
theorem dX8_takes_42 : decode cX8_takes 42 = .ok (.iload_n 3, 1) := by decide +kernel
theorem dX8_takes_43 : decode cX8_takes 43 = .ok (.iadd, 1) := by decide +kernel
theorem dX8_takes_44 : decode cX8_takes 44 = .ok (.iaload, 1) := by decide +kernel
theorem dX8_takes_45 : decode cX8_takes 45 = .ok (.goto 4, 3) := by decide +kernel
theorem dX8_takes_49 : decode cX8_takes 49 = .ok (.iastore, 1) := by decide +kernel
theorem dX8_takes_50 : decode cX8_takes 50 = .ok (.iinc 3 1, 3) := by decide +kernel
theorem dX8_takes_53 : decode cX8_takes 53 = .ok (.goto (-51), 3) := by decide +kernel
theorem dX8_takes_19 : decode cX8_takes 19 = .ok (.iload_n 3, 1) := by decide +kernel
theorem dX8_takes_20 : decode cX8_takes 20 = .ok (.iconst 2, 1) := by decide +kernel
theorem dX8_takes_21 : decode cX8_takes 21 = .ok (.aload_n 0, 1) := by decide +kernel
theorem dX8_takes_22 : decode cX8_takes 22 = .ok (.getfield 9, 3) := by decide +kernel
theorem dX8_takes_25 : decode cX8_takes 25 = .ok (.bipush 33, 2) := by decide +kernel
theorem dX8_takes_27 : decode cX8_takes 27 = .ok (.iload_n 1, 1) := by decide +kernel
theorem dX8_takes_28 : decode cX8_takes 28 = .ok (.imul, 1) := by decide +kernel
theorem dX8_takes_29 : decode cX8_takes 29 = .ok (.iaload, 1) := by decide +kernel
theorem dX8_takes_30 : decode cX8_takes 30 = .ok (.imul, 1) := by decide +kernel
theorem dX8_takes_31 : decode cX8_takes 31 = .ok (.if_icmp .gt 17, 3) := by decide +kernel
theorem dX8_takes_48 : decode cX8_takes 48 = .ok (.iconst 0, 1) := by decide +kernel
theorem dX8_takes_0 : decode cX8_takes 0 = .ok (.iconst 0, 1) := by decide +kernel
theorem dX8_takes_1 : decode cX8_takes 1 = .ok (.istore_n 3, 1) := by decide +kernel
set_option maxHeartbeats 400000 in
set_option maxRecDepth 20000 in
theorem ct_X8_takes (l : Launch) (D : va_G) (dA : Nat → ClassId) (hst : l.stackTraces = false) (M : jM) (m : Nat) (hM : mOk M m) (k : Nat) (hk : k < 12) (t : Nat) (ht : t + 33 ≤ 2112) (w : rVl) (hx : mSlot (ji M (m + 1)) (33 * k) (some w)) : jCT l D dA yX8_takes wsX8_takes (21) (360) (0) (0) 0 [.ref (m), .int (nI (k)), .int (nI (t))] M (jPo (oV) (jSv M (m + 6) (mCp (ji M (m + 6)) t (mTk (fun i => ji M (m + 1) (33 * k + i)) w.1) 33))) := by
  refine jBody (cc := cX8_takes) (nL := 4) (rt := none) (ini := false) (by decide) rfl hst (Nat.le_of_ble_eq_true rfl) (by simp [Value.category]) (by intro h9; first | exact absurd h9 (by decide) | rfl) ?_
  show J l D dA RX8 cX8_takes wsX8_takes 4 false none [] (21) (360) (jF D dA (jn M) (jPo (oV) (jSv M (m + 6) (mCp (ji M (m + 6)) t (mTk (fun i => ji M (m + 1) (33 * k + i)) w.1) 33))) 0) (jn M) (0) (0) (M) 0 [.ref (m), .int (nI (k)), .int (nI (t)), .float 0] []
  obtain ⟨m1, m2, ⟨r1, r2, r3, r4, r5, r6, r7, r8, r9, r10, r11, r12, r13⟩, ⟨k1, k2, k3, k4, k5, k6, k7, k8, k9, k10, k11, k12, k13⟩, z1, z2, z3, z4, z5, z6, z7, z8, z9, z10, z11, z12, z13⟩ := id hM
  have h16 := hx.2.1
  have L2 : ∀ (fuel : Nat) (j : Nat) (hj : j ≤ 33), 33 - j < fuel → J l D dA RX8 cX8_takes wsX8_takes 4 false none [] (21) (360) (jF D dA (jn M) (jPo (oV) (jSv M (m + 6) (mCp (ji M (m + 6)) t (mTk (fun i => ji M (m + 1) (33 * k + i)) w.1) 33))) 0) (jn M) (0) (0) ((jSv M (m + 6) (mCp (ji M (m + 6)) t (mTk (fun i => ji M (m + 1) (33 * k + i)) w.1) j))) 2 [.ref (m), .int (nI (k)), .int (nI (t)), .int (nI (j))] [] := by
    intro fuel
    induction fuel with
    | zero => intro j hj hm; exact absurd hm (Nat.not_lt_zero _)
    | succ fuel ih2 =>
      intro j hj hm2
      refine J_iload_n dX8_takes_2 rfl rfl ?_
      refine J_bipush (x := 33) dX8_takes_3 (by decide) ?_
      refine J_icmp_ge dX8_takes_5 (tgt := 56) (by decide) (fun c5 => ?_) (fun c5 => ?_)
      · have c5 := jleT (a := 33) (b := j) (by omega) (by omega) c5
        exact J_vret dX8_takes_56 rfl ⟨(by rfl), (by rw [show j = 33 from by omega])⟩
      · have c5 := jleF (a := 33) (b := j) (by omega) (by omega) c5
        refine J_aload_n (m) dX8_takes_8 rfl rfl ?_
        refine J_getrs (q := m + 6) r6 dX8_takes_9 (fun _ h => List.mem_cons_of_mem _ (List.mem_append_left _ (List.mem_append_right _ (h)))) cs11 (by decide) rfl (List.mem_of_getElem? (i := 1) rfl) rfl (show m < jn M from by omega) m2 ?_
        refine J_iload_n dX8_takes_12 rfl rfl ?_
        refine J_iload_n dX8_takes_13 rfl rfl ?_
        refine J_iadd dX8_takes_14 ?_
        refine J_topi (y := nI (t + j)) (nI_add (t) (j)) ?_
        refine J_iload_n dX8_takes_15 rfl rfl ?_
        refine J_if_eq dX8_takes_16 (tgt := 34) (by decide) (fun c16 => ?_) (fun c16 => ?_)
        · have c16 := jeqT (a := j) (b := 0) (by omega) (by omega) c16
          refine J_aload_n (m) dX8_takes_34 rfl rfl ?_
          refine J_getrs (q := m + 1) r1 dX8_takes_35 (fun _ h => List.mem_cons_of_mem _ (List.mem_append_left _ (List.mem_append_right _ (h)))) cs11 (by decide) rfl (List.mem_of_getElem? (i := 2) rfl) rfl (show m < jn M from by omega) m2 ?_
          refine J_bipush (x := 33) dX8_takes_38 (by decide) ?_
          refine J_iload_n dX8_takes_40 rfl rfl ?_
          refine J_imul dX8_takes_41 ?_
          refine J_topi (y := nI (33 * k)) (pk_mul (33) (k)) ?_
          refine J_iload_n dX8_takes_42 rfl rfl ?_
          refine J_iadd dX8_takes_43 ?_
          refine J_topi (y := nI (33 * k + j)) (nI_add (33 * k) (j)) ?_
          refine J_ialdN (k := 33 * k + j) dX8_takes_44 (show m + 1 < jn M from by omega) k1 (by exact Nat.lt_of_lt_of_eq (show _ < 427 by omega) (Eq.symm z1)) (by exact Nat.lt_of_le_of_lt (Nat.le_of_eq z1) (show 427 < 2 ^ 31 by omega)) ?_
          refine J_goto (tgt := 49) dX8_takes_45 (by decide) ?_
          refine J_topi (y := (mTk (fun i => ji M (m + 1) (33 * k + i)) w.1) j) (by unfold mTk; first | (rw [if_pos (by omega), ji_Svn (by omega)]; done) | (rw [if_neg (by omega)]; done) | (rw [if_pos (Or.inl (by omega)), ji_Svn (by omega)]; done)) ?_
          refine J_iastN (k := t + j) dX8_takes_49 (show m + 6 < jn M from by omega) k6 (by exact Nat.lt_of_lt_of_eq (show _ < 2112 by omega) (Eq.symm z6)) (by exact Nat.lt_of_le_of_lt (Nat.le_of_eq z6) (show 2112 < 2 ^ 31 by omega)) ?_
          refine J_mem (M' := jSv M (m + 6) (mCp (ji M (m + 6)) t (mTk (fun i => ji M (m + 1) (33 * k + i)) w.1) (j + 1))) (by exact (jSi_Sv _ _ _ _ _).trans (congrArg (jSv M (m + 6)) mCp_s)) ?_
          refine J_iinc (y := nI (j + 1)) (lv' := [.ref (m), .int (nI (k)), .int (nI (t)), .int (nI (j + 1))]) dX8_takes_50 rfl (jinc (j)) (by decide) rfl rfl ?_
          refine J_goto (tgt := 2) dX8_takes_53 (by decide) ?_
          exact ih2 (j + 1) (by omega) (by omega)
        · have c16 := jeqF (a := j) (b := 0) (by omega) (by omega) c16
          refine J_iload_n dX8_takes_19 rfl rfl ?_
          refine J_iconst (x := 2) dX8_takes_20 (by decide) ?_
          refine J_aload_n (m) dX8_takes_21 rfl rfl ?_
          refine J_getrs (q := m + 1) r1 dX8_takes_22 (fun _ h => List.mem_cons_of_mem _ (List.mem_append_left _ (List.mem_append_right _ (h)))) cs11 (by decide) rfl (List.mem_of_getElem? (i := 2) rfl) rfl (show m < jn M from by omega) m2 ?_
          refine J_bipush (x := 33) dX8_takes_25 (by decide) ?_
          refine J_iload_n dX8_takes_27 rfl rfl ?_
          refine J_imul dX8_takes_28 ?_
          refine J_topi (y := nI (33 * k)) (pk_mul (33) (k)) ?_
          refine J_ialdN (k := 33 * k) dX8_takes_29 (show m + 1 < jn M from by omega) k1 (by exact Nat.lt_of_lt_of_eq (show _ < 427 by omega) (Eq.symm z1)) (by exact Nat.lt_of_le_of_lt (Nat.le_of_eq z1) (show 427 < 2 ^ 31 by omega)) ?_
          refine J_topi (y := nI (w.1)) (by rw [ji_Svn (by omega)]; exact hx.hd) ?_
          refine J_imul dX8_takes_30 ?_
          refine J_topi (y := nI (2 * (w.1))) (pk_mul (2) (w.1)) ?_
          refine J_icmp_gt dX8_takes_31 (tgt := 48) (by decide) (fun c31 => ?_) (fun c31 => ?_)
          · have c31 := jltT (a := 2 * (w.1)) (b := j) (by omega) (by omega) c31
            refine J_iconst (x := 0) dX8_takes_48 (by decide) ?_
            refine J_topi (y := (mTk (fun i => ji M (m + 1) (33 * k + i)) w.1) j) (by unfold mTk; first | (rw [if_pos (by omega), ji_Svn (by omega)]; done) | (rw [if_neg (by omega)]; done) | (rw [if_pos (Or.inl (by omega)), ji_Svn (by omega)]; done)) ?_
            refine J_iastN (k := t + j) dX8_takes_49 (show m + 6 < jn M from by omega) k6 (by exact Nat.lt_of_lt_of_eq (show _ < 2112 by omega) (Eq.symm z6)) (by exact Nat.lt_of_le_of_lt (Nat.le_of_eq z6) (show 2112 < 2 ^ 31 by omega)) ?_
            refine J_mem (M' := jSv M (m + 6) (mCp (ji M (m + 6)) t (mTk (fun i => ji M (m + 1) (33 * k + i)) w.1) (j + 1))) (by exact (jSi_Sv _ _ _ _ _).trans (congrArg (jSv M (m + 6)) mCp_s)) ?_
            refine J_iinc (y := nI (j + 1)) (lv' := [.ref (m), .int (nI (k)), .int (nI (t)), .int (nI (j + 1))]) dX8_takes_50 rfl (jinc (j)) (by decide) rfl rfl ?_
            refine J_goto (tgt := 2) dX8_takes_53 (by decide) ?_
            exact ih2 (j + 1) (by omega) (by omega)
          · have c31 := jltF (a := 2 * (w.1)) (b := j) (by omega) (by omega) c31
            refine J_aload_n (m) dX8_takes_34 rfl rfl ?_
            refine J_getrs (q := m + 1) r1 dX8_takes_35 (fun _ h => List.mem_cons_of_mem _ (List.mem_append_left _ (List.mem_append_right _ (h)))) cs11 (by decide) rfl (List.mem_of_getElem? (i := 2) rfl) rfl (show m < jn M from by omega) m2 ?_
            refine J_bipush (x := 33) dX8_takes_38 (by decide) ?_
            refine J_iload_n dX8_takes_40 rfl rfl ?_
            refine J_imul dX8_takes_41 ?_
            refine J_topi (y := nI (33 * k)) (pk_mul (33) (k)) ?_
            refine J_iload_n dX8_takes_42 rfl rfl ?_
            refine J_iadd dX8_takes_43 ?_
            refine J_topi (y := nI (33 * k + j)) (nI_add (33 * k) (j)) ?_
            refine J_ialdN (k := 33 * k + j) dX8_takes_44 (show m + 1 < jn M from by omega) k1 (by exact Nat.lt_of_lt_of_eq (show _ < 427 by omega) (Eq.symm z1)) (by exact Nat.lt_of_le_of_lt (Nat.le_of_eq z1) (show 427 < 2 ^ 31 by omega)) ?_
            refine J_goto (tgt := 49) dX8_takes_45 (by decide) ?_
            refine J_topi (y := (mTk (fun i => ji M (m + 1) (33 * k + i)) w.1) j) (by unfold mTk; first | (rw [if_pos (by omega), ji_Svn (by omega)]; done) | (rw [if_neg (by omega)]; done) | (rw [if_pos (Or.inl (by omega)), ji_Svn (by omega)]; done)) ?_
            refine J_iastN (k := t + j) dX8_takes_49 (show m + 6 < jn M from by omega) k6 (by exact Nat.lt_of_lt_of_eq (show _ < 2112 by omega) (Eq.symm z6)) (by exact Nat.lt_of_le_of_lt (Nat.le_of_eq z6) (show 2112 < 2 ^ 31 by omega)) ?_
            refine J_mem (M' := jSv M (m + 6) (mCp (ji M (m + 6)) t (mTk (fun i => ji M (m + 1) (33 * k + i)) w.1) (j + 1))) (by exact (jSi_Sv _ _ _ _ _).trans (congrArg (jSv M (m + 6)) mCp_s)) ?_
            refine J_iinc (y := nI (j + 1)) (lv' := [.ref (m), .int (nI (k)), .int (nI (t)), .int (nI (j + 1))]) dX8_takes_50 rfl (jinc (j)) (by decide) rfl rfl ?_
            refine J_goto (tgt := 2) dX8_takes_53 (by decide) ?_
            exact ih2 (j + 1) (by omega) (by omega)
  refine J_mem (M' := jSv M (m + 6) (mCp (ji M (m + 6)) t (mTk (fun i => ji M (m + 1) (33 * k + i)) w.1) 0)) (by rw [mCp_0]; exact (jSv_self _ _).symm) ?_
  refine J_iconst (x := 0) dX8_takes_0 (by decide) ?_
  refine J_istore_n (lv' := [.ref (m), .int (nI (k)), .int (nI (t)), .int (0)]) dX8_takes_1 rfl (by decide) rfl rfl ?_
  exact L2 _ (0) (by omega) (Nat.lt_succ_self _)

theorem dX8_notes_0 : decode cX8_notes 0 = .ok (.aload_n 0, 1) := by decide +kernel
theorem dX8_notes_1 : decode cX8_notes 1 = .ok (.iload_n 1, 1) := by decide +kernel
theorem dX8_notes_2 : decode cX8_notes 2 = .ok (.putfield 185, 3) := by decide +kernel
theorem dX8_notes_5 : decode cX8_notes 5 = .ok (.aload_n 0, 1) := by decide +kernel
theorem dX8_notes_6 : decode cX8_notes 6 = .ok (.iload_n 2, 1) := by decide +kernel
theorem dX8_notes_7 : decode cX8_notes 7 = .ok (.iconst 1, 1) := by decide +kernel
theorem dX8_notes_8 : decode cX8_notes 8 = .ok (.iadd, 1) := by decide +kernel
theorem dX8_notes_9 : decode cX8_notes 9 = .ok (.putfield 29, 3) := by decide +kernel
theorem dX8_notes_15 : decode cX8_notes 15 = .ok (.iload 4, 2) := by decide +kernel
theorem dX8_notes_17 : decode cX8_notes 17 = .ok (.iload_n 2, 1) := by decide +kernel
theorem dX8_notes_18 : decode cX8_notes 18 = .ok (.if_icmp .ge 23, 3) := by decide +kernel
theorem dX8_notes_41 : decode cX8_notes 41 = .ok (.aload_n 0, 1) := by decide +kernel
theorem dX8_notes_42 : decode cX8_notes 42 = .ok (.getfield 26, 3) := by decide +kernel
theorem dX8_notes_45 : decode cX8_notes 45 = .ok (.iload_n 2, 1) := by decide +kernel
theorem dX8_notes_46 : decode cX8_notes 46 = .ok (.iload_n 3, 1) := by decide +kernel
theorem dX8_notes_47 : decode cX8_notes 47 = .ok (.iastore, 1) := by decide +kernel
theorem dX8_notes_48 : decode cX8_notes 48 = .ok (.return_, 1) := by decide +kernel
theorem dX8_notes_21 : decode cX8_notes 21 = .ok (.aload_n 0, 1) := by decide +kernel
theorem dX8_notes_22 : decode cX8_notes 22 = .ok (.getfield 26, 3) := by decide +kernel
theorem dX8_notes_25 : decode cX8_notes 25 = .ok (.iload 4, 2) := by decide +kernel
theorem dX8_notes_27 : decode cX8_notes 27 = .ok (.aload_n 0, 1) := by decide +kernel
theorem dX8_notes_28 : decode cX8_notes 28 = .ok (.getfield 50, 3) := by decide +kernel
theorem dX8_notes_31 : decode cX8_notes 31 = .ok (.iload 4, 2) := by decide +kernel
theorem dX8_notes_33 : decode cX8_notes 33 = .ok (.iaload, 1) := by decide +kernel
theorem dX8_notes_34 : decode cX8_notes 34 = .ok (.iastore, 1) := by decide +kernel
theorem dX8_notes_35 : decode cX8_notes 35 = .ok (.iinc 4 1, 3) := by decide +kernel
theorem dX8_notes_38 : decode cX8_notes 38 = .ok (.goto (-23), 3) := by decide +kernel
theorem dX8_notes_12 : decode cX8_notes 12 = .ok (.iconst 0, 1) := by decide +kernel
theorem dX8_notes_13 : decode cX8_notes 13 = .ok (.istore 4, 2) := by decide +kernel
set_option maxHeartbeats 400000 in
set_option maxRecDepth 20000 in
theorem ct_X8_notes (l : Launch) (D : va_G) (dA : Nat → ClassId) (hst : l.stackTraces = false) (M : jM) (m : Nat) (hM : mOk M m) (why : Int32) (nn : Nat) (hn : nn < 60) (p : Int32) : jCT l D dA yX8_notes wsX8_notes (20) (300) (0) (0) 0 [.ref (m), .int (why), .int (nI (nn)), .int (p)] M (jPo (oV) (nM M m why nn p)) := by
  refine jBody (cc := cX8_notes) (nL := 5) (rt := none) (ini := false) (by decide) rfl hst (Nat.le_of_ble_eq_true rfl) (by simp [Value.category]) (by intro h9; first | exact absurd h9 (by decide) | rfl) ?_
  show J l D dA RX8 cX8_notes wsX8_notes 5 false none [] (20) (300) (jF D dA (jn M) (jPo (oV) (nM M m why nn p)) 0) (jn M) (0) (0) (M) 0 [.ref (m), .int (why), .int (nI (nn)), .int (p), .float 0] []
  obtain ⟨m1, m2, ⟨r1, r2, r3, r4, r5, r6, r7, r8, r9, r10, r11, r12, r13⟩, ⟨k1, k2, k3, k4, k5, k6, k7, k8, k9, k10, k11, k12, k13⟩, z1, z2, z3, z4, z5, z6, z7, z8, z9, z10, z11, z12, z13⟩ := id hM
  refine J_aload_n (m) dX8_notes_0 rfl rfl ?_
  refine J_iload_n dX8_notes_1 rfl rfl ?_
  refine J_puti (j := 28) (x := (why)) dX8_notes_2 (fun _ h => List.mem_cons_of_mem _ (List.mem_append_left _ (List.mem_append_right _ (h)))) cs11 cty11 (by decide) rfl (List.mem_of_getElem? (i := 1) rfl) rfl rfl ⟨rfl, rfl⟩ (show m < jn M from by omega) m2 ?_
  refine J_aload_n (m) dX8_notes_5 rfl rfl ?_
  refine J_iload_n dX8_notes_6 rfl rfl ?_
  refine J_iconst (x := 1) dX8_notes_7 (by decide) ?_
  refine J_iadd dX8_notes_8 ?_
  refine J_topi (y := nI (nn + 1)) (nI_add (nn) (1)) ?_
  refine J_puti (j := 10) (x := nI (nn + 1)) dX8_notes_9 (fun _ h => List.mem_cons_of_mem _ (List.mem_append_left _ (List.mem_append_right _ (h)))) cs11 cty11 (by decide) rfl (List.mem_of_getElem? (i := 2) rfl) rfl rfl ⟨rfl, rfl⟩ (show m < jn M from by omega) m2 ?_
  refine J_mem (M' := jSv (jSi (jSi M m 28 why) m 10 (nI (nn + 1))) (m + 5) (mCp (ji M (m + 5)) 0 (ji M (m + 12)) 0)) (by rw [mCp_0]; exact (jSv_g (funext fun j => by rw [ji_Sin (by omega), ji_Sin (by omega)])).symm) ?_
  have L15 : ∀ (fuel : Nat) (k : Nat) (hk : k ≤ nn), nn - k < fuel → J l D dA RX8 cX8_notes wsX8_notes 5 false none [] (20) (300) (jF D dA (jn M) (jPo (oV) (nM M m why nn p)) 0) (jn M) (0) (0) ((jSv (jSi (jSi M m 28 why) m 10 (nI (nn + 1))) (m + 5) (mCp (ji M (m + 5)) 0 (ji M (m + 12)) k))) 15 [.ref (m), .int (why), .int (nI (nn)), .int (p), .int (nI (k))] [] := by
    intro fuel
    induction fuel with
    | zero => intro k hk hm; exact absurd hm (Nat.not_lt_zero _)
    | succ fuel ih15 =>
      intro k hk hm15
      refine J_iload dX8_notes_15 rfl ?_
      refine J_iload_n dX8_notes_17 rfl rfl ?_
      refine J_icmp_ge dX8_notes_18 (tgt := 41) (by decide) (fun c18 => ?_) (fun c18 => ?_)
      · have c18 := jleT (a := nn) (b := k) (by omega) (by omega) c18
        refine J_aload_n (m) dX8_notes_41 rfl rfl ?_
        refine J_getrs (q := m + 5) r5 dX8_notes_42 (fun _ h => List.mem_cons_of_mem _ (List.mem_append_left _ (List.mem_append_right _ (h)))) cs11 (by decide) rfl (List.mem_of_getElem? (i := 3) rfl) rfl (show m < jn M from by omega) m2 ?_
        refine J_iload_n dX8_notes_45 rfl rfl ?_
        refine J_iload_n dX8_notes_46 rfl rfl ?_
        refine J_iastN (k := nn) dX8_notes_47 (show m + 5 < jn M from by omega) k5 (by exact Nat.lt_of_lt_of_eq (show _ < 60 by omega) (Eq.symm z5)) (by exact Nat.lt_of_le_of_lt (Nat.le_of_eq z5) (show 60 < 2 ^ 31 by omega)) ?_
        exact J_vret dX8_notes_48 rfl ⟨(by rfl), (by rw [show k = nn from by omega]; rfl)⟩
      · have c18 := jleF (a := nn) (b := k) (by omega) (by omega) c18
        refine J_aload_n (m) dX8_notes_21 rfl rfl ?_
        refine J_getrs (q := m + 5) r5 dX8_notes_22 (fun _ h => List.mem_cons_of_mem _ (List.mem_append_left _ (List.mem_append_right _ (h)))) cs11 (by decide) rfl (List.mem_of_getElem? (i := 3) rfl) rfl (show m < jn M from by omega) m2 ?_
        refine J_iload dX8_notes_25 rfl ?_
        refine J_aload_n (m) dX8_notes_27 rfl rfl ?_
        refine J_getrs (q := m + 12) r12 dX8_notes_28 (fun _ h => List.mem_cons_of_mem _ (List.mem_append_left _ (List.mem_append_right _ (h)))) cs11 (by decide) rfl (List.mem_of_getElem? (i := 4) rfl) rfl (show m < jn M from by omega) m2 ?_
        refine J_iload dX8_notes_31 rfl ?_
        refine J_ialdN (k := k) dX8_notes_33 (show m + 12 < jn M from by omega) k12 (by exact Nat.lt_of_lt_of_eq (show _ < 60 by omega) (Eq.symm z12)) (by exact Nat.lt_of_le_of_lt (Nat.le_of_eq z12) (show 60 < 2 ^ 31 by omega)) ?_
        refine J_topi (y := (ji M (m + 12) k)) (by rw [ji_Svn (by omega), ji_Sin (by omega), ji_Sin (by omega)]) ?_
        refine J_iastN (k := k) dX8_notes_34 (show m + 5 < jn M from by omega) k5 (by exact Nat.lt_of_lt_of_eq (show _ < 60 by omega) (Eq.symm z5)) (by exact Nat.lt_of_le_of_lt (Nat.le_of_eq z5) (show 60 < 2 ^ 31 by omega)) ?_
        refine J_mem (M' := jSv (jSi (jSi M m 28 why) m 10 (nI (nn + 1))) (m + 5) (mCp (ji M (m + 5)) 0 (ji M (m + 12)) (k + 1))) (by exact (jSi_Sv _ _ _ _ _).trans (congrArg (jSv _ _) (mCp_s0 (g := ji M (m + 12))))) ?_
        refine J_iinc (y := nI (k + 1)) (lv' := [.ref (m), .int (why), .int (nI (nn)), .int (p), .int (nI (k + 1))]) dX8_notes_35 rfl (jinc (k)) (by decide) rfl rfl ?_
        refine J_goto (tgt := 15) dX8_notes_38 (by decide) ?_
        exact ih15 (k + 1) (by omega) (by omega)
  refine J_iconst (x := 0) dX8_notes_12 (by decide) ?_
  refine J_istore (lv' := [.ref (m), .int (why), .int (nI (nn)), .int (p), .int (0)]) dX8_notes_13 (by decide) rfl rfl ?_
  exact L15 _ (0) (by omega) (Nat.lt_succ_self _)

