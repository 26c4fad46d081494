/-- what the reference's calls leave as it is, outside its own rows -/
def mFr (m : Nat) (M M1 : jM) : Prop := jn M1 = jn M ∧ jk M1 = jk M ∧ jz M1 = jz M ∧ jr M1 = jr M ∧ jl M1 = jl M ∧ jd M1 = jd M ∧ ∀ b, (b < m ∨ m + 13 < b) → ji M1 b = ji M b
theorem mFr.rf {m : Nat} {M : jM} : mFr m M M := ⟨rfl, rfl, rfl, rfl, rfl, rfl, fun _ _ => rfl⟩
theorem mFr.tr {m : Nat} {M K L : jM} (h : mFr m M K) (h2 : mFr m K L) : mFr m M L := by
  obtain ⟨a1, a2, a3, a4, a5, a6, a7⟩ := h
  obtain ⟨b1, b2, b3, b4, b5, b6, b7⟩ := h2
  exact ⟨b1.trans a1, b2.trans a2, b3.trans a3, b4.trans a4, b5.trans a5, b6.trans a6, fun b hb => (b7 b hb).trans (a7 b hb)⟩
theorem mFr.si {m a k : Nat} {x : Int32} {M K : jM} (h : mFr m M K) (h1 : m ≤ a ∧ a ≤ m + 13) : mFr m M (jSi K a k x) :=
  h.tr ⟨rfl, rfl, rfl, rfl, rfl, rfl, fun b hb => funext fun j => ji_Sin (by omega)⟩
theorem mFr.sv {m a : Nat} {g : Nat → Int32} {M K : jM} (h : mFr m M K) (h1 : m ≤ a ∧ a ≤ m + 13) : mFr m M (jSv K a g) :=
  h.tr ⟨rfl, rfl, rfl, rfl, rfl, rfl, fun b hb => funext fun j => by rw [ji_Sv, if_neg (by omega)]⟩
theorem mFr.ok {m : Nat} {M K : jM} (h : mFr m M K) (hM : mOk M m) : mOk K m := by
  obtain ⟨a1, a2, a3, a4, a5, a6, a7⟩ := h
  unfold mOk at *
  rw [a1, a2, a3, a4]; exact hM
/-- and inside: all but the rows to work in -/
def mE (m : Nat) (M M1 : jM) : Prop := (∀ i, 1 ≤ i → i ≤ 5 → ji M1 (m + i) = ji M (m + i)) ∧ ∀ f, [3, 4, 6, 7, 8, 10].contains f = true → ji M1 m f = ji M m f
theorem mE.rf {m : Nat} {M : jM} : mE m M M := ⟨fun _ _ _ => rfl, fun _ _ => rfl⟩
theorem mE.tr {m : Nat} {M K L : jM} (h : mE m M K) (h2 : mE m K L) : mE m M L := ⟨fun i a b => (h2.1 i a b).trans (h.1 i a b), fun f a => (h2.2 f a).trans (h.2 f a)⟩
theorem mE.si {m k : Nat} {x : Int32} {M K : jM} (h : mE m M K) (hk : [3, 4, 6, 7, 8, 10].contains k = false) : mE m M (jSi K m k x) :=
  h.tr ⟨fun i a b => funext fun j => ji_Sin (by omega), fun f hf => by rw [ji_Si, if_neg (fun h9 => by rw [h9.2, hk] at hf; exact nomatch hf)]⟩
theorem mE.sr {m a k : Nat} {x : Int32} {M K : jM} (h : mE m M K) (h1 : m + 5 < a) : mE m M (jSi K a k x) :=
  h.tr ⟨fun i _ b => funext fun j => ji_Sin (by omega), fun f _ => ji_Sin (by omega)⟩
theorem mE.sv {m a : Nat} {g : Nat → Int32} {M K : jM} (h : mE m M K) (h1 : m + 5 < a) : mE m M (jSv K a g) :=
  h.tr ⟨fun i _ b => funext fun j => by rw [ji_Sv, if_neg (by omega)], fun f _ => by rw [ji_Sv, if_neg (by omega)]⟩
def mCh (M : jM) (m : Nat) : Option rVl → Prop
  | none => ji M m 10 = -1
  | some w => ji M m 10 = nI w.1 ∧ w.1 ≤ 60 ∧ ∀ j, j < w.1 → ji M (m + 5) j = w.2 j
/-- the picture of the reference -/
def mAb (M : jM) (m : Nat) (A : cA) : Prop := mOk M m ∧ mSt (ji M (m + 1)) 0 (cNw A) ∧ (ji M m 4 = nI (cKp A) ∧ cKp A ≤ 8 ∧ ∀ i, i < cKp A → mSt (ji M (m + 2)) (427 * i) (cHi A i)) ∧ (ji M m 3 = jb (cHs A) ∧ (cHs A = true → mSt (ji M (m + 3)) 0 (cSn A))) ∧ (ji M m 6 = nI (cL A) ∧ cL A ≤ 60 ∧ ∀ j, j < cL A → ji M (m + 4) j = cC A j) ∧ ji M m 7 = cFl A ∧ (ji M m 8 = (if cRs A = -1 then 0 else cRs A) ∧ (cRs A = -1 ∨ 0 < cRs A)) ∧ mCh M m (cCh A)
theorem mAb.q {m : Nat} {M M1 : jM} {A : cA} (h : mAb M m A) (hF : mFr m M M1) (hE : mE m M M1) : mAb M1 m A := by
  obtain ⟨a1, a2, a3, a4, a5, a6, a7, a8⟩ := h
  have hC : mCh M1 m (cCh A) := by
    cases hc : cCh A with
    | none => rw [hc] at a8; exact (hE.2 10 rfl).trans a8
    | some w => rw [hc] at a8; exact ⟨(hE.2 10 rfl).trans a8.1, a8.2.1, fun j hj => by rw [hE.1 5 (by omega) (by omega)]; exact a8.2.2 j hj⟩
  refine ⟨hF.ok a1, ?_, ?_, ?_, ?_, ?_, ?_, hC⟩
  · rw [hE.1 1 (by omega) (by omega)]; exact a2
  · rw [hE.1 2 (by omega) (by omega), hE.2 4 rfl]; exact a3
  · rw [hE.1 3 (by omega) (by omega), hE.2 3 rfl]; exact a4
  · rw [hE.1 4 (by omega) (by omega), hE.2 6 rfl]; exact a5
  · rw [hE.2 7 rfl]; exact a6
  · rw [hE.2 8 rfl]; exact a7
theorem mAb.si {m k : Nat} {x : Int32} {M : jM} {A : cA} (h : mAb M m A) (hk : [3, 4, 6, 7, 8, 10].contains k = false) : mAb (jSi M m k x) m A := h.q (mFr.rf.si ⟨Nat.le_refl _, Nat.le_add_right _ _⟩) (mE.rf.si hk)
/-- an outcome told by a code: none, or the number of the throw in a list -/
def mAg (l : List String) (o : jO) (o2 : jO) (c : Int32) : Prop := (c = 0 ∧ o = o2) ∨ ∃ k E, l[k]? = some E ∧ k < 3 ∧ c = nI (k + 1) ∧ o = oX E
def mRl (M : jM) (m : Nat) (l : List String) (o : jO) (A : cA) : jP := fun o1 M1 => mAg l o o1 (ji M1 m 11) ∧ mAb M1 m A ∧ mFr m M M1 ∧ ∃ u, o1 = Sum.inl u
theorem mAg.x {l : List String} {o o2 : jO} {c : Int32} (k : Nat) (E : String) (h : l[k]? = some E) (h3 : k < 3) (hc : c = nI (k + 1)) (ho : o = oX E) : mAg l o o2 c := Or.inr ⟨k, E, h, h3, hc, ho⟩
theorem mF1_x {A : cA} {s : Int32} {f : rVl → jO} {o2 : jO} (h : 0 < mF1 (cNw A) s) : mAg [xIOOBE, xNSE] (oSl s (oRn A s f)) o2 (mF1 (cNw A) s) := by
  rcases Bool.eq_false_or_eq_true (okSlot s) with c | c
  · obtain ⟨k, hk, rfl⟩ := okSlot_of c
    rw [mF1_n hk] at h ⊢
    rw [oSl_t c]
    cases hz : (cNw A).1 k with
    | none => exact mAg.x 1 xNSE rfl (by decide) rfl (oRn_n (by rw [cAt_n hk]; exact hz))
    | some w => rw [hz] at h; exact absurd h (by show ¬ (0 : Int32) < 0; decide)
  · rw [mF1_f c]; exact mAg.x 0 xIOOBE rfl (by decide) rfl (oSl_f c)
theorem mF1_ok {z : cSt} {s : Int32} (h : ¬ 0 < mF1 z s) : mF1 z s = 0 ∧ okSlot s = true ∧ ∃ k w, k < 12 ∧ s = nI k ∧ z.1 k = some w ∧ cAt z s = some w := by
  rcases Bool.eq_false_or_eq_true (okSlot s) with c | c
  · obtain ⟨k, hk, rfl⟩ := okSlot_of c
    rw [mF1_n hk] at h ⊢
    cases hz : z.1 k with
    | none => rw [hz] at h; exact absurd (show (0 : Int32) < 2 by decide) h
    | some w => exact ⟨rfl, c, k, w, hk, rfl, hz, by rw [cAt_n hk]; exact hz⟩
  · rw [mF1_f c] at h; exact absurd (by decide) h
theorem mF2_x {A : cA} {s y : Int32} {f : rVl → jO} {o2 : jO} (h : 0 < mF2 (cNw A) s y) : mAg [xIOOBE, xIAE, xNSE] (oSl s (oVe y (oRn A s f))) o2 (mF2 (cNw A) s y) := by
  rcases Bool.eq_false_or_eq_true (okSlot s) with c | c
  · obtain ⟨k, hk, rfl⟩ := okSlot_of c
    rw [mF2_n hk] at h ⊢
    rw [oSl_t c]
    unfold oVe
    by_cases d : okVer y = true
    · rw [if_pos d] at h ⊢
      rw [if_pos d]
      cases hz : (cNw A).1 k with
      | none => exact mAg.x 2 xNSE rfl (by decide) rfl (oRn_n (by rw [cAt_n hk]; exact hz))
      | some w => rw [hz] at h; exact absurd h (by show ¬ (0 : Int32) < 0; decide)
    · rw [if_neg d, if_neg d]; exact mAg.x 1 xIAE rfl (by decide) rfl rfl
  · rw [mF2_f c]; exact mAg.x 0 xIOOBE rfl (by decide) rfl (oSl_f c)
theorem mF2_ok {z : cSt} {s y : Int32} (h : ¬ 0 < mF2 z s y) : mF2 z s y = 0 ∧ okSlot s = true ∧ okVer y = true ∧ ∃ k w, k < 12 ∧ s = nI k ∧ z.1 k = some w ∧ cAt z s = some w := by
  rcases Bool.eq_false_or_eq_true (okSlot s) with c | c
  · obtain ⟨k, hk, rfl⟩ := okSlot_of c
    rw [mF2_n hk] at h ⊢
    by_cases d : okVer y = true
    · rw [if_pos d] at h ⊢
      cases hz : z.1 k with
      | none => rw [hz] at h; exact absurd (show (0 : Int32) < 3 by decide) h
      | some w => exact ⟨rfl, c, d, k, w, hk, rfl, hz, by rw [cAt_n hk]; exact hz⟩
    · rw [if_neg d] at h; exact absurd (by decide) h
  · rw [mF2_f c] at h; exact absurd (by decide) h
theorem ji_Sik {M : jM} {a k j : Nat} {x : Int32} (h : j ≠ k) : ji (jSi M a k x) a j = ji M a j := by rw [ji_Si, if_neg (fun h9 => h h9.2)]
theorem nI_most {p : Nat} (h : p ≤ 100000000) : (99999999 : Int32) < nI p ↔ p = 100000000 := by
  constructor
  · intro h9
    refine Nat.le_antisymm h (Nat.not_lt.mp (fun h8 => ?_))
    exact absurd h9 (Int32.not_lt.mpr ((nI_leN (b := 99999999) (by omega) (by omega)).mpr (by omega)))
  · rintro rfl; decide
/-- the states that the class can hold -/
def zWf (z : cSt) : Prop := (∀ j w, z.1 j = some w → rWf w) ∧ (∀ i, i < z.2.1 → okVer (z.2.2 i) = true) ∧ ∀ i, i + 1 < z.2.1 → z.2.2 i < z.2.2 (i + 1)
theorem dX8_spans_0 : decode cX8_spans 0 = .ok (.aload_n 0, 1) := by decide +kernel
theorem dX8_spans_1 : decode cX8_spans 1 = .ok (.iload_n 1, 1) := by decide +kernel
theorem dX8_spans_2 : decode cX8_spans 2 = .ok (.invokevirtual 208, 3) := by decide +kernel
set_option maxRecDepth 20000 in
theorem ggX8_spans_X8_fails1 : GoodIn wsX8_spans wsX8_fails1 := goodIn_ca (goodIn_r _ [6, 7, 8, 5, 9, 10, 11, 12, 13, 1, 14, 15, 16, 17, 18, 19, 20, 21, 22, 23, 24, 25, 26, 27, 28, 29, 30, 31, 32, 33, 34, 35, 36, 37, 38, 39, 40, 41, 42, 43, 44, 45, 46, 47, 48, 49] (by decide +kernel) (by decide +kernel)) (goodIn_sub (fun _ h => List.mem_cons_of_mem _ (List.mem_append_right _ h)) (by decide +kernel))
set_option maxRecDepth 20000 in
theorem gX8_spans_X8_fails1 : GoodIn wsX8_spans (wsV RX8 208 RX8 yX8_fails1 wsX8_fails1) := goodIn_app (goodIn_of _ (by decide +kernel)) ggX8_spans_X8_fails1
theorem yY_X8_fails1 : jY yX8_fails1 wsX8_fails1 cX8_fails1 2 (some .boolean) 1 := ⟨⟨_, rfl⟩, by decide +kernel, by decide +kernel, by decide +kernel⟩
theorem dX8_spans_5 : decode cX8_spans 5 = .ok (.ifCond .eq 7, 3) := by decide +kernel
theorem dX8_spans_12 : decode cX8_spans 12 = .ok (.aload_n 0, 1) := by decide +kernel
theorem dX8_spans_13 : decode cX8_spans 13 = .ok (.getfield 9, 3) := by decide +kernel
theorem dX8_spans_16 : decode cX8_spans 16 = .ok (.bipush 33, 2) := by decide +kernel
theorem dX8_spans_18 : decode cX8_spans 18 = .ok (.iload_n 1, 1) := by decide +kernel
theorem dX8_spans_19 : decode cX8_spans 19 = .ok (.imul, 1) := by decide +kernel
theorem dX8_spans_20 : decode cX8_spans 20 = .ok (.iaload, 1) := by decide +kernel
theorem dX8_spans_21 : decode cX8_spans 21 = .ok (.ireturn, 1) := by decide +kernel
theorem dX8_spans_8 : decode cX8_spans 8 = .ok (.iconst 0, 1) := by decide +kernel
theorem dX8_spans_9 : decode cX8_spans 9 = .ok (.goto 12, 3) := by decide +kernel
set_option maxHeartbeats 400000 in
set_option maxRecDepth 20000 in
theorem ct_X8_spans (l : Launch) (D : va_G) (dA : Nat → ClassId) (hst : l.stackTraces = false) (M : jM) (m : Nat) (A : cA) (hA : mAb M m A) (hW : zWf (cNw A))(s : Int32) : jCT l D dA yX8_spans wsX8_spans (22) (420) (0) (0) 1 [.ref (m), .int (s)] M (mRl M m [xIOOBE, xNSE] (oSl s (oRn A s (fun w => oI (nI w.1)))) A) := by
  refine jBody (cc := cX8_spans) (nL := 2) (rt := (some .int)) (ini := false) (by decide) rfl hst (Nat.le_of_ble_eq_true rfl) (by simp [Value.category]) (by intro h9; first | exact absurd h9 (by decide) | rfl) ?_
  show J l D dA RX8 cX8_spans wsX8_spans 2 false (some .int) [] (22) (420) (jF D dA (jn M) (mRl M m [xIOOBE, xNSE] (oSl s (oRn A s (fun w => oI (nI w.1)))) A) 1) (jn M) (0) (0) (M) 0 [.ref (m), .int (s)] []
  obtain ⟨hM, hz, ⟨hKn, hK8, hKs⟩, ⟨hHs, hHz⟩, ⟨hLn, hL6, hLc⟩, hFl, ⟨hRs, hRp⟩, hCh⟩ := id hA
  obtain ⟨m1, m2, ⟨r1, r2, r3, r4, r5, r6, r7, r8, r9, r10, r11, r12, r13⟩, ⟨k1, k2, k3, k4, k5, k6, k7, k8, k9, k10, k11, k12, k13⟩, z1, z2, z3, z4, z5, z6, z7, z8, z9, z10, z11, z12, z13⟩ := id hM
  refine J_aload_n (m) dX8_spans_0 rfl rfl ?_
  refine J_iload_n dX8_spans_1 rfl rfl ?_
  refine J_calli0 (jrunV (As := [.int (s)]) (ct_X8_fails1 l D dA hst M m hM (cNw A) hz ((s))) dX8_spans_2 yY_X8_fails1 gX8_spans_X8_fails1 rfl cs11 (show m < jn M from by omega) m2 rfl ⟨by omega, by omega⟩ ⟨Nat.zero_le _, Nat.zero_le _⟩ rfl (Nat.le_of_ble_eq_true rfl)) (rfl) (rfl) ?_
  refine J_if_eq dX8_spans_5 (tgt := 12) (by decide) (fun c5 => ?_) (fun c5 => ?_)
  · have c5 := jb0T c5
    obtain ⟨hf0, hs0, k, w, hk, rfl, hzk, hat⟩ := mF1_ok (of_decide_eq_false c5)
    have hx := hz.at0 hk; rw [hzk] at hx
    have h16 := hx.2.1
    have hw := hW.1 _ _ hzk
    refine J_mem (M' := jSi M m 11 0) (by rw [hf0]) ?_
    refine J_aload_n (m) dX8_spans_12 rfl rfl ?_
    refine J_getrs (q := m + 1) r1 dX8_spans_13 (fun _ h => List.mem_cons_of_mem _ (List.mem_append_left _ (List.mem_append_right _ (h)))) cs11 (by decide) rfl (List.mem_of_getElem? (i := 1) rfl) rfl (show m < jn M from by omega) m2 ?_
    refine J_bipush (x := 33) dX8_spans_16 (by decide) ?_
    refine J_iload_n dX8_spans_18 rfl rfl ?_
    refine J_imul dX8_spans_19 ?_
    refine J_topi (y := nI (33 * k)) (pk_mul (33) (k)) ?_
    refine J_ialdN (k := 33 * k) dX8_spans_20 (show m + 1 < jn M from by omega) k1 (by exact Nat.lt_of_lt_of_eq (show _ < 427 by omega) (Eq.symm z1)) (by exact Nat.lt_of_le_of_lt (Nat.le_of_eq z1) (show 427 < 2 ^ 31 by omega)) ?_
    refine J_topi (y := nI (w.1)) (by rw [ji_Sin (by omega)]; exact hx.hd) ?_
    exact J_iret (ty := .int) dX8_spans_21 rfl (rfl) (by refine ⟨?_, (hA).si rfl, (mFr.rf).si ⟨by omega, by omega⟩, _, rfl⟩; simp only [ji_Si, and_self, if_true, reduceIte, reduceCtorEq, and_false, if_false, Nat.reduceEqDiff]; first | exact mF1_x (of_decide_eq_true c5) | (refine Or.inl ⟨rfl, ?_⟩; rw [oSl_t hs0, oRn_s hat]) | fail "rl")
  · have c5 := jb0F c5
    refine J_iconst (x := 0) dX8_spans_8 (by decide) ?_
    refine J_goto (tgt := 21) dX8_spans_9 (by decide) ?_
    exact J_iret (ty := .int) dX8_spans_21 rfl (rfl) (by refine ⟨?_, (hA).si rfl, (mFr.rf).si ⟨by omega, by omega⟩, _, rfl⟩; simp only [ji_Si, and_self, if_true, reduceIte, reduceCtorEq, and_false, if_false, Nat.reduceEqDiff]; first | exact mF1_x (of_decide_eq_true c5) | (refine Or.inl ⟨rfl, ?_⟩; rw [oSl_t hs0, oRn_s hat]) | fail "rl")

theorem wf_lt {w : rVl} (hw : rWf w) {j k : Nat} (hjk : j < k) (hk : k < w.1) : w.2 (2 * j + 1) < w.2 (2 * k) := by
  obtain ⟨a, ea, la, ta⟩ := hw.at (i := 2 * j + 1) (by omega)
  obtain ⟨b, eb, lb, tb⟩ := hw.at (i := 2 * k) (by omega)
  have h7 := hw.lt (k - j) j (by omega) (by omega)
  rw [show j + (k - j) = k from by omega, ta, tb] at h7
  refine Int32.not_le.mp (fun h => ?_)
  rw [ea, eb] at h
  have := (nI_leN (by omega) (by omega)).mp h
  omega
theorem wf_le {w : rVl} (hw : rWf w) {k : Nat} (hk : k < w.1) : w.2 (2 * k) ≤ w.2 (2 * k + 1) := by
  obtain ⟨a, ea, la, ta⟩ := hw.at (i := 2 * k) (by omega)
  obtain ⟨b, eb, lb, tb⟩ := hw.at (i := 2 * k + 1) (by omega)
  have h7 := hw.2.1 k hk
  rw [ta, tb] at h7
  rw [ea, eb]
  exact (nI_leN (by omega) (by omega)).mpr h7
theorem mTurn_lo {w : rVl} (hw : rWf w) {x nx : Int32} : ∀ k, k ≤ w.1 → (∀ j, j < k → ¬ x ≤ w.2 (2 * j + 1)) → mTurn w.2 x k nx = nx := by
  intro k
  induction k with
  | zero => intro _ _; rfl
  | succ k ih =>
    intro hk h
    unfold mTurn
    rw [if_neg (fun h9 => h k (by omega) (Int32.le_trans (Int32.le_of_lt h9) (wf_le hw (by omega)))), if_neg (h k (by omega))]
    exact ih (by omega) (fun j hj => h j (by omega))
theorem mTurn_hi {w : rVl} (hw : rWf w) {x : Int32} {r : Nat} (h2 : x ≤ w.2 (2 * r + 1)) (hlo : ∀ j, j < r → ¬ x ≤ w.2 (2 * j + 1)) : ∀ d nx, r + d < w.1 → mTurn w.2 x (r + 1 + d) nx = if x < w.2 (2 * r) then w.2 (2 * r) else w.2 (2 * r + 1) + 1 := by
  intro d
  induction d with
  | zero =>
    intro nx hr
    show mTurn w.2 x (r + 1) nx = _
    unfold mTurn
    by_cases h : x < w.2 (2 * r)
    · rw [if_pos h, if_pos h]; exact mTurn_lo hw r (by omega) hlo
    · rw [if_neg h, if_pos h2, if_neg h]
  | succ d ih =>
    intro nx hr
    show mTurn w.2 x ((r + 1 + d) + 1) nx = _
    have h9 : x < w.2 (2 * (r + 1 + d)) := by
      have h8 := wf_lt hw (j := r) (k := r + 1 + d) (by omega) (by omega)
      exact Int32.not_le.mp (fun h7 => absurd (Int32.le_trans h7 h2) (Int32.not_le.mpr h8))
    unfold mTurn
    rw [if_pos h9]
    exact ih _ (by omega)
theorem mTurn_eq {w : rVl} (hw : rWf w) {x : Int32} : mTurn w.2 x w.1 100000000 = rNext w.2 w.1 x := by
  have hs := rsf_spec w.2 w.1 x
  have hl := rsf_le w.2 w.1 x
  unfold rNext
  by_cases h : rsf w.2 w.1 x = w.1
  · rw [if_pos h]; exact mTurn_lo hw w.1 (Nat.le_refl _) (fun j hj => hs.1 j (by omega))
  · rw [if_neg h]
    have hr : rsf w.2 w.1 x < w.1 := by omega
    unfold rFirst rLast
    rw [if_pos hr, if_pos hr]
    have h9 := mTurn_hi hw (hs.2 hr) hs.1 (w.1 - 1 - rsf w.2 w.1 x) 100000000 (by omega)
    rw [show rsf w.2 w.1 x + 1 + (w.1 - 1 - rsf w.2 w.1 x) = w.1 from by omega] at h9
    exact h9
theorem okVer_hi {y : Int32} (h : okVer y = true) : y ≤ 99999999 := by unfold okVer at h; rw [Bool.and_eq_true] at h; exact of_decide_eq_true h.2
theorem okVer_m1 {y : Int32} (h : okVer y = true) : y ≠ -1 := fun e => by rw [e] at h; exact absurd h (by decide)
theorem from_in {w : rVl} {y : Int32} (h : rHolds w.2 w.1 y = true) : rLeast w.2 w.1 y = y := by
  have hr := rHolds_lt h
  unfold rHolds at h
  rw [Bool.and_eq_true] at h
  unfold rLeast
  rw [if_pos hr, if_neg (Int32.not_lt.mpr (of_decide_eq_true h.2))]
theorem from_out {w : rVl} (hw : rWf w) {y : Int32} (h : rHolds w.2 w.1 y = false) : if 99999999 < rNext w.2 w.1 y then rLeast w.2 w.1 y = -1 else rLeast w.2 w.1 y = rNext w.2 w.1 y ∧ rLeast w.2 w.1 y ≠ -1 := by
  have hl := rsf_le w.2 w.1 y
  by_cases hr : rsf w.2 w.1 y < w.1
  · have h2 : y < rFirst w.2 w.1 (rsf w.2 w.1 y) := by
      unfold rHolds at h
      rw [decide_eq_true hr, Bool.true_and] at h
      exact Int32.not_le.mp (of_decide_eq_false h)
    have e1 : rNext w.2 w.1 y = rFirst w.2 w.1 (rsf w.2 w.1 y) := by unfold rNext; rw [if_neg (by omega), if_pos h2]
    have e2 : rLeast w.2 w.1 y = rFirst w.2 w.1 (rsf w.2 w.1 y) := by unfold rLeast; rw [if_pos hr, if_pos h2]
    obtain ⟨a, ea, la, ta⟩ := hw.at (i := 2 * rsf w.2 w.1 y) (by omega)
    have e3 : rFirst w.2 w.1 (rsf w.2 w.1 y) = nI a := by unfold rFirst; rw [if_pos hr]; exact ea
    rw [e1, e2, e3, if_neg (fun h9 => absurd ((nI_most (by omega)).mp h9) (by omega))]
    exact ⟨rfl, fun h9 => absurd (show nI a < 0 by rw [h9]; decide) (nI_pos (by omega))⟩
  · have e1 : rNext w.2 w.1 y = 100000000 := by unfold rNext; rw [if_pos (by omega)]
    have e2 : rLeast w.2 w.1 y = -1 := by unfold rLeast; rw [if_neg hr]
    rw [e1, e2, if_pos (by decide)]
theorem rHoldsFor_f {e : Nat → Int32} {n : Nat} {x : Int32} : rHoldsFor e n false x = rHolds e n x := by unfold rHoldsFor; rw [Bool.not_false, Bool.true_or, Bool.true_or, Bool.true_or, Bool.and_true]
theorem rs_0 {R : Int32} (hp : R = -1 ∨ 0 < R) (h : (if R = -1 then 0 else R) ≤ 0) : R = -1 := by
  by_cases e : R = -1
  · exact e
  · rw [if_neg e] at h
    rcases hp with p | p
    · exact p
    · exact absurd h (Int32.not_le.mpr p)
theorem rs_1 {R : Int32} (h : ¬ (if R = -1 then 0 else R) ≤ 0) : R ≠ -1 := fun e => by rw [if_pos e] at h; exact h (by decide)
theorem dX8_end_0 : decode cX8_end 0 = .ok (.aload_n 0, 1) := by decide +kernel
theorem dX8_end_1 : decode cX8_end 1 = .ok (.iload_n 1, 1) := by decide +kernel
theorem dX8_end_2 : decode cX8_end 2 = .ok (.invokevirtual 208, 3) := by decide +kernel
set_option maxRecDepth 20000 in
theorem ggX8_end_X8_fails1 : GoodIn wsX8_end wsX8_fails1 := goodIn_ca (goodIn_r _ [6, 7, 8, 5, 9, 10, 11, 12, 13, 1, 14, 15, 16, 17, 18, 19, 20, 21, 22, 23, 24, 25, 26, 27, 28, 29, 30, 31, 32, 33, 34, 35, 36, 37, 38, 39, 40, 41, 42, 43, 44, 45, 46, 47, 48, 49] (by decide +kernel) (by decide +kernel)) (goodIn_sub (fun _ h => List.mem_cons_of_mem _ (List.mem_append_right _ h)) (by decide +kernel))
set_option maxRecDepth 20000 in
theorem gX8_end_X8_fails1 : GoodIn wsX8_end (wsV RX8 208 RX8 yX8_fails1 wsX8_fails1) := goodIn_app (goodIn_of _ (by decide +kernel)) ggX8_end_X8_fails1
theorem dX8_end_5 : decode cX8_end 5 = .ok (.ifCond .ne 32, 3) := by decide +kernel
theorem dX8_end_37 : decode cX8_end 37 = .ok (.iconst 0, 1) := by decide +kernel
theorem dX8_end_38 : decode cX8_end 38 = .ok (.ireturn, 1) := by decide +kernel
theorem dX8_end_8 : decode cX8_end 8 = .ok (.aload_n 0, 1) := by decide +kernel
theorem dX8_end_9 : decode cX8_end 9 = .ok (.iload_n 2, 1) := by decide +kernel
theorem dX8_end_10 : decode cX8_end 10 = .ok (.ifCond .lt 20, 3) := by decide +kernel
theorem dX8_end_30 : decode cX8_end 30 = .ok (.iconst 2, 1) := by decide +kernel
theorem dX8_end_31 : decode cX8_end 31 = .ok (.invokevirtual 148, 3) := by decide +kernel
set_option maxRecDepth 20000 in
theorem ggX8_end_X8_fails : GoodIn wsX8_end wsX8_fails := goodIn_r _ [17, 18, 19, 20, 21, 22, 23, 24, 25, 26, 27, 28, 29, 30, 31, 32, 33, 34, 35, 36, 37, 38, 39, 40, 41, 42, 43, 44, 45, 46, 47, 48, 49] (by decide +kernel) (by decide +kernel)
set_option maxRecDepth 20000 in
theorem gX8_end_X8_fails : GoodIn wsX8_end (wsV RX8 148 RX8 yX8_fails wsX8_fails) := goodIn_app (goodIn_of _ (by decide +kernel)) ggX8_end_X8_fails
theorem dX8_end_34 : decode cX8_end 34 = .ok (.ifCond .eq 5, 3) := by decide +kernel
theorem dX8_end_13 : decode cX8_end 13 = .ok (.iload_n 2, 1) := by decide +kernel
theorem dX8_end_14 : decode cX8_end 14 = .ok (.aload_n 0, 1) := by decide +kernel
theorem dX8_end_15 : decode cX8_end 15 = .ok (.getfield 9, 3) := by decide +kernel
theorem dX8_end_18 : decode cX8_end 18 = .ok (.bipush 33, 2) := by decide +kernel
theorem dX8_end_20 : decode cX8_end 20 = .ok (.iload_n 1, 1) := by decide +kernel
theorem dX8_end_21 : decode cX8_end 21 = .ok (.imul, 1) := by decide +kernel
theorem dX8_end_22 : decode cX8_end 22 = .ok (.iaload, 1) := by decide +kernel
theorem dX8_end_23 : decode cX8_end 23 = .ok (.if_icmp .ge 7, 3) := by decide +kernel
theorem dX8_end_26 : decode cX8_end 26 = .ok (.iconst 0, 1) := by decide +kernel
theorem dX8_end_27 : decode cX8_end 27 = .ok (.goto 4, 3) := by decide +kernel
theorem dX8_end_39 : decode cX8_end 39 = .ok (.aload_n 0, 1) := by decide +kernel
theorem dX8_end_40 : decode cX8_end 40 = .ok (.getfield 9, 3) := by decide +kernel
theorem dX8_end_43 : decode cX8_end 43 = .ok (.bipush 33, 2) := by decide +kernel
theorem dX8_end_45 : decode cX8_end 45 = .ok (.iload_n 1, 1) := by decide +kernel
theorem dX8_end_46 : decode cX8_end 46 = .ok (.imul, 1) := by decide +kernel
theorem dX8_end_47 : decode cX8_end 47 = .ok (.iconst 1, 1) := by decide +kernel
theorem dX8_end_48 : decode cX8_end 48 = .ok (.iadd, 1) := by decide +kernel
theorem dX8_end_49 : decode cX8_end 49 = .ok (.iconst 2, 1) := by decide +kernel
theorem dX8_end_50 : decode cX8_end 50 = .ok (.iload_n 2, 1) := by decide +kernel
theorem dX8_end_51 : decode cX8_end 51 = .ok (.imul, 1) := by decide +kernel
theorem dX8_end_52 : decode cX8_end 52 = .ok (.iadd, 1) := by decide +kernel
theorem dX8_end_53 : decode cX8_end 53 = .ok (.iload_n 3, 1) := by decide +kernel
theorem dX8_end_54 : decode cX8_end 54 = .ok (.ifCond .eq 7, 3) := by decide +kernel
theorem dX8_end_61 : decode cX8_end 61 = .ok (.iconst 0, 1) := by decide +kernel
theorem dX8_end_62 : decode cX8_end 62 = .ok (.iadd, 1) := by decide +kernel
theorem dX8_end_63 : decode cX8_end 63 = .ok (.iaload, 1) := by decide +kernel
theorem dX8_end_64 : decode cX8_end 64 = .ok (.ireturn, 1) := by decide +kernel
theorem dX8_end_57 : decode cX8_end 57 = .ok (.iconst 1, 1) := by decide +kernel
theorem dX8_end_58 : decode cX8_end 58 = .ok (.goto 4, 3) := by decide +kernel
set_option maxHeartbeats 400000 in
set_option maxRecDepth 20000 in
theorem ct_X8_end (l : Launch) (D : va_G) (dA : Nat → ClassId) (hst : l.stackTraces = false) (M : jM) (m : Nat) (A : cA) (hA : mAb M m A) (hW : zWf (cNw A))(s y : Int32) (b : Bool) : jCT l D dA yX8_end wsX8_end (22) (420) (0) (0) 1 [.ref (m), .int (s), .int (y), .int (jb (b))] M (mRl M m [xIOOBE, xNSE] (oSl s (oRn A s (fun w => oEnd w y b))) A) := by
  refine jBody (cc := cX8_end) (nL := 4) (rt := (some .int)) (ini := false) (by decide) rfl hst (Nat.le_of_ble_eq_true rfl) (by simp [Value.category]) (by intro h9; first | exact absurd h9 (by decide) | rfl) ?_
  show J l D dA RX8 cX8_end wsX8_end 4 false (some .int) [] (22) (420) (jF D dA (jn M) (mRl M m [xIOOBE, xNSE] (oSl s (oRn A s (fun w => oEnd w y b))) A) 1) (jn M) (0) (0) (M) 0 [.ref (m), .int (s), .int (y), .int (jb (b))] []
  obtain ⟨hM, hz, ⟨hKn, hK8, hKs⟩, ⟨hHs, hHz⟩, ⟨hLn, hL6, hLc⟩, hFl, ⟨hRs, hRp⟩, hCh⟩ := id hA
  obtain ⟨m1, m2, ⟨r1, r2, r3, r4, r5, r6, r7, r8, r9, r10, r11, r12, r13⟩, ⟨k1, k2, k3, k4, k5, k6, k7, k8, k9, k10, k11, k12, k13⟩, z1, z2, z3, z4, z5, z6, z7, z8, z9, z10, z11, z12, z13⟩ := id hM
  refine J_aload_n (m) dX8_end_0 rfl rfl ?_
  refine J_iload_n dX8_end_1 rfl rfl ?_
  refine J_calli0 (jrunV (As := [.int (s)]) (ct_X8_fails1 l D dA hst M m hM (cNw A) hz ((s))) dX8_end_2 yY_X8_fails1 gX8_end_X8_fails1 rfl cs11 (show m < jn M from by omega) m2 rfl ⟨by omega, by omega⟩ ⟨Nat.zero_le _, Nat.zero_le _⟩ rfl (Nat.le_of_ble_eq_true rfl)) (rfl) (rfl) ?_
  refine J_if_ne dX8_end_5 (tgt := 37) (by decide) (fun c5 => ?_) (fun c5 => ?_)
  · have c5 := jb0F c5
    refine J_iconst (x := 0) dX8_end_37 (by decide) ?_
    exact J_iret (ty := .int) dX8_end_38 rfl (rfl) (by refine ⟨?_, (hA).si rfl, (mFr.rf).si ⟨by omega, by omega⟩, _, rfl⟩; simp only [ji_Si, and_self, if_true, reduceIte, reduceCtorEq, and_false, if_false, Nat.reduceEqDiff]; first | exact mF1_x (of_decide_eq_true c5) | exact mAg.x 1 xNSE rfl (by decide) rfl (by rw [oSl_t hs0, oRn_s hat]; unfold oEnd; rw [if_pos c10]) | exact mAg.x 1 xNSE rfl (by decide) rfl (by rw [oSl_t hs0, oRn_s hat]; unfold oEnd; rw [if_neg (nI_pos (by omega)), if_neg (nI_nlt (by omega) (by omega))]) | (refine Or.inl ⟨rfl, ?_⟩; rw [oSl_t hs0, oRn_s hat]; unfold oEnd; rw [if_neg (nI_pos (by omega)), if_pos (nI_lt (by omega) (by omega)), nI_clamp (by omega), c54]; rfl) | fail "rl")
  · have c5 := jb0T c5
    obtain ⟨hf0, hs0, k, w, hk, rfl, hzk, hat⟩ := mF1_ok (of_decide_eq_false c5)
    have hx := hz.at0 hk; rw [hzk] at hx
    have h16 := hx.2.1
    have hw := hW.1 _ _ hzk
    refine J_mem (M' := jSi M m 11 0) (by rw [hf0]) ?_
    refine J_aload_n (m) dX8_end_8 rfl rfl ?_
    refine J_iload_n dX8_end_9 rfl rfl ?_
    refine J_if_lt dX8_end_10 (tgt := 30) (by decide) (fun c10 => ?_) (fun c10 => ?_)
    · refine J_iconst (x := 2) dX8_end_30 (by decide) ?_
      refine J_calli0 (jrunV (As := [.int (2)]) (ct_X8_fails l D dA hst ((jSi M m 11 (0))) m hM ((2))) dX8_end_31 yY_X8_fails gX8_end_X8_fails rfl cs11 (show m < jn M from by omega) m2 rfl ⟨by omega, by omega⟩ ⟨Nat.zero_le _, Nat.zero_le _⟩ rfl (Nat.le_of_ble_eq_true rfl)) (rfl) (rfl) ?_
      refine J_if_eq dX8_end_34 (tgt := 39) (by decide) (fun c34 => ?_) (fun c34 => ?_)
      · exact absurd c34 (by decide)
      · have c34 := jeqF (a := 1) (b := 0) (by omega) (by omega) c34
        refine J_iconst (x := 0) dX8_end_37 (by decide) ?_
        exact J_iret (ty := .int) dX8_end_38 rfl (rfl) (by refine ⟨?_, ((hA).si rfl).si rfl, ((mFr.rf).si ⟨by omega, by omega⟩).si ⟨by omega, by omega⟩, _, rfl⟩; simp only [ji_Si, and_self, if_true, reduceIte, reduceCtorEq, and_false, if_false, Nat.reduceEqDiff]; first | exact mF1_x (of_decide_eq_true c5) | exact mAg.x 1 xNSE rfl (by decide) rfl (by rw [oSl_t hs0, oRn_s hat]; unfold oEnd; rw [if_pos c10]) | exact mAg.x 1 xNSE rfl (by decide) rfl (by rw [oSl_t hs0, oRn_s hat]; unfold oEnd; rw [if_neg (nI_pos (by omega)), if_neg (nI_nlt (by omega) (by omega))]) | (refine Or.inl ⟨rfl, ?_⟩; rw [oSl_t hs0, oRn_s hat]; unfold oEnd; rw [if_neg (nI_pos (by omega)), if_pos (nI_lt (by omega) (by omega)), nI_clamp (by omega), c54]; rfl) | fail "rl")
    · obtain ⟨q, hq31, rfl⟩ := nI_of c10
      refine J_iload_n dX8_end_13 rfl rfl ?_
      refine J_aload_n (m) dX8_end_14 rfl rfl ?_
      refine J_getrs (q := m + 1) r1 dX8_end_15 (fun _ h => List.mem_cons_of_mem _ (List.mem_append_left _ (List.mem_append_right _ (h)))) cs11 (by decide) rfl (List.mem_of_getElem? (i := 1) rfl) rfl (show m < jn M from by omega) m2 ?_
      refine J_bipush (x := 33) dX8_end_18 (by decide) ?_
      refine J_iload_n dX8_end_20 rfl rfl ?_
      refine J_imul dX8_end_21 ?_
      refine J_topi (y := nI (33 * k)) (pk_mul (33) (k)) ?_
      refine J_ialdN (k := 33 * k) dX8_end_22 (show m + 1 < jn M from by omega) k1 (by exact Nat.lt_of_lt_of_eq (show _ < 427 by omega) (Eq.symm z1)) (by exact Nat.lt_of_le_of_lt (Nat.le_of_eq z1) (show 427 < 2 ^ 31 by omega)) ?_
      refine J_topi (y := nI (w.1)) (by rw [ji_Sin (by omega)]; exact hx.hd) ?_
      refine J_icmp_ge dX8_end_23 (tgt := 30) (by decide) (fun c23 => ?_) (fun c23 => ?_)
      · have c23 := jleT (a := w.1) (b := q) (by omega) (by omega) c23
        refine J_iconst (x := 2) dX8_end_30 (by decide) ?_
        refine J_calli0 (jrunV (As := [.int (2)]) (ct_X8_fails l D dA hst ((jSi M m 11 (0))) m hM ((2))) dX8_end_31 yY_X8_fails gX8_end_X8_fails rfl cs11 (show m < jn M from by omega) m2 rfl ⟨by omega, by omega⟩ ⟨Nat.zero_le _, Nat.zero_le _⟩ rfl (Nat.le_of_ble_eq_true rfl)) (rfl) (rfl) ?_
        refine J_if_eq dX8_end_34 (tgt := 39) (by decide) (fun c34 => ?_) (fun c34 => ?_)
        · exact absurd c34 (by decide)
        · have c34 := jeqF (a := 1) (b := 0) (by omega) (by omega) c34
          refine J_iconst (x := 0) dX8_end_37 (by decide) ?_
          exact J_iret (ty := .int) dX8_end_38 rfl (rfl) (by refine ⟨?_, ((hA).si rfl).si rfl, ((mFr.rf).si ⟨by omega, by omega⟩).si ⟨by omega, by omega⟩, _, rfl⟩; simp only [ji_Si, and_self, if_true, reduceIte, reduceCtorEq, and_false, if_false, Nat.reduceEqDiff]; first | exact mF1_x (of_decide_eq_true c5) | exact mAg.x 1 xNSE rfl (by decide) rfl (by rw [oSl_t hs0, oRn_s hat]; unfold oEnd; rw [if_pos c10]) | exact mAg.x 1 xNSE rfl (by decide) rfl (by rw [oSl_t hs0, oRn_s hat]; unfold oEnd; rw [if_neg (nI_pos (by omega)), if_neg (nI_nlt (by omega) (by omega))]) | (refine Or.inl ⟨rfl, ?_⟩; rw [oSl_t hs0, oRn_s hat]; unfold oEnd; rw [if_neg (nI_pos (by omega)), if_pos (nI_lt (by omega) (by omega)), nI_clamp (by omega), c54]; rfl) | fail "rl")
      · have c23 := jleF (a := w.1) (b := q) (by omega) (by omega) c23
        refine J_iconst (x := 0) dX8_end_26 (by decide) ?_
        refine J_goto (tgt := 31) dX8_end_27 (by decide) ?_
        refine J_calli0 (jrunV (As := [.int (0)]) (ct_X8_fails l D dA hst ((jSi M m 11 (0))) m hM ((0))) dX8_end_31 yY_X8_fails gX8_end_X8_fails rfl cs11 (show m < jn M from by omega) m2 rfl ⟨by omega, by omega⟩ ⟨Nat.zero_le _, Nat.zero_le _⟩ rfl (Nat.le_of_ble_eq_true rfl)) (rfl) (rfl) ?_
        refine J_if_eq dX8_end_34 (tgt := 39) (by decide) (fun c34 => ?_) (fun c34 => ?_)
        · have c34 := jeqT (a := 0) (b := 0) (by omega) (by omega) c34
          refine J_aload_n (m) dX8_end_39 rfl rfl ?_
          refine J_getrs (q := m + 1) r1 dX8_end_40 (fun _ h => List.mem_cons_of_mem _ (List.mem_append_left _ (List.mem_append_right _ (h)))) cs11 (by decide) rfl (List.mem_of_getElem? (i := 1) rfl) rfl (show m < jn M from by omega) m2 ?_
          refine J_bipush (x := 33) dX8_end_43 (by decide) ?_
          refine J_iload_n dX8_end_45 rfl rfl ?_
          refine J_imul dX8_end_46 ?_
          refine J_topi (y := nI (33 * k)) (pk_mul (33) (k)) ?_
          refine J_iconst (x := 1) dX8_end_47 (by decide) ?_
          refine J_iadd dX8_end_48 ?_
          refine J_topi (y := nI (33 * k + 1)) (nI_add (33 * k) (1)) ?_
          refine J_iconst (x := 2) dX8_end_49 (by decide) ?_
          refine J_iload_n dX8_end_50 rfl rfl ?_
          refine J_imul dX8_end_51 ?_
          refine J_topi (y := nI (2 * q)) (pk_mul (2) (q)) ?_
          refine J_iadd dX8_end_52 ?_
          refine J_topi (y := nI (33 * k + 1 + 2 * q)) (nI_add (33 * k + 1) (2 * q)) ?_
          refine J_iload_n dX8_end_53 rfl rfl ?_
          refine J_if_eq dX8_end_54 (tgt := 61) (by decide) (fun c54 => ?_) (fun c54 => ?_)
          · have c54 := jb0T c54
            refine J_iconst (x := 0) dX8_end_61 (by decide) ?_
            refine J_iadd dX8_end_62 ?_
            refine J_topi (y := nI (33 * k + 1 + 2 * q + 0)) (nI_add (33 * k + 1 + 2 * q) (0)) ?_
            refine J_ialdN (k := 33 * k + 1 + 2 * q + 0) dX8_end_63 (show m + 1 < jn M from by omega) k1 (by exact Nat.lt_of_lt_of_eq (show _ < 427 by omega) (Eq.symm z1)) (by exact Nat.lt_of_le_of_lt (Nat.le_of_eq z1) (show 427 < 2 ^ 31 by omega)) ?_
            refine J_topi (y := rFirst w.2 w.1 q) (by simp only [rLast, rFirst]; rw [if_pos (by omega), ji_Sin (by omega), ji_Sin (by omega)]; first | exact (congrArg _ (by omega)).trans (hx.hi (k := q) (by omega)) | exact (congrArg _ (by omega)).trans (hx.lo (k := q) (by omega))) ?_
            exact J_iret (ty := .int) dX8_end_64 rfl (rfl) (by refine ⟨?_, ((hA).si rfl).si rfl, ((mFr.rf).si ⟨by omega, by omega⟩).si ⟨by omega, by omega⟩, _, rfl⟩; simp only [ji_Si, and_self, if_true, reduceIte, reduceCtorEq, and_false, if_false, Nat.reduceEqDiff]; first | exact mF1_x (of_decide_eq_true c5) | exact mAg.x 1 xNSE rfl (by decide) rfl (by rw [oSl_t hs0, oRn_s hat]; unfold oEnd; rw [if_pos c10]) | exact mAg.x 1 xNSE rfl (by decide) rfl (by rw [oSl_t hs0, oRn_s hat]; unfold oEnd; rw [if_neg (nI_pos (by omega)), if_neg (nI_nlt (by omega) (by omega))]) | (refine Or.inl ⟨rfl, ?_⟩; rw [oSl_t hs0, oRn_s hat]; unfold oEnd; rw [if_neg (nI_pos (by omega)), if_pos (nI_lt (by omega) (by omega)), nI_clamp (by omega), c54]; rfl) | fail "rl")
          · have c54 := jb0F c54
            refine J_iconst (x := 1) dX8_end_57 (by decide) ?_
            refine J_goto (tgt := 62) dX8_end_58 (by decide) ?_
            refine J_iadd dX8_end_62 ?_
            refine J_topi (y := nI (33 * k + 1 + 2 * q + 1)) (nI_add (33 * k + 1 + 2 * q) (1)) ?_
            refine J_ialdN (k := 33 * k + 1 + 2 * q + 1) dX8_end_63 (show m + 1 < jn M from by omega) k1 (by exact Nat.lt_of_lt_of_eq (show _ < 427 by omega) (Eq.symm z1)) (by exact Nat.lt_of_le_of_lt (Nat.le_of_eq z1) (show 427 < 2 ^ 31 by omega)) ?_
            refine J_topi (y := rLast w.2 w.1 q) (by simp only [rLast, rFirst]; rw [if_pos (by omega), ji_Sin (by omega), ji_Sin (by omega)]; first | exact (congrArg _ (by omega)).trans (hx.hi (k := q) (by omega)) | exact (congrArg _ (by omega)).trans (hx.lo (k := q) (by omega))) ?_
            exact J_iret (ty := .int) dX8_end_64 rfl (rfl) (by refine ⟨?_, ((hA).si rfl).si rfl, ((mFr.rf).si ⟨by omega, by omega⟩).si ⟨by omega, by omega⟩, _, rfl⟩; simp only [ji_Si, and_self, if_true, reduceIte, reduceCtorEq, and_false, if_false, Nat.reduceEqDiff]; first | exact mF1_x (of_decide_eq_true c5) | exact mAg.x 1 xNSE rfl (by decide) rfl (by rw [oSl_t hs0, oRn_s hat]; unfold oEnd; rw [if_pos c10]) | exact mAg.x 1 xNSE rfl (by decide) rfl (by rw [oSl_t hs0, oRn_s hat]; unfold oEnd; rw [if_neg (nI_pos (by omega)), if_neg (nI_nlt (by omega) (by omega))]) | (refine Or.inl ⟨rfl, ?_⟩; rw [oSl_t hs0, oRn_s hat]; unfold oEnd; rw [if_neg (nI_pos (by omega)), if_pos (nI_lt (by omega) (by omega)), nI_clamp (by omega), c54]; rfl) | fail "rl")
        · exact absurd c34 (by decide)

theorem dX8_contains_0 : decode cX8_contains 0 = .ok (.aload_n 0, 1) := by decide +kernel
theorem dX8_contains_1 : decode cX8_contains 1 = .ok (.iload_n 1, 1) := by decide +kernel
theorem dX8_contains_2 : decode cX8_contains 2 = .ok (.iload_n 2, 1) := by decide +kernel
theorem dX8_contains_3 : decode cX8_contains 3 = .ok (.invokevirtual 214, 3) := by decide +kernel
set_option maxRecDepth 20000 in
theorem ggX8_contains_X8_fails2 : GoodIn wsX8_contains wsX8_fails2 := goodIn_ca (goodIn_r _ [5, 6, 7, 4, 8, 9, 10, 11, 12, 13, 14, 15, 16, 17, 18, 19, 20, 21, 22, 35, 36, 37, 38, 39, 40, 41, 42, 43, 44, 45, 46, 47, 48, 49, 50, 51, 52, 53, 54, 55, 56, 57, 58, 59, 60, 61, 62, 63, 64, 65] (by decide +kernel) (by decide +kernel)) (goodIn_sub (fun _ h => List.mem_cons_of_mem _ (List.mem_append_right _ h)) (by decide +kernel))
set_option maxRecDepth 20000 in
theorem gX8_contains_X8_fails2 : GoodIn wsX8_contains (wsV RX8 214 RX8 yX8_fails2 wsX8_fails2) := goodIn_app (goodIn_of _ (by decide +kernel)) ggX8_contains_X8_fails2
theorem yY_X8_fails2 : jY yX8_fails2 wsX8_fails2 cX8_fails2 3 (some .boolean) 2 := ⟨⟨_, rfl⟩, by decide +kernel, by decide +kernel, by decide +kernel⟩
theorem dX8_contains_6 : decode cX8_contains 6 = .ok (.ifCond .ne 17, 3) := by decide +kernel
theorem dX8_contains_23 : decode cX8_contains 23 = .ok (.iconst 0, 1) := by decide +kernel
theorem dX8_contains_24 : decode cX8_contains 24 = .ok (.ireturn, 1) := by decide +kernel
theorem dX8_contains_9 : decode cX8_contains 9 = .ok (.aload_n 0, 1) := by decide +kernel
theorem dX8_contains_10 : decode cX8_contains 10 = .ok (.iload_n 1, 1) := by decide +kernel
theorem dX8_contains_11 : decode cX8_contains 11 = .ok (.iload_n 2, 1) := by decide +kernel
theorem dX8_contains_12 : decode cX8_contains 12 = .ok (.iload_n 3, 1) := by decide +kernel
theorem dX8_contains_13 : decode cX8_contains 13 = .ok (.invokevirtual 218, 3) := by decide +kernel
set_option maxRecDepth 20000 in
theorem ggX8_contains_X8_isIn : GoodIn wsX8_contains wsX8_isIn := goodIn_ca (goodIn_r _ [26, 17, 27, 28, 29, 30, 4, 31, 32, 33, 34, 35, 36, 37, 38, 39, 40, 41, 42, 43, 44, 45, 46, 47, 48, 49, 50, 51, 52, 53, 54, 55, 56, 57, 58, 59, 60, 61, 62, 63, 64, 65] (by decide +kernel) (by decide +kernel)) (goodIn_sub (fun _ h => List.mem_cons_of_mem _ (List.mem_append_right _ h)) (by decide +kernel))
set_option maxRecDepth 20000 in
theorem gX8_contains_X8_isIn : GoodIn wsX8_contains (wsV RX8 218 RX8 yX8_isIn wsX8_isIn) := goodIn_app (goodIn_of _ (by decide +kernel)) ggX8_contains_X8_isIn
theorem yY_X8_isIn : jY yX8_isIn wsX8_isIn cX8_isIn 6 (some .boolean) 3 := ⟨⟨_, rfl⟩, by decide +kernel, by decide +kernel, by decide +kernel⟩
theorem dX8_contains_16 : decode cX8_contains 16 = .ok (.ifCond .eq 7, 3) := by decide +kernel
theorem dX8_contains_19 : decode cX8_contains 19 = .ok (.iconst 1, 1) := by decide +kernel
theorem dX8_contains_20 : decode cX8_contains 20 = .ok (.goto 4, 3) := by decide +kernel
set_option maxHeartbeats 400000 in
set_option maxRecDepth 20000 in
theorem ct_X8_contains (l : Launch) (D : va_G) (dA : Nat → ClassId) (hst : l.stackTraces = false) (M : jM) (m : Nat) (A : cA) (hA : mAb M m A) (hW : zWf (cNw A))(s y : Int32) (b : Bool) : jCT l D dA yX8_contains wsX8_contains (23) (480) (0) (0) 1 [.ref (m), .int (s), .int (y), .int (jb (b))] M (mRl M m [xIOOBE, xIAE, xNSE] (oSl s (oVe y (oRn A s (fun w => oI (jb (rHoldsFor w.2 w.1 b y)))))) A) := by
  refine jBody (cc := cX8_contains) (nL := 4) (rt := (some .boolean)) (ini := false) (by decide) rfl hst (Nat.le_of_ble_eq_true rfl) (by simp [Value.category]) (by intro h9; first | exact absurd h9 (by decide) | rfl) ?_
  show J l D dA RX8 cX8_contains wsX8_contains 4 false (some .boolean) [] (23) (480) (jF D dA (jn M) (mRl M m [xIOOBE, xIAE, xNSE] (oSl s (oVe y (oRn A s (fun w => oI (jb (rHoldsFor w.2 w.1 b y)))))) A) 1) (jn M) (0) (0) (M) 0 [.ref (m), .int (s), .int (y), .int (jb (b))] []
  obtain ⟨hM, hz, ⟨hKn, hK8, hKs⟩, ⟨hHs, hHz⟩, ⟨hLn, hL6, hLc⟩, hFl, ⟨hRs, hRp⟩, hCh⟩ := id hA
  obtain ⟨m1, m2, ⟨r1, r2, r3, r4, r5, r6, r7, r8, r9, r10, r11, r12, r13⟩, ⟨k1, k2, k3, k4, k5, k6, k7, k8, k9, k10, k11, k12, k13⟩, z1, z2, z3, z4, z5, z6, z7, z8, z9, z10, z11, z12, z13⟩ := id hM
  refine J_aload_n (m) dX8_contains_0 rfl rfl ?_
  refine J_iload_n dX8_contains_1 rfl rfl ?_
  refine J_iload_n dX8_contains_2 rfl rfl ?_
  refine J_calli0 (jrunV (As := [.int (s), .int (y)]) (ct_X8_fails2 l D dA hst M m hM (cNw A) hz ((s)) ((y))) dX8_contains_3 yY_X8_fails2 gX8_contains_X8_fails2 rfl cs11 (show m < jn M from by omega) m2 rfl ⟨by omega, by omega⟩ ⟨Nat.zero_le _, Nat.zero_le _⟩ rfl (Nat.le_of_ble_eq_true rfl)) (rfl) (rfl) ?_
  refine J_if_ne dX8_contains_6 (tgt := 23) (by decide) (fun c6 => ?_) (fun c6 => ?_)
  · have c6 := jb0F c6
    refine J_iconst (x := 0) dX8_contains_23 (by decide) ?_
    exact J_iret (ty := .boolean) dX8_contains_24 rfl (by rfl) (by refine ⟨?_, (hA).si rfl, (mFr.rf).si ⟨by omega, by omega⟩, _, rfl⟩; simp only [ji_Si, and_self, if_true, reduceIte, reduceCtorEq, and_false, if_false, Nat.reduceEqDiff]; first | exact mF2_x (of_decide_eq_true c6) | (refine Or.inl ⟨rfl, ?_⟩; rw [oSl_t hs0]; unfold oVe; rw [hv0, if_pos rfl, oRn_s hat]; rw [c16]; rfl) | fail "rl")
  · have c6 := jb0T c6
    obtain ⟨hf0, hs0, hv0, k, w, hk, rfl, hzk, hat⟩ := mF2_ok (of_decide_eq_false c6)
    have hx := hz.at0 hk; rw [hzk] at hx
    have h16 := hx.2.1
    have hw := hW.1 _ _ hzk
    refine J_mem (M' := jSi M m 11 0) (by rw [hf0]) ?_
    refine J_aload_n (m) dX8_contains_9 rfl rfl ?_
    refine J_iload_n dX8_contains_10 rfl rfl ?_
    refine J_iload_n dX8_contains_11 rfl rfl ?_
    refine J_iload_n dX8_contains_12 rfl rfl ?_
    refine J_calli (jrunV (As := [.int (nI (k)), .int (y), .int (jb (b))]) (ct_X8_isIn l D dA hst ((jSi M m 11 (0))) m hM k hk w hw ((hx).si (by omega)) ((y)) (b)) dX8_contains_13 yY_X8_isIn gX8_contains_X8_isIn rfl cs11 (show m < jn M from by omega) m2 rfl ⟨by omega, by omega⟩ ⟨Nat.zero_le _, Nat.zero_le _⟩ rfl (Nat.le_of_ble_eq_true rfl)) ⟨Nat.zero_le _, Nat.zero_le _⟩ (Or.inr ⟨(jOk.ref (show m < jn M from by omega) (jOk.int (jOk.int (jOk.int jOk.nil)))), jOk.nil⟩) (fun E M9 hp _ => by obtain ⟨_, h1, _⟩ := hp; cases h1) (fun x9 M1 hp13 hle13 => ?_)
    obtain ⟨xi13, he, rfl⟩ := hp13
    cases he
    refine J_if_eq dX8_contains_16 (tgt := 23) (by decide) (fun c16 => ?_) (fun c16 => ?_)
    · have c16 := jb0T c16
      refine J_iconst (x := 0) dX8_contains_23 (by decide) ?_
      exact J_iret (ty := .boolean) dX8_contains_24 rfl (by rfl) (by refine ⟨?_, ((hA).si rfl).si rfl, ((mFr.rf).si ⟨by omega, by omega⟩).si ⟨by omega, by omega⟩, _, rfl⟩; simp only [ji_Si, and_self, if_true, reduceIte, reduceCtorEq, and_false, if_false, Nat.reduceEqDiff]; first | exact mF2_x (of_decide_eq_true c6) | (refine Or.inl ⟨rfl, ?_⟩; rw [oSl_t hs0]; unfold oVe; rw [hv0, if_pos rfl, oRn_s hat]; rw [c16]; rfl) | fail "rl")
    · have c16 := jb0F c16
      refine J_iconst (x := 1) dX8_contains_19 (by decide) ?_
      refine J_goto (tgt := 24) dX8_contains_20 (by decide) ?_
      exact J_iret (ty := .boolean) dX8_contains_24 rfl (by rfl) (by refine ⟨?_, ((hA).si rfl).si rfl, ((mFr.rf).si ⟨by omega, by omega⟩).si ⟨by omega, by omega⟩, _, rfl⟩; simp only [ji_Si, and_self, if_true, reduceIte, reduceCtorEq, and_false, if_false, Nat.reduceEqDiff]; first | exact mF2_x (of_decide_eq_true c6) | (refine Or.inl ⟨rfl, ?_⟩; rw [oSl_t hs0]; unfold oVe; rw [hv0, if_pos rfl, oRn_s hat]; rw [c16]; rfl) | fail "rl")

theorem dX8_from_0 : decode cX8_from 0 = .ok (.aload_n 0, 1) := by decide +kernel
theorem dX8_from_1 : decode cX8_from 1 = .ok (.iload_n 1, 1) := by decide +kernel
theorem dX8_from_2 : decode cX8_from 2 = .ok (.iload_n 2, 1) := by decide +kernel
theorem dX8_from_3 : decode cX8_from 3 = .ok (.invokevirtual 214, 3) := by decide +kernel
set_option maxRecDepth 20000 in
theorem ggX8_from_X8_fails2 : GoodIn wsX8_from wsX8_fails2 := goodIn_ca (goodIn_r _ [7, 8, 9, 6, 10, 11, 12, 13, 2, 14, 15, 16, 17, 1, 18, 19, 20, 21, 22, 39, 40, 41, 42, 43, 44, 45, 46, 47, 48, 49, 50, 51, 52, 53, 54, 55, 56, 57, 58, 59, 60, 61, 62, 63, 64, 65, 66, 67, 68, 69] (by decide +kernel) (by decide +kernel)) (goodIn_sub (fun _ h => List.mem_cons_of_mem _ (List.mem_append_right _ h)) (by decide +kernel))
set_option maxRecDepth 20000 in
theorem gX8_from_X8_fails2 : GoodIn wsX8_from (wsV RX8 214 RX8 yX8_fails2 wsX8_fails2) := goodIn_app (goodIn_of _ (by decide +kernel)) ggX8_from_X8_fails2
theorem dX8_from_6 : decode cX8_from 6 = .ok (.ifCond .eq 5, 3) := by decide +kernel
theorem dX8_from_11 : decode cX8_from 11 = .ok (.aload_n 0, 1) := by decide +kernel
theorem dX8_from_12 : decode cX8_from 12 = .ok (.iload_n 1, 1) := by decide +kernel
theorem dX8_from_13 : decode cX8_from 13 = .ok (.iload_n 2, 1) := by decide +kernel
theorem dX8_from_14 : decode cX8_from 14 = .ok (.iconst 0, 1) := by decide +kernel
theorem dX8_from_15 : decode cX8_from 15 = .ok (.invokevirtual 218, 3) := by decide +kernel
set_option maxRecDepth 20000 in
theorem ggX8_from_X8_isIn : GoodIn wsX8_from wsX8_isIn := goodIn_ca (goodIn_r _ [26, 1, 27, 28, 29, 30, 6, 31, 32, 33, 34, 39, 40, 41, 42, 43, 44, 45, 46, 47, 48, 49, 50, 51, 52, 53, 54, 55, 56, 57, 58, 59, 60, 61, 62, 63, 64, 65, 66, 67, 68, 69] (by decide +kernel) (by decide +kernel)) (goodIn_sub (fun _ h => List.mem_cons_of_mem _ (List.mem_append_right _ h)) (by decide +kernel))
set_option maxRecDepth 20000 in
theorem gX8_from_X8_isIn : GoodIn wsX8_from (wsV RX8 218 RX8 yX8_isIn wsX8_isIn) := goodIn_app (goodIn_of _ (by decide +kernel)) ggX8_from_X8_isIn
theorem dX8_from_18 : decode cX8_from 18 = .ok (.ifCond .eq 7, 3) := by decide +kernel
theorem dX8_from_25 : decode cX8_from 25 = .ok (.aload_n 0, 1) := by decide +kernel
theorem dX8_from_26 : decode cX8_from 26 = .ok (.getfield 9, 3) := by decide +kernel
theorem dX8_from_29 : decode cX8_from 29 = .ok (.bipush 33, 2) := by decide +kernel
theorem dX8_from_31 : decode cX8_from 31 = .ok (.iload_n 1, 1) := by decide +kernel
theorem dX8_from_32 : decode cX8_from 32 = .ok (.imul, 1) := by decide +kernel
theorem dX8_from_33 : decode cX8_from 33 = .ok (.iload_n 2, 1) := by decide +kernel
theorem dX8_from_34 : decode cX8_from 34 = .ok (.invokestatic 67, 3) := by decide +kernel
set_option maxRecDepth 20000 in
theorem ggX8_from_X8_turn : GoodIn wsX8_from wsX8_turn := goodIn_ca (goodIn_r _ [37, 38] (by decide +kernel) (by decide +kernel)) (goodIn_sub (fun _ h => List.mem_cons_of_mem _ (List.mem_append_right _ h)) (by decide +kernel))
set_option maxRecDepth 20000 in
theorem gX8_from_X8_turn : GoodIn wsX8_from (va_wsS RX8 67 yX8_turn wsX8_turn) := goodIn_app (goodIn_of _ (by decide +kernel)) ggX8_from_X8_turn
theorem yY_X8_turn : jY yX8_turn wsX8_turn cX8_turn 5 (some .int) 3 := ⟨⟨_, rfl⟩, by decide +kernel, by decide +kernel, by decide +kernel⟩
theorem dX8_from_37 : decode cX8_from 37 = .ok (.istore_n 3, 1) := by decide +kernel
theorem dX8_from_38 : decode cX8_from 38 = .ok (.aload_n 0, 1) := by decide +kernel
theorem dX8_from_39 : decode cX8_from 39 = .ok (.iload_n 3, 1) := by decide +kernel
theorem dX8_from_40 : decode cX8_from 40 = .ok (.ldc 59, 2) := by decide +kernel
theorem dX8_from_42 : decode cX8_from 42 = .ok (.if_icmp .le 7, 3) := by decide +kernel
theorem dX8_from_49 : decode cX8_from 49 = .ok (.iconst 0, 1) := by decide +kernel
theorem dX8_from_50 : decode cX8_from 50 = .ok (.invokevirtual 148, 3) := by decide +kernel
set_option maxRecDepth 20000 in
theorem ggX8_from_X8_fails : GoodIn wsX8_from wsX8_fails := goodIn_r _ [21, 22, 39, 40, 41, 42, 43, 44, 45, 46, 47, 48, 49, 50, 51, 52, 53, 54, 55, 56, 57, 58, 59, 60, 61, 62, 63, 64, 65, 66, 67, 68, 69] (by decide +kernel) (by decide +kernel)
set_option maxRecDepth 20000 in
theorem gX8_from_X8_fails : GoodIn wsX8_from (wsV RX8 148 RX8 yX8_fails wsX8_fails) := goodIn_app (goodIn_of _ (by decide +kernel)) ggX8_from_X8_fails
theorem dX8_from_53 : decode cX8_from 53 = .ok (.ifCond .eq 7, 3) := by decide +kernel
theorem dX8_from_60 : decode cX8_from 60 = .ok (.iload_n 3, 1) := by decide +kernel
theorem dX8_from_61 : decode cX8_from 61 = .ok (.ireturn, 1) := by decide +kernel
theorem dX8_from_45 : decode cX8_from 45 = .ok (.iconst 3, 1) := by decide +kernel
theorem dX8_from_46 : decode cX8_from 46 = .ok (.goto 4, 3) := by decide +kernel
theorem dX8_from_56 : decode cX8_from 56 = .ok (.iconst 0, 1) := by decide +kernel
theorem dX8_from_57 : decode cX8_from 57 = .ok (.goto 4, 3) := by decide +kernel
theorem dX8_from_21 : decode cX8_from 21 = .ok (.iload_n 2, 1) := by decide +kernel
theorem dX8_from_22 : decode cX8_from 22 = .ok (.goto 15, 3) := by decide +kernel
theorem dX8_from_9 : decode cX8_from 9 = .ok (.iconst 0, 1) := by decide +kernel
theorem dX8_from_10 : decode cX8_from 10 = .ok (.ireturn, 1) := by decide +kernel
set_option maxHeartbeats 400000 in
set_option maxRecDepth 20000 in
theorem ct_X8_from (l : Launch) (D : va_G) (dA : Nat → ClassId) (hst : l.stackTraces = false) (M : jM) (m : Nat) (A : cA) (hA : mAb M m A) (hW : zWf (cNw A))(s y : Int32) : jCT l D dA yX8_from wsX8_from (23) (480) (0) (0) 1 [.ref (m), .int (s), .int (y)] M (mRl M m [xIOOBE, xIAE, xNSE] (oSl s (oVe y (oRn A s (fun w => if rLeast w.2 w.1 y = -1 then oX xNSE else oI (rLeast w.2 w.1 y))))) A) := by
  refine jBody (cc := cX8_from) (nL := 4) (rt := (some .int)) (ini := false) (by decide) rfl hst (Nat.le_of_ble_eq_true rfl) (by simp [Value.category]) (by intro h9; first | exact absurd h9 (by decide) | rfl) ?_
  show J l D dA RX8 cX8_from wsX8_from 4 false (some .int) [] (23) (480) (jF D dA (jn M) (mRl M m [xIOOBE, xIAE, xNSE] (oSl s (oVe y (oRn A s (fun w => if rLeast w.2 w.1 y = -1 then oX xNSE else oI (rLeast w.2 w.1 y))))) A) 1) (jn M) (0) (0) (M) 0 [.ref (m), .int (s), .int (y), .float 0] []
  obtain ⟨hM, hz, ⟨hKn, hK8, hKs⟩, ⟨hHs, hHz⟩, ⟨hLn, hL6, hLc⟩, hFl, ⟨hRs, hRp⟩, hCh⟩ := id hA
  obtain ⟨m1, m2, ⟨r1, r2, r3, r4, r5, r6, r7, r8, r9, r10, r11, r12, r13⟩, ⟨k1, k2, k3, k4, k5, k6, k7, k8, k9, k10, k11, k12, k13⟩, z1, z2, z3, z4, z5, z6, z7, z8, z9, z10, z11, z12, z13⟩ := id hM
  refine J_aload_n (m) dX8_from_0 rfl rfl ?_
  refine J_iload_n dX8_from_1 rfl rfl ?_
  refine J_iload_n dX8_from_2 rfl rfl ?_
  refine J_calli0 (jrunV (As := [.int (s), .int (y)]) (ct_X8_fails2 l D dA hst M m hM (cNw A) hz ((s)) ((y))) dX8_from_3 yY_X8_fails2 gX8_from_X8_fails2 rfl cs11 (show m < jn M from by omega) m2 rfl ⟨by omega, by omega⟩ ⟨Nat.zero_le _, Nat.zero_le _⟩ rfl (Nat.le_of_ble_eq_true rfl)) (rfl) (rfl) ?_
  refine J_if_eq dX8_from_6 (tgt := 11) (by decide) (fun c6 => ?_) (fun c6 => ?_)
  · have c6 := jb0T c6
    obtain ⟨hf0, hs0, hv0, k, w, hk, rfl, hzk, hat⟩ := mF2_ok (of_decide_eq_false c6)
    have hx := hz.at0 hk; rw [hzk] at hx
    have h16 := hx.2.1
    have hw := hW.1 _ _ hzk
    refine J_mem (M' := jSi M m 11 0) (by rw [hf0]) ?_
    refine J_aload_n (m) dX8_from_11 rfl rfl ?_
    refine J_iload_n dX8_from_12 rfl rfl ?_
    refine J_iload_n dX8_from_13 rfl rfl ?_
    refine J_iconst (x := 0) dX8_from_14 (by decide) ?_
    refine J_calli (jrunV (As := [.int (nI (k)), .int (y), .int (0)]) (ct_X8_isIn l D dA hst ((jSi M m 11 (0))) m hM k hk w hw ((hx).si (by omega)) ((y)) (false)) dX8_from_15 yY_X8_isIn gX8_from_X8_isIn rfl cs11 (show m < jn M from by omega) m2 rfl ⟨by omega, by omega⟩ ⟨Nat.zero_le _, Nat.zero_le _⟩ rfl (Nat.le_of_ble_eq_true rfl)) ⟨Nat.zero_le _, Nat.zero_le _⟩ (Or.inr ⟨(jOk.ref (show m < jn M from by omega) (jOk.int (jOk.int (jOk.float jOk.nil)))), jOk.nil⟩) (fun E M9 hp _ => by obtain ⟨_, h1, _⟩ := hp; cases h1) (fun x9 M1 hp15 hle15 => ?_)
    obtain ⟨xi15, he, rfl⟩ := hp15
    cases he
    refine J_if_eq dX8_from_18 (tgt := 25) (by decide) (fun c18 => ?_) (fun c18 => ?_)
    · have c18 := jb0T c18
      refine J_aload_n (m) dX8_from_25 rfl rfl ?_
      refine J_getrs (q := m + 1) r1 dX8_from_26 (fun _ h => List.mem_cons_of_mem _ (List.mem_append_left _ (List.mem_append_right _ (h)))) cs11 (by decide) rfl (List.mem_of_getElem? (i := 1) rfl) rfl (show m < jn M from by omega) m2 ?_
      refine J_bipush (x := 33) dX8_from_29 (by decide) ?_
      refine J_iload_n dX8_from_31 rfl rfl ?_
      refine J_imul dX8_from_32 ?_
      refine J_topi (y := nI (33 * k)) (pk_mul (33) (k)) ?_
      refine J_iload_n dX8_from_33 rfl rfl ?_
      refine J_calli0 (jrunS (As := [.ref (m + 1), .int (nI (33 * k)), .int (y)]) (ct_X8_turn l D dA hst ((jSi ((jSi M m 11 (0))) m 14 xi15)) (m + 1) 427 (33 * k) (show m + 1 < jn M by omega) k1 z1 (by omega) (by omega) w (((hx).si (by omega)).si (by omega)) ((y))) dX8_from_34 yY_X8_turn gX8_from_X8_turn rfl ⟨by omega, by omega⟩ ⟨Nat.zero_le _, Nat.zero_le _⟩ rfl (Nat.le_of_ble_eq_true rfl)) (rfl) (rfl) ?_
      refine J_istore_n (lv' := [.ref (m), .int (nI (k)), .int (y), .int (mTurn w.2 ((y)) w.1 100000000)]) dX8_from_37 rfl (by decide) rfl rfl ?_
      refine J_aload_n (m) dX8_from_38 rfl rfl ?_
      refine J_iload_n dX8_from_39 rfl rfl ?_
      refine J_ldc (x := 99999999) dX8_from_40 (List.mem_of_getElem? (i := 2) rfl) ?_
      refine J_icmp_le dX8_from_42 (tgt := 49) (by decide) (fun c42 => ?_) (fun c42 => ?_)
      · refine J_iconst (x := 0) dX8_from_49 (by decide) ?_
        refine J_calli0 (jrunV (As := [.int (0)]) (ct_X8_fails l D dA hst ((jSi ((jSi M m 11 (0))) m 14 xi15)) m hM ((0))) dX8_from_50 yY_X8_fails gX8_from_X8_fails rfl cs11 (show m < jn M from by omega) m2 rfl ⟨by omega, by omega⟩ ⟨Nat.zero_le _, Nat.zero_le _⟩ rfl (Nat.le_of_ble_eq_true rfl)) (rfl) (rfl) ?_
        refine J_if_eq dX8_from_53 (tgt := 60) (by decide) (fun c53 => ?_) (fun c53 => ?_)
        · have c53 := jeqT (a := 0) (b := 0) (by omega) (by omega) c53
          refine J_iload_n dX8_from_60 rfl rfl ?_
          exact J_iret (ty := .int) dX8_from_61 rfl (rfl) (by refine ⟨?_, (((hA).si rfl).si rfl).si rfl, (((mFr.rf).si ⟨by omega, by omega⟩).si ⟨by omega, by omega⟩).si ⟨by omega, by omega⟩, _, rfl⟩; simp only [ji_Si, and_self, if_true, reduceIte, reduceCtorEq, and_false, if_false, Nat.reduceEqDiff]; first | exact mF2_x (of_decide_eq_true c6) | (rw [rHoldsFor_f] at c18; refine Or.inl ⟨rfl, ?_⟩; rw [oSl_t hs0]; unfold oVe; rw [hv0, if_pos rfl, oRn_s hat]; rw [from_in c18, if_neg (okVer_m1 hv0)]) | (rw [rHoldsFor_f] at c18; have h9 := from_out hw c18; rw [mTurn_eq hw] at *; rw [if_pos c42] at h9; exact mAg.x 2 xNSE rfl (by decide) rfl (by rw [oSl_t hs0]; unfold oVe; rw [hv0, if_pos rfl, oRn_s hat]; rw [if_pos h9])) | (rw [rHoldsFor_f] at c18; have h9 := from_out hw c18; rw [mTurn_eq hw] at *; rw [if_neg c42] at h9; refine Or.inl ⟨rfl, ?_⟩; rw [oSl_t hs0]; unfold oVe; rw [hv0, if_pos rfl, oRn_s hat]; rw [if_neg h9.2, h9.1]) | (rw [rHoldsFor_f] at c18; have h9 := from_out hw c18; rw [mTurn_eq hw] at *; rw [if_pos (Int32.not_le.mp c42)] at h9; exact mAg.x 2 xNSE rfl (by decide) rfl (by rw [oSl_t hs0]; unfold oVe; rw [hv0, if_pos rfl, oRn_s hat]; rw [if_pos h9])) | (rw [rHoldsFor_f] at c18; have h9 := from_out hw c18; rw [mTurn_eq hw] at *; rw [if_neg (Int32.not_lt.mpr c42)] at h9; refine Or.inl ⟨rfl, ?_⟩; rw [oSl_t hs0]; unfold oVe; rw [hv0, if_pos rfl, oRn_s hat]; rw [if_neg h9.2, h9.1]) | fail "rl")
        · exact absurd c53 (by decide)
      · refine J_iconst (x := 3) dX8_from_45 (by decide) ?_
        refine J_goto (tgt := 50) dX8_from_46 (by decide) ?_
        refine J_calli0 (jrunV (As := [.int (3)]) (ct_X8_fails l D dA hst ((jSi ((jSi M m 11 (0))) m 14 xi15)) m hM ((3))) dX8_from_50 yY_X8_fails gX8_from_X8_fails rfl cs11 (show m < jn M from by omega) m2 rfl ⟨by omega, by omega⟩ ⟨Nat.zero_le _, Nat.zero_le _⟩ rfl (Nat.le_of_ble_eq_true rfl)) (rfl) (rfl) ?_
        refine J_if_eq dX8_from_53 (tgt := 60) (by decide) (fun c53 => ?_) (fun c53 => ?_)
        · exact absurd c53 (by decide)
        · have c53 := jeqF (a := 1) (b := 0) (by omega) (by omega) c53
          refine J_iconst (x := 0) dX8_from_56 (by decide) ?_
          refine J_goto (tgt := 61) dX8_from_57 (by decide) ?_
          exact J_iret (ty := .int) dX8_from_61 rfl (rfl) (by refine ⟨?_, (((hA).si rfl).si rfl).si rfl, (((mFr.rf).si ⟨by omega, by omega⟩).si ⟨by omega, by omega⟩).si ⟨by omega, by omega⟩, _, rfl⟩; simp only [ji_Si, and_self, if_true, reduceIte, reduceCtorEq, and_false, if_false, Nat.reduceEqDiff]; first | exact mF2_x (of_decide_eq_true c6) | (rw [rHoldsFor_f] at c18; refine Or.inl ⟨rfl, ?_⟩; rw [oSl_t hs0]; unfold oVe; rw [hv0, if_pos rfl, oRn_s hat]; rw [from_in c18, if_neg (okVer_m1 hv0)]) | (rw [rHoldsFor_f] at c18; have h9 := from_out hw c18; rw [mTurn_eq hw] at *; rw [if_pos c42] at h9; exact mAg.x 2 xNSE rfl (by decide) rfl (by rw [oSl_t hs0]; unfold oVe; rw [hv0, if_pos rfl, oRn_s hat]; rw [if_pos h9])) | (rw [rHoldsFor_f] at c18; have h9 := from_out hw c18; rw [mTurn_eq hw] at *; rw [if_neg c42] at h9; refine Or.inl ⟨rfl, ?_⟩; rw [oSl_t hs0]; unfold oVe; rw [hv0, if_pos rfl, oRn_s hat]; rw [if_neg h9.2, h9.1]) | (rw [rHoldsFor_f] at c18; have h9 := from_out hw c18; rw [mTurn_eq hw] at *; rw [if_pos (Int32.not_le.mp c42)] at h9; exact mAg.x 2 xNSE rfl (by decide) rfl (by rw [oSl_t hs0]; unfold oVe; rw [hv0, if_pos rfl, oRn_s hat]; rw [if_pos h9])) | (rw [rHoldsFor_f] at c18; have h9 := from_out hw c18; rw [mTurn_eq hw] at *; rw [if_neg (Int32.not_lt.mpr c42)] at h9; refine Or.inl ⟨rfl, ?_⟩; rw [oSl_t hs0]; unfold oVe; rw [hv0, if_pos rfl, oRn_s hat]; rw [if_neg h9.2, h9.1]) | fail "rl")
    · have c18 := jb0F c18
      refine J_iload_n dX8_from_21 rfl rfl ?_
      refine J_goto (tgt := 37) dX8_from_22 (by decide) ?_
      refine J_istore_n (lv' := [.ref (m), .int (nI (k)), .int (y), .int (y)]) dX8_from_37 rfl (by decide) rfl rfl ?_
      refine J_aload_n (m) dX8_from_38 rfl rfl ?_
      refine J_iload_n dX8_from_39 rfl rfl ?_
      refine J_ldc (x := 99999999) dX8_from_40 (List.mem_of_getElem? (i := 2) rfl) ?_
      refine J_icmp_le dX8_from_42 (tgt := 49) (by decide) (fun c42 => ?_) (fun c42 => ?_)
      · refine J_iconst (x := 0) dX8_from_49 (by decide) ?_
        refine J_calli0 (jrunV (As := [.int (0)]) (ct_X8_fails l D dA hst ((jSi ((jSi M m 11 (0))) m 14 xi15)) m hM ((0))) dX8_from_50 yY_X8_fails gX8_from_X8_fails rfl cs11 (show m < jn M from by omega) m2 rfl ⟨by omega, by omega⟩ ⟨Nat.zero_le _, Nat.zero_le _⟩ rfl (Nat.le_of_ble_eq_true rfl)) (rfl) (rfl) ?_
        refine J_if_eq dX8_from_53 (tgt := 60) (by decide) (fun c53 => ?_) (fun c53 => ?_)
        · have c53 := jeqT (a := 0) (b := 0) (by omega) (by omega) c53
          refine J_iload_n dX8_from_60 rfl rfl ?_
          exact J_iret (ty := .int) dX8_from_61 rfl (rfl) (by refine ⟨?_, (((hA).si rfl).si rfl).si rfl, (((mFr.rf).si ⟨by omega, by omega⟩).si ⟨by omega, by omega⟩).si ⟨by omega, by omega⟩, _, rfl⟩; simp only [ji_Si, and_self, if_true, reduceIte, reduceCtorEq, and_false, if_false, Nat.reduceEqDiff]; first | exact mF2_x (of_decide_eq_true c6) | (rw [rHoldsFor_f] at c18; refine Or.inl ⟨rfl, ?_⟩; rw [oSl_t hs0]; unfold oVe; rw [hv0, if_pos rfl, oRn_s hat]; rw [from_in c18, if_neg (okVer_m1 hv0)]) | (rw [rHoldsFor_f] at c18; have h9 := from_out hw c18; rw [mTurn_eq hw] at *; rw [if_pos c42] at h9; exact mAg.x 2 xNSE rfl (by decide) rfl (by rw [oSl_t hs0]; unfold oVe; rw [hv0, if_pos rfl, oRn_s hat]; rw [if_pos h9])) | (rw [rHoldsFor_f] at c18; have h9 := from_out hw c18; rw [mTurn_eq hw] at *; rw [if_neg c42] at h9; refine Or.inl ⟨rfl, ?_⟩; rw [oSl_t hs0]; unfold oVe; rw [hv0, if_pos rfl, oRn_s hat]; rw [if_neg h9.2, h9.1]) | (rw [rHoldsFor_f] at c18; have h9 := from_out hw c18; rw [mTurn_eq hw] at *; rw [if_pos (Int32.not_le.mp c42)] at h9; exact mAg.x 2 xNSE rfl (by decide) rfl (by rw [oSl_t hs0]; unfold oVe; rw [hv0, if_pos rfl, oRn_s hat]; rw [if_pos h9])) | (rw [rHoldsFor_f] at c18; have h9 := from_out hw c18; rw [mTurn_eq hw] at *; rw [if_neg (Int32.not_lt.mpr c42)] at h9; refine Or.inl ⟨rfl, ?_⟩; rw [oSl_t hs0]; unfold oVe; rw [hv0, if_pos rfl, oRn_s hat]; rw [if_neg h9.2, h9.1]) | fail "rl")
        · exact absurd c53 (by decide)
      · exact absurd (okVer_hi hv0) c42
  · have c6 := jb0F c6
    refine J_iconst (x := 0) dX8_from_9 (by decide) ?_
    exact J_iret (ty := .int) dX8_from_10 rfl (rfl) (by refine ⟨?_, (hA).si rfl, (mFr.rf).si ⟨by omega, by omega⟩, _, rfl⟩; simp only [ji_Si, and_self, if_true, reduceIte, reduceCtorEq, and_false, if_false, Nat.reduceEqDiff]; first | exact mF2_x (of_decide_eq_true c6) | (rw [rHoldsFor_f] at c18; refine Or.inl ⟨rfl, ?_⟩; rw [oSl_t hs0]; unfold oVe; rw [hv0, if_pos rfl, oRn_s hat]; rw [from_in c18, if_neg (okVer_m1 hv0)]) | (rw [rHoldsFor_f] at c18; have h9 := from_out hw c18; rw [mTurn_eq hw] at *; rw [if_pos c42] at h9; exact mAg.x 2 xNSE rfl (by decide) rfl (by rw [oSl_t hs0]; unfold oVe; rw [hv0, if_pos rfl, oRn_s hat]; rw [if_pos h9])) | (rw [rHoldsFor_f] at c18; have h9 := from_out hw c18; rw [mTurn_eq hw] at *; rw [if_neg c42] at h9; refine Or.inl ⟨rfl, ?_⟩; rw [oSl_t hs0]; unfold oVe; rw [hv0, if_pos rfl, oRn_s hat]; rw [if_neg h9.2, h9.1]) | (rw [rHoldsFor_f] at c18; have h9 := from_out hw c18; rw [mTurn_eq hw] at *; rw [if_pos (Int32.not_le.mp c42)] at h9; exact mAg.x 2 xNSE rfl (by decide) rfl (by rw [oSl_t hs0]; unfold oVe; rw [hv0, if_pos rfl, oRn_s hat]; rw [if_pos h9])) | (rw [rHoldsFor_f] at c18; have h9 := from_out hw c18; rw [mTurn_eq hw] at *; rw [if_neg (Int32.not_lt.mpr c42)] at h9; refine Or.inl ⟨rfl, ?_⟩; rw [oSl_t hs0]; unfold oVe; rw [hv0, if_pos rfl, oRn_s hat]; rw [if_neg h9.2, h9.1]) | fail "rl")

theorem dX8_published_0 : decode cX8_published 0 = .ok (.aload_n 0, 1) := by decide +kernel
theorem dX8_published_1 : decode cX8_published 1 = .ok (.iload_n 1, 1) := by decide +kernel
theorem dX8_published_2 : decode cX8_published 2 = .ok (.ifCond .lt 19, 3) := by decide +kernel
theorem dX8_published_21 : decode cX8_published 21 = .ok (.iconst 1, 1) := by decide +kernel
theorem dX8_published_22 : decode cX8_published 22 = .ok (.invokevirtual 148, 3) := by decide +kernel
set_option maxRecDepth 20000 in
theorem ggX8_published_X8_fails : GoodIn wsX8_published wsX8_fails := goodIn_r _ [6, 7, 8, 9, 10, 11, 12, 13, 14, 15, 16, 17, 18, 19, 20, 21, 22, 23, 24, 25, 26, 27, 28, 29, 30, 31, 32, 33, 34, 35, 36, 37, 38] (by decide +kernel) (by decide +kernel)
set_option maxRecDepth 20000 in
theorem gX8_published_X8_fails : GoodIn wsX8_published (wsV RX8 148 RX8 yX8_fails wsX8_fails) := goodIn_app (goodIn_of _ (by decide +kernel)) ggX8_published_X8_fails
theorem dX8_published_25 : decode cX8_published 25 = .ok (.ifCond .eq 7, 3) := by decide +kernel
theorem dX8_published_28 : decode cX8_published 28 = .ok (.iconst 0, 1) := by decide +kernel
theorem dX8_published_29 : decode cX8_published 29 = .ok (.goto 13, 3) := by decide +kernel
theorem dX8_published_42 : decode cX8_published 42 = .ok (.ireturn, 1) := by decide +kernel
theorem dX8_published_5 : decode cX8_published 5 = .ok (.iload_n 1, 1) := by decide +kernel
theorem dX8_published_6 : decode cX8_published 6 = .ok (.aload_n 0, 1) := by decide +kernel
theorem dX8_published_7 : decode cX8_published 7 = .ok (.getfield 9, 3) := by decide +kernel
theorem dX8_published_10 : decode cX8_published 10 = .ok (.sipush 396, 3) := by decide +kernel
theorem dX8_published_13 : decode cX8_published 13 = .ok (.iaload, 1) := by decide +kernel
theorem dX8_published_14 : decode cX8_published 14 = .ok (.if_icmp .ge 7, 3) := by decide +kernel
theorem dX8_published_17 : decode cX8_published 17 = .ok (.iconst 0, 1) := by decide +kernel
theorem dX8_published_18 : decode cX8_published 18 = .ok (.goto 4, 3) := by decide +kernel
theorem dX8_published_32 : decode cX8_published 32 = .ok (.aload_n 0, 1) := by decide +kernel
theorem dX8_published_33 : decode cX8_published 33 = .ok (.getfield 9, 3) := by decide +kernel
theorem dX8_published_36 : decode cX8_published 36 = .ok (.sipush 397, 3) := by decide +kernel
theorem dX8_published_39 : decode cX8_published 39 = .ok (.iload_n 1, 1) := by decide +kernel
theorem dX8_published_40 : decode cX8_published 40 = .ok (.iadd, 1) := by decide +kernel
theorem dX8_published_41 : decode cX8_published 41 = .ok (.iaload, 1) := by decide +kernel
set_option maxHeartbeats 400000 in
set_option maxRecDepth 20000 in
theorem ct_X8_published (l : Launch) (D : va_G) (dA : Nat → ClassId) (hst : l.stackTraces = false) (M : jM) (m : Nat) (A : cA) (hA : mAb M m A) (hW : zWf (cNw A))(y : Int32) : jCT l D dA yX8_published wsX8_published (22) (420) (0) (0) 1 [.ref (m), .int (y)] M (mRl M m [xNSE] (oPb A y) A) := by
  refine jBody (cc := cX8_published) (nL := 2) (rt := (some .int)) (ini := false) (by decide) rfl hst (Nat.le_of_ble_eq_true rfl) (by simp [Value.category]) (by intro h9; first | exact absurd h9 (by decide) | rfl) ?_
  show J l D dA RX8 cX8_published wsX8_published 2 false (some .int) [] (22) (420) (jF D dA (jn M) (mRl M m [xNSE] (oPb A y) A) 1) (jn M) (0) (0) (M) 0 [.ref (m), .int (y)] []
  obtain ⟨hM, hz, ⟨hKn, hK8, hKs⟩, ⟨hHs, hHz⟩, ⟨hLn, hL6, hLc⟩, hFl, ⟨hRs, hRp⟩, hCh⟩ := id hA
  obtain ⟨m1, m2, ⟨r1, r2, r3, r4, r5, r6, r7, r8, r9, r10, r11, r12, r13⟩, ⟨k1, k2, k3, k4, k5, k6, k7, k8, k9, k10, k11, k12, k13⟩, z1, z2, z3, z4, z5, z6, z7, z8, z9, z10, z11, z12, z13⟩ := id hM
  have hc30 := hz.2.2.1
  refine J_aload_n (m) dX8_published_0 rfl rfl ?_
  refine J_iload_n dX8_published_1 rfl rfl ?_
  refine J_if_lt dX8_published_2 (tgt := 21) (by decide) (fun c2 => ?_) (fun c2 => ?_)
  · refine J_iconst (x := 1) dX8_published_21 (by decide) ?_
    refine J_calli0 (jrunV (As := [.int (1)]) (ct_X8_fails l D dA hst M m hM ((1))) dX8_published_22 yY_X8_fails gX8_published_X8_fails rfl cs11 (show m < jn M from by omega) m2 rfl ⟨by omega, by omega⟩ ⟨Nat.zero_le _, Nat.zero_le _⟩ rfl (Nat.le_of_ble_eq_true rfl)) (rfl) (rfl) ?_
    refine J_if_eq dX8_published_25 (tgt := 32) (by decide) (fun c25 => ?_) (fun c25 => ?_)
    · exact absurd c25 (by decide)
    · have c25 := jeqF (a := 1) (b := 0) (by omega) (by omega) c25
      refine J_iconst (x := 0) dX8_published_28 (by decide) ?_
      refine J_goto (tgt := 42) dX8_published_29 (by decide) ?_
      exact J_iret (ty := .int) dX8_published_42 rfl (rfl) (by refine ⟨?_, (hA).si rfl, (mFr.rf).si ⟨by omega, by omega⟩, _, rfl⟩; simp only [ji_Si, and_self, if_true, reduceIte, reduceCtorEq, and_false, if_false, Nat.reduceEqDiff]; first | exact mAg.x 0 xNSE rfl (by decide) rfl (by unfold oPb; rw [if_pos c2]) | exact mAg.x 0 xNSE rfl (by decide) rfl (by unfold oPb; rw [if_neg (nI_pos (by omega)), if_neg (nI_nlt (by omega) (by omega))]) | (refine Or.inl ⟨rfl, ?_⟩; unfold oPb; rw [if_neg (nI_pos (by omega)), if_pos (nI_lt (by omega) (by omega)), nI_clamp (by omega)]) | fail "rl")
  · obtain ⟨q, hq31, rfl⟩ := nI_of c2
    refine J_iload_n dX8_published_5 rfl rfl ?_
    refine J_aload_n (m) dX8_published_6 rfl rfl ?_
    refine J_getrs (q := m + 1) r1 dX8_published_7 (fun _ h => List.mem_cons_of_mem _ (List.mem_append_left _ (List.mem_append_right _ (h)))) cs11 (by decide) rfl (List.mem_of_getElem? (i := 1) rfl) rfl (show m < jn M from by omega) m2 ?_
    refine J_sipush (x := 396) dX8_published_10 (by decide) ?_
    refine J_ialdN (k := 396) dX8_published_13 (show m + 1 < jn M from by omega) k1 (by exact Nat.lt_of_lt_of_eq (show _ < 427 by omega) (Eq.symm z1)) (by exact Nat.lt_of_le_of_lt (Nat.le_of_eq z1) (show 427 < 2 ^ 31 by omega)) ?_
    refine J_topi (y := nI ((cNw A).2.1)) (by exact hz.2.1) ?_
    refine J_icmp_ge dX8_published_14 (tgt := 21) (by decide) (fun c14 => ?_) (fun c14 => ?_)
    · have c14 := jleT (a := (cNw A).2.1) (b := q) (by omega) (by omega) c14
      refine J_iconst (x := 1) dX8_published_21 (by decide) ?_
      refine J_calli0 (jrunV (As := [.int (1)]) (ct_X8_fails l D dA hst M m hM ((1))) dX8_published_22 yY_X8_fails gX8_published_X8_fails rfl cs11 (show m < jn M from by omega) m2 rfl ⟨by omega, by omega⟩ ⟨Nat.zero_le _, Nat.zero_le _⟩ rfl (Nat.le_of_ble_eq_true rfl)) (rfl) (rfl) ?_
      refine J_if_eq dX8_published_25 (tgt := 32) (by decide) (fun c25 => ?_) (fun c25 => ?_)
      · exact absurd c25 (by decide)
      · have c25 := jeqF (a := 1) (b := 0) (by omega) (by omega) c25
        refine J_iconst (x := 0) dX8_published_28 (by decide) ?_
        refine J_goto (tgt := 42) dX8_published_29 (by decide) ?_
        exact J_iret (ty := .int) dX8_published_42 rfl (rfl) (by refine ⟨?_, (hA).si rfl, (mFr.rf).si ⟨by omega, by omega⟩, _, rfl⟩; simp only [ji_Si, and_self, if_true, reduceIte, reduceCtorEq, and_false, if_false, Nat.reduceEqDiff]; first | exact mAg.x 0 xNSE rfl (by decide) rfl (by unfold oPb; rw [if_pos c2]) | exact mAg.x 0 xNSE rfl (by decide) rfl (by unfold oPb; rw [if_neg (nI_pos (by omega)), if_neg (nI_nlt (by omega) (by omega))]) | (refine Or.inl ⟨rfl, ?_⟩; unfold oPb; rw [if_neg (nI_pos (by omega)), if_pos (nI_lt (by omega) (by omega)), nI_clamp (by omega)]) | fail "rl")
    · have c14 := jleF (a := (cNw A).2.1) (b := q) (by omega) (by omega) c14
      refine J_iconst (x := 0) dX8_published_17 (by decide) ?_
      refine J_goto (tgt := 22) dX8_published_18 (by decide) ?_
      refine J_calli0 (jrunV (As := [.int (0)]) (ct_X8_fails l D dA hst M m hM ((0))) dX8_published_22 yY_X8_fails gX8_published_X8_fails rfl cs11 (show m < jn M from by omega) m2 rfl ⟨by omega, by omega⟩ ⟨Nat.zero_le _, Nat.zero_le _⟩ rfl (Nat.le_of_ble_eq_true rfl)) (rfl) (rfl) ?_
      refine J_if_eq dX8_published_25 (tgt := 32) (by decide) (fun c25 => ?_) (fun c25 => ?_)
      · have c25 := jeqT (a := 0) (b := 0) (by omega) (by omega) c25
        refine J_aload_n (m) dX8_published_32 rfl rfl ?_
        refine J_getrs (q := m + 1) r1 dX8_published_33 (fun _ h => List.mem_cons_of_mem _ (List.mem_append_left _ (List.mem_append_right _ (h)))) cs11 (by decide) rfl (List.mem_of_getElem? (i := 1) rfl) rfl (show m < jn M from by omega) m2 ?_
        refine J_sipush (x := 397) dX8_published_36 (by decide) ?_
        refine J_iload_n dX8_published_39 rfl rfl ?_
        refine J_iadd dX8_published_40 ?_
        refine J_topi (y := nI (397 + q)) (nI_add (397) (q)) ?_
        refine J_ialdN (k := 397 + q) dX8_published_41 (show m + 1 < jn M from by omega) k1 (by exact Nat.lt_of_lt_of_eq (show _ < 427 by omega) (Eq.symm z1)) (by exact Nat.lt_of_le_of_lt (Nat.le_of_eq z1) (show 427 < 2 ^ 31 by omega)) ?_
        refine J_topi (y := (cNw A).2.2 q) (by rw [ji_Sin (by omega)]; exact hz.2.2.2 q (by omega)) ?_
        exact J_iret (ty := .int) dX8_published_42 rfl (rfl) (by refine ⟨?_, (hA).si rfl, (mFr.rf).si ⟨by omega, by omega⟩, _, rfl⟩; simp only [ji_Si, and_self, if_true, reduceIte, reduceCtorEq, and_false, if_false, Nat.reduceEqDiff]; first | exact mAg.x 0 xNSE rfl (by decide) rfl (by unfold oPb; rw [if_pos c2]) | exact mAg.x 0 xNSE rfl (by decide) rfl (by unfold oPb; rw [if_neg (nI_pos (by omega)), if_neg (nI_nlt (by omega) (by omega))]) | (refine Or.inl ⟨rfl, ?_⟩; unfold oPb; rw [if_neg (nI_pos (by omega)), if_pos (nI_lt (by omega) (by omega)), nI_clamp (by omega)]) | fail "rl")
      · exact absurd c25 (by decide)

theorem dX8_refusal_0 : decode cX8_refusal 0 = .ok (.aload_n 0, 1) := by decide +kernel
theorem dX8_refusal_1 : decode cX8_refusal 1 = .ok (.aload_n 0, 1) := by decide +kernel
theorem dX8_refusal_2 : decode cX8_refusal 2 = .ok (.getfield 160, 3) := by decide +kernel
theorem dX8_refusal_5 : decode cX8_refusal 5 = .ok (.ifCond .le 7, 3) := by decide +kernel
theorem dX8_refusal_12 : decode cX8_refusal 12 = .ok (.iconst 1, 1) := by decide +kernel
theorem dX8_refusal_13 : decode cX8_refusal 13 = .ok (.invokevirtual 148, 3) := by decide +kernel
set_option maxRecDepth 20000 in
theorem ggX8_refusal_X8_fails : GoodIn wsX8_refusal wsX8_fails := goodIn_r _ [6, 7, 8, 9, 10, 11, 12, 13, 14, 15, 16, 17, 18, 19, 20, 21, 22, 23, 24, 25, 26, 27, 28, 29, 30, 31, 32, 33, 34, 35, 36, 37, 38] (by decide +kernel) (by decide +kernel)
set_option maxRecDepth 20000 in
theorem gX8_refusal_X8_fails : GoodIn wsX8_refusal (wsV RX8 148 RX8 yX8_fails wsX8_fails) := goodIn_app (goodIn_of _ (by decide +kernel)) ggX8_refusal_X8_fails
theorem dX8_refusal_16 : decode cX8_refusal 16 = .ok (.ifCond .eq 7, 3) := by decide +kernel
theorem dX8_refusal_19 : decode cX8_refusal 19 = .ok (.iconst 0, 1) := by decide +kernel
theorem dX8_refusal_20 : decode cX8_refusal 20 = .ok (.goto 7, 3) := by decide +kernel
theorem dX8_refusal_27 : decode cX8_refusal 27 = .ok (.ireturn, 1) := by decide +kernel
theorem dX8_refusal_8 : decode cX8_refusal 8 = .ok (.iconst 0, 1) := by decide +kernel
theorem dX8_refusal_9 : decode cX8_refusal 9 = .ok (.goto 4, 3) := by decide +kernel
theorem dX8_refusal_23 : decode cX8_refusal 23 = .ok (.aload_n 0, 1) := by decide +kernel
theorem dX8_refusal_24 : decode cX8_refusal 24 = .ok (.getfield 160, 3) := by decide +kernel
set_option maxHeartbeats 400000 in
set_option maxRecDepth 20000 in
theorem ct_X8_refusal (l : Launch) (D : va_G) (dA : Nat → ClassId) (hst : l.stackTraces = false) (M : jM) (m : Nat) (A : cA) (hA : mAb M m A) (hW : zWf (cNw A)) : jCT l D dA yX8_refusal wsX8_refusal (22) (420) (0) (0) 1 [.ref (m)] M (mRl M m [xNSE] (oRf A) A) := by
  refine jBody (cc := cX8_refusal) (nL := 1) (rt := (some .int)) (ini := false) (by decide) rfl hst (Nat.le_of_ble_eq_true rfl) (by simp [Value.category]) (by intro h9; first | exact absurd h9 (by decide) | rfl) ?_
  show J l D dA RX8 cX8_refusal wsX8_refusal 1 false (some .int) [] (22) (420) (jF D dA (jn M) (mRl M m [xNSE] (oRf A) A) 1) (jn M) (0) (0) (M) 0 [.ref (m)] []
  obtain ⟨hM, hz, ⟨hKn, hK8, hKs⟩, ⟨hHs, hHz⟩, ⟨hLn, hL6, hLc⟩, hFl, ⟨hRs, hRp⟩, hCh⟩ := id hA
  obtain ⟨m1, m2, ⟨r1, r2, r3, r4, r5, r6, r7, r8, r9, r10, r11, r12, r13⟩, ⟨k1, k2, k3, k4, k5, k6, k7, k8, k9, k10, k11, k12, k13⟩, z1, z2, z3, z4, z5, z6, z7, z8, z9, z10, z11, z12, z13⟩ := id hM
  refine J_aload_n (m) dX8_refusal_0 rfl rfl ?_
  refine J_aload_n (m) dX8_refusal_1 rfl rfl ?_
  refine J_geti (j := 8) dX8_refusal_2 (fun _ h => List.mem_cons_of_mem _ (List.mem_append_right _ (h))) cs11 (by decide) rfl (List.mem_of_getElem? (i := 1) rfl) rfl (show m < jn M from by omega) m2 ?_
  refine J_topi (y := ((if cRs A = -1 then 0 else cRs A))) (hRs) ?_
  refine J_if_le dX8_refusal_5 (tgt := 12) (by decide) (fun c5 => ?_) (fun c5 => ?_)
  · refine J_iconst (x := 1) dX8_refusal_12 (by decide) ?_
    refine J_calli0 (jrunV (As := [.int (1)]) (ct_X8_fails l D dA hst M m hM ((1))) dX8_refusal_13 yY_X8_fails gX8_refusal_X8_fails rfl cs11 (show m < jn M from by omega) m2 rfl ⟨by omega, by omega⟩ ⟨Nat.zero_le _, Nat.zero_le _⟩ rfl (Nat.le_of_ble_eq_true rfl)) (rfl) (rfl) ?_
    refine J_if_eq dX8_refusal_16 (tgt := 23) (by decide) (fun c16 => ?_) (fun c16 => ?_)
    · exact absurd c16 (by decide)
    · have c16 := jeqF (a := 1) (b := 0) (by omega) (by omega) c16
      refine J_iconst (x := 0) dX8_refusal_19 (by decide) ?_
      refine J_goto (tgt := 27) dX8_refusal_20 (by decide) ?_
      exact J_iret (ty := .int) dX8_refusal_27 rfl (rfl) (by refine ⟨?_, (hA).si rfl, (mFr.rf).si ⟨by omega, by omega⟩, _, rfl⟩; simp only [ji_Si, and_self, if_true, reduceIte, reduceCtorEq, and_false, if_false, Nat.reduceEqDiff]; first | exact mAg.x 0 xNSE rfl (by decide) rfl (by unfold oRf; rw [if_pos (rs_0 hRp c5)]) | (refine Or.inl ⟨rfl, ?_⟩; unfold oRf; rw [if_neg (rs_1 c5), if_neg (rs_1 c5)]) | fail "rl")
  · refine J_iconst (x := 0) dX8_refusal_8 (by decide) ?_
    refine J_goto (tgt := 13) dX8_refusal_9 (by decide) ?_
    refine J_calli0 (jrunV (As := [.int (0)]) (ct_X8_fails l D dA hst M m hM ((0))) dX8_refusal_13 yY_X8_fails gX8_refusal_X8_fails rfl cs11 (show m < jn M from by omega) m2 rfl ⟨by omega, by omega⟩ ⟨Nat.zero_le _, Nat.zero_le _⟩ rfl (Nat.le_of_ble_eq_true rfl)) (rfl) (rfl) ?_
    refine J_if_eq dX8_refusal_16 (tgt := 23) (by decide) (fun c16 => ?_) (fun c16 => ?_)
    · have c16 := jeqT (a := 0) (b := 0) (by omega) (by omega) c16
      refine J_aload_n (m) dX8_refusal_23 rfl rfl ?_
      refine J_geti (j := 8) dX8_refusal_24 (fun _ h => List.mem_cons_of_mem _ (List.mem_append_right _ (h))) cs11 (by decide) rfl (List.mem_of_getElem? (i := 1) rfl) rfl (show m < jn M from by omega) m2 ?_
      refine J_topi (y := ((if cRs A = -1 then 0 else cRs A))) (((ji_Sik (show 8 ≠ 11 by decide)).trans hRs)) ?_
      exact J_iret (ty := .int) dX8_refusal_27 rfl (rfl) (by refine ⟨?_, (hA).si rfl, (mFr.rf).si ⟨by omega, by omega⟩, _, rfl⟩; simp only [ji_Si, and_self, if_true, reduceIte, reduceCtorEq, and_false, if_false, Nat.reduceEqDiff]; first | exact mAg.x 0 xNSE rfl (by decide) rfl (by unfold oRf; rw [if_pos (rs_0 hRp c5)]) | (refine Or.inl ⟨rfl, ?_⟩; unfold oRf; rw [if_neg (rs_1 c5), if_neg (rs_1 c5)]) | fail "rl")
    · exact absurd c16 (by decide)

