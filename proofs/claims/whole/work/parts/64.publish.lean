theorem jfind_spec (p : Nat → Bool) : ∀ f i, (∀ j, i ≤ j → j < jfind p f i → p j = false) ∧ (jfind p f i < i + f → p (jfind p f i) = true) := by
  intro f
  induction f with
  | zero => intro i; exact ⟨fun j h1 h2 => absurd (Nat.lt_of_le_of_lt h1 h2) (Nat.lt_irrefl _), fun h => absurd h (Nat.lt_irrefl _)⟩
  | succ f ih =>
    intro i
    unfold jfind
    by_cases hp : p i = true
    · rw [if_pos hp]
      exact ⟨fun j h1 h2 => absurd (Nat.lt_of_le_of_lt h1 h2) (Nat.lt_irrefl _), fun _ => hp⟩
    · rw [if_neg hp]
      obtain ⟨a, b⟩ := ih (i + 1)
      refine ⟨fun j h1 h2 => ?_, fun h => b (by omega)⟩
      rcases Nat.eq_or_lt_of_le h1 with rfl | h3
      · exact (Bool.not_eq_true _).mp hp
      · exact a j h3 h2
theorem jfind_is {p : Nat → Bool} {n k : Nat} (h1 : ∀ j, j < k → p j = false) (h2 : k < n → p k = true) (h3 : k ≤ n) : jfind p n 0 = k := by
  obtain ⟨a, b⟩ := jfind_spec p n 0
  have hl := jfind_le p n 0
  rcases Nat.lt_trichotomy (jfind p n 0) k with h | h | h
  · exact absurd ((h1 _ h).symm.trans (b (by omega))) (by decide)
  · exact h
  · exact absurd ((a k (Nat.zero_le _) h).symm.trans (h2 (by omega))) (by decide)
def pSo (f : Nat → Int32) (n : Nat) : Prop := ∀ i, i + 1 < n → f i < f (i + 1)
theorem pSo.lt {f : Nat → Int32} {n : Nat} (h : pSo f n) : ∀ d i, i + d + 1 < n → f i < f (i + d + 1) := by
  intro d
  induction d with
  | zero => intro i hi; exact h i hi
  | succ d ih => intro i hi; exact Int32.lt_trans (ih i (by omega)) (h (i + d + 1) hi)
theorem pSo.lt2 {f : Nat → Int32} {n : Nat} (h : pSo f n) {i j : Nat} (hij : i < j) (hj : j < n) : f i < f j := by
  have := h.lt (j - i - 1) i (by omega)
  rwa [show i + (j - i - 1) + 1 = j from by omega] at this
theorem stPlace_is {f : Nat → Int32} {n k : Nat} {x : Int32} (h1 : ∀ j, j < k → f j < x) (h2 : k < n → x ≤ f k) (h3 : k ≤ n) : stPlace f n x = k :=
  jfind_is (fun j hj => decide_eq_false (Int32.not_le.mpr (h1 j hj))) (fun h => decide_eq_true (h2 h)) h3
theorem mPl_f {f : Nat → Int32} {n : Nat} {x : Int32} (hn : n < 2 ^ 31) (h : mPl f x n < 0) : ∀ j, j < n → f j ≠ x := by
  intro j hj e
  obtain ⟨a, b⟩ := jfind_spec (fun k => decide (f k = x)) n 0
  unfold mPl at h
  by_cases h2 : jfind (fun k => decide (f k = x)) n 0 < n
  · rw [if_pos h2] at h; exact nI_pos (by omega) h
  · exact absurd ((a j (Nat.zero_le _) (by omega)).symm.trans (decide_eq_true e)) (by decide)
theorem mPl_t {f : Nat → Int32} {n : Nat} {x : Int32} (h : ¬ mPl f x n < 0) : ∃ k, k < n ∧ f k = x ∧ mPl f x n = nI k := by
  obtain ⟨a, b⟩ := jfind_spec (fun k => decide (f k = x)) n 0
  unfold mPl at h ⊢
  by_cases h2 : jfind (fun k => decide (f k = x)) n 0 < n
  · rw [if_pos h2]; exact ⟨_, h2, of_decide_eq_true (b (by omega)), rfl⟩
  · rw [if_neg h2] at h; exact absurd (by decide) h
theorem isP_f {z : cSt} {x : Int32} (hx : x ≠ -1) (h : ∀ j, j < z.2.1 → z.2.2 j ≠ x) : cIsP z x = false := by
  unfold cIsP stAt
  refine decide_eq_false (fun h2 => ?_)
  split at h2
  · rename_i h3; exact h _ h3 h2
  · exact hx h2.symm
theorem place_at {z : cSt} {x : Int32} {k : Nat} (hs : pSo z.2.2 z.2.1) (hk : k < z.2.1) (h : z.2.2 k = x) : stPlace z.2.2 z.2.1 x = k :=
  stPlace_is (fun j hj => by rw [← h]; exact hs.lt2 hj hk) (fun _ => by rw [h]; exact Int32.le_refl _) (by omega)
theorem isP_t {z : cSt} {x : Int32} {k : Nat} (hs : pSo z.2.2 z.2.1) (hk : k < z.2.1) (h : z.2.2 k = x) : cIsP z x = true := by
  unfold cIsP stAt
  rw [place_at hs hk h, if_pos hk]
  exact decide_eq_true h
theorem mAb.row {K : jM} {m : Nat} {B : cA} {z : cSt} {R : Nat → Int32} (h : mAb K m B) (hR : mSt R 0 z) : mAb (jSv K (m + 1) R) m (cNwS B z) := by
  have e : ∀ a, a ≠ m + 1 → ji (jSv K (m + 1) R) a = ji K a := fun a ha => funext fun j => ji_Svn ha
  refine h.upd h.1 rfl rfl rfl rfl (e _ (by omega)) (e _ (by omega)) (fun k _ _ _ => by rw [e _ (by omega)]) ?_ ?_ ?_
  · have e1 : ji (jSv K (m + 1) R) (m + 1) = R := funext fun j => by rw [ji_Sv, if_pos rfl]
    rw [e1]; exact hR
  · rw [e m (by omega), e (m + 2) (by omega)]; exact h.2.2.1
  · rw [e m (by omega), e (m + 3) (by omega)]; exact h.2.2.2.1
theorem mAb.ref {M : jM} {m : Nat} {A : cA} {k : Int32} (h : mAb M m A) (hk : 0 < k) : mAb (jSi (jSi M m 8 k) m 11 2) m (cRef A k) := by
  obtain ⟨a1, a2, a3, a4, a5, a6, a7, a8⟩ := h
  have hR : ∀ a, a ≠ m → ji (jSi (jSi M m 8 k) m 11 2) a = ji M a := fun a ha => funext fun j => by rw [ji_Sin ha, ji_Sin ha]
  have hS : ∀ f, f ≠ 8 → f ≠ 11 → ji (jSi (jSi M m 8 k) m 11 2) m f = ji M m f := fun f h8 h11 => by rw [ji_Sik h11, ji_Sik h8]
  have hC : mCh (jSi (jSi M m 8 k) m 11 2) m (cCh A) := by
    cases hc : cCh A with
    | none => rw [hc] at a8; exact (hS 10 (by decide) (by decide)).trans a8
    | some w => rw [hc] at a8; exact ⟨(hS 10 (by decide) (by decide)).trans a8.1, a8.2.1, fun j hj => by rw [hR (m + 5) (by omega)]; exact a8.2.2 j hj⟩
  refine ⟨a1, ?_, ?_, ?_, ?_, ?_, ?_, hC⟩
  · rw [hR (m + 1) (by omega)]; exact a2
  · rw [hR (m + 2) (by omega), hS 4 (by decide) (by decide)]; exact a3
  · rw [hR (m + 3) (by omega), hS 3 (by decide) (by decide)]; exact a4
  · rw [hR (m + 4) (by omega), hS 6 (by decide) (by decide)]; exact a5
  · rw [hS 7 (by decide) (by decide)]; exact a6
  · have h1 : k ≠ -1 := fun e => by rw [e] at hk; exact absurd hk (by decide)
    rw [ji_Sik (by decide), ji_Sis]
    exact ⟨(if_neg h1).symm, Or.inr hk⟩
/-- the published moved up behind a place, down onto a place -/
def mShf (f : Nat → Int32) (p c : Nat) : Nat → Int32 := fun j => if 397 + p < j ∧ j ≤ 397 + c then f (j - 1) else f j
theorem mShf_c {f : Nat → Int32} {c : Nat} : mShf f c c = f := funext fun j => by unfold mShf; rw [if_neg (by omega)]
theorem mShf_s {f : Nat → Int32} {p c : Nat} (h0 : 0 < p) (h : p ≤ c) : (fun j => if j = 397 + p then f (397 + (p - 1)) else mShf f p c j) = mShf f (p - 1) c := funext fun j => by
  unfold mShf
  by_cases e : j = 397 + p
  · subst e; rw [if_pos rfl, if_pos (by omega)]; congr 1; omega
  · rw [if_neg e]
    by_cases e2 : 397 + p < j ∧ j ≤ 397 + c
    · rw [if_pos e2, if_pos (by omega)]
    · rw [if_neg e2, if_neg (by omega)]
theorem mShf_at {f : Nat → Int32} {p c : Nat} {j : Nat} (h : j ≤ 397 + p) : mShf f p c j = f j := by unfold mShf; rw [if_neg (by omega)]
def pubR (f : Nat → Int32) (p c : Nat) (y : Int32) : Nat → Int32 := fun j => if j = 396 then nI (c + 1) else if j = 397 + p then y else mShf f p c j
theorem pubR_st {f : Nat → Int32} {p : Nat} {y : Int32} {z : cSt} (h : mSt f 0 z) (hp : p ≤ z.2.1) (hc : z.2.1 < 30) : mSt (pubR f p z.2.1 y) 0 (z.1, z.2.1 + 1, cIns z.2.2 p y) := by
  obtain ⟨a, b, c, d⟩ := h
  simp only [Nat.zero_add] at a b d
  refine ⟨fun j hj => ?_, ?_, hc, fun i hi => ?_⟩
  · rw [Nat.zero_add]
    refine (a j hj).cong (fun i hi => ?_)
    unfold pubR mShf
    rw [if_neg (by omega), if_neg (by omega), if_neg (by omega)]
  · unfold pubR; rw [if_pos (by omega)]
  · have hi2 : i < z.2.1 + 1 := hi
    show pubR f p z.2.1 y (0 + 397 + i) = if i < p then z.2.2 i else if i = p then y else z.2.2 (i - 1)
    unfold pubR
    rw [if_neg (by omega)]
    by_cases e : i = p
    · rw [if_pos (by omega), if_neg (by omega), if_pos e]
    · rw [if_neg (by omega)]
      unfold mShf
      by_cases e2 : i < p
      · rw [if_neg (by omega), if_pos e2, Nat.zero_add]; exact d i (by omega)
      · rw [if_pos (by omega), if_neg e2, if_neg e, ← d (i - 1) (by omega)]; congr 1; omega
def mDel (f : Nat → Int32) (q k : Nat) : Nat → Int32 := fun j => if 397 + q ≤ j ∧ j < 397 + k then f (j + 1) else f j
theorem mDel_0 {f : Nat → Int32} {q : Nat} : mDel f q q = f := funext fun j => by unfold mDel; rw [if_neg (by omega)]
theorem mDel_s {f : Nat → Int32} {q k : Nat} (h : q ≤ k) : (fun j => if j = 397 + k then f (397 + k + 1) else mDel f q k j) = mDel f q (k + 1) := funext fun j => by
  unfold mDel
  by_cases e : j = 397 + k
  · subst e; rw [if_pos rfl, if_pos (by omega)]
  · rw [if_neg e]
    by_cases e2 : 397 + q ≤ j ∧ j < 397 + k
    · rw [if_pos e2, if_pos (by omega)]
    · rw [if_neg e2, if_neg (by omega)]
theorem mDel_at {f : Nat → Int32} {q k j : Nat} (h : 397 + k ≤ j) : mDel f q k j = f j := by unfold mDel; rw [if_neg (by omega)]
def wdrR (f : Nat → Int32) (q n : Nat) : Nat → Int32 := fun j => if j = 396 then nI n else if j = 397 + n then 0 else mDel f q n j
theorem wdrR_st {f : Nat → Int32} {q : Nat} {z : cSt} (h : mSt f 0 z) (hq : q < z.2.1) : mSt (wdrR f q (z.2.1 - 1)) 0 (z.1, z.2.1 - 1, cDel z.2.2 q) := by
  obtain ⟨a, b, c, d⟩ := h
  simp only [Nat.zero_add] at a b d
  refine ⟨fun j hj => ?_, ?_, (by show z.2.1 - 1 ≤ 30; omega), fun i hi => ?_⟩
  · rw [Nat.zero_add]
    refine (a j hj).cong (fun i hi => ?_)
    unfold wdrR mDel
    rw [if_neg (by omega), if_neg (by omega), if_neg (by omega)]
  · unfold wdrR; rw [if_pos (by omega)]
  · have hi2 : i < z.2.1 - 1 := hi
    show wdrR f q (z.2.1 - 1) (0 + 397 + i) = if i < q then z.2.2 i else z.2.2 (i + 1)
    unfold wdrR
    rw [if_neg (by omega), if_neg (by omega)]
    unfold mDel
    by_cases e : i < q
    · rw [if_neg (by omega), if_pos e, Nat.zero_add]; exact d i (by omega)
    · rw [if_pos (by omega), if_neg e, ← d (i + 1) (by omega)]; exact congrArg f (by omega)
theorem pub_f {A : cA} {x : Int32} (h : okVer x = false) : sPub A x = (oX xIAE, A) := by unfold sPub sVe; rw [if_neg (by rw [h]; decide)]
theorem pub_4 {A : cA} {x : Int32} (h : okVer x = true) (h2 : 30 ≤ (cNw A).2.1) : sPub A x = (oX xUOE, cRef A 4) := by unfold sPub sVe; rw [if_pos h, if_pos h2]
theorem pub_5 {A : cA} {x : Int32} (h : okVer x = true) (h2 : ¬ 30 ≤ (cNw A).2.1) (h3 : cIsP (cNw A) x = true) : sPub A x = (oX xUOE, cRef A 5) := by unfold sPub sVe; rw [if_pos h, if_neg h2, if_pos h3]
theorem pub_t {A : cA} {x : Int32} {p : Nat} (h : okVer x = true) (h2 : ¬ 30 ≤ (cNw A).2.1) (h3 : cIsP (cNw A) x = false) (h4 : stPlace (cNw A).2.2 (cNw A).2.1 x = p) : sPub A x = (oI (nI ((cNw A).2.1 + 1)), cNwS (cKeep A) ((cNw A).1, (cNw A).2.1 + 1, cIns (cNw A).2.2 p x)) := by
  unfold sPub sVe; rw [if_pos h, if_neg h2, if_neg (by rw [h3]; decide)]; unfold cPub; rw [h4]
theorem wdr_f {A : cA} {x : Int32} (h : okVer x = false) : sWdr A x = (oX xIAE, A) := by unfold sWdr sVe; rw [if_neg (by rw [h]; decide)]
theorem wdr_5 {A : cA} {x : Int32} (h : okVer x = true) (h3 : cIsP (cNw A) x = false) : sWdr A x = (oX xUOE, cRef A 5) := by unfold sWdr sVe; rw [if_pos h, if_neg (by rw [h3]; decide)]
theorem wdr_t {A : cA} {x : Int32} {p : Nat} (h : okVer x = true) (h3 : cIsP (cNw A) x = true) (h4 : stPlace (cNw A).2.2 (cNw A).2.1 x = p) : sWdr A x = (oI (nI ((cNw A).2.1 - 1)), cNwS (cKeep A) ((cNw A).1, (cNw A).2.1 - 1, cDel (cNw A).2.2 p)) := by
  unfold sWdr sVe; rw [if_pos h, if_pos h3]; unfold cWdr; rw [h4]
theorem dX8_refuses_0 : decode cX8_refuses 0 = .ok (.iload_n 1, 1) := by decide +kernel
theorem dX8_refuses_1 : decode cX8_refuses 1 = .ok (.ifCond .ne 5, 3) := by decide +kernel
theorem dX8_refuses_4 : decode cX8_refuses 4 = .ok (.iconst 0, 1) := by decide +kernel
theorem dX8_refuses_5 : decode cX8_refuses 5 = .ok (.ireturn, 1) := by decide +kernel
set_option maxHeartbeats 400000 in
set_option maxRecDepth 20000 in
theorem ct_X8_refuses_0 (l : Launch) (D : va_G) (dA : Nat → ClassId) (hst : l.stackTraces = false) (M : jM) (m : Nat) (hM : mOk M m) : jCT l D dA yX8_refuses wsX8_refuses (20) (300) (0) (0) 1 [.ref (m), .int (0)] M (jPo (oI 0) (M)) := by
  refine jBody (cc := cX8_refuses) (nL := 2) (rt := (some .boolean)) (ini := false) (by decide) rfl hst (Nat.le_of_ble_eq_true rfl) (by simp [Value.category]) (by intro h9; first | exact absurd h9 (by decide) | rfl) ?_
  show J l D dA RX8 cX8_refuses wsX8_refuses 2 false (some .boolean) [] (20) (300) (jF D dA (jn M) (jPo (oI 0) (M)) 1) (jn M) (0) (0) (M) 0 [.ref (m), .int (0)] []
  obtain ⟨m1, m2, ⟨r1, r2, r3, r4, r5, r6, r7, r8, r9, r10, r11, r12, r13⟩, ⟨k1, k2, k3, k4, k5, k6, k7, k8, k9, k10, k11, k12, k13⟩, z1, z2, z3, z4, z5, z6, z7, z8, z9, z10, z11, z12, z13⟩ := id hM
  refine J_iload_n dX8_refuses_0 rfl rfl ?_
  refine J_if_ne dX8_refuses_1 (tgt := 6) (by decide) (fun c1 => ?_) (fun c1 => ?_)
  · exact absurd c1 (by decide)
  · have c1 := jeqT (a := 0) (b := 0) (by omega) (by omega) c1
    refine J_iconst (x := 0) dX8_refuses_4 (by decide) ?_
    exact J_iret (ty := .boolean) dX8_refuses_5 rfl (by rfl) ⟨(by rfl), (by rfl)⟩

theorem dX8_refuses_6 : decode cX8_refuses 6 = .ok (.aload_n 0, 1) := by decide +kernel
theorem dX8_refuses_7 : decode cX8_refuses 7 = .ok (.iload_n 1, 1) := by decide +kernel
theorem dX8_refuses_8 : decode cX8_refuses 8 = .ok (.putfield 160, 3) := by decide +kernel
theorem dX8_refuses_11 : decode cX8_refuses 11 = .ok (.aload_n 0, 1) := by decide +kernel
theorem dX8_refuses_12 : decode cX8_refuses 12 = .ok (.iconst 2, 1) := by decide +kernel
theorem dX8_refuses_13 : decode cX8_refuses 13 = .ok (.putfield 56, 3) := by decide +kernel
theorem dX8_refuses_16 : decode cX8_refuses 16 = .ok (.iconst 1, 1) := by decide +kernel
theorem dX8_refuses_17 : decode cX8_refuses 17 = .ok (.ireturn, 1) := by decide +kernel
set_option maxHeartbeats 400000 in
set_option maxRecDepth 20000 in
theorem ct_X8_refuses_n (l : Launch) (D : va_G) (dA : Nat → ClassId) (hst : l.stackTraces = false) (M : jM) (m : Nat) (hM : mOk M m) (c : Int32) (hc : c ≠ 0) : jCT l D dA yX8_refuses wsX8_refuses (20) (300) (0) (0) 1 [.ref (m), .int (c)] M (jPo (oI 1) (jSi (jSi M m 8 c) m 11 2)) := by
  refine jBody (cc := cX8_refuses) (nL := 2) (rt := (some .boolean)) (ini := false) (by decide) rfl hst (Nat.le_of_ble_eq_true rfl) (by simp [Value.category]) (by intro h9; first | exact absurd h9 (by decide) | rfl) ?_
  show J l D dA RX8 cX8_refuses wsX8_refuses 2 false (some .boolean) [] (20) (300) (jF D dA (jn M) (jPo (oI 1) (jSi (jSi M m 8 c) m 11 2)) 1) (jn M) (0) (0) (M) 0 [.ref (m), .int (c)] []
  obtain ⟨m1, m2, ⟨r1, r2, r3, r4, r5, r6, r7, r8, r9, r10, r11, r12, r13⟩, ⟨k1, k2, k3, k4, k5, k6, k7, k8, k9, k10, k11, k12, k13⟩, z1, z2, z3, z4, z5, z6, z7, z8, z9, z10, z11, z12, z13⟩ := id hM
  refine J_iload_n dX8_refuses_0 rfl rfl ?_
  refine J_if_ne dX8_refuses_1 (tgt := 6) (by decide) (fun c1 => ?_) (fun c1 => ?_)
  · refine J_aload_n (m) dX8_refuses_6 rfl rfl ?_
    refine J_iload_n dX8_refuses_7 rfl rfl ?_
    refine J_puti (j := 8) (x := (c)) dX8_refuses_8 (fun _ h => List.mem_cons_of_mem _ (List.mem_append_right _ (h))) cs11 cty11 (by decide) rfl (List.mem_of_getElem? (i := 1) rfl) rfl rfl ⟨rfl, rfl⟩ (show m < jn M from by omega) m2 ?_
    refine J_aload_n (m) dX8_refuses_11 rfl rfl ?_
    refine J_iconst (x := 2) dX8_refuses_12 (by decide) ?_
    refine J_puti (j := 11) (x := (2)) dX8_refuses_13 (fun _ h => List.mem_cons_of_mem _ (List.mem_append_right _ (h))) cs11 cty11 (by decide) rfl (List.mem_of_getElem? (i := 2) rfl) rfl rfl ⟨rfl, rfl⟩ (show m < jn M from by omega) m2 ?_
    refine J_iconst (x := 1) dX8_refuses_16 (by decide) ?_
    exact J_iret (ty := .boolean) dX8_refuses_17 rfl (by rfl) ⟨(by rfl), (by rfl)⟩
  · exact absurd c1 hc

theorem dX8_publish_0 : decode cX8_publish 0 = .ok (.aload_n 0, 1) := by decide +kernel
theorem dX8_publish_1 : decode cX8_publish 1 = .ok (.iload_n 1, 1) := by decide +kernel
theorem dX8_publish_2 : decode cX8_publish 2 = .ok (.invokestatic 202, 3) := by decide +kernel
set_option maxRecDepth 20000 in
theorem ggX8_publish_X8_isVersion : GoodIn wsX8_publish wsX8_isVersion := goodIn_r _ [5, 6] (by decide +kernel) (by decide +kernel)
set_option maxRecDepth 20000 in
theorem gX8_publish_X8_isVersion : GoodIn wsX8_publish (va_wsS RX8 202 yX8_isVersion wsX8_isVersion) := goodIn_app (goodIn_of _ (by decide +kernel)) ggX8_publish_X8_isVersion
theorem dX8_publish_5 : decode cX8_publish 5 = .ok (.ifCond .eq 7, 3) := by decide +kernel
theorem dX8_publish_12 : decode cX8_publish 12 = .ok (.iconst 1, 1) := by decide +kernel
theorem dX8_publish_13 : decode cX8_publish 13 = .ok (.invokevirtual 148, 3) := by decide +kernel
set_option maxRecDepth 20000 in
theorem ggX8_publish_X8_fails : GoodIn wsX8_publish wsX8_fails := goodIn_r _ [10, 11, 27, 28, 29, 30, 31, 32, 33, 34, 35, 36, 37, 38, 39, 40, 41, 42, 43, 44, 45, 46, 47, 48, 49, 50, 51, 52, 53, 54, 55, 56, 57] (by decide +kernel) (by decide +kernel)
set_option maxRecDepth 20000 in
theorem gX8_publish_X8_fails : GoodIn wsX8_publish (wsV RX8 148 RX8 yX8_fails wsX8_fails) := goodIn_app (goodIn_of _ (by decide +kernel)) ggX8_publish_X8_fails
theorem dX8_publish_16 : decode cX8_publish 16 = .ok (.ifCond .ne 40, 3) := by decide +kernel
theorem dX8_publish_56 : decode cX8_publish 56 = .ok (.iconst 0, 1) := by decide +kernel
theorem dX8_publish_57 : decode cX8_publish 57 = .ok (.ireturn, 1) := by decide +kernel
theorem dX8_publish_8 : decode cX8_publish 8 = .ok (.iconst 0, 1) := by decide +kernel
theorem dX8_publish_9 : decode cX8_publish 9 = .ok (.goto 4, 3) := by decide +kernel
theorem dX8_publish_19 : decode cX8_publish 19 = .ok (.aload_n 0, 1) := by decide +kernel
theorem dX8_publish_20 : decode cX8_publish 20 = .ok (.aload_n 0, 1) := by decide +kernel
theorem dX8_publish_21 : decode cX8_publish 21 = .ok (.getfield 9, 3) := by decide +kernel
theorem dX8_publish_24 : decode cX8_publish 24 = .ok (.sipush 396, 3) := by decide +kernel
theorem dX8_publish_27 : decode cX8_publish 27 = .ok (.iaload, 1) := by decide +kernel
theorem dX8_publish_28 : decode cX8_publish 28 = .ok (.bipush 30, 2) := by decide +kernel
theorem dX8_publish_30 : decode cX8_publish 30 = .ok (.if_icmp .ne 7, 3) := by decide +kernel
theorem dX8_publish_37 : decode cX8_publish 37 = .ok (.aload_n 0, 1) := by decide +kernel
theorem dX8_publish_38 : decode cX8_publish 38 = .ok (.iload_n 1, 1) := by decide +kernel
theorem dX8_publish_39 : decode cX8_publish 39 = .ok (.invokevirtual 255, 3) := by decide +kernel
set_option maxRecDepth 20000 in
theorem ggX8_publish_X8_placeOf : GoodIn wsX8_publish wsX8_placeOf := goodIn_ca (goodIn_r _ [15, 1, 27, 28, 29, 30, 31, 32, 33, 34, 35, 36, 37, 38, 39, 40, 41, 42, 43, 44, 45, 46, 47, 48, 49, 50, 51, 52, 53, 54, 55, 56, 57] (by decide +kernel) (by decide +kernel)) (goodIn_sub (fun _ h => List.mem_cons_of_mem _ (List.mem_append_right _ h)) (by decide +kernel))
set_option maxRecDepth 20000 in
theorem gX8_publish_X8_placeOf : GoodIn wsX8_publish (wsV RX8 255 RX8 yX8_placeOf wsX8_placeOf) := goodIn_app (goodIn_of _ (by decide +kernel)) ggX8_publish_X8_placeOf
theorem yY_X8_placeOf : jY yX8_placeOf wsX8_placeOf cX8_placeOf 3 (some .int) 1 := ⟨⟨_, rfl⟩, by decide +kernel, by decide +kernel, by decide +kernel⟩
theorem dX8_publish_42 : decode cX8_publish 42 = .ok (.ifCond .lt 7, 3) := by decide +kernel
theorem dX8_publish_49 : decode cX8_publish 49 = .ok (.iconst 0, 1) := by decide +kernel
theorem dX8_publish_50 : decode cX8_publish 50 = .ok (.invokevirtual 258, 3) := by decide +kernel
set_option maxRecDepth 20000 in
theorem ggX8_publish_X8_refuses : GoodIn wsX8_publish wsX8_refuses := goodIn_r _ [19, 20, 11, 27, 28, 29, 30, 31, 32, 33, 34, 35, 36, 37, 38, 39, 40, 41, 42, 43, 44, 45, 46, 47, 48, 49, 50, 51, 52, 53, 54, 55, 56, 57] (by decide +kernel) (by decide +kernel)
set_option maxRecDepth 20000 in
theorem gX8_publish_X8_refuses : GoodIn wsX8_publish (wsV RX8 258 RX8 yX8_refuses wsX8_refuses) := goodIn_app (goodIn_of _ (by decide +kernel)) ggX8_publish_X8_refuses
theorem yY_X8_refuses : jY yX8_refuses wsX8_refuses cX8_refuses 2 (some .boolean) 1 := ⟨⟨_, rfl⟩, by decide +kernel, by decide +kernel, by decide +kernel⟩
theorem dX8_publish_53 : decode cX8_publish 53 = .ok (.ifCond .eq 5, 3) := by decide +kernel
theorem dX8_publish_58 : decode cX8_publish 58 = .ok (.aload_n 0, 1) := by decide +kernel
theorem dX8_publish_59 : decode cX8_publish 59 = .ok (.invokevirtual 79, 3) := by decide +kernel
set_option maxRecDepth 20000 in
theorem ggX8_publish_X8_changes : GoodIn wsX8_publish wsX8_changes := goodIn_ca (goodIn_r _ [24, 25, 26, 1, 27, 28, 29, 30, 31, 32, 33, 34, 35, 36, 37, 38, 39, 40, 41, 42, 43, 44, 45, 46, 47, 48, 49, 50, 51, 52, 53, 54, 55, 56, 57] (by decide +kernel) (by decide +kernel)) (goodIn_sub (fun _ h => List.mem_cons_of_mem _ (List.mem_append_right _ h)) (by decide +kernel))
set_option maxRecDepth 20000 in
theorem gX8_publish_X8_changes : GoodIn wsX8_publish (wsV RX8 79 RX8 yX8_changes wsX8_changes) := goodIn_app (goodIn_of _ (by decide +kernel)) ggX8_publish_X8_changes
theorem dX8_publish_62 : decode cX8_publish 62 = .ok (.aload_n 0, 1) := by decide +kernel
theorem dX8_publish_63 : decode cX8_publish 63 = .ok (.getfield 9, 3) := by decide +kernel
theorem dX8_publish_66 : decode cX8_publish 66 = .ok (.sipush 396, 3) := by decide +kernel
theorem dX8_publish_69 : decode cX8_publish 69 = .ok (.iaload, 1) := by decide +kernel
theorem dX8_publish_71 : decode cX8_publish 71 = .ok (.iload_n 2, 1) := by decide +kernel
theorem dX8_publish_72 : decode cX8_publish 72 = .ok (.ifCond .le 47, 3) := by decide +kernel
theorem dX8_publish_119 : decode cX8_publish 119 = .ok (.aload_n 0, 1) := by decide +kernel
theorem dX8_publish_120 : decode cX8_publish 120 = .ok (.getfield 9, 3) := by decide +kernel
theorem dX8_publish_123 : decode cX8_publish 123 = .ok (.sipush 397, 3) := by decide +kernel
theorem dX8_publish_126 : decode cX8_publish 126 = .ok (.iload_n 2, 1) := by decide +kernel
theorem dX8_publish_127 : decode cX8_publish 127 = .ok (.iadd, 1) := by decide +kernel
theorem dX8_publish_128 : decode cX8_publish 128 = .ok (.iload_n 1, 1) := by decide +kernel
theorem dX8_publish_129 : decode cX8_publish 129 = .ok (.iastore, 1) := by decide +kernel
theorem dX8_publish_130 : decode cX8_publish 130 = .ok (.aload_n 0, 1) := by decide +kernel
theorem dX8_publish_131 : decode cX8_publish 131 = .ok (.getfield 9, 3) := by decide +kernel
theorem dX8_publish_134 : decode cX8_publish 134 = .ok (.sipush 396, 3) := by decide +kernel
theorem dX8_publish_137 : decode cX8_publish 137 = .ok (.dup2, 1) := by decide +kernel
theorem dX8_publish_138 : decode cX8_publish 138 = .ok (.iaload, 1) := by decide +kernel
theorem dX8_publish_139 : decode cX8_publish 139 = .ok (.iconst 1, 1) := by decide +kernel
theorem dX8_publish_140 : decode cX8_publish 140 = .ok (.iadd, 1) := by decide +kernel
theorem dX8_publish_141 : decode cX8_publish 141 = .ok (.iastore, 1) := by decide +kernel
theorem dX8_publish_142 : decode cX8_publish 142 = .ok (.aload_n 0, 1) := by decide +kernel
theorem dX8_publish_143 : decode cX8_publish 143 = .ok (.getfield 9, 3) := by decide +kernel
theorem dX8_publish_146 : decode cX8_publish 146 = .ok (.sipush 396, 3) := by decide +kernel
theorem dX8_publish_149 : decode cX8_publish 149 = .ok (.iaload, 1) := by decide +kernel
theorem dX8_publish_150 : decode cX8_publish 150 = .ok (.ireturn, 1) := by decide +kernel
theorem dX8_publish_75 : decode cX8_publish 75 = .ok (.aload_n 0, 1) := by decide +kernel
theorem dX8_publish_76 : decode cX8_publish 76 = .ok (.getfield 9, 3) := by decide +kernel
theorem dX8_publish_79 : decode cX8_publish 79 = .ok (.sipush 397, 3) := by decide +kernel
theorem dX8_publish_82 : decode cX8_publish 82 = .ok (.iload_n 2, 1) := by decide +kernel
theorem dX8_publish_83 : decode cX8_publish 83 = .ok (.iadd, 1) := by decide +kernel
theorem dX8_publish_84 : decode cX8_publish 84 = .ok (.iconst 1, 1) := by decide +kernel
theorem dX8_publish_85 : decode cX8_publish 85 = .ok (.isub, 1) := by decide +kernel
theorem dX8_publish_86 : decode cX8_publish 86 = .ok (.iaload, 1) := by decide +kernel
theorem dX8_publish_87 : decode cX8_publish 87 = .ok (.iload_n 1, 1) := by decide +kernel
theorem dX8_publish_88 : decode cX8_publish 88 = .ok (.if_icmp .le 31, 3) := by decide +kernel
theorem dX8_publish_91 : decode cX8_publish 91 = .ok (.aload_n 0, 1) := by decide +kernel
theorem dX8_publish_92 : decode cX8_publish 92 = .ok (.getfield 9, 3) := by decide +kernel
theorem dX8_publish_95 : decode cX8_publish 95 = .ok (.sipush 397, 3) := by decide +kernel
theorem dX8_publish_98 : decode cX8_publish 98 = .ok (.iload_n 2, 1) := by decide +kernel
theorem dX8_publish_99 : decode cX8_publish 99 = .ok (.iadd, 1) := by decide +kernel
theorem dX8_publish_100 : decode cX8_publish 100 = .ok (.aload_n 0, 1) := by decide +kernel
theorem dX8_publish_101 : decode cX8_publish 101 = .ok (.getfield 9, 3) := by decide +kernel
theorem dX8_publish_104 : decode cX8_publish 104 = .ok (.sipush 397, 3) := by decide +kernel
theorem dX8_publish_107 : decode cX8_publish 107 = .ok (.iload_n 2, 1) := by decide +kernel
theorem dX8_publish_108 : decode cX8_publish 108 = .ok (.iadd, 1) := by decide +kernel
theorem dX8_publish_109 : decode cX8_publish 109 = .ok (.iconst 1, 1) := by decide +kernel
theorem dX8_publish_110 : decode cX8_publish 110 = .ok (.isub, 1) := by decide +kernel
theorem dX8_publish_111 : decode cX8_publish 111 = .ok (.iaload, 1) := by decide +kernel
theorem dX8_publish_112 : decode cX8_publish 112 = .ok (.iastore, 1) := by decide +kernel
theorem dX8_publish_113 : decode cX8_publish 113 = .ok (.iinc 2 (-1), 3) := by decide +kernel
theorem dX8_publish_116 : decode cX8_publish 116 = .ok (.goto (-45), 3) := by decide +kernel
theorem dX8_publish_70 : decode cX8_publish 70 = .ok (.istore_n 2, 1) := by decide +kernel
theorem dX8_publish_45 : decode cX8_publish 45 = .ok (.iconst 5, 1) := by decide +kernel
theorem dX8_publish_46 : decode cX8_publish 46 = .ok (.goto 4, 3) := by decide +kernel
theorem dX8_publish_33 : decode cX8_publish 33 = .ok (.iconst 4, 1) := by decide +kernel
theorem dX8_publish_34 : decode cX8_publish 34 = .ok (.goto 16, 3) := by decide +kernel
set_option maxHeartbeats 400000 in
set_option maxRecDepth 20000 in
theorem ct_X8_publish (l : Launch) (D : va_G) (dA : Nat → ClassId) (hst : l.stackTraces = false) (M : jM) (m : Nat) (A : cA) (hA : mAb M m A) (hW : zWf (cNw A)) (y : Int32) : jCT l D dA yX8_publish wsX8_publish (22) (420) (0) (0) 1 [.ref (m), .int (y)] M (mRl M m [xIAE, xUOE] (sPub A y).1 (sPub A y).2) := by
  refine jBody (cc := cX8_publish) (nL := 3) (rt := (some .int)) (ini := false) (by decide) rfl hst (Nat.le_of_ble_eq_true rfl) (by simp [Value.category]) (by intro h9; first | exact absurd h9 (by decide) | rfl) ?_
  show J l D dA RX8 cX8_publish wsX8_publish 3 false (some .int) [] (22) (420) (jF D dA (jn M) (mRl M m [xIAE, xUOE] (sPub A y).1 (sPub A y).2) 1) (jn M) (0) (0) (M) 0 [.ref (m), .int (y), .float 0] []
  obtain ⟨hM, hz, ⟨hKn, hK8, hKs⟩, ⟨hHs, hHz⟩, ⟨hLn, hL6, hLc⟩, hFl, ⟨hRs, hRp⟩, hCh⟩ := id hA
  obtain ⟨m1, m2, ⟨r1, r2, r3, r4, r5, r6, r7, r8, r9, r10, r11, r12, r13⟩, ⟨k1, k2, k3, k4, k5, k6, k7, k8, k9, k10, k11, k12, k13⟩, z1, z2, z3, z4, z5, z6, z7, z8, z9, z10, z11, z12, z13⟩ := id hM
  have hc30 := hz.2.2.1
  have hsrt : pSo (cNw A).2.2 (cNw A).2.1 := hW.2.2
  refine J_aload_n (m) dX8_publish_0 rfl rfl ?_
  refine J_iload_n dX8_publish_1 rfl rfl ?_
  refine J_calli0 (jrunS (As := [.int (y)]) (ct_X8_isVersion l D dA hst M ((y))) dX8_publish_2 yY_X8_isVersion gX8_publish_X8_isVersion rfl ⟨by omega, by omega⟩ ⟨Nat.zero_le _, Nat.zero_le _⟩ rfl (Nat.le_of_ble_eq_true rfl)) (rfl) (rfl) ?_
  refine J_if_eq dX8_publish_5 (tgt := 12) (by decide) (fun c5 => ?_) (fun c5 => ?_)
  · have c5 := jb0T c5
    refine J_iconst (x := 1) dX8_publish_12 (by decide) ?_
    refine J_calli0 (jrunV (As := [.int (1)]) (ct_X8_fails l D dA hst M m hM ((1))) dX8_publish_13 yY_X8_fails gX8_publish_X8_fails rfl cs11 (show m < jn M from by omega) m2 rfl ⟨by omega, by omega⟩ ⟨Nat.zero_le _, Nat.zero_le _⟩ rfl (Nat.le_of_ble_eq_true rfl)) (rfl) (rfl) ?_
    refine J_if_ne dX8_publish_16 (tgt := 56) (by decide) (fun c16 => ?_) (fun c16 => ?_)
    · have c16 := jeqF (a := 1) (b := 0) (by omega) (by omega) c16
      refine J_iconst (x := 0) dX8_publish_56 (by decide) ?_
      exact J_iret (ty := .int) dX8_publish_57 rfl (rfl) (by rw [pub_f c5]; exact ⟨mAg.x 0 xIAE rfl (by decide) ji_Sis rfl, (hA).si rfl, (mFr.rf).si ⟨by omega, by omega⟩, _, rfl⟩)
    · exact absurd c16 (by decide)
  · have c5 := jb0F c5
    refine J_iconst (x := 0) dX8_publish_8 (by decide) ?_
    refine J_goto (tgt := 13) dX8_publish_9 (by decide) ?_
    refine J_calli0 (jrunV (As := [.int (0)]) (ct_X8_fails l D dA hst M m hM ((0))) dX8_publish_13 yY_X8_fails gX8_publish_X8_fails rfl cs11 (show m < jn M from by omega) m2 rfl ⟨by omega, by omega⟩ ⟨Nat.zero_le _, Nat.zero_le _⟩ rfl (Nat.le_of_ble_eq_true rfl)) (rfl) (rfl) ?_
    refine J_if_ne dX8_publish_16 (tgt := 56) (by decide) (fun c16 => ?_) (fun c16 => ?_)
    · exact absurd c16 (by decide)
    · have c16 := jeqT (a := 0) (b := 0) (by omega) (by omega) c16
      refine J_aload_n (m) dX8_publish_19 rfl rfl ?_
      refine J_aload_n (m) dX8_publish_20 rfl rfl ?_
      refine J_getrs (q := m + 1) r1 dX8_publish_21 (fun _ h => List.mem_cons_of_mem _ (List.mem_append_left _ (List.mem_append_right _ (h)))) cs11 (by decide) rfl (List.mem_of_getElem? (i := 1) rfl) rfl (show m < jn M from by omega) m2 ?_
      refine J_sipush (x := 396) dX8_publish_24 (by decide) ?_
      refine J_ialdN (k := 396) dX8_publish_27 (show m + 1 < jn M from by omega) k1 (by exact Nat.lt_of_lt_of_eq (show _ < 427 by omega) (Eq.symm z1)) (by exact Nat.lt_of_le_of_lt (Nat.le_of_eq z1) (show 427 < 2 ^ 31 by omega)) ?_
      refine J_topi (y := nI ((cNw A).2.1)) (by rw [ji_Sin (by omega)]; exact hz.2.1) ?_
      refine J_bipush (x := 30) dX8_publish_28 (by decide) ?_
      refine J_icmp_ne dX8_publish_30 (tgt := 37) (by decide) (fun c30 => ?_) (fun c30 => ?_)
      · have c30 := jeqF (a := (cNw A).2.1) (b := 30) (by omega) (by omega) c30
        refine J_aload_n (m) dX8_publish_37 rfl rfl ?_
        refine J_iload_n dX8_publish_38 rfl rfl ?_
        refine J_calli0 (jrunV (As := [.int (y)]) (ct_X8_placeOf l D dA hst (jSi M m 11 ((0))) m hM (cNw A) (hz.si (by omega)) ((y))) dX8_publish_39 yY_X8_placeOf gX8_publish_X8_placeOf rfl cs11 (show m < jn M from by omega) m2 rfl ⟨by omega, by omega⟩ ⟨Nat.zero_le _, Nat.zero_le _⟩ rfl (Nat.le_of_ble_eq_true rfl)) (rfl) (rfl) ?_
        refine J_if_lt dX8_publish_42 (tgt := 49) (by decide) (fun c42 => ?_) (fun c42 => ?_)
        · refine J_iconst (x := 0) dX8_publish_49 (by decide) ?_
          refine J_calli0 (jrunV (As := [.int (0)]) (ct_X8_refuses_0 l D dA hst (jSi M m 11 ((0))) m hM) dX8_publish_50 yY_X8_refuses gX8_publish_X8_refuses rfl cs11 (show m < jn M from by omega) m2 rfl ⟨by omega, by omega⟩ ⟨Nat.zero_le _, Nat.zero_le _⟩ rfl (Nat.le_of_ble_eq_true rfl)) (rfl) (rfl) ?_
          refine J_if_eq dX8_publish_53 (tgt := 58) (by decide) (fun c53 => ?_) (fun c53 => ?_)
          · have c53 := jeqT (a := 0) (b := 0) (by omega) (by omega) c53
            refine J_aload_n (m) dX8_publish_58 rfl rfl ?_
            refine J_callv (jrunV (As := []) (ct_X8_changes l D dA hst (jSi M m 11 ((0))) m A ((hA).si rfl)) dX8_publish_59 yY_X8_changes gX8_publish_X8_changes rfl cs11 (show m < jn M from by omega) m2 rfl ⟨by omega, by omega⟩ ⟨Nat.zero_le _, Nat.zero_le _⟩ rfl (Nat.le_of_ble_eq_true rfl)) ⟨Nat.zero_le _, Nat.zero_le _⟩ (Or.inr ⟨(jOk.ref (show m < jn M from by omega) (jOk.int (jOk.float jOk.nil))), jOk.nil⟩) (fun E M9 hp _ => by cases hp.1) (fun K hp59 hle59 => ?_)
            obtain ⟨_, hB, hF1, hR1, hS1⟩ := hp59
            obtain ⟨Km1, Km2, ⟨Kr1, Kr2, Kr3, Kr4, Kr5, Kr6, Kr7, Kr8, Kr9, Kr10, Kr11, Kr12, Kr13⟩, ⟨Kk1, Kk2, Kk3, Kk4, Kk5, Kk6, Kk7, Kk8, Kk9, Kk10, Kk11, Kk12, Kk13⟩, Kz1, Kz2, Kz3, Kz4, Kz5, Kz6, Kz7, Kz8, Kz9, Kz10, Kz11, Kz12, Kz13⟩ := id hB.1
            have hzK : mSt (ji K (m + 1)) 0 (cNw A) := hB.z
            have hnp : ∀ q, q < (cNw A).2.1 → (cNw A).2.2 q ≠ y := mPl_f (by omega) c42
            refine J_aload_n (m) dX8_publish_62 rfl rfl ?_
            refine J_getrs (q := m + 1) Kr1 dX8_publish_63 (fun _ h => List.mem_cons_of_mem _ (List.mem_append_left _ (List.mem_append_right _ (h)))) cs11 (by decide) rfl (List.mem_of_getElem? (i := 1) rfl) rfl (show m < jn K from by omega) Km2 ?_
            refine J_sipush (x := 396) dX8_publish_66 (by decide) ?_
            refine J_ialdN (k := 396) dX8_publish_69 (show m + 1 < jn K from by omega) Kk1 (by exact Nat.lt_of_lt_of_eq (show _ < 427 by omega) (Eq.symm Kz1)) (by exact Nat.lt_of_le_of_lt (Nat.le_of_eq Kz1) (show 427 < 2 ^ 31 by omega)) ?_
            refine J_topi (y := nI ((cNw A).2.1)) (by exact hzK.2.1) ?_
            refine J_mem (M' := jSv K (m + 1) (mShf (ji K (m + 1)) (cNw A).2.1 (cNw A).2.1)) (by rw [mShf_c]; exact (jSv_self _ _).symm) ?_
            have L71 : ∀ (fuel : Nat) (p : Nat) (hp : p ≤ (cNw A).2.1) (hI : ∀ q, p ≤ q → q < (cNw A).2.1 → y < (cNw A).2.2 q), p < fuel → J l D dA RX8 cX8_publish wsX8_publish 3 false (some .int) [] (22) (420) (jF D dA (jn M) (mRl M m [xIAE, xUOE] (sPub A y).1 (sPub A y).2) 1) (jn M) (0) (0) ((jSv K (m + 1) (mShf (ji K (m + 1)) p (cNw A).2.1))) 71 [.ref (m), .int (y), .int (nI (p))] [] := by
              intro fuel
              induction fuel with
              | zero => intro p hp hI hm; exact absurd hm (Nat.not_lt_zero _)
              | succ fuel ih71 =>
                intro p hp hI hm71
                refine J_iload_n dX8_publish_71 rfl rfl ?_
                refine J_if_le dX8_publish_72 (tgt := 119) (by decide) (fun c72 => ?_) (fun c72 => ?_)
                · have c72 := jleT (a := p) (b := 0) (by omega) (by omega) c72
                  refine J_aload_n (m) dX8_publish_119 rfl rfl ?_
                  refine J_getrs (q := m + 1) Kr1 dX8_publish_120 (fun _ h => List.mem_cons_of_mem _ (List.mem_append_left _ (List.mem_append_right _ (h)))) cs11 (by decide) rfl (List.mem_of_getElem? (i := 1) rfl) rfl (show m < jn K from by omega) Km2 ?_
                  refine J_sipush (x := 397) dX8_publish_123 (by decide) ?_
                  refine J_iload_n dX8_publish_126 rfl rfl ?_
                  refine J_iadd dX8_publish_127 ?_
                  refine J_topi (y := nI (397 + p)) (nI_add (397) (p)) ?_
                  refine J_iload_n dX8_publish_128 rfl rfl ?_
                  refine J_iastN (k := 397 + p) dX8_publish_129 (show m + 1 < jn K from by omega) Kk1 (by exact Nat.lt_of_lt_of_eq (show _ < 427 by omega) (Eq.symm Kz1)) (by exact Nat.lt_of_le_of_lt (Nat.le_of_eq Kz1) (show 427 < 2 ^ 31 by omega)) ?_
                  refine J_mem (M' := jSv K (m + 1) (fun j => if j = 397 + p then y else mShf (ji K (m + 1)) p (cNw A).2.1 j)) (by exact jSi_Sv _ _ _ _ _) ?_
                  refine J_aload_n (m) dX8_publish_130 rfl rfl ?_
                  refine J_getrs (q := m + 1) Kr1 dX8_publish_131 (fun _ h => List.mem_cons_of_mem _ (List.mem_append_left _ (List.mem_append_right _ (h)))) cs11 (by decide) rfl (List.mem_of_getElem? (i := 1) rfl) rfl (show m < jn K from by omega) Km2 ?_
                  refine J_sipush (x := 396) dX8_publish_134 (by decide) ?_
                  refine J_dup2 dX8_publish_137 rfl rfl ?_
                  refine J_ialdN (k := 396) dX8_publish_138 (show m + 1 < jn K from by omega) Kk1 (by exact Nat.lt_of_lt_of_eq (show _ < 427 by omega) (Eq.symm Kz1)) (by exact Nat.lt_of_le_of_lt (Nat.le_of_eq Kz1) (show 427 < 2 ^ 31 by omega)) ?_
                  refine J_topi (y := nI ((cNw A).2.1)) (by rw [ji_Sv, if_pos rfl, if_neg (by omega), mShf_at (by omega)]; exact hzK.2.1) ?_
                  refine J_iconst (x := 1) dX8_publish_139 (by decide) ?_
                  refine J_iadd dX8_publish_140 ?_
                  refine J_topi (y := nI ((cNw A).2.1 + 1)) (nI_add ((cNw A).2.1) (1)) ?_
                  refine J_iastN (k := 396) dX8_publish_141 (show m + 1 < jn K from by omega) Kk1 (by exact Nat.lt_of_lt_of_eq (show _ < 427 by omega) (Eq.symm Kz1)) (by exact Nat.lt_of_le_of_lt (Nat.le_of_eq Kz1) (show 427 < 2 ^ 31 by omega)) ?_
                  refine J_mem (M' := jSv K (m + 1) (pubR (ji K (m + 1)) p (cNw A).2.1 y)) (by exact jSi_Sv _ _ _ _ _) ?_
                  refine J_aload_n (m) dX8_publish_142 rfl rfl ?_
                  refine J_getrs (q := m + 1) Kr1 dX8_publish_143 (fun _ h => List.mem_cons_of_mem _ (List.mem_append_left _ (List.mem_append_right _ (h)))) cs11 (by decide) rfl (List.mem_of_getElem? (i := 1) rfl) rfl (show m < jn K from by omega) Km2 ?_
                  refine J_sipush (x := 396) dX8_publish_146 (by decide) ?_
                  refine J_ialdN (k := 396) dX8_publish_149 (show m + 1 < jn K from by omega) Kk1 (by exact Nat.lt_of_lt_of_eq (show _ < 427 by omega) (Eq.symm Kz1)) (by exact Nat.lt_of_le_of_lt (Nat.le_of_eq Kz1) (show 427 < 2 ^ 31 by omega)) ?_
                  refine J_topi (y := nI ((cNw A).2.1 + 1)) (by rw [ji_Sv, if_pos rfl]; unfold pubR; rw [if_pos rfl]) ?_
                  exact J_iret (ty := .int) dX8_publish_150 rfl (rfl) (by have hpl : stPlace (cNw A).2.2 (cNw A).2.1 y = p := stPlace_is (fun j hj => by have h9 : (cNw A).2.2 (p - 1) ≤ y := (by first | exact Int32.not_lt.mp c88 | exact c88 | (exfalso; omega)); have h8 := hnp j (by omega); by_cases h7 : j = p - 1; (rw [h7] at h8 ⊢; exact Int32.lt_of_le_of_ne h9 h8); exact Int32.lt_of_lt_of_le (hsrt.lt2 (by omega) (by omega)) h9) (fun h9 => Int32.le_of_lt (hI p (Nat.le_refl _) h9)) hp; rw [pub_t c5 (by omega) (isP_f (okVer_m1 c5) hnp) hpl]; exact ⟨Or.inl ⟨by rw [ji_Svn (by omega), hS1 11 (by decide)]; exact ji_Sis, rfl⟩, hB.row (pubR_st hzK hp (by omega)), (mFr.rf.si ⟨by omega, by omega⟩).tr (hF1.sv ⟨by omega, by omega⟩), _, rfl⟩)
                · have c72 := jleF (a := p) (b := 0) (by omega) (by omega) c72
                  refine J_aload_n (m) dX8_publish_75 rfl rfl ?_
                  refine J_getrs (q := m + 1) Kr1 dX8_publish_76 (fun _ h => List.mem_cons_of_mem _ (List.mem_append_left _ (List.mem_append_right _ (h)))) cs11 (by decide) rfl (List.mem_of_getElem? (i := 1) rfl) rfl (show m < jn K from by omega) Km2 ?_
                  refine J_sipush (x := 397) dX8_publish_79 (by decide) ?_
                  refine J_iload_n dX8_publish_82 rfl rfl ?_
                  refine J_iadd dX8_publish_83 ?_
                  refine J_topi (y := nI (397 + p)) (nI_add (397) (p)) ?_
                  refine J_iconst (x := 1) dX8_publish_84 (by decide) ?_
                  refine J_isub dX8_publish_85 ?_
                  refine J_topi (y := nI (397 + p - 1)) (pk_sub (a := 397 + p) (b := 1) (by omega)) ?_
                  refine J_ialdN (k := 397 + p - 1) dX8_publish_86 (show m + 1 < jn K from by omega) Kk1 (by exact Nat.lt_of_lt_of_eq (show _ < 427 by omega) (Eq.symm Kz1)) (by exact Nat.lt_of_le_of_lt (Nat.le_of_eq Kz1) (show 427 < 2 ^ 31 by omega)) ?_
                  refine J_topi (y := ((cNw A).2.2 (p - 1))) (by rw [ji_Sv, if_pos rfl, mShf_at (by omega)]; exact (congrArg _ (by omega)).trans (hzK.2.2.2 (p - 1) (by omega))) ?_
                  refine J_iload_n dX8_publish_87 rfl rfl ?_
                  refine J_icmp_le dX8_publish_88 (tgt := 119) (by decide) (fun c88 => ?_) (fun c88 => ?_)
                  · refine J_aload_n (m) dX8_publish_119 rfl rfl ?_
                    refine J_getrs (q := m + 1) Kr1 dX8_publish_120 (fun _ h => List.mem_cons_of_mem _ (List.mem_append_left _ (List.mem_append_right _ (h)))) cs11 (by decide) rfl (List.mem_of_getElem? (i := 1) rfl) rfl (show m < jn K from by omega) Km2 ?_
                    refine J_sipush (x := 397) dX8_publish_123 (by decide) ?_
                    refine J_iload_n dX8_publish_126 rfl rfl ?_
                    refine J_iadd dX8_publish_127 ?_
                    refine J_topi (y := nI (397 + p)) (nI_add (397) (p)) ?_
                    refine J_iload_n dX8_publish_128 rfl rfl ?_
                    refine J_iastN (k := 397 + p) dX8_publish_129 (show m + 1 < jn K from by omega) Kk1 (by exact Nat.lt_of_lt_of_eq (show _ < 427 by omega) (Eq.symm Kz1)) (by exact Nat.lt_of_le_of_lt (Nat.le_of_eq Kz1) (show 427 < 2 ^ 31 by omega)) ?_
                    refine J_mem (M' := jSv K (m + 1) (fun j => if j = 397 + p then y else mShf (ji K (m + 1)) p (cNw A).2.1 j)) (by exact jSi_Sv _ _ _ _ _) ?_
                    refine J_aload_n (m) dX8_publish_130 rfl rfl ?_
                    refine J_getrs (q := m + 1) Kr1 dX8_publish_131 (fun _ h => List.mem_cons_of_mem _ (List.mem_append_left _ (List.mem_append_right _ (h)))) cs11 (by decide) rfl (List.mem_of_getElem? (i := 1) rfl) rfl (show m < jn K from by omega) Km2 ?_
                    refine J_sipush (x := 396) dX8_publish_134 (by decide) ?_
                    refine J_dup2 dX8_publish_137 rfl rfl ?_
                    refine J_ialdN (k := 396) dX8_publish_138 (show m + 1 < jn K from by omega) Kk1 (by exact Nat.lt_of_lt_of_eq (show _ < 427 by omega) (Eq.symm Kz1)) (by exact Nat.lt_of_le_of_lt (Nat.le_of_eq Kz1) (show 427 < 2 ^ 31 by omega)) ?_
                    refine J_topi (y := nI ((cNw A).2.1)) (by rw [ji_Sv, if_pos rfl, if_neg (by omega), mShf_at (by omega)]; exact hzK.2.1) ?_
                    refine J_iconst (x := 1) dX8_publish_139 (by decide) ?_
                    refine J_iadd dX8_publish_140 ?_
                    refine J_topi (y := nI ((cNw A).2.1 + 1)) (nI_add ((cNw A).2.1) (1)) ?_
                    refine J_iastN (k := 396) dX8_publish_141 (show m + 1 < jn K from by omega) Kk1 (by exact Nat.lt_of_lt_of_eq (show _ < 427 by omega) (Eq.symm Kz1)) (by exact Nat.lt_of_le_of_lt (Nat.le_of_eq Kz1) (show 427 < 2 ^ 31 by omega)) ?_
                    refine J_mem (M' := jSv K (m + 1) (pubR (ji K (m + 1)) p (cNw A).2.1 y)) (by exact jSi_Sv _ _ _ _ _) ?_
                    refine J_aload_n (m) dX8_publish_142 rfl rfl ?_
                    refine J_getrs (q := m + 1) Kr1 dX8_publish_143 (fun _ h => List.mem_cons_of_mem _ (List.mem_append_left _ (List.mem_append_right _ (h)))) cs11 (by decide) rfl (List.mem_of_getElem? (i := 1) rfl) rfl (show m < jn K from by omega) Km2 ?_
                    refine J_sipush (x := 396) dX8_publish_146 (by decide) ?_
                    refine J_ialdN (k := 396) dX8_publish_149 (show m + 1 < jn K from by omega) Kk1 (by exact Nat.lt_of_lt_of_eq (show _ < 427 by omega) (Eq.symm Kz1)) (by exact Nat.lt_of_le_of_lt (Nat.le_of_eq Kz1) (show 427 < 2 ^ 31 by omega)) ?_
                    refine J_topi (y := nI ((cNw A).2.1 + 1)) (by rw [ji_Sv, if_pos rfl]; unfold pubR; rw [if_pos rfl]) ?_
                    exact J_iret (ty := .int) dX8_publish_150 rfl (rfl) (by have hpl : stPlace (cNw A).2.2 (cNw A).2.1 y = p := stPlace_is (fun j hj => by have h9 : (cNw A).2.2 (p - 1) ≤ y := (by first | exact Int32.not_lt.mp c88 | exact c88 | (exfalso; omega)); have h8 := hnp j (by omega); by_cases h7 : j = p - 1; (rw [h7] at h8 ⊢; exact Int32.lt_of_le_of_ne h9 h8); exact Int32.lt_of_lt_of_le (hsrt.lt2 (by omega) (by omega)) h9) (fun h9 => Int32.le_of_lt (hI p (Nat.le_refl _) h9)) hp; rw [pub_t c5 (by omega) (isP_f (okVer_m1 c5) hnp) hpl]; exact ⟨Or.inl ⟨by rw [ji_Svn (by omega), hS1 11 (by decide)]; exact ji_Sis, rfl⟩, hB.row (pubR_st hzK hp (by omega)), (mFr.rf.si ⟨by omega, by omega⟩).tr (hF1.sv ⟨by omega, by omega⟩), _, rfl⟩)
                  · refine J_aload_n (m) dX8_publish_91 rfl rfl ?_
                    refine J_getrs (q := m + 1) Kr1 dX8_publish_92 (fun _ h => List.mem_cons_of_mem _ (List.mem_append_left _ (List.mem_append_right _ (h)))) cs11 (by decide) rfl (List.mem_of_getElem? (i := 1) rfl) rfl (show m < jn K from by omega) Km2 ?_
                    refine J_sipush (x := 397) dX8_publish_95 (by decide) ?_
                    refine J_iload_n dX8_publish_98 rfl rfl ?_
                    refine J_iadd dX8_publish_99 ?_
                    refine J_topi (y := nI (397 + p)) (nI_add (397) (p)) ?_
                    refine J_aload_n (m) dX8_publish_100 rfl rfl ?_
                    refine J_getrs (q := m + 1) Kr1 dX8_publish_101 (fun _ h => List.mem_cons_of_mem _ (List.mem_append_left _ (List.mem_append_right _ (h)))) cs11 (by decide) rfl (List.mem_of_getElem? (i := 1) rfl) rfl (show m < jn K from by omega) Km2 ?_
                    refine J_sipush (x := 397) dX8_publish_104 (by decide) ?_
                    refine J_iload_n dX8_publish_107 rfl rfl ?_
                    refine J_iadd dX8_publish_108 ?_
                    refine J_topi (y := nI (397 + p)) (nI_add (397) (p)) ?_
                    refine J_iconst (x := 1) dX8_publish_109 (by decide) ?_
                    refine J_isub dX8_publish_110 ?_
                    refine J_topi (y := nI (397 + p - 1)) (pk_sub (a := 397 + p) (b := 1) (by omega)) ?_
                    refine J_ialdN (k := 397 + p - 1) dX8_publish_111 (show m + 1 < jn K from by omega) Kk1 (by exact Nat.lt_of_lt_of_eq (show _ < 427 by omega) (Eq.symm Kz1)) (by exact Nat.lt_of_le_of_lt (Nat.le_of_eq Kz1) (show 427 < 2 ^ 31 by omega)) ?_
                    refine J_topi (y := (ji K (m + 1) (397 + (p - 1)))) (by rw [ji_Sv, if_pos rfl, mShf_at (by omega)]; exact congrArg _ (by omega)) ?_
                    refine J_iastN (k := 397 + p) dX8_publish_112 (show m + 1 < jn K from by omega) Kk1 (by exact Nat.lt_of_lt_of_eq (show _ < 427 by omega) (Eq.symm Kz1)) (by exact Nat.lt_of_le_of_lt (Nat.le_of_eq Kz1) (show 427 < 2 ^ 31 by omega)) ?_
                    refine J_mem (M' := jSv K (m + 1) (mShf (ji K (m + 1)) (p - 1) (cNw A).2.1)) (by exact (jSi_Sv _ _ _ _ _).trans (congrArg (jSv K (m + 1)) (mShf_s (by omega) hp))) ?_
                    refine J_iinc (y := nI (p - 1)) (lv' := [.ref (m), .int (y), .int (nI (p - 1))]) dX8_publish_113 rfl (jdec (k := p) (by omega)) (by decide) rfl rfl ?_
                    refine J_goto (tgt := 71) dX8_publish_116 (by decide) ?_
                    exact ih71 (p - 1) (by omega) (by intro q h1 h2; by_cases h3 : q = p - 1; (rw [h3]; first | exact Int32.not_le.mp c88 | exact c88); exact hI q (by omega) h2) (by omega)
            refine J_istore_n (lv' := [.ref (m), .int (y), .int (nI ((cNw A).2.1))]) dX8_publish_70 rfl (by decide) rfl rfl ?_
            exact L71 _ ((cNw A).2.1) (by omega) (by intro q h1 h2; exact absurd h1 (by omega)) (Nat.lt_succ_self _)
          · exact absurd c53 (by decide)
        · refine J_iconst (x := 5) dX8_publish_45 (by decide) ?_
          refine J_goto (tgt := 50) dX8_publish_46 (by decide) ?_
          refine J_calli0 (jrunV (As := [.int (5)]) (ct_X8_refuses_n l D dA hst (jSi M m 11 ((0))) m hM 5 (by decide)) dX8_publish_50 yY_X8_refuses gX8_publish_X8_refuses rfl cs11 (show m < jn M from by omega) m2 rfl ⟨by omega, by omega⟩ ⟨Nat.zero_le _, Nat.zero_le _⟩ rfl (Nat.le_of_ble_eq_true rfl)) (rfl) (rfl) ?_
          refine J_if_eq dX8_publish_53 (tgt := 58) (by decide) (fun c53 => ?_) (fun c53 => ?_)
          · exact absurd c53 (by decide)
          · have c53 := jeqF (a := 1) (b := 0) (by omega) (by omega) c53
            refine J_iconst (x := 0) dX8_publish_56 (by decide) ?_
            exact J_iret (ty := .int) dX8_publish_57 rfl (rfl) (by rw [pub_5 c5 (by omega) (by obtain ⟨k9, h1, h2, h3⟩ := mPl_t c42; exact isP_t hsrt h1 h2)]; exact ⟨mAg.x 1 xUOE rfl (by decide) ji_Sis rfl, (hA.si rfl).ref (by decide), (((mFr.rf).si ⟨by omega, by omega⟩).si ⟨by omega, by omega⟩).si ⟨by omega, by omega⟩, _, rfl⟩)
      · have c30 := jeqT (a := (cNw A).2.1) (b := 30) (by omega) (by omega) c30
        refine J_iconst (x := 4) dX8_publish_33 (by decide) ?_
        refine J_goto (tgt := 50) dX8_publish_34 (by decide) ?_
        refine J_calli0 (jrunV (As := [.int (4)]) (ct_X8_refuses_n l D dA hst (jSi M m 11 ((0))) m hM 4 (by decide)) dX8_publish_50 yY_X8_refuses gX8_publish_X8_refuses rfl cs11 (show m < jn M from by omega) m2 rfl ⟨by omega, by omega⟩ ⟨Nat.zero_le _, Nat.zero_le _⟩ rfl (Nat.le_of_ble_eq_true rfl)) (rfl) (rfl) ?_
        refine J_if_eq dX8_publish_53 (tgt := 58) (by decide) (fun c53 => ?_) (fun c53 => ?_)
        · exact absurd c53 (by decide)
        · have c53 := jeqF (a := 1) (b := 0) (by omega) (by omega) c53
          refine J_iconst (x := 0) dX8_publish_56 (by decide) ?_
          exact J_iret (ty := .int) dX8_publish_57 rfl (rfl) (by rw [pub_4 c5 (by omega)]; exact ⟨mAg.x 1 xUOE rfl (by decide) ji_Sis rfl, (hA.si rfl).ref (by decide), (((mFr.rf).si ⟨by omega, by omega⟩).si ⟨by omega, by omega⟩).si ⟨by omega, by omega⟩, _, rfl⟩)

theorem dX8_withdraw_0 : decode cX8_withdraw 0 = .ok (.aload_n 0, 1) := by decide +kernel
theorem dX8_withdraw_1 : decode cX8_withdraw 1 = .ok (.iload_n 1, 1) := by decide +kernel
theorem dX8_withdraw_2 : decode cX8_withdraw 2 = .ok (.invokestatic 202, 3) := by decide +kernel
set_option maxRecDepth 20000 in
theorem ggX8_withdraw_X8_isVersion : GoodIn wsX8_withdraw wsX8_isVersion := goodIn_r _ [5, 6] (by decide +kernel) (by decide +kernel)
set_option maxRecDepth 20000 in
theorem gX8_withdraw_X8_isVersion : GoodIn wsX8_withdraw (va_wsS RX8 202 yX8_isVersion wsX8_isVersion) := goodIn_app (goodIn_of _ (by decide +kernel)) ggX8_withdraw_X8_isVersion
theorem dX8_withdraw_5 : decode cX8_withdraw 5 = .ok (.ifCond .eq 7, 3) := by decide +kernel
theorem dX8_withdraw_12 : decode cX8_withdraw 12 = .ok (.iconst 1, 1) := by decide +kernel
theorem dX8_withdraw_13 : decode cX8_withdraw 13 = .ok (.invokevirtual 148, 3) := by decide +kernel
set_option maxRecDepth 20000 in
theorem ggX8_withdraw_X8_fails : GoodIn wsX8_withdraw wsX8_fails := goodIn_r _ [10, 11, 27, 28, 29, 30, 31, 32, 33, 34, 35, 36, 37, 38, 39, 40, 41, 42, 43, 44, 45, 46, 47, 48, 49, 50, 51, 52, 53, 54, 55, 56, 57] (by decide +kernel) (by decide +kernel)
set_option maxRecDepth 20000 in
theorem gX8_withdraw_X8_fails : GoodIn wsX8_withdraw (wsV RX8 148 RX8 yX8_fails wsX8_fails) := goodIn_app (goodIn_of _ (by decide +kernel)) ggX8_withdraw_X8_fails
theorem dX8_withdraw_16 : decode cX8_withdraw 16 = .ok (.ifCond .ne 23, 3) := by decide +kernel
theorem dX8_withdraw_39 : decode cX8_withdraw 39 = .ok (.iconst 0, 1) := by decide +kernel
theorem dX8_withdraw_40 : decode cX8_withdraw 40 = .ok (.ireturn, 1) := by decide +kernel
theorem dX8_withdraw_8 : decode cX8_withdraw 8 = .ok (.iconst 0, 1) := by decide +kernel
theorem dX8_withdraw_9 : decode cX8_withdraw 9 = .ok (.goto 4, 3) := by decide +kernel
theorem dX8_withdraw_19 : decode cX8_withdraw 19 = .ok (.aload_n 0, 1) := by decide +kernel
theorem dX8_withdraw_20 : decode cX8_withdraw 20 = .ok (.aload_n 0, 1) := by decide +kernel
theorem dX8_withdraw_21 : decode cX8_withdraw 21 = .ok (.iload_n 1, 1) := by decide +kernel
theorem dX8_withdraw_22 : decode cX8_withdraw 22 = .ok (.invokevirtual 255, 3) := by decide +kernel
set_option maxRecDepth 20000 in
theorem ggX8_withdraw_X8_placeOf : GoodIn wsX8_withdraw wsX8_placeOf := goodIn_ca (goodIn_r _ [15, 1, 27, 28, 29, 30, 31, 32, 33, 34, 35, 36, 37, 38, 39, 40, 41, 42, 43, 44, 45, 46, 47, 48, 49, 50, 51, 52, 53, 54, 55, 56, 57] (by decide +kernel) (by decide +kernel)) (goodIn_sub (fun _ h => List.mem_cons_of_mem _ (List.mem_append_right _ h)) (by decide +kernel))
set_option maxRecDepth 20000 in
theorem gX8_withdraw_X8_placeOf : GoodIn wsX8_withdraw (wsV RX8 255 RX8 yX8_placeOf wsX8_placeOf) := goodIn_app (goodIn_of _ (by decide +kernel)) ggX8_withdraw_X8_placeOf
theorem dX8_withdraw_25 : decode cX8_withdraw 25 = .ok (.ifCond .ge 7, 3) := by decide +kernel
theorem dX8_withdraw_32 : decode cX8_withdraw 32 = .ok (.iconst 0, 1) := by decide +kernel
theorem dX8_withdraw_33 : decode cX8_withdraw 33 = .ok (.invokevirtual 258, 3) := by decide +kernel
set_option maxRecDepth 20000 in
theorem ggX8_withdraw_X8_refuses : GoodIn wsX8_withdraw wsX8_refuses := goodIn_r _ [19, 20, 11, 27, 28, 29, 30, 31, 32, 33, 34, 35, 36, 37, 38, 39, 40, 41, 42, 43, 44, 45, 46, 47, 48, 49, 50, 51, 52, 53, 54, 55, 56, 57] (by decide +kernel) (by decide +kernel)
set_option maxRecDepth 20000 in
theorem gX8_withdraw_X8_refuses : GoodIn wsX8_withdraw (wsV RX8 258 RX8 yX8_refuses wsX8_refuses) := goodIn_app (goodIn_of _ (by decide +kernel)) ggX8_withdraw_X8_refuses
theorem dX8_withdraw_36 : decode cX8_withdraw 36 = .ok (.ifCond .eq 5, 3) := by decide +kernel
theorem dX8_withdraw_41 : decode cX8_withdraw 41 = .ok (.aload_n 0, 1) := by decide +kernel
theorem dX8_withdraw_42 : decode cX8_withdraw 42 = .ok (.invokevirtual 79, 3) := by decide +kernel
set_option maxRecDepth 20000 in
theorem ggX8_withdraw_X8_changes : GoodIn wsX8_withdraw wsX8_changes := goodIn_ca (goodIn_r _ [24, 25, 26, 1, 27, 28, 29, 30, 31, 32, 33, 34, 35, 36, 37, 38, 39, 40, 41, 42, 43, 44, 45, 46, 47, 48, 49, 50, 51, 52, 53, 54, 55, 56, 57] (by decide +kernel) (by decide +kernel)) (goodIn_sub (fun _ h => List.mem_cons_of_mem _ (List.mem_append_right _ h)) (by decide +kernel))
set_option maxRecDepth 20000 in
theorem gX8_withdraw_X8_changes : GoodIn wsX8_withdraw (wsV RX8 79 RX8 yX8_changes wsX8_changes) := goodIn_app (goodIn_of _ (by decide +kernel)) ggX8_withdraw_X8_changes
theorem dX8_withdraw_45 : decode cX8_withdraw 45 = .ok (.aload_n 0, 1) := by decide +kernel
theorem dX8_withdraw_46 : decode cX8_withdraw 46 = .ok (.getfield 9, 3) := by decide +kernel
theorem dX8_withdraw_49 : decode cX8_withdraw 49 = .ok (.sipush 396, 3) := by decide +kernel
theorem dX8_withdraw_52 : decode cX8_withdraw 52 = .ok (.iaload, 1) := by decide +kernel
theorem dX8_withdraw_53 : decode cX8_withdraw 53 = .ok (.iconst 1, 1) := by decide +kernel
theorem dX8_withdraw_54 : decode cX8_withdraw 54 = .ok (.isub, 1) := by decide +kernel
theorem dX8_withdraw_55 : decode cX8_withdraw 55 = .ok (.istore_n 2, 1) := by decide +kernel
theorem dX8_withdraw_56 : decode cX8_withdraw 56 = .ok (.aload_n 0, 1) := by decide +kernel
theorem dX8_withdraw_57 : decode cX8_withdraw 57 = .ok (.iload_n 1, 1) := by decide +kernel
theorem dX8_withdraw_58 : decode cX8_withdraw 58 = .ok (.invokevirtual 255, 3) := by decide +kernel
theorem dX8_withdraw_62 : decode cX8_withdraw 62 = .ok (.iload_n 3, 1) := by decide +kernel
theorem dX8_withdraw_63 : decode cX8_withdraw 63 = .ok (.iload_n 2, 1) := by decide +kernel
theorem dX8_withdraw_64 : decode cX8_withdraw 64 = .ok (.if_icmp .ge 31, 3) := by decide +kernel
theorem dX8_withdraw_95 : decode cX8_withdraw 95 = .ok (.aload_n 0, 1) := by decide +kernel
theorem dX8_withdraw_96 : decode cX8_withdraw 96 = .ok (.getfield 9, 3) := by decide +kernel
theorem dX8_withdraw_99 : decode cX8_withdraw 99 = .ok (.sipush 397, 3) := by decide +kernel
theorem dX8_withdraw_102 : decode cX8_withdraw 102 = .ok (.iload_n 2, 1) := by decide +kernel
theorem dX8_withdraw_103 : decode cX8_withdraw 103 = .ok (.iadd, 1) := by decide +kernel
theorem dX8_withdraw_104 : decode cX8_withdraw 104 = .ok (.iconst 0, 1) := by decide +kernel
theorem dX8_withdraw_105 : decode cX8_withdraw 105 = .ok (.iastore, 1) := by decide +kernel
theorem dX8_withdraw_106 : decode cX8_withdraw 106 = .ok (.aload_n 0, 1) := by decide +kernel
theorem dX8_withdraw_107 : decode cX8_withdraw 107 = .ok (.getfield 9, 3) := by decide +kernel
theorem dX8_withdraw_110 : decode cX8_withdraw 110 = .ok (.sipush 396, 3) := by decide +kernel
theorem dX8_withdraw_113 : decode cX8_withdraw 113 = .ok (.iload_n 2, 1) := by decide +kernel
theorem dX8_withdraw_114 : decode cX8_withdraw 114 = .ok (.iastore, 1) := by decide +kernel
theorem dX8_withdraw_115 : decode cX8_withdraw 115 = .ok (.iload_n 2, 1) := by decide +kernel
theorem dX8_withdraw_116 : decode cX8_withdraw 116 = .ok (.ireturn, 1) := by decide +kernel
theorem dX8_withdraw_67 : decode cX8_withdraw 67 = .ok (.aload_n 0, 1) := by decide +kernel
theorem dX8_withdraw_68 : decode cX8_withdraw 68 = .ok (.getfield 9, 3) := by decide +kernel
theorem dX8_withdraw_71 : decode cX8_withdraw 71 = .ok (.sipush 397, 3) := by decide +kernel
theorem dX8_withdraw_74 : decode cX8_withdraw 74 = .ok (.iload_n 3, 1) := by decide +kernel
theorem dX8_withdraw_75 : decode cX8_withdraw 75 = .ok (.iadd, 1) := by decide +kernel
theorem dX8_withdraw_76 : decode cX8_withdraw 76 = .ok (.aload_n 0, 1) := by decide +kernel
theorem dX8_withdraw_77 : decode cX8_withdraw 77 = .ok (.getfield 9, 3) := by decide +kernel
theorem dX8_withdraw_80 : decode cX8_withdraw 80 = .ok (.sipush 397, 3) := by decide +kernel
theorem dX8_withdraw_83 : decode cX8_withdraw 83 = .ok (.iload_n 3, 1) := by decide +kernel
theorem dX8_withdraw_84 : decode cX8_withdraw 84 = .ok (.iadd, 1) := by decide +kernel
theorem dX8_withdraw_85 : decode cX8_withdraw 85 = .ok (.iconst 1, 1) := by decide +kernel
theorem dX8_withdraw_86 : decode cX8_withdraw 86 = .ok (.iadd, 1) := by decide +kernel
theorem dX8_withdraw_87 : decode cX8_withdraw 87 = .ok (.iaload, 1) := by decide +kernel
theorem dX8_withdraw_88 : decode cX8_withdraw 88 = .ok (.iastore, 1) := by decide +kernel
theorem dX8_withdraw_89 : decode cX8_withdraw 89 = .ok (.iinc 3 1, 3) := by decide +kernel
theorem dX8_withdraw_92 : decode cX8_withdraw 92 = .ok (.goto (-30), 3) := by decide +kernel
theorem dX8_withdraw_61 : decode cX8_withdraw 61 = .ok (.istore_n 3, 1) := by decide +kernel
theorem dX8_withdraw_28 : decode cX8_withdraw 28 = .ok (.iconst 5, 1) := by decide +kernel
theorem dX8_withdraw_29 : decode cX8_withdraw 29 = .ok (.goto 4, 3) := by decide +kernel
set_option maxHeartbeats 400000 in
set_option maxRecDepth 20000 in
theorem ct_X8_withdraw (l : Launch) (D : va_G) (dA : Nat → ClassId) (hst : l.stackTraces = false) (M : jM) (m : Nat) (A : cA) (hA : mAb M m A) (hW : zWf (cNw A)) (y : Int32) : jCT l D dA yX8_withdraw wsX8_withdraw (22) (420) (0) (0) 1 [.ref (m), .int (y)] M (mRl M m [xIAE, xUOE] (sWdr A y).1 (sWdr A y).2) := by
  refine jBody (cc := cX8_withdraw) (nL := 4) (rt := (some .int)) (ini := false) (by decide) rfl hst (Nat.le_of_ble_eq_true rfl) (by simp [Value.category]) (by intro h9; first | exact absurd h9 (by decide) | rfl) ?_
  show J l D dA RX8 cX8_withdraw wsX8_withdraw 4 false (some .int) [] (22) (420) (jF D dA (jn M) (mRl M m [xIAE, xUOE] (sWdr A y).1 (sWdr A y).2) 1) (jn M) (0) (0) (M) 0 [.ref (m), .int (y), .float 0, .float 0] []
  obtain ⟨hM, hz, ⟨hKn, hK8, hKs⟩, ⟨hHs, hHz⟩, ⟨hLn, hL6, hLc⟩, hFl, ⟨hRs, hRp⟩, hCh⟩ := id hA
  obtain ⟨m1, m2, ⟨r1, r2, r3, r4, r5, r6, r7, r8, r9, r10, r11, r12, r13⟩, ⟨k1, k2, k3, k4, k5, k6, k7, k8, k9, k10, k11, k12, k13⟩, z1, z2, z3, z4, z5, z6, z7, z8, z9, z10, z11, z12, z13⟩ := id hM
  have hc30 := hz.2.2.1
  have hsrt : pSo (cNw A).2.2 (cNw A).2.1 := hW.2.2
  refine J_aload_n (m) dX8_withdraw_0 rfl rfl ?_
  refine J_iload_n dX8_withdraw_1 rfl rfl ?_
  refine J_calli0 (jrunS (As := [.int (y)]) (ct_X8_isVersion l D dA hst M ((y))) dX8_withdraw_2 yY_X8_isVersion gX8_withdraw_X8_isVersion rfl ⟨by omega, by omega⟩ ⟨Nat.zero_le _, Nat.zero_le _⟩ rfl (Nat.le_of_ble_eq_true rfl)) (rfl) (rfl) ?_
  refine J_if_eq dX8_withdraw_5 (tgt := 12) (by decide) (fun c5 => ?_) (fun c5 => ?_)
  · have c5 := jb0T c5
    refine J_iconst (x := 1) dX8_withdraw_12 (by decide) ?_
    refine J_calli0 (jrunV (As := [.int (1)]) (ct_X8_fails l D dA hst M m hM ((1))) dX8_withdraw_13 yY_X8_fails gX8_withdraw_X8_fails rfl cs11 (show m < jn M from by omega) m2 rfl ⟨by omega, by omega⟩ ⟨Nat.zero_le _, Nat.zero_le _⟩ rfl (Nat.le_of_ble_eq_true rfl)) (rfl) (rfl) ?_
    refine J_if_ne dX8_withdraw_16 (tgt := 39) (by decide) (fun c16 => ?_) (fun c16 => ?_)
    · have c16 := jeqF (a := 1) (b := 0) (by omega) (by omega) c16
      refine J_iconst (x := 0) dX8_withdraw_39 (by decide) ?_
      exact J_iret (ty := .int) dX8_withdraw_40 rfl (rfl) (by rw [wdr_f c5]; exact ⟨mAg.x 0 xIAE rfl (by decide) ji_Sis rfl, (hA).si rfl, (mFr.rf).si ⟨by omega, by omega⟩, _, rfl⟩)
    · exact absurd c16 (by decide)
  · have c5 := jb0F c5
    refine J_iconst (x := 0) dX8_withdraw_8 (by decide) ?_
    refine J_goto (tgt := 13) dX8_withdraw_9 (by decide) ?_
    refine J_calli0 (jrunV (As := [.int (0)]) (ct_X8_fails l D dA hst M m hM ((0))) dX8_withdraw_13 yY_X8_fails gX8_withdraw_X8_fails rfl cs11 (show m < jn M from by omega) m2 rfl ⟨by omega, by omega⟩ ⟨Nat.zero_le _, Nat.zero_le _⟩ rfl (Nat.le_of_ble_eq_true rfl)) (rfl) (rfl) ?_
    refine J_if_ne dX8_withdraw_16 (tgt := 39) (by decide) (fun c16 => ?_) (fun c16 => ?_)
    · exact absurd c16 (by decide)
    · have c16 := jeqT (a := 0) (b := 0) (by omega) (by omega) c16
      refine J_aload_n (m) dX8_withdraw_19 rfl rfl ?_
      refine J_aload_n (m) dX8_withdraw_20 rfl rfl ?_
      refine J_iload_n dX8_withdraw_21 rfl rfl ?_
      refine J_calli0 (jrunV (As := [.int (y)]) (ct_X8_placeOf l D dA hst (jSi M m 11 ((0))) m hM (cNw A) (hz.si (by omega)) ((y))) dX8_withdraw_22 yY_X8_placeOf gX8_withdraw_X8_placeOf rfl cs11 (show m < jn M from by omega) m2 rfl ⟨by omega, by omega⟩ ⟨Nat.zero_le _, Nat.zero_le _⟩ rfl (Nat.le_of_ble_eq_true rfl)) (rfl) (rfl) ?_
      refine J_if_ge dX8_withdraw_25 (tgt := 32) (by decide) (fun c25 => ?_) (fun c25 => ?_)
      · refine J_iconst (x := 0) dX8_withdraw_32 (by decide) ?_
        refine J_calli0 (jrunV (As := [.int (0)]) (ct_X8_refuses_0 l D dA hst (jSi M m 11 ((0))) m hM) dX8_withdraw_33 yY_X8_refuses gX8_withdraw_X8_refuses rfl cs11 (show m < jn M from by omega) m2 rfl ⟨by omega, by omega⟩ ⟨Nat.zero_le _, Nat.zero_le _⟩ rfl (Nat.le_of_ble_eq_true rfl)) (rfl) (rfl) ?_
        refine J_if_eq dX8_withdraw_36 (tgt := 41) (by decide) (fun c36 => ?_) (fun c36 => ?_)
        · have c36 := jeqT (a := 0) (b := 0) (by omega) (by omega) c36
          obtain ⟨q, hq, hqy, hql⟩ := mPl_t (Int32.not_lt.mpr c25)
          refine J_aload_n (m) dX8_withdraw_41 rfl rfl ?_
          refine J_callv (jrunV (As := []) (ct_X8_changes l D dA hst (jSi M m 11 ((0))) m A ((hA).si rfl)) dX8_withdraw_42 yY_X8_changes gX8_withdraw_X8_changes rfl cs11 (show m < jn M from by omega) m2 rfl ⟨by omega, by omega⟩ ⟨Nat.zero_le _, Nat.zero_le _⟩ rfl (Nat.le_of_ble_eq_true rfl)) ⟨Nat.zero_le _, Nat.zero_le _⟩ (Or.inr ⟨(jOk.ref (show m < jn M from by omega) (jOk.int (jOk.float (jOk.float jOk.nil)))), jOk.nil⟩) (fun E M9 hp _ => by cases hp.1) (fun K hp42 hle42 => ?_)
          obtain ⟨_, hB, hF1, hR1, hS1⟩ := hp42
          obtain ⟨Km1, Km2, ⟨Kr1, Kr2, Kr3, Kr4, Kr5, Kr6, Kr7, Kr8, Kr9, Kr10, Kr11, Kr12, Kr13⟩, ⟨Kk1, Kk2, Kk3, Kk4, Kk5, Kk6, Kk7, Kk8, Kk9, Kk10, Kk11, Kk12, Kk13⟩, Kz1, Kz2, Kz3, Kz4, Kz5, Kz6, Kz7, Kz8, Kz9, Kz10, Kz11, Kz12, Kz13⟩ := id hB.1
          have hzK : mSt (ji K (m + 1)) 0 (cNw A) := hB.z
          refine J_aload_n (m) dX8_withdraw_45 rfl rfl ?_
          refine J_getrs (q := m + 1) Kr1 dX8_withdraw_46 (fun _ h => List.mem_cons_of_mem _ (List.mem_append_left _ (List.mem_append_right _ (h)))) cs11 (by decide) rfl (List.mem_of_getElem? (i := 1) rfl) rfl (show m < jn K from by omega) Km2 ?_
          refine J_sipush (x := 396) dX8_withdraw_49 (by decide) ?_
          refine J_ialdN (k := 396) dX8_withdraw_52 (show m + 1 < jn K from by omega) Kk1 (by exact Nat.lt_of_lt_of_eq (show _ < 427 by omega) (Eq.symm Kz1)) (by exact Nat.lt_of_le_of_lt (Nat.le_of_eq Kz1) (show 427 < 2 ^ 31 by omega)) ?_
          refine J_topi (y := nI ((cNw A).2.1)) (by exact hzK.2.1) ?_
          refine J_iconst (x := 1) dX8_withdraw_53 (by decide) ?_
          refine J_isub dX8_withdraw_54 ?_
          refine J_topi (y := nI ((cNw A).2.1 - 1)) (pk_sub (a := (cNw A).2.1) (b := 1) (by omega)) ?_
          refine J_istore_n (lv' := [.ref (m), .int (y), .int (nI (((cNw A).2.1 - 1))), .float 0]) dX8_withdraw_55 rfl (by decide) rfl rfl ?_
          refine J_aload_n (m) dX8_withdraw_56 rfl rfl ?_
          refine J_iload_n dX8_withdraw_57 rfl rfl ?_
          refine J_calli0 (jrunV (As := [.int (y)]) (ct_X8_placeOf l D dA hst K m hB.1 (cNw A) hB.z ((y))) dX8_withdraw_58 yY_X8_placeOf gX8_withdraw_X8_placeOf rfl cs11 (show m < jn K from by omega) Km2 rfl ⟨by omega, by omega⟩ ⟨Nat.zero_le _, Nat.zero_le _⟩ rfl (Nat.le_of_ble_eq_true rfl)) (rfl) (rfl) ?_
          refine J_topi (y := nI (q)) (by exact hql) ?_
          refine J_mem (M' := jSv K (m + 1) (mDel (ji K (m + 1)) q q)) (by rw [mDel_0]; exact (jSv_self _ _).symm) ?_
          have L62 : ∀ (fuel : Nat) (k : Nat) (hk : q ≤ k ∧ k ≤ (cNw A).2.1 - 1), (cNw A).2.1 - k < fuel → J l D dA RX8 cX8_withdraw wsX8_withdraw 4 false (some .int) [] (22) (420) (jF D dA (jn M) (mRl M m [xIAE, xUOE] (sWdr A y).1 (sWdr A y).2) 1) (jn M) (0) (0) ((jSv K (m + 1) (mDel (ji K (m + 1)) q k))) 62 [.ref (m), .int (y), .int (nI (((cNw A).2.1 - 1))), .int (nI (k))] [] := by
            intro fuel
            induction fuel with
            | zero => intro k hk hm; exact absurd hm (Nat.not_lt_zero _)
            | succ fuel ih62 =>
              intro k hk hm62
              refine J_iload_n dX8_withdraw_62 rfl rfl ?_
              refine J_iload_n dX8_withdraw_63 rfl rfl ?_
              refine J_icmp_ge dX8_withdraw_64 (tgt := 95) (by decide) (fun c64 => ?_) (fun c64 => ?_)
              · have c64 := jleT (a := ((cNw A).2.1 - 1)) (b := k) (by omega) (by omega) c64
                refine J_aload_n (m) dX8_withdraw_95 rfl rfl ?_
                refine J_getrs (q := m + 1) Kr1 dX8_withdraw_96 (fun _ h => List.mem_cons_of_mem _ (List.mem_append_left _ (List.mem_append_right _ (h)))) cs11 (by decide) rfl (List.mem_of_getElem? (i := 1) rfl) rfl (show m < jn K from by omega) Km2 ?_
                refine J_sipush (x := 397) dX8_withdraw_99 (by decide) ?_
                refine J_iload_n dX8_withdraw_102 rfl rfl ?_
                refine J_iadd dX8_withdraw_103 ?_
                refine J_topi (y := nI (397 + ((cNw A).2.1 - 1))) (nI_add (397) (((cNw A).2.1 - 1))) ?_
                refine J_iconst (x := 0) dX8_withdraw_104 (by decide) ?_
                refine J_iastN (k := 397 + ((cNw A).2.1 - 1)) dX8_withdraw_105 (show m + 1 < jn K from by omega) Kk1 (by exact Nat.lt_of_lt_of_eq (show _ < 427 by omega) (Eq.symm Kz1)) (by exact Nat.lt_of_le_of_lt (Nat.le_of_eq Kz1) (show 427 < 2 ^ 31 by omega)) ?_
                refine J_mem (M' := jSv K (m + 1) (fun j => if j = 397 + ((cNw A).2.1 - 1) then 0 else mDel (ji K (m + 1)) q ((cNw A).2.1 - 1) j)) (by rw [show k = (cNw A).2.1 - 1 from by omega]; exact jSi_Sv _ _ _ _ _) ?_
                refine J_aload_n (m) dX8_withdraw_106 rfl rfl ?_
                refine J_getrs (q := m + 1) Kr1 dX8_withdraw_107 (fun _ h => List.mem_cons_of_mem _ (List.mem_append_left _ (List.mem_append_right _ (h)))) cs11 (by decide) rfl (List.mem_of_getElem? (i := 1) rfl) rfl (show m < jn K from by omega) Km2 ?_
                refine J_sipush (x := 396) dX8_withdraw_110 (by decide) ?_
                refine J_iload_n dX8_withdraw_113 rfl rfl ?_
                refine J_iastN (k := 396) dX8_withdraw_114 (show m + 1 < jn K from by omega) Kk1 (by exact Nat.lt_of_lt_of_eq (show _ < 427 by omega) (Eq.symm Kz1)) (by exact Nat.lt_of_le_of_lt (Nat.le_of_eq Kz1) (show 427 < 2 ^ 31 by omega)) ?_
                refine J_mem (M' := jSv K (m + 1) (wdrR (ji K (m + 1)) q ((cNw A).2.1 - 1))) (by exact jSi_Sv _ _ _ _ _) ?_
                refine J_iload_n dX8_withdraw_115 rfl rfl ?_
                exact J_iret (ty := .int) dX8_withdraw_116 rfl (rfl) (by rw [wdr_t c5 (isP_t hsrt hq hqy) (place_at hsrt hq hqy)]; exact ⟨Or.inl ⟨by rw [ji_Svn (by omega), hS1 11 (by decide)]; exact ji_Sis, rfl⟩, hB.row (wdrR_st hzK hq), (mFr.rf.si ⟨by omega, by omega⟩).tr (hF1.sv ⟨by omega, by omega⟩), _, rfl⟩)
              · have c64 := jleF (a := ((cNw A).2.1 - 1)) (b := k) (by omega) (by omega) c64
                refine J_aload_n (m) dX8_withdraw_67 rfl rfl ?_
                refine J_getrs (q := m + 1) Kr1 dX8_withdraw_68 (fun _ h => List.mem_cons_of_mem _ (List.mem_append_left _ (List.mem_append_right _ (h)))) cs11 (by decide) rfl (List.mem_of_getElem? (i := 1) rfl) rfl (show m < jn K from by omega) Km2 ?_
                refine J_sipush (x := 397) dX8_withdraw_71 (by decide) ?_
                refine J_iload_n dX8_withdraw_74 rfl rfl ?_
                refine J_iadd dX8_withdraw_75 ?_
                refine J_topi (y := nI (397 + k)) (nI_add (397) (k)) ?_
                refine J_aload_n (m) dX8_withdraw_76 rfl rfl ?_
                refine J_getrs (q := m + 1) Kr1 dX8_withdraw_77 (fun _ h => List.mem_cons_of_mem _ (List.mem_append_left _ (List.mem_append_right _ (h)))) cs11 (by decide) rfl (List.mem_of_getElem? (i := 1) rfl) rfl (show m < jn K from by omega) Km2 ?_
                refine J_sipush (x := 397) dX8_withdraw_80 (by decide) ?_
                refine J_iload_n dX8_withdraw_83 rfl rfl ?_
                refine J_iadd dX8_withdraw_84 ?_
                refine J_topi (y := nI (397 + k)) (nI_add (397) (k)) ?_
                refine J_iconst (x := 1) dX8_withdraw_85 (by decide) ?_
                refine J_iadd dX8_withdraw_86 ?_
                refine J_topi (y := nI (397 + k + 1)) (nI_add (397 + k) (1)) ?_
                refine J_ialdN (k := 397 + k + 1) dX8_withdraw_87 (show m + 1 < jn K from by omega) Kk1 (by exact Nat.lt_of_lt_of_eq (show _ < 427 by omega) (Eq.symm Kz1)) (by exact Nat.lt_of_le_of_lt (Nat.le_of_eq Kz1) (show 427 < 2 ^ 31 by omega)) ?_
                refine J_topi (y := (ji K (m + 1) (397 + k + 1))) (by rw [ji_Sv, if_pos rfl, mDel_at (by omega)]) ?_
                refine J_iastN (k := 397 + k) dX8_withdraw_88 (show m + 1 < jn K from by omega) Kk1 (by exact Nat.lt_of_lt_of_eq (show _ < 427 by omega) (Eq.symm Kz1)) (by exact Nat.lt_of_le_of_lt (Nat.le_of_eq Kz1) (show 427 < 2 ^ 31 by omega)) ?_
                refine J_mem (M' := jSv K (m + 1) (mDel (ji K (m + 1)) q (k + 1))) (by exact (jSi_Sv _ _ _ _ _).trans (congrArg (jSv K (m + 1)) (mDel_s hk.1))) ?_
                refine J_iinc (y := nI (k + 1)) (lv' := [.ref (m), .int (y), .int (nI (((cNw A).2.1 - 1))), .int (nI (k + 1))]) dX8_withdraw_89 rfl (jinc (k)) (by decide) rfl rfl ?_
                refine J_goto (tgt := 62) dX8_withdraw_92 (by decide) ?_
                exact ih62 (k + 1) (by omega) (by omega)
          refine J_istore_n (lv' := [.ref (m), .int (y), .int (nI (((cNw A).2.1 - 1))), .int (nI (q))]) dX8_withdraw_61 rfl (by decide) rfl rfl ?_
          exact L62 _ (q) (by omega) (Nat.lt_succ_self _)
        · exact absurd c36 (by decide)
      · refine J_iconst (x := 5) dX8_withdraw_28 (by decide) ?_
        refine J_goto (tgt := 33) dX8_withdraw_29 (by decide) ?_
        refine J_calli0 (jrunV (As := [.int (5)]) (ct_X8_refuses_n l D dA hst (jSi M m 11 ((0))) m hM 5 (by decide)) dX8_withdraw_33 yY_X8_refuses gX8_withdraw_X8_refuses rfl cs11 (show m < jn M from by omega) m2 rfl ⟨by omega, by omega⟩ ⟨Nat.zero_le _, Nat.zero_le _⟩ rfl (Nat.le_of_ble_eq_true rfl)) (rfl) (rfl) ?_
        refine J_if_eq dX8_withdraw_36 (tgt := 41) (by decide) (fun c36 => ?_) (fun c36 => ?_)
        · exact absurd c36 (by decide)
        · have c36 := jeqF (a := 1) (b := 0) (by omega) (by omega) c36
          refine J_iconst (x := 0) dX8_withdraw_39 (by decide) ?_
          exact J_iret (ty := .int) dX8_withdraw_40 rfl (rfl) (by rw [wdr_5 c5 (isP_f (okVer_m1 c5) (mPl_f (by omega) (by first | exact c25 | exact Int32.not_le.mp c25)))]; exact ⟨mAg.x 1 xUOE rfl (by decide) ji_Sis rfl, (hA.si rfl).ref (by decide), (((mFr.rf).si ⟨by omega, by omega⟩).si ⟨by omega, by omega⟩).si ⟨by omega, by omega⟩, _, rfl⟩)

