/-- what is gathered so far is well-formed, ahead of p -/
def pWf (p n : Nat) (f : Nat → Int32) : Prop := (∀ j, j < 2 * n → f j = nI (f j).toNatClampNeg ∧ (f j).toNatClampNeg < p) ∧ (∀ k, k < n → (f (2 * k)).toNatClampNeg ≤ (f (2 * k + 1)).toNatClampNeg) ∧ ∀ k, k + 1 < n → (f (2 * k + 1)).toNatClampNeg + 1 < (f (2 * k + 2)).toNatClampNeg
theorem pWf.m {p n x : Nat} {f : Nat → Int32} (h : pWf p n f) (hn : 0 < n) (hp : p < x) (hx : x ≤ 100000000) : pWf x n (upd f (2 * n - 1) (nI (x - 1))) := by
  obtain ⟨a, b, c⟩ := h
  have e1 : upd f (2 * n - 1) (nI (x - 1)) (2 * n - 1) = nI (x - 1) := by unfold upd; rw [if_pos rfl]
  have e2 : ∀ j, j ≠ 2 * n - 1 → upd f (2 * n - 1) (nI (x - 1)) j = f j := fun j hj => by unfold upd; rw [if_neg hj]
  have cl : (nI (x - 1)).toNatClampNeg = x - 1 := nI_clamp (by omega)
  refine ⟨fun j hj => ?_, fun k hk => ?_, fun k hk => ?_⟩
  · by_cases h9 : j = 2 * n - 1
    · rw [h9, e1, cl]; exact ⟨rfl, by omega⟩
    · rw [e2 j h9]; exact ⟨(a j hj).1, by have := (a j hj).2; omega⟩
  · rw [e2 (2 * k) (by omega)]
    by_cases h9 : 2 * k + 1 = 2 * n - 1
    · rw [h9, e1, cl]; have := (a (2 * k) (by omega)).2; omega
    · rw [e2 _ h9]; exact b k hk
  · rw [e2 (2 * k + 1) (by omega), e2 (2 * k + 2) (by omega)]; exact c k hk
theorem pWf.a {p n x : Nat} {f : Nat → Int32} (h : pWf p n f) (hj : ¬ (0 < 2 * n ∧ f (2 * n - 1) = nI p - 1)) (hp : p < x) (hx : x ≤ 100000000) : pWf x (n + 1) (upd (upd f (2 * n) (nI p)) (2 * n + 1) (nI (x - 1))) := by
  obtain ⟨a, b, c⟩ := h
  have e1 : upd (upd f (2 * n) (nI p)) (2 * n + 1) (nI (x - 1)) (2 * n + 1) = nI (x - 1) := by unfold upd; rw [if_pos rfl]
  have e0 : upd (upd f (2 * n) (nI p)) (2 * n + 1) (nI (x - 1)) (2 * n) = nI p := by unfold upd; rw [if_neg (by omega), if_pos rfl]
  have e2 : ∀ j, j < 2 * n → upd (upd f (2 * n) (nI p)) (2 * n + 1) (nI (x - 1)) j = f j := fun j hj => by unfold upd; rw [if_neg (by omega), if_neg (by omega)]
  have cl : (nI (x - 1)).toNatClampNeg = x - 1 := nI_clamp (by omega)
  have cp : (nI p).toNatClampNeg = p := nI_clamp (by omega)
  refine ⟨fun j hj => ?_, fun k hk => ?_, fun k hk => ?_⟩
  · by_cases h9 : j = 2 * n + 1
    · rw [h9, e1, cl]; exact ⟨rfl, by omega⟩
    · by_cases h8 : j = 2 * n
      · rw [h8, e0, cp]; exact ⟨rfl, hp⟩
      · rw [e2 j (by omega)]; exact ⟨(a j (by omega)).1, by have := (a j (by omega)).2; omega⟩
  · by_cases h9 : k = n
    · rw [h9, e0, e1, cl, cp]; omega
    · rw [e2 (2 * k) (by omega), e2 (2 * k + 1) (by omega)]; exact b k (by omega)
  · by_cases h9 : k + 1 = n
    · rw [e2 (2 * k + 1) (by omega), show 2 * k + 2 = 2 * n from by omega, e0, cp]
      have h7 := a (2 * k + 1) (by omega)
      refine Nat.lt_of_le_of_ne (by have := h7.2; omega) (fun h6 => hj ⟨by omega, ?_⟩)
      rw [show 2 * n - 1 = 2 * k + 1 from by omega, h7.1, nI_prd (by omega)]
      exact congrArg nI (by omega)
    · rw [e2 (2 * k + 1) (by omega), e2 (2 * k + 2) (by omega)]; exact c k (by omega)
theorem uS_wf {mt : Int32 → Bool} {nx : Int32 → Int32} {c : Nat → Nat} (hn : nxOk nx c) : ∀ fu p n f, p ≤ 100000000 → pWf p n f → ∃ n2, (uS mt nx fu (nI p) (2 * n) f).1 = 2 * n2 ∧ pWf 100000000 n2 (uS mt nx fu (nI p) (2 * n) f).2 := by
  intro fu
  induction fu with
  | zero => intro p n f hp h; exact ⟨n, rfl, ⟨fun j hj => ⟨(h.1 j hj).1, by have := (h.1 j hj).2; show (f j).toNatClampNeg < _; omega⟩, h.2⟩⟩
  | succ fu ih =>
    intro p n f hp h
    by_cases h9 : p = 100000000
    · rw [uS_e _ ((nI_most hp).mpr h9)]; subst h9; exact ⟨n, rfl, h⟩
    · have hp2 : p < 100000000 := by omega
      obtain ⟨x, e, h1, h2, h3⟩ := hn p hp2
      by_cases hmt : mt (nI p) = true
      · by_cases hj : 0 < 2 * n ∧ f (2 * n - 1) = nI p - 1
        · rw [uS_m (most_n hp2) hmt hj, e, nI_prd (by omega)]
          exact ih x n _ h2 (h.m (by omega) h1 h2)
        · rw [uS_a (most_n hp2) hmt hj, e, nI_prd (by omega)]
          exact ih x (n + 1) _ h2 (h.a hj h1 h2)
      · rw [uS_n (most_n hp2) hmt, e]
        exact ih x n f h2 ⟨fun j hj => ⟨(h.1 j hj).1, by have := (h.1 j hj).2; omega⟩, h.2⟩
theorem comb_wf {op : Int32} {a b : rVl} (ha : rWf a) (hb : rWf b) : rWf (vComb op a b) := by
  obtain ⟨n2, e, h⟩ := uS_wf (mt := fun y => vMeets op (rHolds a.2 a.1 y) (rHolds b.2 b.1 y)) (nx_two ha hb) (2 * (a.1 + b.1 + 1)) 0 0 (fun _ => 0) (by omega) ⟨fun j hj => absurd hj (by omega), fun k hk => absurd hk (by omega), fun k hk => absurd hk (by omega)⟩
  have e1 : (rComb op a.2 a.1 b.2 b.1).1 = 2 * n2 := by rw [comb_uS]; exact e
  have e2 : (rComb op a.2 a.1 b.2 b.1).2 = (uS (fun y => vMeets op (rHolds a.2 a.1 y) (rHolds b.2 b.1 y)) (fun y => rMin (rNext a.2 a.1 y) (rNext b.2 b.1 y)) (2 * (a.1 + b.1 + 1)) (nI 0) (2 * 0) (fun _ => 0)).2 := by rw [comb_uS]; rfl
  have e3 : vComb op a b = (n2, (rComb op a.2 a.1 b.2 b.1).2) := Prod.ext (by show _ / 2 = n2; rw [e1]; omega) rfl
  rw [e3, e2]
  exact h
theorem vGv_43 (p q : Bool) : vGv 43 p q = vMeets 0 p q := by cases p <;> cases q <;> decide
theorem rr_k {K K2 : jM} {m : Nat} {c : Nat → Int32} {L : Nat} {s s3 : gS} {D H : Nat → Int32} {y x1 x2 x3 : Int32} (hKd : mRd K m c L s) (hle : s3.1 ≤ L) (e : K2 = jSv (jSi (jSv (jSi (jSi (jSi (mRS K m s3) (m + 6) 33 x1) (m + 6) 34 x2) (m + 6) 35 x3) (m + 7) D) m 14 y) (m + 6) H) : mRd K2 m c L s3 ∧ mFr m K K2 ∧ mE m K K2 ∧ ji K2 m 11 = ji K m 11 := by
  subst e
  have h := hKd.rs s3 hle
  have hf : ∀ f, f ≠ 14 → ji (jSv (jSi (jSv (jSi (jSi (jSi (mRS K m s3) (m + 6) 33 x1) (m + 6) 34 x2) (m + 6) 35 x3) (m + 7) D) m 14 y) (m + 6) H) m f = ji (mRS K m s3) m f := fun f hf => by
    rw [ji_Svn (by omega), ji_Sik hf, ji_Svn (by omega), ji_Sin (by omega), ji_Sin (by omega), ji_Sin (by omega)]
  have hr : ∀ a, a ≠ m → a ≠ m + 6 → a ≠ m + 7 → ji (jSv (jSi (jSv (jSi (jSi (jSi (mRS K m s3) (m + 6) 33 x1) (m + 6) 34 x2) (m + 6) 35 x3) (m + 7) D) m 14 y) (m + 6) H) a = ji (mRS K m s3) a := fun a h1 h2 h3 => funext fun j => by
    rw [ji_Svn h2, ji_Sin h1, ji_Svn h3, ji_Sin h2, ji_Sin h2, ji_Sin h2]
  obtain ⟨a1, a2, a3, a4, a5, b1, b2, b3, b4, b5, b6⟩ := h
  refine ⟨⟨a1, by rw [hf 6 (by decide)]; exact a2, a3, fun j hj => by rw [hr (m + 4) (by omega) (by omega) (by omega)]; exact a4 j hj, a5, ?_, ?_, ?_, ?_, ?_, ?_⟩, ?_, ?_, ?_⟩
  · rw [hf 15 (by decide)]; exact b1
  · rw [hf 16 (by decide)]; exact b2
  · rw [hf 17 (by decide)]; exact b3
  · rw [hf 18 (by decide)]; exact b4
  · rw [hf 19 (by decide)]; exact b5
  · rw [hf 20 (by decide)]; exact b6
  · exact ((((((mRS_F.si ⟨by omega, by omega⟩).si ⟨by omega, by omega⟩).si ⟨by omega, by omega⟩).sv ⟨by omega, by omega⟩).si ⟨by omega, by omega⟩).sv ⟨by omega, by omega⟩)
  · exact ((((((mRS_E.sr (by omega)).sr (by omega)).sr (by omega)).sv (by omega)).si rfl).sv (by omega))
  · rw [hf 11 (by decide), mRS_o (by omega)]
theorem rr_h {K : jM} {m : Nat} {s3 : gS} {w : rVl} {x y : Int32} (h : mSlot (ji K (m + 6)) 0 (some w)) : mSlot (ji (jSi (jSi (jSi (mRS K m s3) (m + 6) 33 (nI (rSp x y).1)) (m + 6) 34 x) (m + 6) 35 y) (m + 6)) 0 (some w) ∧ mSlot (ji (jSi (jSi (jSi (mRS K m s3) (m + 6) 33 (nI (rSp x y).1)) (m + 6) 34 x) (m + 6) 35 y) (m + 6)) 33 (some (rSp x y)) := by
  obtain ⟨h1, h2, h3⟩ := h
  have hr : ji (mRS K m s3) (m + 6) = ji K (m + 6) := mRS_r (by omega)
  refine ⟨⟨?_, h2, fun i hi => ?_⟩, ⟨?_, ?_, fun i hi => ?_⟩⟩
  · rw [ji_Sik (by omega), ji_Sik (by omega), ji_Sik (by omega), hr]; exact h1
  · rw [ji_Sik (by omega), ji_Sik (by omega), ji_Sik (by omega), hr]; exact h3 i hi
  · rw [ji_Sik (by omega), ji_Sik (by omega)]; exact ji_Sis
  · unfold rSp; show (if x ≤ y then 1 else 0) ≤ 16; split <;> omega
  · have h9 : i < 2 * (if x ≤ y then 1 else 0) := hi
    have h8 : i < 2 := by split at h9 <;> omega
    show _ = if i = 0 then x else y
    rcases (show i = 0 ∨ i = 1 from by omega) with rfl | rfl
    · rw [ji_Sik (by omega)]; exact ji_Sis
    · exact ji_Sis
theorem iMx_nn {x y : Int32} (h : ¬ x < 0) : ¬ iMx x y < 0 := by
  unfold iMx
  split
  · rename_i h2; exact fun h9 => h (Int32.lt_trans h2 h9)
  · exact h
theorem rMin_mx {x y : Int32} (h : x ≤ 99999999) : rMin x y ≤ 99999999 := by
  unfold rMin
  split
  · rename_i h2; exact Int32.le_trans (Int32.le_of_lt h2) h
  · exact h
theorem rRw_t {c : Nat → Int32} {L fu p : Nat} {lo hi : Int32} {b : Bool} (h : (rPt c L p lo hi b).1 = true) (h2 : tIsAt c L (rPt c L p lo hi b).2.1 32 = true) : rRwGo c L (fu + 1) p lo hi b = rRwGo c L fu ((rPt c L p lo hi b).2.1 + 1) (rPt c L p lo hi b).2.2.1 (rPt c L p lo hi b).2.2.2.1 (rPt c L p lo hi b).2.2.2.2 := by
  conv => lhs; unfold rRwGo
  rw [if_pos h, if_pos h2]
theorem rRw_e {c : Nat → Int32} {L fu p : Nat} {lo hi : Int32} {b : Bool} (h : (rPt c L p lo hi b).1 = true) (h2 : tIsAt c L (rPt c L p lo hi b).2.1 32 = false) : rRwGo c L (fu + 1) p lo hi b = (true, (rPt c L p lo hi b).2) := by
  conv => lhs; unfold rRwGo
  rw [if_pos h, if_neg (by rw [h2]; decide)]
theorem rRw_b {c : Nat → Int32} {L fu p : Nat} {lo hi : Int32} {b : Bool} (h : (rPt c L p lo hi b).1 = false) : rRwGo c L (fu + 1) p lo hi b = (false, (rPt c L p lo hi b).2) := by
  conv => lhs; unfold rRwGo
  rw [if_neg (by rw [h]; decide)]
theorem rRs9_b {c : Nat → Int32} {L fu p : Nat} {x y : Int32} {b : Bool} {w : rVl} (h : (rRow c L p b).1 = false) : rRs c L (fu + 1) p x y b w.1 w.2 = ((false, (rRow c L p b).2), w) := by
  conv => lhs; unfold rRs
  rw [if_neg (by rw [h]; decide)]
theorem rRs9_e {c : Nat → Int32} {L fu p : Nat} {x y lo hi : Int32} {b b2 : Bool} {q : Nat} {w : rVl} (h : rRow c L p b = (true, q, lo, hi, b2)) (h2 : tIsAt c L q 124 = false) : rRs c L (fu + 1) p x y b w.1 w.2 = ((decide (q = L), q, lo, hi, b2), vComb 0 w (rSp lo hi)) := by
  conv => lhs; unfold rRs
  rw [h]
  dsimp only
  rw [if_pos rfl, if_neg (by rw [h2]; decide)]
  rfl
theorem rRs9_t {c : Nat → Int32} {L fu p : Nat} {x y lo hi : Int32} {b b2 : Bool} {q : Nat} {w : rVl} (h : rRow c L p b = (true, q, lo, hi, b2)) (h2 : tIsAt c L q 124 = true) : rRs c L (fu + 1 + 1) p x y b w.1 w.2 = rRs c L (fu + 1) (q + 1) 0 0 b2 (vComb 0 w (rSp lo hi)).1 (vComb 0 w (rSp lo hi)).2 := by
  conv => lhs; unfold rRs
  rw [h]
  dsimp only
  rw [if_pos rfl, if_pos h2]
  rfl
/-- what reading a text of a range leaves -/
def mRg (M : jM) (m : Nat) (c : Nat → Int32) (L : Nat) (z : rZ) : jP := fun o M1 => ∃ b s, o = oI (jb b) ∧ mRd M1 m c L s ∧ s.2.1 = !z.1.1 ∧ s.1 = z.1.2.1 ∧ mFr m M M1 ∧ mE m M M1 ∧ ji M1 m 11 = ji M m 11 ∧ (z.1.1 = true → b = true ∧ s.2.2.1 = z.1.2.2.2.2 ∧ mSlot (ji M1 (m + 6)) 0 (some z.2) ∧ z.2.1 ≤ 16 ∧ rWf z.2)
def rz0 (c : Nat → Int32) (L : Nat) : rZ := rRs c L (L + 1) 0 0 99999999 false 0 (fun _ => 0)
theorem dX8_begins_0 : decode cX8_begins 0 = .ok (.aload_n 0, 1) := by decide +kernel
theorem dX8_begins_1 : decode cX8_begins 1 = .ok (.iconst 0, 1) := by decide +kernel
theorem dX8_begins_2 : decode cX8_begins 2 = .ok (.putfield 81, 3) := by decide +kernel
theorem dX8_begins_5 : decode cX8_begins 5 = .ok (.aload_n 0, 1) := by decide +kernel
theorem dX8_begins_6 : decode cX8_begins 6 = .ok (.iconst 0, 1) := by decide +kernel
theorem dX8_begins_7 : decode cX8_begins 7 = .ok (.putfield 87, 3) := by decide +kernel
theorem dX8_begins_10 : decode cX8_begins 10 = .ok (.aload_n 0, 1) := by decide +kernel
theorem dX8_begins_11 : decode cX8_begins 11 = .ok (.iconst 0, 1) := by decide +kernel
theorem dX8_begins_12 : decode cX8_begins 12 = .ok (.putfield 112, 3) := by decide +kernel
theorem dX8_begins_15 : decode cX8_begins 15 = .ok (.return_, 1) := by decide +kernel
set_option maxHeartbeats 400000 in
set_option maxRecDepth 20000 in
theorem ct_X8_begins (l : Launch) (D : va_G) (dA : Nat → ClassId) (hst : l.stackTraces = false) (M : jM) (m : Nat) (hM : mOk M m) : jCT l D dA yX8_begins wsX8_begins (20) (300) (0) (0) 0 [.ref (m)] M (jPo (oV) (jSi (jSi (jSi M m 15 0) m 16 0) m 17 0)) := by
  refine jBody (cc := cX8_begins) (nL := 1) (rt := none) (ini := false) (by decide) rfl hst (Nat.le_of_ble_eq_true rfl) (by simp [Value.category]) (by intro h9; first | exact absurd h9 (by decide) | rfl) ?_
  show J l D dA RX8 cX8_begins wsX8_begins 1 false none [] (20) (300) (jF D dA (jn M) (jPo (oV) (jSi (jSi (jSi M m 15 0) m 16 0) m 17 0)) 0) (jn M) (0) (0) (M) 0 [.ref (m)] []
  obtain ⟨m1, m2, ⟨r1, r2, r3, r4, r5, r6, r7, r8, r9, r10, r11, r12, r13⟩, ⟨k1, k2, k3, k4, k5, k6, k7, k8, k9, k10, k11, k12, k13⟩, z1, z2, z3, z4, z5, z6, z7, z8, z9, z10, z11, z12, z13⟩ := id hM
  refine J_aload_n (m) dX8_begins_0 rfl rfl ?_
  refine J_iconst (x := 0) dX8_begins_1 (by decide) ?_
  refine J_puti (j := 15) (x := (0)) dX8_begins_2 (fun _ h => List.mem_cons_of_mem _ (List.mem_append_right _ (h))) cs11 cty11 (by decide) rfl (List.mem_of_getElem? (i := 1) rfl) rfl rfl ⟨rfl, rfl⟩ (show m < jn M from by omega) m2 ?_
  refine J_aload_n (m) dX8_begins_5 rfl rfl ?_
  refine J_iconst (x := 0) dX8_begins_6 (by decide) ?_
  refine J_puti (j := 16) (x := (0)) dX8_begins_7 (fun _ h => List.mem_cons_of_mem _ (List.mem_append_right _ (h))) cs11 cty11 (by decide) rfl (List.mem_of_getElem? (i := 2) rfl) rfl rfl ⟨rfl, rfl⟩ (show m < jn M from by omega) m2 ?_
  refine J_aload_n (m) dX8_begins_10 rfl rfl ?_
  refine J_iconst (x := 0) dX8_begins_11 (by decide) ?_
  refine J_puti (j := 17) (x := (0)) dX8_begins_12 (fun _ h => List.mem_cons_of_mem _ (List.mem_append_right _ (h))) cs11 cty11 (by decide) rfl (List.mem_of_getElem? (i := 3) rfl) rfl rfl ⟨rfl, rfl⟩ (show m < jn M from by omega) m2 ?_
  exact J_vret dX8_begins_15 rfl ⟨(by rfl), (by rfl)⟩

theorem dX8_readRange_0 : decode cX8_readRange 0 = .ok (.iconst 1, 1) := by decide +kernel
theorem dX8_readRange_1 : decode cX8_readRange 1 = .ok (.istore_n 1, 1) := by decide +kernel
theorem dX8_readRange_2 : decode cX8_readRange 2 = .ok (.aload_n 0, 1) := by decide +kernel
theorem dX8_readRange_3 : decode cX8_readRange 3 = .ok (.getfield 32, 3) := by decide +kernel
theorem dX8_readRange_6 : decode cX8_readRange 6 = .ok (.iconst 0, 1) := by decide +kernel
theorem dX8_readRange_7 : decode cX8_readRange 7 = .ok (.iconst 0, 1) := by decide +kernel
theorem dX8_readRange_9 : decode cX8_readRange 9 = .ok (.iconst 0, 1) := by decide +kernel
theorem dX8_readRange_10 : decode cX8_readRange 10 = .ok (.istore_n 2, 1) := by decide +kernel
theorem dX8_readRange_11 : decode cX8_readRange 11 = .ok (.ldc 59, 2) := by decide +kernel
theorem dX8_readRange_14 : decode cX8_readRange 14 = .ok (.aload_n 0, 1) := by decide +kernel
theorem dX8_readRange_15 : decode cX8_readRange 15 = .ok (.invokevirtual 141, 3) := by decide +kernel
set_option maxRecDepth 20000 in
theorem ggX8_readRange_X8_readPart : GoodIn wsX8_readRange wsX8_readPart := goodIn_ca (goodIn_ca (goodIn_r _ [12, 3, 2, 4, 13, 14, 15, 11, 16, 5, 6, 17, 18, 19, 20, 7, 21, 22, 23, 24, 25, 26, 27, 28, 29, 30, 31, 32, 33, 34, 35, 36, 37, 38, 39, 40, 41, 42, 43, 44, 45, 46, 47, 48, 49, 50, 51, 52, 53, 54, 55, 56, 57, 74, 75, 76, 77, 78, 79, 80, 81, 82, 83, 84, 85, 86, 87, 88, 89, 90, 91, 92, 93, 94, 95, 96, 97, 98, 99, 100, 101, 102, 103, 104] (by decide +kernel) (by decide +kernel)) (goodIn_sub (fun _ h => List.mem_cons_of_mem _ (List.mem_append_left _ (List.mem_append_right _ h))) (by decide +kernel))) (goodIn_sub (fun _ h => List.mem_cons_of_mem _ (List.mem_append_right _ h)) (by decide +kernel))
set_option maxRecDepth 20000 in
theorem gX8_readRange_X8_readPart : GoodIn wsX8_readRange (wsV RX8 141 RX8 yX8_readPart wsX8_readPart) := goodIn_app (goodIn_of _ (by decide +kernel)) ggX8_readRange_X8_readPart
theorem yY_X8_readPart : jY yX8_readPart wsX8_readPart cX8_readPart 2 none 0 := ⟨⟨_, rfl⟩, by decide +kernel, by decide +kernel, by decide +kernel⟩
theorem dX8_readRange_35 : decode cX8_readRange 35 = .ok (.aload_n 0, 1) := by decide +kernel
theorem dX8_readRange_36 : decode cX8_readRange 36 = .ok (.getfield 128, 3) := by decide +kernel
theorem dX8_readRange_52 : decode cX8_readRange 52 = .ok (.aload_n 0, 1) := by decide +kernel
theorem dX8_readRange_53 : decode cX8_readRange 53 = .ok (.bipush 32, 2) := by decide +kernel
theorem dX8_readRange_55 : decode cX8_readRange 55 = .ok (.invokevirtual 95, 3) := by decide +kernel
set_option maxRecDepth 20000 in
theorem ggX8_readRange_X8_isHere : GoodIn wsX8_readRange wsX8_isHere := goodIn_ca (goodIn_r _ [16, 5, 6, 17, 18, 19, 11, 20, 7, 21, 74, 75, 76, 77, 78, 79, 80, 81, 82, 83, 84, 85, 86, 87, 88, 89, 90, 91, 92, 93, 94, 95, 96, 97, 98, 99, 100, 101, 102, 103, 104] (by decide +kernel) (by decide +kernel)) (goodIn_sub (fun _ h => List.mem_cons_of_mem _ (List.mem_append_left _ (List.mem_append_right _ h))) (by decide +kernel))
set_option maxRecDepth 20000 in
theorem gX8_readRange_X8_isHere : GoodIn wsX8_readRange (wsV RX8 95 RX8 yX8_isHere wsX8_isHere) := goodIn_app (goodIn_of _ (by decide +kernel)) ggX8_readRange_X8_isHere
theorem dX8_readRange_58 : decode cX8_readRange 58 = .ok (.ifCond .ne (-44), 3) := by decide +kernel
theorem dX8_readRange_61 : decode cX8_readRange 61 = .ok (.aload_n 0, 1) := by decide +kernel
theorem dX8_readRange_62 : decode cX8_readRange 62 = .ok (.getfield 32, 3) := by decide +kernel
theorem dX8_readRange_65 : decode cX8_readRange 65 = .ok (.bipush 33, 2) := by decide +kernel
theorem dX8_readRange_78 : decode cX8_readRange 78 = .ok (.aload_n 0, 1) := by decide +kernel
theorem dX8_readRange_79 : decode cX8_readRange 79 = .ok (.getfield 32, 3) := by decide +kernel
theorem dX8_readRange_82 : decode cX8_readRange 82 = .ok (.bipush 34, 2) := by decide +kernel
theorem dX8_readRange_84 : decode cX8_readRange 84 = .ok (.iload_n 2, 1) := by decide +kernel
theorem dX8_readRange_85 : decode cX8_readRange 85 = .ok (.iastore, 1) := by decide +kernel
theorem dX8_readRange_86 : decode cX8_readRange 86 = .ok (.aload_n 0, 1) := by decide +kernel
theorem dX8_readRange_87 : decode cX8_readRange 87 = .ok (.getfield 32, 3) := by decide +kernel
theorem dX8_readRange_90 : decode cX8_readRange 90 = .ok (.bipush 35, 2) := by decide +kernel
theorem dX8_readRange_92 : decode cX8_readRange 92 = .ok (.iload_n 3, 1) := by decide +kernel
theorem dX8_readRange_93 : decode cX8_readRange 93 = .ok (.iastore, 1) := by decide +kernel
theorem dX8_readRange_94 : decode cX8_readRange 94 = .ok (.iload_n 1, 1) := by decide +kernel
theorem dX8_readRange_95 : decode cX8_readRange 95 = .ok (.ifCond .eq 20, 3) := by decide +kernel
theorem dX8_readRange_98 : decode cX8_readRange 98 = .ok (.aload_n 0, 1) := by decide +kernel
theorem dX8_readRange_99 : decode cX8_readRange 99 = .ok (.bipush 43, 2) := by decide +kernel
theorem dX8_readRange_101 : decode cX8_readRange 101 = .ok (.iconst 0, 1) := by decide +kernel
theorem dX8_readRange_102 : decode cX8_readRange 102 = .ok (.bipush 33, 2) := by decide +kernel
theorem dX8_readRange_104 : decode cX8_readRange 104 = .ok (.iconst 0, 1) := by decide +kernel
theorem dX8_readRange_105 : decode cX8_readRange 105 = .ok (.invokevirtual 144, 3) := by decide +kernel
set_option maxRecDepth 20000 in
theorem ggX8_readRange_X8_joins : GoodIn wsX8_readRange wsX8_joins := goodIn_ca (goodIn_r _ [61, 2, 1, 62, 63, 64, 11, 65, 52, 66, 67, 68, 69, 70, 71, 72, 73, 74, 75, 76, 77, 78, 79, 80, 81, 82, 83, 84, 85, 86, 87, 88, 89, 90, 91, 92, 93, 94, 95, 96, 97, 98, 99, 100, 101, 102, 103, 104] (by decide +kernel) (by decide +kernel)) (goodIn_sub (fun _ h => List.mem_cons_of_mem _ (List.mem_append_left _ (List.mem_append_right _ h))) (by decide +kernel))
set_option maxRecDepth 20000 in
theorem gX8_readRange_X8_joins : GoodIn wsX8_readRange (wsV RX8 144 RX8 yX8_joins wsX8_joins) := goodIn_app (goodIn_of _ (by decide +kernel)) ggX8_readRange_X8_joins
theorem yY_X8_joins : jY yX8_joins wsX8_joins cX8_joins 10 (some .boolean) 4 := ⟨⟨_, rfl⟩, by decide +kernel, by decide +kernel, by decide +kernel⟩
theorem dX8_readRange_108 : decode cX8_readRange 108 = .ok (.ifCond .eq 7, 3) := by decide +kernel
theorem dX8_readRange_111 : decode cX8_readRange 111 = .ok (.iconst 1, 1) := by decide +kernel
theorem dX8_readRange_112 : decode cX8_readRange 112 = .ok (.goto 4, 3) := by decide +kernel
theorem dX8_readRange_116 : decode cX8_readRange 116 = .ok (.istore_n 1, 1) := by decide +kernel
theorem dX8_readRange_117 : decode cX8_readRange 117 = .ok (.aload_n 0, 1) := by decide +kernel
theorem dX8_readRange_118 : decode cX8_readRange 118 = .ok (.bipush 124, 2) := by decide +kernel
theorem dX8_readRange_120 : decode cX8_readRange 120 = .ok (.invokevirtual 95, 3) := by decide +kernel
theorem dX8_readRange_123 : decode cX8_readRange 123 = .ok (.ifCond .ne (-114), 3) := by decide +kernel
theorem dX8_readRange_126 : decode cX8_readRange 126 = .ok (.aload_n 0, 1) := by decide +kernel
theorem dX8_readRange_127 : decode cX8_readRange 127 = .ok (.getfield 87, 3) := by decide +kernel
theorem dX8_readRange_130 : decode cX8_readRange 130 = .ok (.ifCond .ne 18, 3) := by decide +kernel
theorem dX8_readRange_133 : decode cX8_readRange 133 = .ok (.aload_n 0, 1) := by decide +kernel
theorem dX8_readRange_134 : decode cX8_readRange 134 = .ok (.getfield 81, 3) := by decide +kernel
theorem dX8_readRange_137 : decode cX8_readRange 137 = .ok (.aload_n 0, 1) := by decide +kernel
theorem dX8_readRange_138 : decode cX8_readRange 138 = .ok (.getfield 84, 3) := by decide +kernel
theorem dX8_readRange_141 : decode cX8_readRange 141 = .ok (.if_icmp .ge 7, 3) := by decide +kernel
theorem dX8_readRange_148 : decode cX8_readRange 148 = .ok (.iload_n 1, 1) := by decide +kernel
theorem dX8_readRange_149 : decode cX8_readRange 149 = .ok (.ireturn, 1) := by decide +kernel
theorem dX8_readRange_144 : decode cX8_readRange 144 = .ok (.aload_n 0, 1) := by decide +kernel
theorem dX8_readRange_145 : decode cX8_readRange 145 = .ok (.invokevirtual 99, 3) := by decide +kernel
set_option maxRecDepth 20000 in
theorem ggX8_readRange_X8_bad : GoodIn wsX8_readRange wsX8_bad := goodIn_r _ [39, 5, 74, 75, 76, 77, 78, 79, 80, 81, 82, 83, 84, 85, 86, 87, 88, 89, 90, 91, 92, 93, 94, 95, 96, 97, 98, 99, 100, 101, 102, 103, 104] (by decide +kernel) (by decide +kernel)
set_option maxRecDepth 20000 in
theorem gX8_readRange_X8_bad : GoodIn wsX8_readRange (wsV RX8 99 RX8 yX8_bad wsX8_bad) := goodIn_app (goodIn_of _ (by decide +kernel)) ggX8_readRange_X8_bad
theorem dX8_readRange_67 : decode cX8_readRange 67 = .ok (.iload_n 2, 1) := by decide +kernel
theorem dX8_readRange_68 : decode cX8_readRange 68 = .ok (.iload_n 3, 1) := by decide +kernel
theorem dX8_readRange_69 : decode cX8_readRange 69 = .ok (.if_icmp .gt 7, 3) := by decide +kernel
theorem dX8_readRange_76 : decode cX8_readRange 76 = .ok (.iconst 0, 1) := by decide +kernel
theorem dX8_readRange_77 : decode cX8_readRange 77 = .ok (.iastore, 1) := by decide +kernel
theorem dX8_readRange_72 : decode cX8_readRange 72 = .ok (.iconst 1, 1) := by decide +kernel
theorem dX8_readRange_73 : decode cX8_readRange 73 = .ok (.goto 4, 3) := by decide +kernel
theorem dX8_readRange_39 : decode cX8_readRange 39 = .ok (.iload_n 3, 1) := by decide +kernel
theorem dX8_readRange_40 : decode cX8_readRange 40 = .ok (.if_icmp .ge 10, 3) := by decide +kernel
theorem dX8_readRange_50 : decode cX8_readRange 50 = .ok (.iload_n 3, 1) := by decide +kernel
theorem dX8_readRange_51 : decode cX8_readRange 51 = .ok (.istore_n 3, 1) := by decide +kernel
theorem dX8_readRange_43 : decode cX8_readRange 43 = .ok (.aload_n 0, 1) := by decide +kernel
theorem dX8_readRange_44 : decode cX8_readRange 44 = .ok (.getfield 128, 3) := by decide +kernel
theorem dX8_readRange_47 : decode cX8_readRange 47 = .ok (.goto 4, 3) := by decide +kernel
theorem dX8_readRange_18 : decode cX8_readRange 18 = .ok (.aload_n 0, 1) := by decide +kernel
theorem dX8_readRange_19 : decode cX8_readRange 19 = .ok (.getfield 124, 3) := by decide +kernel
theorem dX8_readRange_22 : decode cX8_readRange 22 = .ok (.iload_n 2, 1) := by decide +kernel
theorem dX8_readRange_23 : decode cX8_readRange 23 = .ok (.if_icmp .le 10, 3) := by decide +kernel
theorem dX8_readRange_33 : decode cX8_readRange 33 = .ok (.iload_n 2, 1) := by decide +kernel
theorem dX8_readRange_34 : decode cX8_readRange 34 = .ok (.istore_n 2, 1) := by decide +kernel
theorem dX8_readRange_26 : decode cX8_readRange 26 = .ok (.aload_n 0, 1) := by decide +kernel
theorem dX8_readRange_27 : decode cX8_readRange 27 = .ok (.getfield 124, 3) := by decide +kernel
theorem dX8_readRange_30 : decode cX8_readRange 30 = .ok (.goto 4, 3) := by decide +kernel
theorem dX8_readRange_115 : decode cX8_readRange 115 = .ok (.iconst 0, 1) := by decide +kernel
theorem dX8_readRange_13 : decode cX8_readRange 13 = .ok (.istore_n 3, 1) := by decide +kernel
theorem dX8_readRange_8 : decode cX8_readRange 8 = .ok (.iastore, 1) := by decide +kernel
set_option maxHeartbeats 400000 in
set_option maxRecDepth 20000 in
theorem ct_X8_readRange (l : Launch) (D : va_G) (dA : Nat → ClassId) (hst : l.stackTraces = false) (M : jM) (m : Nat) (c : Nat → Int32) (L : Nat) (nu0 a0 b0 : Int32) (hS : mRd M m c L (0, false, false, nu0, a0, b0)) (z : rZ) (hz0 : rRs c L (L + 1) 0 0 0 false 0 (fun _ => 0) = z) : jCT l D dA yX8_readRange wsX8_readRange (26) (660) (0) (0) 1 [.ref (m)] M (mRg M m c L z) := by
  refine jBody (cc := cX8_readRange) (nL := 4) (rt := (some .boolean)) (ini := false) (by decide) rfl hst (Nat.le_of_ble_eq_true rfl) (by simp [Value.category]) (by intro h9; first | exact absurd h9 (by decide) | rfl) ?_
  show J l D dA RX8 cX8_readRange wsX8_readRange 4 false (some .boolean) [] (26) (660) (jF D dA (jn M) (mRg M m c L z) 1) (jn M) (0) (0) (M) 0 [.ref (m), .float 0, .float 0, .float 0] []
  obtain ⟨hM, hL6, hL60, hbuf, hple, -⟩ := id hS
  obtain ⟨m1, m2, ⟨r1, r2, r3, r4, r5, r6, r7, r8, r9, r10, r11, r12, r13⟩, ⟨k1, k2, k3, k4, k5, k6, k7, k8, k9, k10, k11, k12, k13⟩, z1, z2, z3, z4, z5, z6, z7, z8, z9, z10, z11, z12, z13⟩ := id hM
  refine J_iconst (x := 1) dX8_readRange_0 (by decide) ?_
  refine J_istore_n (lv' := [.ref (m), .int (1), .float 0, .float 0]) dX8_readRange_1 rfl (by decide) rfl rfl ?_
  refine J_aload_n (m) dX8_readRange_2 rfl rfl ?_
  refine J_getrs (q := m + 6) r6 dX8_readRange_3 (fun _ h => List.mem_cons_of_mem _ (List.mem_append_left _ (List.mem_append_left _ (List.mem_append_right _ (h))))) cs11 (by decide) rfl (List.mem_of_getElem? (i := 1) rfl) rfl (show m < jn M from by omega) m2 ?_
  refine J_iconst (x := 0) dX8_readRange_6 (by decide) ?_
  refine J_iconst (x := 0) dX8_readRange_7 (by decide) ?_
  have hKd0 : mRd (jSi M (m + 6) 0 0) m c L (0, false, false, nu0, a0, b0) := by
    obtain ⟨a1, a2, a3, a4, a5, a6⟩ := hS
    have e : ji (jSi M (m + 6) 0 0) m = ji M m := funext fun j => ji_Sin (by omega)
    exact ⟨a1, by rw [e]; exact a2, a3, fun j hj => by rw [ji_Sin (by omega)]; exact a4 j hj, a5, by rw [e]; exact a6⟩
  have hsl0 : mSlot (ji (jSi M (m + 6) 0 0) (m + 6)) 0 (some (0, fun _ => 0)) := ⟨ji_Sis, Nat.zero_le _, fun i hi => absurd hi (by show ¬ i < 2 * 0; omega)⟩
  have hw0 : rWf (0, fun _ => 0) := ⟨fun j hj => absurd hj (by show ¬ j < 2 * 0; omega), fun k hk => absurd hk (by show ¬ k < 0; omega), fun k hk => absurd hk (by show ¬ k + 1 < 0; omega)⟩
  have hF0 : mFr m M (jSi M (m + 6) 0 0) := mFr.rf.si ⟨by omega, by omega⟩
  have hE0 : mE m M (jSi M (m + 6) 0 0) := mE.rf.sr (by omega)
  have L9 : ∀ (fuel : Nat) (fu : Nat) (p : Nat) (lt : Bool) (nu : Int32) (a : Int32) (b : Int32) (w : rVl) (K : jM) (hKd : mRd K m c L (p, false, lt, nu, a, b)) (hsl : mSlot (ji K (m + 6)) 0 (some w)) (hw : rWf w) (hwn : w.1 ≤ 1 + p / 4) (hI : rRs c L (fu + 1) p 0 0 lt w.1 w.2 = z) (hfu : L - p ≤ fu) (hFK : mFr m M K) (hEK : mE m M K) (hcK : ji K m 11 = ji M m 11), L - p < fuel → J l D dA RX8 cX8_readRange wsX8_readRange 4 false (some .boolean) [] (26) (660) (jF D dA (jn M) (mRg M m c L z) 1) (jn M) (0) (0) (K) 9 [.ref (m), .int (1), .float 0, .float 0] [] := by
    intro fuel
    induction fuel with
    | zero => intro fu p lt nu a b w K hKd hsl hw hwn hI hfu hFK hEK hcK hm; exact absurd hm (Nat.not_lt_zero _)
    | succ fuel ih9 =>
      intro fu p lt nu a b w K hKd hsl hw hwn hI hfu hFK hEK hcK hm9
      have hpL : p ≤ L := hKd.le
      obtain ⟨Km1, Km2, ⟨Kr1, Kr2, Kr3, Kr4, Kr5, Kr6, Kr7, Kr8, Kr9, Kr10, Kr11, Kr12, Kr13⟩, ⟨Kk1, Kk2, Kk3, Kk4, Kk5, Kk6, Kk7, Kk8, Kk9, Kk10, Kk11, Kk12, Kk13⟩, Kz1, Kz2, Kz3, Kz4, Kz5, Kz6, Kz7, Kz8, Kz9, Kz10, Kz11, Kz12, Kz13⟩ := id hKd.1
      have h16w := hsl.2.1
      refine J_iconst (x := 0) dX8_readRange_9 (by decide) ?_
      refine J_istore_n (lv' := [.ref (m), .int (1), .int (0), .float 0]) dX8_readRange_10 rfl (by decide) rfl rfl ?_
      refine J_ldc (x := 99999999) dX8_readRange_11 (List.mem_of_getElem? (i := 2) rfl) ?_
      refine J_mem (M' := mRS K m (p, false, lt, nu, a, b)) (by exact hKd.self) ?_
      have L14 : ∀ (fuel : Nat) (fu2 : Nat) (p2 : Nat) (lt2 : Bool) (nu2 : Int32) (a2 : Int32) (b2 : Int32) (first : Int32) (last : Int32) (hp2 : p2 ≤ L) (h0 : ¬ first < 0) (h1 : last ≤ 99999999) (hR : rRwGo c L (fu2 + 1) p2 first last lt2 = rRow c L p lt) (hf2 : L - p2 ≤ fu2) (hG : p2 = p ∧ first = 0 ∧ last = 99999999 ∨ p + 2 ≤ p2 ∧ p ≤ p2), L - p2 < fuel → J l D dA RX8 cX8_readRange wsX8_readRange 4 false (some .boolean) [] (26) (660) (jF D dA (jn M) (mRg M m c L z) 1) (jn M) (0) (0) ((mRS K m (p2, false, lt2, nu2, a2, b2))) 14 [.ref (m), .int (1), .int (first), .int (last)] [] := by
        intro fuel
        induction fuel with
        | zero => intro fu2 p2 lt2 nu2 a2 b2 first last hp2 h0 h1 hR hf2 hG hm; exact absurd hm (Nat.not_lt_zero _)
        | succ fuel ih14 =>
          intro fu2 p2 lt2 nu2 a2 b2 first last hp2 h0 h1 hR hf2 hG hm14
          refine J_aload_n (m) dX8_readRange_14 rfl rfl ?_
          refine J_callv0 (jrunV (As := []) (ct_X8_readPart l D dA hst ((mRS K m (p2, false, lt2, nu2, a2, b2))) m c L ((p2, false, lt2, nu2, a2, b2)) (hKd.rs (p2, false, lt2, nu2, a2, b2) hp2)) dX8_readRange_15 yY_X8_readPart gX8_readRange_X8_readPart rfl cs11 (show m < jn K from by omega) Km2 rfl ⟨by omega, by omega⟩ ⟨Nat.zero_le _, Nat.zero_le _⟩ rfl (Nat.le_of_ble_eq_true rfl)) (rfl) (rfl) ?_
          refine J_mem (M' := mRS K m (gPrt c L ((p2, false, lt2, nu2, a2, b2)))) (mRS_RS _ _ _ _) ?_
          have hQ := gPrt_rPt (c := c) (L := L) (p := p2) (lt := lt2) (nu := nu2) (a := a2) (b := b2) h0 h1
          obtain ⟨s3, hs3⟩ : ∃ s3, s3 = gPrt c L (p2, false, lt2, nu2, a2, b2) := ⟨_, rfl⟩
          rw [← hs3] at hQ
          have hle3 : s3.1 ≤ L := by rw [hs3]; exact gPrt_le hp2
          refine J_mem (M' := mRS K m s3) (by rw [hs3]) ?_
          obtain ⟨p3, d3, lt3, nu3, lo3, hi3⟩ := s3
          obtain ⟨⟨q1, q2, q3⟩, q4⟩ := hQ
          rcases Bool.eq_false_or_eq_true (rPt c L p2 first last lt2).1 with hr | hr
          · obtain rfl : d3 = false := by have h9 : d3 = !(rPt c L p2 first last lt2).1 := q2; rw [h9, hr]; rfl
            have q1 : p3 = (rPt c L p2 first last lt2).2.1 := q1
            have hle3 : p3 ≤ L := hle3
            obtain ⟨q5, q6⟩ := q4 hr
            have q5 : (rPt c L p2 first last lt2).2.2.1 = iMx first lo3 := q5
            have q6 : (rPt c L p2 first last lt2).2.2.2.1 = rMin last hi3 := q6
            have q7 : lt3 = (rPt c L p2 first last lt2).2.2.2.2 := q3 hr
            have h0n : ¬ iMx first lo3 < 0 := iMx_nn h0
            have h1n : rMin last hi3 ≤ 99999999 := rMin_mx h1
            have hge : (rPt c L p2 first last lt2 = (true, p2 + 1, first, last, lt2)) ∨ p2 + 3 ≤ p3 := by rw [q1]; exact rPt_ge hr
            have hgt : p2 + 1 ≤ p3 := by rcases hge with h9 | h9; (rw [q1, h9]; exact Nat.le_refl _); omega
            have L35 : J l D dA RX8 cX8_readRange wsX8_readRange 4 false (some .boolean) [] (26) (660) (jF D dA (jn M) (mRg M m c L z) 1) (jn M) (0) (0) ((mRS K m (p3, false, lt3, nu3, lo3, hi3))) 35 [.ref (m), .int (1), .int (iMx first lo3), .int (last)] [] := by
              refine J_aload_n (m) dX8_readRange_35 rfl rfl ?_
              refine J_geti (j := 20) dX8_readRange_36 (fun _ h => List.mem_cons_of_mem _ (List.mem_append_left _ (List.mem_append_left _ (List.mem_append_right _ (h))))) cs11 (by decide) rfl (List.mem_of_getElem? (i := 4) rfl) rfl (show m < jn K from by omega) Km2 ?_
              refine J_topi (y := (hi3)) ((mRS_i _ _ _ _)) ?_
              have L52 : J l D dA RX8 cX8_readRange wsX8_readRange 4 false (some .boolean) [] (26) (660) (jF D dA (jn M) (mRg M m c L z) 1) (jn M) (0) (0) ((mRS K m (p3, false, lt3, nu3, lo3, hi3))) 52 [.ref (m), .int (1), .int (iMx first lo3), .int (rMin last hi3)] [] := by
                refine J_aload_n (m) dX8_readRange_52 rfl rfl ?_
                refine J_bipush (x := 32) dX8_readRange_53 (by decide) ?_
                refine J_calli0 (jrunV (As := [.int (32)]) (ct_X8_isHere l D dA hst ((mRS K m (p3, false, lt3, nu3, lo3, hi3))) m c L ((p3, false, lt3, nu3, lo3, hi3)) (hKd.rs (p3, false, lt3, nu3, lo3, hi3) hle3) ((32)) (by decide)) dX8_readRange_55 yY_X8_isHere gX8_readRange_X8_isHere rfl cs11 (show m < jn K from by omega) Km2 rfl ⟨by omega, by omega⟩ ⟨Nat.zero_le _, Nat.zero_le _⟩ rfl (Nat.le_of_ble_eq_true rfl)) (rfl) (rfl) ?_
                refine J_mem (M' := mRS K m (gTk c L ((32)) ((p3, false, lt3, nu3, lo3, hi3)))) (mRS_RS _ _ _ _) ?_
                refine J_if_ne dX8_readRange_58 (tgt := 14) (by decide) (fun c58 => ?_) (fun c58 => ?_)
                · have c58 := jb0F c58
                  obtain ⟨fu3, rfl⟩ : ∃ fu3, fu2 = fu3 + 1 := ⟨fu2 - 1, by have h9 := tIsAt_lt (c := c) (L := L) (p := p3) (x := 32) c58; omega⟩
                  refine J_mem (M' := mRS K m (p3 + 1, false, lt3, nu3, lo3, hi3)) (by exact congrArg (mRS K m) (gTkT c58)) ?_
                  have hlt58 : p3 + 1 ≤ L := tIsAt_lt (c := c) (L := L) (p := p3) (x := 32) c58
                  exact ih14 (fu3) (p3 + 1) (lt3) (nu3) (lo3) (hi3) (iMx first lo3) (rMin last hi3) (by exact hlt58) (by exact h0n) (by exact h1n) (by rw [← hR, rRw_t hr (by rw [← q1]; exact c58), ← q1, ← q5, ← q6, ← q7]) (by omega) (by exact Or.inr (by rcases hG with h9 | h9 <;> omega)) (by omega)
                · have c58 := jb0T c58
                  refine J_mem (M' := mRS K m (p3, false, lt3, nu3, lo3, hi3)) (by exact congrArg (mRS K m) (gTk_f c58)) ?_
                  have hrow : rRow c L p lt = (true, p3, iMx first lo3, rMin last hi3, lt3) := by rw [← hR, rRw_e hr (by rw [← q1]; exact c58)]; rw [← q5, ← q6, q7, q1]
                  have hcn : (vComb 0 w (rSp (iMx first lo3) (rMin last hi3))).1 ≤ 2 + p3 / 4 ∧ (vComb 0 w (rSp (iMx first lo3) (rMin last hi3))).1 ≤ 16 ∧ (vComb 0 w (rSp (iMx first lo3) (rMin last hi3))).1 ≤ 1 + (p3 + 1) / 4 := by
                    have g1 := comb_cnt (op := 0) hw (rSp_wf h0n h1n) (by decide)
                    have g2 : (rSp (iMx first lo3) (rMin last hi3)).1 ≤ 1 := by unfold rSp; show (if _ then 1 else 0) ≤ 1; split <;> omega
                    by_cases hwh : p + 3 ≤ p3
                    · omega
                    · have hst : p2 = p ∧ first = 0 ∧ last = 99999999 := by rcases hG with h9 | h9; exact h9; omega
                      obtain ⟨rfl, rfl, rfl⟩ := hst
                      have h9 : rPt c L p2 0 99999999 lt2 = (true, p2 + 1, 0, 99999999, lt2) := hge.resolve_right hwh
                      rw [h9] at q5 q6
                      have g3 := comb_whole hw
                      rw [← show (0 : Int32) = iMx 0 lo3 from q5, ← show (99999999 : Int32) = rMin 99999999 hi3 from q6]
                      omega
                  refine J_aload_n (m) dX8_readRange_61 rfl rfl ?_
                  refine J_getrs (q := m + 6) Kr6 dX8_readRange_62 (fun _ h => List.mem_cons_of_mem _ (List.mem_append_left _ (List.mem_append_left _ (List.mem_append_right _ (h))))) cs11 (by decide) rfl (List.mem_of_getElem? (i := 1) rfl) rfl (show m < jn K from by omega) Km2 ?_
                  refine J_bipush (x := 33) dX8_readRange_65 (by decide) ?_
                  have L78 : J l D dA RX8 cX8_readRange wsX8_readRange 4 false (some .boolean) [] (26) (660) (jF D dA (jn M) (mRg M m c L z) 1) (jn M) (0) (0) ((jSi (mRS K m (p3, false, lt3, nu3, lo3, hi3)) (m + 6) 33 (nI (rSp (iMx first lo3) (rMin last hi3)).1))) 78 [.ref (m), .int (1), .int (iMx first lo3), .int (rMin last hi3)] [] := by
                    refine J_aload_n (m) dX8_readRange_78 rfl rfl ?_
                    refine J_getrs (q := m + 6) Kr6 dX8_readRange_79 (fun _ h => List.mem_cons_of_mem _ (List.mem_append_left _ (List.mem_append_left _ (List.mem_append_right _ (h))))) cs11 (by decide) rfl (List.mem_of_getElem? (i := 1) rfl) rfl (show m < jn K from by omega) Km2 ?_
                    refine J_bipush (x := 34) dX8_readRange_82 (by decide) ?_
                    refine J_iload_n dX8_readRange_84 rfl rfl ?_
                    refine J_iastN (k := 34) dX8_readRange_85 (show m + 6 < jn K from by omega) Kk6 (by exact Nat.lt_of_lt_of_eq (show _ < 2112 by omega) (Eq.symm Kz6)) (by exact Nat.lt_of_le_of_lt (Nat.le_of_eq Kz6) (show 2112 < 2 ^ 31 by omega)) ?_
                    refine J_aload_n (m) dX8_readRange_86 rfl rfl ?_
                    refine J_getrs (q := m + 6) Kr6 dX8_readRange_87 (fun _ h => List.mem_cons_of_mem _ (List.mem_append_left _ (List.mem_append_left _ (List.mem_append_right _ (h))))) cs11 (by decide) rfl (List.mem_of_getElem? (i := 1) rfl) rfl (show m < jn K from by omega) Km2 ?_
                    refine J_bipush (x := 35) dX8_readRange_90 (by decide) ?_
                    refine J_iload_n dX8_readRange_92 rfl rfl ?_
                    refine J_iastN (k := 35) dX8_readRange_93 (show m + 6 < jn K from by omega) Kk6 (by exact Nat.lt_of_lt_of_eq (show _ < 2112 by omega) (Eq.symm Kz6)) (by exact Nat.lt_of_le_of_lt (Nat.le_of_eq Kz6) (show 2112 < 2 ^ 31 by omega)) ?_
                    refine J_iload_n dX8_readRange_94 rfl rfl ?_
                    refine J_if_eq dX8_readRange_95 (tgt := 115) (by decide) (fun c95 => ?_) (fun c95 => ?_)
                    · exact absurd c95 (by decide)
                    · have c95 := jeqF (a := 1) (b := 0) (by omega) (by omega) c95
                      refine J_aload_n (m) dX8_readRange_98 rfl rfl ?_
                      refine J_bipush (x := 43) dX8_readRange_99 (by decide) ?_
                      refine J_iconst (x := 0) dX8_readRange_101 (by decide) ?_
                      refine J_bipush (x := 33) dX8_readRange_102 (by decide) ?_
                      refine J_iconst (x := 0) dX8_readRange_104 (by decide) ?_
                      refine J_calli (jrunV (As := [.int (43), .int (0), .int (33), .int (0)]) (ct_X8_joins l D dA hst (jSi (jSi ((jSi (mRS K m (p3, false, lt3, nu3, lo3, hi3)) (m + 6) 33 (nI (rSp (iMx first lo3) (rMin last hi3)).1))) (m + 6) 34 ((iMx first lo3))) (m + 6) 35 ((rMin last hi3))) m hKd.1 43 0 33 0 w (rSp (iMx first lo3) (rMin last hi3)) hw (rSp_wf h0n h1n) (rr_h hsl).1 (rr_h hsl).2 (by omega) (by omega) (by omega)) dX8_readRange_105 yY_X8_joins gX8_readRange_X8_joins rfl cs11 (show m < jn K from by omega) Km2 rfl ⟨by omega, by omega⟩ ⟨Nat.zero_le _, Nat.zero_le _⟩ rfl (Nat.le_of_ble_eq_true rfl)) ⟨Nat.zero_le _, Nat.zero_le _⟩ (Or.inr ⟨(jOk.ref (show m < jn K from by omega) (jOk.int (jOk.int (jOk.int jOk.nil)))), jOk.nil⟩) (fun E M9 hp _ => by obtain ⟨_, _, _, _, _, _, _, h1⟩ := hp; rcases h1 with ⟨_, h1⟩ | ⟨_, h1, _⟩ <;> cases h1) (fun x9 K2 hp105 hle105 => ?_)
                      obtain ⟨D9, y9, H9, eM9, hH9, hJ9⟩ := mJn_comb (op := 0) hp105 vGv_43 hw (rSp_wf h0n h1n)
                      obtain ⟨hK2d, hFk, hEk, hck⟩ := rr_k (s3 := (p3, false, lt3, nu3, lo3, hi3)) hKd hle3 eM9
                      have hF2 := hFK.tr hFk
                      have hE2 := hEK.tr hEk
                      have hc2 := hck.trans hcK
                      obtain ⟨Jm1, Jm2, ⟨Jr1, Jr2, Jr3, Jr4, Jr5, Jr6, Jr7, Jr8, Jr9, Jr10, Jr11, Jr12, Jr13⟩, ⟨Jk1, Jk2, Jk3, Jk4, Jk5, Jk6, Jk7, Jk8, Jk9, Jk10, Jk11, Jk12, Jk13⟩, Jz1, Jz2, Jz3, Jz4, Jz5, Jz6, Jz7, Jz8, Jz9, Jz10, Jz11, Jz12, Jz13⟩ := id hK2d.1
                      obtain ⟨he9, hsl9⟩ : x9 = jb true ∧ mSlot H9 0 (some (vComb 0 w (rSp (iMx first lo3) (rMin last hi3)))) := by rcases hJ9 with ⟨h9, -⟩ | ⟨-, h8, h7⟩; (exact absurd h9 (by omega)); (exact ⟨by cases h8; rfl, h7⟩)
                      subst he9
                      have hsl2 : mSlot (ji K2 (m + 6)) 0 (some (vComb 0 w (rSp (iMx first lo3) (rMin last hi3)))) := by rw [eM9]; exact hsl9.cong (fun j _ => by rw [ji_Sv, if_pos rfl])
                      refine J_mem (M' := mRS K2 m (p3, false, lt3, nu3, lo3, hi3)) (by exact hK2d.self) ?_
                      refine J_if_eq dX8_readRange_108 (tgt := 115) (by decide) (fun c108 => ?_) (fun c108 => ?_)
                      · have c108 := jb0T c108
                        exact nomatch c108
                      · have c108 := jb0F c108
                        refine J_iconst (x := 1) dX8_readRange_111 (by decide) ?_
                        refine J_goto (tgt := 116) dX8_readRange_112 (by decide) ?_
                        refine J_istore_n (lv' := [.ref (m), .int (1), .int (iMx first lo3), .int (rMin last hi3)]) dX8_readRange_116 rfl (by decide) rfl rfl ?_
                        refine J_aload_n (m) dX8_readRange_117 rfl rfl ?_
                        refine J_bipush (x := 124) dX8_readRange_118 (by decide) ?_
                        refine J_calli0 (jrunV (As := [.int (124)]) (ct_X8_isHere l D dA hst ((mRS K2 m ((p3, false, lt3, nu3, lo3, hi3)))) m c L ((p3, false, lt3, nu3, lo3, hi3)) (hK2d.rs (p3, false, lt3, nu3, lo3, hi3) hle3) ((124)) (by decide)) dX8_readRange_120 yY_X8_isHere gX8_readRange_X8_isHere rfl cs11 (show m < jn K2 from by omega) Jm2 rfl ⟨by omega, by omega⟩ ⟨Nat.zero_le _, Nat.zero_le _⟩ rfl (Nat.le_of_ble_eq_true rfl)) (rfl) (rfl) ?_
                        refine J_mem (M' := mRS K2 m (gTk c L ((124)) ((p3, false, lt3, nu3, lo3, hi3)))) (mRS_RS _ _ _ _) ?_
                        refine J_if_ne dX8_readRange_123 (tgt := 9) (by decide) (fun c123 => ?_) (fun c123 => ?_)
                        · have c123 := jb0F c123
                          have hlt123 : p3 + 1 ≤ L := tIsAt_lt (c := c) (L := L) (p := p3) (x := 124) c123
                          obtain ⟨fu4, rfl⟩ : ∃ fu4, fu = fu4 + 1 := ⟨fu - 1, by omega⟩
                          refine J_mem (M' := mRS K2 m (p3 + 1, false, lt3, nu3, lo3, hi3)) (by exact congrArg (mRS K2 m) (gTkT c123)) ?_
                          refine J_fg 2 (lv' := [.ref (m), .int (1), .float 0, .int (rMin last hi3)]) rfl ?_
                          refine J_fg 3 (lv' := [.ref (m), .int (1), .float 0, .float 0]) rfl ?_
                          exact ih9 (fu4) (p3 + 1) (lt3) (nu3) (lo3) (hi3) ((vComb 0 w (rSp (iMx first lo3) (rMin last hi3)))) (mRS K2 m (p3 + 1, false, lt3, nu3, lo3, hi3)) (by exact hK2d.rs _ hlt123) (by rw [mRS_r (by omega)]; exact hsl2) (by exact comb_wf hw (rSp_wf h0n h1n)) (by exact hcn.2.2) (by rw [← hI]; exact (rRs9_t hrow c123).symm) (by omega) (by exact hF2.tr mRS_F) (by exact hE2.tr mRS_E) (by exact (mRS_o (by omega)).trans hc2) (by omega)
                        · have c123 := jb0T c123
                          refine J_mem (M' := mRS K2 m (p3, false, lt3, nu3, lo3, hi3)) (by exact congrArg (mRS K2 m) (gTk_f c123)) ?_
                          have hz : z = ((decide (p3 = L), p3, iMx first lo3, rMin last hi3, lt3), vComb 0 w (rSp (iMx first lo3) (rMin last hi3))) := by rw [← hI]; exact rRs9_e hrow c123
                          refine J_aload_n (m) dX8_readRange_126 rfl rfl ?_
                          refine J_geti (j := 16) dX8_readRange_127 (fun _ h => List.mem_cons_of_mem _ (List.mem_append_left _ (List.mem_append_left _ (List.mem_append_right _ (h))))) cs11 (by decide) rfl (List.mem_of_getElem? (i := 5) rfl) rfl (show m < jn K2 from by omega) Jm2 ?_
                          refine J_topi (y := jb (false)) ((mRS_i _ _ _ _)) ?_
                          refine J_if_ne dX8_readRange_130 (tgt := 148) (by decide) (fun c130 => ?_) (fun c130 => ?_)
                          · have c130 := jb0F c130
                            exact nomatch c130
                          · have c130 := jb0T c130
                            refine J_aload_n (m) dX8_readRange_133 rfl rfl ?_
                            refine J_geti (j := 15) dX8_readRange_134 (fun _ h => List.mem_cons_of_mem _ (List.mem_append_left _ (List.mem_append_left _ (List.mem_append_right _ (h))))) cs11 (by decide) rfl (List.mem_of_getElem? (i := 6) rfl) rfl (show m < jn K2 from by omega) Jm2 ?_
                            refine J_topi (y := nI (p3)) ((mRS_i _ _ _ _)) ?_
                            refine J_aload_n (m) dX8_readRange_137 rfl rfl ?_
                            refine J_geti (j := 6) dX8_readRange_138 (fun _ h => List.mem_cons_of_mem _ (List.mem_append_left _ (List.mem_append_left _ (List.mem_append_right _ (h))))) cs11 (by decide) rfl (List.mem_of_getElem? (i := 7) rfl) rfl (show m < jn K2 from by omega) Jm2 ?_
                            refine J_topi (y := nI (L)) ((hK2d.rs (p3, false, lt3, nu3, lo3, hi3) hle3).f6) ?_
                            refine J_icmp_ge dX8_readRange_141 (tgt := 148) (by decide) (fun c141 => ?_) (fun c141 => ?_)
                            · have c141 := jleT (a := L) (b := p3) (by omega) (by omega) c141
                              refine J_iload_n dX8_readRange_148 rfl rfl ?_
                              exact J_iret (ty := .boolean) dX8_readRange_149 rfl (by rfl) (by rw [hz]; exact ⟨true, (p3, false, lt3, nu3, lo3, hi3), rfl, hK2d.rs _ hle3, by show false = !decide (p3 = L); rw [decide_eq_true (by omega)]; rfl, rfl, hF2.tr mRS_F, hE2.tr mRS_E, (mRS_o (by omega)).trans hc2, fun _ => ⟨rfl, rfl, by rw [mRS_r (by omega)]; exact hsl2, hcn.2.1, comb_wf hw (rSp_wf h0n h1n)⟩⟩)
                            · have c141 := jleF (a := L) (b := p3) (by omega) (by omega) c141
                              refine J_aload_n (m) dX8_readRange_144 rfl rfl ?_
                              refine J_callv0 (jrunV (As := []) (ct_X8_bad l D dA hst ((mRS K2 m ((p3, false, lt3, nu3, lo3, hi3)))) m c L ((p3, false, lt3, nu3, lo3, hi3)) (hK2d.rs (p3, false, lt3, nu3, lo3, hi3) hle3)) dX8_readRange_145 yY_X8_bad gX8_readRange_X8_bad rfl cs11 (show m < jn K2 from by omega) Jm2 rfl ⟨by omega, by omega⟩ ⟨Nat.zero_le _, Nat.zero_le _⟩ rfl (Nat.le_of_ble_eq_true rfl)) (rfl) (rfl) ?_
                              refine J_mem (M' := mRS K2 m (gBad ((p3, false, lt3, nu3, lo3, hi3)))) (mRS_RS _ _ _ _) ?_
                              refine J_iload_n dX8_readRange_148 rfl rfl ?_
                              exact J_iret (ty := .boolean) dX8_readRange_149 rfl (by rfl) (by rw [hz]; exact ⟨true, gBad (p3, false, lt3, nu3, lo3, hi3), rfl, hK2d.rs _ hle3, by show true = !decide (p3 = L); rw [decide_eq_false (by omega)]; rfl, rfl, hF2.tr mRS_F, hE2.tr mRS_E, (mRS_o (by omega)).trans hc2, fun h9 => absurd (of_decide_eq_true (show decide (p3 = L) = true from h9)) (by omega)⟩)
                  refine J_iload_n dX8_readRange_67 rfl rfl ?_
                  refine J_iload_n dX8_readRange_68 rfl rfl ?_
                  refine J_icmp_gt dX8_readRange_69 (tgt := 76) (by decide) (fun c69 => ?_) (fun c69 => ?_)
                  · refine J_iconst (x := 0) dX8_readRange_76 (by decide) ?_
                    refine J_topi (y := nI (rSp (iMx first lo3) (rMin last hi3)).1) (by unfold rSp; show _ = nI (if _ then 1 else 0); first | (rw [if_pos (Int32.not_lt.mp c69)]; rfl) | (rw [if_neg (Int32.not_le.mpr c69)]; rfl)) ?_
                    refine J_iastN (k := 33) dX8_readRange_77 (show m + 6 < jn K from by omega) Kk6 (by exact Nat.lt_of_lt_of_eq (show _ < 2112 by omega) (Eq.symm Kz6)) (by exact Nat.lt_of_le_of_lt (Nat.le_of_eq Kz6) (show 2112 < 2 ^ 31 by omega)) ?_
                    exact L78  
                  · refine J_iconst (x := 1) dX8_readRange_72 (by decide) ?_
                    refine J_goto (tgt := 77) dX8_readRange_73 (by decide) ?_
                    refine J_topi (y := nI (rSp (iMx first lo3) (rMin last hi3)).1) (by unfold rSp; show _ = nI (if _ then 1 else 0); first | (rw [if_pos (Int32.not_lt.mp c69)]; rfl) | (rw [if_neg (Int32.not_le.mpr c69)]; rfl)) ?_
                    refine J_iastN (k := 33) dX8_readRange_77 (show m + 6 < jn K from by omega) Kk6 (by exact Nat.lt_of_lt_of_eq (show _ < 2112 by omega) (Eq.symm Kz6)) (by exact Nat.lt_of_le_of_lt (Nat.le_of_eq Kz6) (show 2112 < 2 ^ 31 by omega)) ?_
                    exact L78  
              refine J_iload_n dX8_readRange_39 rfl rfl ?_
              refine J_icmp_ge dX8_readRange_40 (tgt := 50) (by decide) (fun c40 => ?_) (fun c40 => ?_)
              · refine J_iload_n dX8_readRange_50 rfl rfl ?_
                refine J_topi (y := rMin last hi3) (by unfold rMin; rw [if_neg (Int32.not_lt.mpr c40)]) ?_
                refine J_istore_n (lv' := [.ref (m), .int (1), .int (iMx first lo3), .int (rMin last hi3)]) dX8_readRange_51 rfl (by decide) rfl rfl ?_
                exact L52  
              · refine J_aload_n (m) dX8_readRange_43 rfl rfl ?_
                refine J_geti (j := 20) dX8_readRange_44 (fun _ h => List.mem_cons_of_mem _ (List.mem_append_left _ (List.mem_append_left _ (List.mem_append_right _ (h))))) cs11 (by decide) rfl (List.mem_of_getElem? (i := 4) rfl) rfl (show m < jn K from by omega) Km2 ?_
                refine J_topi (y := (hi3)) ((mRS_i _ _ _ _)) ?_
                refine J_topi (y := rMin last hi3) (by unfold rMin; rw [if_pos (Int32.not_le.mp c40)]) ?_
                refine J_goto (tgt := 51) dX8_readRange_47 (by decide) ?_
                refine J_istore_n (lv' := [.ref (m), .int (1), .int (iMx first lo3), .int (rMin last hi3)]) dX8_readRange_51 rfl (by decide) rfl rfl ?_
                exact L52  
            refine J_aload_n (m) dX8_readRange_18 rfl rfl ?_
            refine J_geti (j := 19) dX8_readRange_19 (fun _ h => List.mem_cons_of_mem _ (List.mem_append_left _ (List.mem_append_left _ (List.mem_append_right _ (h))))) cs11 (by decide) rfl (List.mem_of_getElem? (i := 3) rfl) rfl (show m < jn K from by omega) Km2 ?_
            refine J_topi (y := (lo3)) ((mRS_i _ _ _ _)) ?_
            refine J_iload_n dX8_readRange_22 rfl rfl ?_
            refine J_icmp_le dX8_readRange_23 (tgt := 33) (by decide) (fun c23 => ?_) (fun c23 => ?_)
            · refine J_iload_n dX8_readRange_33 rfl rfl ?_
              refine J_topi (y := iMx first lo3) (by first | rfl | (unfold iMx; rw [if_neg (Int32.not_lt.mpr c23)])) ?_
              refine J_istore_n (lv' := [.ref (m), .int (1), .int (iMx first lo3), .int (last)]) dX8_readRange_34 rfl (by decide) rfl rfl ?_
              exact L35  
            · refine J_aload_n (m) dX8_readRange_26 rfl rfl ?_
              refine J_geti (j := 19) dX8_readRange_27 (fun _ h => List.mem_cons_of_mem _ (List.mem_append_left _ (List.mem_append_left _ (List.mem_append_right _ (h))))) cs11 (by decide) rfl (List.mem_of_getElem? (i := 3) rfl) rfl (show m < jn K from by omega) Km2 ?_
              refine J_topi (y := (lo3)) ((mRS_i _ _ _ _)) ?_
              refine J_topi (y := iMx first lo3) (by unfold iMx; rw [if_pos (Int32.not_le.mp c23)]) ?_
              refine J_goto (tgt := 34) dX8_readRange_30 (by decide) ?_
              refine J_istore_n (lv' := [.ref (m), .int (1), .int (iMx first lo3), .int (last)]) dX8_readRange_34 rfl (by decide) rfl rfl ?_
              exact L35  
          · obtain rfl : d3 = true := by have h9 : d3 = !(rPt c L p2 first last lt2).1 := q2; rw [h9, hr]; rfl
            have q1 : p3 = (rPt c L p2 first last lt2).2.1 := q1
            have hle3 : p3 ≤ L := hle3
            have h0n : ¬ iMx first lo3 < 0 := iMx_nn h0
            have h1n : rMin last hi3 ≤ 99999999 := rMin_mx h1
            have L35 : J l D dA RX8 cX8_readRange wsX8_readRange 4 false (some .boolean) [] (26) (660) (jF D dA (jn M) (mRg M m c L z) 1) (jn M) (0) (0) ((mRS K m (p3, true, lt3, nu3, lo3, hi3))) 35 [.ref (m), .int (1), .int (iMx first lo3), .int (last)] [] := by
              refine J_aload_n (m) dX8_readRange_35 rfl rfl ?_
              refine J_geti (j := 20) dX8_readRange_36 (fun _ h => List.mem_cons_of_mem _ (List.mem_append_left _ (List.mem_append_left _ (List.mem_append_right _ (h))))) cs11 (by decide) rfl (List.mem_of_getElem? (i := 4) rfl) rfl (show m < jn K from by omega) Km2 ?_
              refine J_topi (y := (hi3)) ((mRS_i _ _ _ _)) ?_
              have L52 : J l D dA RX8 cX8_readRange wsX8_readRange 4 false (some .boolean) [] (26) (660) (jF D dA (jn M) (mRg M m c L z) 1) (jn M) (0) (0) ((mRS K m (p3, true, lt3, nu3, lo3, hi3))) 52 [.ref (m), .int (1), .int (iMx first lo3), .int (rMin last hi3)] [] := by
                refine J_aload_n (m) dX8_readRange_52 rfl rfl ?_
                refine J_bipush (x := 32) dX8_readRange_53 (by decide) ?_
                refine J_calli0 (jrunV (As := [.int (32)]) (ct_X8_isHere l D dA hst ((mRS K m (p3, true, lt3, nu3, lo3, hi3))) m c L ((p3, true, lt3, nu3, lo3, hi3)) (hKd.rs (p3, true, lt3, nu3, lo3, hi3) hle3) ((32)) (by decide)) dX8_readRange_55 yY_X8_isHere gX8_readRange_X8_isHere rfl cs11 (show m < jn K from by omega) Km2 rfl ⟨by omega, by omega⟩ ⟨Nat.zero_le _, Nat.zero_le _⟩ rfl (Nat.le_of_ble_eq_true rfl)) (rfl) (rfl) ?_
                refine J_mem (M' := mRS K m (gTk c L ((32)) ((p3, true, lt3, nu3, lo3, hi3)))) (mRS_RS _ _ _ _) ?_
                refine J_if_ne dX8_readRange_58 (tgt := 14) (by decide) (fun c58 => ?_) (fun c58 => ?_)
                · have c58 := jb0F c58
                  exact nomatch c58
                · have c58 := jb0T c58
                  refine J_mem (M' := mRS K m (p3, true, lt3, nu3, lo3, hi3)) (by exact congrArg (mRS K m) (gTk_f c58)) ?_
                  have hrow : rRow c L p lt = (false, (rPt c L p2 first last lt2).2) := by rw [← hR, rRw_b hr]
                  refine J_aload_n (m) dX8_readRange_61 rfl rfl ?_
                  refine J_getrs (q := m + 6) Kr6 dX8_readRange_62 (fun _ h => List.mem_cons_of_mem _ (List.mem_append_left _ (List.mem_append_left _ (List.mem_append_right _ (h))))) cs11 (by decide) rfl (List.mem_of_getElem? (i := 1) rfl) rfl (show m < jn K from by omega) Km2 ?_
                  refine J_bipush (x := 33) dX8_readRange_65 (by decide) ?_
                  have L78 : J l D dA RX8 cX8_readRange wsX8_readRange 4 false (some .boolean) [] (26) (660) (jF D dA (jn M) (mRg M m c L z) 1) (jn M) (0) (0) ((jSi (mRS K m (p3, true, lt3, nu3, lo3, hi3)) (m + 6) 33 (nI (rSp (iMx first lo3) (rMin last hi3)).1))) 78 [.ref (m), .int (1), .int (iMx first lo3), .int (rMin last hi3)] [] := by
                    refine J_aload_n (m) dX8_readRange_78 rfl rfl ?_
                    refine J_getrs (q := m + 6) Kr6 dX8_readRange_79 (fun _ h => List.mem_cons_of_mem _ (List.mem_append_left _ (List.mem_append_left _ (List.mem_append_right _ (h))))) cs11 (by decide) rfl (List.mem_of_getElem? (i := 1) rfl) rfl (show m < jn K from by omega) Km2 ?_
                    refine J_bipush (x := 34) dX8_readRange_82 (by decide) ?_
                    refine J_iload_n dX8_readRange_84 rfl rfl ?_
                    refine J_iastN (k := 34) dX8_readRange_85 (show m + 6 < jn K from by omega) Kk6 (by exact Nat.lt_of_lt_of_eq (show _ < 2112 by omega) (Eq.symm Kz6)) (by exact Nat.lt_of_le_of_lt (Nat.le_of_eq Kz6) (show 2112 < 2 ^ 31 by omega)) ?_
                    refine J_aload_n (m) dX8_readRange_86 rfl rfl ?_
                    refine J_getrs (q := m + 6) Kr6 dX8_readRange_87 (fun _ h => List.mem_cons_of_mem _ (List.mem_append_left _ (List.mem_append_left _ (List.mem_append_right _ (h))))) cs11 (by decide) rfl (List.mem_of_getElem? (i := 1) rfl) rfl (show m < jn K from by omega) Km2 ?_
                    refine J_bipush (x := 35) dX8_readRange_90 (by decide) ?_
                    refine J_iload_n dX8_readRange_92 rfl rfl ?_
                    refine J_iastN (k := 35) dX8_readRange_93 (show m + 6 < jn K from by omega) Kk6 (by exact Nat.lt_of_lt_of_eq (show _ < 2112 by omega) (Eq.symm Kz6)) (by exact Nat.lt_of_le_of_lt (Nat.le_of_eq Kz6) (show 2112 < 2 ^ 31 by omega)) ?_
                    refine J_iload_n dX8_readRange_94 rfl rfl ?_
                    refine J_if_eq dX8_readRange_95 (tgt := 115) (by decide) (fun c95 => ?_) (fun c95 => ?_)
                    · exact absurd c95 (by decide)
                    · have c95 := jeqF (a := 1) (b := 0) (by omega) (by omega) c95
                      refine J_aload_n (m) dX8_readRange_98 rfl rfl ?_
                      refine J_bipush (x := 43) dX8_readRange_99 (by decide) ?_
                      refine J_iconst (x := 0) dX8_readRange_101 (by decide) ?_
                      refine J_bipush (x := 33) dX8_readRange_102 (by decide) ?_
                      refine J_iconst (x := 0) dX8_readRange_104 (by decide) ?_
                      refine J_calli (jrunV (As := [.int (43), .int (0), .int (33), .int (0)]) (ct_X8_joins l D dA hst (jSi (jSi ((jSi (mRS K m (p3, true, lt3, nu3, lo3, hi3)) (m + 6) 33 (nI (rSp (iMx first lo3) (rMin last hi3)).1))) (m + 6) 34 ((iMx first lo3))) (m + 6) 35 ((rMin last hi3))) m hKd.1 43 0 33 0 w (rSp (iMx first lo3) (rMin last hi3)) hw (rSp_wf h0n h1n) (rr_h hsl).1 (rr_h hsl).2 (by omega) (by omega) (by omega)) dX8_readRange_105 yY_X8_joins gX8_readRange_X8_joins rfl cs11 (show m < jn K from by omega) Km2 rfl ⟨by omega, by omega⟩ ⟨Nat.zero_le _, Nat.zero_le _⟩ rfl (Nat.le_of_ble_eq_true rfl)) ⟨Nat.zero_le _, Nat.zero_le _⟩ (Or.inr ⟨(jOk.ref (show m < jn K from by omega) (jOk.int (jOk.int (jOk.int jOk.nil)))), jOk.nil⟩) (fun E M9 hp _ => by obtain ⟨_, _, _, _, _, _, _, h1⟩ := hp; rcases h1 with ⟨_, h1⟩ | ⟨_, h1, _⟩ <;> cases h1) (fun x9 K2 hp105 hle105 => ?_)
                      obtain ⟨D9, y9, H9, eM9, hH9, hJ9⟩ := mJn_comb (op := 0) hp105 vGv_43 hw (rSp_wf h0n h1n)
                      obtain ⟨hK2d, hFk, hEk, hck⟩ := rr_k (s3 := (p3, true, lt3, nu3, lo3, hi3)) hKd hle3 eM9
                      have hF2 := hFK.tr hFk
                      have hE2 := hEK.tr hEk
                      have hc2 := hck.trans hcK
                      obtain ⟨Jm1, Jm2, ⟨Jr1, Jr2, Jr3, Jr4, Jr5, Jr6, Jr7, Jr8, Jr9, Jr10, Jr11, Jr12, Jr13⟩, ⟨Jk1, Jk2, Jk3, Jk4, Jk5, Jk6, Jk7, Jk8, Jk9, Jk10, Jk11, Jk12, Jk13⟩, Jz1, Jz2, Jz3, Jz4, Jz5, Jz6, Jz7, Jz8, Jz9, Jz10, Jz11, Jz12, Jz13⟩ := id hK2d.1
                      obtain ⟨b9, he9⟩ : ∃ b9, x9 = jb b9 := by rcases hJ9 with ⟨-, h8⟩ | ⟨-, h8, -⟩ <;> exact ⟨_, by cases h8; rfl⟩
                      subst he9
                      refine J_mem (M' := mRS K2 m (p3, true, lt3, nu3, lo3, hi3)) (by exact hK2d.self) ?_
                      have L117 : J l D dA RX8 cX8_readRange wsX8_readRange 4 false (some .boolean) [] (26) (660) (jF D dA (jn M) (mRg M m c L z) 1) (jn M) (0) (0) ((mRS K2 m (p3, true, lt3, nu3, lo3, hi3))) 117 [.ref (m), .int (jb (b9)), .int (iMx first lo3), .int (rMin last hi3)] [] := by
                        refine J_aload_n (m) dX8_readRange_117 rfl rfl ?_
                        refine J_bipush (x := 124) dX8_readRange_118 (by decide) ?_
                        refine J_calli0 (jrunV (As := [.int (124)]) (ct_X8_isHere l D dA hst ((mRS K2 m (p3, true, lt3, nu3, lo3, hi3))) m c L ((p3, true, lt3, nu3, lo3, hi3)) (hK2d.rs (p3, true, lt3, nu3, lo3, hi3) hle3) ((124)) (by decide)) dX8_readRange_120 yY_X8_isHere gX8_readRange_X8_isHere rfl cs11 (show m < jn K2 from by omega) Jm2 rfl ⟨by omega, by omega⟩ ⟨Nat.zero_le _, Nat.zero_le _⟩ rfl (Nat.le_of_ble_eq_true rfl)) (rfl) (rfl) ?_
                        refine J_mem (M' := mRS K2 m (gTk c L ((124)) ((p3, true, lt3, nu3, lo3, hi3)))) (mRS_RS _ _ _ _) ?_
                        refine J_if_ne dX8_readRange_123 (tgt := 9) (by decide) (fun c123 => ?_) (fun c123 => ?_)
                        · have c123 := jb0F c123
                          exact nomatch c123
                        · have c123 := jb0T c123
                          refine J_mem (M' := mRS K2 m (p3, true, lt3, nu3, lo3, hi3)) (by exact congrArg (mRS K2 m) (gTk_f c123)) ?_
                          have hz : z = ((false, (rPt c L p2 first last lt2).2), w) := by rw [← hI, rRs9_b (by rw [hrow]), hrow]
                          refine J_aload_n (m) dX8_readRange_126 rfl rfl ?_
                          refine J_geti (j := 16) dX8_readRange_127 (fun _ h => List.mem_cons_of_mem _ (List.mem_append_left _ (List.mem_append_left _ (List.mem_append_right _ (h))))) cs11 (by decide) rfl (List.mem_of_getElem? (i := 5) rfl) rfl (show m < jn K2 from by omega) Jm2 ?_
                          refine J_topi (y := jb (true)) ((mRS_i _ _ _ _)) ?_
                          refine J_if_ne dX8_readRange_130 (tgt := 148) (by decide) (fun c130 => ?_) (fun c130 => ?_)
                          · have c130 := jb0F c130
                            refine J_iload_n dX8_readRange_148 rfl rfl ?_
                            exact J_iret (ty := .boolean) dX8_readRange_149 rfl (jb_n _) (by rw [hz]; exact ⟨b9, (p3, true, lt3, nu3, lo3, hi3), rfl, hK2d.rs _ hle3, rfl, q1, hF2.tr mRS_F, hE2.tr mRS_E, (mRS_o (by omega)).trans hc2, fun h9 => nomatch h9⟩)
                          · have c130 := jb0T c130
                            exact nomatch c130
                      refine J_if_eq dX8_readRange_108 (tgt := 115) (by decide) (fun c108 => ?_) (fun c108 => ?_)
                      · have c108 := jb0T c108
                        refine J_iconst (x := 0) dX8_readRange_115 (by decide) ?_
                        refine J_topi (y := jb b9) (by rw [c108]; rfl) ?_
                        refine J_istore_n (lv' := [.ref (m), .int (jb (b9)), .int (iMx first lo3), .int (rMin last hi3)]) dX8_readRange_116 rfl (by decide) rfl rfl ?_
                        exact L117  
                      · have c108 := jb0F c108
                        refine J_iconst (x := 1) dX8_readRange_111 (by decide) ?_
                        refine J_goto (tgt := 116) dX8_readRange_112 (by decide) ?_
                        refine J_topi (y := jb b9) (by rw [c108]; rfl) ?_
                        refine J_istore_n (lv' := [.ref (m), .int (jb (b9)), .int (iMx first lo3), .int (rMin last hi3)]) dX8_readRange_116 rfl (by decide) rfl rfl ?_
                        exact L117  
                  refine J_iload_n dX8_readRange_67 rfl rfl ?_
                  refine J_iload_n dX8_readRange_68 rfl rfl ?_
                  refine J_icmp_gt dX8_readRange_69 (tgt := 76) (by decide) (fun c69 => ?_) (fun c69 => ?_)
                  · refine J_iconst (x := 0) dX8_readRange_76 (by decide) ?_
                    refine J_topi (y := nI (rSp (iMx first lo3) (rMin last hi3)).1) (by unfold rSp; show _ = nI (if _ then 1 else 0); first | (rw [if_pos (Int32.not_lt.mp c69)]; rfl) | (rw [if_neg (Int32.not_le.mpr c69)]; rfl)) ?_
                    refine J_iastN (k := 33) dX8_readRange_77 (show m + 6 < jn K from by omega) Kk6 (by exact Nat.lt_of_lt_of_eq (show _ < 2112 by omega) (Eq.symm Kz6)) (by exact Nat.lt_of_le_of_lt (Nat.le_of_eq Kz6) (show 2112 < 2 ^ 31 by omega)) ?_
                    exact L78  
                  · refine J_iconst (x := 1) dX8_readRange_72 (by decide) ?_
                    refine J_goto (tgt := 77) dX8_readRange_73 (by decide) ?_
                    refine J_topi (y := nI (rSp (iMx first lo3) (rMin last hi3)).1) (by unfold rSp; show _ = nI (if _ then 1 else 0); first | (rw [if_pos (Int32.not_lt.mp c69)]; rfl) | (rw [if_neg (Int32.not_le.mpr c69)]; rfl)) ?_
                    refine J_iastN (k := 33) dX8_readRange_77 (show m + 6 < jn K from by omega) Kk6 (by exact Nat.lt_of_lt_of_eq (show _ < 2112 by omega) (Eq.symm Kz6)) (by exact Nat.lt_of_le_of_lt (Nat.le_of_eq Kz6) (show 2112 < 2 ^ 31 by omega)) ?_
                    exact L78  
              refine J_iload_n dX8_readRange_39 rfl rfl ?_
              refine J_icmp_ge dX8_readRange_40 (tgt := 50) (by decide) (fun c40 => ?_) (fun c40 => ?_)
              · refine J_iload_n dX8_readRange_50 rfl rfl ?_
                refine J_topi (y := rMin last hi3) (by unfold rMin; rw [if_neg (Int32.not_lt.mpr c40)]) ?_
                refine J_istore_n (lv' := [.ref (m), .int (1), .int (iMx first lo3), .int (rMin last hi3)]) dX8_readRange_51 rfl (by decide) rfl rfl ?_
                exact L52  
              · refine J_aload_n (m) dX8_readRange_43 rfl rfl ?_
                refine J_geti (j := 20) dX8_readRange_44 (fun _ h => List.mem_cons_of_mem _ (List.mem_append_left _ (List.mem_append_left _ (List.mem_append_right _ (h))))) cs11 (by decide) rfl (List.mem_of_getElem? (i := 4) rfl) rfl (show m < jn K from by omega) Km2 ?_
                refine J_topi (y := (hi3)) ((mRS_i _ _ _ _)) ?_
                refine J_topi (y := rMin last hi3) (by unfold rMin; rw [if_pos (Int32.not_le.mp c40)]) ?_
                refine J_goto (tgt := 51) dX8_readRange_47 (by decide) ?_
                refine J_istore_n (lv' := [.ref (m), .int (1), .int (iMx first lo3), .int (rMin last hi3)]) dX8_readRange_51 rfl (by decide) rfl rfl ?_
                exact L52  
            refine J_aload_n (m) dX8_readRange_18 rfl rfl ?_
            refine J_geti (j := 19) dX8_readRange_19 (fun _ h => List.mem_cons_of_mem _ (List.mem_append_left _ (List.mem_append_left _ (List.mem_append_right _ (h))))) cs11 (by decide) rfl (List.mem_of_getElem? (i := 3) rfl) rfl (show m < jn K from by omega) Km2 ?_
            refine J_topi (y := (lo3)) ((mRS_i _ _ _ _)) ?_
            refine J_iload_n dX8_readRange_22 rfl rfl ?_
            refine J_icmp_le dX8_readRange_23 (tgt := 33) (by decide) (fun c23 => ?_) (fun c23 => ?_)
            · refine J_iload_n dX8_readRange_33 rfl rfl ?_
              refine J_topi (y := iMx first lo3) (by first | rfl | (unfold iMx; rw [if_neg (Int32.not_lt.mpr c23)])) ?_
              refine J_istore_n (lv' := [.ref (m), .int (1), .int (iMx first lo3), .int (last)]) dX8_readRange_34 rfl (by decide) rfl rfl ?_
              exact L35  
            · refine J_aload_n (m) dX8_readRange_26 rfl rfl ?_
              refine J_geti (j := 19) dX8_readRange_27 (fun _ h => List.mem_cons_of_mem _ (List.mem_append_left _ (List.mem_append_left _ (List.mem_append_right _ (h))))) cs11 (by decide) rfl (List.mem_of_getElem? (i := 3) rfl) rfl (show m < jn K from by omega) Km2 ?_
              refine J_topi (y := (lo3)) ((mRS_i _ _ _ _)) ?_
              refine J_topi (y := iMx first lo3) (by unfold iMx; rw [if_pos (Int32.not_le.mp c23)]) ?_
              refine J_goto (tgt := 34) dX8_readRange_30 (by decide) ?_
              refine J_istore_n (lv' := [.ref (m), .int (1), .int (iMx first lo3), .int (last)]) dX8_readRange_34 rfl (by decide) rfl rfl ?_
              exact L35  
      refine J_istore_n (lv' := [.ref (m), .int (1), .int (0), .int (99999999)]) dX8_readRange_13 rfl (by decide) rfl rfl ?_
      exact L14 _ (L) (p) (lt) (nu) (a) (b) (0) (99999999) (by exact hpL) (by decide) (by decide) (by rfl) (by omega) (by exact Or.inl ⟨rfl, rfl, rfl⟩) (Nat.lt_succ_self _)
  refine J_iastN (k := 0) dX8_readRange_8 (show m + 6 < jn M from by omega) k6 (by exact Nat.lt_of_lt_of_eq (show _ < 2112 by omega) (Eq.symm z6)) (by exact Nat.lt_of_le_of_lt (Nat.le_of_eq z6) (show 2112 < 2 ^ 31 by omega)) ?_
  exact L9 _ (L) (0) (false) (nu0) (a0) (b0) ((0, fun _ => 0)) (jSi M (m + 6) 0 ((0))) (by exact hKd0) (by exact hsl0) (by exact hw0) (by exact Nat.zero_le _) (by exact hz0) (by omega) (by exact hF0) (by exact hE0) (by exact ji_Sin (by omega)) (Nat.lt_succ_self _)

