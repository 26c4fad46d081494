def sgK (kd : Int32) : Int32 := if kd = 0 then 43 else if kd = 1 then 38 else if kd = 2 then 45 else if kd = 3 then 33 else 115
/-- the reference's nodes -/
def mNd (M : jM) (m : Nat) (s : eSt) : Prop := ∀ k, k < s.2.1 → ji M (m + 8) k = sgK (s.2.2.1 k) ∧ ji M (m + 9) k = s.2.2.2.2.1 k ∧ (s.2.2.1 k = 4 ∨ s.2.2.1 k = 3 ∨ ji M (m + 10) k = s.2.2.2.2.2.1 k) ∧ ji M (m + 11) k = s.2.2.2.1 k
def mNo (M : jM) (m n : Nat) (sg a b p : Int32) : jM := jSi (jSi (jSi (jSi (jSi M (m + 8) n sg) (m + 9) n a) (m + 10) n b) (m + 11) n p) m 25 (nI (n + 1))
def mEx (M : jM) (m : Nat) (c : Nat → Int32) (L : Nat) (g : gS) (s : eSt) (o : Nat) : Prop := mRd M m c L g ∧ mNd M m s ∧ ji M m 25 = nI s.2.1 ∧ ji M m 26 = nI o ∧ g.1 = s.1 ∧ g.2.1 = false
def mEo (M : jM) (m : Nat) (c : Nat → Int32) (L o : Nat) (r : Int32 × eSt) : jP := fun o1 M1 => ∃ x g, o1 = oI x ∧ mRd M1 m c L g ∧ g.1 = r.2.1 ∧ g.2.1 = decide (r.1 = -1) ∧ ji M1 m 26 = nI o ∧ mFr m M M1 ∧ mE m M M1 ∧ ji M1 m 11 = ji M m 11 ∧ (r.1 ≠ -1 → x = r.1 ∧ mNd M1 m r.2 ∧ ji M1 m 25 = nI r.2.2.1)
def mCT (l : Launch) (D : va_G) (dA : Nat → ClassId) (y : MethodName) (ws : List Cond) (fr lo m : Nat) (c : Nat → Int32) (L o : Nat) (G : eRd) : Prop := ∀ M s g, mEx M m c L g s o → eOk L s → s.2.1 ≤ s.1 → jCT l D dA y ws fr lo 0 0 1 [.ref m] M (mEo M m c L o (G s))
theorem mRd.fo {M : jM} {m f : Nat} {c : Nat → Int32} {L : Nat} {s : gS} {x : Int32} (h : mRd M m c L s) (hf : 20 < f) : mRd (jSi M m f x) m c L s := by
  obtain ⟨a1, a2, a3, a4, a5, b1, b2, b3, b4, b5, b6⟩ := h
  exact ⟨a1, by rw [ji_Sik (by omega)]; exact a2, a3, fun j hj => by rw [ji_Sin (by omega)]; exact a4 j hj, a5, by rw [ji_Sik (by omega)]; exact b1, by rw [ji_Sik (by omega)]; exact b2, by rw [ji_Sik (by omega)]; exact b3, by rw [ji_Sik (by omega)]; exact b4, by rw [ji_Sik (by omega)]; exact b5, by rw [ji_Sik (by omega)]; exact b6⟩
theorem mRd.ro {M : jM} {m a k : Nat} {c : Nat → Int32} {L : Nat} {s : gS} {x : Int32} (h : mRd M m c L s) (ha : m + 4 < a) : mRd (jSi M a k x) m c L s := by
  obtain ⟨a1, a2, a3, a4, a5, b1, b2, b3, b4, b5, b6⟩ := h
  exact ⟨a1, by rw [ji_Sin (by omega)]; exact a2, a3, fun j hj => by rw [ji_Sin (by omega)]; exact a4 j hj, a5, by rw [ji_Sin (by omega)]; exact b1, by rw [ji_Sin (by omega)]; exact b2, by rw [ji_Sin (by omega)]; exact b3, by rw [ji_Sin (by omega)]; exact b4, by rw [ji_Sin (by omega)]; exact b5, by rw [ji_Sin (by omega)]; exact b6⟩
theorem mRd.no {M : jM} {m n : Nat} {c : Nat → Int32} {L : Nat} {s : gS} {sg a b p : Int32} (h : mRd M m c L s) : mRd (mNo M m n sg a b p) m c L s := (((((h.ro (by omega)).ro (by omega)).ro (by omega)).ro (by omega))).fo (by omega)
theorem mNo_F {M : jM} {m n : Nat} {sg a b p : Int32} : mFr m M (mNo M m n sg a b p) := ((((mFr.rf.si ⟨by omega, by omega⟩).si ⟨by omega, by omega⟩).si ⟨by omega, by omega⟩).si ⟨by omega, by omega⟩).si ⟨by omega, by omega⟩
theorem mNo_E {M : jM} {m n : Nat} {sg a b p : Int32} : mE m M (mNo M m n sg a b p) := ((((mE.rf.sr (by omega)).sr (by omega)).sr (by omega)).sr (by omega)).si rfl
theorem mNo_o {M : jM} {m n f : Nat} {sg a b p : Int32} (h : f ≠ 25) : ji (mNo M m n sg a b p) m f = ji M m f := by unfold mNo; rw [ji_Sik h, ji_Sin (by omega), ji_Sin (by omega), ji_Sin (by omega), ji_Sin (by omega)]
theorem mNo_25 {M : jM} {m n : Nat} {sg a b p : Int32} : ji (mNo M m n sg a b p) m 25 = nI (n + 1) := ji_Sis
theorem mNo_nd {M : jM} {m : Nat} {s s2 : eSt} {sg kd le ri po b : Int32} (h : mNd M m s) (h1 : s2.2.1 = s.2.1 + 1) (h2 : s2.2.2.1 = upd s.2.2.1 s.2.1 kd) (h3 : s2.2.2.2.1 = upd s.2.2.2.1 s.2.1 po) (h4 : s2.2.2.2.2.1 = upd s.2.2.2.2.1 s.2.1 le) (h5 : s2.2.2.2.2.2.1 = upd s.2.2.2.2.2.1 s.2.1 ri) (hs : sgK kd = sg) (hb : kd = 4 ∨ kd = 3 ∨ b = ri) : mNd (mNo M m s.2.1 sg le b po) m s2 := by
  intro k hk
  rw [h1] at hk
  rw [h2, h3, h4, h5]
  have r8 : ji (mNo M m s.2.1 sg le b po) (m + 8) k = ji (jSi M (m + 8) s.2.1 sg) (m + 8) k := by unfold mNo; rw [ji_Sin (by omega), ji_Sin (by omega), ji_Sin (by omega), ji_Sin (by omega)]
  have r9 : ji (mNo M m s.2.1 sg le b po) (m + 9) k = ji (jSi (jSi M (m + 8) s.2.1 sg) (m + 9) s.2.1 le) (m + 9) k := by unfold mNo; rw [ji_Sin (by omega), ji_Sin (by omega), ji_Sin (by omega)]
  have r10 : ji (mNo M m s.2.1 sg le b po) (m + 10) k = ji (jSi (jSi (jSi M (m + 8) s.2.1 sg) (m + 9) s.2.1 le) (m + 10) s.2.1 b) (m + 10) k := by unfold mNo; rw [ji_Sin (by omega), ji_Sin (by omega)]
  have r11 : ji (mNo M m s.2.1 sg le b po) (m + 11) k = ji (jSi (jSi (jSi (jSi M (m + 8) s.2.1 sg) (m + 9) s.2.1 le) (m + 10) s.2.1 b) (m + 11) s.2.1 po) (m + 11) k := by unfold mNo; rw [ji_Sin (by omega)]
  rw [r8, r9, r10, r11]
  by_cases e : k = s.2.1
  · subst e
    rw [upd_eq, upd_eq, upd_eq, upd_eq, ji_Sis, ji_Sis, ji_Sis, ji_Sis]
    refine ⟨hs.symm, rfl, ?_, rfl⟩
    rcases hb with hb | hb | hb
    · exact Or.inl hb
    · exact Or.inr (Or.inl hb)
    · exact Or.inr (Or.inr hb)
  · rw [upd_ne e, upd_ne e, upd_ne e, upd_ne e]
    obtain ⟨a1, a2, a3, a4⟩ := h k (by omega)
    refine ⟨?_, ?_, ?_, ?_⟩
    · rw [ji_Sik e]; exact a1
    · rw [ji_Sik e, ji_Sin (by omega)]; exact a2
    · rw [ji_Sik e, ji_Sin (by omega), ji_Sin (by omega)]; exact a3
    · rw [ji_Sik e, ji_Sin (by omega), ji_Sin (by omega), ji_Sin (by omega)]; exact a4
theorem mNd.rs {M : jM} {m : Nat} {s : eSt} {g : gS} (h : mNd M m s) : mNd (mRS M m g) m s := fun k hk => by
  rw [mRS_r (by omega), mRS_r (by omega), mRS_r (by omega), mRS_r (by omega)]; exact h k hk
theorem mNd.fo {M : jM} {m f : Nat} {s : eSt} {x : Int32} (h : mNd M m s) : mNd (jSi M m f x) m s := fun k hk => by
  rw [ji_Sin (by omega), ji_Sin (by omega), ji_Sin (by omega), ji_Sin (by omega)]; exact h k hk
theorem mEx.adv {M : jM} {m : Nat} {c : Nat → Int32} {L o : Nat} {g : gS} {s : eSt} (h : mEx M m c L g s o) (hs : s.1 + 1 ≤ L) : mEx (mRS M m (s.1 + 1, g.2)) m c L (s.1 + 1, g.2) (s.1 + 1, s.2) o := by
  obtain ⟨a1, a2, a3, a4, a5, a6⟩ := h
  exact ⟨a1.rs _ hs, fun k hk => a2.rs k hk, by rw [mRS_o (by omega)]; exact a3, by rw [mRS_o (by omega)]; exact a4, rfl, a6⟩
theorem gHere_t {c : Nat → Int32} {L p : Nat} {x : Int32} (hx : x ≠ -1) (h : gHere c L p = x) : tIsAt c L p x = true := by
  unfold gHere at h
  unfold tIsAt
  by_cases hp : p < L
  · rw [if_pos hp] at h; rw [decide_eq_true hp, decide_eq_true h]; rfl
  · rw [if_neg hp] at h; exact absurd h.symm hx
theorem gHere_f {c : Nat → Int32} {L p : Nat} {x : Int32} (h : ¬ gHere c L p = x) : tIsAt c L p x = false := by
  unfold gHere at h
  unfold tIsAt
  by_cases hp : p < L
  · rw [if_pos hp] at h; rw [decide_eq_false h, Bool.and_false]
  · rw [decide_eq_false hp]; rfl
theorem gHere_c {c : Nat → Int32} {L p : Nat} (h : p < L) : gHere c L p = c p := if_pos h
theorem tIsAt_c {c : Nat → Int32} {L p : Nat} {x : Int32} (h : tIsAt c L p x = true) : c p = x := by
  unfold tIsAt at h
  rw [Bool.and_eq_true] at h
  exact of_decide_eq_true h.2
/-- an operation's node, by rows -/
theorem eOp_rows {c : Nat → Int32} {L : Nat} {G : eRd} (hL : L ≤ 60) (hG : eGd L G) {kd le : Int32} {s s1 : eSt} (hk : kd = 0 ∨ kd = 1 ∨ kd = 2) (h1 : eOk L s1) (h0 : s.2.1 ≤ s.1) (hle : le ≠ -1) (hT : eTree L s (le, s1)) (ha : eAtO c L s1.1 = true) (hr : (G (s1.1 + 1, s1.2)).1 ≠ -1) :
    (eOp c L G kd le s1).1 = nI (G (s1.1 + 1, s1.2)).2.2.1 ∧ (eOp c L G kd le s1).2.1 = (G (s1.1 + 1, s1.2)).2.1 ∧ (eOp c L G kd le s1).2.2.1 = (G (s1.1 + 1, s1.2)).2.2.1 + 1 ∧ (eOp c L G kd le s1).2.2.2.1 = upd (G (s1.1 + 1, s1.2)).2.2.2.1 (G (s1.1 + 1, s1.2)).2.2.1 kd ∧
    (eOp c L G kd le s1).2.2.2.2.1 = upd (G (s1.1 + 1, s1.2)).2.2.2.2.1 (G (s1.1 + 1, s1.2)).2.2.1 (nI s1.1) ∧ (eOp c L G kd le s1).2.2.2.2.2.1 = upd (G (s1.1 + 1, s1.2)).2.2.2.2.2.1 (G (s1.1 + 1, s1.2)).2.2.1 le ∧ (eOp c L G kd le s1).2.2.2.2.2.2.1 = upd (G (s1.1 + 1, s1.2)).2.2.2.2.2.2.1 (G (s1.1 + 1, s1.2)).2.2.1 (G (s1.1 + 1, s1.2)).1 ∧
    (G (s1.1 + 1, s1.2)).2.2.1 < L ∧ s1.1 + 1 ≤ (G (s1.1 + 1, s1.2)).2.1 ∧ (G (s1.1 + 1, s1.2)).2.1 ≤ L := by
  obtain ⟨t, e1, e2, e3, e4, e5, e6, e7, e8⟩ := hT hle
  have e1 : le = nI t := e1
  have e3 : s1.2.1 = t + 1 := e3
  have e4 : t + 1 + s.1 ≤ s1.1 + s.2.1 := e4
  have hlt := eAtO_lt ha
  have hok : eOk L ((s1.1 + 1, s1.2) : eSt) := ⟨hlt, h1.2⟩
  obtain ⟨r, g1, g2, g3, g4, g5, g6, g7, g8⟩ := hG (s1.1 + 1, s1.2) hok (by show s1.2.1 ≤ s1.1 + 1; omega) hr
  have g2 : s1.2.1 ≤ r := g2
  have g4 : r + 1 + (s1.1 + 1) ≤ (G (s1.1 + 1, s1.2)).2.1 + s1.2.1 := g4
  have hk4 : kd ≠ 4 := by rcases hk with rfl | rfl | rfl <;> decide
  unfold eOp
  rw [if_pos ha, if_neg hr]
  generalize G (s1.1 + 1, s1.2) = R at *
  rw [e1, g1, eAdd_2 hk4 (by omega) (by omega) (by omega) hL]
  exact ⟨rfl, rfl, rfl, rfl, rfl, rfl, rfl, by omega, by omega, g5⟩
theorem eOp_bad {c : Nat → Int32} {L : Nat} {G : eRd} {kd le : Int32} {s1 : eSt} (ha : eAtO c L s1.1 = true) (hr : (G (s1.1 + 1, s1.2)).1 = -1) : eOp c L G kd le s1 = (-1, (G (s1.1 + 1, s1.2)).2) := by unfold eOp; rw [if_pos ha, if_pos hr]
theorem eTgo_m {c : Nat → Int32} {L : Nat} {G : eRd} {fu : Nat} {s : eSt} : eTgo c L G fu (-1) s = (-1, s) := by
  cases fu with
  | zero => rfl
  | succ fu => unfold eTgo; rw [if_pos rfl]
theorem eSgo_m {c : Nat → Int32} {L : Nat} {G : eRd} {fu : Nat} {s : eSt} : eSgo c L G fu (-1) s = (-1, s) := by
  cases fu with
  | zero => rfl
  | succ fu => unfold eSgo; rw [if_pos rfl]
theorem eTgo_1 {c : Nat → Int32} {L : Nat} {G : eRd} {fu : Nat} {le : Int32} {s : eSt} (hle : le ≠ -1) (h : tIsAt c L s.1 38 = true) : eTgo c L G (fu + 1) le s = eTgo c L G fu (eOp c L G 1 le s).1 (eOp c L G 1 le s).2 := by
  conv => lhs; unfold eTgo
  rw [if_neg hle, if_pos h]
theorem eTgo_2 {c : Nat → Int32} {L : Nat} {G : eRd} {fu : Nat} {le : Int32} {s : eSt} (hle : le ≠ -1) (h1 : tIsAt c L s.1 38 = false) (h : tIsAt c L s.1 45 = true) : eTgo c L G (fu + 1) le s = eTgo c L G fu (eOp c L G 2 le s).1 (eOp c L G 2 le s).2 := by
  conv => lhs; unfold eTgo
  rw [if_neg hle, if_neg (by rw [h1]; decide), if_pos h]
theorem eTgo_n {c : Nat → Int32} {L : Nat} {G : eRd} {fu : Nat} {le : Int32} {s : eSt} (h1 : tIsAt c L s.1 38 = false) (h : tIsAt c L s.1 45 = false) : eTgo c L G fu le s = (le, s) := by
  cases fu with
  | zero => rfl
  | succ fu =>
    unfold eTgo
    split
    · rfl
    · rw [if_neg (by rw [h1]; decide), if_neg (by rw [h]; decide)]
theorem eSgo_1 {c : Nat → Int32} {L : Nat} {G : eRd} {fu : Nat} {le : Int32} {s : eSt} (hle : le ≠ -1) (h : tIsAt c L s.1 43 = true) : eSgo c L G (fu + 1) le s = eSgo c L G fu (eOp c L (eT c L G) 0 le s).1 (eOp c L (eT c L G) 0 le s).2 := by
  conv => lhs; unfold eSgo
  rw [if_neg hle, if_pos h]
theorem eSgo_n {c : Nat → Int32} {L : Nat} {G : eRd} {fu : Nat} {le : Int32} {s : eSt} (h : tIsAt c L s.1 43 = false) : eSgo c L G fu le s = (le, s) := by
  cases fu with
  | zero => rfl
  | succ fu =>
    unfold eSgo
    split
    · rfl
    · rw [if_neg (by rw [h]; decide)]
theorem eAt1 {c : Nat → Int32} {L p : Nat} (h : tIsAt c L p 38 = true) : eAtO c L p = true := by unfold eAtO; rw [h, Bool.or_true, Bool.true_or]
theorem eAt2 {c : Nat → Int32} {L p : Nat} (h : tIsAt c L p 45 = true) : eAtO c L p = true := by unfold eAtO; rw [h, Bool.or_true]
theorem eAt0 {c : Nat → Int32} {L p : Nat} (h : tIsAt c L p 43 = true) : eAtO c L p = true := by unfold eAtO; rw [h, Bool.true_or, Bool.true_or]
/-- where the loop of a row of operations stands -/
def tLp (go : Nat → Int32 → eSt → Int32 × eSt) (L : Nat) (s : eSt) (R : Int32 × eSt) (K : jM) (m : Nat) (c : Nat → Int32) (o fu : Nat) (g : gS) (x : Int32) (s1 : eSt) : Prop :=
  (g.2.1 = false ∧ x ≠ -1 ∧ mEx K m c L g s1 o ∧ eOk L s1 ∧ eTree L s (x, s1) ∧ go fu x s1 = R ∧ L - s1.1 < fu) ∨ (g.2.1 = true ∧ R.1 = -1 ∧ R.2.1 = g.1)
theorem dX8_node_0 : decode cX8_node 0 = .ok (.aload_n 0, 1) := by decide +kernel
theorem dX8_node_1 : decode cX8_node 1 = .ok (.getfield 38, 3) := by decide +kernel
theorem dX8_node_4 : decode cX8_node 4 = .ok (.aload_n 0, 1) := by decide +kernel
theorem dX8_node_5 : decode cX8_node 5 = .ok (.getfield 166, 3) := by decide +kernel
theorem dX8_node_8 : decode cX8_node 8 = .ok (.iload_n 1, 1) := by decide +kernel
theorem dX8_node_9 : decode cX8_node 9 = .ok (.iastore, 1) := by decide +kernel
theorem dX8_node_10 : decode cX8_node 10 = .ok (.aload_n 0, 1) := by decide +kernel
theorem dX8_node_11 : decode cX8_node 11 = .ok (.getfield 41, 3) := by decide +kernel
theorem dX8_node_14 : decode cX8_node 14 = .ok (.aload_n 0, 1) := by decide +kernel
theorem dX8_node_15 : decode cX8_node 15 = .ok (.getfield 166, 3) := by decide +kernel
theorem dX8_node_18 : decode cX8_node 18 = .ok (.iload_n 2, 1) := by decide +kernel
theorem dX8_node_19 : decode cX8_node 19 = .ok (.iastore, 1) := by decide +kernel
theorem dX8_node_20 : decode cX8_node 20 = .ok (.aload_n 0, 1) := by decide +kernel
theorem dX8_node_21 : decode cX8_node 21 = .ok (.getfield 44, 3) := by decide +kernel
theorem dX8_node_24 : decode cX8_node 24 = .ok (.aload_n 0, 1) := by decide +kernel
theorem dX8_node_25 : decode cX8_node 25 = .ok (.getfield 166, 3) := by decide +kernel
theorem dX8_node_28 : decode cX8_node 28 = .ok (.iload_n 3, 1) := by decide +kernel
theorem dX8_node_29 : decode cX8_node 29 = .ok (.iastore, 1) := by decide +kernel
theorem dX8_node_30 : decode cX8_node 30 = .ok (.aload_n 0, 1) := by decide +kernel
theorem dX8_node_31 : decode cX8_node 31 = .ok (.getfield 47, 3) := by decide +kernel
theorem dX8_node_34 : decode cX8_node 34 = .ok (.aload_n 0, 1) := by decide +kernel
theorem dX8_node_35 : decode cX8_node 35 = .ok (.getfield 166, 3) := by decide +kernel
theorem dX8_node_38 : decode cX8_node 38 = .ok (.iload 4, 2) := by decide +kernel
theorem dX8_node_40 : decode cX8_node 40 = .ok (.iastore, 1) := by decide +kernel
theorem dX8_node_41 : decode cX8_node 41 = .ok (.aload_n 0, 1) := by decide +kernel
theorem dX8_node_42 : decode cX8_node 42 = .ok (.dup, 1) := by decide +kernel
theorem dX8_node_43 : decode cX8_node 43 = .ok (.getfield 166, 3) := by decide +kernel
theorem dX8_node_46 : decode cX8_node 46 = .ok (.iconst 1, 1) := by decide +kernel
theorem dX8_node_47 : decode cX8_node 47 = .ok (.iadd, 1) := by decide +kernel
theorem dX8_node_48 : decode cX8_node 48 = .ok (.putfield 166, 3) := by decide +kernel
theorem dX8_node_51 : decode cX8_node 51 = .ok (.aload_n 0, 1) := by decide +kernel
theorem dX8_node_52 : decode cX8_node 52 = .ok (.getfield 166, 3) := by decide +kernel
theorem dX8_node_55 : decode cX8_node 55 = .ok (.iconst 1, 1) := by decide +kernel
theorem dX8_node_56 : decode cX8_node 56 = .ok (.isub, 1) := by decide +kernel
theorem dX8_node_57 : decode cX8_node 57 = .ok (.ireturn, 1) := by decide +kernel
set_option maxHeartbeats 400000 in
set_option maxRecDepth 20000 in
theorem ct_X8_node (l : Launch) (D : va_G) (dA : Nat → ClassId) (hst : l.stackTraces = false) (M : jM) (m : Nat) (hM : mOk M m) (nn : Nat) (h25 : ji M m 25 = nI nn) (hn : nn < 60) (sg a b p : Int32) : jCT l D dA yX8_node wsX8_node (20) (300) (0) (0) 1 [.ref (m), .int (sg), .int (a), .int (b), .int (p)] M (jPo (oI (nI nn)) (mNo M m nn sg a b p)) := by
  refine jBody (cc := cX8_node) (nL := 5) (rt := (some .int)) (ini := false) (by decide) rfl hst (Nat.le_of_ble_eq_true rfl) (by simp [Value.category]) (by intro h9; first | exact absurd h9 (by decide) | rfl) ?_
  show J l D dA RX8 cX8_node wsX8_node 5 false (some .int) [] (20) (300) (jF D dA (jn M) (jPo (oI (nI nn)) (mNo M m nn sg a b p)) 1) (jn M) (0) (0) (M) 0 [.ref (m), .int (sg), .int (a), .int (b), .int (p)] []
  obtain ⟨m1, m2, ⟨r1, r2, r3, r4, r5, r6, r7, r8, r9, r10, r11, r12, r13⟩, ⟨k1, k2, k3, k4, k5, k6, k7, k8, k9, k10, k11, k12, k13⟩, z1, z2, z3, z4, z5, z6, z7, z8, z9, z10, z11, z12, z13⟩ := id hM
  refine J_aload_n (m) dX8_node_0 rfl rfl ?_
  refine J_getrs (q := m + 8) r8 dX8_node_1 (fun _ h => List.mem_cons_of_mem _ (List.mem_append_left _ (List.mem_append_right _ (h)))) cs11 (by decide) rfl (List.mem_of_getElem? (i := 1) rfl) rfl (show m < jn M from by omega) m2 ?_
  refine J_aload_n (m) dX8_node_4 rfl rfl ?_
  refine J_geti (j := 25) dX8_node_5 (fun _ h => List.mem_cons_of_mem _ (List.mem_append_left _ (List.mem_append_right _ (h)))) cs11 (by decide) rfl (List.mem_of_getElem? (i := 2) rfl) rfl (show m < jn M from by omega) m2 ?_
  refine J_topi (y := nI (nn)) (h25) ?_
  refine J_iload_n dX8_node_8 rfl rfl ?_
  refine J_iastN (k := nn) dX8_node_9 (show m + 8 < jn M from by omega) k8 (by exact Nat.lt_of_lt_of_eq (show _ < 60 by omega) (Eq.symm z8)) (by exact Nat.lt_of_le_of_lt (Nat.le_of_eq z8) (show 60 < 2 ^ 31 by omega)) ?_
  refine J_aload_n (m) dX8_node_10 rfl rfl ?_
  refine J_getrs (q := m + 9) r9 dX8_node_11 (fun _ h => List.mem_cons_of_mem _ (List.mem_append_left _ (List.mem_append_right _ (h)))) cs11 (by decide) rfl (List.mem_of_getElem? (i := 3) rfl) rfl (show m < jn M from by omega) m2 ?_
  refine J_aload_n (m) dX8_node_14 rfl rfl ?_
  refine J_geti (j := 25) dX8_node_15 (fun _ h => List.mem_cons_of_mem _ (List.mem_append_left _ (List.mem_append_right _ (h)))) cs11 (by decide) rfl (List.mem_of_getElem? (i := 2) rfl) rfl (show m < jn M from by omega) m2 ?_
  refine J_topi (y := nI (nn)) ((ji_ne_i (by omega) h25)) ?_
  refine J_iload_n dX8_node_18 rfl rfl ?_
  refine J_iastN (k := nn) dX8_node_19 (show m + 9 < jn M from by omega) k9 (by exact Nat.lt_of_lt_of_eq (show _ < 60 by omega) (Eq.symm z9)) (by exact Nat.lt_of_le_of_lt (Nat.le_of_eq z9) (show 60 < 2 ^ 31 by omega)) ?_
  refine J_aload_n (m) dX8_node_20 rfl rfl ?_
  refine J_getrs (q := m + 10) r10 dX8_node_21 (fun _ h => List.mem_cons_of_mem _ (List.mem_append_left _ (List.mem_append_right _ (h)))) cs11 (by decide) rfl (List.mem_of_getElem? (i := 4) rfl) rfl (show m < jn M from by omega) m2 ?_
  refine J_aload_n (m) dX8_node_24 rfl rfl ?_
  refine J_geti (j := 25) dX8_node_25 (fun _ h => List.mem_cons_of_mem _ (List.mem_append_left _ (List.mem_append_right _ (h)))) cs11 (by decide) rfl (List.mem_of_getElem? (i := 2) rfl) rfl (show m < jn M from by omega) m2 ?_
  refine J_topi (y := nI (nn)) ((ji_ne_i (by omega) (ji_ne_i (by omega) h25))) ?_
  refine J_iload_n dX8_node_28 rfl rfl ?_
  refine J_iastN (k := nn) dX8_node_29 (show m + 10 < jn M from by omega) k10 (by exact Nat.lt_of_lt_of_eq (show _ < 60 by omega) (Eq.symm z10)) (by exact Nat.lt_of_le_of_lt (Nat.le_of_eq z10) (show 60 < 2 ^ 31 by omega)) ?_
  refine J_aload_n (m) dX8_node_30 rfl rfl ?_
  refine J_getrs (q := m + 11) r11 dX8_node_31 (fun _ h => List.mem_cons_of_mem _ (List.mem_append_left _ (List.mem_append_right _ (h)))) cs11 (by decide) rfl (List.mem_of_getElem? (i := 5) rfl) rfl (show m < jn M from by omega) m2 ?_
  refine J_aload_n (m) dX8_node_34 rfl rfl ?_
  refine J_geti (j := 25) dX8_node_35 (fun _ h => List.mem_cons_of_mem _ (List.mem_append_left _ (List.mem_append_right _ (h)))) cs11 (by decide) rfl (List.mem_of_getElem? (i := 2) rfl) rfl (show m < jn M from by omega) m2 ?_
  refine J_topi (y := nI (nn)) ((ji_ne_i (by omega) (ji_ne_i (by omega) (ji_ne_i (by omega) h25)))) ?_
  refine J_iload dX8_node_38 rfl ?_
  refine J_iastN (k := nn) dX8_node_40 (show m + 11 < jn M from by omega) k11 (by exact Nat.lt_of_lt_of_eq (show _ < 60 by omega) (Eq.symm z11)) (by exact Nat.lt_of_le_of_lt (Nat.le_of_eq z11) (show 60 < 2 ^ 31 by omega)) ?_
  refine J_aload_n (m) dX8_node_41 rfl rfl ?_
  refine J_dup dX8_node_42 rfl ?_
  refine J_geti (j := 25) dX8_node_43 (fun _ h => List.mem_cons_of_mem _ (List.mem_append_left _ (List.mem_append_right _ (h)))) cs11 (by decide) rfl (List.mem_of_getElem? (i := 2) rfl) rfl (show m < jn M from by omega) m2 ?_
  refine J_topi (y := nI (nn)) ((ji_ne_i (by omega) (ji_ne_i (by omega) (ji_ne_i (by omega) (ji_ne_i (by omega) h25))))) ?_
  refine J_iconst (x := 1) dX8_node_46 (by decide) ?_
  refine J_iadd dX8_node_47 ?_
  refine J_topi (y := nI (nn + 1)) (nI_add (nn) (1)) ?_
  refine J_puti (j := 25) (x := nI (nn + 1)) dX8_node_48 (fun _ h => List.mem_cons_of_mem _ (List.mem_append_left _ (List.mem_append_right _ (h)))) cs11 cty11 (by decide) rfl (List.mem_of_getElem? (i := 2) rfl) rfl rfl ⟨rfl, rfl⟩ (show m < jn M from by omega) m2 ?_
  refine J_aload_n (m) dX8_node_51 rfl rfl ?_
  refine J_geti (j := 25) dX8_node_52 (fun _ h => List.mem_cons_of_mem _ (List.mem_append_left _ (List.mem_append_right _ (h)))) cs11 (by decide) rfl (List.mem_of_getElem? (i := 2) rfl) rfl (show m < jn M from by omega) m2 ?_
  refine J_topi (y := nI (nn + 1)) ((by simp [ji_Si])) ?_
  refine J_iconst (x := 1) dX8_node_55 (by decide) ?_
  refine J_isub dX8_node_56 ?_
  refine J_topi (y := nI (nn + 1 - 1)) (pk_sub (a := nn + 1) (b := 1) (by omega)) ?_
  exact J_iret (ty := .int) dX8_node_57 rfl (rfl) ⟨(by rfl), (by rfl)⟩

theorem dX8_readTerm_5 : decode cX8_readTerm 5 = .ok (.aload_n 0, 1) := by decide +kernel
theorem dX8_readTerm_6 : decode cX8_readTerm 6 = .ok (.getfield 87, 3) := by decide +kernel
theorem dX8_readTerm_9 : decode cX8_readTerm 9 = .ok (.ifCond .ne 65, 3) := by decide +kernel
theorem dX8_readTerm_12 : decode cX8_readTerm 12 = .ok (.aload_n 0, 1) := by decide +kernel
theorem dX8_readTerm_13 : decode cX8_readTerm 13 = .ok (.invokevirtual 91, 3) := by decide +kernel
set_option maxRecDepth 20000 in
theorem ggX8_readTerm_X8_here : GoodIn wsX8_readTerm wsX8_here := goodIn_ca (goodIn_r _ [11, 2, 12, 3, 52, 53, 54, 55, 56, 57, 58, 59, 60, 61, 62, 63, 64, 65, 66, 67, 68, 69, 70, 71, 72, 73, 74, 75, 76, 77, 78, 79, 80, 81, 82] (by decide +kernel) (by decide +kernel)) (goodIn_sub (fun _ h => List.mem_cons_of_mem _ (List.mem_append_right _ h)) (by decide +kernel))
set_option maxRecDepth 20000 in
theorem gX8_readTerm_X8_here : GoodIn wsX8_readTerm (wsV RX8 91 RX8 yX8_here wsX8_here) := goodIn_app (goodIn_of _ (by decide +kernel)) ggX8_readTerm_X8_here
theorem dX8_readTerm_16 : decode cX8_readTerm 16 = .ok (.bipush 38, 2) := by decide +kernel
theorem dX8_readTerm_18 : decode cX8_readTerm 18 = .ok (.if_icmp .eq 12, 3) := by decide +kernel
theorem dX8_readTerm_30 : decode cX8_readTerm 30 = .ok (.aload_n 0, 1) := by decide +kernel
theorem dX8_readTerm_31 : decode cX8_readTerm 31 = .ok (.getfield 81, 3) := by decide +kernel
theorem dX8_readTerm_34 : decode cX8_readTerm 34 = .ok (.istore_n 2, 1) := by decide +kernel
theorem dX8_readTerm_35 : decode cX8_readTerm 35 = .ok (.aload_n 0, 1) := by decide +kernel
theorem dX8_readTerm_36 : decode cX8_readTerm 36 = .ok (.dup, 1) := by decide +kernel
theorem dX8_readTerm_37 : decode cX8_readTerm 37 = .ok (.getfield 81, 3) := by decide +kernel
theorem dX8_readTerm_40 : decode cX8_readTerm 40 = .ok (.iconst 1, 1) := by decide +kernel
theorem dX8_readTerm_41 : decode cX8_readTerm 41 = .ok (.iadd, 1) := by decide +kernel
theorem dX8_readTerm_42 : decode cX8_readTerm 42 = .ok (.putfield 81, 3) := by decide +kernel
theorem dX8_readTerm_45 : decode cX8_readTerm 45 = .ok (.aload_n 0, 1) := by decide +kernel
theorem dX8_readTerm_46 : decode cX8_readTerm 46 = .ok (.invokevirtual 172, 3) := by decide +kernel
set_option maxRecDepth 20000 in
theorem ggX8_readTerm_X8_readFactor : GoodIn wsX8_readTerm wsX8_readFactor := goodIn_ca (goodIn_r _ [22, 2, 1, 23, 3, 24, 8, 9, 10, 7, 11, 12, 25, 26, 27, 28, 4, 5, 6, 29, 30, 31, 32, 33, 34, 35, 36, 37, 38, 39, 13, 14, 15, 16, 17, 18, 19, 20, 21, 40, 41, 42, 43, 44, 45, 46, 47, 48, 49, 50, 51, 0, 52, 53, 54, 55, 56, 57, 58, 59, 60, 61, 62, 63, 64, 65, 66, 67, 68, 69, 70, 71, 72, 73, 74, 75, 76, 77, 78, 79, 80, 81, 82] (by decide +kernel) (by decide +kernel)) (goodIn_sub (fun _ h => List.mem_cons_of_mem _ (List.mem_append_right _ h)) (by decide +kernel))
set_option maxRecDepth 20000 in
theorem gX8_readTerm_X8_readFactor : GoodIn wsX8_readTerm (wsV RX8 172 RX8 yX8_readFactor wsX8_readFactor) := goodIn_app (goodIn_of _ (by decide +kernel)) ggX8_readTerm_X8_readFactor
theorem yY_X8_readFactor : jY yX8_readFactor wsX8_readFactor cX8_readFactor 3 (some .int) 0 := ⟨⟨_, rfl⟩, by decide +kernel, by decide +kernel, by decide +kernel⟩
theorem dX8_readTerm_49 : decode cX8_readTerm 49 = .ok (.istore_n 3, 1) := by decide +kernel
theorem dX8_readTerm_50 : decode cX8_readTerm 50 = .ok (.aload_n 0, 1) := by decide +kernel
theorem dX8_readTerm_51 : decode cX8_readTerm 51 = .ok (.getfield 87, 3) := by decide +kernel
theorem dX8_readTerm_54 : decode cX8_readTerm 54 = .ok (.ifCond .ne 17, 3) := by decide +kernel
theorem dX8_readTerm_71 : decode cX8_readTerm 71 = .ok (.goto (-66), 3) := by decide +kernel
theorem dX8_readTerm_57 : decode cX8_readTerm 57 = .ok (.aload_n 0, 1) := by decide +kernel
theorem dX8_readTerm_58 : decode cX8_readTerm 58 = .ok (.aload_n 0, 1) := by decide +kernel
theorem dX8_readTerm_59 : decode cX8_readTerm 59 = .ok (.getfield 19, 3) := by decide +kernel
theorem dX8_readTerm_62 : decode cX8_readTerm 62 = .ok (.iload_n 2, 1) := by decide +kernel
theorem dX8_readTerm_63 : decode cX8_readTerm 63 = .ok (.iaload, 1) := by decide +kernel
theorem dX8_readTerm_64 : decode cX8_readTerm 64 = .ok (.iload_n 1, 1) := by decide +kernel
theorem dX8_readTerm_65 : decode cX8_readTerm 65 = .ok (.iload_n 3, 1) := by decide +kernel
theorem dX8_readTerm_66 : decode cX8_readTerm 66 = .ok (.iload_n 2, 1) := by decide +kernel
theorem dX8_readTerm_67 : decode cX8_readTerm 67 = .ok (.invokevirtual 178, 3) := by decide +kernel
set_option maxRecDepth 20000 in
theorem ggX8_readTerm_X8_node : GoodIn wsX8_readTerm wsX8_node := goodIn_ca (goodIn_r _ [16, 17, 18, 19, 20, 21, 52, 53, 54, 55, 56, 57, 58, 59, 60, 61, 62, 63, 64, 65, 66, 67, 68, 69, 70, 71, 72, 73, 74, 75, 76, 77, 78, 79, 80, 81, 82] (by decide +kernel) (by decide +kernel)) (goodIn_sub (fun _ h => List.mem_cons_of_mem _ (List.mem_append_right _ h)) (by decide +kernel))
set_option maxRecDepth 20000 in
theorem gX8_readTerm_X8_node : GoodIn wsX8_readTerm (wsV RX8 178 RX8 yX8_node wsX8_node) := goodIn_app (goodIn_of _ (by decide +kernel)) ggX8_readTerm_X8_node
theorem yY_X8_node : jY yX8_node wsX8_node cX8_node 5 (some .int) 4 := ⟨⟨_, rfl⟩, by decide +kernel, by decide +kernel, by decide +kernel⟩
theorem dX8_readTerm_70 : decode cX8_readTerm 70 = .ok (.istore_n 1, 1) := by decide +kernel
theorem dX8_readTerm_21 : decode cX8_readTerm 21 = .ok (.aload_n 0, 1) := by decide +kernel
theorem dX8_readTerm_22 : decode cX8_readTerm 22 = .ok (.invokevirtual 91, 3) := by decide +kernel
theorem dX8_readTerm_25 : decode cX8_readTerm 25 = .ok (.bipush 45, 2) := by decide +kernel
theorem dX8_readTerm_27 : decode cX8_readTerm 27 = .ok (.if_icmp .ne 47, 3) := by decide +kernel
theorem dX8_readTerm_74 : decode cX8_readTerm 74 = .ok (.iload_n 1, 1) := by decide +kernel
theorem dX8_readTerm_75 : decode cX8_readTerm 75 = .ok (.ireturn, 1) := by decide +kernel
theorem dX8_readTerm_0 : decode cX8_readTerm 0 = .ok (.aload_n 0, 1) := by decide +kernel
theorem dX8_readTerm_1 : decode cX8_readTerm 1 = .ok (.invokevirtual 172, 3) := by decide +kernel
theorem dX8_readTerm_4 : decode cX8_readTerm 4 = .ok (.istore_n 1, 1) := by decide +kernel
set_option maxHeartbeats 400000 in
set_option maxRecDepth 20000 in
theorem ct_X8_readTerm (l : Launch) (D : va_G) (dA : Nat → ClassId) (hst : l.stackTraces = false) (M : jM) (m : Nat) (c : Nat → Int32) (L o : Nat) (hL : L ≤ 60) (s : eSt) (g : gS) (hX : mEx M m c L g s o) (hsk : eOk L s) (hs0 : s.2.1 ≤ s.1) (f0 l0 : Nat) (hf : 30 ≤ f0) (hl : 600 ≤ l0) (G : eRd) (hGo : ∀ s, eOk L s → eOk L (G s).2) (hGd : eGd L G) (hG : mCT l D dA yX8_readFactor wsX8_readFactor f0 l0 m c L o G) : jCT l D dA yX8_readTerm wsX8_readTerm (f0 + 20) (l0 + 200) (0) (0) 1 [.ref (m)] M (mEo M m c L o (eT c L G s)) := by
  refine jBody (cc := cX8_readTerm) (nL := 4) (rt := (some .int)) (ini := false) (by decide) rfl hst (Nat.le_of_ble_eq_true rfl) (by simp [Value.category]) (by intro h9; first | exact absurd h9 (by decide) | rfl) ?_
  show J l D dA RX8 cX8_readTerm wsX8_readTerm 4 false (some .int) [] (f0 + 20) (l0 + 200) (jF D dA (jn M) (mEo M m c L o (eT c L G s)) 1) (jn M) (0) (0) (M) 0 [.ref (m), .float 0, .float 0, .float 0] []
  obtain ⟨hRd, hNd, h25, h26, hgp, hgb⟩ := id hX
  obtain ⟨hM, hL6, hL60, hbuf, hple, -⟩ := id hRd
  obtain ⟨m1, m2, ⟨r1, r2, r3, r4, r5, r6, r7, r8, r9, r10, r11, r12, r13⟩, ⟨k1, k2, k3, k4, k5, k6, k7, k8, k9, k10, k11, k12, k13⟩, z1, z2, z3, z4, z5, z6, z7, z8, z9, z10, z11, z12, z13⟩ := id hM
  have L5 : ∀ (fuel : Nat) (fu : Nat) (K : jM) (g1 : gS) (x : Int32) (s1 : eSt) (hKd : mRd K m c L g1) (h26K : ji K m 26 = nI o) (hFK : mFr m M K) (hEK : mE m M K) (hcK : ji K m 11 = ji M m 11) (hJ : tLp (eTgo c L G) L s (eT c L G s) K m c o fu g1 x s1), fu < fuel → J l D dA RX8 cX8_readTerm wsX8_readTerm 4 false (some .int) [] (f0 + 20) (l0 + 200) (jF D dA (jn M) (mEo M m c L o (eT c L G s)) 1) (jn M) (0) (0) (K) 5 [.ref (m), .int (x), .float 0, .float 0] [] := by
    intro fuel
    induction fuel with
    | zero => intro fu K g1 x s1 hKd h26K hFK hEK hcK hJ hm; exact absurd hm (Nat.not_lt_zero _)
    | succ fuel ih5 =>
      intro fu K g1 x s1 hKd h26K hFK hEK hcK hJ hm5
      obtain ⟨Km1, Km2, ⟨Kr1, Kr2, Kr3, Kr4, Kr5, Kr6, Kr7, Kr8, Kr9, Kr10, Kr11, Kr12, Kr13⟩, ⟨Kk1, Kk2, Kk3, Kk4, Kk5, Kk6, Kk7, Kk8, Kk9, Kk10, Kk11, Kk12, Kk13⟩, Kz1, Kz2, Kz3, Kz4, Kz5, Kz6, Kz7, Kz8, Kz9, Kz10, Kz11, Kz12, Kz13⟩ := id hKd.1
      rcases hJ with ⟨hgf, hx1, hX1, hk1, hT1, hgo, hfu⟩ | ⟨hgf, hR1, hR2⟩
      · obtain ⟨z9, rfl⟩ : ∃ z9, fu = z9 + 1 := ⟨fu - 1, by omega⟩
        obtain ⟨hRd1, hNd1, h251, h261, hgp1, -⟩ := id hX1
        have hle1 : s1.1 ≤ L := hk1.1
        have hn1 : s1.2.1 ≤ s1.1 := eTree_ok hT1 hs0 hx1
        refine J_aload_n (m) dX8_readTerm_5 rfl rfl ?_
        refine J_geti (j := 16) dX8_readTerm_6 (fun _ h => List.mem_cons_of_mem _ (List.mem_append_left _ (List.mem_append_right _ (h)))) cs11 (by decide) rfl (List.mem_of_getElem? (i := 1) rfl) rfl (show m < jn K from by omega) Km2 ?_
        refine J_topi (y := jb (false)) ((hKd.f16.trans (congrArg jb hgf))) ?_
        refine J_if_ne dX8_readTerm_9 (tgt := 74) (by decide) (fun c9 => ?_) (fun c9 => ?_)
        · exact absurd c9 (by decide)
        · have c9 := jb0T c9
          refine J_aload_n (m) dX8_readTerm_12 rfl rfl ?_
          refine J_calli0 (jrunV (As := []) (ct_X8_here l D dA hst K m c L g1 hKd) dX8_readTerm_13 yY_X8_here gX8_readTerm_X8_here rfl cs11 (show m < jn K from by omega) Km2 rfl ⟨by omega, by omega⟩ ⟨Nat.zero_le _, Nat.zero_le _⟩ rfl (Nat.le_of_ble_eq_true rfl)) (rfl) (rfl) ?_
          refine J_topi (y := gHere c L s1.1) (by rw [hgp1]) ?_
          refine J_bipush (x := 38) dX8_readTerm_16 (by decide) ?_
          refine J_icmp_eq dX8_readTerm_18 (tgt := 30) (by decide) (fun c18 => ?_) (fun c18 => ?_)
          · have hlt : s1.1 + 1 ≤ L := tIsAt_lt (gHere_t (by decide) c18)
            refine J_aload_n (m) dX8_readTerm_30 rfl rfl ?_
            refine J_geti (j := 15) dX8_readTerm_31 (fun _ h => List.mem_cons_of_mem _ (List.mem_append_left _ (List.mem_append_right _ (h)))) cs11 (by decide) rfl (List.mem_of_getElem? (i := 2) rfl) rfl (show m < jn K from by omega) Km2 ?_
            refine J_topi (y := nI (s1.1)) ((hKd.f15.trans (congrArg nI hgp1))) ?_
            refine J_istore_n (lv' := [.ref (m), .int (x), .int (nI (s1.1)), .float 0]) dX8_readTerm_34 rfl (by decide) rfl rfl ?_
            refine J_aload_n (m) dX8_readTerm_35 rfl rfl ?_
            refine J_dup dX8_readTerm_36 rfl ?_
            refine J_geti (j := 15) dX8_readTerm_37 (fun _ h => List.mem_cons_of_mem _ (List.mem_append_left _ (List.mem_append_right _ (h)))) cs11 (by decide) rfl (List.mem_of_getElem? (i := 2) rfl) rfl (show m < jn K from by omega) Km2 ?_
            refine J_topi (y := nI (s1.1)) ((hKd.f15.trans (congrArg nI hgp1))) ?_
            refine J_iconst (x := 1) dX8_readTerm_40 (by decide) ?_
            refine J_iadd dX8_readTerm_41 ?_
            refine J_topi (y := nI (s1.1 + 1)) (nI_add (s1.1) (1)) ?_
            refine J_puti (j := 15) (x := nI (s1.1 + 1)) dX8_readTerm_42 (fun _ h => List.mem_cons_of_mem _ (List.mem_append_left _ (List.mem_append_right _ (h)))) cs11 cty11 (by decide) rfl (List.mem_of_getElem? (i := 2) rfl) rfl rfl ⟨rfl, rfl⟩ (show m < jn K from by omega) Km2 ?_
            refine J_mem (M' := mRS K m (s1.1 + 1, g1.2)) ((congrArg (fun z => jSi z m 15 (nI (s1.1 + 1))) hKd.self).trans (mRS_15 _ _ _ _)) ?_
            refine J_aload_n (m) dX8_readTerm_45 rfl rfl ?_
            refine J_calli (jrunV (As := []) (hG ((mRS K m (s1.1 + 1, g1.2))) (s1.1 + 1, s1.2) (s1.1 + 1, g1.2) (hX1.adv hlt) ⟨hlt, hk1.2⟩ (by show s1.2.1 ≤ s1.1 + 1; omega)) dX8_readTerm_46 yY_X8_readFactor gX8_readTerm_X8_readFactor rfl cs11 (show m < jn K from by omega) Km2 rfl ⟨by omega, by omega⟩ ⟨Nat.zero_le _, Nat.zero_le _⟩ rfl (Nat.le_of_ble_eq_true rfl)) ⟨Nat.zero_le _, Nat.zero_le _⟩ (Or.inr ⟨(jOk.ref (show m < jn K from by omega) (jOk.int (jOk.int (jOk.float jOk.nil)))), jOk.nil⟩) (fun E M9 hp _ => by obtain ⟨_, _, h1, _⟩ := hp; cases h1) (fun x9 K46 hp46 hle46 => ?_)
            obtain ⟨x46, g46, he9, hd46, hp846, hb846, ho846, hF846, hE846, hc846, hk846⟩ := hp46
            have he9 := (jI_inj he9).symm
            subst he9
            obtain ⟨K46m1, K46m2, ⟨K46r1, K46r2, K46r3, K46r4, K46r5, K46r6, K46r7, K46r8, K46r9, K46r10, K46r11, K46r12, K46r13⟩, ⟨K46k1, K46k2, K46k3, K46k4, K46k5, K46k6, K46k7, K46k8, K46k9, K46k10, K46k11, K46k12, K46k13⟩, K46z1, K46z2, K46z3, K46z4, K46z5, K46z6, K46z7, K46z8, K46z9, K46z10, K46z11, K46z12, K46z13⟩ := id hd46.1
            by_cases hr46 : (G (s1.1 + 1, s1.2)).1 = -1
            · have hg46 : g46.2.1 = true := by rw [hb846]; exact decide_eq_true hr46
              refine J_istore_n (lv' := [.ref (m), .int (x), .int (nI (s1.1)), .int (x46)]) dX8_readTerm_49 rfl (by decide) rfl rfl ?_
              refine J_aload_n (m) dX8_readTerm_50 rfl rfl ?_
              refine J_geti (j := 16) dX8_readTerm_51 (fun _ h => List.mem_cons_of_mem _ (List.mem_append_left _ (List.mem_append_right _ (h)))) cs11 (by decide) rfl (List.mem_of_getElem? (i := 1) rfl) rfl (show m < jn K46 from by omega) K46m2 ?_
              refine J_topi (y := jb (true)) ((hd46.f16.trans (congrArg jb hg46))) ?_
              refine J_if_ne dX8_readTerm_54 (tgt := 71) (by decide) (fun c54 => ?_) (fun c54 => ?_)
              · have c54 := jb0F c54
                refine J_goto (tgt := 5) dX8_readTerm_71 (by decide) ?_
                refine J_fg 2 (lv' := [.ref (m), .int (x), .float 0, .int (x46)]) rfl ?_
                refine J_fg 3 (lv' := [.ref (m), .int (x), .float 0, .float 0]) rfl ?_
                exact ih5 (z9) (K46) (g46) (x) (s1) (by exact hd46) (by exact ho846) (by exact (hFK.tr mRS_F).tr hF846) (by exact (hEK.tr mRS_E).tr hE846) (by exact hc846.trans ((mRS_o (by omega)).trans hcK)) (by exact Or.inr ⟨hg46, by rw [← hgo, eTgo_1 hx1 (gHere_t (by decide) c18), eOp_bad (eAt1 (gHere_t (by decide) c18)) hr46, eTgo_m], by rw [← hgo, eTgo_1 hx1 (gHere_t (by decide) c18), eOp_bad (eAt1 (gHere_t (by decide) c18)) hr46, eTgo_m]; exact hp846.symm⟩) (by omega)
              · exact absurd c54 (by decide)
            · have hg46 : g46.2.1 = false := by rw [hb846]; exact decide_eq_false hr46
              obtain ⟨hx46, hn46, h2546⟩ := hk846 hr46
              refine J_istore_n (lv' := [.ref (m), .int (x), .int (nI (s1.1)), .int (x46)]) dX8_readTerm_49 rfl (by decide) rfl rfl ?_
              refine J_aload_n (m) dX8_readTerm_50 rfl rfl ?_
              refine J_geti (j := 16) dX8_readTerm_51 (fun _ h => List.mem_cons_of_mem _ (List.mem_append_left _ (List.mem_append_right _ (h)))) cs11 (by decide) rfl (List.mem_of_getElem? (i := 1) rfl) rfl (show m < jn K46 from by omega) K46m2 ?_
              refine J_topi (y := jb (false)) ((hd46.f16.trans (congrArg jb hg46))) ?_
              refine J_if_ne dX8_readTerm_54 (tgt := 71) (by decide) (fun c54 => ?_) (fun c54 => ?_)
              · exact absurd c54 (by decide)
              · have c54 := jb0T c54
                obtain ⟨q1, q2, q3, q4, q5, q6, q7, q8, q9, q10⟩ := eOp_rows hL hGd (kd := 1) (Or.inr (Or.inl rfl)) hk1 hs0 hx1 hT1 (eAt1 (gHere_t (by decide) c18)) hr46
                refine J_aload_n (m) dX8_readTerm_57 rfl rfl ?_
                refine J_aload_n (m) dX8_readTerm_58 rfl rfl ?_
                refine J_getrs (q := m + 4) K46r4 dX8_readTerm_59 (fun _ h => List.mem_cons_of_mem _ (List.mem_append_left _ (List.mem_append_right _ (h)))) cs11 (by decide) rfl (List.mem_of_getElem? (i := 3) rfl) rfl (show m < jn K46 from by omega) K46m2 ?_
                refine J_iload_n dX8_readTerm_62 rfl rfl ?_
                refine J_ialdN (k := s1.1) dX8_readTerm_63 (show m + 4 < jn K46 from by omega) K46k4 (by exact Nat.lt_of_lt_of_eq (show _ < 60 by omega) (Eq.symm K46z4)) (by exact Nat.lt_of_le_of_lt (Nat.le_of_eq K46z4) (show 60 < 2 ^ 31 by omega)) ?_
                refine J_topi (y := (c s1.1)) (by exact hd46.2.2.2.1 _ (by omega)) ?_
                refine J_iload_n dX8_readTerm_64 rfl rfl ?_
                refine J_iload_n dX8_readTerm_65 rfl rfl ?_
                refine J_iload_n dX8_readTerm_66 rfl rfl ?_
                refine J_calli0 (jrunV (As := [.int (c s1.1), .int (x), .int (x46), .int (nI (s1.1))]) (ct_X8_node l D dA hst K46 m hd46.1 (G (s1.1 + 1, s1.2)).2.2.1 h2546 (by omega) ((c s1.1)) ((x)) ((x46)) (nI (s1.1))) dX8_readTerm_67 yY_X8_node gX8_readTerm_X8_node rfl cs11 (show m < jn K46 from by omega) K46m2 rfl ⟨by omega, by omega⟩ ⟨Nat.zero_le _, Nat.zero_le _⟩ rfl (Nat.le_of_ble_eq_true rfl)) (rfl) (rfl) ?_
                refine J_istore_n (lv' := [.ref (m), .int (nI ((G (s1.1 + 1, s1.2)).2.2.1)), .int (nI (s1.1)), .int (x46)]) dX8_readTerm_70 rfl (by decide) rfl rfl ?_
                refine J_goto (tgt := 5) dX8_readTerm_71 (by decide) ?_
                refine J_fg 2 (lv' := [.ref (m), .int (nI ((G (s1.1 + 1, s1.2)).2.2.1)), .float 0, .int (x46)]) rfl ?_
                refine J_fg 3 (lv' := [.ref (m), .int (nI ((G (s1.1 + 1, s1.2)).2.2.1)), .float 0, .float 0]) rfl ?_
                exact ih5 (z9) ((mNo K46 m (G (s1.1 + 1, s1.2)).2.2.1 ((c s1.1)) ((x)) ((x46)) (nI (s1.1)))) (g46) (nI ((G (s1.1 + 1, s1.2)).2.2.1)) ((eOp c L G 1 x s1).2) (by exact hd46.no) (by exact (mNo_o (by decide)).trans ho846) (by exact ((hFK.tr mRS_F).tr hF846).tr mNo_F) (by exact ((hEK.tr mRS_E).tr hE846).tr mNo_E) (by exact (mNo_o (by decide)).trans (hc846.trans ((mRS_o (by omega)).trans hcK))) (by rw [← q1]; exact Or.inl ⟨hg46, by rw [q1]; exact fun h9 => absurd (show nI (G (s1.1 + 1, s1.2)).2.2.1 < 0 by rw [h9]; decide) (nI_pos (by omega)), ⟨hd46.no, mNo_nd hn46 q3 q4 q5 q6 q7 (by rw [tIsAt_c (gHere_t (by decide) c18)]; decide) (Or.inr (Or.inr hx46)), by rw [mNo_25, q3], (mNo_o (by decide)).trans ho846, hp846.trans q2.symm, hg46⟩, eOp_ok hGo hk1, eOp_T hL hGd (Or.inr (Or.inl rfl)) hk1 hs0 hx1 hT1, by rw [← hgo, eTgo_1 hx1 (gHere_t (by decide) c18)], by rw [q2]; omega⟩) (by omega)
          · refine J_aload_n (m) dX8_readTerm_21 rfl rfl ?_
            refine J_calli0 (jrunV (As := []) (ct_X8_here l D dA hst K m c L g1 hKd) dX8_readTerm_22 yY_X8_here gX8_readTerm_X8_here rfl cs11 (show m < jn K from by omega) Km2 rfl ⟨by omega, by omega⟩ ⟨Nat.zero_le _, Nat.zero_le _⟩ rfl (Nat.le_of_ble_eq_true rfl)) (rfl) (rfl) ?_
            refine J_topi (y := gHere c L s1.1) (by rw [hgp1]) ?_
            refine J_bipush (x := 45) dX8_readTerm_25 (by decide) ?_
            refine J_icmp_ne dX8_readTerm_27 (tgt := 74) (by decide) (fun c27 => ?_) (fun c27 => ?_)
            · refine J_iload_n dX8_readTerm_74 rfl rfl ?_
              exact J_iret (ty := .int) dX8_readTerm_75 rfl (rfl) (by have hR : _ = (x, s1) := hgo.symm.trans (eTgo_n (gHere_f c18) (gHere_f c27)); rw [hR]; exact ⟨x, g1, rfl, hKd, hgp1, hgf.trans (decide_eq_false hx1).symm, h26K, hFK, hEK, hcK, fun _ => ⟨rfl, hNd1, h251⟩⟩)
            · have hlt : s1.1 + 1 ≤ L := tIsAt_lt (gHere_t (by decide) c27)
              refine J_aload_n (m) dX8_readTerm_30 rfl rfl ?_
              refine J_geti (j := 15) dX8_readTerm_31 (fun _ h => List.mem_cons_of_mem _ (List.mem_append_left _ (List.mem_append_right _ (h)))) cs11 (by decide) rfl (List.mem_of_getElem? (i := 2) rfl) rfl (show m < jn K from by omega) Km2 ?_
              refine J_topi (y := nI (s1.1)) ((hKd.f15.trans (congrArg nI hgp1))) ?_
              refine J_istore_n (lv' := [.ref (m), .int (x), .int (nI (s1.1)), .float 0]) dX8_readTerm_34 rfl (by decide) rfl rfl ?_
              refine J_aload_n (m) dX8_readTerm_35 rfl rfl ?_
              refine J_dup dX8_readTerm_36 rfl ?_
              refine J_geti (j := 15) dX8_readTerm_37 (fun _ h => List.mem_cons_of_mem _ (List.mem_append_left _ (List.mem_append_right _ (h)))) cs11 (by decide) rfl (List.mem_of_getElem? (i := 2) rfl) rfl (show m < jn K from by omega) Km2 ?_
              refine J_topi (y := nI (s1.1)) ((hKd.f15.trans (congrArg nI hgp1))) ?_
              refine J_iconst (x := 1) dX8_readTerm_40 (by decide) ?_
              refine J_iadd dX8_readTerm_41 ?_
              refine J_topi (y := nI (s1.1 + 1)) (nI_add (s1.1) (1)) ?_
              refine J_puti (j := 15) (x := nI (s1.1 + 1)) dX8_readTerm_42 (fun _ h => List.mem_cons_of_mem _ (List.mem_append_left _ (List.mem_append_right _ (h)))) cs11 cty11 (by decide) rfl (List.mem_of_getElem? (i := 2) rfl) rfl rfl ⟨rfl, rfl⟩ (show m < jn K from by omega) Km2 ?_
              refine J_mem (M' := mRS K m (s1.1 + 1, g1.2)) ((congrArg (fun z => jSi z m 15 (nI (s1.1 + 1))) hKd.self).trans (mRS_15 _ _ _ _)) ?_
              refine J_aload_n (m) dX8_readTerm_45 rfl rfl ?_
              refine J_calli (jrunV (As := []) (hG ((mRS K m (s1.1 + 1, g1.2))) (s1.1 + 1, s1.2) (s1.1 + 1, g1.2) (hX1.adv hlt) ⟨hlt, hk1.2⟩ (by show s1.2.1 ≤ s1.1 + 1; omega)) dX8_readTerm_46 yY_X8_readFactor gX8_readTerm_X8_readFactor rfl cs11 (show m < jn K from by omega) Km2 rfl ⟨by omega, by omega⟩ ⟨Nat.zero_le _, Nat.zero_le _⟩ rfl (Nat.le_of_ble_eq_true rfl)) ⟨Nat.zero_le _, Nat.zero_le _⟩ (Or.inr ⟨(jOk.ref (show m < jn K from by omega) (jOk.int (jOk.int (jOk.float jOk.nil)))), jOk.nil⟩) (fun E M9 hp _ => by obtain ⟨_, _, h1, _⟩ := hp; cases h1) (fun x9 K46 hp46 hle46 => ?_)
              obtain ⟨x46, g46, he9, hd46, hp846, hb846, ho846, hF846, hE846, hc846, hk846⟩ := hp46
              have he9 := (jI_inj he9).symm
              subst he9
              obtain ⟨K46m1, K46m2, ⟨K46r1, K46r2, K46r3, K46r4, K46r5, K46r6, K46r7, K46r8, K46r9, K46r10, K46r11, K46r12, K46r13⟩, ⟨K46k1, K46k2, K46k3, K46k4, K46k5, K46k6, K46k7, K46k8, K46k9, K46k10, K46k11, K46k12, K46k13⟩, K46z1, K46z2, K46z3, K46z4, K46z5, K46z6, K46z7, K46z8, K46z9, K46z10, K46z11, K46z12, K46z13⟩ := id hd46.1
              by_cases hr46 : (G (s1.1 + 1, s1.2)).1 = -1
              · have hg46 : g46.2.1 = true := by rw [hb846]; exact decide_eq_true hr46
                refine J_istore_n (lv' := [.ref (m), .int (x), .int (nI (s1.1)), .int (x46)]) dX8_readTerm_49 rfl (by decide) rfl rfl ?_
                refine J_aload_n (m) dX8_readTerm_50 rfl rfl ?_
                refine J_geti (j := 16) dX8_readTerm_51 (fun _ h => List.mem_cons_of_mem _ (List.mem_append_left _ (List.mem_append_right _ (h)))) cs11 (by decide) rfl (List.mem_of_getElem? (i := 1) rfl) rfl (show m < jn K46 from by omega) K46m2 ?_
                refine J_topi (y := jb (true)) ((hd46.f16.trans (congrArg jb hg46))) ?_
                refine J_if_ne dX8_readTerm_54 (tgt := 71) (by decide) (fun c54 => ?_) (fun c54 => ?_)
                · have c54 := jb0F c54
                  refine J_goto (tgt := 5) dX8_readTerm_71 (by decide) ?_
                  refine J_fg 2 (lv' := [.ref (m), .int (x), .float 0, .int (x46)]) rfl ?_
                  refine J_fg 3 (lv' := [.ref (m), .int (x), .float 0, .float 0]) rfl ?_
                  exact ih5 (z9) (K46) (g46) (x) (s1) (by exact hd46) (by exact ho846) (by exact (hFK.tr mRS_F).tr hF846) (by exact (hEK.tr mRS_E).tr hE846) (by exact hc846.trans ((mRS_o (by omega)).trans hcK)) (by exact Or.inr ⟨hg46, by rw [← hgo, eTgo_2 hx1 (gHere_f c18) (gHere_t (by decide) c27), eOp_bad (eAt2 (gHere_t (by decide) c27)) hr46, eTgo_m], by rw [← hgo, eTgo_2 hx1 (gHere_f c18) (gHere_t (by decide) c27), eOp_bad (eAt2 (gHere_t (by decide) c27)) hr46, eTgo_m]; exact hp846.symm⟩) (by omega)
                · exact absurd c54 (by decide)
              · have hg46 : g46.2.1 = false := by rw [hb846]; exact decide_eq_false hr46
                obtain ⟨hx46, hn46, h2546⟩ := hk846 hr46
                refine J_istore_n (lv' := [.ref (m), .int (x), .int (nI (s1.1)), .int (x46)]) dX8_readTerm_49 rfl (by decide) rfl rfl ?_
                refine J_aload_n (m) dX8_readTerm_50 rfl rfl ?_
                refine J_geti (j := 16) dX8_readTerm_51 (fun _ h => List.mem_cons_of_mem _ (List.mem_append_left _ (List.mem_append_right _ (h)))) cs11 (by decide) rfl (List.mem_of_getElem? (i := 1) rfl) rfl (show m < jn K46 from by omega) K46m2 ?_
                refine J_topi (y := jb (false)) ((hd46.f16.trans (congrArg jb hg46))) ?_
                refine J_if_ne dX8_readTerm_54 (tgt := 71) (by decide) (fun c54 => ?_) (fun c54 => ?_)
                · exact absurd c54 (by decide)
                · have c54 := jb0T c54
                  obtain ⟨q1, q2, q3, q4, q5, q6, q7, q8, q9, q10⟩ := eOp_rows hL hGd (kd := 2) (Or.inr (Or.inr rfl)) hk1 hs0 hx1 hT1 (eAt2 (gHere_t (by decide) c27)) hr46
                  refine J_aload_n (m) dX8_readTerm_57 rfl rfl ?_
                  refine J_aload_n (m) dX8_readTerm_58 rfl rfl ?_
                  refine J_getrs (q := m + 4) K46r4 dX8_readTerm_59 (fun _ h => List.mem_cons_of_mem _ (List.mem_append_left _ (List.mem_append_right _ (h)))) cs11 (by decide) rfl (List.mem_of_getElem? (i := 3) rfl) rfl (show m < jn K46 from by omega) K46m2 ?_
                  refine J_iload_n dX8_readTerm_62 rfl rfl ?_
                  refine J_ialdN (k := s1.1) dX8_readTerm_63 (show m + 4 < jn K46 from by omega) K46k4 (by exact Nat.lt_of_lt_of_eq (show _ < 60 by omega) (Eq.symm K46z4)) (by exact Nat.lt_of_le_of_lt (Nat.le_of_eq K46z4) (show 60 < 2 ^ 31 by omega)) ?_
                  refine J_topi (y := (c s1.1)) (by exact hd46.2.2.2.1 _ (by omega)) ?_
                  refine J_iload_n dX8_readTerm_64 rfl rfl ?_
                  refine J_iload_n dX8_readTerm_65 rfl rfl ?_
                  refine J_iload_n dX8_readTerm_66 rfl rfl ?_
                  refine J_calli0 (jrunV (As := [.int (c s1.1), .int (x), .int (x46), .int (nI (s1.1))]) (ct_X8_node l D dA hst K46 m hd46.1 (G (s1.1 + 1, s1.2)).2.2.1 h2546 (by omega) ((c s1.1)) ((x)) ((x46)) (nI (s1.1))) dX8_readTerm_67 yY_X8_node gX8_readTerm_X8_node rfl cs11 (show m < jn K46 from by omega) K46m2 rfl ⟨by omega, by omega⟩ ⟨Nat.zero_le _, Nat.zero_le _⟩ rfl (Nat.le_of_ble_eq_true rfl)) (rfl) (rfl) ?_
                  refine J_istore_n (lv' := [.ref (m), .int (nI ((G (s1.1 + 1, s1.2)).2.2.1)), .int (nI (s1.1)), .int (x46)]) dX8_readTerm_70 rfl (by decide) rfl rfl ?_
                  refine J_goto (tgt := 5) dX8_readTerm_71 (by decide) ?_
                  refine J_fg 2 (lv' := [.ref (m), .int (nI ((G (s1.1 + 1, s1.2)).2.2.1)), .float 0, .int (x46)]) rfl ?_
                  refine J_fg 3 (lv' := [.ref (m), .int (nI ((G (s1.1 + 1, s1.2)).2.2.1)), .float 0, .float 0]) rfl ?_
                  exact ih5 (z9) ((mNo K46 m (G (s1.1 + 1, s1.2)).2.2.1 ((c s1.1)) ((x)) ((x46)) (nI (s1.1)))) (g46) (nI ((G (s1.1 + 1, s1.2)).2.2.1)) ((eOp c L G 2 x s1).2) (by exact hd46.no) (by exact (mNo_o (by decide)).trans ho846) (by exact ((hFK.tr mRS_F).tr hF846).tr mNo_F) (by exact ((hEK.tr mRS_E).tr hE846).tr mNo_E) (by exact (mNo_o (by decide)).trans (hc846.trans ((mRS_o (by omega)).trans hcK))) (by rw [← q1]; exact Or.inl ⟨hg46, by rw [q1]; exact fun h9 => absurd (show nI (G (s1.1 + 1, s1.2)).2.2.1 < 0 by rw [h9]; decide) (nI_pos (by omega)), ⟨hd46.no, mNo_nd hn46 q3 q4 q5 q6 q7 (by rw [tIsAt_c (gHere_t (by decide) c27)]; decide) (Or.inr (Or.inr hx46)), by rw [mNo_25, q3], (mNo_o (by decide)).trans ho846, hp846.trans q2.symm, hg46⟩, eOp_ok hGo hk1, eOp_T hL hGd (Or.inr (Or.inr rfl)) hk1 hs0 hx1 hT1, by rw [← hgo, eTgo_2 hx1 (gHere_f c18) (gHere_t (by decide) c27)], by rw [q2]; omega⟩) (by omega)
      · refine J_aload_n (m) dX8_readTerm_5 rfl rfl ?_
        refine J_geti (j := 16) dX8_readTerm_6 (fun _ h => List.mem_cons_of_mem _ (List.mem_append_left _ (List.mem_append_right _ (h)))) cs11 (by decide) rfl (List.mem_of_getElem? (i := 1) rfl) rfl (show m < jn K from by omega) Km2 ?_
        refine J_topi (y := jb (true)) ((hKd.f16.trans (congrArg jb hgf))) ?_
        refine J_if_ne dX8_readTerm_9 (tgt := 74) (by decide) (fun c9 => ?_) (fun c9 => ?_)
        · have c9 := jb0F c9
          refine J_iload_n dX8_readTerm_74 rfl rfl ?_
          exact J_iret (ty := .int) dX8_readTerm_75 rfl (rfl) (by exact ⟨x, g1, rfl, hKd, hR2.symm, hgf.trans (decide_eq_true hR1).symm, h26K, hFK, hEK, hcK, fun h9 => absurd hR1 h9⟩)
        · exact absurd c9 (by decide)
  refine J_aload_n (m) dX8_readTerm_0 rfl rfl ?_
  refine J_calli (jrunV (As := []) (hG M s g hX hsk hs0) dX8_readTerm_1 yY_X8_readFactor gX8_readTerm_X8_readFactor rfl cs11 (show m < jn M from by omega) m2 rfl ⟨by omega, by omega⟩ ⟨Nat.zero_le _, Nat.zero_le _⟩ rfl (Nat.le_of_ble_eq_true rfl)) ⟨Nat.zero_le _, Nat.zero_le _⟩ (Or.inr ⟨(jOk.ref (show m < jn M from by omega) (jOk.float (jOk.float (jOk.float jOk.nil)))), jOk.nil⟩) (fun E M9 hp _ => by obtain ⟨_, _, h1, _⟩ := hp; cases h1) (fun x9 K1 hp1 hle1 => ?_)
  obtain ⟨x1, g1, he9, hd1, hp81, hb81, ho81, hF81, hE81, hc81, hk81⟩ := hp1
  have he9 := (jI_inj he9).symm
  subst he9
  obtain ⟨K1m1, K1m2, ⟨K1r1, K1r2, K1r3, K1r4, K1r5, K1r6, K1r7, K1r8, K1r9, K1r10, K1r11, K1r12, K1r13⟩, ⟨K1k1, K1k2, K1k3, K1k4, K1k5, K1k6, K1k7, K1k8, K1k9, K1k10, K1k11, K1k12, K1k13⟩, K1z1, K1z2, K1z3, K1z4, K1z5, K1z6, K1z7, K1z8, K1z9, K1z10, K1z11, K1z12, K1z13⟩ := id hd1.1
  by_cases hr1 : (G s).1 = -1
  · have hg1 : g1.2.1 = true := by rw [hb81]; exact decide_eq_true hr1
    refine J_istore_n (lv' := [.ref (m), .int (x1), .float 0, .float 0]) dX8_readTerm_4 rfl (by decide) rfl rfl ?_
    exact L5 _ (L + 1) (K1) (g1) (x1) ((G s).2) (by exact hd1) (by exact ho81) (by exact hF81) (by exact hE81) (by exact hc81) (by exact Or.inr ⟨hg1, by rw [show eT c L G s = (-1, (G s).2) from by unfold eT; rw [hr1]; exact eTgo_m], by rw [show eT c L G s = (-1, (G s).2) from by unfold eT; rw [hr1]; exact eTgo_m]; exact hp81.symm⟩) (Nat.lt_succ_self _)
  · have hg1 : g1.2.1 = false := by rw [hb81]; exact decide_eq_false hr1
    obtain ⟨hx1, hn1, h251⟩ := hk81 hr1
    refine J_istore_n (lv' := [.ref (m), .int (x1), .float 0, .float 0]) dX8_readTerm_4 rfl (by decide) rfl rfl ?_
    exact L5 _ (L + 1) (K1) (g1) (x1) ((G s).2) (by exact hd1) (by exact ho81) (by exact hF81) (by exact hE81) (by exact hc81) (by rw [hx1]; exact Or.inl ⟨hg1, hr1, ⟨hd1, hn1, h251, ho81, hp81, hg1⟩, hGo s hsk, hGd s hsk hs0, rfl, by omega⟩) (Nat.lt_succ_self _)

