/-- where the reference's reading stands: place, fault, a late prerelease, number, low, high -/
abbrev gS : Type := Nat × Bool × Bool × Int32 × Int32 × Int32
def mRS (M : jM) (m : Nat) (s : gS) : jM := jSv M m (fun j => if j = 15 then nI s.1 else if j = 16 then jb s.2.1 else if j = 17 then jb s.2.2.1 else if j = 18 then s.2.2.2.1 else if j = 19 then s.2.2.2.2.1 else if j = 20 then s.2.2.2.2.2 else ji M m j)
def mRd (M : jM) (m : Nat) (c : Nat → Int32) (L : Nat) (s : gS) : Prop := mOk M m ∧ ji M m 6 = nI L ∧ L ≤ 60 ∧ (∀ j, j < L → ji M (m + 4) j = c j) ∧ s.1 ≤ L ∧ ji M m 15 = nI s.1 ∧ ji M m 16 = jb s.2.1 ∧ ji M m 17 = jb s.2.2.1 ∧ ji M m 18 = s.2.2.2.1 ∧ ji M m 19 = s.2.2.2.2.1 ∧ ji M m 20 = s.2.2.2.2.2
theorem mRS_i (M : jM) (m : Nat) (s : gS) (j : Nat) : ji (mRS M m s) m j = if j = 15 then nI s.1 else if j = 16 then jb s.2.1 else if j = 17 then jb s.2.2.1 else if j = 18 then s.2.2.2.1 else if j = 19 then s.2.2.2.2.1 else if j = 20 then s.2.2.2.2.2 else ji M m j := by unfold mRS; rw [ji_Sv, if_pos rfl]
theorem mRS_r {M : jM} {m a : Nat} {s : gS} (h : a ≠ m) : ji (mRS M m s) a = ji M a := funext fun j => ji_Svn h
theorem mRS_o {M : jM} {m j : Nat} {s : gS} (h : j < 15 ∨ 20 < j) : ji (mRS M m s) m j = ji M m j := by
  rw [mRS_i, if_neg (by omega), if_neg (by omega), if_neg (by omega), if_neg (by omega), if_neg (by omega), if_neg (by omega)]
theorem mRS_F {M : jM} {m : Nat} {s : gS} : mFr m M (mRS M m s) := mFr.rf.sv ⟨by omega, by omega⟩
theorem mRS_E {M : jM} {m : Nat} {s : gS} : mE m M (mRS M m s) := ⟨fun i h1 _ => mRS_r (by omega), fun f hf => mRS_o (by
  simp only [List.contains_cons, List.contains_nil, Bool.or_false, Bool.or_eq_true, beq_iff_eq] at hf
  omega)⟩
theorem mRd.rs {M : jM} {m : Nat} {c : Nat → Int32} {L : Nat} {s : gS} (h : mRd M m c L s) (s2 : gS) (h2 : s2.1 ≤ L) : mRd (mRS M m s2) m c L s2 := by
  obtain ⟨a1, a2, a3, a4, -⟩ := h
  refine ⟨a1, ?_, a3, fun j hj => ?_, h2, ?_, ?_, ?_, ?_, ?_, ?_⟩
  · rw [mRS_o (by omega)]; exact a2
  · rw [mRS_r (by omega)]; exact a4 j hj
  all_goals (rw [mRS_i]; rfl)
theorem mRS_RS (M : jM) (m : Nat) (s s2 : gS) : mRS (mRS M m s) m s2 = mRS M m s2 := (jSv_Sv M m _ _).trans (congrArg (jSv M m) (funext fun j => by
  rw [mRS_i]
  by_cases h15 : j = 15
  · subst h15; rfl
  by_cases h16 : j = 16
  · subst h16; rfl
  by_cases h17 : j = 17
  · subst h17; rfl
  by_cases h18 : j = 18
  · subst h18; rfl
  by_cases h19 : j = 19
  · subst h19; rfl
  by_cases h20 : j = 20
  · subst h20; rfl
  simp only [if_neg h15, if_neg h16, if_neg h17, if_neg h18, if_neg h19, if_neg h20]))
theorem mRd.self {M : jM} {m : Nat} {c : Nat → Int32} {L : Nat} {s : gS} (h : mRd M m c L s) : M = mRS M m s := by
  obtain ⟨-, -, -, -, -, b1, b2, b3, b4, b5, b6⟩ := h
  refine (jSv_g (X := M) (a := m) (funext fun j => ?_)).symm
  by_cases h15 : j = 15
  · subst h15; exact b1
  by_cases h16 : j = 16
  · subst h16; exact b2
  by_cases h17 : j = 17
  · subst h17; exact b3
  by_cases h18 : j = 18
  · subst h18; exact b4
  by_cases h19 : j = 19
  · subst h19; exact b5
  by_cases h20 : j = 20
  · subst h20; exact b6
  simp only [if_neg h15, if_neg h16, if_neg h17, if_neg h18, if_neg h19, if_neg h20]
theorem mRd.le {M : jM} {m : Nat} {c : Nat → Int32} {L : Nat} {s : gS} (h : mRd M m c L s) : s.1 ≤ L := h.2.2.2.2.1
theorem mRd.f6 {M : jM} {m : Nat} {c : Nat → Int32} {L : Nat} {s : gS} (h : mRd M m c L s) : ji M m 6 = nI L := h.2.1
theorem mRd.f15 {M : jM} {m : Nat} {c : Nat → Int32} {L : Nat} {s : gS} (h : mRd M m c L s) : ji M m 15 = nI s.1 := h.2.2.2.2.2.1
theorem mRd.f16 {M : jM} {m : Nat} {c : Nat → Int32} {L : Nat} {s : gS} (h : mRd M m c L s) : ji M m 16 = jb s.2.1 := h.2.2.2.2.2.2.1
theorem mRd.f17 {M : jM} {m : Nat} {c : Nat → Int32} {L : Nat} {s : gS} (h : mRd M m c L s) : ji M m 17 = jb s.2.2.1 := h.2.2.2.2.2.2.2.1
theorem mRd.f18 {M : jM} {m : Nat} {c : Nat → Int32} {L : Nat} {s : gS} (h : mRd M m c L s) : ji M m 18 = s.2.2.2.1 := h.2.2.2.2.2.2.2.2.1
theorem mRd.f19 {M : jM} {m : Nat} {c : Nat → Int32} {L : Nat} {s : gS} (h : mRd M m c L s) : ji M m 19 = s.2.2.2.2.1 := h.2.2.2.2.2.2.2.2.2.1
theorem mRd.f20 {M : jM} {m : Nat} {c : Nat → Int32} {L : Nat} {s : gS} (h : mRd M m c L s) : ji M m 20 = s.2.2.2.2.2 := h.2.2.2.2.2.2.2.2.2.2
theorem mRS_15 (M : jM) (m : Nat) (s : gS) (q : Nat) : jSi (mRS M m s) m 15 (nI q) = mRS M m (q, s.2) := (jSi_Sv _ _ _ _ _).trans (congrArg (jSv M m) (funext fun j => by
  by_cases h15 : j = 15
  · subst h15; rfl
  by_cases h16 : j = 16
  · subst h16; rfl
  by_cases h17 : j = 17
  · subst h17; rfl
  by_cases h18 : j = 18
  · subst h18; rfl
  by_cases h19 : j = 19
  · subst h19; rfl
  by_cases h20 : j = 20
  · subst h20; rfl
  simp only [if_neg h15, if_neg h16, if_neg h17, if_neg h18, if_neg h19, if_neg h20]))
theorem mRS_16 (M : jM) (m : Nat) (s : gS) (b : Bool) : jSi (mRS M m s) m 16 (jb b) = mRS M m (s.1, b, s.2.2) := (jSi_Sv _ _ _ _ _).trans (congrArg (jSv M m) (funext fun j => by
  by_cases h15 : j = 15
  · subst h15; rfl
  by_cases h16 : j = 16
  · subst h16; rfl
  by_cases h17 : j = 17
  · subst h17; rfl
  by_cases h18 : j = 18
  · subst h18; rfl
  by_cases h19 : j = 19
  · subst h19; rfl
  by_cases h20 : j = 20
  · subst h20; rfl
  simp only [if_neg h15, if_neg h16, if_neg h17, if_neg h18, if_neg h19, if_neg h20]))
theorem mRS_17 (M : jM) (m : Nat) (s : gS) (b : Bool) : jSi (mRS M m s) m 17 (jb b) = mRS M m (s.1, s.2.1, b, s.2.2.2) := (jSi_Sv _ _ _ _ _).trans (congrArg (jSv M m) (funext fun j => by
  by_cases h15 : j = 15
  · subst h15; rfl
  by_cases h16 : j = 16
  · subst h16; rfl
  by_cases h17 : j = 17
  · subst h17; rfl
  by_cases h18 : j = 18
  · subst h18; rfl
  by_cases h19 : j = 19
  · subst h19; rfl
  by_cases h20 : j = 20
  · subst h20; rfl
  simp only [if_neg h15, if_neg h16, if_neg h17, if_neg h18, if_neg h19, if_neg h20]))
theorem mRS_18 (M : jM) (m : Nat) (s : gS) (x : Int32) : jSi (mRS M m s) m 18 (x) = mRS M m (s.1, s.2.1, s.2.2.1, x, s.2.2.2.2) := (jSi_Sv _ _ _ _ _).trans (congrArg (jSv M m) (funext fun j => by
  by_cases h15 : j = 15
  · subst h15; rfl
  by_cases h16 : j = 16
  · subst h16; rfl
  by_cases h17 : j = 17
  · subst h17; rfl
  by_cases h18 : j = 18
  · subst h18; rfl
  by_cases h19 : j = 19
  · subst h19; rfl
  by_cases h20 : j = 20
  · subst h20; rfl
  simp only [if_neg h15, if_neg h16, if_neg h17, if_neg h18, if_neg h19, if_neg h20]))
theorem mRS_19 (M : jM) (m : Nat) (s : gS) (x : Int32) : jSi (mRS M m s) m 19 (x) = mRS M m (s.1, s.2.1, s.2.2.1, s.2.2.2.1, x, s.2.2.2.2.2) := (jSi_Sv _ _ _ _ _).trans (congrArg (jSv M m) (funext fun j => by
  by_cases h15 : j = 15
  · subst h15; rfl
  by_cases h16 : j = 16
  · subst h16; rfl
  by_cases h17 : j = 17
  · subst h17; rfl
  by_cases h18 : j = 18
  · subst h18; rfl
  by_cases h19 : j = 19
  · subst h19; rfl
  by_cases h20 : j = 20
  · subst h20; rfl
  simp only [if_neg h15, if_neg h16, if_neg h17, if_neg h18, if_neg h19, if_neg h20]))
theorem mRS_20 (M : jM) (m : Nat) (s : gS) (x : Int32) : jSi (mRS M m s) m 20 (x) = mRS M m (s.1, s.2.1, s.2.2.1, s.2.2.2.1, s.2.2.2.2.1, x) := (jSi_Sv _ _ _ _ _).trans (congrArg (jSv M m) (funext fun j => by
  by_cases h15 : j = 15
  · subst h15; rfl
  by_cases h16 : j = 16
  · subst h16; rfl
  by_cases h17 : j = 17
  · subst h17; rfl
  by_cases h18 : j = 18
  · subst h18; rfl
  by_cases h19 : j = 19
  · subst h19; rfl
  by_cases h20 : j = 20
  · subst h20; rfl
  simp only [if_neg h15, if_neg h16, if_neg h17, if_neg h18, if_neg h19, if_neg h20]))
def gHere (c : Nat → Int32) (L p : Nat) : Int32 := if p < L then c p else -1
def gIs (c : Nat → Int32) (L : Nat) (x : Int32) (s : gS) : Bool := !s.2.1 && tIsAt c L s.1 x
def gTk (c : Nat → Int32) (L : Nat) (x : Int32) (s : gS) : gS := if gIs c L x s then (s.1 + 1, s.2) else s
def gBad (s : gS) : gS := (s.1, true, s.2.2)
def gNeed (c : Nat → Int32) (L : Nat) (x : Int32) (s : gS) : gS := if gIs c L x s then (s.1 + 1, s.2) else gBad s
def gNum (c : Nat → Int32) (L : Nat) (s : gS) : gS := if s.2.1 = true ∨ tDig c L s.1 = -1 then gBad s else ((tNum c L s.1).2, s.2.1, s.2.2.1, (tNum c L s.1).1, s.2.2.2.2)
def gLate (s : gS) (b : Bool) : gS := (s.1, s.2.1, b, s.2.2.2)
def gLo (s : gS) (x : Int32) : gS := (s.1, s.2.1, s.2.2.1, s.2.2.2.1, x, s.2.2.2.2.2)
def gHi (s : gS) (x : Int32) : gS := (s.1, s.2.1, s.2.2.1, s.2.2.2.1, s.2.2.2.2.1, x)
def gPat (c : Nat → Int32) (L : Nat) (a : Int32) (s : gS) : Int32 × gS :=
  if gIs c L 45 (gNum c L s) then (a + 100 * (gNum c L s).2.2.2.1 + 99 - 99 + (gNum c L (gTk c L 45 (gNum c L s))).2.2.2.1, gLate (gNum c L (gTk c L 45 (gNum c L s))) ((gNum c L (gTk c L 45 (gNum c L s))).2.2.1 || decide ((gNum c L (gTk c L 45 (gNum c L s))).2.2.2.1 = 99)))
  else (a + 100 * (gNum c L s).2.2.2.1 + 99, gNum c L s)
def gV2 (c : Nat → Int32) (L : Nat) (s : gS) : gS := gNeed c L 46 (gNum c L s)
def gV3 (c : Nat → Int32) (L : Nat) (s : gS) : gS := gNum c L (gV2 c L s)
def gVal (c : Nat → Int32) (L : Nat) (s : gS) : Int32 := 1000000 * (gNum c L s).2.2.2.1 + 10000 * (gV3 c L s).2.2.2.1
def gV4 (c : Nat → Int32) (L : Nat) (s : gS) : gS := gNeed c L 46 (gV3 c L s)
def gVer (c : Nat → Int32) (L : Nat) (s : gS) : Int32 × gS := gPat c L (gVal c L s) (gV4 c L s)
def gSer (c : Nat → Int32) (L : Nat) (s : gS) : gS :=
  if gIs c L 120 (gV2 c L s) then gHi (gLo (gTk c L 120 (gV2 c L s)) (1000000 * (gNum c L s).2.2.2.1)) (1000000 * (gNum c L s).2.2.2.1 + 999999)
  else if gIs c L 120 (gV4 c L s) then gHi (gLo (gTk c L 120 (gV4 c L s)) (gVal c L s)) (gVal c L s + 9999)
  else gHi (gLo (gVer c L s).2 (gVer c L s).1) (gVer c L s).1
def bhC (f : Int32) : Int32 := if f ≤ 99999999 then f else 100000000
def bhI (x : Int32) (b : Bool) : Int32 := if b then (if x / 100 < 10000 then (if x / 100 < 100 then bhC ((x / 100 / 1 + 1) * 1 * 100) else bhC ((x / 100 / 100 + 1) * 100 * 100)) else bhC ((x / 100 / 10000 + 1) * 10000 * 100)) else bhC ((x / 100 / 100 + 1) * 100 * 100)
def gS0 (s : gS) : gS := gHi (gLo s 0) 99999999
def gPrt (c : Nat → Int32) (L : Nat) (s : gS) : gS :=
  if gIs c L 42 (gS0 s) then gTk c L 42 (gS0 s)
  else if gIs c L 60 (gS0 s) then gHi (gVer c L (gTk c L 61 (gTk c L 60 (gS0 s)))).2 ((gVer c L (gTk c L 61 (gTk c L 60 (gS0 s)))).1 - (if gIs c L 61 (gTk c L 60 (gS0 s)) then 0 else 1))
  else if gIs c L 62 (gS0 s) then gLo (gVer c L (gTk c L 61 (gTk c L 62 (gS0 s)))).2 ((gVer c L (gTk c L 61 (gTk c L 62 (gS0 s)))).1 + (if gIs c L 61 (gTk c L 62 (gS0 s)) then 0 else 1))
  else if gIs c L 61 (gS0 s) then gHi (gLo (gVer c L (gTk c L 61 (gS0 s))).2 (gVer c L (gTk c L 61 (gS0 s))).1) (gVer c L (gTk c L 61 (gS0 s))).1
  else if gIs c L 94 (gS0 s) then gHi (gLo (gVer c L (gTk c L 94 (gS0 s))).2 (gVer c L (gTk c L 94 (gS0 s))).1) (bhI (gVer c L (gTk c L 94 (gS0 s))).1 true - 1)
  else if gIs c L 126 (gS0 s) then gHi (gLo (gVer c L (gTk c L 126 (gS0 s))).2 (gVer c L (gTk c L 126 (gS0 s))).1) (bhI (gVer c L (gTk c L 126 (gS0 s))).1 false - 1)
  else gSer c L (gS0 s)
theorem gIs_lt {c : Nat → Int32} {L : Nat} {x : Int32} {s : gS} (h : gIs c L x s = true) : s.1 + 1 ≤ L := by
  unfold gIs at h
  rw [Bool.and_eq_true] at h
  exact tIsAt_lt h.2
theorem gIs_f1 {c : Nat → Int32} {L : Nat} {x : Int32} {s : gS} (h : s.2.1 = true) : gIs c L x s = false := by unfold gIs; rw [h]; rfl
theorem gIs_e {c : Nat → Int32} {L : Nat} {x : Int32} {s : gS} (h : s.2.1 = false) (hx : x ≠ -1) : gIs c L x s = decide (gHere c L s.1 = x) := by
  unfold gIs tIsAt gHere
  rw [h]
  by_cases hp : s.1 < L
  · rw [decide_eq_true hp, if_pos hp]; rfl
  · rw [decide_eq_false hp, if_neg hp, decide_eq_false (show ¬ (-1 : Int32) = x from fun h9 => hx h9.symm)]; rfl
theorem gTk_t {c : Nat → Int32} {L : Nat} {x : Int32} {s : gS} (h : gIs c L x s = true) : gTk c L x s = (s.1 + 1, s.2) := by unfold gTk; rw [if_pos h]
theorem gTk_f {c : Nat → Int32} {L : Nat} {x : Int32} {s : gS} (h : gIs c L x s = false) : gTk c L x s = s := by unfold gTk; rw [if_neg (by rw [h]; decide)]
theorem gTk_le {c : Nat → Int32} {L : Nat} {x : Int32} {s : gS} (h : s.1 ≤ L) : (gTk c L x s).1 ≤ L := by
  unfold gTk
  split
  · rename_i h2; exact gIs_lt h2
  · exact h
theorem gNeed_t {c : Nat → Int32} {L : Nat} {x : Int32} {s : gS} (h : gIs c L x s = true) : gNeed c L x s = gTk c L x s := by unfold gNeed gTk; rw [if_pos h, if_pos h]
theorem gNeed_f {c : Nat → Int32} {L : Nat} {x : Int32} {s : gS} (h : gIs c L x s = false) : gNeed c L x s = gBad s := by unfold gNeed; rw [if_neg (by rw [h]; decide)]
theorem gNeed_le {c : Nat → Int32} {L : Nat} {x : Int32} {s : gS} (h : s.1 ≤ L) : (gNeed c L x s).1 ≤ L := by
  unfold gNeed
  split
  · rename_i h2; exact gIs_lt h2
  · exact h
theorem gNum_b {c : Nat → Int32} {L : Nat} {s : gS} (h : s.2.1 = true ∨ tDig c L s.1 = -1) : gNum c L s = gBad s := if_pos h
theorem gNum_g {c : Nat → Int32} {L : Nat} {s : gS} (h : ¬ (s.2.1 = true ∨ tDig c L s.1 = -1)) : gNum c L s = ((tNum c L s.1).2, s.2.1, s.2.2.1, (tNum c L s.1).1, s.2.2.2.2) := if_neg h
theorem gNum_le {c : Nat → Int32} {L : Nat} {s : gS} (h : s.1 ≤ L) : (gNum c L s).1 ≤ L := by
  by_cases h2 : s.2.1 = true ∨ tDig c L s.1 = -1
  · rw [gNum_b h2]; exact h
  · rw [gNum_g h2]; exact tNum_le h
theorem gPat_le {c : Nat → Int32} {L : Nat} {a : Int32} {s : gS} (h : s.1 ≤ L) : (gPat c L a s).2.1 ≤ L := by
  unfold gPat
  split
  · exact gNum_le (gTk_le (gNum_le h))
  · exact gNum_le h
theorem gV2_le {c : Nat → Int32} {L : Nat} {s : gS} (h : s.1 ≤ L) : (gV2 c L s).1 ≤ L := gNeed_le (gNum_le h)
theorem gV3_le {c : Nat → Int32} {L : Nat} {s : gS} (h : s.1 ≤ L) : (gV3 c L s).1 ≤ L := gNum_le (gV2_le h)
theorem gV4_le {c : Nat → Int32} {L : Nat} {s : gS} (h : s.1 ≤ L) : (gV4 c L s).1 ≤ L := gNeed_le (gV3_le h)
theorem gVer_le {c : Nat → Int32} {L : Nat} {s : gS} (h : s.1 ≤ L) : (gVer c L s).2.1 ≤ L := gPat_le (gV4_le h)
theorem gSer_le {c : Nat → Int32} {L : Nat} {s : gS} (h : s.1 ≤ L) : (gSer c L s).1 ≤ L := by
  unfold gSer
  split
  · exact gTk_le (gV2_le h)
  · split
    · exact gTk_le (gV4_le h)
    · exact gVer_le h
theorem gPrt_le {c : Nat → Int32} {L : Nat} {s : gS} (h : s.1 ≤ L) : (gPrt c L s).1 ≤ L := by
  have h0 : (gS0 s).1 ≤ L := h
  unfold gPrt
  split
  · exact gTk_le h0
  · split
    · exact gVer_le (gTk_le (gTk_le h0))
    · split
      · exact gVer_le (gTk_le (gTk_le h0))
      · split
        · exact gVer_le (gTk_le h0)
        · split
          · exact gVer_le (gTk_le h0)
          · split
            · exact gVer_le (gTk_le h0)
            · exact gSer_le h0
theorem gDig_t {c : Nat → Int32} {L p : Nat} (h1 : (48 : Int32) ≤ gHere c L p) (h2 : gHere c L p ≤ 57) : ¬ tDig c L p = -1 ∧ tDig c L p = gHere c L p - 48 ∧ p < L := by
  unfold gHere at *
  by_cases hp : p < L
  · rw [if_pos hp] at *
    have e : tDig c L p = c p - 48 := by unfold tDig; rw [if_pos hp, if_pos h1, if_pos h2]
    rw [e]
    obtain ⟨q, hq, hc⟩ := nI_of2 (n := 57) (x := c p) (by decide) (fun h => absurd (Int32.lt_of_le_of_lt h1 h) (by decide)) h2
    rw [hc] at h1 ⊢
    have h3 : 48 ≤ q := (nI_leN (a := 48) (by omega) (by omega)).mp h1
    rw [show nI q - 48 = nI (q - 48) from pk_sub (a := q) (b := 48) h3]
    exact ⟨fun h => absurd (show nI (q - 48) < 0 by rw [h]; decide) (nI_pos (by omega)), rfl, hp⟩
  · rw [if_neg hp] at h1; exact absurd h1 (by decide)
theorem gDig_f {c : Nat → Int32} {L p : Nat} (h : ¬ ((48 : Int32) ≤ gHere c L p ∧ gHere c L p ≤ 57)) : tDig c L p = -1 := by
  unfold gHere at h
  unfold tDig
  by_cases hp : p < L
  · rw [if_pos hp] at h ⊢
    by_cases h1 : 48 ≤ c p
    · rw [if_pos h1, if_neg (fun h2 => h ⟨h1, h2⟩)]
    · rw [if_neg h1]
  · rw [if_neg hp]
theorem gDig_n {c : Nat → Int32} {L p : Nat} (h : ¬ tDig c L p = -1) : tDig c L p = gHere c L p - 48 ∧ p < L ∧ ∃ q : Nat, q ≤ 9 ∧ tDig c L p = nI q := by
  by_cases h9 : (48 : Int32) ≤ gHere c L p ∧ gHere c L p ≤ 57
  · obtain ⟨a, b, d⟩ := gDig_t h9.1 h9.2
    refine ⟨b, d, ?_⟩
    obtain ⟨q, hq, hc⟩ := nI_of2 (n := 57) (x := gHere c L p) (by decide) (fun h => absurd (Int32.lt_of_le_of_lt h9.1 h) (by decide)) h9.2
    rw [b, hc]
    have h3 : 48 ≤ q := (nI_leN (a := 48) (by omega) (by omega)).mp (by rw [← hc]; exact h9.1)
    exact ⟨q - 48, by omega, pk_sub (a := q) (b := 48) h3⟩
  · exact absurd (gDig_f h9) h
theorem gNum_1 {c : Nat → Int32} {L : Nat} {s : gS} (h0 : s.2.1 = false) (h : ¬ tDig c L s.1 = -1) (h2 : gHere c L s.1 - 48 ≤ 0 ∨ tDig c L (s.1 + 1) = -1) : gNum c L s = (s.1 + 1, s.2.1, s.2.2.1, gHere c L s.1 - 48, s.2.2.2.2) := by
  obtain ⟨e, -, q, hq, eq⟩ := gDig_n h
  rw [gNum_g (fun h9 => h9.elim (fun h8 => by rw [h0] at h8; exact nomatch h8) h)]
  unfold tNum
  rw [if_neg h]
  by_cases hz : tDig c L s.1 = 0
  · rw [if_pos hz, e]
  · rw [if_neg hz]
    rcases h2 with h2 | h2
    · rw [← e, eq] at h2
      rw [eq] at hz
      have : q = 0 := by have := (nI_leN (b := 0) (by omega) (by omega)).mp h2; omega
      subst this
      exact absurd rfl hz
    · rw [if_pos h2, e]
theorem gNum_2 {c : Nat → Int32} {L : Nat} {s : gS} (h0 : s.2.1 = false) (h : ¬ tDig c L s.1 = -1) (h2 : ¬ gHere c L s.1 - 48 ≤ 0) (h3 : ¬ tDig c L (s.1 + 1) = -1) : gNum c L s = (s.1 + 1 + 1, s.2.1, s.2.2.1, 10 * (gHere c L s.1 - 48) + gHere c L (s.1 + 1) - 48, s.2.2.2.2) := by
  obtain ⟨e, -, -⟩ := gDig_n h
  obtain ⟨e2, -, -⟩ := gDig_n h3
  rw [gNum_g (fun h9 => h9.elim (fun h8 => by rw [h0] at h8; exact nomatch h8) h)]
  unfold tNum
  rw [if_neg h, if_neg (fun h9 => h2 (by rw [← e, h9]; decide)), if_neg h3, e, e2]
  rw [Int32.sub_eq_add_neg (10 * (gHere c L s.1 - 48) + gHere c L (s.1 + 1)) 48, Int32.sub_eq_add_neg (gHere c L (s.1 + 1)) 48, Int32.add_assoc]
theorem dX8_here_0 : decode cX8_here 0 = .ok (.aload_n 0, 1) := by decide +kernel
theorem dX8_here_1 : decode cX8_here 1 = .ok (.getfield 81, 3) := by decide +kernel
theorem dX8_here_4 : decode cX8_here 4 = .ok (.aload_n 0, 1) := by decide +kernel
theorem dX8_here_5 : decode cX8_here 5 = .ok (.getfield 84, 3) := by decide +kernel
theorem dX8_here_8 : decode cX8_here 8 = .ok (.if_icmp .ge 15, 3) := by decide +kernel
theorem dX8_here_23 : decode cX8_here 23 = .ok (.iconst (-1), 1) := by decide +kernel
theorem dX8_here_24 : decode cX8_here 24 = .ok (.ireturn, 1) := by decide +kernel
theorem dX8_here_11 : decode cX8_here 11 = .ok (.aload_n 0, 1) := by decide +kernel
theorem dX8_here_12 : decode cX8_here 12 = .ok (.getfield 19, 3) := by decide +kernel
theorem dX8_here_15 : decode cX8_here 15 = .ok (.aload_n 0, 1) := by decide +kernel
theorem dX8_here_16 : decode cX8_here 16 = .ok (.getfield 81, 3) := by decide +kernel
theorem dX8_here_19 : decode cX8_here 19 = .ok (.iaload, 1) := by decide +kernel
theorem dX8_here_20 : decode cX8_here 20 = .ok (.goto 4, 3) := by decide +kernel
set_option maxHeartbeats 400000 in
set_option maxRecDepth 20000 in
theorem ct_X8_here (l : Launch) (D : va_G) (dA : Nat → ClassId) (hst : l.stackTraces = false) (M : jM) (m : Nat) (c : Nat → Int32) (L : Nat) (s : gS) (hS : mRd M m c L s) : jCT l D dA yX8_here wsX8_here (20) (300) (0) (0) 1 [.ref (m)] M (jPo (oI (gHere c L s.1)) (M)) := by
  refine jBody (cc := cX8_here) (nL := 1) (rt := (some .int)) (ini := false) (by decide) rfl hst (Nat.le_of_ble_eq_true rfl) (by simp [Value.category]) (by intro h9; first | exact absurd h9 (by decide) | rfl) ?_
  show J l D dA RX8 cX8_here wsX8_here 1 false (some .int) [] (20) (300) (jF D dA (jn M) (jPo (oI (gHere c L s.1)) (M)) 1) (jn M) (0) (0) (M) 0 [.ref (m)] []
  obtain ⟨hM, hL6, hL60, hbuf, hple, -⟩ := id hS
  obtain ⟨m1, m2, ⟨r1, r2, r3, r4, r5, r6, r7, r8, r9, r10, r11, r12, r13⟩, ⟨k1, k2, k3, k4, k5, k6, k7, k8, k9, k10, k11, k12, k13⟩, z1, z2, z3, z4, z5, z6, z7, z8, z9, z10, z11, z12, z13⟩ := id hM
  refine J_aload_n (m) dX8_here_0 rfl rfl ?_
  refine J_geti (j := 15) dX8_here_1 (fun _ h => List.mem_cons_of_mem _ (List.mem_append_left _ (List.mem_append_right _ (h)))) cs11 (by decide) rfl (List.mem_of_getElem? (i := 1) rfl) rfl (show m < jn M from by omega) m2 ?_
  refine J_topi (y := nI (s.1)) (hS.f15) ?_
  refine J_aload_n (m) dX8_here_4 rfl rfl ?_
  refine J_geti (j := 6) dX8_here_5 (fun _ h => List.mem_cons_of_mem _ (List.mem_append_left _ (List.mem_append_right _ (h)))) cs11 (by decide) rfl (List.mem_of_getElem? (i := 2) rfl) rfl (show m < jn M from by omega) m2 ?_
  refine J_topi (y := nI (L)) (hS.f6) ?_
  refine J_icmp_ge dX8_here_8 (tgt := 23) (by decide) (fun c8 => ?_) (fun c8 => ?_)
  · have c8 := jleT (a := L) (b := s.1) (by omega) (by omega) c8
    refine J_iconst (x := (-1)) dX8_here_23 (by decide) ?_
    exact J_iret (ty := .int) dX8_here_24 rfl (rfl) ⟨(by unfold gHere; first | (rw [if_pos c8]; done) | (rw [if_neg (by omega)]; done) | fail "h"), (by rfl)⟩
  · have c8 := jleF (a := L) (b := s.1) (by omega) (by omega) c8
    refine J_aload_n (m) dX8_here_11 rfl rfl ?_
    refine J_getrs (q := m + 4) r4 dX8_here_12 (fun _ h => List.mem_cons_of_mem _ (List.mem_append_left _ (List.mem_append_right _ (h)))) cs11 (by decide) rfl (List.mem_of_getElem? (i := 3) rfl) rfl (show m < jn M from by omega) m2 ?_
    refine J_aload_n (m) dX8_here_15 rfl rfl ?_
    refine J_geti (j := 15) dX8_here_16 (fun _ h => List.mem_cons_of_mem _ (List.mem_append_left _ (List.mem_append_right _ (h)))) cs11 (by decide) rfl (List.mem_of_getElem? (i := 1) rfl) rfl (show m < jn M from by omega) m2 ?_
    refine J_topi (y := nI (s.1)) (hS.f15) ?_
    refine J_ialdN (k := s.1) dX8_here_19 (show m + 4 < jn M from by omega) k4 (by exact Nat.lt_of_lt_of_eq (show _ < 60 by omega) (Eq.symm z4)) (by exact Nat.lt_of_le_of_lt (Nat.le_of_eq z4) (show 60 < 2 ^ 31 by omega)) ?_
    refine J_topi (y := (c s.1)) (by exact hbuf _ c8) ?_
    refine J_goto (tgt := 24) dX8_here_20 (by decide) ?_
    exact J_iret (ty := .int) dX8_here_24 rfl (rfl) ⟨(by unfold gHere; first | (rw [if_pos c8]; done) | (rw [if_neg (by omega)]; done) | fail "h"), (by rfl)⟩

theorem dX8_isHere_0 : decode cX8_isHere 0 = .ok (.aload_n 0, 1) := by decide +kernel
theorem dX8_isHere_1 : decode cX8_isHere 1 = .ok (.getfield 87, 3) := by decide +kernel
theorem dX8_isHere_4 : decode cX8_isHere 4 = .ok (.ifCond .ne 11, 3) := by decide +kernel
theorem dX8_isHere_15 : decode cX8_isHere 15 = .ok (.iconst 0, 1) := by decide +kernel
theorem dX8_isHere_16 : decode cX8_isHere 16 = .ok (.ireturn, 1) := by decide +kernel
theorem dX8_isHere_7 : decode cX8_isHere 7 = .ok (.aload_n 0, 1) := by decide +kernel
theorem dX8_isHere_8 : decode cX8_isHere 8 = .ok (.invokevirtual 91, 3) := by decide +kernel
set_option maxRecDepth 20000 in
theorem ggX8_isHere_X8_here : GoodIn wsX8_isHere wsX8_here := goodIn_ca (goodIn_r _ [7, 2, 8, 9, 10, 11, 12, 13, 14, 15, 16, 17, 18, 19, 20, 21, 22, 23, 24, 25, 26, 27, 28, 29, 30, 31, 32, 33, 34, 35, 36, 37, 38, 39, 40] (by decide +kernel) (by decide +kernel)) (goodIn_sub (fun _ h => List.mem_cons_of_mem _ (List.mem_append_right _ h)) (by decide +kernel))
set_option maxRecDepth 20000 in
theorem gX8_isHere_X8_here : GoodIn wsX8_isHere (wsV RX8 91 RX8 yX8_here wsX8_here) := goodIn_app (goodIn_of _ (by decide +kernel)) ggX8_isHere_X8_here
theorem yY_X8_here : jY yX8_here wsX8_here cX8_here 1 (some .int) 0 := ⟨⟨_, rfl⟩, by decide +kernel, by decide +kernel, by decide +kernel⟩
theorem dX8_isHere_11 : decode cX8_isHere 11 = .ok (.iload_n 1, 1) := by decide +kernel
theorem dX8_isHere_12 : decode cX8_isHere 12 = .ok (.if_icmp .eq 5, 3) := by decide +kernel
theorem dX8_isHere_17 : decode cX8_isHere 17 = .ok (.aload_n 0, 1) := by decide +kernel
theorem dX8_isHere_18 : decode cX8_isHere 18 = .ok (.dup, 1) := by decide +kernel
theorem dX8_isHere_19 : decode cX8_isHere 19 = .ok (.getfield 81, 3) := by decide +kernel
theorem dX8_isHere_22 : decode cX8_isHere 22 = .ok (.iconst 1, 1) := by decide +kernel
theorem dX8_isHere_23 : decode cX8_isHere 23 = .ok (.iadd, 1) := by decide +kernel
theorem dX8_isHere_24 : decode cX8_isHere 24 = .ok (.putfield 81, 3) := by decide +kernel
theorem dX8_isHere_27 : decode cX8_isHere 27 = .ok (.iconst 1, 1) := by decide +kernel
theorem dX8_isHere_28 : decode cX8_isHere 28 = .ok (.ireturn, 1) := by decide +kernel
set_option maxHeartbeats 400000 in
set_option maxRecDepth 20000 in
theorem ct_X8_isHere (l : Launch) (D : va_G) (dA : Nat → ClassId) (hst : l.stackTraces = false) (M : jM) (m : Nat) (c : Nat → Int32) (L : Nat) (s : gS) (hS : mRd M m c L s) (x : Int32) (hx : x ≠ -1) : jCT l D dA yX8_isHere wsX8_isHere (21) (360) (0) (0) 1 [.ref (m), .int (x)] M (jPo (oI (jb (gIs c L x s))) (mRS M m (gTk c L x s))) := by
  refine jBody (cc := cX8_isHere) (nL := 2) (rt := (some .boolean)) (ini := false) (by decide) rfl hst (Nat.le_of_ble_eq_true rfl) (by simp [Value.category]) (by intro h9; first | exact absurd h9 (by decide) | rfl) ?_
  show J l D dA RX8 cX8_isHere wsX8_isHere 2 false (some .boolean) [] (21) (360) (jF D dA (jn M) (jPo (oI (jb (gIs c L x s))) (mRS M m (gTk c L x s))) 1) (jn M) (0) (0) (M) 0 [.ref (m), .int (x)] []
  obtain ⟨hM, hL6, hL60, hbuf, hple, -⟩ := id hS
  obtain ⟨m1, m2, ⟨r1, r2, r3, r4, r5, r6, r7, r8, r9, r10, r11, r12, r13⟩, ⟨k1, k2, k3, k4, k5, k6, k7, k8, k9, k10, k11, k12, k13⟩, z1, z2, z3, z4, z5, z6, z7, z8, z9, z10, z11, z12, z13⟩ := id hM
  refine J_mem (M' := mRS M m s) (by exact hS.self) ?_
  refine J_aload_n (m) dX8_isHere_0 rfl rfl ?_
  refine J_geti (j := 16) dX8_isHere_1 (fun _ h => List.mem_cons_of_mem _ (List.mem_append_left _ (List.mem_append_right _ (h)))) cs11 (by decide) rfl (List.mem_of_getElem? (i := 1) rfl) rfl (show m < jn M from by omega) m2 ?_
  refine J_topi (y := jb (s.2.1)) ((hS.rs s (hS.le)).f16) ?_
  refine J_if_ne dX8_isHere_4 (tgt := 15) (by decide) (fun c4 => ?_) (fun c4 => ?_)
  · have c4 := jb0F c4
    refine J_iconst (x := 0) dX8_isHere_15 (by decide) ?_
    exact J_iret (ty := .boolean) dX8_isHere_16 rfl (by rfl) ⟨(by first | (rw [gIs_f1 c4]; rfl) | (rw [gIs_e c4 hx, decide_eq_false c12]; rfl) | (rw [gIs_e c4 hx, decide_eq_true c12]; rfl)), (by first | (rw [gTk_f (gIs_f1 c4)]; done) | (rw [gTk_f (by rw [gIs_e c4 hx, decide_eq_false c12])]; done) | (rw [gTk_t (by rw [gIs_e c4 hx, decide_eq_true c12])]; exact mRS_15 _ _ _ _))⟩
  · have c4 := jb0T c4
    refine J_aload_n (m) dX8_isHere_7 rfl rfl ?_
    refine J_calli0 (jrunV (As := []) (ct_X8_here l D dA hst ((mRS M m s)) m c L s (hS.rs s (hS.le))) dX8_isHere_8 yY_X8_here gX8_isHere_X8_here rfl cs11 (show m < jn M from by omega) m2 rfl ⟨by omega, by omega⟩ ⟨Nat.zero_le _, Nat.zero_le _⟩ rfl (Nat.le_of_ble_eq_true rfl)) (rfl) (rfl) ?_
    refine J_iload_n dX8_isHere_11 rfl rfl ?_
    refine J_icmp_eq dX8_isHere_12 (tgt := 17) (by decide) (fun c12 => ?_) (fun c12 => ?_)
    · refine J_aload_n (m) dX8_isHere_17 rfl rfl ?_
      refine J_dup dX8_isHere_18 rfl ?_
      refine J_geti (j := 15) dX8_isHere_19 (fun _ h => List.mem_cons_of_mem _ (List.mem_append_left _ (List.mem_append_right _ (h)))) cs11 (by decide) rfl (List.mem_of_getElem? (i := 2) rfl) rfl (show m < jn M from by omega) m2 ?_
      refine J_topi (y := nI (s.1)) ((hS.rs s (hS.le)).f15) ?_
      refine J_iconst (x := 1) dX8_isHere_22 (by decide) ?_
      refine J_iadd dX8_isHere_23 ?_
      refine J_topi (y := nI (s.1 + 1)) (nI_add (s.1) (1)) ?_
      refine J_puti (j := 15) (x := nI (s.1 + 1)) dX8_isHere_24 (fun _ h => List.mem_cons_of_mem _ (List.mem_append_left _ (List.mem_append_right _ (h)))) cs11 cty11 (by decide) rfl (List.mem_of_getElem? (i := 2) rfl) rfl rfl ⟨rfl, rfl⟩ (show m < jn M from by omega) m2 ?_
      refine J_iconst (x := 1) dX8_isHere_27 (by decide) ?_
      exact J_iret (ty := .boolean) dX8_isHere_28 rfl (by rfl) ⟨(by first | (rw [gIs_f1 c4]; rfl) | (rw [gIs_e c4 hx, decide_eq_false c12]; rfl) | (rw [gIs_e c4 hx, decide_eq_true c12]; rfl)), (by first | (rw [gTk_f (gIs_f1 c4)]; done) | (rw [gTk_f (by rw [gIs_e c4 hx, decide_eq_false c12])]; done) | (rw [gTk_t (by rw [gIs_e c4 hx, decide_eq_true c12])]; exact mRS_15 _ _ _ _))⟩
    · refine J_iconst (x := 0) dX8_isHere_15 (by decide) ?_
      exact J_iret (ty := .boolean) dX8_isHere_16 rfl (by rfl) ⟨(by first | (rw [gIs_f1 c4]; rfl) | (rw [gIs_e c4 hx, decide_eq_false c12]; rfl) | (rw [gIs_e c4 hx, decide_eq_true c12]; rfl)), (by first | (rw [gTk_f (gIs_f1 c4)]; done) | (rw [gTk_f (by rw [gIs_e c4 hx, decide_eq_false c12])]; done) | (rw [gTk_t (by rw [gIs_e c4 hx, decide_eq_true c12])]; exact mRS_15 _ _ _ _))⟩

theorem dX8_isDigit_0 : decode cX8_isDigit 0 = .ok (.aload_n 0, 1) := by decide +kernel
theorem dX8_isDigit_1 : decode cX8_isDigit 1 = .ok (.invokevirtual 91, 3) := by decide +kernel
set_option maxRecDepth 20000 in
theorem ggX8_isDigit_X8_here : GoodIn wsX8_isDigit wsX8_here := goodIn_ca (goodIn_r _ [5, 6, 7, 8, 9, 10, 11, 12, 13, 14, 15, 16, 17, 18, 19, 20, 21, 22, 23, 24, 25, 26, 27, 28, 29, 30, 31, 32, 33, 34, 35, 36, 37, 38, 39] (by decide +kernel) (by decide +kernel)) (goodIn_sub (fun _ h => List.mem_cons_of_mem _ (List.mem_append_right _ h)) (by decide +kernel))
set_option maxRecDepth 20000 in
theorem gX8_isDigit_X8_here : GoodIn wsX8_isDigit (wsV RX8 91 RX8 yX8_here wsX8_here) := goodIn_app (goodIn_of _ (by decide +kernel)) ggX8_isDigit_X8_here
theorem dX8_isDigit_4 : decode cX8_isDigit 4 = .ok (.bipush 48, 2) := by decide +kernel
theorem dX8_isDigit_6 : decode cX8_isDigit 6 = .ok (.if_icmp .lt 16, 3) := by decide +kernel
theorem dX8_isDigit_22 : decode cX8_isDigit 22 = .ok (.iconst 0, 1) := by decide +kernel
theorem dX8_isDigit_23 : decode cX8_isDigit 23 = .ok (.ireturn, 1) := by decide +kernel
theorem dX8_isDigit_9 : decode cX8_isDigit 9 = .ok (.aload_n 0, 1) := by decide +kernel
theorem dX8_isDigit_10 : decode cX8_isDigit 10 = .ok (.invokevirtual 91, 3) := by decide +kernel
theorem dX8_isDigit_13 : decode cX8_isDigit 13 = .ok (.bipush 57, 2) := by decide +kernel
theorem dX8_isDigit_15 : decode cX8_isDigit 15 = .ok (.if_icmp .gt 7, 3) := by decide +kernel
theorem dX8_isDigit_18 : decode cX8_isDigit 18 = .ok (.iconst 1, 1) := by decide +kernel
theorem dX8_isDigit_19 : decode cX8_isDigit 19 = .ok (.goto 4, 3) := by decide +kernel
set_option maxHeartbeats 400000 in
set_option maxRecDepth 20000 in
theorem ct_X8_isDigit (l : Launch) (D : va_G) (dA : Nat → ClassId) (hst : l.stackTraces = false) (M : jM) (m : Nat) (c : Nat → Int32) (L : Nat) (s : gS) (hS : mRd M m c L s) : jCT l D dA yX8_isDigit wsX8_isDigit (21) (360) (0) (0) 1 [.ref (m)] M (jPo (oI (jb (!decide (tDig c L s.1 = -1)))) (M)) := by
  refine jBody (cc := cX8_isDigit) (nL := 1) (rt := (some .boolean)) (ini := false) (by decide) rfl hst (Nat.le_of_ble_eq_true rfl) (by simp [Value.category]) (by intro h9; first | exact absurd h9 (by decide) | rfl) ?_
  show J l D dA RX8 cX8_isDigit wsX8_isDigit 1 false (some .boolean) [] (21) (360) (jF D dA (jn M) (jPo (oI (jb (!decide (tDig c L s.1 = -1)))) (M)) 1) (jn M) (0) (0) (M) 0 [.ref (m)] []
  obtain ⟨hM, hL6, hL60, hbuf, hple, -⟩ := id hS
  obtain ⟨m1, m2, ⟨r1, r2, r3, r4, r5, r6, r7, r8, r9, r10, r11, r12, r13⟩, ⟨k1, k2, k3, k4, k5, k6, k7, k8, k9, k10, k11, k12, k13⟩, z1, z2, z3, z4, z5, z6, z7, z8, z9, z10, z11, z12, z13⟩ := id hM
  refine J_aload_n (m) dX8_isDigit_0 rfl rfl ?_
  refine J_calli0 (jrunV (As := []) (ct_X8_here l D dA hst M m c L s hS) dX8_isDigit_1 yY_X8_here gX8_isDigit_X8_here rfl cs11 (show m < jn M from by omega) m2 rfl ⟨by omega, by omega⟩ ⟨Nat.zero_le _, Nat.zero_le _⟩ rfl (Nat.le_of_ble_eq_true rfl)) (rfl) (rfl) ?_
  refine J_bipush (x := 48) dX8_isDigit_4 (by decide) ?_
  refine J_icmp_lt dX8_isDigit_6 (tgt := 22) (by decide) (fun c6 => ?_) (fun c6 => ?_)
  · have hz : ¬ ((48 : Int32) ≤ gHere c L s.1 ∧ gHere c L s.1 ≤ 57) := fun h => absurd c6 (Int32.not_lt.mpr h.1)
    refine J_iconst (x := 0) dX8_isDigit_22 (by decide) ?_
    exact J_iret (ty := .boolean) dX8_isDigit_23 rfl (by rfl) ⟨(by rw [decide_eq_true (gDig_f hz)]; rfl), (by rfl)⟩
  · refine J_aload_n (m) dX8_isDigit_9 rfl rfl ?_
    refine J_calli0 (jrunV (As := []) (ct_X8_here l D dA hst M m c L s hS) dX8_isDigit_10 yY_X8_here gX8_isDigit_X8_here rfl cs11 (show m < jn M from by omega) m2 rfl ⟨by omega, by omega⟩ ⟨Nat.zero_le _, Nat.zero_le _⟩ rfl (Nat.le_of_ble_eq_true rfl)) (rfl) (rfl) ?_
    refine J_bipush (x := 57) dX8_isDigit_13 (by decide) ?_
    refine J_icmp_gt dX8_isDigit_15 (tgt := 22) (by decide) (fun c15 => ?_) (fun c15 => ?_)
    · have hz : ¬ ((48 : Int32) ≤ gHere c L s.1 ∧ gHere c L s.1 ≤ 57) := fun h => absurd c15 (Int32.not_lt.mpr h.2)
      refine J_iconst (x := 0) dX8_isDigit_22 (by decide) ?_
      exact J_iret (ty := .boolean) dX8_isDigit_23 rfl (by rfl) ⟨(by rw [decide_eq_true (gDig_f hz)]; rfl), (by rfl)⟩
    · have hy := (gDig_t (Int32.not_lt.mp c6) (Int32.not_lt.mp c15)).1
      refine J_iconst (x := 1) dX8_isDigit_18 (by decide) ?_
      refine J_goto (tgt := 23) dX8_isDigit_19 (by decide) ?_
      exact J_iret (ty := .boolean) dX8_isDigit_23 rfl (by rfl) ⟨(by rw [decide_eq_false hy]; rfl), (by rfl)⟩

theorem dX8_bad_0 : decode cX8_bad 0 = .ok (.aload_n 0, 1) := by decide +kernel
theorem dX8_bad_1 : decode cX8_bad 1 = .ok (.iconst 1, 1) := by decide +kernel
theorem dX8_bad_2 : decode cX8_bad 2 = .ok (.putfield 87, 3) := by decide +kernel
theorem dX8_bad_5 : decode cX8_bad 5 = .ok (.return_, 1) := by decide +kernel
set_option maxHeartbeats 400000 in
set_option maxRecDepth 20000 in
theorem ct_X8_bad (l : Launch) (D : va_G) (dA : Nat → ClassId) (hst : l.stackTraces = false) (M : jM) (m : Nat) (c : Nat → Int32) (L : Nat) (s : gS) (hS : mRd M m c L s) : jCT l D dA yX8_bad wsX8_bad (20) (300) (0) (0) 0 [.ref (m)] M (jPo (oV) (mRS M m (gBad s))) := by
  refine jBody (cc := cX8_bad) (nL := 1) (rt := none) (ini := false) (by decide) rfl hst (Nat.le_of_ble_eq_true rfl) (by simp [Value.category]) (by intro h9; first | exact absurd h9 (by decide) | rfl) ?_
  show J l D dA RX8 cX8_bad wsX8_bad 1 false none [] (20) (300) (jF D dA (jn M) (jPo (oV) (mRS M m (gBad s))) 0) (jn M) (0) (0) (M) 0 [.ref (m)] []
  obtain ⟨hM, hL6, hL60, hbuf, hple, -⟩ := id hS
  obtain ⟨m1, m2, ⟨r1, r2, r3, r4, r5, r6, r7, r8, r9, r10, r11, r12, r13⟩, ⟨k1, k2, k3, k4, k5, k6, k7, k8, k9, k10, k11, k12, k13⟩, z1, z2, z3, z4, z5, z6, z7, z8, z9, z10, z11, z12, z13⟩ := id hM
  refine J_mem (M' := mRS M m s) (by exact hS.self) ?_
  refine J_aload_n (m) dX8_bad_0 rfl rfl ?_
  refine J_iconst (x := 1) dX8_bad_1 (by decide) ?_
  refine J_puti (j := 16) (x := (1)) dX8_bad_2 (fun _ h => List.mem_cons_of_mem _ (List.mem_append_right _ (h))) cs11 cty11 (by decide) rfl (List.mem_of_getElem? (i := 1) rfl) rfl rfl ⟨rfl, rfl⟩ (show m < jn M from by omega) m2 ?_
  exact J_vret dX8_bad_5 rfl ⟨(by rfl), (by exact mRS_16 _ _ _ true)⟩

theorem dX8_needs_0 : decode cX8_needs 0 = .ok (.aload_n 0, 1) := by decide +kernel
theorem dX8_needs_1 : decode cX8_needs 1 = .ok (.iload_n 1, 1) := by decide +kernel
theorem dX8_needs_2 : decode cX8_needs 2 = .ok (.invokevirtual 95, 3) := by decide +kernel
set_option maxRecDepth 20000 in
theorem ggX8_needs_X8_isHere : GoodIn wsX8_needs wsX8_isHere := goodIn_ca (goodIn_r _ [5, 6, 7, 8, 9, 10, 4, 11, 12, 13, 18, 19, 20, 21, 22, 23, 24, 25, 26, 27, 28, 29, 30, 31, 32, 33, 34, 35, 36, 37, 38, 39, 40, 41, 42, 43, 44, 45, 46, 47, 48] (by decide +kernel) (by decide +kernel)) (goodIn_sub (fun _ h => List.mem_cons_of_mem _ (List.mem_append_right _ h)) (by decide +kernel))
set_option maxRecDepth 20000 in
theorem gX8_needs_X8_isHere : GoodIn wsX8_needs (wsV RX8 95 RX8 yX8_isHere wsX8_isHere) := goodIn_app (goodIn_of _ (by decide +kernel)) ggX8_needs_X8_isHere
theorem yY_X8_isHere : jY yX8_isHere wsX8_isHere cX8_isHere 2 (some .boolean) 1 := ⟨⟨_, rfl⟩, by decide +kernel, by decide +kernel, by decide +kernel⟩
theorem dX8_needs_5 : decode cX8_needs 5 = .ok (.ifCond .ne 7, 3) := by decide +kernel
theorem dX8_needs_12 : decode cX8_needs 12 = .ok (.return_, 1) := by decide +kernel
theorem dX8_needs_8 : decode cX8_needs 8 = .ok (.aload_n 0, 1) := by decide +kernel
theorem dX8_needs_9 : decode cX8_needs 9 = .ok (.invokevirtual 99, 3) := by decide +kernel
set_option maxRecDepth 20000 in
theorem ggX8_needs_X8_bad : GoodIn wsX8_needs wsX8_bad := goodIn_r _ [17, 6, 18, 19, 20, 21, 22, 23, 24, 25, 26, 27, 28, 29, 30, 31, 32, 33, 34, 35, 36, 37, 38, 39, 40, 41, 42, 43, 44, 45, 46, 47, 48] (by decide +kernel) (by decide +kernel)
set_option maxRecDepth 20000 in
theorem gX8_needs_X8_bad : GoodIn wsX8_needs (wsV RX8 99 RX8 yX8_bad wsX8_bad) := goodIn_app (goodIn_of _ (by decide +kernel)) ggX8_needs_X8_bad
theorem yY_X8_bad : jY yX8_bad wsX8_bad cX8_bad 1 none 0 := ⟨⟨_, rfl⟩, by decide +kernel, by decide +kernel, by decide +kernel⟩
set_option maxHeartbeats 400000 in
set_option maxRecDepth 20000 in
theorem ct_X8_needs (l : Launch) (D : va_G) (dA : Nat → ClassId) (hst : l.stackTraces = false) (M : jM) (m : Nat) (c : Nat → Int32) (L : Nat) (s : gS) (hS : mRd M m c L s) (x : Int32) (hx : x ≠ -1) : jCT l D dA yX8_needs wsX8_needs (22) (420) (0) (0) 0 [.ref (m), .int (x)] M (jPo (oV) (mRS M m (gNeed c L x s))) := by
  refine jBody (cc := cX8_needs) (nL := 2) (rt := none) (ini := false) (by decide) rfl hst (Nat.le_of_ble_eq_true rfl) (by simp [Value.category]) (by intro h9; first | exact absurd h9 (by decide) | rfl) ?_
  show J l D dA RX8 cX8_needs wsX8_needs 2 false none [] (22) (420) (jF D dA (jn M) (jPo (oV) (mRS M m (gNeed c L x s))) 0) (jn M) (0) (0) (M) 0 [.ref (m), .int (x)] []
  obtain ⟨hM, hL6, hL60, hbuf, hple, -⟩ := id hS
  obtain ⟨m1, m2, ⟨r1, r2, r3, r4, r5, r6, r7, r8, r9, r10, r11, r12, r13⟩, ⟨k1, k2, k3, k4, k5, k6, k7, k8, k9, k10, k11, k12, k13⟩, z1, z2, z3, z4, z5, z6, z7, z8, z9, z10, z11, z12, z13⟩ := id hM
  refine J_mem (M' := mRS M m s) (by exact hS.self) ?_
  refine J_aload_n (m) dX8_needs_0 rfl rfl ?_
  refine J_iload_n dX8_needs_1 rfl rfl ?_
  refine J_calli0 (jrunV (As := [.int (x)]) (ct_X8_isHere l D dA hst ((mRS M m s)) m c L s (hS.rs s (hS.le)) ((x)) hx) dX8_needs_2 yY_X8_isHere gX8_needs_X8_isHere rfl cs11 (show m < jn M from by omega) m2 rfl ⟨by omega, by omega⟩ ⟨Nat.zero_le _, Nat.zero_le _⟩ rfl (Nat.le_of_ble_eq_true rfl)) (rfl) (rfl) ?_
  refine J_mem (M' := mRS M m (gTk c L ((x)) s)) (mRS_RS _ _ _ _) ?_
  refine J_if_ne dX8_needs_5 (tgt := 12) (by decide) (fun c5 => ?_) (fun c5 => ?_)
  · have c5 := jb0F c5
    exact J_vret dX8_needs_12 rfl ⟨(by rfl), (by first | (rw [gNeed_t c5]; done) | (rw [gNeed_f c5, gTk_f c5]; done) | fail "n")⟩
  · have c5 := jb0T c5
    refine J_aload_n (m) dX8_needs_8 rfl rfl ?_
    refine J_callv0 (jrunV (As := []) (ct_X8_bad l D dA hst ((mRS M m (gTk c L ((x)) s))) m c L (gTk c L ((x)) s) (hS.rs (gTk c L ((x)) s) (gTk_le (hS.rs s (hS.le)).le))) dX8_needs_9 yY_X8_bad gX8_needs_X8_bad rfl cs11 (show m < jn M from by omega) m2 rfl ⟨by omega, by omega⟩ ⟨Nat.zero_le _, Nat.zero_le _⟩ rfl (Nat.le_of_ble_eq_true rfl)) (rfl) (rfl) ?_
    refine J_mem (M' := mRS M m (gBad (gTk c L ((x)) s))) (mRS_RS _ _ _ _) ?_
    exact J_vret dX8_needs_12 rfl ⟨(by rfl), (by first | (rw [gNeed_t c5]; done) | (rw [gNeed_f c5, gTk_f c5]; done) | fail "n")⟩

theorem dX8_readNumber_0 : decode cX8_readNumber 0 = .ok (.aload_n 0, 1) := by decide +kernel
theorem dX8_readNumber_1 : decode cX8_readNumber 1 = .ok (.getfield 87, 3) := by decide +kernel
theorem dX8_readNumber_4 : decode cX8_readNumber 4 = .ok (.ifCond .ne 10, 3) := by decide +kernel
theorem dX8_readNumber_14 : decode cX8_readNumber 14 = .ok (.aload_n 0, 1) := by decide +kernel
theorem dX8_readNumber_15 : decode cX8_readNumber 15 = .ok (.invokevirtual 99, 3) := by decide +kernel
set_option maxRecDepth 20000 in
theorem ggX8_readNumber_X8_bad : GoodIn wsX8_readNumber wsX8_bad := goodIn_r _ [18, 1, 19, 20, 21, 22, 23, 24, 25, 26, 27, 28, 29, 30, 31, 32, 33, 34, 35, 36, 37, 38, 39, 40, 41, 42, 43, 44, 45, 46, 47, 48, 49] (by decide +kernel) (by decide +kernel)
set_option maxRecDepth 20000 in
theorem gX8_readNumber_X8_bad : GoodIn wsX8_readNumber (wsV RX8 99 RX8 yX8_bad wsX8_bad) := goodIn_app (goodIn_of _ (by decide +kernel)) ggX8_readNumber_X8_bad
theorem dX8_readNumber_18 : decode cX8_readNumber 18 = .ok (.return_, 1) := by decide +kernel
theorem dX8_readNumber_7 : decode cX8_readNumber 7 = .ok (.aload_n 0, 1) := by decide +kernel
theorem dX8_readNumber_8 : decode cX8_readNumber 8 = .ok (.invokevirtual 102, 3) := by decide +kernel
set_option maxRecDepth 20000 in
theorem ggX8_readNumber_X8_isDigit : GoodIn wsX8_readNumber wsX8_isDigit := goodIn_ca (goodIn_r _ [8, 9, 10, 11, 7, 12, 3, 13, 14, 19, 20, 21, 22, 23, 24, 25, 26, 27, 28, 29, 30, 31, 32, 33, 34, 35, 36, 37, 38, 39, 40, 41, 42, 43, 44, 45, 46, 47, 48, 49] (by decide +kernel) (by decide +kernel)) (goodIn_sub (fun _ h => List.mem_cons_of_mem _ (List.mem_append_right _ h)) (by decide +kernel))
set_option maxRecDepth 20000 in
theorem gX8_readNumber_X8_isDigit : GoodIn wsX8_readNumber (wsV RX8 102 RX8 yX8_isDigit wsX8_isDigit) := goodIn_app (goodIn_of _ (by decide +kernel)) ggX8_readNumber_X8_isDigit
theorem yY_X8_isDigit : jY yX8_isDigit wsX8_isDigit cX8_isDigit 1 (some .boolean) 0 := ⟨⟨_, rfl⟩, by decide +kernel, by decide +kernel, by decide +kernel⟩
theorem dX8_readNumber_11 : decode cX8_readNumber 11 = .ok (.ifCond .ne 8, 3) := by decide +kernel
theorem dX8_readNumber_19 : decode cX8_readNumber 19 = .ok (.aload_n 0, 1) := by decide +kernel
theorem dX8_readNumber_20 : decode cX8_readNumber 20 = .ok (.aload_n 0, 1) := by decide +kernel
theorem dX8_readNumber_21 : decode cX8_readNumber 21 = .ok (.invokevirtual 91, 3) := by decide +kernel
set_option maxRecDepth 20000 in
theorem ggX8_readNumber_X8_here : GoodIn wsX8_readNumber wsX8_here := goodIn_ca (goodIn_r _ [12, 3, 13, 14, 19, 20, 21, 22, 23, 24, 25, 26, 27, 28, 29, 30, 31, 32, 33, 34, 35, 36, 37, 38, 39, 40, 41, 42, 43, 44, 45, 46, 47, 48, 49] (by decide +kernel) (by decide +kernel)) (goodIn_sub (fun _ h => List.mem_cons_of_mem _ (List.mem_append_right _ h)) (by decide +kernel))
set_option maxRecDepth 20000 in
theorem gX8_readNumber_X8_here : GoodIn wsX8_readNumber (wsV RX8 91 RX8 yX8_here wsX8_here) := goodIn_app (goodIn_of _ (by decide +kernel)) ggX8_readNumber_X8_here
theorem dX8_readNumber_24 : decode cX8_readNumber 24 = .ok (.bipush 48, 2) := by decide +kernel
theorem dX8_readNumber_26 : decode cX8_readNumber 26 = .ok (.isub, 1) := by decide +kernel
theorem dX8_readNumber_27 : decode cX8_readNumber 27 = .ok (.putfield 106, 3) := by decide +kernel
theorem dX8_readNumber_30 : decode cX8_readNumber 30 = .ok (.aload_n 0, 1) := by decide +kernel
theorem dX8_readNumber_31 : decode cX8_readNumber 31 = .ok (.dup, 1) := by decide +kernel
theorem dX8_readNumber_32 : decode cX8_readNumber 32 = .ok (.getfield 81, 3) := by decide +kernel
theorem dX8_readNumber_35 : decode cX8_readNumber 35 = .ok (.iconst 1, 1) := by decide +kernel
theorem dX8_readNumber_36 : decode cX8_readNumber 36 = .ok (.iadd, 1) := by decide +kernel
theorem dX8_readNumber_37 : decode cX8_readNumber 37 = .ok (.putfield 81, 3) := by decide +kernel
theorem dX8_readNumber_40 : decode cX8_readNumber 40 = .ok (.aload_n 0, 1) := by decide +kernel
theorem dX8_readNumber_41 : decode cX8_readNumber 41 = .ok (.getfield 106, 3) := by decide +kernel
theorem dX8_readNumber_44 : decode cX8_readNumber 44 = .ok (.ifCond .le 39, 3) := by decide +kernel
theorem dX8_readNumber_83 : decode cX8_readNumber 83 = .ok (.return_, 1) := by decide +kernel
theorem dX8_readNumber_47 : decode cX8_readNumber 47 = .ok (.aload_n 0, 1) := by decide +kernel
theorem dX8_readNumber_48 : decode cX8_readNumber 48 = .ok (.invokevirtual 102, 3) := by decide +kernel
theorem dX8_readNumber_51 : decode cX8_readNumber 51 = .ok (.ifCond .eq 32, 3) := by decide +kernel
theorem dX8_readNumber_54 : decode cX8_readNumber 54 = .ok (.aload_n 0, 1) := by decide +kernel
theorem dX8_readNumber_55 : decode cX8_readNumber 55 = .ok (.bipush 10, 2) := by decide +kernel
theorem dX8_readNumber_57 : decode cX8_readNumber 57 = .ok (.aload_n 0, 1) := by decide +kernel
theorem dX8_readNumber_58 : decode cX8_readNumber 58 = .ok (.getfield 106, 3) := by decide +kernel
theorem dX8_readNumber_61 : decode cX8_readNumber 61 = .ok (.imul, 1) := by decide +kernel
theorem dX8_readNumber_62 : decode cX8_readNumber 62 = .ok (.aload_n 0, 1) := by decide +kernel
theorem dX8_readNumber_63 : decode cX8_readNumber 63 = .ok (.invokevirtual 91, 3) := by decide +kernel
theorem dX8_readNumber_66 : decode cX8_readNumber 66 = .ok (.iadd, 1) := by decide +kernel
theorem dX8_readNumber_67 : decode cX8_readNumber 67 = .ok (.bipush 48, 2) := by decide +kernel
theorem dX8_readNumber_69 : decode cX8_readNumber 69 = .ok (.isub, 1) := by decide +kernel
theorem dX8_readNumber_70 : decode cX8_readNumber 70 = .ok (.putfield 106, 3) := by decide +kernel
theorem dX8_readNumber_73 : decode cX8_readNumber 73 = .ok (.aload_n 0, 1) := by decide +kernel
theorem dX8_readNumber_74 : decode cX8_readNumber 74 = .ok (.dup, 1) := by decide +kernel
theorem dX8_readNumber_75 : decode cX8_readNumber 75 = .ok (.getfield 81, 3) := by decide +kernel
theorem dX8_readNumber_78 : decode cX8_readNumber 78 = .ok (.iconst 1, 1) := by decide +kernel
theorem dX8_readNumber_79 : decode cX8_readNumber 79 = .ok (.iadd, 1) := by decide +kernel
theorem dX8_readNumber_80 : decode cX8_readNumber 80 = .ok (.putfield 81, 3) := by decide +kernel
set_option maxHeartbeats 400000 in
set_option maxRecDepth 20000 in
theorem ct_X8_readNumber (l : Launch) (D : va_G) (dA : Nat → ClassId) (hst : l.stackTraces = false) (M : jM) (m : Nat) (c : Nat → Int32) (L : Nat) (s : gS) (hS : mRd M m c L s) : jCT l D dA yX8_readNumber wsX8_readNumber (22) (420) (0) (0) 0 [.ref (m)] M (jPo (oV) (mRS M m (gNum c L s))) := by
  refine jBody (cc := cX8_readNumber) (nL := 1) (rt := none) (ini := false) (by decide) rfl hst (Nat.le_of_ble_eq_true rfl) (by simp [Value.category]) (by intro h9; first | exact absurd h9 (by decide) | rfl) ?_
  show J l D dA RX8 cX8_readNumber wsX8_readNumber 1 false none [] (22) (420) (jF D dA (jn M) (jPo (oV) (mRS M m (gNum c L s))) 0) (jn M) (0) (0) (M) 0 [.ref (m)] []
  obtain ⟨hM, hL6, hL60, hbuf, hple, -⟩ := id hS
  obtain ⟨m1, m2, ⟨r1, r2, r3, r4, r5, r6, r7, r8, r9, r10, r11, r12, r13⟩, ⟨k1, k2, k3, k4, k5, k6, k7, k8, k9, k10, k11, k12, k13⟩, z1, z2, z3, z4, z5, z6, z7, z8, z9, z10, z11, z12, z13⟩ := id hM
  refine J_mem (M' := mRS M m s) (by exact hS.self) ?_
  refine J_aload_n (m) dX8_readNumber_0 rfl rfl ?_
  refine J_geti (j := 16) dX8_readNumber_1 (fun _ h => List.mem_cons_of_mem _ (List.mem_append_left _ (List.mem_append_right _ (h)))) cs11 (by decide) rfl (List.mem_of_getElem? (i := 1) rfl) rfl (show m < jn M from by omega) m2 ?_
  refine J_topi (y := jb (s.2.1)) ((hS.rs s (hS.le)).f16) ?_
  refine J_if_ne dX8_readNumber_4 (tgt := 14) (by decide) (fun c4 => ?_) (fun c4 => ?_)
  · have c4 := jb0F c4
    refine J_aload_n (m) dX8_readNumber_14 rfl rfl ?_
    refine J_callv0 (jrunV (As := []) (ct_X8_bad l D dA hst ((mRS M m s)) m c L s (hS.rs s (hS.le))) dX8_readNumber_15 yY_X8_bad gX8_readNumber_X8_bad rfl cs11 (show m < jn M from by omega) m2 rfl ⟨by omega, by omega⟩ ⟨Nat.zero_le _, Nat.zero_le _⟩ rfl (Nat.le_of_ble_eq_true rfl)) (rfl) (rfl) ?_
    refine J_mem (M' := mRS M m (gBad s)) (mRS_RS _ _ _ _) ?_
    exact J_vret dX8_readNumber_18 rfl ⟨(by rfl), (by first | (rw [gNum_b (Or.inl c4)]; done) | (rw [gNum_b (Or.inr (by simpa using c11))]; done) | fail "nb")⟩
  · have c4 := jb0T c4
    refine J_aload_n (m) dX8_readNumber_7 rfl rfl ?_
    refine J_calli0 (jrunV (As := []) (ct_X8_isDigit l D dA hst ((mRS M m s)) m c L s (hS.rs s (hS.le))) dX8_readNumber_8 yY_X8_isDigit gX8_readNumber_X8_isDigit rfl cs11 (show m < jn M from by omega) m2 rfl ⟨by omega, by omega⟩ ⟨Nat.zero_le _, Nat.zero_le _⟩ rfl (Nat.le_of_ble_eq_true rfl)) (rfl) (rfl) ?_
    refine J_if_ne dX8_readNumber_11 (tgt := 19) (by decide) (fun c11 => ?_) (fun c11 => ?_)
    · have c11 := jb0F c11
      have hd : ¬ tDig c L s.1 = -1 := by simpa using c11
      obtain ⟨hd1, hd2, -⟩ := gDig_n hd
      refine J_aload_n (m) dX8_readNumber_19 rfl rfl ?_
      refine J_aload_n (m) dX8_readNumber_20 rfl rfl ?_
      refine J_calli0 (jrunV (As := []) (ct_X8_here l D dA hst ((mRS M m s)) m c L s (hS.rs s (hS.le))) dX8_readNumber_21 yY_X8_here gX8_readNumber_X8_here rfl cs11 (show m < jn M from by omega) m2 rfl ⟨by omega, by omega⟩ ⟨Nat.zero_le _, Nat.zero_le _⟩ rfl (Nat.le_of_ble_eq_true rfl)) (rfl) (rfl) ?_
      refine J_bipush (x := 48) dX8_readNumber_24 (by decide) ?_
      refine J_isub dX8_readNumber_26 ?_
      refine J_puti (j := 18) (x := ((gHere c L s.1) - (48))) dX8_readNumber_27 (fun _ h => List.mem_cons_of_mem _ (List.mem_append_left _ (List.mem_append_right _ (h)))) cs11 cty11 (by decide) rfl (List.mem_of_getElem? (i := 2) rfl) rfl rfl ⟨rfl, rfl⟩ (show m < jn M from by omega) m2 ?_
      refine J_mem (M' := mRS M m ((s.1, s.2.1, s.2.2.1, gHere c L s.1 - 48, s.2.2.2.2))) (by exact mRS_18 _ _ _ _) ?_
      refine J_aload_n (m) dX8_readNumber_30 rfl rfl ?_
      refine J_dup dX8_readNumber_31 rfl ?_
      refine J_geti (j := 15) dX8_readNumber_32 (fun _ h => List.mem_cons_of_mem _ (List.mem_append_left _ (List.mem_append_right _ (h)))) cs11 (by decide) rfl (List.mem_of_getElem? (i := 3) rfl) rfl (show m < jn M from by omega) m2 ?_
      refine J_topi (y := nI (s.1)) ((mRS_i _ _ _ _)) ?_
      refine J_iconst (x := 1) dX8_readNumber_35 (by decide) ?_
      refine J_iadd dX8_readNumber_36 ?_
      refine J_topi (y := nI (s.1 + 1)) (nI_add (s.1) (1)) ?_
      refine J_puti (j := 15) (x := nI (s.1 + 1)) dX8_readNumber_37 (fun _ h => List.mem_cons_of_mem _ (List.mem_append_left _ (List.mem_append_right _ (h)))) cs11 cty11 (by decide) rfl (List.mem_of_getElem? (i := 3) rfl) rfl rfl ⟨rfl, rfl⟩ (show m < jn M from by omega) m2 ?_
      refine J_mem (M' := mRS M m ((s.1 + 1, s.2.1, s.2.2.1, gHere c L s.1 - 48, s.2.2.2.2))) (by exact mRS_15 _ _ _ _) ?_
      refine J_aload_n (m) dX8_readNumber_40 rfl rfl ?_
      refine J_geti (j := 18) dX8_readNumber_41 (fun _ h => List.mem_cons_of_mem _ (List.mem_append_left _ (List.mem_append_right _ (h)))) cs11 (by decide) rfl (List.mem_of_getElem? (i := 2) rfl) rfl (show m < jn M from by omega) m2 ?_
      refine J_topi (y := (gHere c L s.1 - 48)) ((mRS_i _ _ _ _)) ?_
      refine J_if_le dX8_readNumber_44 (tgt := 83) (by decide) (fun c44 => ?_) (fun c44 => ?_)
      · exact J_vret dX8_readNumber_83 rfl ⟨(by rfl), (by first | (rw [gNum_1 c4 hd (Or.inl c44)]; done) | (rw [gNum_1 c4 hd (Or.inr (by simpa using c51))]; done) | (rw [gNum_2 c4 hd c44 he]; exact mRS_15 _ _ _ _) | fail "ng")⟩
      · refine J_aload_n (m) dX8_readNumber_47 rfl rfl ?_
        refine J_calli0 (jrunV (As := []) (ct_X8_isDigit l D dA hst ((mRS M m ((s.1 + 1, s.2.1, s.2.2.1, gHere c L s.1 - 48, s.2.2.2.2)))) m c L ((s.1 + 1, s.2.1, s.2.2.1, gHere c L s.1 - 48, s.2.2.2.2)) (hS.rs ((s.1 + 1, s.2.1, s.2.2.1, gHere c L s.1 - 48, s.2.2.2.2)) (hd2))) dX8_readNumber_48 yY_X8_isDigit gX8_readNumber_X8_isDigit rfl cs11 (show m < jn M from by omega) m2 rfl ⟨by omega, by omega⟩ ⟨Nat.zero_le _, Nat.zero_le _⟩ rfl (Nat.le_of_ble_eq_true rfl)) (rfl) (rfl) ?_
        refine J_if_eq dX8_readNumber_51 (tgt := 83) (by decide) (fun c51 => ?_) (fun c51 => ?_)
        · have c51 := jb0T c51
          exact J_vret dX8_readNumber_83 rfl ⟨(by rfl), (by first | (rw [gNum_1 c4 hd (Or.inl c44)]; done) | (rw [gNum_1 c4 hd (Or.inr (by simpa using c51))]; done) | (rw [gNum_2 c4 hd c44 he]; exact mRS_15 _ _ _ _) | fail "ng")⟩
        · have c51 := jb0F c51
          have he : ¬ tDig c L (s.1 + 1) = -1 := by simpa using c51
          obtain ⟨he1, he2, -⟩ := gDig_n he
          refine J_aload_n (m) dX8_readNumber_54 rfl rfl ?_
          refine J_bipush (x := 10) dX8_readNumber_55 (by decide) ?_
          refine J_aload_n (m) dX8_readNumber_57 rfl rfl ?_
          refine J_geti (j := 18) dX8_readNumber_58 (fun _ h => List.mem_cons_of_mem _ (List.mem_append_left _ (List.mem_append_right _ (h)))) cs11 (by decide) rfl (List.mem_of_getElem? (i := 2) rfl) rfl (show m < jn M from by omega) m2 ?_
          refine J_topi (y := (gHere c L s.1 - 48)) ((mRS_i _ _ _ _)) ?_
          refine J_imul dX8_readNumber_61 ?_
          refine J_aload_n (m) dX8_readNumber_62 rfl rfl ?_
          refine J_calli0 (jrunV (As := []) (ct_X8_here l D dA hst ((mRS M m ((s.1 + 1, s.2.1, s.2.2.1, gHere c L s.1 - 48, s.2.2.2.2)))) m c L ((s.1 + 1, s.2.1, s.2.2.1, gHere c L s.1 - 48, s.2.2.2.2)) (hS.rs ((s.1 + 1, s.2.1, s.2.2.1, gHere c L s.1 - 48, s.2.2.2.2)) (hd2))) dX8_readNumber_63 yY_X8_here gX8_readNumber_X8_here rfl cs11 (show m < jn M from by omega) m2 rfl ⟨by omega, by omega⟩ ⟨Nat.zero_le _, Nat.zero_le _⟩ rfl (Nat.le_of_ble_eq_true rfl)) (rfl) (rfl) ?_
          refine J_iadd dX8_readNumber_66 ?_
          refine J_bipush (x := 48) dX8_readNumber_67 (by decide) ?_
          refine J_isub dX8_readNumber_69 ?_
          refine J_puti (j := 18) (x := ((((10) * (gHere c L s.1 - 48)) + (gHere c L ((s.1 + 1, s.2.1, s.2.2.1, gHere c L s.1 - 48, s.2.2.2.2)).1)) - (48))) dX8_readNumber_70 (fun _ h => List.mem_cons_of_mem _ (List.mem_append_left _ (List.mem_append_right _ (h)))) cs11 cty11 (by decide) rfl (List.mem_of_getElem? (i := 2) rfl) rfl rfl ⟨rfl, rfl⟩ (show m < jn M from by omega) m2 ?_
          refine J_mem (M' := mRS M m ((s.1 + 1, s.2.1, s.2.2.1, 10 * (gHere c L s.1 - 48) + gHere c L (s.1 + 1) - 48, s.2.2.2.2))) (by exact mRS_18 _ _ _ _) ?_
          refine J_aload_n (m) dX8_readNumber_73 rfl rfl ?_
          refine J_dup dX8_readNumber_74 rfl ?_
          refine J_geti (j := 15) dX8_readNumber_75 (fun _ h => List.mem_cons_of_mem _ (List.mem_append_left _ (List.mem_append_right _ (h)))) cs11 (by decide) rfl (List.mem_of_getElem? (i := 3) rfl) rfl (show m < jn M from by omega) m2 ?_
          refine J_topi (y := nI (s.1 + 1)) ((mRS_i _ _ _ _)) ?_
          refine J_iconst (x := 1) dX8_readNumber_78 (by decide) ?_
          refine J_iadd dX8_readNumber_79 ?_
          refine J_topi (y := nI (s.1 + 1 + 1)) (nI_add (s.1 + 1) (1)) ?_
          refine J_puti (j := 15) (x := nI (s.1 + 1 + 1)) dX8_readNumber_80 (fun _ h => List.mem_cons_of_mem _ (List.mem_append_left _ (List.mem_append_right _ (h)))) cs11 cty11 (by decide) rfl (List.mem_of_getElem? (i := 3) rfl) rfl rfl ⟨rfl, rfl⟩ (show m < jn M from by omega) m2 ?_
          exact J_vret dX8_readNumber_83 rfl ⟨(by rfl), (by first | (rw [gNum_1 c4 hd (Or.inl c44)]; done) | (rw [gNum_1 c4 hd (Or.inr (by simpa using c51))]; done) | (rw [gNum_2 c4 hd c44 he]; exact mRS_15 _ _ _ _) | fail "ng")⟩
    · have c11 := jb0T c11
      refine J_aload_n (m) dX8_readNumber_14 rfl rfl ?_
      refine J_callv0 (jrunV (As := []) (ct_X8_bad l D dA hst ((mRS M m s)) m c L s (hS.rs s (hS.le))) dX8_readNumber_15 yY_X8_bad gX8_readNumber_X8_bad rfl cs11 (show m < jn M from by omega) m2 rfl ⟨by omega, by omega⟩ ⟨Nat.zero_le _, Nat.zero_le _⟩ rfl (Nat.le_of_ble_eq_true rfl)) (rfl) (rfl) ?_
      refine J_mem (M' := mRS M m (gBad s)) (mRS_RS _ _ _ _) ?_
      exact J_vret dX8_readNumber_18 rfl ⟨(by rfl), (by first | (rw [gNum_b (Or.inl c4)]; done) | (rw [gNum_b (Or.inr (by simpa using c11))]; done) | fail "nb")⟩

theorem dX8_readPatch_0 : decode cX8_readPatch 0 = .ok (.aload_n 0, 1) := by decide +kernel
theorem dX8_readPatch_1 : decode cX8_readPatch 1 = .ok (.invokevirtual 109, 3) := by decide +kernel
set_option maxRecDepth 20000 in
theorem ggX8_readPatch_X8_readNumber : GoodIn wsX8_readPatch wsX8_readNumber := goodIn_ca (goodIn_r _ [7, 8, 1, 9, 10, 11, 12, 6, 13, 14, 15, 16, 17, 18, 19, 20, 21, 22, 23, 28, 29, 30, 31, 32, 33, 34, 35, 36, 37, 38, 39, 40, 41, 42, 43, 44, 45, 46, 47, 48, 49, 50, 51, 52, 53, 54, 55, 56, 57, 58] (by decide +kernel) (by decide +kernel)) (goodIn_sub (fun _ h => List.mem_cons_of_mem _ (List.mem_append_right _ h)) (by decide +kernel))
set_option maxRecDepth 20000 in
theorem gX8_readPatch_X8_readNumber : GoodIn wsX8_readPatch (wsV RX8 109 RX8 yX8_readNumber wsX8_readNumber) := goodIn_app (goodIn_of _ (by decide +kernel)) ggX8_readPatch_X8_readNumber
theorem yY_X8_readNumber : jY yX8_readNumber wsX8_readNumber cX8_readNumber 1 none 0 := ⟨⟨_, rfl⟩, by decide +kernel, by decide +kernel, by decide +kernel⟩
theorem dX8_readPatch_4 : decode cX8_readPatch 4 = .ok (.iload_n 1, 1) := by decide +kernel
theorem dX8_readPatch_5 : decode cX8_readPatch 5 = .ok (.bipush 100, 2) := by decide +kernel
theorem dX8_readPatch_7 : decode cX8_readPatch 7 = .ok (.aload_n 0, 1) := by decide +kernel
theorem dX8_readPatch_8 : decode cX8_readPatch 8 = .ok (.getfield 106, 3) := by decide +kernel
theorem dX8_readPatch_11 : decode cX8_readPatch 11 = .ok (.imul, 1) := by decide +kernel
theorem dX8_readPatch_12 : decode cX8_readPatch 12 = .ok (.iadd, 1) := by decide +kernel
theorem dX8_readPatch_13 : decode cX8_readPatch 13 = .ok (.bipush 99, 2) := by decide +kernel
theorem dX8_readPatch_15 : decode cX8_readPatch 15 = .ok (.iadd, 1) := by decide +kernel
theorem dX8_readPatch_16 : decode cX8_readPatch 16 = .ok (.istore_n 2, 1) := by decide +kernel
theorem dX8_readPatch_17 : decode cX8_readPatch 17 = .ok (.aload_n 0, 1) := by decide +kernel
theorem dX8_readPatch_18 : decode cX8_readPatch 18 = .ok (.bipush 45, 2) := by decide +kernel
theorem dX8_readPatch_20 : decode cX8_readPatch 20 = .ok (.invokevirtual 95, 3) := by decide +kernel
set_option maxRecDepth 20000 in
theorem ggX8_readPatch_X8_isHere : GoodIn wsX8_readPatch wsX8_isHere := goodIn_ca (goodIn_r _ [27, 8, 9, 14, 15, 16, 6, 17, 18, 19, 28, 29, 30, 31, 32, 33, 34, 35, 36, 37, 38, 39, 40, 41, 42, 43, 44, 45, 46, 47, 48, 49, 50, 51, 52, 53, 54, 55, 56, 57, 58] (by decide +kernel) (by decide +kernel)) (goodIn_sub (fun _ h => List.mem_cons_of_mem _ (List.mem_append_right _ h)) (by decide +kernel))
set_option maxRecDepth 20000 in
theorem gX8_readPatch_X8_isHere : GoodIn wsX8_readPatch (wsV RX8 95 RX8 yX8_isHere wsX8_isHere) := goodIn_app (goodIn_of _ (by decide +kernel)) ggX8_readPatch_X8_isHere
theorem dX8_readPatch_23 : decode cX8_readPatch 23 = .ok (.ifCond .ne 5, 3) := by decide +kernel
theorem dX8_readPatch_28 : decode cX8_readPatch 28 = .ok (.aload_n 0, 1) := by decide +kernel
theorem dX8_readPatch_29 : decode cX8_readPatch 29 = .ok (.invokevirtual 109, 3) := by decide +kernel
theorem dX8_readPatch_32 : decode cX8_readPatch 32 = .ok (.aload_n 0, 1) := by decide +kernel
theorem dX8_readPatch_33 : decode cX8_readPatch 33 = .ok (.dup, 1) := by decide +kernel
theorem dX8_readPatch_34 : decode cX8_readPatch 34 = .ok (.getfield 112, 3) := by decide +kernel
theorem dX8_readPatch_37 : decode cX8_readPatch 37 = .ok (.aload_n 0, 1) := by decide +kernel
theorem dX8_readPatch_38 : decode cX8_readPatch 38 = .ok (.getfield 106, 3) := by decide +kernel
theorem dX8_readPatch_41 : decode cX8_readPatch 41 = .ok (.bipush 99, 2) := by decide +kernel
theorem dX8_readPatch_43 : decode cX8_readPatch 43 = .ok (.if_icmp .ne 7, 3) := by decide +kernel
theorem dX8_readPatch_50 : decode cX8_readPatch 50 = .ok (.iconst 0, 1) := by decide +kernel
theorem dX8_readPatch_51 : decode cX8_readPatch 51 = .ok (.ior, 1) := by decide +kernel
theorem dX8_readPatch_52 : decode cX8_readPatch 52 = .ok (.putfield 112, 3) := by decide +kernel
theorem dX8_readPatch_55 : decode cX8_readPatch 55 = .ok (.iload_n 2, 1) := by decide +kernel
theorem dX8_readPatch_56 : decode cX8_readPatch 56 = .ok (.bipush 99, 2) := by decide +kernel
theorem dX8_readPatch_58 : decode cX8_readPatch 58 = .ok (.isub, 1) := by decide +kernel
theorem dX8_readPatch_59 : decode cX8_readPatch 59 = .ok (.aload_n 0, 1) := by decide +kernel
theorem dX8_readPatch_60 : decode cX8_readPatch 60 = .ok (.getfield 106, 3) := by decide +kernel
theorem dX8_readPatch_63 : decode cX8_readPatch 63 = .ok (.iadd, 1) := by decide +kernel
theorem dX8_readPatch_64 : decode cX8_readPatch 64 = .ok (.ireturn, 1) := by decide +kernel
theorem dX8_readPatch_46 : decode cX8_readPatch 46 = .ok (.iconst 1, 1) := by decide +kernel
theorem dX8_readPatch_47 : decode cX8_readPatch 47 = .ok (.goto 4, 3) := by decide +kernel
theorem dX8_readPatch_26 : decode cX8_readPatch 26 = .ok (.iload_n 2, 1) := by decide +kernel
theorem dX8_readPatch_27 : decode cX8_readPatch 27 = .ok (.ireturn, 1) := by decide +kernel
set_option maxHeartbeats 400000 in
set_option maxRecDepth 20000 in
theorem ct_X8_readPatch (l : Launch) (D : va_G) (dA : Nat → ClassId) (hst : l.stackTraces = false) (M : jM) (m : Nat) (c : Nat → Int32) (L : Nat) (s : gS) (hS : mRd M m c L s) (a : Int32) : jCT l D dA yX8_readPatch wsX8_readPatch (23) (480) (0) (0) 1 [.ref (m), .int (a)] M (jPo (oI (gPat c L a s).1) (mRS M m ((gPat c L a s).2))) := by
  refine jBody (cc := cX8_readPatch) (nL := 3) (rt := (some .int)) (ini := false) (by decide) rfl hst (Nat.le_of_ble_eq_true rfl) (by simp [Value.category]) (by intro h9; first | exact absurd h9 (by decide) | rfl) ?_
  show J l D dA RX8 cX8_readPatch wsX8_readPatch 3 false (some .int) [] (23) (480) (jF D dA (jn M) (jPo (oI (gPat c L a s).1) (mRS M m ((gPat c L a s).2))) 1) (jn M) (0) (0) (M) 0 [.ref (m), .int (a), .float 0] []
  obtain ⟨hM, hL6, hL60, hbuf, hple, -⟩ := id hS
  obtain ⟨m1, m2, ⟨r1, r2, r3, r4, r5, r6, r7, r8, r9, r10, r11, r12, r13⟩, ⟨k1, k2, k3, k4, k5, k6, k7, k8, k9, k10, k11, k12, k13⟩, z1, z2, z3, z4, z5, z6, z7, z8, z9, z10, z11, z12, z13⟩ := id hM
  refine J_mem (M' := mRS M m s) (by exact hS.self) ?_
  refine J_aload_n (m) dX8_readPatch_0 rfl rfl ?_
  refine J_callv0 (jrunV (As := []) (ct_X8_readNumber l D dA hst ((mRS M m s)) m c L s (hS.rs s (hS.le))) dX8_readPatch_1 yY_X8_readNumber gX8_readPatch_X8_readNumber rfl cs11 (show m < jn M from by omega) m2 rfl ⟨by omega, by omega⟩ ⟨Nat.zero_le _, Nat.zero_le _⟩ rfl (Nat.le_of_ble_eq_true rfl)) (rfl) (rfl) ?_
  refine J_mem (M' := mRS M m (gNum c L s)) (mRS_RS _ _ _ _) ?_
  refine J_iload_n dX8_readPatch_4 rfl rfl ?_
  refine J_bipush (x := 100) dX8_readPatch_5 (by decide) ?_
  refine J_aload_n (m) dX8_readPatch_7 rfl rfl ?_
  refine J_geti (j := 18) dX8_readPatch_8 (fun _ h => List.mem_cons_of_mem _ (List.mem_append_left _ (List.mem_append_right _ (h)))) cs11 (by decide) rfl (List.mem_of_getElem? (i := 1) rfl) rfl (show m < jn M from by omega) m2 ?_
  refine J_topi (y := ((gNum c L s).2.2.2.1)) ((hS.rs (gNum c L s) (gNum_le (hS.rs s (hS.le)).le)).f18) ?_
  refine J_imul dX8_readPatch_11 ?_
  refine J_iadd dX8_readPatch_12 ?_
  refine J_bipush (x := 99) dX8_readPatch_13 (by decide) ?_
  refine J_iadd dX8_readPatch_15 ?_
  refine J_istore_n (lv' := [.ref (m), .int (a), .int (((a) + ((100) * ((gNum c L s).2.2.2.1))) + (99))]) dX8_readPatch_16 rfl (by decide) rfl rfl ?_
  refine J_aload_n (m) dX8_readPatch_17 rfl rfl ?_
  refine J_bipush (x := 45) dX8_readPatch_18 (by decide) ?_
  refine J_calli0 (jrunV (As := [.int (45)]) (ct_X8_isHere l D dA hst ((mRS M m (gNum c L s))) m c L (gNum c L s) (hS.rs (gNum c L s) (gNum_le (hS.rs s (hS.le)).le)) ((45)) (by decide)) dX8_readPatch_20 yY_X8_isHere gX8_readPatch_X8_isHere rfl cs11 (show m < jn M from by omega) m2 rfl ⟨by omega, by omega⟩ ⟨Nat.zero_le _, Nat.zero_le _⟩ rfl (Nat.le_of_ble_eq_true rfl)) (rfl) (rfl) ?_
  refine J_mem (M' := mRS M m (gTk c L ((45)) (gNum c L s))) (mRS_RS _ _ _ _) ?_
  refine J_if_ne dX8_readPatch_23 (tgt := 28) (by decide) (fun c23 => ?_) (fun c23 => ?_)
  · have c23 := jb0F c23
    refine J_aload_n (m) dX8_readPatch_28 rfl rfl ?_
    refine J_callv0 (jrunV (As := []) (ct_X8_readNumber l D dA hst ((mRS M m (gTk c L ((45)) (gNum c L s)))) m c L (gTk c L ((45)) (gNum c L s)) (hS.rs (gTk c L ((45)) (gNum c L s)) (gTk_le (hS.rs (gNum c L s) (gNum_le (hS.rs s (hS.le)).le)).le))) dX8_readPatch_29 yY_X8_readNumber gX8_readPatch_X8_readNumber rfl cs11 (show m < jn M from by omega) m2 rfl ⟨by omega, by omega⟩ ⟨Nat.zero_le _, Nat.zero_le _⟩ rfl (Nat.le_of_ble_eq_true rfl)) (rfl) (rfl) ?_
    refine J_mem (M' := mRS M m (gNum c L (gTk c L ((45)) (gNum c L s)))) (mRS_RS _ _ _ _) ?_
    refine J_aload_n (m) dX8_readPatch_32 rfl rfl ?_
    refine J_dup dX8_readPatch_33 rfl ?_
    refine J_geti (j := 17) dX8_readPatch_34 (fun _ h => List.mem_cons_of_mem _ (List.mem_append_left _ (List.mem_append_right _ (h)))) cs11 (by decide) rfl (List.mem_of_getElem? (i := 2) rfl) rfl (show m < jn M from by omega) m2 ?_
    refine J_topi (y := jb ((gNum c L (gTk c L ((45)) (gNum c L s))).2.2.1)) ((hS.rs (gNum c L (gTk c L ((45)) (gNum c L s))) (gNum_le (hS.rs (gTk c L ((45)) (gNum c L s)) (gTk_le (hS.rs (gNum c L s) (gNum_le (hS.rs s (hS.le)).le)).le)).le)).f17) ?_
    refine J_aload_n (m) dX8_readPatch_37 rfl rfl ?_
    refine J_geti (j := 18) dX8_readPatch_38 (fun _ h => List.mem_cons_of_mem _ (List.mem_append_left _ (List.mem_append_right _ (h)))) cs11 (by decide) rfl (List.mem_of_getElem? (i := 1) rfl) rfl (show m < jn M from by omega) m2 ?_
    refine J_topi (y := ((gNum c L (gTk c L ((45)) (gNum c L s))).2.2.2.1)) ((hS.rs (gNum c L (gTk c L ((45)) (gNum c L s))) (gNum_le (hS.rs (gTk c L ((45)) (gNum c L s)) (gTk_le (hS.rs (gNum c L s) (gNum_le (hS.rs s (hS.le)).le)).le)).le)).f18) ?_
    refine J_bipush (x := 99) dX8_readPatch_41 (by decide) ?_
    refine J_icmp_ne dX8_readPatch_43 (tgt := 50) (by decide) (fun c43 => ?_) (fun c43 => ?_)
    · refine J_iconst (x := 0) dX8_readPatch_50 (by decide) ?_
      refine J_ior dX8_readPatch_51 ?_
      refine J_topi (y := jb ((gNum c L (gTk c L 45 (gNum c L s))).2.2.1 || decide ((gNum c L (gTk c L 45 (gNum c L s))).2.2.2.1 = 99))) (by rcases Bool.eq_false_or_eq_true ((gNum c L (gTk c L 45 (gNum c L s))).2.2.1) with h9 | h9 <;> rw [h9] <;> first | (rw [decide_eq_true c43]; decide) | (rw [decide_eq_false c43]; decide)) ?_
      refine J_puti (j := 17) (x := jb ((gNum c L (gTk c L 45 (gNum c L s))).2.2.1 || decide ((gNum c L (gTk c L 45 (gNum c L s))).2.2.2.1 = 99))) dX8_readPatch_52 (fun _ h => List.mem_cons_of_mem _ (List.mem_append_left _ (List.mem_append_right _ (h)))) cs11 cty11 (by decide) rfl (List.mem_of_getElem? (i := 2) rfl) rfl rfl ⟨jb_n _, jb_fit _⟩ (show m < jn M from by omega) m2 ?_
      refine J_mem (M' := mRS M m (gLate (gNum c L (gTk c L 45 (gNum c L s))) ((gNum c L (gTk c L 45 (gNum c L s))).2.2.1 || decide ((gNum c L (gTk c L 45 (gNum c L s))).2.2.2.1 = 99)))) (by exact mRS_17 _ _ _ _) ?_
      refine J_iload_n dX8_readPatch_55 rfl rfl ?_
      refine J_bipush (x := 99) dX8_readPatch_56 (by decide) ?_
      refine J_isub dX8_readPatch_58 ?_
      refine J_aload_n (m) dX8_readPatch_59 rfl rfl ?_
      refine J_geti (j := 18) dX8_readPatch_60 (fun _ h => List.mem_cons_of_mem _ (List.mem_append_left _ (List.mem_append_right _ (h)))) cs11 (by decide) rfl (List.mem_of_getElem? (i := 1) rfl) rfl (show m < jn M from by omega) m2 ?_
      refine J_topi (y := ((gLate (gNum c L (gTk c L 45 (gNum c L s))) ((gNum c L (gTk c L 45 (gNum c L s))).2.2.1 || decide ((gNum c L (gTk c L 45 (gNum c L s))).2.2.2.1 = 99))).2.2.2.1)) ((hS.rs (gLate (gNum c L (gTk c L 45 (gNum c L s))) ((gNum c L (gTk c L 45 (gNum c L s))).2.2.1 || decide ((gNum c L (gTk c L 45 (gNum c L s))).2.2.2.1 = 99))) (gNum_le (gTk_le (gNum_le hple)))).f18) ?_
      refine J_iadd dX8_readPatch_63 ?_
      exact J_iret (ty := .int) dX8_readPatch_64 rfl (rfl) ⟨(by unfold gPat; rw [if_pos c23]; rfl), (by unfold gPat; rw [if_pos c23])⟩
    · refine J_iconst (x := 1) dX8_readPatch_46 (by decide) ?_
      refine J_goto (tgt := 51) dX8_readPatch_47 (by decide) ?_
      refine J_ior dX8_readPatch_51 ?_
      refine J_topi (y := jb ((gNum c L (gTk c L 45 (gNum c L s))).2.2.1 || decide ((gNum c L (gTk c L 45 (gNum c L s))).2.2.2.1 = 99))) (by rcases Bool.eq_false_or_eq_true ((gNum c L (gTk c L 45 (gNum c L s))).2.2.1) with h9 | h9 <;> rw [h9] <;> first | (rw [decide_eq_true c43]; decide) | (rw [decide_eq_false c43]; decide)) ?_
      refine J_puti (j := 17) (x := jb ((gNum c L (gTk c L 45 (gNum c L s))).2.2.1 || decide ((gNum c L (gTk c L 45 (gNum c L s))).2.2.2.1 = 99))) dX8_readPatch_52 (fun _ h => List.mem_cons_of_mem _ (List.mem_append_left _ (List.mem_append_right _ (h)))) cs11 cty11 (by decide) rfl (List.mem_of_getElem? (i := 2) rfl) rfl rfl ⟨jb_n _, jb_fit _⟩ (show m < jn M from by omega) m2 ?_
      refine J_mem (M' := mRS M m (gLate (gNum c L (gTk c L 45 (gNum c L s))) ((gNum c L (gTk c L 45 (gNum c L s))).2.2.1 || decide ((gNum c L (gTk c L 45 (gNum c L s))).2.2.2.1 = 99)))) (by exact mRS_17 _ _ _ _) ?_
      refine J_iload_n dX8_readPatch_55 rfl rfl ?_
      refine J_bipush (x := 99) dX8_readPatch_56 (by decide) ?_
      refine J_isub dX8_readPatch_58 ?_
      refine J_aload_n (m) dX8_readPatch_59 rfl rfl ?_
      refine J_geti (j := 18) dX8_readPatch_60 (fun _ h => List.mem_cons_of_mem _ (List.mem_append_left _ (List.mem_append_right _ (h)))) cs11 (by decide) rfl (List.mem_of_getElem? (i := 1) rfl) rfl (show m < jn M from by omega) m2 ?_
      refine J_topi (y := ((gLate (gNum c L (gTk c L 45 (gNum c L s))) ((gNum c L (gTk c L 45 (gNum c L s))).2.2.1 || decide ((gNum c L (gTk c L 45 (gNum c L s))).2.2.2.1 = 99))).2.2.2.1)) ((hS.rs (gLate (gNum c L (gTk c L 45 (gNum c L s))) ((gNum c L (gTk c L 45 (gNum c L s))).2.2.1 || decide ((gNum c L (gTk c L 45 (gNum c L s))).2.2.2.1 = 99))) (gNum_le (gTk_le (gNum_le hple)))).f18) ?_
      refine J_iadd dX8_readPatch_63 ?_
      exact J_iret (ty := .int) dX8_readPatch_64 rfl (rfl) ⟨(by unfold gPat; rw [if_pos c23]; rfl), (by unfold gPat; rw [if_pos c23])⟩
  · have c23 := jb0T c23
    refine J_mem (M' := mRS M m (gNum c L s)) (by exact congrArg (mRS M m) (gTk_f c23)) ?_
    refine J_iload_n dX8_readPatch_26 rfl rfl ?_
    exact J_iret (ty := .int) dX8_readPatch_27 rfl (rfl) ⟨(by unfold gPat; rw [if_neg (by rw [c23]; decide)]), (by unfold gPat; rw [if_neg (by rw [c23]; decide)])⟩

theorem dX8_readVersion_0 : decode cX8_readVersion 0 = .ok (.aload_n 0, 1) := by decide +kernel
theorem dX8_readVersion_1 : decode cX8_readVersion 1 = .ok (.invokevirtual 109, 3) := by decide +kernel
set_option maxRecDepth 20000 in
theorem ggX8_readVersion_X8_readNumber : GoodIn wsX8_readVersion wsX8_readNumber := goodIn_ca (goodIn_r _ [7, 8, 2, 9, 10, 11, 12, 6, 13, 14, 15, 16, 17, 18, 19, 20, 21, 22, 23, 37, 38, 39, 40, 41, 42, 43, 44, 45, 46, 47, 48, 49, 50, 51, 52, 53, 54, 55, 56, 57, 58, 59, 60, 61, 62, 63, 64, 65, 66, 67] (by decide +kernel) (by decide +kernel)) (goodIn_sub (fun _ h => List.mem_cons_of_mem _ (List.mem_append_right _ h)) (by decide +kernel))
set_option maxRecDepth 20000 in
theorem gX8_readVersion_X8_readNumber : GoodIn wsX8_readVersion (wsV RX8 109 RX8 yX8_readNumber wsX8_readNumber) := goodIn_app (goodIn_of _ (by decide +kernel)) ggX8_readVersion_X8_readNumber
theorem dX8_readVersion_4 : decode cX8_readVersion 4 = .ok (.ldc 115, 2) := by decide +kernel
theorem dX8_readVersion_6 : decode cX8_readVersion 6 = .ok (.aload_n 0, 1) := by decide +kernel
theorem dX8_readVersion_7 : decode cX8_readVersion 7 = .ok (.getfield 106, 3) := by decide +kernel
theorem dX8_readVersion_10 : decode cX8_readVersion 10 = .ok (.imul, 1) := by decide +kernel
theorem dX8_readVersion_11 : decode cX8_readVersion 11 = .ok (.istore_n 1, 1) := by decide +kernel
theorem dX8_readVersion_12 : decode cX8_readVersion 12 = .ok (.aload_n 0, 1) := by decide +kernel
theorem dX8_readVersion_13 : decode cX8_readVersion 13 = .ok (.bipush 46, 2) := by decide +kernel
theorem dX8_readVersion_15 : decode cX8_readVersion 15 = .ok (.invokevirtual 116, 3) := by decide +kernel
set_option maxRecDepth 20000 in
theorem ggX8_readVersion_X8_needs : GoodIn wsX8_readVersion wsX8_needs := goodIn_ca (goodIn_r _ [27, 28, 29, 30, 6, 31, 8, 9, 14, 15, 16, 17, 18, 19, 20, 21, 22, 23, 37, 38, 39, 40, 41, 42, 43, 44, 45, 46, 47, 48, 49, 50, 51, 52, 53, 54, 55, 56, 57, 58, 59, 60, 61, 62, 63, 64, 65, 66, 67] (by decide +kernel) (by decide +kernel)) (goodIn_sub (fun _ h => List.mem_cons_of_mem _ (List.mem_append_right _ h)) (by decide +kernel))
set_option maxRecDepth 20000 in
theorem gX8_readVersion_X8_needs : GoodIn wsX8_readVersion (wsV RX8 116 RX8 yX8_needs wsX8_needs) := goodIn_app (goodIn_of _ (by decide +kernel)) ggX8_readVersion_X8_needs
theorem yY_X8_needs : jY yX8_needs wsX8_needs cX8_needs 2 none 1 := ⟨⟨_, rfl⟩, by decide +kernel, by decide +kernel, by decide +kernel⟩
theorem dX8_readVersion_18 : decode cX8_readVersion 18 = .ok (.aload_n 0, 1) := by decide +kernel
theorem dX8_readVersion_19 : decode cX8_readVersion 19 = .ok (.invokevirtual 109, 3) := by decide +kernel
theorem dX8_readVersion_22 : decode cX8_readVersion 22 = .ok (.iload_n 1, 1) := by decide +kernel
theorem dX8_readVersion_23 : decode cX8_readVersion 23 = .ok (.sipush 10000, 3) := by decide +kernel
theorem dX8_readVersion_26 : decode cX8_readVersion 26 = .ok (.aload_n 0, 1) := by decide +kernel
theorem dX8_readVersion_27 : decode cX8_readVersion 27 = .ok (.getfield 106, 3) := by decide +kernel
theorem dX8_readVersion_30 : decode cX8_readVersion 30 = .ok (.imul, 1) := by decide +kernel
theorem dX8_readVersion_31 : decode cX8_readVersion 31 = .ok (.iadd, 1) := by decide +kernel
theorem dX8_readVersion_32 : decode cX8_readVersion 32 = .ok (.istore_n 1, 1) := by decide +kernel
theorem dX8_readVersion_33 : decode cX8_readVersion 33 = .ok (.aload_n 0, 1) := by decide +kernel
theorem dX8_readVersion_34 : decode cX8_readVersion 34 = .ok (.bipush 46, 2) := by decide +kernel
theorem dX8_readVersion_36 : decode cX8_readVersion 36 = .ok (.invokevirtual 116, 3) := by decide +kernel
theorem dX8_readVersion_39 : decode cX8_readVersion 39 = .ok (.aload_n 0, 1) := by decide +kernel
theorem dX8_readVersion_40 : decode cX8_readVersion 40 = .ok (.iload_n 1, 1) := by decide +kernel
theorem dX8_readVersion_41 : decode cX8_readVersion 41 = .ok (.invokevirtual 120, 3) := by decide +kernel
set_option maxRecDepth 20000 in
theorem ggX8_readVersion_X8_readPatch : GoodIn wsX8_readVersion wsX8_readPatch := goodIn_ca (goodIn_r _ [35, 2, 36, 3, 4, 5, 6, 7, 8, 9, 10, 11, 12, 13, 14, 15, 16, 17, 18, 19, 20, 21, 22, 23, 28, 29, 30, 31, 37, 38, 39, 40, 41, 42, 43, 44, 45, 46, 47, 48, 49, 50, 51, 52, 53, 54, 55, 56, 57, 58, 59, 60, 61, 62, 63, 64, 65, 66, 67] (by decide +kernel) (by decide +kernel)) (goodIn_sub (fun _ h => List.mem_cons_of_mem _ (List.mem_append_right _ h)) (by decide +kernel))
set_option maxRecDepth 20000 in
theorem gX8_readVersion_X8_readPatch : GoodIn wsX8_readVersion (wsV RX8 120 RX8 yX8_readPatch wsX8_readPatch) := goodIn_app (goodIn_of _ (by decide +kernel)) ggX8_readVersion_X8_readPatch
theorem yY_X8_readPatch : jY yX8_readPatch wsX8_readPatch cX8_readPatch 3 (some .int) 1 := ⟨⟨_, rfl⟩, by decide +kernel, by decide +kernel, by decide +kernel⟩
theorem dX8_readVersion_44 : decode cX8_readVersion 44 = .ok (.ireturn, 1) := by decide +kernel
set_option maxHeartbeats 400000 in
set_option maxRecDepth 20000 in
theorem ct_X8_readVersion (l : Launch) (D : va_G) (dA : Nat → ClassId) (hst : l.stackTraces = false) (M : jM) (m : Nat) (c : Nat → Int32) (L : Nat) (s : gS) (hS : mRd M m c L s) : jCT l D dA yX8_readVersion wsX8_readVersion (24) (540) (0) (0) 1 [.ref (m)] M (jPo (oI (gVer c L s).1) (mRS M m ((gVer c L s).2))) := by
  refine jBody (cc := cX8_readVersion) (nL := 2) (rt := (some .int)) (ini := false) (by decide) rfl hst (Nat.le_of_ble_eq_true rfl) (by simp [Value.category]) (by intro h9; first | exact absurd h9 (by decide) | rfl) ?_
  show J l D dA RX8 cX8_readVersion wsX8_readVersion 2 false (some .int) [] (24) (540) (jF D dA (jn M) (jPo (oI (gVer c L s).1) (mRS M m ((gVer c L s).2))) 1) (jn M) (0) (0) (M) 0 [.ref (m), .float 0] []
  obtain ⟨hM, hL6, hL60, hbuf, hple, -⟩ := id hS
  obtain ⟨m1, m2, ⟨r1, r2, r3, r4, r5, r6, r7, r8, r9, r10, r11, r12, r13⟩, ⟨k1, k2, k3, k4, k5, k6, k7, k8, k9, k10, k11, k12, k13⟩, z1, z2, z3, z4, z5, z6, z7, z8, z9, z10, z11, z12, z13⟩ := id hM
  refine J_mem (M' := mRS M m s) (by exact hS.self) ?_
  refine J_aload_n (m) dX8_readVersion_0 rfl rfl ?_
  refine J_callv0 (jrunV (As := []) (ct_X8_readNumber l D dA hst ((mRS M m s)) m c L s (hS.rs s (hS.le))) dX8_readVersion_1 yY_X8_readNumber gX8_readVersion_X8_readNumber rfl cs11 (show m < jn M from by omega) m2 rfl ⟨by omega, by omega⟩ ⟨Nat.zero_le _, Nat.zero_le _⟩ rfl (Nat.le_of_ble_eq_true rfl)) (rfl) (rfl) ?_
  refine J_mem (M' := mRS M m (gNum c L s)) (mRS_RS _ _ _ _) ?_
  refine J_ldc (x := 1000000) dX8_readVersion_4 (List.mem_of_getElem? (i := 1) rfl) ?_
  refine J_aload_n (m) dX8_readVersion_6 rfl rfl ?_
  refine J_geti (j := 18) dX8_readVersion_7 (fun _ h => List.mem_cons_of_mem _ (List.mem_append_left _ (List.mem_append_right _ (h)))) cs11 (by decide) rfl (List.mem_of_getElem? (i := 2) rfl) rfl (show m < jn M from by omega) m2 ?_
  refine J_topi (y := ((gNum c L s).2.2.2.1)) ((hS.rs (gNum c L s) (gNum_le (hS.rs s (hS.le)).le)).f18) ?_
  refine J_imul dX8_readVersion_10 ?_
  refine J_istore_n (lv' := [.ref (m), .int ((1000000) * ((gNum c L s).2.2.2.1))]) dX8_readVersion_11 rfl (by decide) rfl rfl ?_
  refine J_aload_n (m) dX8_readVersion_12 rfl rfl ?_
  refine J_bipush (x := 46) dX8_readVersion_13 (by decide) ?_
  refine J_callv0 (jrunV (As := [.int (46)]) (ct_X8_needs l D dA hst ((mRS M m (gNum c L s))) m c L (gNum c L s) (hS.rs (gNum c L s) (gNum_le (hS.rs s (hS.le)).le)) ((46)) (by decide)) dX8_readVersion_15 yY_X8_needs gX8_readVersion_X8_needs rfl cs11 (show m < jn M from by omega) m2 rfl ⟨by omega, by omega⟩ ⟨Nat.zero_le _, Nat.zero_le _⟩ rfl (Nat.le_of_ble_eq_true rfl)) (rfl) (rfl) ?_
  refine J_mem (M' := mRS M m (gNeed c L ((46)) (gNum c L s))) (mRS_RS _ _ _ _) ?_
  refine J_mem (M' := mRS M m (gV2 c L s)) (by rfl) ?_
  refine J_aload_n (m) dX8_readVersion_18 rfl rfl ?_
  refine J_callv0 (jrunV (As := []) (ct_X8_readNumber l D dA hst ((mRS M m (gV2 c L s))) m c L (gV2 c L s) (hS.rs (gV2 c L s) (gV2_le hple))) dX8_readVersion_19 yY_X8_readNumber gX8_readVersion_X8_readNumber rfl cs11 (show m < jn M from by omega) m2 rfl ⟨by omega, by omega⟩ ⟨Nat.zero_le _, Nat.zero_le _⟩ rfl (Nat.le_of_ble_eq_true rfl)) (rfl) (rfl) ?_
  refine J_mem (M' := mRS M m (gNum c L (gV2 c L s))) (mRS_RS _ _ _ _) ?_
  refine J_mem (M' := mRS M m (gV3 c L s)) (by rfl) ?_
  refine J_iload_n dX8_readVersion_22 rfl rfl ?_
  refine J_sipush (x := 10000) dX8_readVersion_23 (by decide) ?_
  refine J_aload_n (m) dX8_readVersion_26 rfl rfl ?_
  refine J_geti (j := 18) dX8_readVersion_27 (fun _ h => List.mem_cons_of_mem _ (List.mem_append_left _ (List.mem_append_right _ (h)))) cs11 (by decide) rfl (List.mem_of_getElem? (i := 2) rfl) rfl (show m < jn M from by omega) m2 ?_
  refine J_topi (y := ((gV3 c L s).2.2.2.1)) ((hS.rs (gV3 c L s) (gV3_le hple)).f18) ?_
  refine J_imul dX8_readVersion_30 ?_
  refine J_iadd dX8_readVersion_31 ?_
  refine J_istore_n (lv' := [.ref (m), .int (((1000000) * ((gNum c L s).2.2.2.1)) + ((10000) * ((gV3 c L s).2.2.2.1)))]) dX8_readVersion_32 rfl (by decide) rfl rfl ?_
  refine J_aload_n (m) dX8_readVersion_33 rfl rfl ?_
  refine J_bipush (x := 46) dX8_readVersion_34 (by decide) ?_
  refine J_callv0 (jrunV (As := [.int (46)]) (ct_X8_needs l D dA hst ((mRS M m (gV3 c L s))) m c L (gV3 c L s) (hS.rs (gV3 c L s) (gV3_le hple)) ((46)) (by decide)) dX8_readVersion_36 yY_X8_needs gX8_readVersion_X8_needs rfl cs11 (show m < jn M from by omega) m2 rfl ⟨by omega, by omega⟩ ⟨Nat.zero_le _, Nat.zero_le _⟩ rfl (Nat.le_of_ble_eq_true rfl)) (rfl) (rfl) ?_
  refine J_mem (M' := mRS M m (gNeed c L ((46)) (gV3 c L s))) (mRS_RS _ _ _ _) ?_
  refine J_mem (M' := mRS M m (gV4 c L s)) (by rfl) ?_
  refine J_aload_n (m) dX8_readVersion_39 rfl rfl ?_
  refine J_iload_n dX8_readVersion_40 rfl rfl ?_
  refine J_topi (y := (gVal c L s)) (by rfl) ?_
  refine J_calli0 (jrunV (As := [.int (gVal c L s)]) (ct_X8_readPatch l D dA hst ((mRS M m (gV4 c L s))) m c L (gV4 c L s) (hS.rs (gV4 c L s) (gV4_le hple)) ((gVal c L s))) dX8_readVersion_41 yY_X8_readPatch gX8_readVersion_X8_readPatch rfl cs11 (show m < jn M from by omega) m2 rfl ⟨by omega, by omega⟩ ⟨Nat.zero_le _, Nat.zero_le _⟩ rfl (Nat.le_of_ble_eq_true rfl)) (rfl) (rfl) ?_
  refine J_mem (M' := mRS M m ((gPat c L ((gVal c L s)) (gV4 c L s)).2)) (mRS_RS _ _ _ _) ?_
  exact J_iret (ty := .int) dX8_readVersion_44 rfl (rfl) ⟨(by rfl), (by rfl)⟩

theorem dX8_readSeries_0 : decode cX8_readSeries 0 = .ok (.aload_n 0, 1) := by decide +kernel
theorem dX8_readSeries_1 : decode cX8_readSeries 1 = .ok (.invokevirtual 109, 3) := by decide +kernel
set_option maxRecDepth 20000 in
theorem ggX8_readSeries_X8_readNumber : GoodIn wsX8_readSeries wsX8_readNumber := goodIn_ca (goodIn_r _ [10, 11, 2, 12, 13, 14, 15, 9, 16, 17, 18, 19, 20, 21, 22, 23, 24, 25, 26, 40, 41, 42, 43, 44, 45, 46, 47, 48, 49, 50, 51, 52, 53, 54, 55, 56, 57, 58, 59, 60, 61, 62, 63, 64, 65, 66, 67, 68, 69, 70] (by decide +kernel) (by decide +kernel)) (goodIn_sub (fun _ h => List.mem_cons_of_mem _ (List.mem_append_right _ h)) (by decide +kernel))
set_option maxRecDepth 20000 in
theorem gX8_readSeries_X8_readNumber : GoodIn wsX8_readSeries (wsV RX8 109 RX8 yX8_readNumber wsX8_readNumber) := goodIn_app (goodIn_of _ (by decide +kernel)) ggX8_readSeries_X8_readNumber
theorem dX8_readSeries_4 : decode cX8_readSeries 4 = .ok (.ldc 115, 2) := by decide +kernel
theorem dX8_readSeries_6 : decode cX8_readSeries 6 = .ok (.aload_n 0, 1) := by decide +kernel
theorem dX8_readSeries_7 : decode cX8_readSeries 7 = .ok (.getfield 106, 3) := by decide +kernel
theorem dX8_readSeries_10 : decode cX8_readSeries 10 = .ok (.imul, 1) := by decide +kernel
theorem dX8_readSeries_11 : decode cX8_readSeries 11 = .ok (.istore_n 1, 1) := by decide +kernel
theorem dX8_readSeries_12 : decode cX8_readSeries 12 = .ok (.aload_n 0, 1) := by decide +kernel
theorem dX8_readSeries_13 : decode cX8_readSeries 13 = .ok (.bipush 46, 2) := by decide +kernel
theorem dX8_readSeries_15 : decode cX8_readSeries 15 = .ok (.invokevirtual 116, 3) := by decide +kernel
set_option maxRecDepth 20000 in
theorem ggX8_readSeries_X8_needs : GoodIn wsX8_readSeries wsX8_needs := goodIn_ca (goodIn_r _ [30, 31, 32, 33, 9, 34, 11, 12, 17, 18, 19, 20, 21, 22, 23, 24, 25, 26, 40, 41, 42, 43, 44, 45, 46, 47, 48, 49, 50, 51, 52, 53, 54, 55, 56, 57, 58, 59, 60, 61, 62, 63, 64, 65, 66, 67, 68, 69, 70] (by decide +kernel) (by decide +kernel)) (goodIn_sub (fun _ h => List.mem_cons_of_mem _ (List.mem_append_right _ h)) (by decide +kernel))
set_option maxRecDepth 20000 in
theorem gX8_readSeries_X8_needs : GoodIn wsX8_readSeries (wsV RX8 116 RX8 yX8_needs wsX8_needs) := goodIn_app (goodIn_of _ (by decide +kernel)) ggX8_readSeries_X8_needs
theorem dX8_readSeries_18 : decode cX8_readSeries 18 = .ok (.aload_n 0, 1) := by decide +kernel
theorem dX8_readSeries_19 : decode cX8_readSeries 19 = .ok (.bipush 120, 2) := by decide +kernel
theorem dX8_readSeries_21 : decode cX8_readSeries 21 = .ok (.invokevirtual 95, 3) := by decide +kernel
set_option maxRecDepth 20000 in
theorem ggX8_readSeries_X8_isHere : GoodIn wsX8_readSeries wsX8_isHere := goodIn_ca (goodIn_r _ [34, 11, 12, 17, 18, 19, 9, 20, 21, 22, 40, 41, 42, 43, 44, 45, 46, 47, 48, 49, 50, 51, 52, 53, 54, 55, 56, 57, 58, 59, 60, 61, 62, 63, 64, 65, 66, 67, 68, 69, 70] (by decide +kernel) (by decide +kernel)) (goodIn_sub (fun _ h => List.mem_cons_of_mem _ (List.mem_append_right _ h)) (by decide +kernel))
set_option maxRecDepth 20000 in
theorem gX8_readSeries_X8_isHere : GoodIn wsX8_readSeries (wsV RX8 95 RX8 yX8_isHere wsX8_isHere) := goodIn_app (goodIn_of _ (by decide +kernel)) ggX8_readSeries_X8_isHere
theorem dX8_readSeries_24 : decode cX8_readSeries 24 = .ok (.ifCond .eq 17, 3) := by decide +kernel
theorem dX8_readSeries_41 : decode cX8_readSeries 41 = .ok (.aload_n 0, 1) := by decide +kernel
theorem dX8_readSeries_42 : decode cX8_readSeries 42 = .ok (.invokevirtual 109, 3) := by decide +kernel
theorem dX8_readSeries_45 : decode cX8_readSeries 45 = .ok (.iload_n 1, 1) := by decide +kernel
theorem dX8_readSeries_46 : decode cX8_readSeries 46 = .ok (.sipush 10000, 3) := by decide +kernel
theorem dX8_readSeries_49 : decode cX8_readSeries 49 = .ok (.aload_n 0, 1) := by decide +kernel
theorem dX8_readSeries_50 : decode cX8_readSeries 50 = .ok (.getfield 106, 3) := by decide +kernel
theorem dX8_readSeries_53 : decode cX8_readSeries 53 = .ok (.imul, 1) := by decide +kernel
theorem dX8_readSeries_54 : decode cX8_readSeries 54 = .ok (.iadd, 1) := by decide +kernel
theorem dX8_readSeries_55 : decode cX8_readSeries 55 = .ok (.istore_n 1, 1) := by decide +kernel
theorem dX8_readSeries_56 : decode cX8_readSeries 56 = .ok (.aload_n 0, 1) := by decide +kernel
theorem dX8_readSeries_57 : decode cX8_readSeries 57 = .ok (.bipush 46, 2) := by decide +kernel
theorem dX8_readSeries_59 : decode cX8_readSeries 59 = .ok (.invokevirtual 116, 3) := by decide +kernel
theorem dX8_readSeries_62 : decode cX8_readSeries 62 = .ok (.aload_n 0, 1) := by decide +kernel
theorem dX8_readSeries_63 : decode cX8_readSeries 63 = .ok (.bipush 120, 2) := by decide +kernel
theorem dX8_readSeries_65 : decode cX8_readSeries 65 = .ok (.invokevirtual 95, 3) := by decide +kernel
theorem dX8_readSeries_68 : decode cX8_readSeries 68 = .ok (.ifCond .eq 18, 3) := by decide +kernel
theorem dX8_readSeries_86 : decode cX8_readSeries 86 = .ok (.aload_n 0, 1) := by decide +kernel
theorem dX8_readSeries_87 : decode cX8_readSeries 87 = .ok (.aload_n 0, 1) := by decide +kernel
theorem dX8_readSeries_88 : decode cX8_readSeries 88 = .ok (.iload_n 1, 1) := by decide +kernel
theorem dX8_readSeries_89 : decode cX8_readSeries 89 = .ok (.invokevirtual 120, 3) := by decide +kernel
set_option maxRecDepth 20000 in
theorem ggX8_readSeries_X8_readPatch : GoodIn wsX8_readSeries wsX8_readPatch := goodIn_ca (goodIn_r _ [38, 2, 39, 6, 7, 8, 9, 10, 11, 12, 13, 14, 15, 16, 17, 18, 19, 20, 21, 22, 23, 24, 25, 26, 31, 32, 33, 34, 40, 41, 42, 43, 44, 45, 46, 47, 48, 49, 50, 51, 52, 53, 54, 55, 56, 57, 58, 59, 60, 61, 62, 63, 64, 65, 66, 67, 68, 69, 70] (by decide +kernel) (by decide +kernel)) (goodIn_sub (fun _ h => List.mem_cons_of_mem _ (List.mem_append_right _ h)) (by decide +kernel))
set_option maxRecDepth 20000 in
theorem gX8_readSeries_X8_readPatch : GoodIn wsX8_readSeries (wsV RX8 120 RX8 yX8_readPatch wsX8_readPatch) := goodIn_app (goodIn_of _ (by decide +kernel)) ggX8_readSeries_X8_readPatch
theorem dX8_readSeries_92 : decode cX8_readSeries 92 = .ok (.putfield 124, 3) := by decide +kernel
theorem dX8_readSeries_95 : decode cX8_readSeries 95 = .ok (.aload_n 0, 1) := by decide +kernel
theorem dX8_readSeries_96 : decode cX8_readSeries 96 = .ok (.aload_n 0, 1) := by decide +kernel
theorem dX8_readSeries_97 : decode cX8_readSeries 97 = .ok (.getfield 124, 3) := by decide +kernel
theorem dX8_readSeries_100 : decode cX8_readSeries 100 = .ok (.putfield 128, 3) := by decide +kernel
theorem dX8_readSeries_103 : decode cX8_readSeries 103 = .ok (.return_, 1) := by decide +kernel
theorem dX8_readSeries_71 : decode cX8_readSeries 71 = .ok (.aload_n 0, 1) := by decide +kernel
theorem dX8_readSeries_72 : decode cX8_readSeries 72 = .ok (.iload_n 1, 1) := by decide +kernel
theorem dX8_readSeries_73 : decode cX8_readSeries 73 = .ok (.putfield 124, 3) := by decide +kernel
theorem dX8_readSeries_76 : decode cX8_readSeries 76 = .ok (.aload_n 0, 1) := by decide +kernel
theorem dX8_readSeries_77 : decode cX8_readSeries 77 = .ok (.iload_n 1, 1) := by decide +kernel
theorem dX8_readSeries_78 : decode cX8_readSeries 78 = .ok (.sipush 9999, 3) := by decide +kernel
theorem dX8_readSeries_81 : decode cX8_readSeries 81 = .ok (.iadd, 1) := by decide +kernel
theorem dX8_readSeries_82 : decode cX8_readSeries 82 = .ok (.putfield 128, 3) := by decide +kernel
theorem dX8_readSeries_85 : decode cX8_readSeries 85 = .ok (.return_, 1) := by decide +kernel
theorem dX8_readSeries_27 : decode cX8_readSeries 27 = .ok (.aload_n 0, 1) := by decide +kernel
theorem dX8_readSeries_28 : decode cX8_readSeries 28 = .ok (.iload_n 1, 1) := by decide +kernel
theorem dX8_readSeries_29 : decode cX8_readSeries 29 = .ok (.putfield 124, 3) := by decide +kernel
theorem dX8_readSeries_32 : decode cX8_readSeries 32 = .ok (.aload_n 0, 1) := by decide +kernel
theorem dX8_readSeries_33 : decode cX8_readSeries 33 = .ok (.iload_n 1, 1) := by decide +kernel
theorem dX8_readSeries_34 : decode cX8_readSeries 34 = .ok (.ldc 127, 2) := by decide +kernel
theorem dX8_readSeries_36 : decode cX8_readSeries 36 = .ok (.iadd, 1) := by decide +kernel
theorem dX8_readSeries_37 : decode cX8_readSeries 37 = .ok (.putfield 128, 3) := by decide +kernel
theorem dX8_readSeries_40 : decode cX8_readSeries 40 = .ok (.return_, 1) := by decide +kernel
set_option maxHeartbeats 400000 in
set_option maxRecDepth 20000 in
theorem ct_X8_readSeries (l : Launch) (D : va_G) (dA : Nat → ClassId) (hst : l.stackTraces = false) (M : jM) (m : Nat) (c : Nat → Int32) (L : Nat) (s : gS) (hS : mRd M m c L s) : jCT l D dA yX8_readSeries wsX8_readSeries (24) (540) (0) (0) 0 [.ref (m)] M (jPo (oV) (mRS M m (gSer c L s))) := by
  refine jBody (cc := cX8_readSeries) (nL := 2) (rt := none) (ini := false) (by decide) rfl hst (Nat.le_of_ble_eq_true rfl) (by simp [Value.category]) (by intro h9; first | exact absurd h9 (by decide) | rfl) ?_
  show J l D dA RX8 cX8_readSeries wsX8_readSeries 2 false none [] (24) (540) (jF D dA (jn M) (jPo (oV) (mRS M m (gSer c L s))) 0) (jn M) (0) (0) (M) 0 [.ref (m), .float 0] []
  obtain ⟨hM, hL6, hL60, hbuf, hple, -⟩ := id hS
  obtain ⟨m1, m2, ⟨r1, r2, r3, r4, r5, r6, r7, r8, r9, r10, r11, r12, r13⟩, ⟨k1, k2, k3, k4, k5, k6, k7, k8, k9, k10, k11, k12, k13⟩, z1, z2, z3, z4, z5, z6, z7, z8, z9, z10, z11, z12, z13⟩ := id hM
  refine J_mem (M' := mRS M m s) (by exact hS.self) ?_
  refine J_aload_n (m) dX8_readSeries_0 rfl rfl ?_
  refine J_callv0 (jrunV (As := []) (ct_X8_readNumber l D dA hst ((mRS M m s)) m c L s (hS.rs s (hS.le))) dX8_readSeries_1 yY_X8_readNumber gX8_readSeries_X8_readNumber rfl cs11 (show m < jn M from by omega) m2 rfl ⟨by omega, by omega⟩ ⟨Nat.zero_le _, Nat.zero_le _⟩ rfl (Nat.le_of_ble_eq_true rfl)) (rfl) (rfl) ?_
  refine J_mem (M' := mRS M m (gNum c L s)) (mRS_RS _ _ _ _) ?_
  refine J_ldc (x := 1000000) dX8_readSeries_4 (List.mem_of_getElem? (i := 1) rfl) ?_
  refine J_aload_n (m) dX8_readSeries_6 rfl rfl ?_
  refine J_geti (j := 18) dX8_readSeries_7 (fun _ h => List.mem_cons_of_mem _ (List.mem_append_left _ (List.mem_append_right _ (h)))) cs11 (by decide) rfl (List.mem_of_getElem? (i := 2) rfl) rfl (show m < jn M from by omega) m2 ?_
  refine J_topi (y := ((gNum c L s).2.2.2.1)) ((hS.rs (gNum c L s) (gNum_le (hS.rs s (hS.le)).le)).f18) ?_
  refine J_imul dX8_readSeries_10 ?_
  refine J_istore_n (lv' := [.ref (m), .int ((1000000) * ((gNum c L s).2.2.2.1))]) dX8_readSeries_11 rfl (by decide) rfl rfl ?_
  refine J_aload_n (m) dX8_readSeries_12 rfl rfl ?_
  refine J_bipush (x := 46) dX8_readSeries_13 (by decide) ?_
  refine J_callv0 (jrunV (As := [.int (46)]) (ct_X8_needs l D dA hst ((mRS M m (gNum c L s))) m c L (gNum c L s) (hS.rs (gNum c L s) (gNum_le (hS.rs s (hS.le)).le)) ((46)) (by decide)) dX8_readSeries_15 yY_X8_needs gX8_readSeries_X8_needs rfl cs11 (show m < jn M from by omega) m2 rfl ⟨by omega, by omega⟩ ⟨Nat.zero_le _, Nat.zero_le _⟩ rfl (Nat.le_of_ble_eq_true rfl)) (rfl) (rfl) ?_
  refine J_mem (M' := mRS M m (gNeed c L ((46)) (gNum c L s))) (mRS_RS _ _ _ _) ?_
  refine J_mem (M' := mRS M m (gV2 c L s)) (by rfl) ?_
  refine J_aload_n (m) dX8_readSeries_18 rfl rfl ?_
  refine J_bipush (x := 120) dX8_readSeries_19 (by decide) ?_
  refine J_calli0 (jrunV (As := [.int (120)]) (ct_X8_isHere l D dA hst ((mRS M m (gV2 c L s))) m c L (gV2 c L s) (hS.rs (gV2 c L s) (gV2_le hple)) ((120)) (by decide)) dX8_readSeries_21 yY_X8_isHere gX8_readSeries_X8_isHere rfl cs11 (show m < jn M from by omega) m2 rfl ⟨by omega, by omega⟩ ⟨Nat.zero_le _, Nat.zero_le _⟩ rfl (Nat.le_of_ble_eq_true rfl)) (rfl) (rfl) ?_
  refine J_mem (M' := mRS M m (gTk c L ((120)) (gV2 c L s))) (mRS_RS _ _ _ _) ?_
  refine J_if_eq dX8_readSeries_24 (tgt := 41) (by decide) (fun c24 => ?_) (fun c24 => ?_)
  · have c24 := jb0T c24
    refine J_mem (M' := mRS M m (gV2 c L s)) (by exact congrArg (mRS M m) (gTk_f c24)) ?_
    refine J_aload_n (m) dX8_readSeries_41 rfl rfl ?_
    refine J_callv0 (jrunV (As := []) (ct_X8_readNumber l D dA hst ((mRS M m (gV2 c L s))) m c L (gV2 c L s) (hS.rs (gV2 c L s) (gV2_le hple))) dX8_readSeries_42 yY_X8_readNumber gX8_readSeries_X8_readNumber rfl cs11 (show m < jn M from by omega) m2 rfl ⟨by omega, by omega⟩ ⟨Nat.zero_le _, Nat.zero_le _⟩ rfl (Nat.le_of_ble_eq_true rfl)) (rfl) (rfl) ?_
    refine J_mem (M' := mRS M m (gNum c L (gV2 c L s))) (mRS_RS _ _ _ _) ?_
    refine J_mem (M' := mRS M m (gV3 c L s)) (by rfl) ?_
    refine J_iload_n dX8_readSeries_45 rfl rfl ?_
    refine J_sipush (x := 10000) dX8_readSeries_46 (by decide) ?_
    refine J_aload_n (m) dX8_readSeries_49 rfl rfl ?_
    refine J_geti (j := 18) dX8_readSeries_50 (fun _ h => List.mem_cons_of_mem _ (List.mem_append_left _ (List.mem_append_right _ (h)))) cs11 (by decide) rfl (List.mem_of_getElem? (i := 2) rfl) rfl (show m < jn M from by omega) m2 ?_
    refine J_topi (y := ((gV3 c L s).2.2.2.1)) ((hS.rs (gV3 c L s) (gV3_le hple)).f18) ?_
    refine J_imul dX8_readSeries_53 ?_
    refine J_iadd dX8_readSeries_54 ?_
    refine J_topi (y := (gVal c L s)) (by rfl) ?_
    refine J_istore_n (lv' := [.ref (m), .int (gVal c L s)]) dX8_readSeries_55 rfl (by decide) rfl rfl ?_
    refine J_aload_n (m) dX8_readSeries_56 rfl rfl ?_
    refine J_bipush (x := 46) dX8_readSeries_57 (by decide) ?_
    refine J_callv0 (jrunV (As := [.int (46)]) (ct_X8_needs l D dA hst ((mRS M m (gV3 c L s))) m c L (gV3 c L s) (hS.rs (gV3 c L s) (gV3_le hple)) ((46)) (by decide)) dX8_readSeries_59 yY_X8_needs gX8_readSeries_X8_needs rfl cs11 (show m < jn M from by omega) m2 rfl ⟨by omega, by omega⟩ ⟨Nat.zero_le _, Nat.zero_le _⟩ rfl (Nat.le_of_ble_eq_true rfl)) (rfl) (rfl) ?_
    refine J_mem (M' := mRS M m (gNeed c L ((46)) (gV3 c L s))) (mRS_RS _ _ _ _) ?_
    refine J_mem (M' := mRS M m (gV4 c L s)) (by rfl) ?_
    refine J_aload_n (m) dX8_readSeries_62 rfl rfl ?_
    refine J_bipush (x := 120) dX8_readSeries_63 (by decide) ?_
    refine J_calli0 (jrunV (As := [.int (120)]) (ct_X8_isHere l D dA hst ((mRS M m (gV4 c L s))) m c L (gV4 c L s) (hS.rs (gV4 c L s) (gV4_le hple)) ((120)) (by decide)) dX8_readSeries_65 yY_X8_isHere gX8_readSeries_X8_isHere rfl cs11 (show m < jn M from by omega) m2 rfl ⟨by omega, by omega⟩ ⟨Nat.zero_le _, Nat.zero_le _⟩ rfl (Nat.le_of_ble_eq_true rfl)) (rfl) (rfl) ?_
    refine J_mem (M' := mRS M m (gTk c L ((120)) (gV4 c L s))) (mRS_RS _ _ _ _) ?_
    refine J_if_eq dX8_readSeries_68 (tgt := 86) (by decide) (fun c68 => ?_) (fun c68 => ?_)
    · have c68 := jb0T c68
      refine J_mem (M' := mRS M m (gV4 c L s)) (by exact congrArg (mRS M m) (gTk_f c68)) ?_
      refine J_aload_n (m) dX8_readSeries_86 rfl rfl ?_
      refine J_aload_n (m) dX8_readSeries_87 rfl rfl ?_
      refine J_iload_n dX8_readSeries_88 rfl rfl ?_
      refine J_calli0 (jrunV (As := [.int (gVal c L s)]) (ct_X8_readPatch l D dA hst ((mRS M m (gV4 c L s))) m c L (gV4 c L s) (hS.rs (gV4 c L s) (gV4_le hple)) ((gVal c L s))) dX8_readSeries_89 yY_X8_readPatch gX8_readSeries_X8_readPatch rfl cs11 (show m < jn M from by omega) m2 rfl ⟨by omega, by omega⟩ ⟨Nat.zero_le _, Nat.zero_le _⟩ rfl (Nat.le_of_ble_eq_true rfl)) (rfl) (rfl) ?_
      refine J_mem (M' := mRS M m ((gPat c L ((gVal c L s)) (gV4 c L s)).2)) (mRS_RS _ _ _ _) ?_
      refine J_puti (j := 19) (x := ((gPat c L ((gVal c L s)) (gV4 c L s)).1)) dX8_readSeries_92 (fun _ h => List.mem_cons_of_mem _ (List.mem_append_left _ (List.mem_append_right _ (h)))) cs11 cty11 (by decide) rfl (List.mem_of_getElem? (i := 3) rfl) rfl rfl ⟨rfl, rfl⟩ (show m < jn M from by omega) m2 ?_
      refine J_mem (M' := mRS M m (gLo (gVer c L s).2 (gVer c L s).1)) (by exact mRS_19 _ _ _ _) ?_
      refine J_aload_n (m) dX8_readSeries_95 rfl rfl ?_
      refine J_aload_n (m) dX8_readSeries_96 rfl rfl ?_
      refine J_geti (j := 19) dX8_readSeries_97 (fun _ h => List.mem_cons_of_mem _ (List.mem_append_left _ (List.mem_append_right _ (h)))) cs11 (by decide) rfl (List.mem_of_getElem? (i := 3) rfl) rfl (show m < jn M from by omega) m2 ?_
      refine J_topi (y := ((gLo (gVer c L s).2 (gVer c L s).1).2.2.2.2.1)) ((hS.rs (gLo (gVer c L s).2 (gVer c L s).1) (gVer_le hple)).f19) ?_
      refine J_puti (j := 20) (x := ((gLo (gVer c L s).2 (gVer c L s).1).2.2.2.2.1)) dX8_readSeries_100 (fun _ h => List.mem_cons_of_mem _ (List.mem_append_left _ (List.mem_append_right _ (h)))) cs11 cty11 (by decide) rfl (List.mem_of_getElem? (i := 5) rfl) rfl rfl ⟨rfl, rfl⟩ (show m < jn M from by omega) m2 ?_
      refine J_mem (M' := mRS M m (gHi (gLo (gVer c L s).2 (gVer c L s).1) (gVer c L s).1)) (by exact mRS_20 _ _ _ _) ?_
      exact J_vret dX8_readSeries_103 rfl ⟨(by rfl), (by unfold gSer; rw [if_neg (by rw [c24]; decide), if_neg (by rw [c68]; decide)])⟩
    · have c68 := jb0F c68
      refine J_aload_n (m) dX8_readSeries_71 rfl rfl ?_
      refine J_iload_n dX8_readSeries_72 rfl rfl ?_
      refine J_puti (j := 19) (x := (gVal c L s)) dX8_readSeries_73 (fun _ h => List.mem_cons_of_mem _ (List.mem_append_left _ (List.mem_append_right _ (h)))) cs11 cty11 (by decide) rfl (List.mem_of_getElem? (i := 3) rfl) rfl rfl ⟨rfl, rfl⟩ (show m < jn M from by omega) m2 ?_
      refine J_mem (M' := mRS M m (gLo (gTk c L 120 (gV4 c L s)) (gVal c L s))) (by exact mRS_19 _ _ _ _) ?_
      refine J_aload_n (m) dX8_readSeries_76 rfl rfl ?_
      refine J_iload_n dX8_readSeries_77 rfl rfl ?_
      refine J_sipush (x := 9999) dX8_readSeries_78 (by decide) ?_
      refine J_iadd dX8_readSeries_81 ?_
      refine J_puti (j := 20) (x := ((gVal c L s) + (9999))) dX8_readSeries_82 (fun _ h => List.mem_cons_of_mem _ (List.mem_append_left _ (List.mem_append_right _ (h)))) cs11 cty11 (by decide) rfl (List.mem_of_getElem? (i := 5) rfl) rfl rfl ⟨rfl, rfl⟩ (show m < jn M from by omega) m2 ?_
      refine J_mem (M' := mRS M m (gHi (gLo (gTk c L 120 (gV4 c L s)) (gVal c L s)) (gVal c L s + 9999))) (by exact mRS_20 _ _ _ _) ?_
      exact J_vret dX8_readSeries_85 rfl ⟨(by rfl), (by unfold gSer; rw [if_neg (by rw [c24]; decide), if_pos c68])⟩
  · have c24 := jb0F c24
    refine J_aload_n (m) dX8_readSeries_27 rfl rfl ?_
    refine J_iload_n dX8_readSeries_28 rfl rfl ?_
    refine J_puti (j := 19) (x := ((1000000) * ((gNum c L s).2.2.2.1))) dX8_readSeries_29 (fun _ h => List.mem_cons_of_mem _ (List.mem_append_left _ (List.mem_append_right _ (h)))) cs11 cty11 (by decide) rfl (List.mem_of_getElem? (i := 3) rfl) rfl rfl ⟨rfl, rfl⟩ (show m < jn M from by omega) m2 ?_
    refine J_mem (M' := mRS M m (gLo (gTk c L 120 (gV2 c L s)) (1000000 * (gNum c L s).2.2.2.1))) (by exact mRS_19 _ _ _ _) ?_
    refine J_aload_n (m) dX8_readSeries_32 rfl rfl ?_
    refine J_iload_n dX8_readSeries_33 rfl rfl ?_
    refine J_ldc (x := 999999) dX8_readSeries_34 (List.mem_of_getElem? (i := 4) rfl) ?_
    refine J_iadd dX8_readSeries_36 ?_
    refine J_puti (j := 20) (x := (((1000000) * ((gNum c L s).2.2.2.1)) + (999999))) dX8_readSeries_37 (fun _ h => List.mem_cons_of_mem _ (List.mem_append_left _ (List.mem_append_right _ (h)))) cs11 cty11 (by decide) rfl (List.mem_of_getElem? (i := 5) rfl) rfl rfl ⟨rfl, rfl⟩ (show m < jn M from by omega) m2 ?_
    refine J_mem (M' := mRS M m (gHi (gLo (gTk c L 120 (gV2 c L s)) (1000000 * (gNum c L s).2.2.2.1)) (1000000 * (gNum c L s).2.2.2.1 + 999999))) (by exact mRS_20 _ _ _ _) ?_
    exact J_vret dX8_readSeries_40 rfl ⟨(by rfl), (by unfold gSer; rw [if_pos c24])⟩

set_option maxHeartbeats 400000 in
set_option maxRecDepth 20000 in
theorem ct_X8_behindI (l : Launch) (D : va_G) (dA : Nat → ClassId) (hst : l.stackTraces = false) (M : jM) (x : Int32) (b : Bool) : jCT l D dA yX8_behind wsX8_behind (20) (300) (0) (0) 1 [.int (x), .int (jb (b))] M (jPo (oI (bhI x b)) (M)) := by
  refine jBody (cc := cX8_behind) (nL := 5) (rt := (some .int)) (ini := false) (by decide) rfl hst (Nat.le_of_ble_eq_true rfl) (by simp [Value.category]) (by intro h9; first | exact absurd h9 (by decide) | rfl) ?_
  show J l D dA RX8 cX8_behind wsX8_behind 5 false (some .int) [] (20) (300) (jF D dA (jn M) (jPo (oI (bhI x b)) (M)) 1) (jn M) (0) (0) (M) 0 [.int (x), .int (jb (b)), .float 0, .float 0, .float 0] []
  refine J_iload_n dX8_behind_0 rfl rfl ?_
  refine J_bipush (x := 100) dX8_behind_1 (by decide) ?_
  refine J_idiv dX8_behind_3 (by decide) ?_
  refine J_istore_n (lv' := [.int (x), .int (jb (b)), .int ((x) / (100)), .float 0, .float 0]) dX8_behind_4 rfl (by decide) rfl rfl ?_
  refine J_iload_n dX8_behind_5 rfl rfl ?_
  refine J_if_ne dX8_behind_6 (tgt := 14) (by decide) (fun c6 => ?_) (fun c6 => ?_)
  · have c6 := jb0F c6
    refine J_iload_n dX8_behind_14 rfl rfl ?_
    refine J_sipush (x := 10000) dX8_behind_15 (by decide) ?_
    refine J_icmp_lt dX8_behind_18 (tgt := 27) (by decide) (fun c18 => ?_) (fun c18 => ?_)
    · refine J_iload_n dX8_behind_27 rfl rfl ?_
      refine J_bipush (x := 100) dX8_behind_28 (by decide) ?_
      refine J_icmp_lt dX8_behind_30 (tgt := 38) (by decide) (fun c30 => ?_) (fun c30 => ?_)
      · refine J_iconst (x := 1) dX8_behind_38 (by decide) ?_
        refine J_istore_n (lv' := [.int (x), .int (jb (b)), .int ((x) / (100)), .int (1), .float 0]) dX8_behind_39 rfl (by decide) rfl rfl ?_
        refine J_iload_n dX8_behind_40 rfl rfl ?_
        refine J_iload_n dX8_behind_41 rfl rfl ?_
        refine J_idiv dX8_behind_42 (by decide) ?_
        refine J_iconst (x := 1) dX8_behind_43 (by decide) ?_
        refine J_iadd dX8_behind_44 ?_
        refine J_iload_n dX8_behind_45 rfl rfl ?_
        refine J_imul dX8_behind_46 ?_
        refine J_bipush (x := 100) dX8_behind_47 (by decide) ?_
        refine J_imul dX8_behind_49 ?_
        refine J_istore (lv' := [.int (x), .int (jb (b)), .int ((x) / (100)), .int (1), .int ((((((x) / (100)) / (1)) + (1)) * (1)) * (100))]) dX8_behind_50 (by decide) rfl rfl ?_
        refine J_iload dX8_behind_52 rfl ?_
        refine J_ldc (x := 99999999) dX8_behind_54 (List.mem_of_getElem? (i := 1) rfl) ?_
        refine J_icmp_le dX8_behind_56 (tgt := 64) (by decide) (fun c56 => ?_) (fun c56 => ?_)
        · refine J_iload dX8_behind_64 rfl ?_
          exact J_iret (ty := .int) dX8_behind_66 rfl (rfl) ⟨(by subst c6; unfold bhI; first | (rw [if_neg (by decide)]; unfold bhC; first | (rw [if_pos c56]; done) | (rw [if_neg c56]; done)) | (rw [if_pos rfl, if_neg c18]; unfold bhC; first | (rw [if_pos c56]; done) | (rw [if_neg c56]; done)) | (rw [if_pos rfl, if_pos c18, if_neg c30]; unfold bhC; first | (rw [if_pos c56]; done) | (rw [if_neg c56]; done)) | (rw [if_pos rfl, if_pos c18, if_pos c30]; unfold bhC; first | (rw [if_pos c56]; done) | (rw [if_neg c56]; done)) | fail "bh"), (by rfl)⟩
        · refine J_ldc (x := 100000000) dX8_behind_59 (List.mem_of_getElem? (i := 2) rfl) ?_
          refine J_goto (tgt := 66) dX8_behind_61 (by decide) ?_
          exact J_iret (ty := .int) dX8_behind_66 rfl (rfl) ⟨(by subst c6; unfold bhI; first | (rw [if_neg (by decide)]; unfold bhC; first | (rw [if_pos c56]; done) | (rw [if_neg c56]; done)) | (rw [if_pos rfl, if_neg c18]; unfold bhC; first | (rw [if_pos c56]; done) | (rw [if_neg c56]; done)) | (rw [if_pos rfl, if_pos c18, if_neg c30]; unfold bhC; first | (rw [if_pos c56]; done) | (rw [if_neg c56]; done)) | (rw [if_pos rfl, if_pos c18, if_pos c30]; unfold bhC; first | (rw [if_pos c56]; done) | (rw [if_neg c56]; done)) | fail "bh"), (by rfl)⟩
      · refine J_bipush (x := 100) dX8_behind_33 (by decide) ?_
        refine J_goto (tgt := 39) dX8_behind_35 (by decide) ?_
        refine J_istore_n (lv' := [.int (x), .int (jb (b)), .int ((x) / (100)), .int (100), .float 0]) dX8_behind_39 rfl (by decide) rfl rfl ?_
        refine J_iload_n dX8_behind_40 rfl rfl ?_
        refine J_iload_n dX8_behind_41 rfl rfl ?_
        refine J_idiv dX8_behind_42 (by decide) ?_
        refine J_iconst (x := 1) dX8_behind_43 (by decide) ?_
        refine J_iadd dX8_behind_44 ?_
        refine J_iload_n dX8_behind_45 rfl rfl ?_
        refine J_imul dX8_behind_46 ?_
        refine J_bipush (x := 100) dX8_behind_47 (by decide) ?_
        refine J_imul dX8_behind_49 ?_
        refine J_istore (lv' := [.int (x), .int (jb (b)), .int ((x) / (100)), .int (100), .int ((((((x) / (100)) / (100)) + (1)) * (100)) * (100))]) dX8_behind_50 (by decide) rfl rfl ?_
        refine J_iload dX8_behind_52 rfl ?_
        refine J_ldc (x := 99999999) dX8_behind_54 (List.mem_of_getElem? (i := 1) rfl) ?_
        refine J_icmp_le dX8_behind_56 (tgt := 64) (by decide) (fun c56 => ?_) (fun c56 => ?_)
        · refine J_iload dX8_behind_64 rfl ?_
          exact J_iret (ty := .int) dX8_behind_66 rfl (rfl) ⟨(by subst c6; unfold bhI; first | (rw [if_neg (by decide)]; unfold bhC; first | (rw [if_pos c56]; done) | (rw [if_neg c56]; done)) | (rw [if_pos rfl, if_neg c18]; unfold bhC; first | (rw [if_pos c56]; done) | (rw [if_neg c56]; done)) | (rw [if_pos rfl, if_pos c18, if_neg c30]; unfold bhC; first | (rw [if_pos c56]; done) | (rw [if_neg c56]; done)) | (rw [if_pos rfl, if_pos c18, if_pos c30]; unfold bhC; first | (rw [if_pos c56]; done) | (rw [if_neg c56]; done)) | fail "bh"), (by rfl)⟩
        · refine J_ldc (x := 100000000) dX8_behind_59 (List.mem_of_getElem? (i := 2) rfl) ?_
          refine J_goto (tgt := 66) dX8_behind_61 (by decide) ?_
          exact J_iret (ty := .int) dX8_behind_66 rfl (rfl) ⟨(by subst c6; unfold bhI; first | (rw [if_neg (by decide)]; unfold bhC; first | (rw [if_pos c56]; done) | (rw [if_neg c56]; done)) | (rw [if_pos rfl, if_neg c18]; unfold bhC; first | (rw [if_pos c56]; done) | (rw [if_neg c56]; done)) | (rw [if_pos rfl, if_pos c18, if_neg c30]; unfold bhC; first | (rw [if_pos c56]; done) | (rw [if_neg c56]; done)) | (rw [if_pos rfl, if_pos c18, if_pos c30]; unfold bhC; first | (rw [if_pos c56]; done) | (rw [if_neg c56]; done)) | fail "bh"), (by rfl)⟩
    · refine J_sipush (x := 10000) dX8_behind_21 (by decide) ?_
      refine J_goto (tgt := 39) dX8_behind_24 (by decide) ?_
      refine J_istore_n (lv' := [.int (x), .int (jb (b)), .int ((x) / (100)), .int (10000), .float 0]) dX8_behind_39 rfl (by decide) rfl rfl ?_
      refine J_iload_n dX8_behind_40 rfl rfl ?_
      refine J_iload_n dX8_behind_41 rfl rfl ?_
      refine J_idiv dX8_behind_42 (by decide) ?_
      refine J_iconst (x := 1) dX8_behind_43 (by decide) ?_
      refine J_iadd dX8_behind_44 ?_
      refine J_iload_n dX8_behind_45 rfl rfl ?_
      refine J_imul dX8_behind_46 ?_
      refine J_bipush (x := 100) dX8_behind_47 (by decide) ?_
      refine J_imul dX8_behind_49 ?_
      refine J_istore (lv' := [.int (x), .int (jb (b)), .int ((x) / (100)), .int (10000), .int ((((((x) / (100)) / (10000)) + (1)) * (10000)) * (100))]) dX8_behind_50 (by decide) rfl rfl ?_
      refine J_iload dX8_behind_52 rfl ?_
      refine J_ldc (x := 99999999) dX8_behind_54 (List.mem_of_getElem? (i := 1) rfl) ?_
      refine J_icmp_le dX8_behind_56 (tgt := 64) (by decide) (fun c56 => ?_) (fun c56 => ?_)
      · refine J_iload dX8_behind_64 rfl ?_
        exact J_iret (ty := .int) dX8_behind_66 rfl (rfl) ⟨(by subst c6; unfold bhI; first | (rw [if_neg (by decide)]; unfold bhC; first | (rw [if_pos c56]; done) | (rw [if_neg c56]; done)) | (rw [if_pos rfl, if_neg c18]; unfold bhC; first | (rw [if_pos c56]; done) | (rw [if_neg c56]; done)) | (rw [if_pos rfl, if_pos c18, if_neg c30]; unfold bhC; first | (rw [if_pos c56]; done) | (rw [if_neg c56]; done)) | (rw [if_pos rfl, if_pos c18, if_pos c30]; unfold bhC; first | (rw [if_pos c56]; done) | (rw [if_neg c56]; done)) | fail "bh"), (by rfl)⟩
      · refine J_ldc (x := 100000000) dX8_behind_59 (List.mem_of_getElem? (i := 2) rfl) ?_
        refine J_goto (tgt := 66) dX8_behind_61 (by decide) ?_
        exact J_iret (ty := .int) dX8_behind_66 rfl (rfl) ⟨(by subst c6; unfold bhI; first | (rw [if_neg (by decide)]; unfold bhC; first | (rw [if_pos c56]; done) | (rw [if_neg c56]; done)) | (rw [if_pos rfl, if_neg c18]; unfold bhC; first | (rw [if_pos c56]; done) | (rw [if_neg c56]; done)) | (rw [if_pos rfl, if_pos c18, if_neg c30]; unfold bhC; first | (rw [if_pos c56]; done) | (rw [if_neg c56]; done)) | (rw [if_pos rfl, if_pos c18, if_pos c30]; unfold bhC; first | (rw [if_pos c56]; done) | (rw [if_neg c56]; done)) | fail "bh"), (by rfl)⟩
  · have c6 := jb0T c6
    refine J_bipush (x := 100) dX8_behind_9 (by decide) ?_
    refine J_goto (tgt := 39) dX8_behind_11 (by decide) ?_
    refine J_istore_n (lv' := [.int (x), .int (jb (b)), .int ((x) / (100)), .int (100), .float 0]) dX8_behind_39 rfl (by decide) rfl rfl ?_
    refine J_iload_n dX8_behind_40 rfl rfl ?_
    refine J_iload_n dX8_behind_41 rfl rfl ?_
    refine J_idiv dX8_behind_42 (by decide) ?_
    refine J_iconst (x := 1) dX8_behind_43 (by decide) ?_
    refine J_iadd dX8_behind_44 ?_
    refine J_iload_n dX8_behind_45 rfl rfl ?_
    refine J_imul dX8_behind_46 ?_
    refine J_bipush (x := 100) dX8_behind_47 (by decide) ?_
    refine J_imul dX8_behind_49 ?_
    refine J_istore (lv' := [.int (x), .int (jb (b)), .int ((x) / (100)), .int (100), .int ((((((x) / (100)) / (100)) + (1)) * (100)) * (100))]) dX8_behind_50 (by decide) rfl rfl ?_
    refine J_iload dX8_behind_52 rfl ?_
    refine J_ldc (x := 99999999) dX8_behind_54 (List.mem_of_getElem? (i := 1) rfl) ?_
    refine J_icmp_le dX8_behind_56 (tgt := 64) (by decide) (fun c56 => ?_) (fun c56 => ?_)
    · refine J_iload dX8_behind_64 rfl ?_
      exact J_iret (ty := .int) dX8_behind_66 rfl (rfl) ⟨(by subst c6; unfold bhI; first | (rw [if_neg (by decide)]; unfold bhC; first | (rw [if_pos c56]; done) | (rw [if_neg c56]; done)) | (rw [if_pos rfl, if_neg c18]; unfold bhC; first | (rw [if_pos c56]; done) | (rw [if_neg c56]; done)) | (rw [if_pos rfl, if_pos c18, if_neg c30]; unfold bhC; first | (rw [if_pos c56]; done) | (rw [if_neg c56]; done)) | (rw [if_pos rfl, if_pos c18, if_pos c30]; unfold bhC; first | (rw [if_pos c56]; done) | (rw [if_neg c56]; done)) | fail "bh"), (by rfl)⟩
    · refine J_ldc (x := 100000000) dX8_behind_59 (List.mem_of_getElem? (i := 2) rfl) ?_
      refine J_goto (tgt := 66) dX8_behind_61 (by decide) ?_
      exact J_iret (ty := .int) dX8_behind_66 rfl (rfl) ⟨(by subst c6; unfold bhI; first | (rw [if_neg (by decide)]; unfold bhC; first | (rw [if_pos c56]; done) | (rw [if_neg c56]; done)) | (rw [if_pos rfl, if_neg c18]; unfold bhC; first | (rw [if_pos c56]; done) | (rw [if_neg c56]; done)) | (rw [if_pos rfl, if_pos c18, if_neg c30]; unfold bhC; first | (rw [if_pos c56]; done) | (rw [if_neg c56]; done)) | (rw [if_pos rfl, if_pos c18, if_pos c30]; unfold bhC; first | (rw [if_pos c56]; done) | (rw [if_neg c56]; done)) | fail "bh"), (by rfl)⟩

theorem dX8_readPart_0 : decode cX8_readPart 0 = .ok (.aload_n 0, 1) := by decide +kernel
theorem dX8_readPart_1 : decode cX8_readPart 1 = .ok (.iconst 0, 1) := by decide +kernel
theorem dX8_readPart_2 : decode cX8_readPart 2 = .ok (.putfield 124, 3) := by decide +kernel
theorem dX8_readPart_5 : decode cX8_readPart 5 = .ok (.aload_n 0, 1) := by decide +kernel
theorem dX8_readPart_6 : decode cX8_readPart 6 = .ok (.ldc 59, 2) := by decide +kernel
theorem dX8_readPart_8 : decode cX8_readPart 8 = .ok (.putfield 128, 3) := by decide +kernel
theorem dX8_readPart_11 : decode cX8_readPart 11 = .ok (.aload_n 0, 1) := by decide +kernel
theorem dX8_readPart_12 : decode cX8_readPart 12 = .ok (.bipush 42, 2) := by decide +kernel
theorem dX8_readPart_14 : decode cX8_readPart 14 = .ok (.invokevirtual 95, 3) := by decide +kernel
set_option maxRecDepth 20000 in
theorem ggX8_readPart_X8_isHere : GoodIn wsX8_readPart wsX8_isHere := goodIn_ca (goodIn_r _ [8, 9, 10, 11, 12, 13, 7, 14, 15, 16, 53, 54, 55, 56, 57, 58, 59, 60, 61, 62, 63, 64, 65, 66, 67, 68, 69, 70, 71, 72, 73, 74, 75, 76, 77, 78, 79, 80, 81, 82, 83] (by decide +kernel) (by decide +kernel)) (goodIn_sub (fun _ h => List.mem_cons_of_mem _ (List.mem_append_left _ (List.mem_append_right _ h))) (by decide +kernel))
set_option maxRecDepth 20000 in
theorem gX8_readPart_X8_isHere : GoodIn wsX8_readPart (wsV RX8 95 RX8 yX8_isHere wsX8_isHere) := goodIn_app (goodIn_of _ (by decide +kernel)) ggX8_readPart_X8_isHere
theorem dX8_readPart_17 : decode cX8_readPart 17 = .ok (.ifCond .eq 4, 3) := by decide +kernel
theorem dX8_readPart_21 : decode cX8_readPart 21 = .ok (.aload_n 0, 1) := by decide +kernel
theorem dX8_readPart_22 : decode cX8_readPart 22 = .ok (.bipush 60, 2) := by decide +kernel
theorem dX8_readPart_24 : decode cX8_readPart 24 = .ok (.invokevirtual 95, 3) := by decide +kernel
theorem dX8_readPart_27 : decode cX8_readPart 27 = .ok (.ifCond .eq 31, 3) := by decide +kernel
theorem dX8_readPart_58 : decode cX8_readPart 58 = .ok (.aload_n 0, 1) := by decide +kernel
theorem dX8_readPart_59 : decode cX8_readPart 59 = .ok (.bipush 62, 2) := by decide +kernel
theorem dX8_readPart_61 : decode cX8_readPart 61 = .ok (.invokevirtual 95, 3) := by decide +kernel
theorem dX8_readPart_64 : decode cX8_readPart 64 = .ok (.ifCond .eq 31, 3) := by decide +kernel
theorem dX8_readPart_95 : decode cX8_readPart 95 = .ok (.aload_n 0, 1) := by decide +kernel
theorem dX8_readPart_96 : decode cX8_readPart 96 = .ok (.bipush 61, 2) := by decide +kernel
theorem dX8_readPart_98 : decode cX8_readPart 98 = .ok (.invokevirtual 95, 3) := by decide +kernel
theorem dX8_readPart_101 : decode cX8_readPart 101 = .ok (.ifCond .eq 22, 3) := by decide +kernel
theorem dX8_readPart_123 : decode cX8_readPart 123 = .ok (.aload_n 0, 1) := by decide +kernel
theorem dX8_readPart_124 : decode cX8_readPart 124 = .ok (.bipush 94, 2) := by decide +kernel
theorem dX8_readPart_126 : decode cX8_readPart 126 = .ok (.invokevirtual 95, 3) := by decide +kernel
theorem dX8_readPart_129 : decode cX8_readPart 129 = .ok (.ifCond .eq 28, 3) := by decide +kernel
theorem dX8_readPart_157 : decode cX8_readPart 157 = .ok (.aload_n 0, 1) := by decide +kernel
theorem dX8_readPart_158 : decode cX8_readPart 158 = .ok (.bipush 126, 2) := by decide +kernel
theorem dX8_readPart_160 : decode cX8_readPart 160 = .ok (.invokevirtual 95, 3) := by decide +kernel
theorem dX8_readPart_163 : decode cX8_readPart 163 = .ok (.ifCond .eq 28, 3) := by decide +kernel
theorem dX8_readPart_191 : decode cX8_readPart 191 = .ok (.aload_n 0, 1) := by decide +kernel
theorem dX8_readPart_192 : decode cX8_readPart 192 = .ok (.invokevirtual 138, 3) := by decide +kernel
set_option maxRecDepth 20000 in
theorem ggX8_readPart_X8_readSeries : GoodIn wsX8_readPart wsX8_readSeries := goodIn_ca (goodIn_r _ [51, 21, 22, 1, 52, 3, 23, 24, 25, 7, 26, 9, 10, 27, 28, 29, 30, 11, 12, 13, 14, 15, 16, 31, 32, 33, 34, 35, 36, 37, 38, 4, 5, 6, 8, 39, 40, 41, 42, 43, 53, 54, 55, 56, 57, 58, 59, 60, 61, 62, 63, 64, 65, 66, 67, 68, 69, 70, 71, 72, 73, 74, 75, 76, 77, 78, 79, 80, 81, 82, 83] (by decide +kernel) (by decide +kernel)) (goodIn_sub (fun _ h => List.mem_cons_of_mem _ (List.mem_append_left _ (List.mem_append_right _ h))) (by decide +kernel))
set_option maxRecDepth 20000 in
theorem gX8_readPart_X8_readSeries : GoodIn wsX8_readPart (wsV RX8 138 RX8 yX8_readSeries wsX8_readSeries) := goodIn_app (goodIn_of _ (by decide +kernel)) ggX8_readPart_X8_readSeries
theorem yY_X8_readSeries : jY yX8_readSeries wsX8_readSeries cX8_readSeries 2 none 0 := ⟨⟨_, rfl⟩, by decide +kernel, by decide +kernel, by decide +kernel⟩
theorem dX8_readPart_195 : decode cX8_readPart 195 = .ok (.return_, 1) := by decide +kernel
theorem dX8_readPart_166 : decode cX8_readPart 166 = .ok (.aload_n 0, 1) := by decide +kernel
theorem dX8_readPart_167 : decode cX8_readPart 167 = .ok (.aload_n 0, 1) := by decide +kernel
theorem dX8_readPart_168 : decode cX8_readPart 168 = .ok (.invokevirtual 131, 3) := by decide +kernel
set_option maxRecDepth 20000 in
theorem ggX8_readPart_X8_readVersion : GoodIn wsX8_readPart wsX8_readVersion := goodIn_ca (goodIn_r _ [20, 21, 22, 23, 24, 25, 7, 26, 9, 10, 27, 28, 29, 30, 11, 12, 13, 14, 15, 16, 31, 32, 33, 34, 35, 36, 37, 38, 4, 5, 6, 8, 39, 40, 41, 42, 43, 53, 54, 55, 56, 57, 58, 59, 60, 61, 62, 63, 64, 65, 66, 67, 68, 69, 70, 71, 72, 73, 74, 75, 76, 77, 78, 79, 80, 81, 82, 83] (by decide +kernel) (by decide +kernel)) (goodIn_sub (fun _ h => List.mem_cons_of_mem _ (List.mem_append_left _ (List.mem_append_right _ h))) (by decide +kernel))
set_option maxRecDepth 20000 in
theorem gX8_readPart_X8_readVersion : GoodIn wsX8_readPart (wsV RX8 131 RX8 yX8_readVersion wsX8_readVersion) := goodIn_app (goodIn_of _ (by decide +kernel)) ggX8_readPart_X8_readVersion
theorem yY_X8_readVersion : jY yX8_readVersion wsX8_readVersion cX8_readVersion 2 (some .int) 0 := ⟨⟨_, rfl⟩, by decide +kernel, by decide +kernel, by decide +kernel⟩
theorem dX8_readPart_171 : decode cX8_readPart 171 = .ok (.putfield 124, 3) := by decide +kernel
theorem dX8_readPart_174 : decode cX8_readPart 174 = .ok (.aload_n 0, 1) := by decide +kernel
theorem dX8_readPart_175 : decode cX8_readPart 175 = .ok (.aload_n 0, 1) := by decide +kernel
theorem dX8_readPart_176 : decode cX8_readPart 176 = .ok (.getfield 124, 3) := by decide +kernel
theorem dX8_readPart_179 : decode cX8_readPart 179 = .ok (.iconst 0, 1) := by decide +kernel
theorem dX8_readPart_180 : decode cX8_readPart 180 = .ok (.invokestatic 134, 3) := by decide +kernel
set_option maxRecDepth 20000 in
theorem ggX8_readPart_X8_behind : GoodIn wsX8_readPart wsX8_behind := goodIn_ca (goodIn_r _ [46, 2, 47] (by decide +kernel) (by decide +kernel)) (goodIn_sub (fun _ h => List.mem_cons_of_mem _ (List.mem_append_right _ h)) (by decide +kernel))
set_option maxRecDepth 20000 in
theorem gX8_readPart_X8_behind : GoodIn wsX8_readPart (va_wsS RX8 134 yX8_behind wsX8_behind) := goodIn_app (goodIn_of _ (by decide +kernel)) ggX8_readPart_X8_behind
theorem dX8_readPart_183 : decode cX8_readPart 183 = .ok (.iconst 1, 1) := by decide +kernel
theorem dX8_readPart_184 : decode cX8_readPart 184 = .ok (.isub, 1) := by decide +kernel
theorem dX8_readPart_185 : decode cX8_readPart 185 = .ok (.putfield 128, 3) := by decide +kernel
theorem dX8_readPart_188 : decode cX8_readPart 188 = .ok (.goto 7, 3) := by decide +kernel
theorem dX8_readPart_132 : decode cX8_readPart 132 = .ok (.aload_n 0, 1) := by decide +kernel
theorem dX8_readPart_133 : decode cX8_readPart 133 = .ok (.aload_n 0, 1) := by decide +kernel
theorem dX8_readPart_134 : decode cX8_readPart 134 = .ok (.invokevirtual 131, 3) := by decide +kernel
theorem dX8_readPart_137 : decode cX8_readPart 137 = .ok (.putfield 124, 3) := by decide +kernel
theorem dX8_readPart_140 : decode cX8_readPart 140 = .ok (.aload_n 0, 1) := by decide +kernel
theorem dX8_readPart_141 : decode cX8_readPart 141 = .ok (.aload_n 0, 1) := by decide +kernel
theorem dX8_readPart_142 : decode cX8_readPart 142 = .ok (.getfield 124, 3) := by decide +kernel
theorem dX8_readPart_145 : decode cX8_readPart 145 = .ok (.iconst 1, 1) := by decide +kernel
theorem dX8_readPart_146 : decode cX8_readPart 146 = .ok (.invokestatic 134, 3) := by decide +kernel
theorem dX8_readPart_149 : decode cX8_readPart 149 = .ok (.iconst 1, 1) := by decide +kernel
theorem dX8_readPart_150 : decode cX8_readPart 150 = .ok (.isub, 1) := by decide +kernel
theorem dX8_readPart_151 : decode cX8_readPart 151 = .ok (.putfield 128, 3) := by decide +kernel
theorem dX8_readPart_154 : decode cX8_readPart 154 = .ok (.goto 41, 3) := by decide +kernel
theorem dX8_readPart_104 : decode cX8_readPart 104 = .ok (.aload_n 0, 1) := by decide +kernel
theorem dX8_readPart_105 : decode cX8_readPart 105 = .ok (.aload_n 0, 1) := by decide +kernel
theorem dX8_readPart_106 : decode cX8_readPart 106 = .ok (.invokevirtual 131, 3) := by decide +kernel
theorem dX8_readPart_109 : decode cX8_readPart 109 = .ok (.putfield 124, 3) := by decide +kernel
theorem dX8_readPart_112 : decode cX8_readPart 112 = .ok (.aload_n 0, 1) := by decide +kernel
theorem dX8_readPart_113 : decode cX8_readPart 113 = .ok (.aload_n 0, 1) := by decide +kernel
theorem dX8_readPart_114 : decode cX8_readPart 114 = .ok (.getfield 124, 3) := by decide +kernel
theorem dX8_readPart_117 : decode cX8_readPart 117 = .ok (.putfield 128, 3) := by decide +kernel
theorem dX8_readPart_120 : decode cX8_readPart 120 = .ok (.goto 75, 3) := by decide +kernel
theorem dX8_readPart_67 : decode cX8_readPart 67 = .ok (.aload_n 0, 1) := by decide +kernel
theorem dX8_readPart_68 : decode cX8_readPart 68 = .ok (.bipush 61, 2) := by decide +kernel
theorem dX8_readPart_70 : decode cX8_readPart 70 = .ok (.invokevirtual 95, 3) := by decide +kernel
theorem dX8_readPart_73 : decode cX8_readPart 73 = .ok (.istore_n 1, 1) := by decide +kernel
theorem dX8_readPart_74 : decode cX8_readPart 74 = .ok (.aload_n 0, 1) := by decide +kernel
theorem dX8_readPart_75 : decode cX8_readPart 75 = .ok (.aload_n 0, 1) := by decide +kernel
theorem dX8_readPart_76 : decode cX8_readPart 76 = .ok (.invokevirtual 131, 3) := by decide +kernel
theorem dX8_readPart_79 : decode cX8_readPart 79 = .ok (.iload_n 1, 1) := by decide +kernel
theorem dX8_readPart_80 : decode cX8_readPart 80 = .ok (.ifCond .eq 7, 3) := by decide +kernel
theorem dX8_readPart_87 : decode cX8_readPart 87 = .ok (.iconst 1, 1) := by decide +kernel
theorem dX8_readPart_88 : decode cX8_readPart 88 = .ok (.iadd, 1) := by decide +kernel
theorem dX8_readPart_89 : decode cX8_readPart 89 = .ok (.putfield 124, 3) := by decide +kernel
theorem dX8_readPart_92 : decode cX8_readPart 92 = .ok (.goto 103, 3) := by decide +kernel
theorem dX8_readPart_83 : decode cX8_readPart 83 = .ok (.iconst 0, 1) := by decide +kernel
theorem dX8_readPart_84 : decode cX8_readPart 84 = .ok (.goto 4, 3) := by decide +kernel
theorem dX8_readPart_30 : decode cX8_readPart 30 = .ok (.aload_n 0, 1) := by decide +kernel
theorem dX8_readPart_31 : decode cX8_readPart 31 = .ok (.bipush 61, 2) := by decide +kernel
theorem dX8_readPart_33 : decode cX8_readPart 33 = .ok (.invokevirtual 95, 3) := by decide +kernel
theorem dX8_readPart_36 : decode cX8_readPart 36 = .ok (.istore_n 1, 1) := by decide +kernel
theorem dX8_readPart_37 : decode cX8_readPart 37 = .ok (.aload_n 0, 1) := by decide +kernel
theorem dX8_readPart_38 : decode cX8_readPart 38 = .ok (.aload_n 0, 1) := by decide +kernel
theorem dX8_readPart_39 : decode cX8_readPart 39 = .ok (.invokevirtual 131, 3) := by decide +kernel
theorem dX8_readPart_42 : decode cX8_readPart 42 = .ok (.iload_n 1, 1) := by decide +kernel
theorem dX8_readPart_43 : decode cX8_readPart 43 = .ok (.ifCond .eq 7, 3) := by decide +kernel
theorem dX8_readPart_50 : decode cX8_readPart 50 = .ok (.iconst 1, 1) := by decide +kernel
theorem dX8_readPart_51 : decode cX8_readPart 51 = .ok (.isub, 1) := by decide +kernel
theorem dX8_readPart_52 : decode cX8_readPart 52 = .ok (.putfield 128, 3) := by decide +kernel
theorem dX8_readPart_55 : decode cX8_readPart 55 = .ok (.goto 140, 3) := by decide +kernel
theorem dX8_readPart_46 : decode cX8_readPart 46 = .ok (.iconst 0, 1) := by decide +kernel
theorem dX8_readPart_47 : decode cX8_readPart 47 = .ok (.goto 4, 3) := by decide +kernel
theorem dX8_readPart_20 : decode cX8_readPart 20 = .ok (.return_, 1) := by decide +kernel
set_option maxHeartbeats 400000 in
set_option maxRecDepth 20000 in
theorem ct_X8_readPart (l : Launch) (D : va_G) (dA : Nat → ClassId) (hst : l.stackTraces = false) (M : jM) (m : Nat) (c : Nat → Int32) (L : Nat) (s : gS) (hS : mRd M m c L s) : jCT l D dA yX8_readPart wsX8_readPart (25) (600) (0) (0) 0 [.ref (m)] M (jPo (oV) (mRS M m (gPrt c L s))) := by
  refine jBody (cc := cX8_readPart) (nL := 2) (rt := none) (ini := false) (by decide) rfl hst (Nat.le_of_ble_eq_true rfl) (by simp [Value.category]) (by intro h9; first | exact absurd h9 (by decide) | rfl) ?_
  show J l D dA RX8 cX8_readPart wsX8_readPart 2 false none [] (25) (600) (jF D dA (jn M) (jPo (oV) (mRS M m (gPrt c L s))) 0) (jn M) (0) (0) (M) 0 [.ref (m), .float 0] []
  obtain ⟨hM, hL6, hL60, hbuf, hple, -⟩ := id hS
  obtain ⟨m1, m2, ⟨r1, r2, r3, r4, r5, r6, r7, r8, r9, r10, r11, r12, r13⟩, ⟨k1, k2, k3, k4, k5, k6, k7, k8, k9, k10, k11, k12, k13⟩, z1, z2, z3, z4, z5, z6, z7, z8, z9, z10, z11, z12, z13⟩ := id hM
  refine J_mem (M' := mRS M m s) (by exact hS.self) ?_
  refine J_aload_n (m) dX8_readPart_0 rfl rfl ?_
  refine J_iconst (x := 0) dX8_readPart_1 (by decide) ?_
  refine J_puti (j := 19) (x := (0)) dX8_readPart_2 (fun _ h => List.mem_cons_of_mem _ (List.mem_append_left _ (List.mem_append_left _ (List.mem_append_right _ (h))))) cs11 cty11 (by decide) rfl (List.mem_of_getElem? (i := 1) rfl) rfl rfl ⟨rfl, rfl⟩ (show m < jn M from by omega) m2 ?_
  refine J_mem (M' := mRS M m (gLo s 0)) (by exact mRS_19 _ _ _ _) ?_
  refine J_aload_n (m) dX8_readPart_5 rfl rfl ?_
  refine J_ldc (x := 99999999) dX8_readPart_6 (List.mem_of_getElem? (i := 2) rfl) ?_
  refine J_puti (j := 20) (x := (99999999)) dX8_readPart_8 (fun _ h => List.mem_cons_of_mem _ (List.mem_append_left _ (List.mem_append_left _ (List.mem_append_right _ (h))))) cs11 cty11 (by decide) rfl (List.mem_of_getElem? (i := 3) rfl) rfl rfl ⟨rfl, rfl⟩ (show m < jn M from by omega) m2 ?_
  refine J_mem (M' := mRS M m (gS0 s)) (by exact mRS_20 _ _ _ _) ?_
  refine J_aload_n (m) dX8_readPart_11 rfl rfl ?_
  refine J_bipush (x := 42) dX8_readPart_12 (by decide) ?_
  refine J_calli0 (jrunV (As := [.int (42)]) (ct_X8_isHere l D dA hst ((mRS M m (gS0 s))) m c L (gS0 s) (hS.rs (gS0 s) (show (gS0 s).1 ≤ L from hple)) ((42)) (by decide)) dX8_readPart_14 yY_X8_isHere gX8_readPart_X8_isHere rfl cs11 (show m < jn M from by omega) m2 rfl ⟨by omega, by omega⟩ ⟨Nat.zero_le _, Nat.zero_le _⟩ rfl (Nat.le_of_ble_eq_true rfl)) (rfl) (rfl) ?_
  refine J_mem (M' := mRS M m (gTk c L ((42)) (gS0 s))) (mRS_RS _ _ _ _) ?_
  refine J_if_eq dX8_readPart_17 (tgt := 21) (by decide) (fun c17 => ?_) (fun c17 => ?_)
  · have c17 := jb0T c17
    refine J_mem (M' := mRS M m (gS0 s)) (by exact congrArg (mRS M m) (gTk_f c17)) ?_
    refine J_aload_n (m) dX8_readPart_21 rfl rfl ?_
    refine J_bipush (x := 60) dX8_readPart_22 (by decide) ?_
    refine J_calli0 (jrunV (As := [.int (60)]) (ct_X8_isHere l D dA hst ((mRS M m (gS0 s))) m c L (gS0 s) (hS.rs (gS0 s) (show (gS0 s).1 ≤ L from hple)) ((60)) (by decide)) dX8_readPart_24 yY_X8_isHere gX8_readPart_X8_isHere rfl cs11 (show m < jn M from by omega) m2 rfl ⟨by omega, by omega⟩ ⟨Nat.zero_le _, Nat.zero_le _⟩ rfl (Nat.le_of_ble_eq_true rfl)) (rfl) (rfl) ?_
    refine J_mem (M' := mRS M m (gTk c L ((60)) (gS0 s))) (mRS_RS _ _ _ _) ?_
    refine J_if_eq dX8_readPart_27 (tgt := 58) (by decide) (fun c27 => ?_) (fun c27 => ?_)
    · have c27 := jb0T c27
      refine J_mem (M' := mRS M m (gS0 s)) (by exact congrArg (mRS M m) (gTk_f c27)) ?_
      refine J_aload_n (m) dX8_readPart_58 rfl rfl ?_
      refine J_bipush (x := 62) dX8_readPart_59 (by decide) ?_
      refine J_calli0 (jrunV (As := [.int (62)]) (ct_X8_isHere l D dA hst ((mRS M m (gS0 s))) m c L (gS0 s) (hS.rs (gS0 s) (show (gS0 s).1 ≤ L from hple)) ((62)) (by decide)) dX8_readPart_61 yY_X8_isHere gX8_readPart_X8_isHere rfl cs11 (show m < jn M from by omega) m2 rfl ⟨by omega, by omega⟩ ⟨Nat.zero_le _, Nat.zero_le _⟩ rfl (Nat.le_of_ble_eq_true rfl)) (rfl) (rfl) ?_
      refine J_mem (M' := mRS M m (gTk c L ((62)) (gS0 s))) (mRS_RS _ _ _ _) ?_
      refine J_if_eq dX8_readPart_64 (tgt := 95) (by decide) (fun c64 => ?_) (fun c64 => ?_)
      · have c64 := jb0T c64
        refine J_mem (M' := mRS M m (gS0 s)) (by exact congrArg (mRS M m) (gTk_f c64)) ?_
        refine J_aload_n (m) dX8_readPart_95 rfl rfl ?_
        refine J_bipush (x := 61) dX8_readPart_96 (by decide) ?_
        refine J_calli0 (jrunV (As := [.int (61)]) (ct_X8_isHere l D dA hst ((mRS M m (gS0 s))) m c L (gS0 s) (hS.rs (gS0 s) (show (gS0 s).1 ≤ L from hple)) ((61)) (by decide)) dX8_readPart_98 yY_X8_isHere gX8_readPart_X8_isHere rfl cs11 (show m < jn M from by omega) m2 rfl ⟨by omega, by omega⟩ ⟨Nat.zero_le _, Nat.zero_le _⟩ rfl (Nat.le_of_ble_eq_true rfl)) (rfl) (rfl) ?_
        refine J_mem (M' := mRS M m (gTk c L ((61)) (gS0 s))) (mRS_RS _ _ _ _) ?_
        refine J_if_eq dX8_readPart_101 (tgt := 123) (by decide) (fun c101 => ?_) (fun c101 => ?_)
        · have c101 := jb0T c101
          refine J_mem (M' := mRS M m (gS0 s)) (by exact congrArg (mRS M m) (gTk_f c101)) ?_
          refine J_aload_n (m) dX8_readPart_123 rfl rfl ?_
          refine J_bipush (x := 94) dX8_readPart_124 (by decide) ?_
          refine J_calli0 (jrunV (As := [.int (94)]) (ct_X8_isHere l D dA hst ((mRS M m (gS0 s))) m c L (gS0 s) (hS.rs (gS0 s) (show (gS0 s).1 ≤ L from hple)) ((94)) (by decide)) dX8_readPart_126 yY_X8_isHere gX8_readPart_X8_isHere rfl cs11 (show m < jn M from by omega) m2 rfl ⟨by omega, by omega⟩ ⟨Nat.zero_le _, Nat.zero_le _⟩ rfl (Nat.le_of_ble_eq_true rfl)) (rfl) (rfl) ?_
          refine J_mem (M' := mRS M m (gTk c L ((94)) (gS0 s))) (mRS_RS _ _ _ _) ?_
          refine J_if_eq dX8_readPart_129 (tgt := 157) (by decide) (fun c129 => ?_) (fun c129 => ?_)
          · have c129 := jb0T c129
            refine J_mem (M' := mRS M m (gS0 s)) (by exact congrArg (mRS M m) (gTk_f c129)) ?_
            refine J_aload_n (m) dX8_readPart_157 rfl rfl ?_
            refine J_bipush (x := 126) dX8_readPart_158 (by decide) ?_
            refine J_calli0 (jrunV (As := [.int (126)]) (ct_X8_isHere l D dA hst ((mRS M m (gS0 s))) m c L (gS0 s) (hS.rs (gS0 s) (show (gS0 s).1 ≤ L from hple)) ((126)) (by decide)) dX8_readPart_160 yY_X8_isHere gX8_readPart_X8_isHere rfl cs11 (show m < jn M from by omega) m2 rfl ⟨by omega, by omega⟩ ⟨Nat.zero_le _, Nat.zero_le _⟩ rfl (Nat.le_of_ble_eq_true rfl)) (rfl) (rfl) ?_
            refine J_mem (M' := mRS M m (gTk c L ((126)) (gS0 s))) (mRS_RS _ _ _ _) ?_
            refine J_if_eq dX8_readPart_163 (tgt := 191) (by decide) (fun c163 => ?_) (fun c163 => ?_)
            · have c163 := jb0T c163
              refine J_mem (M' := mRS M m (gS0 s)) (by exact congrArg (mRS M m) (gTk_f c163)) ?_
              refine J_aload_n (m) dX8_readPart_191 rfl rfl ?_
              refine J_callv0 (jrunV (As := []) (ct_X8_readSeries l D dA hst ((mRS M m (gS0 s))) m c L (gS0 s) (hS.rs (gS0 s) (show (gS0 s).1 ≤ L from hple))) dX8_readPart_192 yY_X8_readSeries gX8_readPart_X8_readSeries rfl cs11 (show m < jn M from by omega) m2 rfl ⟨by omega, by omega⟩ ⟨Nat.zero_le _, Nat.zero_le _⟩ rfl (Nat.le_of_ble_eq_true rfl)) (rfl) (rfl) ?_
              refine J_mem (M' := mRS M m (gSer c L (gS0 s))) (mRS_RS _ _ _ _) ?_
              exact J_vret dX8_readPart_195 rfl ⟨(by rfl), (by unfold gPrt; first | (rw [if_neg (show ¬ gIs c L 42 (gS0 s) = true by rw [c17]; decide), if_pos c27]; done) | (rw [if_neg (show ¬ gIs c L 42 (gS0 s) = true by rw [c17]; decide), if_neg (show ¬ gIs c L 60 (gS0 s) = true by rw [c27]; decide), if_pos c64]; done) | (rw [if_neg (show ¬ gIs c L 42 (gS0 s) = true by rw [c17]; decide), if_neg (show ¬ gIs c L 60 (gS0 s) = true by rw [c27]; decide), if_neg (show ¬ gIs c L 62 (gS0 s) = true by rw [c64]; decide), if_pos c101]; done) | (rw [if_neg (show ¬ gIs c L 42 (gS0 s) = true by rw [c17]; decide), if_neg (show ¬ gIs c L 60 (gS0 s) = true by rw [c27]; decide), if_neg (show ¬ gIs c L 62 (gS0 s) = true by rw [c64]; decide), if_neg (show ¬ gIs c L 61 (gS0 s) = true by rw [c101]; decide), if_pos c129]; done) | (rw [if_neg (show ¬ gIs c L 42 (gS0 s) = true by rw [c17]; decide), if_neg (show ¬ gIs c L 60 (gS0 s) = true by rw [c27]; decide), if_neg (show ¬ gIs c L 62 (gS0 s) = true by rw [c64]; decide), if_neg (show ¬ gIs c L 61 (gS0 s) = true by rw [c101]; decide), if_neg (show ¬ gIs c L 94 (gS0 s) = true by rw [c129]; decide), if_pos c163]; done) | (rw [if_neg (show ¬ gIs c L 42 (gS0 s) = true by rw [c17]; decide), if_neg (show ¬ gIs c L 60 (gS0 s) = true by rw [c27]; decide), if_neg (show ¬ gIs c L 62 (gS0 s) = true by rw [c64]; decide), if_neg (show ¬ gIs c L 61 (gS0 s) = true by rw [c101]; decide), if_neg (show ¬ gIs c L 94 (gS0 s) = true by rw [c129]; decide), if_neg (show ¬ gIs c L 126 (gS0 s) = true by rw [c163]; decide)]; done) | fail "p")⟩
            · have c163 := jb0F c163
              refine J_aload_n (m) dX8_readPart_166 rfl rfl ?_
              refine J_aload_n (m) dX8_readPart_167 rfl rfl ?_
              refine J_calli0 (jrunV (As := []) (ct_X8_readVersion l D dA hst ((mRS M m (gTk c L ((126)) (gS0 s)))) m c L (gTk c L ((126)) (gS0 s)) (hS.rs (gTk c L ((126)) (gS0 s)) (gTk_le (hS.rs (gS0 s) (show (gS0 s).1 ≤ L from hple)).le))) dX8_readPart_168 yY_X8_readVersion gX8_readPart_X8_readVersion rfl cs11 (show m < jn M from by omega) m2 rfl ⟨by omega, by omega⟩ ⟨Nat.zero_le _, Nat.zero_le _⟩ rfl (Nat.le_of_ble_eq_true rfl)) (rfl) (rfl) ?_
              refine J_mem (M' := mRS M m ((gVer c L (gTk c L ((126)) (gS0 s))).2)) (mRS_RS _ _ _ _) ?_
              refine J_puti (j := 19) (x := ((gVer c L (gTk c L ((126)) (gS0 s))).1)) dX8_readPart_171 (fun _ h => List.mem_cons_of_mem _ (List.mem_append_left _ (List.mem_append_left _ (List.mem_append_right _ (h))))) cs11 cty11 (by decide) rfl (List.mem_of_getElem? (i := 1) rfl) rfl rfl ⟨rfl, rfl⟩ (show m < jn M from by omega) m2 ?_
              refine J_mem (M' := mRS M m (gLo (gVer c L (gTk c L 126 (gS0 s))).2 (gVer c L (gTk c L 126 (gS0 s))).1)) (by exact mRS_19 _ _ _ _) ?_
              refine J_aload_n (m) dX8_readPart_174 rfl rfl ?_
              refine J_aload_n (m) dX8_readPart_175 rfl rfl ?_
              refine J_geti (j := 19) dX8_readPart_176 (fun _ h => List.mem_cons_of_mem _ (List.mem_append_left _ (List.mem_append_left _ (List.mem_append_right _ (h))))) cs11 (by decide) rfl (List.mem_of_getElem? (i := 1) rfl) rfl (show m < jn M from by omega) m2 ?_
              refine J_topi (y := ((gLo (gVer c L (gTk c L 126 (gS0 s))).2 (gVer c L (gTk c L 126 (gS0 s))).1).2.2.2.2.1)) ((hS.rs (gLo (gVer c L (gTk c L 126 (gS0 s))).2 (gVer c L (gTk c L 126 (gS0 s))).1) (gVer_le (gTk_le (show (gS0 s).1 ≤ L from hple)))).f19) ?_
              refine J_iconst (x := 0) dX8_readPart_179 (by decide) ?_
              refine J_calli0 (jrunS (As := [.int ((gLo (gVer c L (gTk c L 126 (gS0 s))).2 (gVer c L (gTk c L 126 (gS0 s))).1).2.2.2.2.1), .int (0)]) (ct_X8_behindI l D dA hst ((mRS M m (gLo (gVer c L (gTk c L 126 (gS0 s))).2 (gVer c L (gTk c L 126 (gS0 s))).1))) (((gLo (gVer c L (gTk c L 126 (gS0 s))).2 (gVer c L (gTk c L 126 (gS0 s))).1).2.2.2.2.1)) false) dX8_readPart_180 yY_X8_behind gX8_readPart_X8_behind rfl ⟨by omega, by omega⟩ ⟨Nat.zero_le _, Nat.zero_le _⟩ rfl (Nat.le_of_ble_eq_true rfl)) (rfl) (rfl) ?_
              refine J_iconst (x := 1) dX8_readPart_183 (by decide) ?_
              refine J_isub dX8_readPart_184 ?_
              refine J_puti (j := 20) (x := ((bhI (((gLo (gVer c L (gTk c L 126 (gS0 s))).2 (gVer c L (gTk c L 126 (gS0 s))).1).2.2.2.2.1)) false) - (1))) dX8_readPart_185 (fun _ h => List.mem_cons_of_mem _ (List.mem_append_left _ (List.mem_append_left _ (List.mem_append_right _ (h))))) cs11 cty11 (by decide) rfl (List.mem_of_getElem? (i := 3) rfl) rfl rfl ⟨rfl, rfl⟩ (show m < jn M from by omega) m2 ?_
              refine J_mem (M' := mRS M m (gHi (gLo (gVer c L (gTk c L 126 (gS0 s))).2 (gVer c L (gTk c L 126 (gS0 s))).1) (bhI (gVer c L (gTk c L 126 (gS0 s))).1 false - 1))) (by exact mRS_20 _ _ _ _) ?_
              refine J_goto (tgt := 195) dX8_readPart_188 (by decide) ?_
              exact J_vret dX8_readPart_195 rfl ⟨(by rfl), (by unfold gPrt; first | (rw [if_neg (show ¬ gIs c L 42 (gS0 s) = true by rw [c17]; decide), if_pos c27]; done) | (rw [if_neg (show ¬ gIs c L 42 (gS0 s) = true by rw [c17]; decide), if_neg (show ¬ gIs c L 60 (gS0 s) = true by rw [c27]; decide), if_pos c64]; done) | (rw [if_neg (show ¬ gIs c L 42 (gS0 s) = true by rw [c17]; decide), if_neg (show ¬ gIs c L 60 (gS0 s) = true by rw [c27]; decide), if_neg (show ¬ gIs c L 62 (gS0 s) = true by rw [c64]; decide), if_pos c101]; done) | (rw [if_neg (show ¬ gIs c L 42 (gS0 s) = true by rw [c17]; decide), if_neg (show ¬ gIs c L 60 (gS0 s) = true by rw [c27]; decide), if_neg (show ¬ gIs c L 62 (gS0 s) = true by rw [c64]; decide), if_neg (show ¬ gIs c L 61 (gS0 s) = true by rw [c101]; decide), if_pos c129]; done) | (rw [if_neg (show ¬ gIs c L 42 (gS0 s) = true by rw [c17]; decide), if_neg (show ¬ gIs c L 60 (gS0 s) = true by rw [c27]; decide), if_neg (show ¬ gIs c L 62 (gS0 s) = true by rw [c64]; decide), if_neg (show ¬ gIs c L 61 (gS0 s) = true by rw [c101]; decide), if_neg (show ¬ gIs c L 94 (gS0 s) = true by rw [c129]; decide), if_pos c163]; done) | (rw [if_neg (show ¬ gIs c L 42 (gS0 s) = true by rw [c17]; decide), if_neg (show ¬ gIs c L 60 (gS0 s) = true by rw [c27]; decide), if_neg (show ¬ gIs c L 62 (gS0 s) = true by rw [c64]; decide), if_neg (show ¬ gIs c L 61 (gS0 s) = true by rw [c101]; decide), if_neg (show ¬ gIs c L 94 (gS0 s) = true by rw [c129]; decide), if_neg (show ¬ gIs c L 126 (gS0 s) = true by rw [c163]; decide)]; done) | fail "p")⟩
          · have c129 := jb0F c129
            refine J_aload_n (m) dX8_readPart_132 rfl rfl ?_
            refine J_aload_n (m) dX8_readPart_133 rfl rfl ?_
            refine J_calli0 (jrunV (As := []) (ct_X8_readVersion l D dA hst ((mRS M m (gTk c L ((94)) (gS0 s)))) m c L (gTk c L ((94)) (gS0 s)) (hS.rs (gTk c L ((94)) (gS0 s)) (gTk_le (hS.rs (gS0 s) (show (gS0 s).1 ≤ L from hple)).le))) dX8_readPart_134 yY_X8_readVersion gX8_readPart_X8_readVersion rfl cs11 (show m < jn M from by omega) m2 rfl ⟨by omega, by omega⟩ ⟨Nat.zero_le _, Nat.zero_le _⟩ rfl (Nat.le_of_ble_eq_true rfl)) (rfl) (rfl) ?_
            refine J_mem (M' := mRS M m ((gVer c L (gTk c L ((94)) (gS0 s))).2)) (mRS_RS _ _ _ _) ?_
            refine J_puti (j := 19) (x := ((gVer c L (gTk c L ((94)) (gS0 s))).1)) dX8_readPart_137 (fun _ h => List.mem_cons_of_mem _ (List.mem_append_left _ (List.mem_append_left _ (List.mem_append_right _ (h))))) cs11 cty11 (by decide) rfl (List.mem_of_getElem? (i := 1) rfl) rfl rfl ⟨rfl, rfl⟩ (show m < jn M from by omega) m2 ?_
            refine J_mem (M' := mRS M m (gLo (gVer c L (gTk c L 94 (gS0 s))).2 (gVer c L (gTk c L 94 (gS0 s))).1)) (by exact mRS_19 _ _ _ _) ?_
            refine J_aload_n (m) dX8_readPart_140 rfl rfl ?_
            refine J_aload_n (m) dX8_readPart_141 rfl rfl ?_
            refine J_geti (j := 19) dX8_readPart_142 (fun _ h => List.mem_cons_of_mem _ (List.mem_append_left _ (List.mem_append_left _ (List.mem_append_right _ (h))))) cs11 (by decide) rfl (List.mem_of_getElem? (i := 1) rfl) rfl (show m < jn M from by omega) m2 ?_
            refine J_topi (y := ((gLo (gVer c L (gTk c L 94 (gS0 s))).2 (gVer c L (gTk c L 94 (gS0 s))).1).2.2.2.2.1)) ((hS.rs (gLo (gVer c L (gTk c L 94 (gS0 s))).2 (gVer c L (gTk c L 94 (gS0 s))).1) (gVer_le (gTk_le (show (gS0 s).1 ≤ L from hple)))).f19) ?_
            refine J_iconst (x := 1) dX8_readPart_145 (by decide) ?_
            refine J_calli0 (jrunS (As := [.int ((gLo (gVer c L (gTk c L 94 (gS0 s))).2 (gVer c L (gTk c L 94 (gS0 s))).1).2.2.2.2.1), .int (1)]) (ct_X8_behindI l D dA hst ((mRS M m (gLo (gVer c L (gTk c L 94 (gS0 s))).2 (gVer c L (gTk c L 94 (gS0 s))).1))) (((gLo (gVer c L (gTk c L 94 (gS0 s))).2 (gVer c L (gTk c L 94 (gS0 s))).1).2.2.2.2.1)) true) dX8_readPart_146 yY_X8_behind gX8_readPart_X8_behind rfl ⟨by omega, by omega⟩ ⟨Nat.zero_le _, Nat.zero_le _⟩ rfl (Nat.le_of_ble_eq_true rfl)) (rfl) (rfl) ?_
            refine J_iconst (x := 1) dX8_readPart_149 (by decide) ?_
            refine J_isub dX8_readPart_150 ?_
            refine J_puti (j := 20) (x := ((bhI (((gLo (gVer c L (gTk c L 94 (gS0 s))).2 (gVer c L (gTk c L 94 (gS0 s))).1).2.2.2.2.1)) true) - (1))) dX8_readPart_151 (fun _ h => List.mem_cons_of_mem _ (List.mem_append_left _ (List.mem_append_left _ (List.mem_append_right _ (h))))) cs11 cty11 (by decide) rfl (List.mem_of_getElem? (i := 3) rfl) rfl rfl ⟨rfl, rfl⟩ (show m < jn M from by omega) m2 ?_
            refine J_mem (M' := mRS M m (gHi (gLo (gVer c L (gTk c L 94 (gS0 s))).2 (gVer c L (gTk c L 94 (gS0 s))).1) (bhI (gVer c L (gTk c L 94 (gS0 s))).1 true - 1))) (by exact mRS_20 _ _ _ _) ?_
            refine J_goto (tgt := 195) dX8_readPart_154 (by decide) ?_
            exact J_vret dX8_readPart_195 rfl ⟨(by rfl), (by unfold gPrt; first | (rw [if_neg (show ¬ gIs c L 42 (gS0 s) = true by rw [c17]; decide), if_pos c27]; done) | (rw [if_neg (show ¬ gIs c L 42 (gS0 s) = true by rw [c17]; decide), if_neg (show ¬ gIs c L 60 (gS0 s) = true by rw [c27]; decide), if_pos c64]; done) | (rw [if_neg (show ¬ gIs c L 42 (gS0 s) = true by rw [c17]; decide), if_neg (show ¬ gIs c L 60 (gS0 s) = true by rw [c27]; decide), if_neg (show ¬ gIs c L 62 (gS0 s) = true by rw [c64]; decide), if_pos c101]; done) | (rw [if_neg (show ¬ gIs c L 42 (gS0 s) = true by rw [c17]; decide), if_neg (show ¬ gIs c L 60 (gS0 s) = true by rw [c27]; decide), if_neg (show ¬ gIs c L 62 (gS0 s) = true by rw [c64]; decide), if_neg (show ¬ gIs c L 61 (gS0 s) = true by rw [c101]; decide), if_pos c129]; done) | (rw [if_neg (show ¬ gIs c L 42 (gS0 s) = true by rw [c17]; decide), if_neg (show ¬ gIs c L 60 (gS0 s) = true by rw [c27]; decide), if_neg (show ¬ gIs c L 62 (gS0 s) = true by rw [c64]; decide), if_neg (show ¬ gIs c L 61 (gS0 s) = true by rw [c101]; decide), if_neg (show ¬ gIs c L 94 (gS0 s) = true by rw [c129]; decide), if_pos c163]; done) | (rw [if_neg (show ¬ gIs c L 42 (gS0 s) = true by rw [c17]; decide), if_neg (show ¬ gIs c L 60 (gS0 s) = true by rw [c27]; decide), if_neg (show ¬ gIs c L 62 (gS0 s) = true by rw [c64]; decide), if_neg (show ¬ gIs c L 61 (gS0 s) = true by rw [c101]; decide), if_neg (show ¬ gIs c L 94 (gS0 s) = true by rw [c129]; decide), if_neg (show ¬ gIs c L 126 (gS0 s) = true by rw [c163]; decide)]; done) | fail "p")⟩
        · have c101 := jb0F c101
          refine J_aload_n (m) dX8_readPart_104 rfl rfl ?_
          refine J_aload_n (m) dX8_readPart_105 rfl rfl ?_
          refine J_calli0 (jrunV (As := []) (ct_X8_readVersion l D dA hst ((mRS M m (gTk c L ((61)) (gS0 s)))) m c L (gTk c L ((61)) (gS0 s)) (hS.rs (gTk c L ((61)) (gS0 s)) (gTk_le (hS.rs (gS0 s) (show (gS0 s).1 ≤ L from hple)).le))) dX8_readPart_106 yY_X8_readVersion gX8_readPart_X8_readVersion rfl cs11 (show m < jn M from by omega) m2 rfl ⟨by omega, by omega⟩ ⟨Nat.zero_le _, Nat.zero_le _⟩ rfl (Nat.le_of_ble_eq_true rfl)) (rfl) (rfl) ?_
          refine J_mem (M' := mRS M m ((gVer c L (gTk c L ((61)) (gS0 s))).2)) (mRS_RS _ _ _ _) ?_
          refine J_puti (j := 19) (x := ((gVer c L (gTk c L ((61)) (gS0 s))).1)) dX8_readPart_109 (fun _ h => List.mem_cons_of_mem _ (List.mem_append_left _ (List.mem_append_left _ (List.mem_append_right _ (h))))) cs11 cty11 (by decide) rfl (List.mem_of_getElem? (i := 1) rfl) rfl rfl ⟨rfl, rfl⟩ (show m < jn M from by omega) m2 ?_
          refine J_mem (M' := mRS M m (gLo (gVer c L (gTk c L 61 (gS0 s))).2 (gVer c L (gTk c L 61 (gS0 s))).1)) (by exact mRS_19 _ _ _ _) ?_
          refine J_aload_n (m) dX8_readPart_112 rfl rfl ?_
          refine J_aload_n (m) dX8_readPart_113 rfl rfl ?_
          refine J_geti (j := 19) dX8_readPart_114 (fun _ h => List.mem_cons_of_mem _ (List.mem_append_left _ (List.mem_append_left _ (List.mem_append_right _ (h))))) cs11 (by decide) rfl (List.mem_of_getElem? (i := 1) rfl) rfl (show m < jn M from by omega) m2 ?_
          refine J_topi (y := ((gLo (gVer c L (gTk c L 61 (gS0 s))).2 (gVer c L (gTk c L 61 (gS0 s))).1).2.2.2.2.1)) ((hS.rs (gLo (gVer c L (gTk c L 61 (gS0 s))).2 (gVer c L (gTk c L 61 (gS0 s))).1) (gVer_le (gTk_le (show (gS0 s).1 ≤ L from hple)))).f19) ?_
          refine J_puti (j := 20) (x := ((gLo (gVer c L (gTk c L 61 (gS0 s))).2 (gVer c L (gTk c L 61 (gS0 s))).1).2.2.2.2.1)) dX8_readPart_117 (fun _ h => List.mem_cons_of_mem _ (List.mem_append_left _ (List.mem_append_left _ (List.mem_append_right _ (h))))) cs11 cty11 (by decide) rfl (List.mem_of_getElem? (i := 3) rfl) rfl rfl ⟨rfl, rfl⟩ (show m < jn M from by omega) m2 ?_
          refine J_mem (M' := mRS M m (gHi (gLo (gVer c L (gTk c L 61 (gS0 s))).2 (gVer c L (gTk c L 61 (gS0 s))).1) (gVer c L (gTk c L 61 (gS0 s))).1)) (by exact mRS_20 _ _ _ _) ?_
          refine J_goto (tgt := 195) dX8_readPart_120 (by decide) ?_
          exact J_vret dX8_readPart_195 rfl ⟨(by rfl), (by unfold gPrt; first | (rw [if_neg (show ¬ gIs c L 42 (gS0 s) = true by rw [c17]; decide), if_pos c27]; done) | (rw [if_neg (show ¬ gIs c L 42 (gS0 s) = true by rw [c17]; decide), if_neg (show ¬ gIs c L 60 (gS0 s) = true by rw [c27]; decide), if_pos c64]; done) | (rw [if_neg (show ¬ gIs c L 42 (gS0 s) = true by rw [c17]; decide), if_neg (show ¬ gIs c L 60 (gS0 s) = true by rw [c27]; decide), if_neg (show ¬ gIs c L 62 (gS0 s) = true by rw [c64]; decide), if_pos c101]; done) | (rw [if_neg (show ¬ gIs c L 42 (gS0 s) = true by rw [c17]; decide), if_neg (show ¬ gIs c L 60 (gS0 s) = true by rw [c27]; decide), if_neg (show ¬ gIs c L 62 (gS0 s) = true by rw [c64]; decide), if_neg (show ¬ gIs c L 61 (gS0 s) = true by rw [c101]; decide), if_pos c129]; done) | (rw [if_neg (show ¬ gIs c L 42 (gS0 s) = true by rw [c17]; decide), if_neg (show ¬ gIs c L 60 (gS0 s) = true by rw [c27]; decide), if_neg (show ¬ gIs c L 62 (gS0 s) = true by rw [c64]; decide), if_neg (show ¬ gIs c L 61 (gS0 s) = true by rw [c101]; decide), if_neg (show ¬ gIs c L 94 (gS0 s) = true by rw [c129]; decide), if_pos c163]; done) | (rw [if_neg (show ¬ gIs c L 42 (gS0 s) = true by rw [c17]; decide), if_neg (show ¬ gIs c L 60 (gS0 s) = true by rw [c27]; decide), if_neg (show ¬ gIs c L 62 (gS0 s) = true by rw [c64]; decide), if_neg (show ¬ gIs c L 61 (gS0 s) = true by rw [c101]; decide), if_neg (show ¬ gIs c L 94 (gS0 s) = true by rw [c129]; decide), if_neg (show ¬ gIs c L 126 (gS0 s) = true by rw [c163]; decide)]; done) | fail "p")⟩
      · have c64 := jb0F c64
        refine J_aload_n (m) dX8_readPart_67 rfl rfl ?_
        refine J_bipush (x := 61) dX8_readPart_68 (by decide) ?_
        refine J_calli0 (jrunV (As := [.int (61)]) (ct_X8_isHere l D dA hst ((mRS M m (gTk c L ((62)) (gS0 s)))) m c L (gTk c L ((62)) (gS0 s)) (hS.rs (gTk c L ((62)) (gS0 s)) (gTk_le (hS.rs (gS0 s) (show (gS0 s).1 ≤ L from hple)).le)) ((61)) (by decide)) dX8_readPart_70 yY_X8_isHere gX8_readPart_X8_isHere rfl cs11 (show m < jn M from by omega) m2 rfl ⟨by omega, by omega⟩ ⟨Nat.zero_le _, Nat.zero_le _⟩ rfl (Nat.le_of_ble_eq_true rfl)) (rfl) (rfl) ?_
        refine J_mem (M' := mRS M m (gTk c L ((61)) (gTk c L ((62)) (gS0 s)))) (mRS_RS _ _ _ _) ?_
        refine J_istore_n (lv' := [.ref (m), .int (jb (gIs c L ((61)) (gTk c L ((62)) (gS0 s))))]) dX8_readPart_73 rfl (by decide) rfl rfl ?_
        refine J_aload_n (m) dX8_readPart_74 rfl rfl ?_
        refine J_aload_n (m) dX8_readPart_75 rfl rfl ?_
        refine J_calli0 (jrunV (As := []) (ct_X8_readVersion l D dA hst ((mRS M m (gTk c L ((61)) (gTk c L ((62)) (gS0 s))))) m c L (gTk c L ((61)) (gTk c L ((62)) (gS0 s))) (hS.rs (gTk c L ((61)) (gTk c L ((62)) (gS0 s))) (gTk_le (hS.rs (gTk c L ((62)) (gS0 s)) (gTk_le (hS.rs (gS0 s) (show (gS0 s).1 ≤ L from hple)).le)).le))) dX8_readPart_76 yY_X8_readVersion gX8_readPart_X8_readVersion rfl cs11 (show m < jn M from by omega) m2 rfl ⟨by omega, by omega⟩ ⟨Nat.zero_le _, Nat.zero_le _⟩ rfl (Nat.le_of_ble_eq_true rfl)) (rfl) (rfl) ?_
        refine J_mem (M' := mRS M m ((gVer c L (gTk c L ((61)) (gTk c L ((62)) (gS0 s)))).2)) (mRS_RS _ _ _ _) ?_
        refine J_iload_n dX8_readPart_79 rfl rfl ?_
        refine J_if_eq dX8_readPart_80 (tgt := 87) (by decide) (fun c80 => ?_) (fun c80 => ?_)
        · have c80 := jb0T c80
          refine J_iconst (x := 1) dX8_readPart_87 (by decide) ?_
          refine J_iadd dX8_readPart_88 ?_
          refine J_topi (y := (gVer c L (gTk c L 61 (gTk c L 62 (gS0 s)))).1 + (if gIs c L 61 (gTk c L 62 (gS0 s)) then 0 else 1)) (by first | (rw [if_pos c80]; done) | (rw [if_neg (by rw [c80]; decide)]; done)) ?_
          refine J_puti (j := 19) (x := ((gVer c L (gTk c L 61 (gTk c L 62 (gS0 s)))).1 + (if gIs c L 61 (gTk c L 62 (gS0 s)) then 0 else 1))) dX8_readPart_89 (fun _ h => List.mem_cons_of_mem _ (List.mem_append_left _ (List.mem_append_left _ (List.mem_append_right _ (h))))) cs11 cty11 (by decide) rfl (List.mem_of_getElem? (i := 1) rfl) rfl rfl ⟨rfl, rfl⟩ (show m < jn M from by omega) m2 ?_
          refine J_mem (M' := mRS M m (gLo (gVer c L (gTk c L 61 (gTk c L 62 (gS0 s)))).2 ((gVer c L (gTk c L 61 (gTk c L 62 (gS0 s)))).1 + (if gIs c L 61 (gTk c L 62 (gS0 s)) then 0 else 1)))) (by exact mRS_19 _ _ _ _) ?_
          refine J_goto (tgt := 195) dX8_readPart_92 (by decide) ?_
          exact J_vret dX8_readPart_195 rfl ⟨(by rfl), (by unfold gPrt; first | (rw [if_neg (show ¬ gIs c L 42 (gS0 s) = true by rw [c17]; decide), if_pos c27]; done) | (rw [if_neg (show ¬ gIs c L 42 (gS0 s) = true by rw [c17]; decide), if_neg (show ¬ gIs c L 60 (gS0 s) = true by rw [c27]; decide), if_pos c64]; done) | (rw [if_neg (show ¬ gIs c L 42 (gS0 s) = true by rw [c17]; decide), if_neg (show ¬ gIs c L 60 (gS0 s) = true by rw [c27]; decide), if_neg (show ¬ gIs c L 62 (gS0 s) = true by rw [c64]; decide), if_pos c101]; done) | (rw [if_neg (show ¬ gIs c L 42 (gS0 s) = true by rw [c17]; decide), if_neg (show ¬ gIs c L 60 (gS0 s) = true by rw [c27]; decide), if_neg (show ¬ gIs c L 62 (gS0 s) = true by rw [c64]; decide), if_neg (show ¬ gIs c L 61 (gS0 s) = true by rw [c101]; decide), if_pos c129]; done) | (rw [if_neg (show ¬ gIs c L 42 (gS0 s) = true by rw [c17]; decide), if_neg (show ¬ gIs c L 60 (gS0 s) = true by rw [c27]; decide), if_neg (show ¬ gIs c L 62 (gS0 s) = true by rw [c64]; decide), if_neg (show ¬ gIs c L 61 (gS0 s) = true by rw [c101]; decide), if_neg (show ¬ gIs c L 94 (gS0 s) = true by rw [c129]; decide), if_pos c163]; done) | (rw [if_neg (show ¬ gIs c L 42 (gS0 s) = true by rw [c17]; decide), if_neg (show ¬ gIs c L 60 (gS0 s) = true by rw [c27]; decide), if_neg (show ¬ gIs c L 62 (gS0 s) = true by rw [c64]; decide), if_neg (show ¬ gIs c L 61 (gS0 s) = true by rw [c101]; decide), if_neg (show ¬ gIs c L 94 (gS0 s) = true by rw [c129]; decide), if_neg (show ¬ gIs c L 126 (gS0 s) = true by rw [c163]; decide)]; done) | fail "p")⟩
        · have c80 := jb0F c80
          refine J_iconst (x := 0) dX8_readPart_83 (by decide) ?_
          refine J_goto (tgt := 88) dX8_readPart_84 (by decide) ?_
          refine J_iadd dX8_readPart_88 ?_
          refine J_topi (y := (gVer c L (gTk c L 61 (gTk c L 62 (gS0 s)))).1 + (if gIs c L 61 (gTk c L 62 (gS0 s)) then 0 else 1)) (by first | (rw [if_pos c80]; done) | (rw [if_neg (by rw [c80]; decide)]; done)) ?_
          refine J_puti (j := 19) (x := ((gVer c L (gTk c L 61 (gTk c L 62 (gS0 s)))).1 + (if gIs c L 61 (gTk c L 62 (gS0 s)) then 0 else 1))) dX8_readPart_89 (fun _ h => List.mem_cons_of_mem _ (List.mem_append_left _ (List.mem_append_left _ (List.mem_append_right _ (h))))) cs11 cty11 (by decide) rfl (List.mem_of_getElem? (i := 1) rfl) rfl rfl ⟨rfl, rfl⟩ (show m < jn M from by omega) m2 ?_
          refine J_mem (M' := mRS M m (gLo (gVer c L (gTk c L 61 (gTk c L 62 (gS0 s)))).2 ((gVer c L (gTk c L 61 (gTk c L 62 (gS0 s)))).1 + (if gIs c L 61 (gTk c L 62 (gS0 s)) then 0 else 1)))) (by exact mRS_19 _ _ _ _) ?_
          refine J_goto (tgt := 195) dX8_readPart_92 (by decide) ?_
          exact J_vret dX8_readPart_195 rfl ⟨(by rfl), (by unfold gPrt; first | (rw [if_neg (show ¬ gIs c L 42 (gS0 s) = true by rw [c17]; decide), if_pos c27]; done) | (rw [if_neg (show ¬ gIs c L 42 (gS0 s) = true by rw [c17]; decide), if_neg (show ¬ gIs c L 60 (gS0 s) = true by rw [c27]; decide), if_pos c64]; done) | (rw [if_neg (show ¬ gIs c L 42 (gS0 s) = true by rw [c17]; decide), if_neg (show ¬ gIs c L 60 (gS0 s) = true by rw [c27]; decide), if_neg (show ¬ gIs c L 62 (gS0 s) = true by rw [c64]; decide), if_pos c101]; done) | (rw [if_neg (show ¬ gIs c L 42 (gS0 s) = true by rw [c17]; decide), if_neg (show ¬ gIs c L 60 (gS0 s) = true by rw [c27]; decide), if_neg (show ¬ gIs c L 62 (gS0 s) = true by rw [c64]; decide), if_neg (show ¬ gIs c L 61 (gS0 s) = true by rw [c101]; decide), if_pos c129]; done) | (rw [if_neg (show ¬ gIs c L 42 (gS0 s) = true by rw [c17]; decide), if_neg (show ¬ gIs c L 60 (gS0 s) = true by rw [c27]; decide), if_neg (show ¬ gIs c L 62 (gS0 s) = true by rw [c64]; decide), if_neg (show ¬ gIs c L 61 (gS0 s) = true by rw [c101]; decide), if_neg (show ¬ gIs c L 94 (gS0 s) = true by rw [c129]; decide), if_pos c163]; done) | (rw [if_neg (show ¬ gIs c L 42 (gS0 s) = true by rw [c17]; decide), if_neg (show ¬ gIs c L 60 (gS0 s) = true by rw [c27]; decide), if_neg (show ¬ gIs c L 62 (gS0 s) = true by rw [c64]; decide), if_neg (show ¬ gIs c L 61 (gS0 s) = true by rw [c101]; decide), if_neg (show ¬ gIs c L 94 (gS0 s) = true by rw [c129]; decide), if_neg (show ¬ gIs c L 126 (gS0 s) = true by rw [c163]; decide)]; done) | fail "p")⟩
    · have c27 := jb0F c27
      refine J_aload_n (m) dX8_readPart_30 rfl rfl ?_
      refine J_bipush (x := 61) dX8_readPart_31 (by decide) ?_
      refine J_calli0 (jrunV (As := [.int (61)]) (ct_X8_isHere l D dA hst ((mRS M m (gTk c L ((60)) (gS0 s)))) m c L (gTk c L ((60)) (gS0 s)) (hS.rs (gTk c L ((60)) (gS0 s)) (gTk_le (hS.rs (gS0 s) (show (gS0 s).1 ≤ L from hple)).le)) ((61)) (by decide)) dX8_readPart_33 yY_X8_isHere gX8_readPart_X8_isHere rfl cs11 (show m < jn M from by omega) m2 rfl ⟨by omega, by omega⟩ ⟨Nat.zero_le _, Nat.zero_le _⟩ rfl (Nat.le_of_ble_eq_true rfl)) (rfl) (rfl) ?_
      refine J_mem (M' := mRS M m (gTk c L ((61)) (gTk c L ((60)) (gS0 s)))) (mRS_RS _ _ _ _) ?_
      refine J_istore_n (lv' := [.ref (m), .int (jb (gIs c L ((61)) (gTk c L ((60)) (gS0 s))))]) dX8_readPart_36 rfl (by decide) rfl rfl ?_
      refine J_aload_n (m) dX8_readPart_37 rfl rfl ?_
      refine J_aload_n (m) dX8_readPart_38 rfl rfl ?_
      refine J_calli0 (jrunV (As := []) (ct_X8_readVersion l D dA hst ((mRS M m (gTk c L ((61)) (gTk c L ((60)) (gS0 s))))) m c L (gTk c L ((61)) (gTk c L ((60)) (gS0 s))) (hS.rs (gTk c L ((61)) (gTk c L ((60)) (gS0 s))) (gTk_le (hS.rs (gTk c L ((60)) (gS0 s)) (gTk_le (hS.rs (gS0 s) (show (gS0 s).1 ≤ L from hple)).le)).le))) dX8_readPart_39 yY_X8_readVersion gX8_readPart_X8_readVersion rfl cs11 (show m < jn M from by omega) m2 rfl ⟨by omega, by omega⟩ ⟨Nat.zero_le _, Nat.zero_le _⟩ rfl (Nat.le_of_ble_eq_true rfl)) (rfl) (rfl) ?_
      refine J_mem (M' := mRS M m ((gVer c L (gTk c L ((61)) (gTk c L ((60)) (gS0 s)))).2)) (mRS_RS _ _ _ _) ?_
      refine J_iload_n dX8_readPart_42 rfl rfl ?_
      refine J_if_eq dX8_readPart_43 (tgt := 50) (by decide) (fun c43 => ?_) (fun c43 => ?_)
      · have c43 := jb0T c43
        refine J_iconst (x := 1) dX8_readPart_50 (by decide) ?_
        refine J_isub dX8_readPart_51 ?_
        refine J_topi (y := (gVer c L (gTk c L 61 (gTk c L 60 (gS0 s)))).1 - (if gIs c L 61 (gTk c L 60 (gS0 s)) then 0 else 1)) (by first | (rw [if_pos c43]; done) | (rw [if_neg (by rw [c43]; decide)]; done)) ?_
        refine J_puti (j := 20) (x := ((gVer c L (gTk c L 61 (gTk c L 60 (gS0 s)))).1 - (if gIs c L 61 (gTk c L 60 (gS0 s)) then 0 else 1))) dX8_readPart_52 (fun _ h => List.mem_cons_of_mem _ (List.mem_append_left _ (List.mem_append_left _ (List.mem_append_right _ (h))))) cs11 cty11 (by decide) rfl (List.mem_of_getElem? (i := 3) rfl) rfl rfl ⟨rfl, rfl⟩ (show m < jn M from by omega) m2 ?_
        refine J_mem (M' := mRS M m (gHi (gVer c L (gTk c L 61 (gTk c L 60 (gS0 s)))).2 ((gVer c L (gTk c L 61 (gTk c L 60 (gS0 s)))).1 - (if gIs c L 61 (gTk c L 60 (gS0 s)) then 0 else 1)))) (by exact mRS_20 _ _ _ _) ?_
        refine J_goto (tgt := 195) dX8_readPart_55 (by decide) ?_
        exact J_vret dX8_readPart_195 rfl ⟨(by rfl), (by unfold gPrt; first | (rw [if_neg (show ¬ gIs c L 42 (gS0 s) = true by rw [c17]; decide), if_pos c27]; done) | (rw [if_neg (show ¬ gIs c L 42 (gS0 s) = true by rw [c17]; decide), if_neg (show ¬ gIs c L 60 (gS0 s) = true by rw [c27]; decide), if_pos c64]; done) | (rw [if_neg (show ¬ gIs c L 42 (gS0 s) = true by rw [c17]; decide), if_neg (show ¬ gIs c L 60 (gS0 s) = true by rw [c27]; decide), if_neg (show ¬ gIs c L 62 (gS0 s) = true by rw [c64]; decide), if_pos c101]; done) | (rw [if_neg (show ¬ gIs c L 42 (gS0 s) = true by rw [c17]; decide), if_neg (show ¬ gIs c L 60 (gS0 s) = true by rw [c27]; decide), if_neg (show ¬ gIs c L 62 (gS0 s) = true by rw [c64]; decide), if_neg (show ¬ gIs c L 61 (gS0 s) = true by rw [c101]; decide), if_pos c129]; done) | (rw [if_neg (show ¬ gIs c L 42 (gS0 s) = true by rw [c17]; decide), if_neg (show ¬ gIs c L 60 (gS0 s) = true by rw [c27]; decide), if_neg (show ¬ gIs c L 62 (gS0 s) = true by rw [c64]; decide), if_neg (show ¬ gIs c L 61 (gS0 s) = true by rw [c101]; decide), if_neg (show ¬ gIs c L 94 (gS0 s) = true by rw [c129]; decide), if_pos c163]; done) | (rw [if_neg (show ¬ gIs c L 42 (gS0 s) = true by rw [c17]; decide), if_neg (show ¬ gIs c L 60 (gS0 s) = true by rw [c27]; decide), if_neg (show ¬ gIs c L 62 (gS0 s) = true by rw [c64]; decide), if_neg (show ¬ gIs c L 61 (gS0 s) = true by rw [c101]; decide), if_neg (show ¬ gIs c L 94 (gS0 s) = true by rw [c129]; decide), if_neg (show ¬ gIs c L 126 (gS0 s) = true by rw [c163]; decide)]; done) | fail "p")⟩
      · have c43 := jb0F c43
        refine J_iconst (x := 0) dX8_readPart_46 (by decide) ?_
        refine J_goto (tgt := 51) dX8_readPart_47 (by decide) ?_
        refine J_isub dX8_readPart_51 ?_
        refine J_topi (y := (gVer c L (gTk c L 61 (gTk c L 60 (gS0 s)))).1 - (if gIs c L 61 (gTk c L 60 (gS0 s)) then 0 else 1)) (by first | (rw [if_pos c43]; done) | (rw [if_neg (by rw [c43]; decide)]; done)) ?_
        refine J_puti (j := 20) (x := ((gVer c L (gTk c L 61 (gTk c L 60 (gS0 s)))).1 - (if gIs c L 61 (gTk c L 60 (gS0 s)) then 0 else 1))) dX8_readPart_52 (fun _ h => List.mem_cons_of_mem _ (List.mem_append_left _ (List.mem_append_left _ (List.mem_append_right _ (h))))) cs11 cty11 (by decide) rfl (List.mem_of_getElem? (i := 3) rfl) rfl rfl ⟨rfl, rfl⟩ (show m < jn M from by omega) m2 ?_
        refine J_mem (M' := mRS M m (gHi (gVer c L (gTk c L 61 (gTk c L 60 (gS0 s)))).2 ((gVer c L (gTk c L 61 (gTk c L 60 (gS0 s)))).1 - (if gIs c L 61 (gTk c L 60 (gS0 s)) then 0 else 1)))) (by exact mRS_20 _ _ _ _) ?_
        refine J_goto (tgt := 195) dX8_readPart_55 (by decide) ?_
        exact J_vret dX8_readPart_195 rfl ⟨(by rfl), (by unfold gPrt; first | (rw [if_neg (show ¬ gIs c L 42 (gS0 s) = true by rw [c17]; decide), if_pos c27]; done) | (rw [if_neg (show ¬ gIs c L 42 (gS0 s) = true by rw [c17]; decide), if_neg (show ¬ gIs c L 60 (gS0 s) = true by rw [c27]; decide), if_pos c64]; done) | (rw [if_neg (show ¬ gIs c L 42 (gS0 s) = true by rw [c17]; decide), if_neg (show ¬ gIs c L 60 (gS0 s) = true by rw [c27]; decide), if_neg (show ¬ gIs c L 62 (gS0 s) = true by rw [c64]; decide), if_pos c101]; done) | (rw [if_neg (show ¬ gIs c L 42 (gS0 s) = true by rw [c17]; decide), if_neg (show ¬ gIs c L 60 (gS0 s) = true by rw [c27]; decide), if_neg (show ¬ gIs c L 62 (gS0 s) = true by rw [c64]; decide), if_neg (show ¬ gIs c L 61 (gS0 s) = true by rw [c101]; decide), if_pos c129]; done) | (rw [if_neg (show ¬ gIs c L 42 (gS0 s) = true by rw [c17]; decide), if_neg (show ¬ gIs c L 60 (gS0 s) = true by rw [c27]; decide), if_neg (show ¬ gIs c L 62 (gS0 s) = true by rw [c64]; decide), if_neg (show ¬ gIs c L 61 (gS0 s) = true by rw [c101]; decide), if_neg (show ¬ gIs c L 94 (gS0 s) = true by rw [c129]; decide), if_pos c163]; done) | (rw [if_neg (show ¬ gIs c L 42 (gS0 s) = true by rw [c17]; decide), if_neg (show ¬ gIs c L 60 (gS0 s) = true by rw [c27]; decide), if_neg (show ¬ gIs c L 62 (gS0 s) = true by rw [c64]; decide), if_neg (show ¬ gIs c L 61 (gS0 s) = true by rw [c101]; decide), if_neg (show ¬ gIs c L 94 (gS0 s) = true by rw [c129]; decide), if_neg (show ¬ gIs c L 126 (gS0 s) = true by rw [c163]; decide)]; done) | fail "p")⟩
  · have c17 := jb0F c17
    exact J_vret dX8_readPart_20 rfl ⟨(by rfl), (by unfold gPrt; rw [if_pos c17])⟩

