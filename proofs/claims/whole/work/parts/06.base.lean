theorem cs1 : jCs 1 RJ4 TJ4 4 := ⟨rfl, rfl, by decide, nmJ4⟩
theorem cty1 : jTy 1 TJ4 4 tyJ4 := ⟨tyJ4_ok, by decide +kernel⟩
theorem cs4 : jCs 4 RX0 TX0 4 := ⟨rfl, rfl, by decide, nmX0⟩
theorem cty4 : jTy 4 TX0 4 tyX0 := ⟨tyX0_ok, by decide +kernel⟩
theorem cs5 : jCs 5 RX1 TX1 10 := ⟨rfl, rfl, by decide, nmX1⟩
theorem cty5 : jTy 5 TX1 10 tyX1 := ⟨tyX1_ok, by decide +kernel⟩
theorem cs6 : jCs 6 RX2 TX2 3 := ⟨rfl, rfl, by decide, nmX2⟩
theorem cty6 : jTy 6 TX2 3 tyX2 := ⟨tyX2_ok, by decide +kernel⟩
theorem cs7 : jCs 7 RX3 TX3 1 := ⟨rfl, rfl, by decide, nmX3⟩
theorem cty7 : jTy 7 TX3 1 tyX3 := ⟨tyX3_ok, by decide +kernel⟩
theorem cs8 : jCs 8 RX4 TX4 7 := ⟨rfl, rfl, by decide, nmX4⟩
theorem cty8 : jTy 8 TX4 7 tyX4 := ⟨tyX4_ok, by decide +kernel⟩
theorem cs9 : jCs 9 RX5 TX5 3 := ⟨rfl, rfl, by decide, nmX5⟩
theorem cty9 : jTy 9 TX5 3 tyX5 := ⟨tyX5_ok, by decide +kernel⟩
theorem cs10 : jCs 10 RX7 TX7 10 := ⟨rfl, rfl, by decide, nmX7⟩
theorem cty10 : jTy 10 TX7 10 tyX7 := ⟨tyX7_ok, by decide +kernel⟩
theorem cs11 : jCs 11 RX8 TX8 31 := ⟨rfl, rfl, by decide, nmX8⟩
theorem cty11 : jTy 11 TX8 31 tyX8 := ⟨tyX8_ok, by decide +kernel⟩
/-- an outcome and a memory, both known -/
abbrev jPo (o0 : jO) (M0 : jM) : jP := fun o M1 => o = o0 ∧ M1 = M0
abbrev oI (x : Int32) : jO := .inl (some (.int x))
abbrev oV : jO := .inl none
abbrev oR (r : Option Nat) : jO := .inl (some (va_rf r))
abbrev oD (x : UInt64) : jO := .inl (some (.double x))
abbrev oX (E : String) : jO := .inr E
/-- a boolean as an int -/
def jb (b : Bool) : Int32 := if b then 1 else 0
theorem jb_t : jb true = 1 := rfl
theorem jb_f : jb false = 0 := rfl
theorem jb_n (b : Bool) : narrow .boolean (.int (jb b)) = .int (jb b) := by cases b <;> rfl
theorem jb_fit (b : Bool) : fits .boolean (.int (jb b)) = true := by cases b <;> rfl
theorem jb_eq0 (b : Bool) : jb b = 0 ↔ b = false := by cases b <;> decide
theorem jb_inj {a b : Bool} : jb a = jb b ↔ a = b := by cases a <;> cases b <;> decide
theorem jinc (k : Nat) : nI k + Int32.ofInt 1 = nI (k + 1) := nI_1 k
theorem jclamp {k : Nat} (h : k < 2 ^ 31) : (nI k).toNatClampNeg = k := nI_clamp h
theorem jN_inj {a b : Nat} (ha : a < 2 ^ 31) (hb : b < 2 ^ 31) : nI a = nI b ↔ a = b := nI_eq ha hb
section Num
variable {l : Launch} {D : va_G} {dA : Nat → ClassId} {own : String} {cc : ByteArray} {ws : List Cond} {nL : Nat} {ini : Bool} {rt : Option FieldType} {hh : List (Nat × Nat × Nat × Nat)} {fr lo : Nat} {F : jFin} {n0 bc bs : Nat} {M : jM} {pc : Nat} {lv st : List Value}
theorem J_conv {M' : jM} {lv' st' : List Value} (hM : M = M') (hl : lv = lv') (hs : st = st') (k : J l D dA own cc ws nL ini rt hh fr lo F n0 bc bs M' pc lv' st') : J l D dA own cc ws nL ini rt hh fr lo F n0 bc bs M pc lv st := by
  subst hM; subst hl; subst hs; exact k
theorem J_fg {lv' : List Value} (i : Nat) (hlv : lv.set i (.float 0) = lv') (k : J l D dA own cc ws nL ini rt hh fr lo F n0 bc bs M pc lv' st) : J l D dA own cc ws nL ini rt hh fr lo F n0 bc bs M pc lv st := by
  subst hlv
  intro p e R s m args below meth c H locs cells slots MC MS A ad ad0 ls G hP hD hS hl hr
  refine k p e R s m args below meth c H locs cells slots MC MS A ad ad0 ls G hP hD hS ⟨hl.1, hl.2.1, fun j v hj hu => ?_⟩ hr
  by_cases hij : j = i
  · subst hij
    have hlt : j < lv.length := by
      have := (List.getElem?_eq_some_iff.mp hj).1
      simpa using this
    rw [List.getElem?_set_self hlt] at hj
    cases hj
    cases hu
  · rw [List.getElem?_set_ne (Ne.symm hij)] at hj
    exact hl.2.2 j v hj hu
theorem J_topi {x y : Int32} (e : x = y) (k : J l D dA own cc ws nL ini rt hh fr lo F n0 bc bs M pc lv (.int y :: st)) : J l D dA own cc ws nL ini rt hh fr lo F n0 bc bs M pc lv (.int x :: st) := by subst e; exact k
theorem J_topr {x y : Option Nat} (e : x = y) (k : J l D dA own cc ws nL ini rt hh fr lo F n0 bc bs M pc lv (va_rf y :: st)) : J l D dA own cc ws nL ini rt hh fr lo F n0 bc bs M pc lv (va_rf x :: st) := by subst e; exact k
theorem J_mem {M' : jM} (e : M = M') (k : J l D dA own cc ws nL ini rt hh fr lo F n0 bc bs M' pc lv st) : J l D dA own cc ws nL ini rt hh fr lo F n0 bc bs M pc lv st := by subst e; exact k
theorem J_getrs {ci j idx a q : Nat} {C ref : String} {T : u_T} {N : Nat} (hr : jr M a j = some q) (hd : decode cc pc = .ok (.getfield idx, 3)) (hin : ∀ w ∈ u_ws C T N, w ∈ ws) (hc : jCs ci C T N) (hj : j < N) (hf : jfr ci j = true) (hw : Cond.fieldLink own idx ref (T j).2.1 (T j).2.2.1 ∈ ws) (hs : ref = (T j).1) (ha : a < jn M) (hk : jk M a = ci) (k : J l D dA own cc ws nL ini rt hh fr lo F n0 bc bs M (pc + 3) lv (.ref q :: st)) : J l D dA own cc ws nL ini rt hh fr lo F n0 bc bs M pc lv (.ref a :: st) :=
  J_getr hd hin hc hj hf hw hs ha hk (J_topr hr k)
theorem jvin {k n : Nat} (h : k < n) (hn : n < 2 ^ 31) : vp_in (nI k) n := vp_in_nI h hn
theorem J_ialdN {a k : Nat} (hd : decode cc pc = .ok (.iaload, 1)) (ha : a < jn M) (hk : jk M a = 22) (h : k < jz M a) (hz : jz M a < 2 ^ 31) (kk : J l D dA own cc ws nL ini rt hh fr lo F n0 bc bs M (pc + 1) lv (.int (ji M a k) :: st)) : J l D dA own cc ws nL ini rt hh fr lo F n0 bc bs M pc lv (.int (nI k) :: .ref a :: st) := by
  refine J_iald hd ha hk (jvin h hz) ?_
  rw [nI_clamp (by omega)]
  exact kk
theorem J_caldN {a k : Nat} (hd : decode cc pc = .ok (.caload, 1)) (ha : a < jn M) (hk : jk M a = 21) (h : k < jz M a) (hz : jz M a < 2 ^ 31) (kk : J l D dA own cc ws nL ini rt hh fr lo F n0 bc bs M (pc + 1) lv (.int (ji M a k) :: st)) : J l D dA own cc ws nL ini rt hh fr lo F n0 bc bs M pc lv (.int (nI k) :: .ref a :: st) := by
  refine J_cald hd ha hk (jvin h hz) ?_
  rw [nI_clamp (by omega)]
  exact kk
theorem J_baldN {a k : Nat} (hd : decode cc pc = .ok (.baload, 1)) (ha : a < jn M) (hk : jk M a = 20) (h : k < jz M a) (hz : jz M a < 2 ^ 31) (kk : J l D dA own cc ws nL ini rt hh fr lo F n0 bc bs M (pc + 1) lv (.int (ji M a k) :: st)) : J l D dA own cc ws nL ini rt hh fr lo F n0 bc bs M pc lv (.int (nI k) :: .ref a :: st) := by
  refine J_bald hd ha hk (jvin h hz) ?_
  rw [nI_clamp (by omega)]
  exact kk
theorem J_iastN {a k : Nat} {x : Int32} (hd : decode cc pc = .ok (.iastore, 1)) (ha : a < jn M) (hk : jk M a = 22) (h : k < jz M a) (hz : jz M a < 2 ^ 31) (kk : J l D dA own cc ws nL ini rt hh fr lo F n0 bc bs (jSi M a k x) (pc + 1) lv st) : J l D dA own cc ws nL ini rt hh fr lo F n0 bc bs M pc lv (.int x :: .int (nI k) :: .ref a :: st) := by
  refine J_iast hd ha hk (jvin h hz) ?_
  rw [nI_clamp (by omega)]
  exact kk
theorem J_castN {a k : Nat} {x y : Int32} (hd : decode cc pc = .ok (.castore, 1)) (ha : a < jn M) (hk : jk M a = 21) (h : k < jz M a) (hz : jz M a < 2 ^ 31) (hy : vp_nar .char x = y) (kk : J l D dA own cc ws nL ini rt hh fr lo F n0 bc bs (jSi M a k y) (pc + 1) lv st) : J l D dA own cc ws nL ini rt hh fr lo F n0 bc bs M pc lv (.int x :: .int (nI k) :: .ref a :: st) := by
  refine J_cast hd ha hk (jvin h hz) ?_
  rw [nI_clamp (by omega), hy]
  exact kk
theorem J_bastN {a k : Nat} {x y : Int32} (hd : decode cc pc = .ok (.bastore, 1)) (ha : a < jn M) (hk : jk M a = 20) (h : k < jz M a) (hz : jz M a < 2 ^ 31) (hy : vp_nar .byte x = y) (kk : J l D dA own cc ws nL ini rt hh fr lo F n0 bc bs (jSi M a k y) (pc + 1) lv st) : J l D dA own cc ws nL ini rt hh fr lo F n0 bc bs M pc lv (.int x :: .int (nI k) :: .ref a :: st) := by
  refine J_bast hd ha hk (jvin h hz) ?_
  rw [nI_clamp (by omega), hy]
  exact kk
theorem J_aald3N {a k : Nat} (hd : decode cc pc = .ok (.aaload, 1)) (ha : a < jn M) (hk : jk M a = 23) (h : k < jz M a) (hz : jz M a < 2 ^ 31) (kk : J l D dA own cc ws nL ini rt hh fr lo F n0 bc bs M (pc + 1) lv (va_rf (jr M a k) :: st)) : J l D dA own cc ws nL ini rt hh fr lo F n0 bc bs M pc lv (.int (nI k) :: .ref a :: st) := by
  refine J_aald3 hd ha hk (jvin h hz) ?_
  rw [nI_clamp (by omega)]
  exact kk
theorem J_aald4N {a k : Nat} (hd : decode cc pc = .ok (.aaload, 1)) (ha : a < jn M) (hk : jk M a = 24) (h : k < jz M a) (hz : jz M a < 2 ^ 31) (kk : J l D dA own cc ws nL ini rt hh fr lo F n0 bc bs M (pc + 1) lv (va_rf (jr M a k) :: st)) : J l D dA own cc ws nL ini rt hh fr lo F n0 bc bs M pc lv (.int (nI k) :: .ref a :: st) := by
  refine J_aald4 hd ha hk (jvin h hz) ?_
  rw [nI_clamp (by omega)]
  exact kk
theorem J_aast3N {a k : Nat} {r : Option Nat} (hd : decode cc pc = .ok (.aastore, 1)) (ha : a < jn M) (hk : jk M a = 23) (h : k < jz M a) (hz : jz M a < 2 ^ 31) (hq : ∀ q, r = some q → q < jn M ∧ jk M q = 7) (kk : J l D dA own cc ws nL ini rt hh fr lo F n0 bc bs (jSr M a k r) (pc + 1) lv st) : J l D dA own cc ws nL ini rt hh fr lo F n0 bc bs M pc lv (va_rf r :: .int (nI k) :: .ref a :: st) := by
  refine J_aast3 hd ha hk (jvin h hz) hq ?_
  rw [nI_clamp (by omega)]
  exact kk
theorem J_aast4N {a k : Nat} {r : Option Nat} (hd : decode cc pc = .ok (.aastore, 1)) (ha : a < jn M) (hk : jk M a = 24) (h : k < jz M a) (hz : jz M a < 2 ^ 31) (hq : ∀ q, r = some q → q < jn M ∧ jk M q = 9) (kk : J l D dA own cc ws nL ini rt hh fr lo F n0 bc bs (jSr M a k r) (pc + 1) lv st) : J l D dA own cc ws nL ini rt hh fr lo F n0 bc bs M pc lv (va_rf r :: .int (nI k) :: .ref a :: st) := by
  refine J_aast4 hd ha hk (jvin h hz) hq ?_
  rw [nI_clamp (by omega)]
  exact kk

theorem J_calli0 {pcO : jO} {M' : jM} {st0 : List Value} {x : Int32} (hrun : jRun l D dA own cc ws nL ini rt hh fr lo n0 bc bs 0 0 1 (jPo pcO M') M pc lv st0 st) (hO : pcO = oI x) (hn : jn M' = jn M) (k : J l D dA own cc ws nL ini rt hh fr lo F n0 bc bs M' (pc + 3) lv (.int x :: st)) : J l D dA own cc ws nL ini rt hh fr lo F n0 bc bs M (pc) lv (st0) := by
  refine J_calli hrun ⟨Nat.zero_le _, Nat.zero_le _⟩ (Or.inl (fun o M1 h => by rw [h.2]; exact hn)) (fun E M1 hp _ => by have h1 := hp.1; rw [hO] at h1; cases h1) (fun x1 M1 hp hle => by
    obtain ⟨h1, rfl⟩ := hp
    have h2 := h1.trans hO
    cases h2
    exact k)
theorem J_calliA {pcO : jO} {M' : jM} {mc ms : Nat} {st0 : List Value} {x : Int32} (hrun : jRun l D dA own cc ws nL ini rt hh fr lo n0 bc bs mc ms 1 (jPo pcO M') M pc lv st0 st) (hO : pcO = oI x) (hb2 : mc ≤ bc ∧ ms ≤ bs) (hok : jOk (jn M) lv ∧ jOk (jn M) st) (k : J l D dA own cc ws nL ini rt hh fr lo F n0 (bc - mc) (bs - ms) M' (pc + 3) lv (.int x :: st)) : J l D dA own cc ws nL ini rt hh fr lo F n0 bc bs M (pc) lv (st0) := by
  refine J_calli hrun hb2 (Or.inr hok) (fun E M1 hp _ => by have h1 := hp.1; rw [hO] at h1; cases h1) (fun x1 M1 hp hle => by
    obtain ⟨h1, rfl⟩ := hp
    have h2 := h1.trans hO
    cases h2
    exact k)
theorem J_calliB {pcO : jO} {M' : jM} {mc ms : Nat} {st0 : List Value} {x : Int32} (hrun : jRun l D dA own cc ws nL ini rt hh fr lo n0 bc bs mc ms 1 (jPo pcO M') M pc lv st0 st) (hO : pcO = oI x) (hn : jn M' = jn M) (hb2 : mc ≤ bc ∧ ms ≤ bs) (k : J l D dA own cc ws nL ini rt hh fr lo F n0 (bc - mc) (bs - ms) M' (pc + 3) lv (.int x :: st)) : J l D dA own cc ws nL ini rt hh fr lo F n0 bc bs M (pc) lv (st0) := by
  refine J_calli hrun hb2 (Or.inl (fun o M1 h => by rw [h.2]; exact hn)) (fun E M1 hp _ => by have h1 := hp.1; rw [hO] at h1; cases h1) (fun x1 M1 hp hle => by
    obtain ⟨h1, rfl⟩ := hp
    have h2 := h1.trans hO
    cases h2
    exact k)
theorem J_calliX {pcO : jO} {M' : jM} {mc ms : Nat} {st0 : List Value} {E : String} (hrun : jRun l D dA own cc ws nL ini rt hh fr lo n0 bc bs mc ms 1 (jPo pcO M') M pc lv st0 st) (hO : pcO = oX E) (hb2 : mc ≤ bc ∧ ms ≤ bs) (hok : jn M' = jn M ∨ (jOk (jn M) lv ∧ jOk (jn M) st)) (kx : JX l D dA own cc ws nL ini rt hh fr lo F n0 (bc - mc) (bs - ms) E M' pc lv st) : J l D dA own cc ws nL ini rt hh fr lo F n0 bc bs M (pc) lv (st0) := by
  refine J_calli hrun hb2 (hok.imp (fun h o M1 h2 => by rw [h2.2]; exact h) id) (fun E1 M1 hp _ => by obtain ⟨h1, rfl⟩ := hp; have h2 := h1.trans hO; cases h2; exact kx) (fun x1 M1 hp hle => by have h2 := hp.1.trans hO; cases h2)
theorem J_callv0 {pcO : jO} {M' : jM} {st0 : List Value} (hrun : jRun l D dA own cc ws nL ini rt hh fr lo n0 bc bs 0 0 0 (jPo pcO M') M pc lv st0 st) (hO : pcO = oV) (hn : jn M' = jn M) (k : J l D dA own cc ws nL ini rt hh fr lo F n0 bc bs M' (pc + 3) lv (st)) : J l D dA own cc ws nL ini rt hh fr lo F n0 bc bs M (pc) lv (st0) := by
  refine J_callv hrun ⟨Nat.zero_le _, Nat.zero_le _⟩ (Or.inl (fun o M1 h => by rw [h.2]; exact hn)) (fun E M1 hp _ => by have h1 := hp.1; rw [hO] at h1; cases h1) (fun M1 hp hle => by
    obtain ⟨h1, rfl⟩ := hp
    exact k)
theorem J_callvA {pcO : jO} {M' : jM} {mc ms : Nat} {st0 : List Value} (hrun : jRun l D dA own cc ws nL ini rt hh fr lo n0 bc bs mc ms 0 (jPo pcO M') M pc lv st0 st) (hO : pcO = oV) (hb2 : mc ≤ bc ∧ ms ≤ bs) (hok : jOk (jn M) lv ∧ jOk (jn M) st) (k : J l D dA own cc ws nL ini rt hh fr lo F n0 (bc - mc) (bs - ms) M' (pc + 3) lv (st)) : J l D dA own cc ws nL ini rt hh fr lo F n0 bc bs M (pc) lv (st0) := by
  refine J_callv hrun hb2 (Or.inr hok) (fun E M1 hp _ => by have h1 := hp.1; rw [hO] at h1; cases h1) (fun M1 hp hle => by
    obtain ⟨h1, rfl⟩ := hp
    exact k)
theorem J_callvB {pcO : jO} {M' : jM} {mc ms : Nat} {st0 : List Value} (hrun : jRun l D dA own cc ws nL ini rt hh fr lo n0 bc bs mc ms 0 (jPo pcO M') M pc lv st0 st) (hO : pcO = oV) (hn : jn M' = jn M) (hb2 : mc ≤ bc ∧ ms ≤ bs) (k : J l D dA own cc ws nL ini rt hh fr lo F n0 (bc - mc) (bs - ms) M' (pc + 3) lv (st)) : J l D dA own cc ws nL ini rt hh fr lo F n0 bc bs M (pc) lv (st0) := by
  refine J_callv hrun hb2 (Or.inl (fun o M1 h => by rw [h.2]; exact hn)) (fun E M1 hp _ => by have h1 := hp.1; rw [hO] at h1; cases h1) (fun M1 hp hle => by
    obtain ⟨h1, rfl⟩ := hp
    exact k)
theorem J_callvX {pcO : jO} {M' : jM} {mc ms : Nat} {st0 : List Value} {E : String} (hrun : jRun l D dA own cc ws nL ini rt hh fr lo n0 bc bs mc ms 0 (jPo pcO M') M pc lv st0 st) (hO : pcO = oX E) (hb2 : mc ≤ bc ∧ ms ≤ bs) (hok : jn M' = jn M ∨ (jOk (jn M) lv ∧ jOk (jn M) st)) (kx : JX l D dA own cc ws nL ini rt hh fr lo F n0 (bc - mc) (bs - ms) E M' pc lv st) : J l D dA own cc ws nL ini rt hh fr lo F n0 bc bs M (pc) lv (st0) := by
  refine J_callv hrun hb2 (hok.imp (fun h o M1 h2 => by rw [h2.2]; exact h) id) (fun E1 M1 hp _ => by obtain ⟨h1, rfl⟩ := hp; have h2 := h1.trans hO; cases h2; exact kx) (fun M1 hp hle => by have h2 := hp.1.trans hO; cases h2)
theorem J_callq0 {pcO : jO} {M' : jM} {st0 : List Value} {x : Option Nat} (hrun : jRun l D dA own cc ws nL ini rt hh fr lo n0 bc bs 0 0 2 (jPo pcO M') M pc lv st0 st) (hO : pcO = oR x) (hn : jn M' = jn M) (k : J l D dA own cc ws nL ini rt hh fr lo F n0 bc bs M' (pc + 3) lv (va_rf x :: st)) : J l D dA own cc ws nL ini rt hh fr lo F n0 bc bs M (pc) lv (st0) := by
  refine J_callq hrun ⟨Nat.zero_le _, Nat.zero_le _⟩ (Or.inl (fun o M1 h => by rw [h.2]; exact hn)) (fun E M1 hp _ => by have h1 := hp.1; rw [hO] at h1; cases h1) (fun x1 M1 hp hle => by
    obtain ⟨h1, rfl⟩ := hp
    have h2 := h1.trans hO
    have h3 : va_rf x1 = va_rf x := Option.some.inj (Sum.inl.inj h2)
    rw [h3]
    exact k)
theorem J_callqA {pcO : jO} {M' : jM} {mc ms : Nat} {st0 : List Value} {x : Option Nat} (hrun : jRun l D dA own cc ws nL ini rt hh fr lo n0 bc bs mc ms 2 (jPo pcO M') M pc lv st0 st) (hO : pcO = oR x) (hb2 : mc ≤ bc ∧ ms ≤ bs) (hok : jOk (jn M) lv ∧ jOk (jn M) st) (k : J l D dA own cc ws nL ini rt hh fr lo F n0 (bc - mc) (bs - ms) M' (pc + 3) lv (va_rf x :: st)) : J l D dA own cc ws nL ini rt hh fr lo F n0 bc bs M (pc) lv (st0) := by
  refine J_callq hrun hb2 (Or.inr hok) (fun E M1 hp _ => by have h1 := hp.1; rw [hO] at h1; cases h1) (fun x1 M1 hp hle => by
    obtain ⟨h1, rfl⟩ := hp
    have h2 := h1.trans hO
    have h3 : va_rf x1 = va_rf x := Option.some.inj (Sum.inl.inj h2)
    rw [h3]
    exact k)
theorem J_callqB {pcO : jO} {M' : jM} {mc ms : Nat} {st0 : List Value} {x : Option Nat} (hrun : jRun l D dA own cc ws nL ini rt hh fr lo n0 bc bs mc ms 2 (jPo pcO M') M pc lv st0 st) (hO : pcO = oR x) (hn : jn M' = jn M) (hb2 : mc ≤ bc ∧ ms ≤ bs) (k : J l D dA own cc ws nL ini rt hh fr lo F n0 (bc - mc) (bs - ms) M' (pc + 3) lv (va_rf x :: st)) : J l D dA own cc ws nL ini rt hh fr lo F n0 bc bs M (pc) lv (st0) := by
  refine J_callq hrun hb2 (Or.inl (fun o M1 h => by rw [h.2]; exact hn)) (fun E M1 hp _ => by have h1 := hp.1; rw [hO] at h1; cases h1) (fun x1 M1 hp hle => by
    obtain ⟨h1, rfl⟩ := hp
    have h2 := h1.trans hO
    have h3 : va_rf x1 = va_rf x := Option.some.inj (Sum.inl.inj h2)
    rw [h3]
    exact k)
theorem J_callqX {pcO : jO} {M' : jM} {mc ms : Nat} {st0 : List Value} {E : String} (hrun : jRun l D dA own cc ws nL ini rt hh fr lo n0 bc bs mc ms 2 (jPo pcO M') M pc lv st0 st) (hO : pcO = oX E) (hb2 : mc ≤ bc ∧ ms ≤ bs) (hok : jn M' = jn M ∨ (jOk (jn M) lv ∧ jOk (jn M) st)) (kx : JX l D dA own cc ws nL ini rt hh fr lo F n0 (bc - mc) (bs - ms) E M' pc lv st) : J l D dA own cc ws nL ini rt hh fr lo F n0 bc bs M (pc) lv (st0) := by
  refine J_callq hrun hb2 (hok.imp (fun h o M1 h2 => by rw [h2.2]; exact h) id) (fun E1 M1 hp _ => by obtain ⟨h1, rfl⟩ := hp; have h2 := h1.trans hO; cases h2; exact kx) (fun x1 M1 hp hle => by have h2 := hp.1.trans hO; cases h2)
theorem J_calld0 {pcO : jO} {M' : jM} {st0 : List Value} {x : UInt64} (hrun : jRun l D dA own cc ws nL ini rt hh fr lo n0 bc bs 0 0 3 (jPo pcO M') M pc lv st0 st) (hO : pcO = oD x) (hn : jn M' = jn M) (k : J l D dA own cc ws nL ini rt hh fr lo F n0 bc bs M' (pc + 3) lv (.double x :: st)) : J l D dA own cc ws nL ini rt hh fr lo F n0 bc bs M (pc) lv (st0) := by
  refine J_calld hrun ⟨Nat.zero_le _, Nat.zero_le _⟩ (Or.inl (fun o M1 h => by rw [h.2]; exact hn)) (fun E M1 hp _ => by have h1 := hp.1; rw [hO] at h1; cases h1) (fun x1 M1 hp hle => by
    obtain ⟨h1, rfl⟩ := hp
    have h2 := h1.trans hO
    cases h2
    exact k)
theorem J_calldA {pcO : jO} {M' : jM} {mc ms : Nat} {st0 : List Value} {x : UInt64} (hrun : jRun l D dA own cc ws nL ini rt hh fr lo n0 bc bs mc ms 3 (jPo pcO M') M pc lv st0 st) (hO : pcO = oD x) (hb2 : mc ≤ bc ∧ ms ≤ bs) (hok : jOk (jn M) lv ∧ jOk (jn M) st) (k : J l D dA own cc ws nL ini rt hh fr lo F n0 (bc - mc) (bs - ms) M' (pc + 3) lv (.double x :: st)) : J l D dA own cc ws nL ini rt hh fr lo F n0 bc bs M (pc) lv (st0) := by
  refine J_calld hrun hb2 (Or.inr hok) (fun E M1 hp _ => by have h1 := hp.1; rw [hO] at h1; cases h1) (fun x1 M1 hp hle => by
    obtain ⟨h1, rfl⟩ := hp
    have h2 := h1.trans hO
    cases h2
    exact k)
theorem J_calldB {pcO : jO} {M' : jM} {mc ms : Nat} {st0 : List Value} {x : UInt64} (hrun : jRun l D dA own cc ws nL ini rt hh fr lo n0 bc bs mc ms 3 (jPo pcO M') M pc lv st0 st) (hO : pcO = oD x) (hn : jn M' = jn M) (hb2 : mc ≤ bc ∧ ms ≤ bs) (k : J l D dA own cc ws nL ini rt hh fr lo F n0 (bc - mc) (bs - ms) M' (pc + 3) lv (.double x :: st)) : J l D dA own cc ws nL ini rt hh fr lo F n0 bc bs M (pc) lv (st0) := by
  refine J_calld hrun hb2 (Or.inl (fun o M1 h => by rw [h.2]; exact hn)) (fun E M1 hp _ => by have h1 := hp.1; rw [hO] at h1; cases h1) (fun x1 M1 hp hle => by
    obtain ⟨h1, rfl⟩ := hp
    have h2 := h1.trans hO
    cases h2
    exact k)
theorem J_calldX {pcO : jO} {M' : jM} {mc ms : Nat} {st0 : List Value} {E : String} (hrun : jRun l D dA own cc ws nL ini rt hh fr lo n0 bc bs mc ms 3 (jPo pcO M') M pc lv st0 st) (hO : pcO = oX E) (hb2 : mc ≤ bc ∧ ms ≤ bs) (hok : jn M' = jn M ∨ (jOk (jn M) lv ∧ jOk (jn M) st)) (kx : JX l D dA own cc ws nL ini rt hh fr lo F n0 (bc - mc) (bs - ms) E M' pc lv st) : J l D dA own cc ws nL ini rt hh fr lo F n0 bc bs M (pc) lv (st0) := by
  refine J_calld hrun hb2 (hok.imp (fun h o M1 h2 => by rw [h2.2]; exact h) id) (fun E1 M1 hp _ => by obtain ⟨h1, rfl⟩ := hp; have h2 := h1.trans hO; cases h2; exact kx) (fun x1 M1 hp hle => by have h2 := hp.1.trans hO; cases h2)
end Num
theorem jres {x y : Int32} {M M' : jM} (h : x = y) (hM : M = M') : jPo (oI y) M' (Sum.inl (some (Value.int x))) M := ⟨by rw [h], hM⟩
theorem jget_self (M : jM) (a k : Nat) (x : Int32) : ji (jSi M a k x) a k = x := by simp [ji_Si]
