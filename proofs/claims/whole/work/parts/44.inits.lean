def cS0 : cSt := (fun _ => none, 0, fun _ => 0)
/-- the state of a new object -/
def cA0 : cA := ((0, fun _ => 0), -1, -1, none, cS0, cS0, false, 0, fun _ => cS0)
theorem jXo.eq {t : Nat} {M M1 : jM} (h : jXo t M M1) {a : Nat} (ha : a < jn M) (hne : a ≠ t) : jEq M M1 a := h.2 a ha hne
theorem jEq.nw {M : jM} {kd len a : Nat} (ha : a < jn M) : jEq M (jNw M kd len) a := jExt.nw.2 a ha
theorem jEq.sr {M : jM} {t j a : Nat} {r : Option Nat} (h : a ≠ t) : jEq M (jSr M t j r) a := ⟨rfl, rfl, rfl, funext fun i => by rw [jr_Sr, if_neg (fun hh => h hh.1)], rfl, rfl⟩
theorem jEq.si {M : jM} {t j a : Nat} {x : Int32} (h : a ≠ t) : jEq M (jSi M t j x) a := ⟨rfl, rfl, funext fun i => by rw [ji_Si, if_neg (fun hh => h hh.1)], rfl, rfl, rfl⟩
theorem jSt.eq0 {M M1 : jM} {s : Nat} (h : jSt M s cS0) (hn : jn M ≤ jn M1) (h0 : jEq M M1 s) (h1 : jEq M M1 (s + 1)) (h2 : jEq M M1 (s + 2)) : jSt M1 s cS0 := by
  obtain ⟨⟨a1, a2, a3, a4, a5, a6, a7, a8, a9, a10⟩, b, c⟩ := h
  obtain ⟨k1, k2, k3, k4, -, -⟩ := h0
  obtain ⟨l1, l2, l3, l4, -, -⟩ := h1
  obtain ⟨m1, m2, m3, m4, -, -⟩ := h2
  refine ⟨⟨by omega, k1.trans a2, by rw [k4]; exact a3, by rw [k4]; exact a4, l1.trans a5, l2.trans a6, m1.trans a7, m2.trans a8, by rw [k3]; exact a9, a10⟩, fun j hj => ?_, fun j hj => absurd hj (Nat.not_lt_zero _)⟩
  have hb := (b j hj).1
  rw [l4]
  cases hr : jr M (s + 1) j with
  | none => exact ⟨trivial, fun w hw => by cases hw⟩
  | some t => rw [hr] at hb; exact absurd hb id
/-- what making a state does -/
def jSI (M : jM) (t : Nat) : jM := jSi (jSr (jNw (jSr (jNw M 23 12) t 0 (some (jn M))) 22 30) t 1 (some (jn M + 1))) t 2 0
theorem jSI_f {M : jM} {t : Nat} (hcl : jCl M) (ht : t + 1 = jn M) (hk : jk M t = 9) : jn (jSI M t) = t + 3 ∧ jCl (jSI M t) ∧ jSt (jSI M t) t cS0 ∧ jXo t M (jSI M t) := by
  have hn : jn (jSI M t) = t + 3 := by show jn M + 1 + 1 = t + 3; omega
  have hkk : ∀ a, jk (jSI M t) a = if a = jn M + 1 then 22 else if a = jn M then 23 else jk M a := fun a => by show jk (jNw (jSr (jNw M 23 12) t 0 (some (jn M))) 22 30) a = _; rw [jk_Nw]; show (if a = jn M + 1 then 22 else jk (jNw M 23 12) a) = _; rw [jk_Nw]
  have hzz : ∀ a, jz (jSI M t) a = if a = jn M + 1 then 30 else if a = jn M then 12 else jz M a := fun a => by show jz (jNw (jSr (jNw M 23 12) t 0 (some (jn M))) 22 30) a = _; rw [jz_Nw]; show (if a = jn M + 1 then 30 else jz (jNw M 23 12) a) = _; rw [jz_Nw]
  have hri : ∀ a j, a ≠ t → jr (jSI M t) a j = if a = jn M + 1 then none else if a = jn M then none else jr M a j := fun a j ha => by
    show jr (jSr (jNw (jSr (jNw M 23 12) t 0 (some (jn M))) 22 30) t 1 (some (jn M + 1))) a j = _
    rw [jr_Sr, if_neg (fun hh => ha hh.1), jr_Nw]
    show (if a = jn M + 1 then none else jr (jSr (jNw M 23 12) t 0 (some (jn M))) a j) = _
    rw [jr_Sr, if_neg (show ¬ (a = t ∧ (j = 0)) from fun hh => ha hh.1), jr_Nw]
  have hii : ∀ a j, a ≠ t → ji (jSI M t) a j = if a = jn M + 1 then 0 else if a = jn M then 0 else ji M a j := fun a j ha => by
    show ji (jSi _ t 2 0) a j = _
    rw [ji_Si, if_neg (fun hh => ha hh.1)]
    show ji (jNw (jSr (jNw M 23 12) t 0 (some (jn M))) 22 30) a j = _
    rw [ji_Nw]
    show (if a = jn M + 1 then 0 else ji (jNw M 23 12) a j) = _
    rw [ji_Nw]
  refine ⟨hn, ?_, ⟨⟨by omega, ?_, ?_, ?_, ?_, ?_, ?_, ?_, ?_, Nat.zero_le _⟩, fun j hj => ⟨?_, fun w hw => by cases hw⟩, fun j hj => absurd hj (Nat.not_lt_zero _)⟩, by omega, fun a ha hne => ⟨?_, ?_, ?_, ?_, ?_, ?_⟩⟩
  · exact jCl_Si (jCl_Sr (jCl_Nw (jCl_Sr (jCl_Nw hcl) (fun q hq => by cases hq; exact Nat.lt_succ_self _))) (fun q hq => by cases hq; show jn M + 1 < jn M + 1 + 1; omega))
  · rw [hkk, if_neg (by omega), if_neg (by omega)]; exact hk
  · show jr (jSr (jNw (jSr (jNw M 23 12) t 0 (some (jn M))) 22 30) t 1 (some (jn M + 1))) t 0 = _
    rw [jr_Sr, if_neg (fun hh => absurd hh.2 (by decide)), jr_Nw, if_neg (by show t ≠ jn M + 1; omega), jr_Sr, if_pos ⟨rfl, rfl⟩, ht]
  · show jr (jSr (jNw (jSr (jNw M 23 12) t 0 (some (jn M))) 22 30) t 1 (some (jn M + 1))) t 1 = _
    rw [jr_Sr, if_pos ⟨rfl, rfl⟩, ← ht]
  · rw [hkk, if_neg (by omega), if_pos (by omega)]
  · rw [hzz, if_neg (by omega), if_pos (by omega)]
  · rw [hkk, if_pos (by omega)]
  · rw [hzz, if_pos (by omega)]
  · show ji (jSi _ t 2 0) t 2 = _; rw [ji_Si, if_pos ⟨rfl, rfl⟩]; rfl
  · rw [hri _ _ (by omega), if_neg (by omega), if_pos (by omega)]; trivial
  · rw [hkk, if_neg (by omega), if_neg (by omega)]
  · rw [hzz, if_neg (by omega), if_neg (by omega)]
  · funext j; rw [hii _ _ hne, if_neg (by omega), if_neg (by omega)]
  · funext j; rw [hri _ _ hne, if_neg (by omega), if_neg (by omega)]
  · funext j; show jl (jNw (jSr (jNw M 23 12) t 0 (some (jn M))) 22 30) a j = _; rw [jl_Nw, if_neg (by show a ≠ jn M + 1; omega)]; show jl (jNw M 23 12) a j = _; rw [jl_Nw, if_neg (by omega)]
  · funext j; show jd (jNw (jSr (jNw M 23 12) t 0 (some (jn M))) 22 30) a j = _; rw [jd_Nw, if_neg (by show a ≠ jn M + 1; omega)]; show jd (jNw M 23 12) a j = _; rw [jd_Nw, if_neg (by omega)]
/-- the memory while the history makes its states -/
def jHk (M Mk : jM) (h k : Nat) : Prop := jn Mk = h + 2 + 3 * k ∧ jCl Mk ∧ jXo h M Mk ∧ jk Mk h = 6 ∧ jr Mk h 0 = some (h + 1) ∧ ji Mk h 1 = 0 ∧ ji Mk h 2 = 0 ∧ jk Mk (h + 1) = 24 ∧ jz Mk (h + 1) = 8 ∧ (∀ j, j < k → jr Mk (h + 1) j = some (h + 2 + 3 * j)) ∧ ∀ j, j < k → jSt Mk (h + 2 + 3 * j) cS0
theorem jHk.step {M Mk X : jM} {h k : Nat} (hH : jHk M Mk h k) (hM : h + 1 = jn M) (b1 : jn X = jn Mk + 3) (b2 : jCl X) (b3 : jSt X (jn Mk) cS0) (b4 : jXo (jn Mk) (jNw Mk 9 0) X) : jHk M (jSr X (h + 1) k (some (jn Mk))) h (k + 1) := by
  obtain ⟨a1, a2, a3, a4, a5, a6, a7, a8, a9, a10, a11⟩ := hH
  have old0 : ∀ a, a < jn Mk → jEq Mk X a := fun a ha => (jEq.nw ha).tr (b4.eq (Nat.lt_succ_of_lt ha) (Nat.ne_of_lt ha))
  have old : ∀ a, a < jn Mk → a ≠ h + 1 → jEq Mk (jSr X (h + 1) k (some (jn Mk))) a := fun a ha hne => (old0 a ha).tr (jEq.sr hne)
  have e1 := old h (by omega) (by omega)
  have hh1 := old0 (h + 1) (by omega)
  have hn : jn (jSr X (h + 1) k (some (jn Mk))) = jn Mk + 3 := b1
  have hle := a3.1
  refine ⟨by omega, jCl_Sr b2 (fun q hq => by cases hq; omega), ⟨by omega, fun a ha hne => ?_⟩, e1.1.trans a4, by rw [e1.2.2.2.1]; exact a5, by rw [e1.2.2.1]; exact a6, by rw [e1.2.2.1]; exact a7, hh1.1.trans a8, hh1.2.1.trans a9, fun j hj => ?_, fun j hj => ?_⟩
  · exact jEq.tr (a3.eq ha hne) (old a (by omega) (by omega))
  · rw [jr_Sr]
    by_cases hjk : j = k
    · rw [if_pos ⟨rfl, hjk⟩, a1, hjk]
    · rw [if_neg (fun hh => hjk hh.2), hh1.2.2.2.1]; exact a10 j (by omega)
  · by_cases hjk : j = k
    · subst hjk
      rw [← a1]
      exact b3.eq0 (Nat.le_refl _) (jEq.sr (by omega)) (jEq.sr (by omega)) (jEq.sr (by omega))
    · exact (a11 j (by omega)).eq0 (by omega) (old _ (by omega) (by omega)) (old _ (by omega) (by omega)) (old _ (by omega) (by omega))
theorem jHk.fin {M Mk : jM} {h : Nat} (hH : jHk M Mk h 8) : jHis Mk h 0 0 ∧ (∀ j, j < 8 → jSt Mk (h + 2 + 3 * j) cS0) ∧ jn Mk = h + 26 ∧ jCl Mk ∧ jXo h M Mk := by
  obtain ⟨a1, a2, a3, a4, a5, a6, a7, a8, a9, a10, a11⟩ := hH
  exact ⟨⟨by omega, a4, a5, a8, a9, a10, fun j hj => ⟨_, (a11 j hj).1⟩, a6, a7, by decide, by decide⟩, a11, by omega, a2, a3⟩
theorem dX2_init_0 : decode cX2_init 0 = .ok (.aload_n 0, 1) := by decide +kernel
theorem dX2_init_1 : decode cX2_init 1 = .ok (.invokespecial 3, 3) := by decide +kernel
theorem dX2_init_4 : decode cX2_init 4 = .ok (.aload_n 0, 1) := by decide +kernel
theorem dX2_init_5 : decode cX2_init 5 = .ok (.bipush 8, 2) := by decide +kernel
theorem dX2_init_7 : decode cX2_init 7 = .ok (.anewarray 9, 3) := by decide +kernel
theorem dX2_init_10 : decode cX2_init 10 = .ok (.putfield 11, 3) := by decide +kernel
theorem dX2_init_13 : decode cX2_init 13 = .ok (.aload_n 0, 1) := by decide +kernel
theorem dX2_init_14 : decode cX2_init 14 = .ok (.iconst 0, 1) := by decide +kernel
theorem dX2_init_15 : decode cX2_init 15 = .ok (.putfield 17, 3) := by decide +kernel
theorem dX2_init_18 : decode cX2_init 18 = .ok (.aload_n 0, 1) := by decide +kernel
theorem dX2_init_19 : decode cX2_init 19 = .ok (.iconst 0, 1) := by decide +kernel
theorem dX2_init_20 : decode cX2_init 20 = .ok (.putfield 21, 3) := by decide +kernel
theorem dX2_init_25 : decode cX2_init 25 = .ok (.iload_n 1, 1) := by decide +kernel
theorem dX2_init_26 : decode cX2_init 26 = .ok (.bipush 8, 2) := by decide +kernel
theorem dX2_init_28 : decode cX2_init 28 = .ok (.if_icmp .ge 22, 3) := by decide +kernel
theorem dX2_init_50 : decode cX2_init 50 = .ok (.return_, 1) := by decide +kernel
theorem dX2_init_31 : decode cX2_init 31 = .ok (.aload_n 0, 1) := by decide +kernel
theorem dX2_init_32 : decode cX2_init 32 = .ok (.getfield 11, 3) := by decide +kernel
theorem dX2_init_35 : decode cX2_init 35 = .ok (.iload_n 1, 1) := by decide +kernel
theorem dX2_init_36 : decode cX2_init 36 = .ok (.new 9, 3) := by decide +kernel
theorem dX2_init_39 : decode cX2_init 39 = .ok (.dup, 1) := by decide +kernel
theorem dX2_init_40 : decode cX2_init 40 = .ok (.invokespecial 24, 3) := by decide +kernel
set_option maxRecDepth 20000 in
theorem ggX2_init_X5_init : GoodIn wsX2_init wsX5_init := goodIn_r _ [11, 12, 2, 3, 13, 14, 15, 16, 17, 21, 22, 23] (by decide +kernel) (by decide +kernel)
set_option maxRecDepth 20000 in
theorem gX2_init_X5_init_n24 : GoodIn wsX2_init (wsX5_init) := ggX2_init_X5_init
theorem yY_X5_init : jY yX5_init wsX5_init cX5_init 1 none 0 := ⟨⟨_, rfl⟩, by decide +kernel, by decide +kernel, by decide +kernel⟩
theorem jnw_X2_init_24 : Cond.methodLinkNest RX2 24 yX5_init "VersionAlgebra" ∈ jNws := List.mem_filter.mpr ⟨by decide +kernel, rfl⟩
theorem dX2_init_43 : decode cX2_init 43 = .ok (.aastore, 1) := by decide +kernel
theorem dX2_init_44 : decode cX2_init 44 = .ok (.iinc 1 1, 3) := by decide +kernel
theorem dX2_init_47 : decode cX2_init 47 = .ok (.goto (-22), 3) := by decide +kernel
theorem dX2_init_23 : decode cX2_init 23 = .ok (.iconst 0, 1) := by decide +kernel
theorem dX2_init_24 : decode cX2_init 24 = .ok (.istore_n 1, 1) := by decide +kernel
set_option maxHeartbeats 400000 in
set_option maxRecDepth 20000 in
theorem ct_X2_init (l : Launch) (D : va_G) (dA : Nat → ClassId) (hst : l.stackTraces = false) (M : jM) (hcl : jCl M) (h : Nat) (hh : h + 1 = jn M) (hk : jk M h = 6) : jCT l D dA yX2_init wsX2_init (23) (480) (25) (400) 0 [.ref (h)] M (fun o M1 => o = oV ∧ jHis M1 h 0 0 ∧ (∀ j, j < 8 → jSt M1 (h + 2 + 3 * j) cS0) ∧ jn M1 = h + 26 ∧ jCl M1 ∧ jXo h M M1) := by
  refine jBody (cc := cX2_init) (nL := 2) (rt := none) (ini := true) (by decide) rfl hst (Nat.le_of_ble_eq_true rfl) (by simp [Value.category]) (by intro h9; first | exact absurd h9 (by decide) | rfl) ?_
  show J l D dA RX2 cX2_init wsX2_init 2 true none [] (23) (480) (jF D dA (jn M) (fun o M1 => o = oV ∧ jHis M1 h 0 0 ∧ (∀ j, j < 8 → jSt M1 (h + 2 + 3 * j) cS0) ∧ jn M1 = h + 26 ∧ jCl M1 ∧ jXo h M M1) 0) (jn M) (25) (400) (M) 0 [.ref (h), .float 0] []
  refine J_aload_n (h) dX2_init_0 rfl rfl ?_
  refine J_objInit dX2_init_1 (List.mem_of_getElem? (i := 1) rfl) (List.mem_of_getElem? (i := 2) rfl) (List.mem_of_getElem? (i := 3) rfl) (Nat.le_of_ble_eq_true rfl) (by omega) (by omega) ?_
  refine J_aload_n (h) dX2_init_4 rfl rfl ?_
  refine J_bipush (x := 8) dX2_init_5 (by decide) ?_
  refine J_newq4 (N' := 8) (n := (8)) dX2_init_7 (List.mem_of_getElem? (i := 4) rfl) (nI_pos (n := 8) (by omega)) (nI_clamp (n := 8) (by omega)) (by omega) (by omega) (by omega) (hcl) (jOk.ref (show h < jn M from by omega) (jOk.float jOk.nil)) (jOk.ref (show h < jn M from by omega) jOk.nil) ?_
  refine J_putrF (j := 0) (r := some (jn M)) dX2_init_10 (fun _ h => List.mem_cons_of_mem _ (List.mem_append_left _ (List.mem_append_right _ (h)))) cs6 cty6 (by decide) rfl (List.mem_of_getElem? (i := 5) rfl) rfl rfl rfl rfl jfit_rA (by have h9 := (show h < jn M from by omega); first | exact h9 | (simp only [jn_Nw, jn_Si, jn_Sr, jn_Sv, jn_Sq]; omega)) (jk_new (M := M) (kd := 24) (len := 8) (by have h9 := (show h < jn M from by omega); first | exact h9 | (simp only [jn_Nw, jn_Si, jn_Sr, jn_Sv, jn_Sq]; omega)) hk) ?_
  refine J_aload_n (h) dX2_init_13 rfl rfl ?_
  refine J_iconst (x := 0) dX2_init_14 (by decide) ?_
  refine J_puti (j := 1) (x := (0)) dX2_init_15 (fun _ h => List.mem_cons_of_mem _ (List.mem_append_left _ (List.mem_append_right _ (h)))) cs6 cty6 (by decide) rfl (List.mem_of_getElem? (i := 6) rfl) rfl rfl ⟨rfl, rfl⟩ (by have h9 := (show h < jn M from by omega); first | exact h9 | (simp only [jn_Nw, jn_Si, jn_Sr, jn_Sv, jn_Sq]; omega)) (jk_new (M := M) (kd := 24) (len := 8) (by have h9 := (show h < jn M from by omega); first | exact h9 | (simp only [jn_Nw, jn_Si, jn_Sr, jn_Sv, jn_Sq]; omega)) hk) ?_
  refine J_aload_n (h) dX2_init_18 rfl rfl ?_
  refine J_iconst (x := 0) dX2_init_19 (by decide) ?_
  refine J_puti (j := 2) (x := (0)) dX2_init_20 (fun _ h => List.mem_cons_of_mem _ (List.mem_append_left _ (List.mem_append_right _ (h)))) cs6 cty6 (by decide) rfl (List.mem_of_getElem? (i := 7) rfl) rfl rfl ⟨rfl, rfl⟩ (by have h9 := (show h < jn M from by omega); first | exact h9 | (simp only [jn_Nw, jn_Si, jn_Sr, jn_Sv, jn_Sq]; omega)) (jk_new (M := M) (kd := 24) (len := 8) (by have h9 := (show h < jn M from by omega); first | exact h9 | (simp only [jn_Nw, jn_Si, jn_Sr, jn_Sv, jn_Sq]; omega)) hk) ?_
  have L25 : ∀ (fuel : Nat) (k : Nat) (Mk : jM) (hkk : k ≤ 8) (hH : jHk M Mk h k), 8 - k < fuel → J l D dA RX2 cX2_init wsX2_init 2 true none [] (23) (480) (jF D dA (jn M) (fun o M1 => o = oV ∧ jHis M1 h 0 0 ∧ (∀ j, j < 8 → jSt M1 (h + 2 + 3 * j) cS0) ∧ jn M1 = h + 26 ∧ jCl M1 ∧ jXo h M M1) 0) (jn M) (3 * (8 - k)) (48 * (8 - k)) (Mk) 25 [.ref (h), .int (nI (k))] [] := by
    intro fuel
    induction fuel with
    | zero => intro k Mk hkk hH hm; exact absurd hm (Nat.not_lt_zero _)
    | succ fuel ih25 =>
      intro k Mk hkk hH hm25
      refine J_iload_n dX2_init_25 rfl rfl ?_
      refine J_bipush (x := 8) dX2_init_26 (by decide) ?_
      refine J_icmp_ge dX2_init_28 (tgt := 50) (by decide) (fun c28 => ?_) (fun c28 => ?_)
      · have c28 := jleT (a := 8) (b := k) (by omega) (by omega) c28
        exact J_vret dX2_init_50 rfl (by have e8 : k = 8 := (by omega); subst e8; exact ⟨rfl, hH.fin⟩)
      · have c28 := jleF (a := 8) (b := k) (by omega) (by omega) c28
        refine J_aload_n (h) dX2_init_31 rfl rfl ?_
        refine J_getrs (q := h + 1) hH.2.2.2.2.1 dX2_init_32 (fun _ h => List.mem_cons_of_mem _ (List.mem_append_left _ (List.mem_append_right _ (h)))) cs6 (by decide) rfl (List.mem_of_getElem? (i := 5) rfl) rfl (show h < jn Mk from by have := hH.1; omega) hH.2.2.2.1 ?_
        refine J_iload_n dX2_init_35 rfl rfl ?_
        refine J_new (ci := 9) dX2_init_36 (fun _ h => List.mem_cons_of_mem _ (List.mem_append_right _ (h))) cs9 cty9 (List.mem_of_getElem? (i := 4) rfl) (List.mem_of_getElem? (i := 8) rfl) (List.mem_of_getElem? (i := 9) rfl) (by omega) (by omega) (hH.2.1) (jOk.ref (show h < jn Mk from by have := hH.1; omega) (jOk.int jOk.nil)) (jOk.int (jOk.ref (show h + 1 < jn Mk from by have := hH.1; omega) jOk.nil)) ?_
        refine J_dup dX2_init_39 rfl ?_
        have hfX40 := jSI_f (M := jNw Mk 9 0) (t := jn Mk) (jCl_Nw (hH.2.1)) rfl (by simp [jk_Nw, jk_Si, jk_Sr, jk_Sv, jn_Nw, jn_Si, jn_Sr, jn_Sv])
        refine J_callvA (jrunIN (ret := none) (As := []) (ct_X5_init l D dA hst (jNw Mk 9 0) (jCl_Nw (hH.2.1)) (jn Mk) (by simp [jn_Nw, jn_Si, jn_Sr, jn_Sv] <;> omega) (by simp [jk_Nw, jk_Si, jk_Sr, jk_Sv, jn_Nw, jn_Si, jn_Sr, jn_Sv])) dX2_init_40 yY_X5_init gX2_init_X5_init_n24 rfl (List.mem_of_getElem? (i := 9) rfl) jnw_X2_init_24 (List.mem_of_getElem? (i := 10) rfl) rfl ⟨by omega, by omega⟩ ⟨by omega, by omega⟩ rfl (Nat.le_of_ble_eq_true rfl)) (rfl) ⟨by omega, by omega⟩ ⟨(jOk.ref (by have h9 := (show h < jn Mk from by have := hH.1; omega); first | exact h9 | (simp only [jn_Nw, jn_Si, jn_Sr, jn_Sv, jn_Sq]; omega)) (jOk.int jOk.nil)), (jOk.ref (by simp [jn_Nw, jn_Si, jn_Sr, jn_Sv] <;> omega) (jOk.int (jOk.ref (by have h9 := (show h + 1 < jn Mk from by have := hH.1; omega); first | exact h9 | (simp only [jn_Nw, jn_Si, jn_Sr, jn_Sv, jn_Sq]; omega)) jOk.nil)))⟩ ?_
        obtain ⟨X40, hX40⟩ : ∃ Xz, Xz = jSI (jNw Mk 9 0) (jn Mk) := ⟨_, rfl⟩
        rw [← hX40] at hfX40
        refine J_mem (M' := X40) hX40.symm ?_
        obtain ⟨X40a, X40b, X40c, X40d⟩ := hfX40
        have he9 : jEq Mk X40 (h + 1) := (jEq.nw (by have := hH.1; omega)).tr (X40d.eq (show h + 1 < jn Mk + 1 by have := hH.1; omega) (by have := hH.1; omega))
        refine J_aast4N (k := k) (r := some (jn Mk)) dX2_init_43 (show h + 1 < jn X40 from by have := hH.1; omega) (he9.1.trans hH.2.2.2.2.2.2.2.1) (by exact Nat.lt_of_lt_of_eq (show _ < 8 by omega) (Eq.symm (he9.2.1.trans hH.2.2.2.2.2.2.2.2.1))) (by exact Nat.lt_of_le_of_lt (Nat.le_of_eq (he9.2.1.trans hH.2.2.2.2.2.2.2.2.1)) (show 8 < 2 ^ 31 by omega)) (by exact fun q9 h9 => by cases h9; exact ⟨by omega, X40c.1.2.1⟩) ?_
        refine J_iinc (y := nI (k + 1)) (lv' := [.ref (h), .int (nI (k + 1))]) dX2_init_44 rfl (jinc (k)) (by decide) rfl rfl ?_
        refine J_goto (tgt := 25) dX2_init_47 (by decide) ?_
        refine J_less (bc' := 3 * (8 - (k + 1))) (bs' := 48 * (8 - (k + 1))) (by omega) (by omega) ?_
        exact ih25 (k + 1) (jSr X40 (h + 1) k (some (jn Mk))) (by omega) (by exact hH.step hh X40a X40b X40c X40d) (by omega)
  refine J_iconst (x := 0) dX2_init_23 (by decide) ?_
  refine J_istore_n (lv' := [.ref (h), .int (0)]) dX2_init_24 rfl (by decide) rfl rfl ?_
  refine J_less (bc' := 3 * (8 - (0))) (bs' := 48 * (8 - (0))) (by omega) (by omega) ?_
  exact L25 _ (0) (jSi (jSi (jSr (jNw M 24 8) (h) 0 (some (jn M))) h 1 ((0))) h 2 ((0))) (by omega) (by refine ⟨by show jn M + 1 = _; omega, jCl_Si (jCl_Si (jCl_Sr (jCl_Nw hcl) (fun q hq => by cases hq; exact Nat.lt_succ_self _))), ⟨by show jn M ≤ jn M + 1; omega, fun a ha hne => (((jEq.nw ha).tr (jEq.sr hne)).tr (jEq.si hne)).tr (jEq.si hne)⟩, ?_, ?_, ?_, ?_, ?_, ?_, fun j hj => absurd hj (Nat.not_lt_zero _), fun j hj => absurd hj (Nat.not_lt_zero _)⟩; all_goals simp [jk_Si, jk_Sr, jk_Nw, jz_Si, jz_Sr, jz_Nw, jr_Si, jr_Sr, ji_Si, hh, show h ≠ jn M by omega, hk]) (Nat.lt_succ_self _)

theorem dJ5_init_d00df_0 : decode cJ5_init_d00df 0 = .ok (.aload_n 0, 1) := by decide +kernel
theorem dJ5_init_d00df_1 : decode cJ5_init_d00df 1 = .ok (.invokespecial 3, 3) := by decide +kernel
theorem dJ5_init_d00df_4 : decode cJ5_init_d00df 4 = .ok (.getstatic 18, 3) := by decide +kernel
theorem dJ5_init_d00df_7 : decode cJ5_init_d00df 7 = .ok (.ifCond .eq 18, 3) := by decide +kernel
theorem dJ5_init_d00df_10 : decode cJ5_init_d00df 10 = .ok (.aload_n 0, 1) := by decide +kernel
theorem dJ5_init_d00df_11 : decode cJ5_init_d00df 11 = .ok (.iload_n 1, 1) := by decide +kernel
theorem dJ5_init_d00df_12 : decode cJ5_init_d00df 12 = .ok (.newarray .byte, 2) := by decide +kernel
theorem dJ5_init_d00df_14 : decode cJ5_init_d00df 14 = .ok (.putfield 15, 3) := by decide +kernel
theorem dJ5_init_d00df_17 : decode cJ5_init_d00df 17 = .ok (.aload_n 0, 1) := by decide +kernel
theorem dJ5_init_d00df_18 : decode cJ5_init_d00df 18 = .ok (.iconst 0, 1) := by decide +kernel
theorem dJ5_init_d00df_19 : decode cJ5_init_d00df 19 = .ok (.putfield 22, 3) := by decide +kernel
theorem dJ5_init_d00df_22 : decode cJ5_init_d00df 22 = .ok (.goto 16, 3) := by decide +kernel
theorem dJ5_init_d00df_38 : decode cJ5_init_d00df 38 = .ok (.return_, 1) := by decide +kernel
set_option maxHeartbeats 400000 in
set_option maxRecDepth 20000 in
theorem ct_J5_init_d00df (l : Launch) (D : va_G) (dA : Nat → ClassId) (hst : l.stackTraces = false) (M : jM) (hcl : jCl M) (t : Nat) (ht : t < jn M) (hk : jk M t = 1) : jCT l D dA yJ5_init_d00df wsJ5_init_d00df (20) (300) (1) (16) 0 [.ref (t), .int (16)] M (jPo (oV) (jSi (jSr (jNw M 20 16) t 0 (some (jn M))) t 1 0)) := by
  refine jBody (cc := cJ5_init_d00df) (nL := 2) (rt := none) (ini := true) (by decide) rfl hst (Nat.le_of_ble_eq_true rfl) (by simp [Value.category]) (by intro h9; first | exact absurd h9 (by decide) | rfl) ?_
  show J l D dA RJ5 cJ5_init_d00df wsJ5_init_d00df 2 true none [] (20) (300) (jF D dA (jn M) (jPo (oV) (jSi (jSr (jNw M 20 16) t 0 (some (jn M))) t 1 0)) 0) (jn M) (1) (16) (M) 0 [.ref (t), .int (16)] []
  refine J_aload_n (t) dJ5_init_d00df_0 rfl rfl ?_
  refine J_objInit dJ5_init_d00df_1 (List.mem_of_getElem? (i := 1) rfl) (List.mem_of_getElem? (i := 2) rfl) (List.mem_of_getElem? (i := 3) rfl) (Nat.le_of_ble_eq_true rfl) (by omega) (by omega) ?_
  refine J_getsC dJ5_init_d00df_4 (List.mem_of_getElem? (i := 4) rfl) ?_
  refine J_if_eq dJ5_init_d00df_7 (tgt := 25) (by decide) (fun c7 => ?_) (fun c7 => ?_)
  · exact absurd c7 (by decide)
  · have c7 := jeqF (a := 1) (b := 0) (by omega) (by omega) c7
    refine J_aload_n (t) dJ5_init_d00df_10 rfl rfl ?_
    refine J_iload_n dJ5_init_d00df_11 rfl rfl ?_
    refine J_newa (t := 0) (atype := .byte) (N' := 16) (n := (16)) dJ5_init_d00df_12 (by decide) rfl rfl (List.mem_of_getElem? (i := 5) rfl) (nI_pos (n := 16) (by omega)) (nI_clamp (n := 16) (by omega)) (by simp [newarray.typeOf, componentBytes] <;> omega) (by omega) (by omega) (hcl) (jOk.ref ht (jOk.int jOk.nil)) (jOk.ref ht jOk.nil) ?_
    refine J_putr (j := 0) (r := some (jn M)) dJ5_init_d00df_14 (fun _ h => List.mem_cons_of_mem _ (List.mem_append_right _ (h))) cs1 cty1 (by decide) rfl (List.mem_of_getElem? (i := 6) rfl) rfl rfl jfit_rA (by have h9 := ht; first | exact h9 | (simp only [jn_Nw, jn_Si, jn_Sr, jn_Sv, jn_Sq]; omega)) (jk_new (M := M) (kd := 20) (len := 16) (by have h9 := ht; first | exact h9 | (simp only [jn_Nw, jn_Si, jn_Sr, jn_Sv, jn_Sq]; omega)) hk) ?_
    refine J_aload_n (t) dJ5_init_d00df_17 rfl rfl ?_
    refine J_iconst (x := 0) dJ5_init_d00df_18 (by decide) ?_
    refine J_puti (j := 1) (x := (0)) dJ5_init_d00df_19 (fun _ h => List.mem_cons_of_mem _ (List.mem_append_right _ (h))) cs1 cty1 (by decide) rfl (List.mem_of_getElem? (i := 7) rfl) rfl rfl (by exact ⟨rfl, rfl⟩) (by have h9 := ht; first | exact h9 | (simp only [jn_Nw, jn_Si, jn_Sr, jn_Sv, jn_Sq]; omega)) (jk_new (M := M) (kd := 20) (len := 16) (by have h9 := ht; first | exact h9 | (simp only [jn_Nw, jn_Si, jn_Sr, jn_Sv, jn_Sq]; omega)) hk) ?_
    refine J_goto (tgt := 38) dJ5_init_d00df_22 (by decide) ?_
    exact J_vret dJ5_init_d00df_38 rfl ⟨(by rfl), (by rfl)⟩

theorem dJ4_init_da8c8_0 : decode cJ4_init_da8c8 0 = .ok (.aload_n 0, 1) := by decide +kernel
theorem dJ4_init_da8c8_1 : decode cJ4_init_da8c8 1 = .ok (.bipush 16, 2) := by decide +kernel
theorem dJ4_init_da8c8_3 : decode cJ4_init_da8c8 3 = .ok (.invokespecial 1, 3) := by decide +kernel
set_option maxRecDepth 20000 in
theorem ggJ4_init_da8c8_J5_init_d00df : GoodIn wsJ4_init_da8c8 wsJ5_init_d00df := goodIn_r _ [4, 5, 6, 7, 8, 9, 10, 11, 12, 13, 14, 15, 16, 17, 18, 19, 20, 21, 22, 23] (by decide +kernel) (by decide +kernel)
set_option maxRecDepth 20000 in
theorem gJ4_init_da8c8_J5_init_d00df : GoodIn wsJ4_init_da8c8 (wsJ5_init_d00df) := ggJ4_init_da8c8_J5_init_d00df
theorem yY_J5_init_d00df : jY yJ5_init_d00df wsJ5_init_d00df cJ5_init_d00df 2 none 1 := ⟨⟨_, rfl⟩, by decide +kernel, by decide +kernel, by decide +kernel⟩
theorem dJ4_init_da8c8_6 : decode cJ4_init_da8c8 6 = .ok (.return_, 1) := by decide +kernel
set_option maxHeartbeats 400000 in
set_option maxRecDepth 20000 in
theorem ct_J4_init_da8c8 (l : Launch) (D : va_G) (dA : Nat → ClassId) (hst : l.stackTraces = false) (M : jM) (hcl : jCl M) (t : Nat) (ht : t < jn M) (hk : jk M t = 1) : jCT l D dA yJ4_init_da8c8 wsJ4_init_da8c8 (21) (360) (1) (16) 0 [.ref (t)] M (jPo (oV) (jSi (jSr (jNw M 20 16) t 0 (some (jn M))) t 1 0)) := by
  refine jBody (cc := cJ4_init_da8c8) (nL := 1) (rt := none) (ini := true) (by decide) rfl hst (Nat.le_of_ble_eq_true rfl) (by simp [Value.category]) (by intro h9; first | exact absurd h9 (by decide) | rfl) ?_
  show J l D dA RJ4 cJ4_init_da8c8 wsJ4_init_da8c8 1 true none [] (21) (360) (jF D dA (jn M) (jPo (oV) (jSi (jSr (jNw M 20 16) t 0 (some (jn M))) t 1 0)) 0) (jn M) (1) (16) (M) 0 [.ref (t)] []
  refine J_aload_n (t) dJ4_init_da8c8_0 rfl rfl ?_
  refine J_bipush (x := 16) dJ4_init_da8c8_1 (by decide) ?_
  refine J_callvA (jrunI (ret := none) (As := [.int (16)]) (ct_J5_init_d00df l D dA hst M hcl t ht hk) dJ4_init_da8c8_3 yY_J5_init_d00df gJ4_init_da8c8_J5_init_d00df rfl (List.mem_of_getElem? (i := 3) rfl) (List.mem_of_getElem? (i := 1) rfl) (List.mem_of_getElem? (i := 2) rfl) rfl ⟨by omega, by omega⟩ ⟨by omega, by omega⟩ rfl (Nat.le_of_ble_eq_true rfl)) (rfl) ⟨by omega, by omega⟩ ⟨(jOk.ref ht jOk.nil), jOk.nil⟩ ?_
  exact J_vret dJ4_init_da8c8_6 rfl ⟨(by rfl), (by rfl)⟩

