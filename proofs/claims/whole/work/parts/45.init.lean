theorem stg {Mx X : jM} {v fld kd : Nat} (h : jXo (jn Mx) (jNw Mx kd 0) X) (hv : v < jn Mx) : (∀ a, a < jn Mx → a ≠ v → jEq Mx (jSr X v fld (some (jn Mx))) a) ∧ (∀ j, jr (jSr X v fld (some (jn Mx))) v j = if j = fld then some (jn Mx) else jr Mx v j) ∧ ji (jSr X v fld (some (jn Mx))) v = ji Mx v ∧ jk (jSr X v fld (some (jn Mx))) v = jk Mx v ∧ ∀ a, a ≠ v → jEq X (jSr X v fld (some (jn Mx))) a := by
  have old0 : ∀ a, a < jn Mx → jEq Mx X a := fun a ha => (jEq.nw ha).tr (h.eq (Nat.lt_succ_of_lt ha) (Nat.ne_of_lt ha))
  have e := old0 v hv
  refine ⟨fun a ha hne => (old0 a ha).tr (jEq.sr hne), fun j => ?_, e.2.2.1, e.1, fun a hne => jEq.sr hne⟩
  rw [jr_Sr]
  by_cases hj : j = fld
  · rw [if_pos ⟨rfl, hj⟩, if_pos hj]
  · rw [if_neg (fun hh => hj hh.2), if_neg hj, e.2.2.2.1]
theorem jHis.eq0 {M M1 : jM} {h : Nat} (hH : jHis M h 0 0) (hn : jn M ≤ jn M1) (he : ∀ a, h ≤ a → a < h + 26 → jEq M M1 a) : jHis M1 h 0 0 := by
  obtain ⟨e1, e2, e3, e4, e5, e6, e7, e8, e9, e10, e11⟩ := hH
  have c0 := he h (by omega) (by omega)
  have c1 := he (h + 1) (by omega) (by omega)
  refine ⟨by omega, c0.1.trans e2, by rw [c0.2.2.2.1]; exact e3, c1.1.trans e4, c1.2.1.trans e5, fun j hj => by rw [c1.2.2.2.1]; exact e6 j hj, fun j hj => ?_, by rw [c0.2.2.1]; exact e8, by rw [c0.2.2.1]; exact e9, e10, e11⟩
  obtain ⟨d, s1, s2, s3, s4, s5, s6, s7, s8, s9, s10⟩ := e7 j hj
  have d0 := he (h + 2 + 3 * j) (by omega) (by omega)
  have d1 := he (h + 2 + 3 * j + 1) (by omega) (by omega)
  have d2 := he (h + 2 + 3 * j + 2) (by omega) (by omega)
  exact ⟨d, by omega, d0.1.trans s2, by rw [d0.2.2.2.1]; exact s3, by rw [d0.2.2.2.1]; exact s4, d1.1.trans s5, d1.2.1.trans s6, d2.1.trans s7, d2.2.1.trans s8, by rw [d0.2.2.1]; exact s9, s10⟩
def jMade (K : jM) (v : Nat) : Prop := jn K = v + 36 ∧ jCl K ∧ ∀ M1, v + 52 ≤ jn M1 → jCl M1 → (∀ a, v ≤ a → a < v + 36 → jEq K M1 a) → jAb M1 v cA0
theorem init_fin0 {M : jM} {v : Nat} (n : v + 52 ≤ jn M) (cl : jCl M) (k0 : jk M v = 10) (r0 : jr M v 0 = some (v + 1)) (r4 : jr M v 4 = none) (r5 : jr M v 5 = some (v + 2)) (r6 : jr M v 6 = some (v + 5)) (r8 : jr M v 8 = some (v + 8)) (r9 : jr M v 9 = some (v + 34)) (i1 : ji M v 1 = 0) (i2 : ji M v 2 = -1) (i3 : ji M v 3 = -1) (i7 : ji M v 7 = 0)
    (s1 : jk M (v + 1) = 21) (s2 : jz M (v + 1) = 60) (s3 : ∀ j, ji M (v + 1) j = 0) (st2 : jSt M (v + 2) cS0) (st5 : jSt M (v + 5) cS0) (hH : jHis M (v + 8) 0 0) (hHs : ∀ j, j < 8 → jSt M (v + 8 + 2 + 3 * j) cS0) (b1 : jk M (v + 34) = 1) (b2 : jr M (v + 34) 0 = some (v + 35)) (b3 : jk M (v + 35) = 20) (b4 : jz M (v + 35) = 16) (b5 : ji M (v + 34) 1 = 0) (b6 : ji M (v + 34) 3 = 0) (b7 : jBf M (v + 35)) : jAb M v cA0 := by
  refine ⟨⟨by omega, k0, fun a h1 h2 => ?_⟩, cl, ⟨r0, r5, r6, r8, r9, s1, s2, i1, Nat.zero_le _, funext s3, i2, i3, i7⟩, r4, st2, st5, ⟨0, hH, fun i hi => absurd hi (Nat.not_lt_zero _)⟩, ⟨v + 35, 0, by omega, b1, b2, by omega, b3, b5, b6, Nat.zero_le _, by rw [b4]; decide, by rw [b4]; decide, Or.inr (by omega), b7⟩⟩
  have kst : ∀ s, jSt M s cS0 → jk M s = 9 ∧ jk M (s + 1) = 23 ∧ jk M (s + 2) = 22 := fun s h => ⟨h.1.2.1, h.1.2.2.2.2.1, h.1.2.2.2.2.2.2.1⟩
  have q2 := kst _ st2
  have q5 := kst _ st5
  by_cases c0 : a = v
  · rw [c0, k0]; decide
  by_cases c1 : a = v + 1
  · rw [c1, s1]; decide
  by_cases c2 : a = v + 2
  · rw [c2, q2.1]; decide
  by_cases c3 : a = v + 2 + 1
  · rw [c3, q2.2.1]; decide
  by_cases c4 : a = v + 2 + 2
  · rw [c4, q2.2.2]; decide
  by_cases c5 : a = v + 5
  · rw [c5, q5.1]; decide
  by_cases c6 : a = v + 5 + 1
  · rw [c6, q5.2.1]; decide
  by_cases c7 : a = v + 5 + 2
  · rw [c7, q5.2.2]; decide
  by_cases c8 : a = v + 8
  · rw [c8, hH.2.1]; decide
  by_cases c9 : a = v + 8 + 1
  · rw [c9, hH.2.2.2.1]; decide
  by_cases c10 : a = v + 34
  · rw [c10, b1]; decide
  by_cases c11 : a = v + 35
  · rw [c11, b3]; decide
  obtain ⟨j, hj, hr⟩ : ∃ j, j < 8 ∧ (a = v + 8 + 2 + 3 * j ∨ a = v + 8 + 2 + 3 * j + 1 ∨ a = v + 8 + 2 + 3 * j + 2) := ⟨(a - v - 10) / 3, by omega, by omega⟩
  have qj := kst _ (hHs j hj)
  rcases hr with e | e | e
  · rw [e, qj.1]; decide
  · rw [e, qj.2.1]; decide
  · rw [e, qj.2.2]; decide
theorem init_fin {M : jM} {v : Nat} (n : jn M = v + 36) (cl : jCl M) (k0 : jk M v = 10) (r0 : jr M v 0 = some (v + 1)) (r4 : jr M v 4 = none) (r5 : jr M v 5 = some (v + 2)) (r6 : jr M v 6 = some (v + 5)) (r8 : jr M v 8 = some (v + 8)) (r9 : jr M v 9 = some (v + 34)) (i1 : ji M v 1 = 0) (i2 : ji M v 2 = -1) (i3 : ji M v 3 = -1) (i7 : ji M v 7 = 0)
    (s1 : jk M (v + 1) = 21) (s2 : jz M (v + 1) = 60) (s3 : ∀ j, ji M (v + 1) j = 0) (st2 : jSt M (v + 2) cS0) (st5 : jSt M (v + 5) cS0) (hH : jHis M (v + 8) 0 0) (hHs : ∀ j, j < 8 → jSt M (v + 8 + 2 + 3 * j) cS0) (b1 : jk M (v + 34) = 1) (b2 : jr M (v + 34) 0 = some (v + 35)) (b3 : jk M (v + 35) = 20) (b4 : jz M (v + 35) = 16) (b5 : ji M (v + 34) 1 = 0) (b6 : ji M (v + 34) 3 = 0) (b7 : jBf M (v + 35)) : jMade M v := by
  refine ⟨n, cl, fun M1 h52 cl1 e => ?_⟩
  have ev := e v (by omega) (by omega)
  have e1 := e (v + 1) (by omega) (by omega)
  have e34 := e (v + 34) (by omega) (by omega)
  have e35 := e (v + 35) (by omega) (by omega)
  have hn : jn M ≤ jn M1 := by omega
  have st2 := st2.eq0 hn (e _ (by omega) (by omega)) (e _ (by omega) (by omega)) (e _ (by omega) (by omega))
  have st5 := st5.eq0 hn (e _ (by omega) (by omega)) (e _ (by omega) (by omega)) (e _ (by omega) (by omega))
  have hH := hH.eq0 hn (fun a g1 g2 => e a (by omega) (by omega))
  have hHs : ∀ j, j < 8 → jSt M1 (v + 8 + 2 + 3 * j) cS0 := fun j hj => (hHs j hj).eq0 hn (e _ (by omega) (by omega)) (e _ (by omega) (by omega)) (e _ (by omega) (by omega))
  have b7 := b7.eq e35.2.2.1
  rw [← ev.1] at k0
  rw [← ev.2.2.2.1] at r0 r4 r5 r6 r8 r9
  rw [← ev.2.2.1] at i1 i2 i3 i7
  rw [← e1.1] at s1
  rw [← e1.2.1] at s2
  rw [← e1.2.2.1] at s3
  rw [← e34.1] at b1
  rw [← e34.2.2.2.1] at b2
  rw [← e35.1] at b3
  rw [← e35.2.1] at b4
  rw [← e34.2.2.1] at b5 b6
  exact init_fin0 h52 cl1 k0 r0 r4 r5 r6 r8 r9 i1 i2 i3 i7 s1 s2 s3 st2 st5 hH hHs b1 b2 b3 b4 b5 b6 b7
theorem dX7_init_0 : decode cX7_init 0 = .ok (.aload_n 0, 1) := by decide +kernel
theorem dX7_init_1 : decode cX7_init 1 = .ok (.invokespecial 1, 3) := by decide +kernel
theorem dX7_init_4 : decode cX7_init 4 = .ok (.aload_n 0, 1) := by decide +kernel
theorem dX7_init_5 : decode cX7_init 5 = .ok (.bipush 60, 2) := by decide +kernel
theorem dX7_init_7 : decode cX7_init 7 = .ok (.newarray .char, 2) := by decide +kernel
theorem dX7_init_9 : decode cX7_init 9 = .ok (.putfield 9, 3) := by decide +kernel
theorem dX7_init_12 : decode cX7_init 12 = .ok (.aload_n 0, 1) := by decide +kernel
theorem dX7_init_13 : decode cX7_init 13 = .ok (.iconst 0, 1) := by decide +kernel
theorem dX7_init_14 : decode cX7_init 14 = .ok (.putfield 13, 3) := by decide +kernel
theorem dX7_init_17 : decode cX7_init 17 = .ok (.aload_n 0, 1) := by decide +kernel
theorem dX7_init_18 : decode cX7_init 18 = .ok (.iconst (-1), 1) := by decide +kernel
theorem dX7_init_19 : decode cX7_init 19 = .ok (.putfield 17, 3) := by decide +kernel
theorem dX7_init_22 : decode cX7_init 22 = .ok (.aload_n 0, 1) := by decide +kernel
theorem dX7_init_23 : decode cX7_init 23 = .ok (.iconst (-1), 1) := by decide +kernel
theorem dX7_init_24 : decode cX7_init 24 = .ok (.putfield 20, 3) := by decide +kernel
theorem dX7_init_27 : decode cX7_init 27 = .ok (.aload_n 0, 1) := by decide +kernel
theorem dX7_init_28 : decode cX7_init 28 = .ok (.aconst_null, 1) := by decide +kernel
theorem dX7_init_29 : decode cX7_init 29 = .ok (.putfield 23, 3) := by decide +kernel
theorem dX7_init_32 : decode cX7_init 32 = .ok (.aload_n 0, 1) := by decide +kernel
theorem dX7_init_33 : decode cX7_init 33 = .ok (.new 27, 3) := by decide +kernel
theorem dX7_init_36 : decode cX7_init 36 = .ok (.dup, 1) := by decide +kernel
theorem dX7_init_37 : decode cX7_init 37 = .ok (.invokespecial 29, 3) := by decide +kernel
set_option maxRecDepth 20000 in
theorem ggX7_init_X5_init : GoodIn wsX7_init wsX5_init := goodIn_r _ [25, 26, 2, 3, 27, 28, 29, 30, 31, 70, 71, 72] (by decide +kernel) (by decide +kernel)
set_option maxRecDepth 20000 in
theorem gX7_init_X5_init_n29 : GoodIn wsX7_init (wsX5_init) := ggX7_init_X5_init
theorem jnw_X7_init_29 : Cond.methodLinkNest RX7 29 yX5_init "VersionAlgebra" ∈ jNws := List.mem_filter.mpr ⟨by decide +kernel, rfl⟩
theorem dX7_init_40 : decode cX7_init 40 = .ok (.putfield 30, 3) := by decide +kernel
theorem dX7_init_43 : decode cX7_init 43 = .ok (.aload_n 0, 1) := by decide +kernel
theorem dX7_init_44 : decode cX7_init 44 = .ok (.new 27, 3) := by decide +kernel
theorem dX7_init_47 : decode cX7_init 47 = .ok (.dup, 1) := by decide +kernel
theorem dX7_init_48 : decode cX7_init 48 = .ok (.invokespecial 29, 3) := by decide +kernel
theorem dX7_init_51 : decode cX7_init 51 = .ok (.putfield 34, 3) := by decide +kernel
theorem dX7_init_54 : decode cX7_init 54 = .ok (.aload_n 0, 1) := by decide +kernel
theorem dX7_init_55 : decode cX7_init 55 = .ok (.iconst 0, 1) := by decide +kernel
theorem dX7_init_56 : decode cX7_init 56 = .ok (.putfield 37, 3) := by decide +kernel
theorem dX7_init_59 : decode cX7_init 59 = .ok (.aload_n 0, 1) := by decide +kernel
theorem dX7_init_60 : decode cX7_init 60 = .ok (.new 41, 3) := by decide +kernel
theorem dX7_init_63 : decode cX7_init 63 = .ok (.dup, 1) := by decide +kernel
theorem dX7_init_64 : decode cX7_init 64 = .ok (.invokespecial 43, 3) := by decide +kernel
set_option maxRecDepth 20000 in
theorem ggX7_init_X2_init : GoodIn wsX7_init wsX2_init := goodIn_r _ [34, 35, 2, 3, 36, 37, 38, 39, 11, 12, 24, 25, 26, 27, 28, 29, 30, 31, 73, 74, 75, 70, 71, 72] (by decide +kernel) (by decide +kernel)
set_option maxRecDepth 20000 in
theorem gX7_init_X2_init : GoodIn wsX7_init (wsX2_init) := ggX7_init_X2_init
theorem yY_X2_init : jY yX2_init wsX2_init cX2_init 2 none 0 := ⟨⟨_, rfl⟩, by decide +kernel, by decide +kernel, by decide +kernel⟩
theorem dX7_init_67 : decode cX7_init 67 = .ok (.putfield 44, 3) := by decide +kernel
theorem dX7_init_70 : decode cX7_init 70 = .ok (.aload_n 0, 1) := by decide +kernel
theorem dX7_init_71 : decode cX7_init 71 = .ok (.new 48, 3) := by decide +kernel
theorem dX7_init_74 : decode cX7_init 74 = .ok (.dup, 1) := by decide +kernel
theorem dX7_init_75 : decode cX7_init 75 = .ok (.invokespecial 50, 3) := by decide +kernel
set_option maxRecDepth 20000 in
theorem ggX7_init_J4_init_da8c8 : GoodIn wsX7_init wsJ4_init_da8c8 := goodIn_r _ [42, 43, 44, 45, 46, 47, 2, 3, 48, 49, 50, 51, 52, 53, 54, 55, 56, 57, 58, 59, 76, 77, 78, 79] (by decide +kernel) (by decide +kernel)
set_option maxRecDepth 20000 in
theorem gX7_init_J4_init_da8c8 : GoodIn wsX7_init (wsJ4_init_da8c8) := ggX7_init_J4_init_da8c8
theorem yY_J4_init_da8c8 : jY yJ4_init_da8c8 wsJ4_init_da8c8 cJ4_init_da8c8 1 none 0 := ⟨⟨_, rfl⟩, by decide +kernel, by decide +kernel, by decide +kernel⟩
theorem dX7_init_78 : decode cX7_init 78 = .ok (.putfield 51, 3) := by decide +kernel
theorem dX7_init_81 : decode cX7_init 81 = .ok (.return_, 1) := by decide +kernel
set_option maxHeartbeats 400000 in
set_option maxRecDepth 20000 in
theorem ct_X7_init (l : Launch) (D : va_G) (dA : Nat → ClassId) (hst : l.stackTraces = false) (M : jM) (hcl : jCl M) (v : Nat) (hv : v + 1 = jn M) (hk : jk M v = 10) : jCT l D dA yX7_init wsX7_init (24) (540) (40) (800) 0 [.ref (v)] M (fun o M1 => o = oV ∧ jMade M1 v ∧ jXo v M M1) := by
  refine jBody (cc := cX7_init) (nL := 1) (rt := none) (ini := true) (by decide) rfl hst (Nat.le_of_ble_eq_true rfl) (by simp [Value.category]) (by intro h9; first | exact absurd h9 (by decide) | rfl) ?_
  show J l D dA RX7 cX7_init wsX7_init 1 true none [] (24) (540) (jF D dA (jn M) (fun o M1 => o = oV ∧ jMade M1 v ∧ jXo v M M1) 0) (jn M) (40) (800) (M) 0 [.ref (v)] []
  refine J_aload_n (v) dX7_init_0 rfl rfl ?_
  refine J_objInit dX7_init_1 (List.mem_of_getElem? (i := 1) rfl) (List.mem_of_getElem? (i := 2) rfl) (List.mem_of_getElem? (i := 3) rfl) (Nat.le_of_ble_eq_true rfl) (by omega) (by omega) ?_
  refine J_aload_n (v) dX7_init_4 rfl rfl ?_
  refine J_bipush (x := 60) dX7_init_5 (by decide) ?_
  refine J_newa (t := 1) (atype := .char) (N' := 60) (n := (60)) dX7_init_7 (by decide) rfl rfl (List.mem_of_getElem? (i := 4) rfl) (nI_pos (n := 60) (by omega)) (nI_clamp (n := 60) (by omega)) (by simp [newarray.typeOf, componentBytes] <;> omega) (by omega) (by omega) (hcl) (jOk.ref (show v < jn M from by omega) jOk.nil) (jOk.ref (show v < jn M from by omega) jOk.nil) ?_
  refine J_putrF (j := 0) (r := some (jn M)) dX7_init_9 (fun _ h => List.mem_cons_of_mem _ (List.mem_append_left _ (List.mem_append_left _ (List.mem_append_left _ (List.mem_append_right _ (h)))))) cs10 cty10 (by decide) rfl (List.mem_of_getElem? (i := 5) rfl) rfl rfl rfl rfl jfit_rA (by have h9 := (show v < jn M from by omega); first | exact h9 | (simp only [jn_Nw, jn_Si, jn_Sr, jn_Sv, jn_Sq]; omega)) (jk_new (M := M) (kd := 21) (len := 60) (by have h9 := (show v < jn M from by omega); first | exact h9 | (simp only [jn_Nw, jn_Si, jn_Sr, jn_Sv, jn_Sq]; omega)) hk) ?_
  refine J_aload_n (v) dX7_init_12 rfl rfl ?_
  refine J_iconst (x := 0) dX7_init_13 (by decide) ?_
  refine J_puti (j := 1) (x := (0)) dX7_init_14 (fun _ h => List.mem_cons_of_mem _ (List.mem_append_left _ (List.mem_append_left _ (List.mem_append_left _ (List.mem_append_right _ (h)))))) cs10 cty10 (by decide) rfl (List.mem_of_getElem? (i := 6) rfl) rfl rfl ⟨rfl, rfl⟩ (by have h9 := (show v < jn M from by omega); first | exact h9 | (simp only [jn_Nw, jn_Si, jn_Sr, jn_Sv, jn_Sq]; omega)) (jk_new (M := M) (kd := 21) (len := 60) (by have h9 := (show v < jn M from by omega); first | exact h9 | (simp only [jn_Nw, jn_Si, jn_Sr, jn_Sv, jn_Sq]; omega)) hk) ?_
  refine J_aload_n (v) dX7_init_17 rfl rfl ?_
  refine J_iconst (x := (-1)) dX7_init_18 (by decide) ?_
  refine J_puti (j := 2) (x := (-1)) dX7_init_19 (fun _ h => List.mem_cons_of_mem _ (List.mem_append_left _ (List.mem_append_left _ (List.mem_append_left _ (List.mem_append_right _ (h)))))) cs10 cty10 (by decide) rfl (List.mem_of_getElem? (i := 7) rfl) rfl rfl ⟨rfl, rfl⟩ (by have h9 := (show v < jn M from by omega); first | exact h9 | (simp only [jn_Nw, jn_Si, jn_Sr, jn_Sv, jn_Sq]; omega)) (jk_new (M := M) (kd := 21) (len := 60) (by have h9 := (show v < jn M from by omega); first | exact h9 | (simp only [jn_Nw, jn_Si, jn_Sr, jn_Sv, jn_Sq]; omega)) hk) ?_
  refine J_aload_n (v) dX7_init_22 rfl rfl ?_
  refine J_iconst (x := (-1)) dX7_init_23 (by decide) ?_
  refine J_puti (j := 3) (x := (-1)) dX7_init_24 (fun _ h => List.mem_cons_of_mem _ (List.mem_append_left _ (List.mem_append_left _ (List.mem_append_left _ (List.mem_append_right _ (h)))))) cs10 cty10 (by decide) rfl (List.mem_of_getElem? (i := 8) rfl) rfl rfl ⟨rfl, rfl⟩ (by have h9 := (show v < jn M from by omega); first | exact h9 | (simp only [jn_Nw, jn_Si, jn_Sr, jn_Sv, jn_Sq]; omega)) (jk_new (M := M) (kd := 21) (len := 60) (by have h9 := (show v < jn M from by omega); first | exact h9 | (simp only [jn_Nw, jn_Si, jn_Sr, jn_Sv, jn_Sq]; omega)) hk) ?_
  refine J_aload_n (v) dX7_init_27 rfl rfl ?_
  refine J_null dX7_init_28 ?_
  refine J_putr (j := 4) (r := none) dX7_init_29 (fun _ h => List.mem_cons_of_mem _ (List.mem_append_left _ (List.mem_append_left _ (List.mem_append_left _ (List.mem_append_right _ (h)))))) cs10 cty10 (by decide) rfl (List.mem_of_getElem? (i := 9) rfl) rfl rfl jfit_rA (by have h9 := (show v < jn M from by omega); first | exact h9 | (simp only [jn_Nw, jn_Si, jn_Sr, jn_Sv, jn_Sq]; omega)) (jk_new (M := M) (kd := 21) (len := 60) (by have h9 := (show v < jn M from by omega); first | exact h9 | (simp only [jn_Nw, jn_Si, jn_Sr, jn_Sv, jn_Sq]; omega)) hk) ?_
  obtain ⟨Ma, hMa⟩ : ∃ Kz9, Kz9 = jSr (jSi (jSi (jSi (jSr (jNw M 21 60) (v) 0 (some (jn M))) v 1 ((0))) v 2 ((-1))) v 3 ((-1))) (v) 4 (none) := ⟨_, rfl⟩
  refine J_mem (M' := Ma) hMa.symm ?_
  have na : jn Ma = v + 2 := by rw [hMa]; simp [jn_Nw, jn_Si, jn_Sr, jk_Si, jk_Sr, jk_Nw, jz_Si, jz_Sr, jz_Nw, jr_Si, jr_Sr, jr_Nw, ji_Si, ji_Sr, ji_Nw, ← hv, hk] <;> omega
  have ka : jk Ma v = 10 := by rw [hMa]; simp [jn_Nw, jn_Si, jn_Sr, jk_Si, jk_Sr, jk_Nw, jz_Si, jz_Sr, jz_Nw, jr_Si, jr_Sr, jr_Nw, ji_Si, ji_Sr, ji_Nw, ← hv, hk] <;> omega
  have ra0 : jr Ma v 0 = some (v + 1) := by rw [hMa]; simp [jn_Nw, jn_Si, jn_Sr, jk_Si, jk_Sr, jk_Nw, jz_Si, jz_Sr, jz_Nw, jr_Si, jr_Sr, jr_Nw, ji_Si, ji_Sr, ji_Nw, ← hv, hk] <;> omega
  have ra4 : jr Ma v 4 = none := by rw [hMa]; simp [jn_Nw, jn_Si, jn_Sr, jk_Si, jk_Sr, jk_Nw, jz_Si, jz_Sr, jz_Nw, jr_Si, jr_Sr, jr_Nw, ji_Si, ji_Sr, ji_Nw, ← hv, hk] <;> omega
  have ia1 : ji Ma v 1 = 0 := by rw [hMa]; simp [jn_Nw, jn_Si, jn_Sr, jk_Si, jk_Sr, jk_Nw, jz_Si, jz_Sr, jz_Nw, jr_Si, jr_Sr, jr_Nw, ji_Si, ji_Sr, ji_Nw, ← hv, hk] <;> omega
  have ia2 : ji Ma v 2 = -1 := by rw [hMa]; simp [jn_Nw, jn_Si, jn_Sr, jk_Si, jk_Sr, jk_Nw, jz_Si, jz_Sr, jz_Nw, jr_Si, jr_Sr, jr_Nw, ji_Si, ji_Sr, ji_Nw, ← hv, hk] <;> omega
  have ia3 : ji Ma v 3 = -1 := by rw [hMa]; simp [jn_Nw, jn_Si, jn_Sr, jk_Si, jk_Sr, jk_Nw, jz_Si, jz_Sr, jz_Nw, jr_Si, jr_Sr, jr_Nw, ji_Si, ji_Sr, ji_Nw, ← hv, hk] <;> omega
  have sa1 : jk Ma (v + 1) = 21 := by rw [hMa]; simp [jn_Nw, jn_Si, jn_Sr, jk_Si, jk_Sr, jk_Nw, jz_Si, jz_Sr, jz_Nw, jr_Si, jr_Sr, jr_Nw, ji_Si, ji_Sr, ji_Nw, ← hv, hk] <;> omega
  have sa2 : jz Ma (v + 1) = 60 := by rw [hMa]; simp [jn_Nw, jn_Si, jn_Sr, jk_Si, jk_Sr, jk_Nw, jz_Si, jz_Sr, jz_Nw, jr_Si, jr_Sr, jr_Nw, ji_Si, ji_Sr, ji_Nw, ← hv, hk] <;> omega
  have sa3 : ∀ j, ji Ma (v + 1) j = 0 := fun j => by rw [hMa]; simp [jn_Nw, jn_Si, jn_Sr, jk_Si, jk_Sr, jk_Nw, jz_Si, jz_Sr, jz_Nw, jr_Si, jr_Sr, jr_Nw, ji_Si, ji_Sr, ji_Nw, ← hv] <;> omega
  have ca : jCl Ma := by rw [hMa]; exact jCl_Sr (jCl_Si (jCl_Si (jCl_Si (jCl_Sr (jCl_Nw hcl) (fun q hq => by cases hq; exact Nat.lt_succ_self _))))) (fun q hq => by cases hq)
  have xa : ∀ a, a < jn M → a ≠ v → jEq M Ma a := fun a ha hne => by rw [hMa]; exact (((((jEq.nw ha).tr (jEq.sr hne)).tr (jEq.si hne)).tr (jEq.si hne)).tr (jEq.si hne)).tr (jEq.sr hne)
  refine J_aload_n (v) dX7_init_32 rfl rfl ?_
  refine J_new (ci := 9) dX7_init_33 (fun _ h => List.mem_cons_of_mem _ (List.mem_append_left _ (List.mem_append_left _ (List.mem_append_right _ (h))))) cs9 cty9 (List.mem_of_getElem? (i := 10) rfl) (List.mem_of_getElem? (i := 11) rfl) (List.mem_of_getElem? (i := 12) rfl) (by omega) (by omega) (ca) (jOk.ref (show v < jn Ma from by omega) jOk.nil) (jOk.ref (show v < jn Ma from by omega) jOk.nil) ?_
  refine J_dup dX7_init_36 rfl ?_
  have hfX37 := jSI_f (M := jNw Ma 9 0) (t := jn Ma) (jCl_Nw (ca)) rfl (by simp [jk_Nw, jk_Si, jk_Sr, jk_Sv, jn_Nw, jn_Si, jn_Sr, jn_Sv])
  refine J_callvA (jrunIN (ret := none) (As := []) (ct_X5_init l D dA hst (jNw Ma 9 0) (jCl_Nw (ca)) (jn Ma) (by simp [jn_Nw, jn_Si, jn_Sr, jn_Sv] <;> omega) (by simp [jk_Nw, jk_Si, jk_Sr, jk_Sv, jn_Nw, jn_Si, jn_Sr, jn_Sv])) dX7_init_37 yY_X5_init gX7_init_X5_init_n29 rfl (List.mem_of_getElem? (i := 12) rfl) jnw_X7_init_29 (List.mem_of_getElem? (i := 24) rfl) rfl ⟨by omega, by omega⟩ ⟨by omega, by omega⟩ rfl (Nat.le_of_ble_eq_true rfl)) (rfl) ⟨by omega, by omega⟩ ⟨(jOk.ref (by have h9 := (show v < jn Ma from by omega); first | exact h9 | (simp only [jn_Nw, jn_Si, jn_Sr, jn_Sv, jn_Sq]; omega)) jOk.nil), (jOk.ref (by simp [jn_Nw, jn_Si, jn_Sr, jn_Sv] <;> omega) (jOk.ref (by have h9 := (show v < jn Ma from by omega); first | exact h9 | (simp only [jn_Nw, jn_Si, jn_Sr, jn_Sv, jn_Sq]; omega)) jOk.nil))⟩ ?_
  obtain ⟨X37, hX37⟩ : ∃ Xz, Xz = jSI (jNw Ma 9 0) (jn Ma) := ⟨_, rfl⟩
  rw [← hX37] at hfX37
  refine J_mem (M' := X37) hX37.symm ?_
  obtain ⟨X37a, X37b, X37c, X37d⟩ := hfX37
  refine J_putrF (j := 5) (r := some (jn Ma)) dX7_init_40 (fun _ h => List.mem_cons_of_mem _ (List.mem_append_left _ (List.mem_append_left _ (List.mem_append_left _ (List.mem_append_right _ (h)))))) cs10 cty10 (by decide) rfl (List.mem_of_getElem? (i := 13) rfl) rfl rfl rfl rfl jfit_r (show v < jn X37 from by omega) (X37d.eq (show v < jn Ma + 1 by omega) (by omega) |>.1 |>.trans ((jEq.nw (by omega)).1) |>.trans ka) ?_
  have gMb := stg (fld := 5) X37d (show v < jn Ma by omega)
  obtain ⟨Mb, hMb⟩ : ∃ Kz9, Kz9 = jSr X37 (v) 5 (some (jn Ma)) := ⟨_, rfl⟩
  refine J_mem (M' := Mb) hMb.symm ?_
  rw [← hMb] at gMb
  obtain ⟨gMb1, gMb2, gMb3, gMb4, gMb5⟩ := gMb
  have nMb : jn Mb = v + 5 := by rw [hMb]; show jn X37 = _; omega
  have cMb : jCl Mb := by rw [hMb]; exact jCl_Sr X37b (fun q hq => by cases hq; omega)
  have kMb : jk Mb v = 10 := gMb4.trans ka
  refine J_aload_n (v) dX7_init_43 rfl rfl ?_
  refine J_new (ci := 9) dX7_init_44 (fun _ h => List.mem_cons_of_mem _ (List.mem_append_left _ (List.mem_append_left _ (List.mem_append_right _ (h))))) cs9 cty9 (List.mem_of_getElem? (i := 10) rfl) (List.mem_of_getElem? (i := 11) rfl) (List.mem_of_getElem? (i := 12) rfl) (by omega) (by omega) (cMb) (jOk.ref (show v < jn Mb from by omega) jOk.nil) (jOk.ref (show v < jn Mb from by omega) jOk.nil) ?_
  refine J_dup dX7_init_47 rfl ?_
  have hfX48 := jSI_f (M := jNw Mb 9 0) (t := jn Mb) (jCl_Nw (cMb)) rfl (by simp [jk_Nw, jk_Si, jk_Sr, jk_Sv, jn_Nw, jn_Si, jn_Sr, jn_Sv])
  refine J_callvA (jrunIN (ret := none) (As := []) (ct_X5_init l D dA hst (jNw Mb 9 0) (jCl_Nw (cMb)) (jn Mb) (by simp [jn_Nw, jn_Si, jn_Sr, jn_Sv] <;> omega) (by simp [jk_Nw, jk_Si, jk_Sr, jk_Sv, jn_Nw, jn_Si, jn_Sr, jn_Sv])) dX7_init_48 yY_X5_init gX7_init_X5_init_n29 rfl (List.mem_of_getElem? (i := 12) rfl) jnw_X7_init_29 (List.mem_of_getElem? (i := 24) rfl) rfl ⟨by omega, by omega⟩ ⟨by omega, by omega⟩ rfl (Nat.le_of_ble_eq_true rfl)) (rfl) ⟨by omega, by omega⟩ ⟨(jOk.ref (by have h9 := (show v < jn Mb from by omega); first | exact h9 | (simp only [jn_Nw, jn_Si, jn_Sr, jn_Sv, jn_Sq]; omega)) jOk.nil), (jOk.ref (by simp [jn_Nw, jn_Si, jn_Sr, jn_Sv] <;> omega) (jOk.ref (by have h9 := (show v < jn Mb from by omega); first | exact h9 | (simp only [jn_Nw, jn_Si, jn_Sr, jn_Sv, jn_Sq]; omega)) jOk.nil))⟩ ?_
  obtain ⟨X48, hX48⟩ : ∃ Xz, Xz = jSI (jNw Mb 9 0) (jn Mb) := ⟨_, rfl⟩
  rw [← hX48] at hfX48
  refine J_mem (M' := X48) hX48.symm ?_
  obtain ⟨X48a, X48b, X48c, X48d⟩ := hfX48
  refine J_putrF (j := 6) (r := some (jn Mb)) dX7_init_51 (fun _ h => List.mem_cons_of_mem _ (List.mem_append_left _ (List.mem_append_left _ (List.mem_append_left _ (List.mem_append_right _ (h)))))) cs10 cty10 (by decide) rfl (List.mem_of_getElem? (i := 14) rfl) rfl rfl rfl rfl jfit_r (show v < jn X48 from by omega) (X48d.eq (show v < jn Mb + 1 by omega) (by omega) |>.1 |>.trans ((jEq.nw (by omega)).1) |>.trans kMb) ?_
  have gMq := stg (fld := 6) X48d (show v < jn Mb by omega)
  obtain ⟨Mq, hMq⟩ : ∃ Kz9, Kz9 = jSr X48 (v) 6 (some (jn Mb)) := ⟨_, rfl⟩
  refine J_mem (M' := Mq) hMq.symm ?_
  rw [← hMq] at gMq
  obtain ⟨gMq1, gMq2, gMq3, gMq4, gMq5⟩ := gMq
  have nMq : jn Mq = v + 8 := by rw [hMq]; show jn X48 = _; omega
  have cMq : jCl Mq := by rw [hMq]; exact jCl_Sr X48b (fun q hq => by cases hq; omega)
  have kMq : jk Mq v = 10 := gMq4.trans kMb
  refine J_aload_n (v) dX7_init_54 rfl rfl ?_
  refine J_iconst (x := 0) dX7_init_55 (by decide) ?_
  refine J_puti (j := 7) (x := (0)) dX7_init_56 (fun _ h => List.mem_cons_of_mem _ (List.mem_append_left _ (List.mem_append_left _ (List.mem_append_left _ (List.mem_append_right _ (h)))))) cs10 cty10 (by decide) rfl (List.mem_of_getElem? (i := 15) rfl) rfl rfl ⟨rfl, rfl⟩ (show v < jn Mq from by omega) kMq ?_
  obtain ⟨Mc, hMc⟩ : ∃ Kz9, Kz9 = jSi Mq v 7 ((0)) := ⟨_, rfl⟩
  refine J_mem (M' := Mc) hMc.symm ?_
  have nMc : jn Mc = v + 8 := by rw [hMc]; exact nMq
  have cMc : jCl Mc := by rw [hMc]; exact cMq
  have kMc : jk Mc v = 10 := by rw [hMc]; exact kMq
  have eMc : ∀ a, a ≠ v → jEq Mq Mc a := fun a hne => by rw [hMc]; exact jEq.si hne
  have rMc : ∀ j, jr Mc v j = jr Mq v j := fun j => by rw [hMc]; rfl
  have iMc : ∀ j, ji Mc v j = if j = 7 then 0 else ji Mq v j := fun j => by rw [hMc, ji_Si]; simp
  refine J_aload_n (v) dX7_init_59 rfl rfl ?_
  refine J_new (ci := 6) dX7_init_60 (fun _ h => List.mem_cons_of_mem _ (List.mem_append_left _ (List.mem_append_right _ (h)))) cs6 cty6 (List.mem_of_getElem? (i := 16) rfl) (List.mem_of_getElem? (i := 17) rfl) (List.mem_of_getElem? (i := 18) rfl) (by omega) (by omega) (cMc) (jOk.ref (show v < jn Mc from by omega) jOk.nil) (jOk.ref (show v < jn Mc from by omega) jOk.nil) ?_
  refine J_dup dX7_init_63 rfl ?_
  refine J_callv (jrunI (ret := none) (As := []) (ct_X2_init l D dA hst (jNw Mc 6 0) (jCl_Nw (cMc)) (jn Mc) rfl (by simp [jk_Nw])) dX7_init_64 yY_X2_init gX7_init_X2_init rfl (List.mem_of_getElem? (i := 18) rfl) (List.mem_of_getElem? (i := 32) rfl) (List.mem_of_getElem? (i := 33) rfl) rfl ⟨by omega, by omega⟩ ⟨by omega, by omega⟩ rfl (Nat.le_of_ble_eq_true rfl)) ⟨by omega, by omega⟩ (Or.inr ⟨(jOk.ref (by have h9 := (show v < jn Mc from by omega); first | exact h9 | (simp only [jn_Nw, jn_Si, jn_Sr, jn_Sv, jn_Sq]; omega)) jOk.nil), (jOk.ref (by simp [jn_Nw, jn_Si, jn_Sr, jn_Sv] <;> omega) (jOk.ref (by have h9 := (show v < jn Mc from by omega); first | exact h9 | (simp only [jn_Nw, jn_Si, jn_Sr, jn_Sv, jn_Sq]; omega)) jOk.nil))⟩) (fun E M9 hp _ => by cases hp.1) (fun X64 hp64 hle64 => ?_)
  obtain ⟨-, X64h, X64s, X64a, X64b, X64d⟩ := hp64
  refine J_putrF (j := 8) (r := some (jn Mc)) dX7_init_67 (fun _ h => List.mem_cons_of_mem _ (List.mem_append_left _ (List.mem_append_left _ (List.mem_append_left _ (List.mem_append_right _ (h)))))) cs10 cty10 (by decide) rfl (List.mem_of_getElem? (i := 19) rfl) rfl rfl rfl rfl jfit_r (show v < jn X64 from by omega) (X64d.eq (show v < jn Mc + 1 by omega) (by omega) |>.1 |>.trans ((jEq.nw (by omega)).1) |>.trans kMc) ?_
  have gMd := stg (fld := 8) X64d (show v < jn Mc by omega)
  obtain ⟨Md, hMd⟩ : ∃ Kz9, Kz9 = jSr X64 (v) 8 (some (jn Mc)) := ⟨_, rfl⟩
  refine J_mem (M' := Md) hMd.symm ?_
  rw [← hMd] at gMd
  obtain ⟨gMd1, gMd2, gMd3, gMd4, gMd5⟩ := gMd
  have nMd : jn Md = v + 34 := by rw [hMd]; show jn X64 = _; omega
  have cMd : jCl Md := by rw [hMd]; exact jCl_Sr X64b (fun q hq => by cases hq; omega)
  have kMd : jk Md v = 10 := gMd4.trans kMc
  refine J_aload_n (v) dX7_init_70 rfl rfl ?_
  refine J_new (ci := 1) dX7_init_71 (fun _ h => List.mem_cons_of_mem _ (List.mem_append_right _ (h))) cs1 cty1 (List.mem_of_getElem? (i := 20) rfl) (List.mem_of_getElem? (i := 21) rfl) (List.mem_of_getElem? (i := 22) rfl) (by omega) (by omega) (cMd) (jOk.ref (show v < jn Md from by omega) jOk.nil) (jOk.ref (show v < jn Md from by omega) jOk.nil) ?_
  refine J_dup dX7_init_74 rfl ?_
  refine J_callvA (jrunI (ret := none) (As := []) (ct_J4_init_da8c8 l D dA hst (jNw Md 1 0) (jCl_Nw (cMd)) (jn Md) (Nat.lt_succ_self _) (by simp [jk_Nw])) dX7_init_75 yY_J4_init_da8c8 gX7_init_J4_init_da8c8 rfl (List.mem_of_getElem? (i := 22) rfl) (List.mem_of_getElem? (i := 40) rfl) (List.mem_of_getElem? (i := 41) rfl) rfl ⟨by omega, by omega⟩ ⟨by omega, by omega⟩ rfl (Nat.le_of_ble_eq_true rfl)) (rfl) ⟨by omega, by omega⟩ ⟨(jOk.ref (by have h9 := (show v < jn Md from by omega); first | exact h9 | (simp only [jn_Nw, jn_Si, jn_Sr, jn_Sv, jn_Sq]; omega)) jOk.nil), (jOk.ref (by simp [jn_Nw, jn_Si, jn_Sr, jn_Sv] <;> omega) (jOk.ref (by have h9 := (show v < jn Md from by omega); first | exact h9 | (simp only [jn_Nw, jn_Si, jn_Sr, jn_Sv, jn_Sq]; omega)) jOk.nil))⟩ ?_
  obtain ⟨X75, hX75⟩ : ∃ Kz9, Kz9 = jSi (jSr (jNw (jNw Md 1 0) 20 16) (jn Md) 0 (some (jn Md + 1))) (jn Md) 1 0 := ⟨_, rfl⟩
  refine J_mem (M' := X75) hX75.symm ?_
  have X75d : jXo (jn Md) (jNw Md 1 0) X75 := by rw [hX75]; exact ⟨by show jn Md + 1 ≤ jn Md + 1 + 1; omega, fun a ha hne => ((jEq.nw ha).tr (jEq.sr hne)).tr (jEq.si hne)⟩
  have X75a : jn X75 = jn Md + 2 := by rw [hX75]; rfl
  have X75b : jCl X75 := by rw [hX75]; exact jCl_Si (jCl_Sr (jCl_Nw (jCl_Nw cMd)) (fun q hq => by cases hq; show jn Md + 1 < jn Md + 1 + 1; omega))
  have z1 : jk X75 (jn Md) = 1 := by rw [hX75]; simp [jn_Nw, jn_Si, jn_Sr, jk_Si, jk_Sr, jk_Nw, jz_Si, jz_Sr, jz_Nw, jr_Si, jr_Sr, jr_Nw, ji_Si, ji_Sr, ji_Nw] <;> omega
  have z2 : jr X75 (jn Md) 0 = some (jn Md + 1) := by rw [hX75]; simp [jn_Nw, jn_Si, jn_Sr, jk_Si, jk_Sr, jk_Nw, jz_Si, jz_Sr, jz_Nw, jr_Si, jr_Sr, jr_Nw, ji_Si, ji_Sr, ji_Nw] <;> omega
  have z3 : jk X75 (jn Md + 1) = 20 := by rw [hX75]; simp [jn_Nw, jn_Si, jn_Sr, jk_Si, jk_Sr, jk_Nw, jz_Si, jz_Sr, jz_Nw, jr_Si, jr_Sr, jr_Nw, ji_Si, ji_Sr, ji_Nw] <;> omega
  have z4 : jz X75 (jn Md + 1) = 16 := by rw [hX75]; simp [jn_Nw, jn_Si, jn_Sr, jk_Si, jk_Sr, jk_Nw, jz_Si, jz_Sr, jz_Nw, jr_Si, jr_Sr, jr_Nw, ji_Si, ji_Sr, ji_Nw] <;> omega
  have z5 : ji X75 (jn Md) 1 = 0 := by rw [hX75]; simp [jn_Nw, jn_Si, jn_Sr, jk_Si, jk_Sr, jk_Nw, jz_Si, jz_Sr, jz_Nw, jr_Si, jr_Sr, jr_Nw, ji_Si, ji_Sr, ji_Nw] <;> omega
  have z6 : ji X75 (jn Md) 3 = 0 := by rw [hX75]; simp [jn_Nw, jn_Si, jn_Sr, jk_Si, jk_Sr, jk_Nw, jz_Si, jz_Sr, jz_Nw, jr_Si, jr_Sr, jr_Nw, ji_Si, ji_Sr, ji_Nw] <;> omega
  have z7 : jBf X75 (jn Md + 1) := fun j => by rw [show ji X75 (jn Md + 1) j = 0 from by rw [hX75]; simp [jn_Nw, jn_Si, jn_Sr, jk_Si, jk_Sr, jk_Nw, jz_Si, jz_Sr, jz_Nw, jr_Si, jr_Sr, jr_Nw, ji_Si, ji_Sr, ji_Nw] <;> omega]; decide
  refine J_putrF (j := 9) (r := some (jn Md)) dX7_init_78 (fun _ h => List.mem_cons_of_mem _ (List.mem_append_left _ (List.mem_append_left _ (List.mem_append_left _ (List.mem_append_right _ (h)))))) cs10 cty10 (by decide) rfl (List.mem_of_getElem? (i := 23) rfl) rfl rfl rfl rfl jfit_r (show v < jn X75 from by omega) (X75d.eq (show v < jn Md + 1 by omega) (by omega) |>.1 |>.trans ((jEq.nw (by omega)).1) |>.trans kMd) ?_
  have gMe := stg (fld := 9) X75d (show v < jn Md by omega)
  obtain ⟨Me, hMe⟩ : ∃ Kz9, Kz9 = jSr X75 (v) 9 (some (jn Md)) := ⟨_, rfl⟩
  refine J_mem (M' := Me) hMe.symm ?_
  rw [← hMe] at gMe
  obtain ⟨gMe1, gMe2, gMe3, gMe4, gMe5⟩ := gMe
  have nMe : jn Me = v + 36 := by rw [hMe]; show jn X75 = _; omega
  have cMe : jCl Me := by rw [hMe]; exact jCl_Sr X75b (fun q hq => by cases hq; omega)
  have kMe : jk Me v = 10 := gMe4.trans kMd
  have w2 : jSt Me (v + 2) cS0 := by
        have h1 : jSt X37 (v + 2) cS0 := by rw [← na]; exact X37c
        have h2 : ∀ a, v + 2 ≤ a → a < v + 5 → jEq X37 Me a := fun a g1 g2 => (((((gMb5 a (by omega)).tr (gMq1 a (by omega) (by omega))).tr (eMc a (by omega))).tr (gMd1 a (by omega) (by omega))).tr (gMe1 a (by omega) (by omega)))
        exact h1.eq0 (by omega) (h2 _ (by omega) (by omega)) (h2 _ (by omega) (by omega)) (h2 _ (by omega) (by omega))
  have w5 : jSt Me (v + 5) cS0 := by
        have h1 : jSt X48 (v + 5) cS0 := by rw [← nMb]; exact X48c
        have h2 : ∀ a, v + 5 ≤ a → a < v + 8 → jEq X48 Me a := fun a g1 g2 => ((((gMq5 a (by omega)).tr (eMc a (by omega))).tr (gMd1 a (by omega) (by omega))).tr (gMe1 a (by omega) (by omega)))
        exact h1.eq0 (by omega) (h2 _ (by omega) (by omega)) (h2 _ (by omega) (by omega)) (h2 _ (by omega) (by omega))
  have h8 : ∀ a, v + 8 ≤ a → a < v + 34 → jEq X64 Me a := fun a g1 g2 => (gMd5 a (by omega)).tr (gMe1 a (by omega) (by omega))
  have wH : jHis Me (v + 8) 0 0 := by
        have h1 : jHis X64 (v + 8) 0 0 := by rw [← nMc]; exact X64h
        exact h1.eq0 (by omega) (fun a g1 g2 => h8 a g1 (by omega))
  have wS : ∀ j, j < 8 → jSt Me (v + 8 + 2 + 3 * j) cS0 := fun j hj => by
        have h1 : jSt X64 (v + 8 + 2 + 3 * j) cS0 := by rw [← nMc]; exact X64s j hj
        exact h1.eq0 (by omega) (h8 _ (by omega) (by omega)) (h8 _ (by omega) (by omega)) (h8 _ (by omega) (by omega))
  have e1 : jEq Ma Me (v + 1) := ((((gMb1 _ (by omega) (by omega)).tr (gMq1 _ (by omega) (by omega))).tr (eMc _ (by omega))).tr (gMd1 _ (by omega) (by omega))).tr (gMe1 _ (by omega) (by omega))
  have rr : ∀ j, jr Me v j = if j = 9 then some (v + 34) else if j = 8 then some (v + 8) else if j = 6 then some (v + 5) else if j = 5 then some (v + 2) else jr Ma v j := fun j => by rw [gMe2, gMd2, rMc, gMq2, gMb2, nMd, nMc, nMb, na]
  have ii : ∀ j, ji Me v j = if j = 7 then 0 else ji Ma v j := fun j => by rw [gMe3, gMd3, iMc, gMq3, gMb3]
  have x34 : ∀ a, a ≠ v → jEq X75 Me a := gMe5
  have hb : jBf Me (v + 35) := by
        have h1 : jBf X75 (v + 35) := by rw [show v + 35 = jn Md + 1 by omega]; exact z7
        exact h1.eq (x34 _ (by omega)).2.2.1
  have y34 := x34 (v + 34) (by omega)
  have y35 := x34 (v + 35) (by omega)
  rw [nMd] at z1 z2 z3 z4 z5 z6
  have xx : jXo v M Me := ⟨by omega, fun a ha hne => ((((xa a ha hne).tr (gMb1 a (by omega) hne)).tr (gMq1 a (by omega) hne)).tr (eMc a hne)).tr ((gMd1 a (by omega) hne).tr (gMe1 a (by omega) hne))⟩
  have fin9 := init_fin (M := Me) (v := v) (by omega) cMe kMe (by rw [rr]; exact ra0) (by rw [rr]; exact ra4) (by rw [rr]; rfl) (by rw [rr]; rfl) (by rw [rr]; rfl) (by rw [rr]; rfl) (by rw [ii]; exact ia1) (by rw [ii]; exact ia2) (by rw [ii]; exact ia3) (by rw [ii]; rfl) (e1.1.trans sa1) (e1.2.1.trans sa2) (fun j => by rw [e1.2.2.1]; exact sa3 j) w2 w5 wH wS (y34.1.trans z1) (by rw [y34.2.2.2.1]; exact z2) (y35.1.trans z3) (y35.2.1.trans z4) (by rw [y34.2.2.1]; exact z5) (by rw [y34.2.2.1]; exact z6) hb
  exact J_vret dX7_init_81 rfl (by exact ⟨rfl, fin9, xx⟩)

