
def mFl (i : Nat) : Nat := [0, 1, 2, 5, 9, 12, 13, 21, 22, 23, 24, 27, 29].getD i 0
def mLn (i : Nat) : Nat := [427, 3416, 427, 60, 60, 2112, 200, 60, 60, 60, 60, 60, 512].getD i 0
theorem mFl_ne : ∀ i, i < 13 → ∀ j, j < i → mFl j ≠ mFl i := by decide
/-- the reference while it is made: its first i rows are there -/
def mIn (M K : jM) (m i : Nat) (a b : Int32) : Prop := jn K = m + 1 + i ∧ jCl K ∧ jk K m = 11 ∧ jXo m M K ∧ (∀ j, j < i → jk K (m + 1 + j) = 22 ∧ jz K (m + 1 + j) = mLn j ∧ jr K m (mFl j) = some (m + 1 + j) ∧ ∀ x, ji K (m + 1 + j) x = 0) ∧ ∀ f, ji K m f = if f = 7 then a else if f = 10 then b else 0
theorem mIn.ar {M K : jM} {m i : Nat} {a b : Int32} (h : mIn M K m i a b) (hi : i < 13) (hm : m + 1 = jn M) : mIn M (jSr (jNw K 22 (mLn i)) m (mFl i) (some (jn K))) m (i + 1) a b := by
  obtain ⟨h1, h2, h3, h4, h5, h6⟩ := h
  have old : ∀ c, c < jn K → c ≠ m → jEq K (jSr (jNw K 22 (mLn i)) m (mFl i) (some (jn K))) c := fun c hc hne => (jEq.nw hc).tr (jEq.sr hne)
  have em : jEq K (jNw K 22 (mLn i)) m := jEq.nw (by omega)
  refine ⟨by show jn K + 1 = _; omega, jCl_Sr (jCl_Nw h2) (fun q hq => by cases hq; exact Nat.lt_succ_self _), em.1.trans h3, ⟨by show jn M ≤ jn K + 1; omega, fun c hc hne => (jXo.eq h4 hc hne).tr (old c (by omega) hne)⟩, fun j hj => ?_, fun f => by show ji (jNw K 22 (mLn i)) m f = _; rw [em.2.2.1]; exact h6 f⟩
  by_cases hji : j = i
  · subst hji
    rw [← h1]
    refine ⟨by show jk (jNw K 22 (mLn j)) _ = _; rw [jk_Nw, if_pos rfl], by show jz (jNw K 22 (mLn j)) _ = _; rw [jz_Nw, if_pos rfl], by rw [jr_Sr, if_pos ⟨rfl, rfl⟩], fun x => by show ji (jNw K 22 (mLn j)) _ _ = _; rw [ji_Nw, if_pos rfl]⟩
  · obtain ⟨g1, g2, g3, g4⟩ := h5 j (by omega)
    have e := old (m + 1 + j) (by omega) (by omega)
    refine ⟨e.1.trans g1, e.2.1.trans g2, ?_, fun x => by rw [e.2.2.1]; exact g4 x⟩
    rw [jr_Sr, if_neg (fun hh => mFl_ne i hi j (by omega) hh.2), em.2.2.2.1]
    exact g3
theorem mIn.s7 {M K : jM} {m i : Nat} {a b x : Int32} (h : mIn M K m i a b) : mIn M (jSi K m 7 x) m i x b := by
  obtain ⟨h1, h2, h3, h4, h5, h6⟩ := h
  refine ⟨h1, h2, h3, ⟨h4.1, fun c hc hne => (jXo.eq h4 hc hne).tr (jEq.si hne)⟩, fun j hj => ?_, fun f => ?_⟩
  · obtain ⟨g1, g2, g3, g4⟩ := h5 j hj
    exact ⟨g1, g2, g3, fun x => (ji_Sin (by omega)).trans (g4 x)⟩
  · rw [ji_Si]
    by_cases hf : f = 7
    · rw [if_pos ⟨rfl, hf⟩, if_pos hf]
    · rw [if_neg (fun hh => hf hh.2), if_neg hf, h6, if_neg hf]
theorem mIn.s10 {M K : jM} {m i : Nat} {a b x : Int32} (h : mIn M K m i a b) : mIn M (jSi K m 10 x) m i a x := by
  obtain ⟨h1, h2, h3, h4, h5, h6⟩ := h
  refine ⟨h1, h2, h3, ⟨h4.1, fun c hc hne => (jXo.eq h4 hc hne).tr (jEq.si hne)⟩, fun j hj => ?_, fun f => ?_⟩
  · obtain ⟨g1, g2, g3, g4⟩ := h5 j hj
    exact ⟨g1, g2, g3, fun x => (ji_Sin (by omega)).trans (g4 x)⟩
  · rw [ji_Si]
    by_cases hf : f = 10
    · rw [if_pos ⟨rfl, hf⟩, hf]; rfl
    · rw [if_neg (fun hh => hf hh.2), h6, if_neg hf, if_neg hf]
theorem mIn.ok {M K : jM} {m : Nat} {a b : Int32} (h : mIn M K m 13 a b) : mOk K m := by
  obtain ⟨h1, h2, h3, h4, h5, h6⟩ := h
  exact ⟨by omega, h3, ⟨(h5 0 (by decide)).2.2.1, (h5 1 (by decide)).2.2.1, (h5 2 (by decide)).2.2.1, (h5 3 (by decide)).2.2.1, (h5 4 (by decide)).2.2.1, (h5 5 (by decide)).2.2.1, (h5 6 (by decide)).2.2.1, (h5 7 (by decide)).2.2.1, (h5 8 (by decide)).2.2.1, (h5 9 (by decide)).2.2.1, (h5 10 (by decide)).2.2.1, (h5 11 (by decide)).2.2.1, (h5 12 (by decide)).2.2.1⟩, ⟨(h5 0 (by decide)).1, (h5 1 (by decide)).1, (h5 2 (by decide)).1, (h5 3 (by decide)).1, (h5 4 (by decide)).1, (h5 5 (by decide)).1, (h5 6 (by decide)).1, (h5 7 (by decide)).1, (h5 8 (by decide)).1, (h5 9 (by decide)).1, (h5 10 (by decide)).1, (h5 11 (by decide)).1, (h5 12 (by decide)).1⟩, (h5 0 (by decide)).2.1, (h5 1 (by decide)).2.1, (h5 2 (by decide)).2.1, (h5 3 (by decide)).2.1, (h5 4 (by decide)).2.1, (h5 5 (by decide)).2.1, (h5 6 (by decide)).2.1, (h5 7 (by decide)).2.1, (h5 8 (by decide)).2.1, (h5 9 (by decide)).2.1, (h5 10 (by decide)).2.1, (h5 11 (by decide)).2.1, (h5 12 (by decide)).2.1⟩
def mI0 (s : Nat) : Nat → Int32 := fun i => if i % 33 = 0 ∧ i < 33 * s then -1 else 0
theorem mI0_s {s : Nat} : (fun j => if j = 33 * s then (-1 : Int32) else mI0 s j) = mI0 (s + 1) := by
  funext j
  unfold mI0
  by_cases h : j = 33 * s
  · rw [if_pos h, if_pos ⟨by omega, by omega⟩]
  · rw [if_neg h]
    by_cases h2 : j % 33 = 0 ∧ j < 33 * s
    · rw [if_pos h2, if_pos ⟨h2.1, by omega⟩]
    · rw [if_neg h2, if_neg (by omega)]
theorem mIn.z0 {M K : jM} {m : Nat} {a b : Int32} (h : mIn M K m 13 a b) : K = jSv K (m + 1) (mI0 0) := by
  have e : mI0 0 = ji K (m + 1) := funext fun j => by
    unfold mI0
    rw [if_neg (by omega)]
    exact ((h.2.2.2.2.1 0 (by decide)).2.2.2 j).symm
  rw [e]; exact (jSv_self _ _).symm
theorem mI0_st : mSt (mI0 12) 0 cS0 := by
  refine ⟨fun j hj => ?_, ?_, by decide, fun i hi => absurd hi (Nat.not_lt_zero _)⟩
  · show mI0 12 (0 + 33 * j) = -1
    unfold mI0
    rw [if_pos ⟨by omega, by omega⟩]
  · unfold mI0
    rw [if_neg (by omega)]; rfl
theorem mIn.fin {M K : jM} {m : Nat} (h : mIn M K m 13 (-1) (-1)) (hm : m + 1 = jn M) : mAb (jSv K (m + 1) (mI0 12)) m cA0 ∧ jXo m M (jSv K (m + 1) (mI0 12)) ∧ jCl (jSv K (m + 1) (mI0 12)) ∧ jn (jSv K (m + 1) (mI0 12)) = m + 14 := by
  have hO : mOk (jSv K (m + 1) (mI0 12)) m := h.ok
  have hS : ∀ f, ji (jSv K (m + 1) (mI0 12)) m f = ji K m f := fun f => ji_Svn (by omega)
  have h1 : ji (jSv K (m + 1) (mI0 12)) (m + 1) = mI0 12 := funext fun j => by rw [ji_Sv, if_pos rfl]
  obtain ⟨a1, a2, a3, a4, a5, a6⟩ := h
  have nK : jn K = m + 14 := a1
  refine ⟨⟨hO, by rw [h1]; exact mI0_st, ⟨by rw [hS, a6]; rfl, Nat.zero_le _, fun i hi => absurd hi (Nat.not_lt_zero _)⟩, ⟨by rw [hS, a6]; rfl, fun hh => nomatch hh⟩, ⟨by rw [hS, a6]; rfl, Nat.zero_le _, fun i hi => absurd hi (Nat.not_lt_zero _)⟩, by rw [hS, a6]; rfl, ⟨by rw [hS, a6]; rfl, Or.inl rfl⟩, by show ji _ m 10 = -1; rw [hS, a6]; rfl⟩, ⟨a4.1, fun c hc hne => (jXo.eq a4 hc hne).tr ⟨rfl, rfl, funext fun j => ji_Svn (by omega), rfl, rfl, rfl⟩⟩, a2, nK⟩
theorem dX8_init_0 : decode cX8_init 0 = .ok (.aload_n 0, 1) := by decide +kernel
theorem dX8_init_1 : decode cX8_init 1 = .ok (.invokespecial 1, 3) := by decide +kernel
theorem dX8_init_4 : decode cX8_init 4 = .ok (.aload_n 0, 1) := by decide +kernel
theorem dX8_init_5 : decode cX8_init 5 = .ok (.sipush 427, 3) := by decide +kernel
theorem dX8_init_8 : decode cX8_init 8 = .ok (.newarray .int, 2) := by decide +kernel
theorem dX8_init_10 : decode cX8_init 10 = .ok (.putfield 9, 3) := by decide +kernel
theorem dX8_init_13 : decode cX8_init 13 = .ok (.aload_n 0, 1) := by decide +kernel
theorem dX8_init_14 : decode cX8_init 14 = .ok (.sipush 3416, 3) := by decide +kernel
theorem dX8_init_17 : decode cX8_init 17 = .ok (.newarray .int, 2) := by decide +kernel
theorem dX8_init_19 : decode cX8_init 19 = .ok (.putfield 13, 3) := by decide +kernel
theorem dX8_init_22 : decode cX8_init 22 = .ok (.aload_n 0, 1) := by decide +kernel
theorem dX8_init_23 : decode cX8_init 23 = .ok (.sipush 427, 3) := by decide +kernel
theorem dX8_init_26 : decode cX8_init 26 = .ok (.newarray .int, 2) := by decide +kernel
theorem dX8_init_28 : decode cX8_init 28 = .ok (.putfield 16, 3) := by decide +kernel
theorem dX8_init_31 : decode cX8_init 31 = .ok (.aload_n 0, 1) := by decide +kernel
theorem dX8_init_32 : decode cX8_init 32 = .ok (.bipush 60, 2) := by decide +kernel
theorem dX8_init_34 : decode cX8_init 34 = .ok (.newarray .int, 2) := by decide +kernel
theorem dX8_init_36 : decode cX8_init 36 = .ok (.putfield 19, 3) := by decide +kernel
theorem dX8_init_39 : decode cX8_init 39 = .ok (.aload_n 0, 1) := by decide +kernel
theorem dX8_init_40 : decode cX8_init 40 = .ok (.iconst (-1), 1) := by decide +kernel
theorem dX8_init_41 : decode cX8_init 41 = .ok (.putfield 22, 3) := by decide +kernel
theorem dX8_init_44 : decode cX8_init 44 = .ok (.aload_n 0, 1) := by decide +kernel
theorem dX8_init_45 : decode cX8_init 45 = .ok (.bipush 60, 2) := by decide +kernel
theorem dX8_init_47 : decode cX8_init 47 = .ok (.newarray .int, 2) := by decide +kernel
theorem dX8_init_49 : decode cX8_init 49 = .ok (.putfield 26, 3) := by decide +kernel
theorem dX8_init_52 : decode cX8_init 52 = .ok (.aload_n 0, 1) := by decide +kernel
theorem dX8_init_53 : decode cX8_init 53 = .ok (.iconst (-1), 1) := by decide +kernel
theorem dX8_init_54 : decode cX8_init 54 = .ok (.putfield 29, 3) := by decide +kernel
theorem dX8_init_57 : decode cX8_init 57 = .ok (.aload_n 0, 1) := by decide +kernel
theorem dX8_init_58 : decode cX8_init 58 = .ok (.sipush 2112, 3) := by decide +kernel
theorem dX8_init_61 : decode cX8_init 61 = .ok (.newarray .int, 2) := by decide +kernel
theorem dX8_init_63 : decode cX8_init 63 = .ok (.putfield 32, 3) := by decide +kernel
theorem dX8_init_66 : decode cX8_init 66 = .ok (.aload_n 0, 1) := by decide +kernel
theorem dX8_init_67 : decode cX8_init 67 = .ok (.sipush 200, 3) := by decide +kernel
theorem dX8_init_70 : decode cX8_init 70 = .ok (.newarray .int, 2) := by decide +kernel
theorem dX8_init_72 : decode cX8_init 72 = .ok (.putfield 35, 3) := by decide +kernel
theorem dX8_init_75 : decode cX8_init 75 = .ok (.aload_n 0, 1) := by decide +kernel
theorem dX8_init_76 : decode cX8_init 76 = .ok (.bipush 60, 2) := by decide +kernel
theorem dX8_init_78 : decode cX8_init 78 = .ok (.newarray .int, 2) := by decide +kernel
theorem dX8_init_80 : decode cX8_init 80 = .ok (.putfield 38, 3) := by decide +kernel
theorem dX8_init_83 : decode cX8_init 83 = .ok (.aload_n 0, 1) := by decide +kernel
theorem dX8_init_84 : decode cX8_init 84 = .ok (.bipush 60, 2) := by decide +kernel
theorem dX8_init_86 : decode cX8_init 86 = .ok (.newarray .int, 2) := by decide +kernel
theorem dX8_init_88 : decode cX8_init 88 = .ok (.putfield 41, 3) := by decide +kernel
theorem dX8_init_91 : decode cX8_init 91 = .ok (.aload_n 0, 1) := by decide +kernel
theorem dX8_init_92 : decode cX8_init 92 = .ok (.bipush 60, 2) := by decide +kernel
theorem dX8_init_94 : decode cX8_init 94 = .ok (.newarray .int, 2) := by decide +kernel
theorem dX8_init_96 : decode cX8_init 96 = .ok (.putfield 44, 3) := by decide +kernel
theorem dX8_init_99 : decode cX8_init 99 = .ok (.aload_n 0, 1) := by decide +kernel
theorem dX8_init_100 : decode cX8_init 100 = .ok (.bipush 60, 2) := by decide +kernel
theorem dX8_init_102 : decode cX8_init 102 = .ok (.newarray .int, 2) := by decide +kernel
theorem dX8_init_104 : decode cX8_init 104 = .ok (.putfield 47, 3) := by decide +kernel
theorem dX8_init_107 : decode cX8_init 107 = .ok (.aload_n 0, 1) := by decide +kernel
theorem dX8_init_108 : decode cX8_init 108 = .ok (.bipush 60, 2) := by decide +kernel
theorem dX8_init_110 : decode cX8_init 110 = .ok (.newarray .int, 2) := by decide +kernel
theorem dX8_init_112 : decode cX8_init 112 = .ok (.putfield 50, 3) := by decide +kernel
theorem dX8_init_115 : decode cX8_init 115 = .ok (.aload_n 0, 1) := by decide +kernel
theorem dX8_init_116 : decode cX8_init 116 = .ok (.sipush 512, 3) := by decide +kernel
theorem dX8_init_119 : decode cX8_init 119 = .ok (.newarray .int, 2) := by decide +kernel
theorem dX8_init_121 : decode cX8_init 121 = .ok (.putfield 53, 3) := by decide +kernel
theorem dX8_init_126 : decode cX8_init 126 = .ok (.iload_n 1, 1) := by decide +kernel
theorem dX8_init_127 : decode cX8_init 127 = .ok (.bipush 12, 2) := by decide +kernel
theorem dX8_init_129 : decode cX8_init 129 = .ok (.if_icmp .ge 19, 3) := by decide +kernel
theorem dX8_init_148 : decode cX8_init 148 = .ok (.return_, 1) := by decide +kernel
theorem dX8_init_132 : decode cX8_init 132 = .ok (.aload_n 0, 1) := by decide +kernel
theorem dX8_init_133 : decode cX8_init 133 = .ok (.getfield 9, 3) := by decide +kernel
theorem dX8_init_136 : decode cX8_init 136 = .ok (.bipush 33, 2) := by decide +kernel
theorem dX8_init_138 : decode cX8_init 138 = .ok (.iload_n 1, 1) := by decide +kernel
theorem dX8_init_139 : decode cX8_init 139 = .ok (.imul, 1) := by decide +kernel
theorem dX8_init_140 : decode cX8_init 140 = .ok (.iconst (-1), 1) := by decide +kernel
theorem dX8_init_141 : decode cX8_init 141 = .ok (.iastore, 1) := by decide +kernel
theorem dX8_init_142 : decode cX8_init 142 = .ok (.iinc 1 1, 3) := by decide +kernel
theorem dX8_init_145 : decode cX8_init 145 = .ok (.goto (-19), 3) := by decide +kernel
theorem dX8_init_124 : decode cX8_init 124 = .ok (.iconst 0, 1) := by decide +kernel
theorem dX8_init_125 : decode cX8_init 125 = .ok (.istore_n 1, 1) := by decide +kernel
set_option maxHeartbeats 400000 in
set_option maxRecDepth 20000 in
theorem ct_X8_init (l : Launch) (D : va_G) (dA : Nat → ClassId) (hst : l.stackTraces = false) (M : jM) (hcl : jCl M) (m : Nat) (hm : m + 1 = jn M) (hk : jk M m = 11) (hz : ∀ f, ji M m f = 0) : jCT l D dA yX8_init wsX8_init (23) (480) (13) (7600) 0 [.ref (m)] M (fun o M1 => o = oV ∧ mAb M1 m cA0 ∧ jXo m M M1 ∧ jCl M1 ∧ jn M1 = m + 14) := by
  refine jBody (cc := cX8_init) (nL := 2) (rt := none) (ini := true) (by decide) rfl hst (Nat.le_of_ble_eq_true rfl) (by simp [Value.category]) (by intro h9; first | exact absurd h9 (by decide) | rfl) ?_
  show J l D dA RX8 cX8_init wsX8_init 2 true none [] (23) (480) (jF D dA (jn M) (fun o M1 => o = oV ∧ mAb M1 m cA0 ∧ jXo m M M1 ∧ jCl M1 ∧ jn M1 = m + 14) 0) (jn M) (13) (7600) (M) 0 [.ref (m), .float 0] []
  have hI0 : mIn M M m 0 0 0 := ⟨hm.symm, hcl, hk, ⟨Nat.le_refl _, fun _ _ _ => jEq.rf⟩, fun j hj => absurd hj (Nat.not_lt_zero _), fun f => by rw [hz]; split <;> first | rfl | (split <;> rfl)⟩
  refine J_aload_n (m) dX8_init_0 rfl rfl ?_
  refine J_objInit dX8_init_1 (List.mem_of_getElem? (i := 1) rfl) (List.mem_of_getElem? (i := 2) rfl) (List.mem_of_getElem? (i := 3) rfl) (Nat.le_of_ble_eq_true rfl) (by omega) (by omega) ?_
  refine J_aload_n (m) dX8_init_4 rfl rfl ?_
  refine J_sipush (x := 427) dX8_init_5 (by decide) ?_
  refine J_newa (t := 2) (atype := .int) (N' := 427) (n := (427)) dX8_init_8 (by decide) rfl rfl (List.mem_of_getElem? (i := 4) rfl) (nI_pos (n := 427) (by omega)) (nI_clamp (n := 427) (by omega)) (by simp [newarray.typeOf, componentBytes] <;> omega) (by omega) (by omega) (hcl) (jOk.ref (show m < jn M from by omega) (jOk.float jOk.nil)) (jOk.ref (show m < jn M from by omega) jOk.nil) ?_
  refine J_putrF (j := 0) (r := some (jn M)) dX8_init_10 (fun _ h => List.mem_cons_of_mem _ (List.mem_append_left _ (List.mem_append_right _ (h)))) cs11 cty11 (by decide) rfl (List.mem_of_getElem? (i := 5) rfl) rfl rfl rfl rfl jfit_rA (by have h9 := (show m < jn M from by omega); first | exact h9 | (simp only [jn_Nw, jn_Si, jn_Sr, jn_Sv, jn_Sq]; omega)) (jk_new (M := M) (kd := 22) (len := 427) (by have h9 := (show m < jn M from by omega); first | exact h9 | (simp only [jn_Nw, jn_Si, jn_Sr, jn_Sv, jn_Sq]; omega)) hk) ?_
  obtain ⟨K13, hK13⟩ : ∃ Kz9, Kz9 = jSr (jNw M 22 427) (m) 0 (some (jn M)) := ⟨_, rfl⟩
  refine J_mem (M' := K13) hK13.symm ?_
  have hI13 : mIn M K13 m 1 0 0 := by rw [hK13]; exact hI0.ar (i := 0) (by decide) hm
  have hn13 : jn K13 = m + 2 := hI13.1
  clear hK13 hI0
  refine J_aload_n (m) dX8_init_13 rfl rfl ?_
  refine J_sipush (x := 3416) dX8_init_14 (by decide) ?_
  refine J_newa (t := 2) (atype := .int) (N' := 3416) (n := (3416)) dX8_init_17 (by decide) rfl rfl (List.mem_of_getElem? (i := 4) rfl) (nI_pos (n := 3416) (by omega)) (nI_clamp (n := 3416) (by omega)) (by simp [newarray.typeOf, componentBytes] <;> omega) (by omega) (by omega) (hI13.2.1) (jOk.ref (show m < jn K13 from by omega) (jOk.float jOk.nil)) (jOk.ref (show m < jn K13 from by omega) jOk.nil) ?_
  refine J_putrF (j := 1) (r := some (jn K13)) dX8_init_19 (fun _ h => List.mem_cons_of_mem _ (List.mem_append_left _ (List.mem_append_right _ (h)))) cs11 cty11 (by decide) rfl (List.mem_of_getElem? (i := 6) rfl) rfl rfl rfl rfl jfit_rA (by have h9 := (show m < jn K13 from by omega); first | exact h9 | (simp only [jn_Nw, jn_Si, jn_Sr, jn_Sv, jn_Sq]; omega)) (jk_new (M := K13) (kd := 22) (len := 3416) (by have h9 := (show m < jn K13 from by omega); first | exact h9 | (simp only [jn_Nw, jn_Si, jn_Sr, jn_Sv, jn_Sq]; omega)) hI13.2.2.1) ?_
  obtain ⟨K22, hK22⟩ : ∃ Kz9, Kz9 = jSr (jNw K13 22 3416) (m) 1 (some (jn K13)) := ⟨_, rfl⟩
  refine J_mem (M' := K22) hK22.symm ?_
  have hI22 : mIn M K22 m 2 0 0 := by rw [hK22]; exact hI13.ar (i := 1) (by decide) hm
  have hn22 : jn K22 = m + 3 := hI22.1
  clear hK22 hI13 hn13 K13
  refine J_aload_n (m) dX8_init_22 rfl rfl ?_
  refine J_sipush (x := 427) dX8_init_23 (by decide) ?_
  refine J_newa (t := 2) (atype := .int) (N' := 427) (n := (427)) dX8_init_26 (by decide) rfl rfl (List.mem_of_getElem? (i := 4) rfl) (nI_pos (n := 427) (by omega)) (nI_clamp (n := 427) (by omega)) (by simp [newarray.typeOf, componentBytes] <;> omega) (by omega) (by omega) (hI22.2.1) (jOk.ref (show m < jn K22 from by omega) (jOk.float jOk.nil)) (jOk.ref (show m < jn K22 from by omega) jOk.nil) ?_
  refine J_putrF (j := 2) (r := some (jn K22)) dX8_init_28 (fun _ h => List.mem_cons_of_mem _ (List.mem_append_left _ (List.mem_append_right _ (h)))) cs11 cty11 (by decide) rfl (List.mem_of_getElem? (i := 7) rfl) rfl rfl rfl rfl jfit_rA (by have h9 := (show m < jn K22 from by omega); first | exact h9 | (simp only [jn_Nw, jn_Si, jn_Sr, jn_Sv, jn_Sq]; omega)) (jk_new (M := K22) (kd := 22) (len := 427) (by have h9 := (show m < jn K22 from by omega); first | exact h9 | (simp only [jn_Nw, jn_Si, jn_Sr, jn_Sv, jn_Sq]; omega)) hI22.2.2.1) ?_
  obtain ⟨K31, hK31⟩ : ∃ Kz9, Kz9 = jSr (jNw K22 22 427) (m) 2 (some (jn K22)) := ⟨_, rfl⟩
  refine J_mem (M' := K31) hK31.symm ?_
  have hI31 : mIn M K31 m 3 0 0 := by rw [hK31]; exact hI22.ar (i := 2) (by decide) hm
  have hn31 : jn K31 = m + 4 := hI31.1
  clear hK31 hI22 hn22 K22
  refine J_aload_n (m) dX8_init_31 rfl rfl ?_
  refine J_bipush (x := 60) dX8_init_32 (by decide) ?_
  refine J_newa (t := 2) (atype := .int) (N' := 60) (n := (60)) dX8_init_34 (by decide) rfl rfl (List.mem_of_getElem? (i := 4) rfl) (nI_pos (n := 60) (by omega)) (nI_clamp (n := 60) (by omega)) (by simp [newarray.typeOf, componentBytes] <;> omega) (by omega) (by omega) (hI31.2.1) (jOk.ref (show m < jn K31 from by omega) (jOk.float jOk.nil)) (jOk.ref (show m < jn K31 from by omega) jOk.nil) ?_
  refine J_putrF (j := 5) (r := some (jn K31)) dX8_init_36 (fun _ h => List.mem_cons_of_mem _ (List.mem_append_left _ (List.mem_append_right _ (h)))) cs11 cty11 (by decide) rfl (List.mem_of_getElem? (i := 8) rfl) rfl rfl rfl rfl jfit_rA (by have h9 := (show m < jn K31 from by omega); first | exact h9 | (simp only [jn_Nw, jn_Si, jn_Sr, jn_Sv, jn_Sq]; omega)) (jk_new (M := K31) (kd := 22) (len := 60) (by have h9 := (show m < jn K31 from by omega); first | exact h9 | (simp only [jn_Nw, jn_Si, jn_Sr, jn_Sv, jn_Sq]; omega)) hI31.2.2.1) ?_
  obtain ⟨K39, hK39⟩ : ∃ Kz9, Kz9 = jSr (jNw K31 22 60) (m) 5 (some (jn K31)) := ⟨_, rfl⟩
  refine J_mem (M' := K39) hK39.symm ?_
  have hI39 : mIn M K39 m 4 0 0 := by rw [hK39]; exact hI31.ar (i := 3) (by decide) hm
  have hn39 : jn K39 = m + 5 := hI39.1
  clear hK39 hI31 hn31 K31
  refine J_aload_n (m) dX8_init_39 rfl rfl ?_
  refine J_iconst (x := (-1)) dX8_init_40 (by decide) ?_
  refine J_puti (j := 7) (x := (-1)) dX8_init_41 (fun _ h => List.mem_cons_of_mem _ (List.mem_append_left _ (List.mem_append_right _ (h)))) cs11 cty11 (by decide) rfl (List.mem_of_getElem? (i := 9) rfl) rfl rfl ⟨rfl, rfl⟩ (show m < jn K39 from by omega) hI39.2.2.1 ?_
  obtain ⟨K44, hK44⟩ : ∃ Kz9, Kz9 = jSi K39 m 7 ((-1)) := ⟨_, rfl⟩
  refine J_mem (M' := K44) hK44.symm ?_
  have hI44 : mIn M K44 m 4 (-1) 0 := by rw [hK44]; exact hI39.s7
  have hn44 : jn K44 = m + 5 := hI44.1
  clear hK44 hI39 hn39 K39
  refine J_aload_n (m) dX8_init_44 rfl rfl ?_
  refine J_bipush (x := 60) dX8_init_45 (by decide) ?_
  refine J_newa (t := 2) (atype := .int) (N' := 60) (n := (60)) dX8_init_47 (by decide) rfl rfl (List.mem_of_getElem? (i := 4) rfl) (nI_pos (n := 60) (by omega)) (nI_clamp (n := 60) (by omega)) (by simp [newarray.typeOf, componentBytes] <;> omega) (by omega) (by omega) (hI44.2.1) (jOk.ref (show m < jn K44 from by omega) (jOk.float jOk.nil)) (jOk.ref (show m < jn K44 from by omega) jOk.nil) ?_
  refine J_putrF (j := 9) (r := some (jn K44)) dX8_init_49 (fun _ h => List.mem_cons_of_mem _ (List.mem_append_left _ (List.mem_append_right _ (h)))) cs11 cty11 (by decide) rfl (List.mem_of_getElem? (i := 10) rfl) rfl rfl rfl rfl jfit_rA (by have h9 := (show m < jn K44 from by omega); first | exact h9 | (simp only [jn_Nw, jn_Si, jn_Sr, jn_Sv, jn_Sq]; omega)) (jk_new (M := K44) (kd := 22) (len := 60) (by have h9 := (show m < jn K44 from by omega); first | exact h9 | (simp only [jn_Nw, jn_Si, jn_Sr, jn_Sv, jn_Sq]; omega)) hI44.2.2.1) ?_
  obtain ⟨K52, hK52⟩ : ∃ Kz9, Kz9 = jSr (jNw K44 22 60) (m) 9 (some (jn K44)) := ⟨_, rfl⟩
  refine J_mem (M' := K52) hK52.symm ?_
  have hI52 : mIn M K52 m 5 (-1) 0 := by rw [hK52]; exact hI44.ar (i := 4) (by decide) hm
  have hn52 : jn K52 = m + 6 := hI52.1
  clear hK52 hI44 hn44 K44
  refine J_aload_n (m) dX8_init_52 rfl rfl ?_
  refine J_iconst (x := (-1)) dX8_init_53 (by decide) ?_
  refine J_puti (j := 10) (x := (-1)) dX8_init_54 (fun _ h => List.mem_cons_of_mem _ (List.mem_append_left _ (List.mem_append_right _ (h)))) cs11 cty11 (by decide) rfl (List.mem_of_getElem? (i := 11) rfl) rfl rfl ⟨rfl, rfl⟩ (show m < jn K52 from by omega) hI52.2.2.1 ?_
  obtain ⟨K57, hK57⟩ : ∃ Kz9, Kz9 = jSi K52 m 10 ((-1)) := ⟨_, rfl⟩
  refine J_mem (M' := K57) hK57.symm ?_
  have hI57 : mIn M K57 m 5 (-1) (-1) := by rw [hK57]; exact hI52.s10
  have hn57 : jn K57 = m + 6 := hI57.1
  clear hK57 hI52 hn52 K52
  refine J_aload_n (m) dX8_init_57 rfl rfl ?_
  refine J_sipush (x := 2112) dX8_init_58 (by decide) ?_
  refine J_newa (t := 2) (atype := .int) (N' := 2112) (n := (2112)) dX8_init_61 (by decide) rfl rfl (List.mem_of_getElem? (i := 4) rfl) (nI_pos (n := 2112) (by omega)) (nI_clamp (n := 2112) (by omega)) (by simp [newarray.typeOf, componentBytes] <;> omega) (by omega) (by omega) (hI57.2.1) (jOk.ref (show m < jn K57 from by omega) (jOk.float jOk.nil)) (jOk.ref (show m < jn K57 from by omega) jOk.nil) ?_
  refine J_putrF (j := 12) (r := some (jn K57)) dX8_init_63 (fun _ h => List.mem_cons_of_mem _ (List.mem_append_left _ (List.mem_append_right _ (h)))) cs11 cty11 (by decide) rfl (List.mem_of_getElem? (i := 12) rfl) rfl rfl rfl rfl jfit_rA (by have h9 := (show m < jn K57 from by omega); first | exact h9 | (simp only [jn_Nw, jn_Si, jn_Sr, jn_Sv, jn_Sq]; omega)) (jk_new (M := K57) (kd := 22) (len := 2112) (by have h9 := (show m < jn K57 from by omega); first | exact h9 | (simp only [jn_Nw, jn_Si, jn_Sr, jn_Sv, jn_Sq]; omega)) hI57.2.2.1) ?_
  obtain ⟨K66, hK66⟩ : ∃ Kz9, Kz9 = jSr (jNw K57 22 2112) (m) 12 (some (jn K57)) := ⟨_, rfl⟩
  refine J_mem (M' := K66) hK66.symm ?_
  have hI66 : mIn M K66 m 6 (-1) (-1) := by rw [hK66]; exact hI57.ar (i := 5) (by decide) hm
  have hn66 : jn K66 = m + 7 := hI66.1
  clear hK66 hI57 hn57 K57
  refine J_aload_n (m) dX8_init_66 rfl rfl ?_
  refine J_sipush (x := 200) dX8_init_67 (by decide) ?_
  refine J_newa (t := 2) (atype := .int) (N' := 200) (n := (200)) dX8_init_70 (by decide) rfl rfl (List.mem_of_getElem? (i := 4) rfl) (nI_pos (n := 200) (by omega)) (nI_clamp (n := 200) (by omega)) (by simp [newarray.typeOf, componentBytes] <;> omega) (by omega) (by omega) (hI66.2.1) (jOk.ref (show m < jn K66 from by omega) (jOk.float jOk.nil)) (jOk.ref (show m < jn K66 from by omega) jOk.nil) ?_
  refine J_putrF (j := 13) (r := some (jn K66)) dX8_init_72 (fun _ h => List.mem_cons_of_mem _ (List.mem_append_left _ (List.mem_append_right _ (h)))) cs11 cty11 (by decide) rfl (List.mem_of_getElem? (i := 13) rfl) rfl rfl rfl rfl jfit_rA (by have h9 := (show m < jn K66 from by omega); first | exact h9 | (simp only [jn_Nw, jn_Si, jn_Sr, jn_Sv, jn_Sq]; omega)) (jk_new (M := K66) (kd := 22) (len := 200) (by have h9 := (show m < jn K66 from by omega); first | exact h9 | (simp only [jn_Nw, jn_Si, jn_Sr, jn_Sv, jn_Sq]; omega)) hI66.2.2.1) ?_
  obtain ⟨K75, hK75⟩ : ∃ Kz9, Kz9 = jSr (jNw K66 22 200) (m) 13 (some (jn K66)) := ⟨_, rfl⟩
  refine J_mem (M' := K75) hK75.symm ?_
  have hI75 : mIn M K75 m 7 (-1) (-1) := by rw [hK75]; exact hI66.ar (i := 6) (by decide) hm
  have hn75 : jn K75 = m + 8 := hI75.1
  clear hK75 hI66 hn66 K66
  refine J_aload_n (m) dX8_init_75 rfl rfl ?_
  refine J_bipush (x := 60) dX8_init_76 (by decide) ?_
  refine J_newa (t := 2) (atype := .int) (N' := 60) (n := (60)) dX8_init_78 (by decide) rfl rfl (List.mem_of_getElem? (i := 4) rfl) (nI_pos (n := 60) (by omega)) (nI_clamp (n := 60) (by omega)) (by simp [newarray.typeOf, componentBytes] <;> omega) (by omega) (by omega) (hI75.2.1) (jOk.ref (show m < jn K75 from by omega) (jOk.float jOk.nil)) (jOk.ref (show m < jn K75 from by omega) jOk.nil) ?_
  refine J_putrF (j := 21) (r := some (jn K75)) dX8_init_80 (fun _ h => List.mem_cons_of_mem _ (List.mem_append_left _ (List.mem_append_right _ (h)))) cs11 cty11 (by decide) rfl (List.mem_of_getElem? (i := 14) rfl) rfl rfl rfl rfl jfit_rA (by have h9 := (show m < jn K75 from by omega); first | exact h9 | (simp only [jn_Nw, jn_Si, jn_Sr, jn_Sv, jn_Sq]; omega)) (jk_new (M := K75) (kd := 22) (len := 60) (by have h9 := (show m < jn K75 from by omega); first | exact h9 | (simp only [jn_Nw, jn_Si, jn_Sr, jn_Sv, jn_Sq]; omega)) hI75.2.2.1) ?_
  obtain ⟨K83, hK83⟩ : ∃ Kz9, Kz9 = jSr (jNw K75 22 60) (m) 21 (some (jn K75)) := ⟨_, rfl⟩
  refine J_mem (M' := K83) hK83.symm ?_
  have hI83 : mIn M K83 m 8 (-1) (-1) := by rw [hK83]; exact hI75.ar (i := 7) (by decide) hm
  have hn83 : jn K83 = m + 9 := hI83.1
  clear hK83 hI75 hn75 K75
  refine J_aload_n (m) dX8_init_83 rfl rfl ?_
  refine J_bipush (x := 60) dX8_init_84 (by decide) ?_
  refine J_newa (t := 2) (atype := .int) (N' := 60) (n := (60)) dX8_init_86 (by decide) rfl rfl (List.mem_of_getElem? (i := 4) rfl) (nI_pos (n := 60) (by omega)) (nI_clamp (n := 60) (by omega)) (by simp [newarray.typeOf, componentBytes] <;> omega) (by omega) (by omega) (hI83.2.1) (jOk.ref (show m < jn K83 from by omega) (jOk.float jOk.nil)) (jOk.ref (show m < jn K83 from by omega) jOk.nil) ?_
  refine J_putrF (j := 22) (r := some (jn K83)) dX8_init_88 (fun _ h => List.mem_cons_of_mem _ (List.mem_append_left _ (List.mem_append_right _ (h)))) cs11 cty11 (by decide) rfl (List.mem_of_getElem? (i := 15) rfl) rfl rfl rfl rfl jfit_rA (by have h9 := (show m < jn K83 from by omega); first | exact h9 | (simp only [jn_Nw, jn_Si, jn_Sr, jn_Sv, jn_Sq]; omega)) (jk_new (M := K83) (kd := 22) (len := 60) (by have h9 := (show m < jn K83 from by omega); first | exact h9 | (simp only [jn_Nw, jn_Si, jn_Sr, jn_Sv, jn_Sq]; omega)) hI83.2.2.1) ?_
  obtain ⟨K91, hK91⟩ : ∃ Kz9, Kz9 = jSr (jNw K83 22 60) (m) 22 (some (jn K83)) := ⟨_, rfl⟩
  refine J_mem (M' := K91) hK91.symm ?_
  have hI91 : mIn M K91 m 9 (-1) (-1) := by rw [hK91]; exact hI83.ar (i := 8) (by decide) hm
  have hn91 : jn K91 = m + 10 := hI91.1
  clear hK91 hI83 hn83 K83
  refine J_aload_n (m) dX8_init_91 rfl rfl ?_
  refine J_bipush (x := 60) dX8_init_92 (by decide) ?_
  refine J_newa (t := 2) (atype := .int) (N' := 60) (n := (60)) dX8_init_94 (by decide) rfl rfl (List.mem_of_getElem? (i := 4) rfl) (nI_pos (n := 60) (by omega)) (nI_clamp (n := 60) (by omega)) (by simp [newarray.typeOf, componentBytes] <;> omega) (by omega) (by omega) (hI91.2.1) (jOk.ref (show m < jn K91 from by omega) (jOk.float jOk.nil)) (jOk.ref (show m < jn K91 from by omega) jOk.nil) ?_
  refine J_putrF (j := 23) (r := some (jn K91)) dX8_init_96 (fun _ h => List.mem_cons_of_mem _ (List.mem_append_left _ (List.mem_append_right _ (h)))) cs11 cty11 (by decide) rfl (List.mem_of_getElem? (i := 16) rfl) rfl rfl rfl rfl jfit_rA (by have h9 := (show m < jn K91 from by omega); first | exact h9 | (simp only [jn_Nw, jn_Si, jn_Sr, jn_Sv, jn_Sq]; omega)) (jk_new (M := K91) (kd := 22) (len := 60) (by have h9 := (show m < jn K91 from by omega); first | exact h9 | (simp only [jn_Nw, jn_Si, jn_Sr, jn_Sv, jn_Sq]; omega)) hI91.2.2.1) ?_
  obtain ⟨K99, hK99⟩ : ∃ Kz9, Kz9 = jSr (jNw K91 22 60) (m) 23 (some (jn K91)) := ⟨_, rfl⟩
  refine J_mem (M' := K99) hK99.symm ?_
  have hI99 : mIn M K99 m 10 (-1) (-1) := by rw [hK99]; exact hI91.ar (i := 9) (by decide) hm
  have hn99 : jn K99 = m + 11 := hI99.1
  clear hK99 hI91 hn91 K91
  refine J_aload_n (m) dX8_init_99 rfl rfl ?_
  refine J_bipush (x := 60) dX8_init_100 (by decide) ?_
  refine J_newa (t := 2) (atype := .int) (N' := 60) (n := (60)) dX8_init_102 (by decide) rfl rfl (List.mem_of_getElem? (i := 4) rfl) (nI_pos (n := 60) (by omega)) (nI_clamp (n := 60) (by omega)) (by simp [newarray.typeOf, componentBytes] <;> omega) (by omega) (by omega) (hI99.2.1) (jOk.ref (show m < jn K99 from by omega) (jOk.float jOk.nil)) (jOk.ref (show m < jn K99 from by omega) jOk.nil) ?_
  refine J_putrF (j := 24) (r := some (jn K99)) dX8_init_104 (fun _ h => List.mem_cons_of_mem _ (List.mem_append_left _ (List.mem_append_right _ (h)))) cs11 cty11 (by decide) rfl (List.mem_of_getElem? (i := 17) rfl) rfl rfl rfl rfl jfit_rA (by have h9 := (show m < jn K99 from by omega); first | exact h9 | (simp only [jn_Nw, jn_Si, jn_Sr, jn_Sv, jn_Sq]; omega)) (jk_new (M := K99) (kd := 22) (len := 60) (by have h9 := (show m < jn K99 from by omega); first | exact h9 | (simp only [jn_Nw, jn_Si, jn_Sr, jn_Sv, jn_Sq]; omega)) hI99.2.2.1) ?_
  obtain ⟨K107, hK107⟩ : ∃ Kz9, Kz9 = jSr (jNw K99 22 60) (m) 24 (some (jn K99)) := ⟨_, rfl⟩
  refine J_mem (M' := K107) hK107.symm ?_
  have hI107 : mIn M K107 m 11 (-1) (-1) := by rw [hK107]; exact hI99.ar (i := 10) (by decide) hm
  have hn107 : jn K107 = m + 12 := hI107.1
  clear hK107 hI99 hn99 K99
  refine J_aload_n (m) dX8_init_107 rfl rfl ?_
  refine J_bipush (x := 60) dX8_init_108 (by decide) ?_
  refine J_newa (t := 2) (atype := .int) (N' := 60) (n := (60)) dX8_init_110 (by decide) rfl rfl (List.mem_of_getElem? (i := 4) rfl) (nI_pos (n := 60) (by omega)) (nI_clamp (n := 60) (by omega)) (by simp [newarray.typeOf, componentBytes] <;> omega) (by omega) (by omega) (hI107.2.1) (jOk.ref (show m < jn K107 from by omega) (jOk.float jOk.nil)) (jOk.ref (show m < jn K107 from by omega) jOk.nil) ?_
  refine J_putrF (j := 27) (r := some (jn K107)) dX8_init_112 (fun _ h => List.mem_cons_of_mem _ (List.mem_append_left _ (List.mem_append_right _ (h)))) cs11 cty11 (by decide) rfl (List.mem_of_getElem? (i := 18) rfl) rfl rfl rfl rfl jfit_rA (by have h9 := (show m < jn K107 from by omega); first | exact h9 | (simp only [jn_Nw, jn_Si, jn_Sr, jn_Sv, jn_Sq]; omega)) (jk_new (M := K107) (kd := 22) (len := 60) (by have h9 := (show m < jn K107 from by omega); first | exact h9 | (simp only [jn_Nw, jn_Si, jn_Sr, jn_Sv, jn_Sq]; omega)) hI107.2.2.1) ?_
  obtain ⟨K115, hK115⟩ : ∃ Kz9, Kz9 = jSr (jNw K107 22 60) (m) 27 (some (jn K107)) := ⟨_, rfl⟩
  refine J_mem (M' := K115) hK115.symm ?_
  have hI115 : mIn M K115 m 12 (-1) (-1) := by rw [hK115]; exact hI107.ar (i := 11) (by decide) hm
  have hn115 : jn K115 = m + 13 := hI115.1
  clear hK115 hI107 hn107 K107
  refine J_aload_n (m) dX8_init_115 rfl rfl ?_
  refine J_sipush (x := 512) dX8_init_116 (by decide) ?_
  refine J_newa (t := 2) (atype := .int) (N' := 512) (n := (512)) dX8_init_119 (by decide) rfl rfl (List.mem_of_getElem? (i := 4) rfl) (nI_pos (n := 512) (by omega)) (nI_clamp (n := 512) (by omega)) (by simp [newarray.typeOf, componentBytes] <;> omega) (by omega) (by omega) (hI115.2.1) (jOk.ref (show m < jn K115 from by omega) (jOk.float jOk.nil)) (jOk.ref (show m < jn K115 from by omega) jOk.nil) ?_
  refine J_putrF (j := 29) (r := some (jn K115)) dX8_init_121 (fun _ h => List.mem_cons_of_mem _ (List.mem_append_left _ (List.mem_append_right _ (h)))) cs11 cty11 (by decide) rfl (List.mem_of_getElem? (i := 19) rfl) rfl rfl rfl rfl jfit_rA (by have h9 := (show m < jn K115 from by omega); first | exact h9 | (simp only [jn_Nw, jn_Si, jn_Sr, jn_Sv, jn_Sq]; omega)) (jk_new (M := K115) (kd := 22) (len := 512) (by have h9 := (show m < jn K115 from by omega); first | exact h9 | (simp only [jn_Nw, jn_Si, jn_Sr, jn_Sv, jn_Sq]; omega)) hI115.2.2.1) ?_
  obtain ⟨K124, hK124⟩ : ∃ Kz9, Kz9 = jSr (jNw K115 22 512) (m) 29 (some (jn K115)) := ⟨_, rfl⟩
  refine J_mem (M' := K124) hK124.symm ?_
  have hI124 : mIn M K124 m 13 (-1) (-1) := by rw [hK124]; exact hI115.ar (i := 12) (by decide) hm
  have hn124 : jn K124 = m + 14 := hI124.1
  clear hK124 hI115 hn115 K115
  have hO9 := hI124.ok
  obtain ⟨Bm1, Bm2, ⟨Br1, Br2, Br3, Br4, Br5, Br6, Br7, Br8, Br9, Br10, Br11, Br12, Br13⟩, ⟨Bk1, Bk2, Bk3, Bk4, Bk5, Bk6, Bk7, Bk8, Bk9, Bk10, Bk11, Bk12, Bk13⟩, Bz1, Bz2, Bz3, Bz4, Bz5, Bz6, Bz7, Bz8, Bz9, Bz10, Bz11, Bz12, Bz13⟩ := id hI124.ok
  refine J_mem (M' := (jSv K124 (m + 1) (mI0 0))) (by exact hI124.z0) ?_
  have L126 : ∀ (fuel : Nat) (s : Nat) (hs : s ≤ 12), 12 - s < fuel → J l D dA RX8 cX8_init wsX8_init 2 true none [] (23) (480) (jF D dA (jn M) (fun o M1 => o = oV ∧ mAb M1 m cA0 ∧ jXo m M M1 ∧ jCl M1 ∧ jn M1 = m + 14) 0) (jn M) (0) (0) ((jSv K124 (m + 1) (mI0 s))) 126 [.ref (m), .int (nI (s))] [] := by
    intro fuel
    induction fuel with
    | zero => intro s hs hm; exact absurd hm (Nat.not_lt_zero _)
    | succ fuel ih126 =>
      intro s hs hm126
      refine J_iload_n dX8_init_126 rfl rfl ?_
      refine J_bipush (x := 12) dX8_init_127 (by decide) ?_
      refine J_icmp_ge dX8_init_129 (tgt := 148) (by decide) (fun c129 => ?_) (fun c129 => ?_)
      · have c129 := jleT (a := 12) (b := s) (by omega) (by omega) c129
        exact J_vret dX8_init_148 rfl (by rw [show s = 12 from by omega]; exact ⟨rfl, hI124.fin hm⟩)
      · have c129 := jleF (a := 12) (b := s) (by omega) (by omega) c129
        refine J_aload_n (m) dX8_init_132 rfl rfl ?_
        refine J_getrs (q := m + 1) Br1 dX8_init_133 (fun _ h => List.mem_cons_of_mem _ (List.mem_append_left _ (List.mem_append_right _ (h)))) cs11 (by decide) rfl (List.mem_of_getElem? (i := 5) rfl) rfl (show m < jn K124 from by omega) Bm2 ?_
        refine J_bipush (x := 33) dX8_init_136 (by decide) ?_
        refine J_iload_n dX8_init_138 rfl rfl ?_
        refine J_imul dX8_init_139 ?_
        refine J_topi (y := nI (33 * s)) (pk_mul (33) (s)) ?_
        refine J_iconst (x := (-1)) dX8_init_140 (by decide) ?_
        refine J_iastN (k := 33 * s) dX8_init_141 (show m + 1 < jn K124 from by omega) Bk1 (by exact Nat.lt_of_lt_of_eq (show _ < 427 by omega) (Eq.symm Bz1)) (by exact Nat.lt_of_le_of_lt (Nat.le_of_eq Bz1) (show 427 < 2 ^ 31 by omega)) ?_
        refine J_mem (M' := (jSv K124 (m + 1) (mI0 (s + 1)))) (by exact (jSi_Sv _ _ _ _ _).trans (congrArg (jSv K124 (m + 1)) mI0_s)) ?_
        refine J_iinc (y := nI (s + 1)) (lv' := [.ref (m), .int (nI (s + 1))]) dX8_init_142 rfl (jinc (s)) (by decide) rfl rfl ?_
        refine J_goto (tgt := 126) dX8_init_145 (by decide) ?_
        refine J_less (bc' := 0) (bs' := 0) (by omega) (by omega) ?_
        exact ih126 (s + 1) (by omega) (by omega)
  refine J_iconst (x := 0) dX8_init_124 (by decide) ?_
  refine J_istore_n (lv' := [.ref (m), .int (0)]) dX8_init_125 rfl (by decide) rfl rfl ?_
  refine J_less (bc' := 0) (bs' := 0) (by omega) (by omega) ?_
  exact L126 _ (0) (by omega) (Nat.lt_succ_self _)

