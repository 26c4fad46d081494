/-- an expression under way: place, nodes, and their kinds, positions, lefts, rights, parents -/
abbrev eSt : Type := Nat × Nat × (Nat → Int32) × (Nat → Int32) × (Nat → Int32) × (Nat → Int32) × (Nat → Int32)
def eOk (L : Nat) (s : eSt) : Prop := s.1 ≤ L ∧ s.2.1 ≤ L
/-- its ints -/
def jEg (G : Nat → Nat → Int32) (t : Nat) (s : eSt) : Nat → Nat → Int32 := fun a j =>
  if a = t then (if j = 2 then nI s.1 else if j = 8 then nI s.2.1 else G t j)
  else if a = t + 1 then s.2.2.1 j else if a = t + 2 then s.2.2.2.1 j else if a = t + 3 then s.2.2.2.2.1 j else if a = t + 4 then s.2.2.2.2.2.1 j else if a = t + 5 then s.2.2.2.2.2.2 j else G a j
def jES (M : jM) (t : Nat) (s : eSt) : jM := (jn M, jk M, jz M, jEg (ji M) t s, jr M, jl M, jd M)
def jEr (M : jM) (t sg : Nat) (c : Nat → Int32) (L : Nat) (s : eSt) : Prop :=
  jRd M t 5 sg c L s.1 ∧ t + 5 < jn M ∧ (∀ i, i < 5 → jr M t (3 + i) = some (t + 1 + i) ∧ jk M (t + 1 + i) = 22 ∧ jz M (t + 1 + i) = L) ∧ (sg < t ∨ t + 5 < sg) ∧ s.2.1 ≤ L ∧ jES M t s = M
theorem jES_ES (M : jM) (t : Nat) (s s' : eSt) : jES (jES M t s) t s' = jES M t s' := by
  refine jM_eq rfl rfl rfl ?_ rfl rfl rfl
  funext a j
  show jEg (jEg (ji M) t s) t s' a j = jEg (ji M) t s' a j
  unfold jEg
  by_cases h : a = t
  · subst h
    by_cases h2 : j = 2
    · simp [h2]
    · by_cases h8 : j = 8
      · simp [h8]
      · simp [h2, h8]
  · simp only [if_neg h]
    by_cases h1 : a = t + 1
    · simp only [if_pos h1]
    · simp only [if_neg h1]
      by_cases h2 : a = t + 2
      · simp only [if_pos h2]
      · simp only [if_neg h2]
        by_cases h3 : a = t + 3
        · simp only [if_pos h3]
        · simp only [if_neg h3]
          by_cases h4 : a = t + 4
          · simp only [if_pos h4]
          · simp only [if_neg h4]
            by_cases h5 : a = t + 5
            · simp only [if_pos h5]
            · simp only [if_neg h5]
theorem jn_ES (M : jM) (t : Nat) (s : eSt) : jn (jES M t s) = jn M := rfl
theorem jEr.eq {M : jM} {t sg : Nat} {c : Nat → Int32} {L : Nat} {s : eSt} (h : jEr M t sg c L s) : M = jES M t s := h.2.2.2.2.2.symm
theorem jEr.ok {M : jM} {t sg : Nat} {c : Nat → Int32} {L : Nat} {s : eSt} (h : jEr M t sg c L s) : eOk L s := ⟨h.1.2.2.2.2.2.2.2.2.2.2.1, h.2.2.2.2.1⟩
theorem jEr.es {M : jM} {t sg : Nat} {c : Nat → Int32} {L : Nat} {s s' : eSt} (h : jEr M t sg c L s) (hs : eOk L s') : jEr (jES M t s') t sg c L s' := by
  obtain ⟨⟨h1, h2, h3, h4, h5, h6, h7, h8, h9, h10, h11, h12⟩, g2, g3, g4, g5, g6⟩ := h
  refine ⟨⟨h1, h2, h3, h4, h5, h6, ?_, ?_, h9, ?_, hs.1, h12⟩, g2, g3, g4, hs.2, jES_ES M t s' s'⟩
  · rw [← h7]
    funext j
    show jEg (ji M) t s' sg j = ji M sg j
    unfold jEg
    simp only [if_neg (show ¬ sg = t by omega), if_neg (show ¬ sg = t + 1 by omega), if_neg (show ¬ sg = t + 2 by omega), if_neg (show ¬ sg = t + 3 by omega), if_neg (show ¬ sg = t + 4 by omega), if_neg (show ¬ sg = t + 5 by omega)]
  · show jEg (ji M) t s' t 1 = _
    unfold jEg
    rw [if_pos rfl]
    exact h8
  · show jEg (ji M) t s' t 2 = _
    unfold jEg
    rw [if_pos rfl]
    rfl
theorem jES_2 (M : jM) (t q : Nat) (s : eSt) : jSi (jES M t s) t 2 (nI q) = jES M t (q, s.2) := by
  refine jM_eq rfl rfl rfl ?_ rfl rfl rfl
  funext a j
  show (if a = t ∧ j = 2 then nI q else jEg (ji M) t s a j) = jEg (ji M) t (q, s.2) a j
  unfold jEg
  by_cases h : a = t
  · subst h
    by_cases h2 : j = 2
    · subst h2; simp
    · simp [h2]
  · simp [h]
theorem jES_8 (M : jM) (t q : Nat) (s : eSt) : jSi (jES M t s) t 8 (nI q) = jES M t (s.1, q, s.2.2) := by
  refine jM_eq rfl rfl rfl ?_ rfl rfl rfl
  funext a j
  show (if a = t ∧ j = 8 then nI q else jEg (ji M) t s a j) = jEg (ji M) t (s.1, q, s.2.2) a j
  unfold jEg
  by_cases h : a = t
  · subst h
    by_cases h2 : j = 8
    · subst h2; simp
    · simp [h2]
  · simp [h]
theorem jES_r1 (M : jM) (t k : Nat) (x : Int32) (s : eSt) : jSi (jES M t s) (t + 1) k x = jES M t (s.1, s.2.1, upd s.2.2.1 k x, s.2.2.2) := by
  refine jM_eq rfl rfl rfl ?_ rfl rfl rfl
  funext a j
  show (if a = t + 1 ∧ j = k then x else jEg (ji M) t s a j) = jEg (ji M) t (s.1, s.2.1, upd s.2.2.1 k x, s.2.2.2) a j
  unfold jEg upd
  by_cases h : a = t + 1
  · subst h; simp
  · simp [h]
theorem jES_r2 (M : jM) (t k : Nat) (x : Int32) (s : eSt) : jSi (jES M t s) (t + 2) k x = jES M t (s.1, s.2.1, s.2.2.1, upd s.2.2.2.1 k x, s.2.2.2.2) := by
  refine jM_eq rfl rfl rfl ?_ rfl rfl rfl
  funext a j
  show (if a = t + 2 ∧ j = k then x else jEg (ji M) t s a j) = jEg (ji M) t (s.1, s.2.1, s.2.2.1, upd s.2.2.2.1 k x, s.2.2.2.2) a j
  unfold jEg upd
  by_cases h : a = t + 2
  · subst h; simp
  · simp [h]
theorem jES_r3 (M : jM) (t k : Nat) (x : Int32) (s : eSt) : jSi (jES M t s) (t + 3) k x = jES M t (s.1, s.2.1, s.2.2.1, s.2.2.2.1, upd s.2.2.2.2.1 k x, s.2.2.2.2.2) := by
  refine jM_eq rfl rfl rfl ?_ rfl rfl rfl
  funext a j
  show (if a = t + 3 ∧ j = k then x else jEg (ji M) t s a j) = jEg (ji M) t (s.1, s.2.1, s.2.2.1, s.2.2.2.1, upd s.2.2.2.2.1 k x, s.2.2.2.2.2) a j
  unfold jEg upd
  by_cases h : a = t + 3
  · subst h; simp
  · simp [h]
theorem jES_r4 (M : jM) (t k : Nat) (x : Int32) (s : eSt) : jSi (jES M t s) (t + 4) k x = jES M t (s.1, s.2.1, s.2.2.1, s.2.2.2.1, s.2.2.2.2.1, upd s.2.2.2.2.2.1 k x, s.2.2.2.2.2.2) := by
  refine jM_eq rfl rfl rfl ?_ rfl rfl rfl
  funext a j
  show (if a = t + 4 ∧ j = k then x else jEg (ji M) t s a j) = jEg (ji M) t (s.1, s.2.1, s.2.2.1, s.2.2.2.1, s.2.2.2.2.1, upd s.2.2.2.2.2.1 k x, s.2.2.2.2.2.2) a j
  unfold jEg upd
  by_cases h : a = t + 4
  · subst h; simp
  · simp [h]
theorem jES_r5 (M : jM) (t k : Nat) (x : Int32) (s : eSt) : jSi (jES M t s) (t + 5) k x = jES M t (s.1, s.2.1, s.2.2.1, s.2.2.2.1, s.2.2.2.2.1, s.2.2.2.2.2.1, upd s.2.2.2.2.2.2 k x) := by
  refine jM_eq rfl rfl rfl ?_ rfl rfl rfl
  funext a j
  show (if a = t + 5 ∧ j = k then x else jEg (ji M) t s a j) = jEg (ji M) t (s.1, s.2.1, s.2.2.1, s.2.2.2.1, s.2.2.2.2.1, s.2.2.2.2.2.1, upd s.2.2.2.2.2.2 k x) a j
  unfold jEg upd
  by_cases h : a = t + 5
  · subst h; simp
  · simp [h]
theorem jES_at8 (M : jM) (t : Nat) (s : eSt) : ji (jES M t s) t 8 = nI s.2.1 := by
  show jEg (ji M) t s t 8 = _
  unfold jEg; rw [if_pos rfl]; rfl
theorem jES_at (M : jM) (t : Nat) (s : eSt) : ji (jES M t s) (t + 1) = s.2.2.1 ∧ ji (jES M t s) (t + 2) = s.2.2.2.1 ∧ ji (jES M t s) (t + 3) = s.2.2.2.2.1 ∧ ji (jES M t s) (t + 4) = s.2.2.2.2.2.1 ∧ ji (jES M t s) (t + 5) = s.2.2.2.2.2.2 := by
  refine ⟨?_, ?_, ?_, ?_, ?_⟩ <;> (funext j; show jEg (ji M) t s _ j = _; unfold jEg; simp)
/-- the parent of a node, if there is such a one -/
def eSp (L : Nat) (x y : Int32) (s : eSt) : eSt := if x < 0 then s else if x < nI L then (s.1, s.2.1, s.2.2.1, s.2.2.2.1, s.2.2.2.2.1, s.2.2.2.2.2.1, upd s.2.2.2.2.2.2 x.toNatClampNeg y) else s
def eNew (s : eSt) (kd po le ri : Int32) : eSt := (s.1, s.2.1, upd s.2.2.1 s.2.1 kd, upd s.2.2.2.1 s.2.1 po, upd s.2.2.2.2.1 s.2.1 le, upd s.2.2.2.2.2.1 s.2.1 ri, upd s.2.2.2.2.2.2 s.2.1 (-1))
def eInc (s : eSt) : eSt := (s.1, s.2.1 + 1, s.2.2)
def eAdd (L : Nat) (kd po le ri : Int32) (s : eSt) : Int32 × eSt :=
  if s.2.1 < L then (nI s.2.1, if kd = 4 then eInc (eNew s kd po le ri) else eInc (eSp L ri (nI s.2.1) (eSp L le (nI s.2.1) (eNew s kd po le ri)))) else (-1, s)
theorem eSp_1 (L : Nat) (x y : Int32) (s : eSt) : (eSp L x y s).1 = s.1 ∧ (eSp L x y s).2.1 = s.2.1 := by
  unfold eSp
  split
  · exact ⟨rfl, rfl⟩
  · split <;> exact ⟨rfl, rfl⟩
theorem eSp_ok {L : Nat} {x y : Int32} {s : eSt} (h : eOk L s) : eOk L (eSp L x y s) := ⟨by rw [(eSp_1 L x y s).1]; exact h.1, by rw [(eSp_1 L x y s).2]; exact h.2⟩
theorem eAdd_ok {L : Nat} {kd po le ri : Int32} {s : eSt} (h : eOk L s) : eOk L (eAdd L kd po le ri s).2 := by
  unfold eAdd
  split
  · rename_i hl
    show eOk L (if kd = 4 then _ else _)
    split
    · exact ⟨h.1, hl⟩
    · refine ⟨?_, ?_⟩
      · show (eSp L ri (nI s.2.1) (eSp L le (nI s.2.1) (eNew s kd po le ri))).1 ≤ L
        rw [(eSp_1 _ _ _ _).1, (eSp_1 _ _ _ _).1]; exact h.1
      · show (eSp L ri (nI s.2.1) (eSp L le (nI s.2.1) (eNew s kd po le ri))).2.1 + 1 ≤ L
        rw [(eSp_1 _ _ _ _).2, (eSp_1 _ _ _ _).2]; exact hl
  · exact h
theorem dX1_setParent_0 : decode cX1_setParent 0 = .ok (.iload_n 1, 1) := by decide +kernel
theorem dX1_setParent_1 : decode cX1_setParent 1 = .ok (.ifCond .lt 19, 3) := by decide +kernel
theorem dX1_setParent_20 : decode cX1_setParent 20 = .ok (.return_, 1) := by decide +kernel
theorem dX1_setParent_4 : decode cX1_setParent 4 = .ok (.iload_n 1, 1) := by decide +kernel
theorem dX1_setParent_5 : decode cX1_setParent 5 = .ok (.aload_n 0, 1) := by decide +kernel
theorem dX1_setParent_6 : decode cX1_setParent 6 = .ok (.getfield 35, 3) := by decide +kernel
theorem dX1_setParent_9 : decode cX1_setParent 9 = .ok (.arraylength, 1) := by decide +kernel
theorem dX1_setParent_10 : decode cX1_setParent 10 = .ok (.if_icmp .ge 10, 3) := by decide +kernel
theorem dX1_setParent_13 : decode cX1_setParent 13 = .ok (.aload_n 0, 1) := by decide +kernel
theorem dX1_setParent_14 : decode cX1_setParent 14 = .ok (.getfield 35, 3) := by decide +kernel
theorem dX1_setParent_17 : decode cX1_setParent 17 = .ok (.iload_n 1, 1) := by decide +kernel
theorem dX1_setParent_18 : decode cX1_setParent 18 = .ok (.iload_n 2, 1) := by decide +kernel
theorem dX1_setParent_19 : decode cX1_setParent 19 = .ok (.iastore, 1) := by decide +kernel
set_option maxHeartbeats 2000000 in
set_option maxRecDepth 20000 in
theorem ct_X1_setParent (l : Launch) (D : va_G) (dA : Nat → ClassId) (hst : l.stackTraces = false) (M : jM) (t sg : Nat) (c : Nat → Int32) (L : Nat) (s : eSt) (hR : jEr M t sg c L s) (x y : Int32) : jCT l D dA yX1_setParent wsX1_setParent (20) (300) (0) (0) 0 [.ref (t), .int (x), .int (y)] M (jPo (oV) (jES M t (eSp L x y s))) := by
  refine jBody (cc := cX1_setParent) (nL := 3) (rt := none) (ini := false) (by decide) rfl hst (Nat.le_of_ble_eq_true rfl) (by simp [Value.category]) (by intro h9; first | exact absurd h9 (by decide) | rfl) ?_
  show J l D dA RX1 cX1_setParent wsX1_setParent 3 false none [] (20) (300) (jF D dA (jn M) (jPo (oV) (jES M t (eSp L x y s))) 0) (jn M) (0) (0) (M) 0 [.ref (t), .int (x), .int (y)] []
  obtain ⟨⟨f1, f2, f3, f4, f5, f6, f7, f8, f9, f10, f11, f12⟩, g2, g3, g4, g5, g6⟩ := id hR
  refine J_mem (M' := jES M t s) (by exact hR.eq) ?_
  refine J_iload_n dX1_setParent_0 rfl rfl ?_
  refine J_if_lt dX1_setParent_1 (tgt := 20) (by decide) (fun c1 => ?_) (fun c1 => ?_)
  · exact J_vret dX1_setParent_20 rfl ⟨(by rfl), (by first | (unfold eSp; rw [if_pos c1]; done) | (unfold eSp; rw [if_neg (nI_pos (by omega)), if_neg (nI_nlt (by omega) (by omega))]; done) | (unfold eSp; rw [if_neg (nI_pos (by omega)), if_pos (nI_lt (by omega) (by omega)), nI_clamp (by omega)]; done) | fail "s")⟩
  · obtain ⟨k, hk31, rfl⟩ := nI_of c1
    refine J_iload_n dX1_setParent_4 rfl rfl ?_
    refine J_aload_n (t) dX1_setParent_5 rfl rfl ?_
    refine J_getrs (q := t + 5) (g3 4 (by decide)).1 dX1_setParent_6 (fun _ h => List.mem_cons_of_mem _ (List.mem_append_left _ (List.mem_append_right _ (h)))) cs5 (by decide) rfl (List.mem_of_getElem? (i := 1) rfl) rfl f1 f2 ?_
    refine J_alen (t := 2) dX1_setParent_9 (show t + 5 < jn M from by omega) (g3 4 (by decide)).2.1 rfl ?_
    refine J_topi (y := nI (L)) (congrArg nI (g3 4 (by decide)).2.2) ?_
    refine J_icmp_ge dX1_setParent_10 (tgt := 20) (by decide) (fun c10 => ?_) (fun c10 => ?_)
    · have c10 := jleT (a := L) (b := k) (by omega) (by omega) c10
      exact J_vret dX1_setParent_20 rfl ⟨(by rfl), (by first | (unfold eSp; rw [if_pos c1]; done) | (unfold eSp; rw [if_neg (nI_pos (by omega)), if_neg (nI_nlt (by omega) (by omega))]; done) | (unfold eSp; rw [if_neg (nI_pos (by omega)), if_pos (nI_lt (by omega) (by omega)), nI_clamp (by omega)]; done) | fail "s")⟩
    · have c10 := jleF (a := L) (b := k) (by omega) (by omega) c10
      refine J_aload_n (t) dX1_setParent_13 rfl rfl ?_
      refine J_getrs (q := t + 5) (g3 4 (by decide)).1 dX1_setParent_14 (fun _ h => List.mem_cons_of_mem _ (List.mem_append_left _ (List.mem_append_right _ (h)))) cs5 (by decide) rfl (List.mem_of_getElem? (i := 1) rfl) rfl f1 f2 ?_
      refine J_iload_n dX1_setParent_17 rfl rfl ?_
      refine J_iload_n dX1_setParent_18 rfl rfl ?_
      refine J_iastN (k := k) dX1_setParent_19 (show t + 5 < jn M from by omega) (g3 4 (by decide)).2.1 (by exact Nat.lt_of_lt_of_eq (show _ < L by omega) (Eq.symm (g3 4 (by decide)).2.2)) (by exact Nat.lt_of_le_of_lt (Nat.le_of_eq (g3 4 (by decide)).2.2) (show L < 2 ^ 31 by omega)) ?_
      refine J_mem (M' := jES M t ((s.1, s.2.1, s.2.2.1, s.2.2.2.1, s.2.2.2.2.1, s.2.2.2.2.2.1, upd s.2.2.2.2.2.2 k y))) (by exact jES_r5 _ _ _ _ _) ?_
      exact J_vret dX1_setParent_20 rfl ⟨(by rfl), (by first | (unfold eSp; rw [if_pos c1]; done) | (unfold eSp; rw [if_neg (nI_pos (by omega)), if_neg (nI_nlt (by omega) (by omega))]; done) | (unfold eSp; rw [if_neg (nI_pos (by omega)), if_pos (nI_lt (by omega) (by omega)), nI_clamp (by omega)]; done) | fail "s")⟩

theorem dX1_addNode_0 : decode cX1_addNode 0 = .ok (.aload_n 0, 1) := by decide +kernel
theorem dX1_addNode_1 : decode cX1_addNode 1 = .ok (.getfield 9, 3) := by decide +kernel
theorem dX1_addNode_4 : decode cX1_addNode 4 = .ok (.istore 5, 2) := by decide +kernel
theorem dX1_addNode_6 : decode cX1_addNode 6 = .ok (.iload 5, 2) := by decide +kernel
theorem dX1_addNode_8 : decode cX1_addNode 8 = .ok (.aload_n 0, 1) := by decide +kernel
theorem dX1_addNode_9 : decode cX1_addNode 9 = .ok (.getfield 22, 3) := by decide +kernel
theorem dX1_addNode_12 : decode cX1_addNode 12 = .ok (.arraylength, 1) := by decide +kernel
theorem dX1_addNode_13 : decode cX1_addNode 13 = .ok (.if_icmp .lt 5, 3) := by decide +kernel
theorem dX1_addNode_18 : decode cX1_addNode 18 = .ok (.aload_n 0, 1) := by decide +kernel
theorem dX1_addNode_19 : decode cX1_addNode 19 = .ok (.getfield 22, 3) := by decide +kernel
theorem dX1_addNode_22 : decode cX1_addNode 22 = .ok (.iload 5, 2) := by decide +kernel
theorem dX1_addNode_24 : decode cX1_addNode 24 = .ok (.iload_n 1, 1) := by decide +kernel
theorem dX1_addNode_25 : decode cX1_addNode 25 = .ok (.iastore, 1) := by decide +kernel
theorem dX1_addNode_26 : decode cX1_addNode 26 = .ok (.aload_n 0, 1) := by decide +kernel
theorem dX1_addNode_27 : decode cX1_addNode 27 = .ok (.getfield 26, 3) := by decide +kernel
theorem dX1_addNode_30 : decode cX1_addNode 30 = .ok (.iload 5, 2) := by decide +kernel
theorem dX1_addNode_32 : decode cX1_addNode 32 = .ok (.iload_n 2, 1) := by decide +kernel
theorem dX1_addNode_33 : decode cX1_addNode 33 = .ok (.iastore, 1) := by decide +kernel
theorem dX1_addNode_34 : decode cX1_addNode 34 = .ok (.aload_n 0, 1) := by decide +kernel
theorem dX1_addNode_35 : decode cX1_addNode 35 = .ok (.getfield 29, 3) := by decide +kernel
theorem dX1_addNode_38 : decode cX1_addNode 38 = .ok (.iload 5, 2) := by decide +kernel
theorem dX1_addNode_40 : decode cX1_addNode 40 = .ok (.iload_n 3, 1) := by decide +kernel
theorem dX1_addNode_41 : decode cX1_addNode 41 = .ok (.iastore, 1) := by decide +kernel
theorem dX1_addNode_42 : decode cX1_addNode 42 = .ok (.aload_n 0, 1) := by decide +kernel
theorem dX1_addNode_43 : decode cX1_addNode 43 = .ok (.getfield 32, 3) := by decide +kernel
theorem dX1_addNode_46 : decode cX1_addNode 46 = .ok (.iload 5, 2) := by decide +kernel
theorem dX1_addNode_48 : decode cX1_addNode 48 = .ok (.iload 4, 2) := by decide +kernel
theorem dX1_addNode_50 : decode cX1_addNode 50 = .ok (.iastore, 1) := by decide +kernel
theorem dX1_addNode_51 : decode cX1_addNode 51 = .ok (.aload_n 0, 1) := by decide +kernel
theorem dX1_addNode_52 : decode cX1_addNode 52 = .ok (.getfield 35, 3) := by decide +kernel
theorem dX1_addNode_55 : decode cX1_addNode 55 = .ok (.iload 5, 2) := by decide +kernel
theorem dX1_addNode_57 : decode cX1_addNode 57 = .ok (.iconst (-1), 1) := by decide +kernel
theorem dX1_addNode_58 : decode cX1_addNode 58 = .ok (.iastore, 1) := by decide +kernel
theorem dX1_addNode_59 : decode cX1_addNode 59 = .ok (.iload_n 1, 1) := by decide +kernel
theorem dX1_addNode_60 : decode cX1_addNode 60 = .ok (.iconst 4, 1) := by decide +kernel
theorem dX1_addNode_61 : decode cX1_addNode 61 = .ok (.if_icmp .eq 18, 3) := by decide +kernel
theorem dX1_addNode_79 : decode cX1_addNode 79 = .ok (.aload_n 0, 1) := by decide +kernel
theorem dX1_addNode_80 : decode cX1_addNode 80 = .ok (.dup, 1) := by decide +kernel
theorem dX1_addNode_81 : decode cX1_addNode 81 = .ok (.getfield 9, 3) := by decide +kernel
theorem dX1_addNode_84 : decode cX1_addNode 84 = .ok (.iconst 1, 1) := by decide +kernel
theorem dX1_addNode_85 : decode cX1_addNode 85 = .ok (.iadd, 1) := by decide +kernel
theorem dX1_addNode_86 : decode cX1_addNode 86 = .ok (.putfield 9, 3) := by decide +kernel
theorem dX1_addNode_89 : decode cX1_addNode 89 = .ok (.iload 5, 2) := by decide +kernel
theorem dX1_addNode_91 : decode cX1_addNode 91 = .ok (.ireturn, 1) := by decide +kernel
theorem dX1_addNode_64 : decode cX1_addNode 64 = .ok (.aload_n 0, 1) := by decide +kernel
theorem dX1_addNode_65 : decode cX1_addNode 65 = .ok (.iload_n 3, 1) := by decide +kernel
theorem dX1_addNode_66 : decode cX1_addNode 66 = .ok (.iload 5, 2) := by decide +kernel
theorem dX1_addNode_68 : decode cX1_addNode 68 = .ok (.invokevirtual 73, 3) := by decide +kernel
set_option maxRecDepth 20000 in
theorem ggX1_addNode_X1_setParent : GoodIn wsX1_addNode wsX1_setParent := goodIn_ca (goodIn_r _ [11, 6, 12, 13, 14, 15, 16, 17, 18, 19, 20, 21] (by decide +kernel) (by decide +kernel)) (goodIn_sub (fun _ h => List.mem_cons_of_mem _ (List.mem_append_right _ h)) (by decide +kernel))
set_option maxRecDepth 20000 in
theorem gX1_addNode_X1_setParent : GoodIn wsX1_addNode (wsV RX1 73 RX1 yX1_setParent wsX1_setParent) := goodIn_app (goodIn_of _ (by decide +kernel)) ggX1_addNode_X1_setParent
theorem yY_X1_setParent : jY yX1_setParent wsX1_setParent cX1_setParent 3 none 2 := ⟨⟨_, rfl⟩, by decide +kernel, by decide +kernel, by decide +kernel⟩
theorem dX1_addNode_71 : decode cX1_addNode 71 = .ok (.aload_n 0, 1) := by decide +kernel
theorem dX1_addNode_72 : decode cX1_addNode 72 = .ok (.iload 4, 2) := by decide +kernel
theorem dX1_addNode_74 : decode cX1_addNode 74 = .ok (.iload 5, 2) := by decide +kernel
theorem dX1_addNode_76 : decode cX1_addNode 76 = .ok (.invokevirtual 73, 3) := by decide +kernel
theorem dX1_addNode_16 : decode cX1_addNode 16 = .ok (.iconst (-1), 1) := by decide +kernel
theorem dX1_addNode_17 : decode cX1_addNode 17 = .ok (.ireturn, 1) := by decide +kernel
set_option maxHeartbeats 2000000 in
set_option maxRecDepth 20000 in
theorem ct_X1_addNode (l : Launch) (D : va_G) (dA : Nat → ClassId) (hst : l.stackTraces = false) (M : jM) (t sg : Nat) (c : Nat → Int32) (L : Nat) (s : eSt) (hR : jEr M t sg c L s) (kd po le ri : Int32) : jCT l D dA yX1_addNode wsX1_addNode (21) (360) (0) (0) 1 [.ref (t), .int (kd), .int (po), .int (le), .int (ri)] M (jPo (oI (eAdd L kd po le ri s).1) (jES M t ((eAdd L kd po le ri s).2))) := by
  refine jBody (cc := cX1_addNode) (nL := 6) (rt := (some .int)) (ini := false) (by decide) rfl hst (Nat.le_of_ble_eq_true rfl) (by simp [Value.category]) (by intro h9; first | exact absurd h9 (by decide) | rfl) ?_
  show J l D dA RX1 cX1_addNode wsX1_addNode 6 false (some .int) [] (21) (360) (jF D dA (jn M) (jPo (oI (eAdd L kd po le ri s).1) (jES M t ((eAdd L kd po le ri s).2))) 1) (jn M) (0) (0) (M) 0 [.ref (t), .int (kd), .int (po), .int (le), .int (ri), .float 0] []
  obtain ⟨⟨f1, f2, f3, f4, f5, f6, f7, f8, f9, f10, f11, f12⟩, g2, g3, g4, g5, g6⟩ := id hR
  refine J_mem (M' := jES M t s) (by exact hR.eq) ?_
  refine J_aload_n (t) dX1_addNode_0 rfl rfl ?_
  refine J_geti (j := 8) dX1_addNode_1 (fun _ h => List.mem_cons_of_mem _ (List.mem_append_left _ (List.mem_append_right _ (h)))) cs5 (by decide) rfl (List.mem_of_getElem? (i := 1) rfl) rfl f1 f2 ?_
  refine J_topi (y := nI (s.2.1)) ((jES_at8 M t s)) ?_
  refine J_istore (lv' := [.ref (t), .int (kd), .int (po), .int (le), .int (ri), .int (nI (s.2.1))]) dX1_addNode_4 (by decide) rfl rfl ?_
  refine J_iload dX1_addNode_6 rfl ?_
  refine J_aload_n (t) dX1_addNode_8 rfl rfl ?_
  refine J_getrs (q := t + 1) (g3 0 (by decide)).1 dX1_addNode_9 (fun _ h => List.mem_cons_of_mem _ (List.mem_append_left _ (List.mem_append_right _ (h)))) cs5 (by decide) rfl (List.mem_of_getElem? (i := 2) rfl) rfl f1 f2 ?_
  refine J_alen (t := 2) dX1_addNode_12 (show t + 1 < jn M from by omega) (g3 0 (by decide)).2.1 rfl ?_
  refine J_topi (y := nI (L)) (congrArg nI (g3 0 (by decide)).2.2) ?_
  refine J_icmp_lt dX1_addNode_13 (tgt := 18) (by decide) (fun c13 => ?_) (fun c13 => ?_)
  · have c13 := jltT (a := s.2.1) (b := L) (by omega) (by omega) c13
    refine J_aload_n (t) dX1_addNode_18 rfl rfl ?_
    refine J_getrs (q := t + 1) (g3 0 (by decide)).1 dX1_addNode_19 (fun _ h => List.mem_cons_of_mem _ (List.mem_append_left _ (List.mem_append_right _ (h)))) cs5 (by decide) rfl (List.mem_of_getElem? (i := 2) rfl) rfl f1 f2 ?_
    refine J_iload dX1_addNode_22 rfl ?_
    refine J_iload_n dX1_addNode_24 rfl rfl ?_
    refine J_iastN (k := s.2.1) dX1_addNode_25 (show t + 1 < jn M from by omega) (g3 0 (by decide)).2.1 (by exact Nat.lt_of_lt_of_eq (show _ < L by omega) (Eq.symm (g3 0 (by decide)).2.2)) (by exact Nat.lt_of_le_of_lt (Nat.le_of_eq (g3 0 (by decide)).2.2) (show L < 2 ^ 31 by omega)) ?_
    refine J_mem (M' := jES M t ((s.1, s.2.1, upd s.2.2.1 s.2.1 kd, s.2.2.2.1, s.2.2.2.2.1, s.2.2.2.2.2.1, s.2.2.2.2.2.2))) (by exact jES_r1 _ _ _ _ _) ?_
    refine J_aload_n (t) dX1_addNode_26 rfl rfl ?_
    refine J_getrs (q := t + 2) (g3 1 (by decide)).1 dX1_addNode_27 (fun _ h => List.mem_cons_of_mem _ (List.mem_append_left _ (List.mem_append_right _ (h)))) cs5 (by decide) rfl (List.mem_of_getElem? (i := 3) rfl) rfl f1 f2 ?_
    refine J_iload dX1_addNode_30 rfl ?_
    refine J_iload_n dX1_addNode_32 rfl rfl ?_
    refine J_iastN (k := s.2.1) dX1_addNode_33 (show t + 2 < jn M from by omega) (g3 1 (by decide)).2.1 (by exact Nat.lt_of_lt_of_eq (show _ < L by omega) (Eq.symm (g3 1 (by decide)).2.2)) (by exact Nat.lt_of_le_of_lt (Nat.le_of_eq (g3 1 (by decide)).2.2) (show L < 2 ^ 31 by omega)) ?_
    refine J_mem (M' := jES M t ((s.1, s.2.1, upd s.2.2.1 s.2.1 kd, upd s.2.2.2.1 s.2.1 po, s.2.2.2.2.1, s.2.2.2.2.2.1, s.2.2.2.2.2.2))) (by exact jES_r2 _ _ _ _ _) ?_
    refine J_aload_n (t) dX1_addNode_34 rfl rfl ?_
    refine J_getrs (q := t + 3) (g3 2 (by decide)).1 dX1_addNode_35 (fun _ h => List.mem_cons_of_mem _ (List.mem_append_left _ (List.mem_append_right _ (h)))) cs5 (by decide) rfl (List.mem_of_getElem? (i := 4) rfl) rfl f1 f2 ?_
    refine J_iload dX1_addNode_38 rfl ?_
    refine J_iload_n dX1_addNode_40 rfl rfl ?_
    refine J_iastN (k := s.2.1) dX1_addNode_41 (show t + 3 < jn M from by omega) (g3 2 (by decide)).2.1 (by exact Nat.lt_of_lt_of_eq (show _ < L by omega) (Eq.symm (g3 2 (by decide)).2.2)) (by exact Nat.lt_of_le_of_lt (Nat.le_of_eq (g3 2 (by decide)).2.2) (show L < 2 ^ 31 by omega)) ?_
    refine J_mem (M' := jES M t ((s.1, s.2.1, upd s.2.2.1 s.2.1 kd, upd s.2.2.2.1 s.2.1 po, upd s.2.2.2.2.1 s.2.1 le, s.2.2.2.2.2.1, s.2.2.2.2.2.2))) (by exact jES_r3 _ _ _ _ _) ?_
    refine J_aload_n (t) dX1_addNode_42 rfl rfl ?_
    refine J_getrs (q := t + 4) (g3 3 (by decide)).1 dX1_addNode_43 (fun _ h => List.mem_cons_of_mem _ (List.mem_append_left _ (List.mem_append_right _ (h)))) cs5 (by decide) rfl (List.mem_of_getElem? (i := 5) rfl) rfl f1 f2 ?_
    refine J_iload dX1_addNode_46 rfl ?_
    refine J_iload dX1_addNode_48 rfl ?_
    refine J_iastN (k := s.2.1) dX1_addNode_50 (show t + 4 < jn M from by omega) (g3 3 (by decide)).2.1 (by exact Nat.lt_of_lt_of_eq (show _ < L by omega) (Eq.symm (g3 3 (by decide)).2.2)) (by exact Nat.lt_of_le_of_lt (Nat.le_of_eq (g3 3 (by decide)).2.2) (show L < 2 ^ 31 by omega)) ?_
    refine J_mem (M' := jES M t ((s.1, s.2.1, upd s.2.2.1 s.2.1 kd, upd s.2.2.2.1 s.2.1 po, upd s.2.2.2.2.1 s.2.1 le, upd s.2.2.2.2.2.1 s.2.1 ri, s.2.2.2.2.2.2))) (by exact jES_r4 _ _ _ _ _) ?_
    refine J_aload_n (t) dX1_addNode_51 rfl rfl ?_
    refine J_getrs (q := t + 5) (g3 4 (by decide)).1 dX1_addNode_52 (fun _ h => List.mem_cons_of_mem _ (List.mem_append_left _ (List.mem_append_right _ (h)))) cs5 (by decide) rfl (List.mem_of_getElem? (i := 6) rfl) rfl f1 f2 ?_
    refine J_iload dX1_addNode_55 rfl ?_
    refine J_iconst (x := (-1)) dX1_addNode_57 (by decide) ?_
    refine J_iastN (k := s.2.1) dX1_addNode_58 (show t + 5 < jn M from by omega) (g3 4 (by decide)).2.1 (by exact Nat.lt_of_lt_of_eq (show _ < L by omega) (Eq.symm (g3 4 (by decide)).2.2)) (by exact Nat.lt_of_le_of_lt (Nat.le_of_eq (g3 4 (by decide)).2.2) (show L < 2 ^ 31 by omega)) ?_
    refine J_mem (M' := jES M t (eNew s kd po le ri)) (by exact jES_r5 _ _ _ _ _) ?_
    refine J_iload_n dX1_addNode_59 rfl rfl ?_
    refine J_iconst (x := 4) dX1_addNode_60 (by decide) ?_
    refine J_icmp_eq dX1_addNode_61 (tgt := 79) (by decide) (fun c61 => ?_) (fun c61 => ?_)
    · refine J_aload_n (t) dX1_addNode_79 rfl rfl ?_
      refine J_dup dX1_addNode_80 rfl ?_
      refine J_geti (j := 8) dX1_addNode_81 (fun _ h => List.mem_cons_of_mem _ (List.mem_append_left _ (List.mem_append_right _ (h)))) cs5 (by decide) rfl (List.mem_of_getElem? (i := 1) rfl) rfl f1 f2 ?_
      refine J_topi (y := nI ((eNew s kd po le ri).2.1)) ((jES_at8 M t (eNew s kd po le ri))) ?_
      refine J_iconst (x := 1) dX1_addNode_84 (by decide) ?_
      refine J_iadd dX1_addNode_85 ?_
      refine J_topi (y := nI ((eNew s kd po le ri).2.1 + 1)) (nI_add ((eNew s kd po le ri).2.1) (1)) ?_
      refine J_puti (j := 8) (x := nI ((eNew s kd po le ri).2.1 + 1)) dX1_addNode_86 (fun _ h => List.mem_cons_of_mem _ (List.mem_append_left _ (List.mem_append_right _ (h)))) cs5 cty5 (by decide) rfl (List.mem_of_getElem? (i := 1) rfl) rfl rfl ⟨rfl, rfl⟩ f1 f2 ?_
      refine J_mem (M' := jES M t (eInc (eNew s kd po le ri))) (by exact jES_8 _ _ _ _) ?_
      refine J_iload dX1_addNode_89 rfl ?_
      exact J_iret (ty := .int) dX1_addNode_91 rfl (rfl) ⟨(by unfold eAdd; rw [if_pos (by omega)]), (by unfold eAdd; rw [if_pos (by omega)]; first | (rw [if_pos c61]; done) | (rw [if_neg c61]; done) | fail "a")⟩
    · refine J_aload_n (t) dX1_addNode_64 rfl rfl ?_
      refine J_iload_n dX1_addNode_65 rfl rfl ?_
      refine J_iload dX1_addNode_66 rfl ?_
      refine J_callv0 (jrunV (As := [.int (le), .int (nI (s.2.1))]) (ct_X1_setParent l D dA hst (jES M t (eNew s kd po le ri)) t sg c L (eNew s kd po le ri) ((hR.es (s' := eNew s kd po le ri) hR.ok)) ((le)) (nI (s.2.1))) dX1_addNode_68 yY_X1_setParent gX1_addNode_X1_setParent rfl cs5 f1 f2 rfl ⟨by omega, by omega⟩ ⟨Nat.zero_le _, Nat.zero_le _⟩ rfl (Nat.le_of_ble_eq_true rfl)) (rfl) (jn_ES _ _ _) ?_
      refine J_mem (M' := jES M t (eSp L ((le)) (nI (s.2.1)) (eNew s kd po le ri))) (by exact jES_ES _ _ _ _) ?_
      refine J_aload_n (t) dX1_addNode_71 rfl rfl ?_
      refine J_iload dX1_addNode_72 rfl ?_
      refine J_iload dX1_addNode_74 rfl ?_
      refine J_callv0 (jrunV (As := [.int (ri), .int (nI (s.2.1))]) (ct_X1_setParent l D dA hst (jES M t (eSp L ((le)) (nI (s.2.1)) (eNew s kd po le ri))) t sg c L (eSp L ((le)) (nI (s.2.1)) (eNew s kd po le ri)) ((hR.es (s' := eSp L ((le)) (nI (s.2.1)) (eNew s kd po le ri)) (eSp_ok hR.ok))) ((ri)) (nI (s.2.1))) dX1_addNode_76 yY_X1_setParent gX1_addNode_X1_setParent rfl cs5 f1 f2 rfl ⟨by omega, by omega⟩ ⟨Nat.zero_le _, Nat.zero_le _⟩ rfl (Nat.le_of_ble_eq_true rfl)) (rfl) (jn_ES _ _ _) ?_
      refine J_mem (M' := jES M t (eSp L ((ri)) (nI (s.2.1)) (eSp L ((le)) (nI (s.2.1)) (eNew s kd po le ri)))) (by exact jES_ES _ _ _ _) ?_
      refine J_aload_n (t) dX1_addNode_79 rfl rfl ?_
      refine J_dup dX1_addNode_80 rfl ?_
      refine J_geti (j := 8) dX1_addNode_81 (fun _ h => List.mem_cons_of_mem _ (List.mem_append_left _ (List.mem_append_right _ (h)))) cs5 (by decide) rfl (List.mem_of_getElem? (i := 1) rfl) rfl f1 f2 ?_
      refine J_topi (y := nI ((eSp L ((ri)) (nI (s.2.1)) (eSp L ((le)) (nI (s.2.1)) (eNew s kd po le ri))).2.1)) ((jES_at8 M t (eSp L ((ri)) (nI (s.2.1)) (eSp L ((le)) (nI (s.2.1)) (eNew s kd po le ri))))) ?_
      refine J_iconst (x := 1) dX1_addNode_84 (by decide) ?_
      refine J_iadd dX1_addNode_85 ?_
      refine J_topi (y := nI ((eSp L ((ri)) (nI (s.2.1)) (eSp L ((le)) (nI (s.2.1)) (eNew s kd po le ri))).2.1 + 1)) (nI_add ((eSp L ((ri)) (nI (s.2.1)) (eSp L ((le)) (nI (s.2.1)) (eNew s kd po le ri))).2.1) (1)) ?_
      refine J_puti (j := 8) (x := nI ((eSp L ((ri)) (nI (s.2.1)) (eSp L ((le)) (nI (s.2.1)) (eNew s kd po le ri))).2.1 + 1)) dX1_addNode_86 (fun _ h => List.mem_cons_of_mem _ (List.mem_append_left _ (List.mem_append_right _ (h)))) cs5 cty5 (by decide) rfl (List.mem_of_getElem? (i := 1) rfl) rfl rfl ⟨rfl, rfl⟩ f1 f2 ?_
      refine J_mem (M' := jES M t (eInc (eSp L ((ri)) (nI (s.2.1)) (eSp L ((le)) (nI (s.2.1)) (eNew s kd po le ri))))) (by exact jES_8 _ _ _ _) ?_
      refine J_iload dX1_addNode_89 rfl ?_
      exact J_iret (ty := .int) dX1_addNode_91 rfl (rfl) ⟨(by unfold eAdd; rw [if_pos (by omega)]), (by unfold eAdd; rw [if_pos (by omega)]; first | (rw [if_pos c61]; done) | (rw [if_neg c61]; done) | fail "a")⟩
  · have c13 := jltF (a := s.2.1) (b := L) (by omega) (by omega) c13
    refine J_iconst (x := (-1)) dX1_addNode_16 (by decide) ?_
    exact J_iret (ty := .int) dX1_addNode_17 rfl (rfl) ⟨(by unfold eAdd; rw [if_neg (by omega)]), (by unfold eAdd; rw [if_neg (by omega)])⟩

