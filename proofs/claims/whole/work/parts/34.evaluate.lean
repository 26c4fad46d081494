theorem jRk.cell {M : jM} {t j : Nat} {x : Int32} (hk : jk M t ≠ 22) : jRk M (jSi M t j x) := by
  refine ⟨Nat.le_refl _, fun _ _ => ⟨rfl, rfl⟩, fun t1 n h => ⟨rfl, funext fun i => ?_⟩⟩
  rw [ji_Si, if_neg (fun hh => hk (by rw [← hh.1]; exact h.2.2.2.1))]
theorem jAb.out {M : jM} {v t j : Nat} {x : Int32} {A : cA} (h : jAb M v A) (ht : v + 36 ≤ t) (hk : jk M t = 5) : jAb (jSi M t j x) v A := by
  obtain ⟨g1, g2, g3, g4, g5, g6, ⟨nx, g7, g8⟩, g9⟩ := h
  have rk : jRk M (jSi M t j x) := jRk.cell (by rw [hk]; decide)
  have hrow : ∀ a, a ≠ t → ji (jSi M t j x) a = ji M a := fun a ha => funext fun i => by rw [ji_Si, if_neg (fun h => ha h.1)]
  have lt := Nat.le_trans (Nat.add_le_add_left (show 36 ≤ 52 by decide) _) g1.1
  refine ⟨g1, g2, g3.same rfl rfl rfl (hrow _ (by omega)) (hrow _ (by omega)), ?_, g5.rk rk ⟨rfl, by rw [hrow _ (by omega)]⟩ rfl (hrow _ (by omega)), g6.rk rk ⟨rfl, by rw [hrow _ (by omega)]⟩ rfl (hrow _ (by omega)), ⟨nx, g7.fv (Nat.le_refl _) (fun _ _ => ⟨rfl, rfl⟩) ⟨rfl, hrow _ (by omega)⟩ rfl (fun i hi => ⟨rfl, hrow _ (by omega)⟩), fun i hi => (g8 i hi).rk rk ⟨rfl, by rw [hrow _ (by omega)]⟩ rfl (hrow _ (by omega))⟩, g9.rk (Nat.le_refl _) (fun _ _ => ⟨rfl, rfl⟩) rfl (hrow _ (by omega)) (fun b _ _ hk2 h9 => h9.eq (hrow b (fun e => by rw [e, hk] at hk2; exact absurd hk2 (by decide))))⟩
  revert g4
  unfold jCh
  cases cCh A with
  | none => exact id
  | some w =>
    rintro ⟨a, a1, a2, a3, a4, a5, a6, a7⟩
    exact ⟨a, a1, a2, a3, a4, a5, a6, fun i hi => by rw [hrow a (fun e => by rw [e, hk] at a4; exact absurd a4 (by decide))]; exact a7 i hi⟩
theorem jFv.out {M M1 : jM} {v t j : Nat} {x : Int32} (h : jFv v M M1) (ht : jn M ≤ t) : jFv v M (jSi M1 t j x) :=
  ⟨h.1, h.2.1, fun a ha hv hk => by
    obtain ⟨a1, a2, a3, a4⟩ := h.2.2.1 a ha hv hk
    exact ⟨by rw [← a1]; funext i; rw [ji_Si, if_neg (fun hh => by omega)], a2, a3, a4⟩, fun a ha hv hk hb => (h.2.2.2 a ha hv hk hb).eq (funext fun i => by rw [ji_Si, if_neg (fun hh => by omega)])⟩
theorem jAb.chn {M : jM} {v a : Nat} {A : cA} {w : rVl} (h : jAb M v A) (ha : a < jn M) (hv : v + 52 ≤ a) (hk : jk M a = 22) (hz : jz M a = w.1) (h60 : w.1 ≤ 60) (hi : ∀ j, j < w.1 → ji M a j = w.2 j) : jAb (jSr M v 4 (some a)) v (cChn A w) ∧ jFv v M (jSr M v 4 (some a)) := by
  have hr : ∀ b j, ¬ (b = v ∧ j = 4) → jr (jSr M v 4 (some a)) b j = jr M b j := fun b j hb => by rw [jr_Sr, if_neg hb]
  have hf : jFv v M (jSr M v 4 (some a)) := ⟨Nat.le_refl _, fun _ _ => ⟨rfl, rfl⟩, fun b _ hb _ => ⟨rfl, funext fun j => hr b j (by omega), rfl, rfl⟩, fun b _ _ _ h => h⟩
  refine ⟨h.own hf (jCl_Sr h.2.1 (fun q hq => by cases hq; exact ha)) ?_ ?_ (fun b hb _ => ⟨rfl, funext fun j => hr b j (by omega)⟩) rfl rfl rfl rfl, hf⟩
  · obtain ⟨a1, a2, a3, a4, a5, a6, a7, a8, a9, a10, a11, a12, a13⟩ := id h.2.2.1
    exact ⟨by rw [hr _ _ (fun h => absurd h.2 (by decide))]; exact a1, by rw [hr _ _ (fun h => absurd h.2 (by decide))]; exact a2, by rw [hr _ _ (fun h => absurd h.2 (by decide))]; exact a3, by rw [hr _ _ (fun h => absurd h.2 (by decide))]; exact a4, by rw [hr _ _ (fun h => absurd h.2 (by decide))]; exact a5, a6, a7, a8, a9, a10, a11, a12, a13⟩
  · exact ⟨a, by rw [jr_Sr, if_pos ⟨rfl, rfl⟩], ha, Or.inr hv, hk, hz, h60, hi⟩
theorem jES_xt {M : jM} {t : Nat} {s : eSt} {M0 : jM} (e : jExt M0 M) (ht : jn M0 ≤ t) : jExt M0 (jES M t s) := by
  refine ⟨e.1, fun a ha => ?_⟩
  obtain ⟨a1, a2, a3, a4, a5, a6⟩ := e.2 a ha
  refine ⟨a1, a2, ?_, a4, a5, a6⟩
  rw [← a3]
  funext j
  show jEg (ji M) t s a j = ji M a j
  unfold jEg
  rw [if_neg (by omega), if_neg (by omega), if_neg (by omega), if_neg (by omega), if_neg (by omega), if_neg (by omega)]
theorem jEr.fv {M M1 : jM} {v t : Nat} {c : Nat → Int32} {L : Nat} {s : eSt} (h : jEr M t (v + 1) c L s) (hf : jFv v M M1) (ht : v + 36 ≤ t) (hc : ji M1 (v + 1) = c) : jEr M1 t (v + 1) c L s := by
  have hr := h.rows
  obtain ⟨h1, g2, g3, g4, g5, g6⟩ := h
  have cell : ∀ i, i < 6 → jk M1 (t + i) = jk M (t + i) ∧ jz M1 (t + i) = jz M (t + i) ∧ ji M1 (t + i) = ji M (t + i) ∧ jr M1 (t + i) = jr M (t + i) := fun i hi => by
    have hk : jk M (t + i) ≠ 20 := by
      rcases Nat.eq_zero_or_pos i with e | e
      · rw [e, Nat.add_zero, h1.2.1]; decide
      · have := (g3 (i - 1) (by omega)).2.1
        rw [show t + 1 + (i - 1) = t + i from by omega] at this
        rw [this]; decide
    obtain ⟨a1, a2⟩ := hf.2.1 (t + i) (by omega)
    obtain ⟨b1, b2, b3, b4⟩ := hf.2.2.1 (t + i) (by omega) (by omega) hk
    exact ⟨a1, a2, b1, b2⟩
  have c0 := cell 0 (by decide)
  have c1 := cell 1 (by decide)
  have c2 := cell 2 (by decide)
  have c3 := cell 3 (by decide)
  have c4 := cell 4 (by decide)
  have c5 := cell 5 (by decide)
  rw [Nat.add_zero] at c0
  have hn := hf.1
  refine ⟨h1.fv hf ht hc (by decide), by omega, fun i hi => ?_, g4, g5, ?_⟩
  · have ci := cell (i + 1) (by omega)
    rw [show t + (i + 1) = t + 1 + i from by omega] at ci
    obtain ⟨d1, d2, d3⟩ := g3 i hi
    exact ⟨by rw [c0.2.2.2]; exact d1, ci.1.trans d2, ci.2.1.trans d3⟩
  · refine jM_eq rfl rfl rfl ?_ rfl rfl rfl
    have hg : jEg (ji M) t s = ji M := congrArg ji g6
    funext a j
    show jEg (ji M1) t s a j = ji M1 a j
    have hga : jEg (ji M) t s a j = ji M a j := congrFun (congrFun hg a) j
    unfold jEg at hga ⊢
    by_cases q0 : a = t
    · subst q0; rw [c0.2.2.1]; exact hga
    by_cases q1 : a = t + 1
    · subst q1; rw [c1.2.2.1]; simpa using hga
    by_cases q2 : a = t + 2
    · subst q2; rw [c2.2.2.1]; simpa using hga
    by_cases q3 : a = t + 3
    · subst q3; rw [c3.2.2.1]; simpa using hga
    by_cases q4 : a = t + 4
    · subst q4; rw [c4.2.2.1]; simpa using hga
    by_cases q5 : a = t + 5
    · subst q5; rw [c5.2.2.1]; simpa using hga
    rw [if_neg q0, if_neg q1, if_neg q2, if_neg q3, if_neg q4, if_neg q5]
theorem eWk_ok {S : Int32 → Option rVl} {s : eSt} : ∀ (fu k : Nat) (vs : Nat → Option rVl) (la v : Option rVl), eWk S s fu k vs la = .inr v → (fu = 0 ∧ v = la) ∨ ∃ w, v = some w ∧ w.1 ≤ 16 := by
  intro fu
  induction fu with
  | zero => intro k vs la v h; left; exact ⟨rfl, (Sum.inr.inj h).symm⟩
  | succ fu ih =>
    intro k vs la v h
    right
    unfold eWk at h
    split at h
    · cases h
    · rename_i w hw
      split at h
      · cases h
      · rename_i hl
        rcases ih _ _ _ _ h with ⟨-, h2⟩ | h2
        · exact ⟨w, h2, by omega⟩
        · exact h2
theorem eWk_k {S : Int32 → Option rVl} {s : eSt} : ∀ (fu k : Nat) (vs : Nat → Option rVl) (la : Option rVl) (k2 : Nat), eWk S s fu k vs la = .inl k2 → k2 < k + fu := by
  intro fu
  induction fu with
  | zero => intro k vs la k2 h; cases h
  | succ fu ih =>
    intro k vs la k2 h
    unfold eWk at h
    split at h
    · cases h; omega
    · split at h
      · cases h; omega
      · have := ih _ _ _ _ h; omega
/-- a part that is read has a node -/
def eP (z : Int32 × eSt) : Prop := z.1 ≠ -1 → 1 ≤ z.2.2.1
theorem eAdd_P {L : Nat} {kd po le ri : Int32} {s : eSt} : eP (eAdd L kd po le ri s) := by
  intro h
  unfold eAdd at h ⊢
  split
  · dsimp only
    split <;> exact Nat.succ_le_succ (Nat.zero_le _)
  · rename_i hl
    rw [if_neg hl] at h
    exact absurd rfl h
theorem eOp_P {c : Nat → Int32} {L : Nat} {G : eRd} {kd le : Int32} {s : eSt} : eP (eOp c L G kd le s) := by
  unfold eOp
  split
  · split
    · exact fun h => absurd rfl h
    · exact eAdd_P
  · exact fun h => absurd rfl h
theorem eTgo_P {c : Nat → Int32} {L : Nat} {G : eRd} : ∀ fu le s, eP (le, s) → eP (eTgo c L G fu le s) := by
  intro fu
  induction fu with
  | zero => intro le s h; exact h
  | succ fu ih =>
    intro le s h
    unfold eTgo
    split
    · exact h
    · split
      · exact ih _ _ eOp_P
      · split
        · exact ih _ _ eOp_P
        · exact h
theorem eSgo_P {c : Nat → Int32} {L : Nat} {G : eRd} : ∀ fu le s, eP (le, s) → eP (eSgo c L G fu le s) := by
  intro fu
  induction fu with
  | zero => intro le s h; exact h
  | succ fu ih =>
    intro le s h
    unfold eSgo
    split
    · exact h
    · split
      · exact ih _ _ eOp_P
      · exact h
theorem eNum_P {c : Nat → Int32} {L : Nat} {s : eSt} : eP (eNum c L s) := by
  unfold eNum
  split
  · exact fun h => absurd rfl h
  · exact eAdd_P
theorem eFac_P {c : Nat → Int32} {L : Nat} : ∀ d s, eP (eFac c L d s) := by
  intro d
  induction d with
  | zero =>
    intro s
    show eP (if tIsAt c L s.1 33 = true then (-1, s) else if tIsAt c L s.1 40 = true then (-1, s) else eNum c L s)
    split
    · exact fun h => absurd rfl h
    · split
      · exact fun h => absurd rfl h
      · exact eNum_P
  | succ d ih =>
    intro s
    unfold eFac
    split
    · split
      · exact fun h => absurd rfl h
      · exact eAdd_P
    · split
      · split
        · exact fun h => absurd rfl h
        · split
          · exact eSgo_P _ _ _ (eTgo_P _ _ _ (ih _))
          · exact fun h => absurd rfl h
      · exact eNum_P
theorem eS_P {c : Nat → Int32} {L : Nat} {s : eSt} : eP (eS c L (eFac c L 8) s) := eSgo_P _ _ _ (eTgo_P _ _ _ (eFac_P _ _))
theorem eUp_len (s : eSt) : ∀ fu len nd f, (eUp s fu len nd f).1 ≤ len + fu := by
  intro fu
  induction fu with
  | zero => intro len nd f; exact Nat.le_refl _
  | succ fu ih =>
    intro len nd f
    unfold eUp
    split
    · show len ≤ _; omega
    · split
      · have := ih (len + 1) (s.2.2.2.2.2.2 nd.toNatClampNeg) (upd f len (s.2.2.2.1 nd.toNatClampNeg)); omega
      · show len ≤ _; omega
def eS0 : eSt := (0, 0, fun _ => 0, fun _ => 0, fun _ => 0, fun _ => 0, fun _ => 0)
/-- the expression read -/
def evS (A : cA) : eSt := (eS (cC A) (cL A) (eFac (cC A) (cL A) 8) eS0).2
def evOk (A : cA) : Bool := eWh (cC A) (cL A) eS0
def evChn (s : eSt) (k : Nat) : rVl := ((eChain s k).1, fun j => (eChain s k).2 ((eChain s k).1 - 1 - j))
def sEvW (A : cA) (x : Int32) (s : eSt) (z : Nat ⊕ Option rVl) : cR := match z with
  | .inl k => (oX xUOE, cRef (cChn (cFin A (-1)) (evChn s k)) (eWhy s k))
  | .inr none => (oX xUOE, A)
  | .inr (some w) => (oI (nI w.1), cPut (cFin A (-1)) x.toNatClampNeg (some w))
def sEvB (A : cA) (x : Int32) (ok : Bool) (s : eSt) : cR := if ok then sEvW A x s (eWork (cAt (cNw A)) s) else (oX xIAE, cFin A (nI s.1))
def sEval (A : cA) (x : Int32) : cR := sSl x A (sEvB A x (evOk A) (evS A))
theorem evS_1 {A : cA} (h : evOk A = true) : 1 ≤ (evS A).2.1 := by
  unfold evOk eWh at h
  simp only [Bool.and_eq_true, Bool.not_eq_true', decide_eq_false_iff_not] at h
  exact eS_P h.1
theorem dX7_evaluate_0 : decode cX7_evaluate 0 = .ok (.iload_n 1, 1) := by decide +kernel
theorem dX7_evaluate_1 : decode cX7_evaluate 1 = .ok (.invokestatic 62, 3) := by decide +kernel
set_option maxRecDepth 20000 in
theorem ggX7_evaluate_X7_checkSlot : GoodIn wsX7_evaluate wsX7_checkSlot := goodIn_ca (goodIn_r _ [11, 12, 13] (by decide +kernel) (by decide +kernel)) (goodIn_sub (fun _ h => List.mem_cons_of_mem _ (List.mem_append_left _ (List.mem_append_left _ (List.mem_append_left _ (List.mem_append_right _ h))))) (by decide +kernel))
set_option maxRecDepth 20000 in
theorem gX7_evaluate_X7_checkSlot : GoodIn wsX7_evaluate (va_wsS RX7 62 yX7_checkSlot wsX7_checkSlot) := goodIn_app (goodIn_of _ (by decide +kernel)) ggX7_evaluate_X7_checkSlot
theorem dX7_evaluate_4 : decode cX7_evaluate 4 = .ok (.new 102, 3) := by decide +kernel
theorem dX7_evaluate_7 : decode cX7_evaluate 7 = .ok (.dup, 1) := by decide +kernel
theorem dX7_evaluate_8 : decode cX7_evaluate 8 = .ok (.aload_n 0, 1) := by decide +kernel
theorem dX7_evaluate_9 : decode cX7_evaluate 9 = .ok (.getfield 9, 3) := by decide +kernel
theorem dX7_evaluate_12 : decode cX7_evaluate 12 = .ok (.aload_n 0, 1) := by decide +kernel
theorem dX7_evaluate_13 : decode cX7_evaluate 13 = .ok (.getfield 13, 3) := by decide +kernel
theorem dX7_evaluate_16 : decode cX7_evaluate 16 = .ok (.invokespecial 104, 3) := by decide +kernel
set_option maxRecDepth 20000 in
theorem ggX7_evaluate_X1_init : GoodIn wsX7_evaluate wsX1_init := goodIn_r _ [16, 17, 18, 19, 20, 21, 22, 23, 24, 25, 26, 27, 28, 29, 30, 31, 32, 33, 34, 35, 36, 37, 38, 39, 40, 41, 42, 43, 44, 45, 46, 251, 252, 253, 254, 255, 256, 257, 258, 259, 260, 271, 272, 273, 274, 275, 276, 277] (by decide +kernel) (by decide +kernel)
set_option maxRecDepth 20000 in
theorem gX7_evaluate_X1_init : GoodIn wsX7_evaluate (wsX1_init) := ggX7_evaluate_X1_init
theorem yY_X1_init : jY yX1_init wsX1_init cX1_init 4 none 2 := ⟨⟨_, rfl⟩, by decide +kernel, by decide +kernel, by decide +kernel⟩
theorem dX7_evaluate_19 : decode cX7_evaluate 19 = .ok (.astore_n 2, 1) := by decide +kernel
theorem dX7_evaluate_20 : decode cX7_evaluate 20 = .ok (.aload_n 0, 1) := by decide +kernel
theorem dX7_evaluate_21 : decode cX7_evaluate 21 = .ok (.aload_n 2, 1) := by decide +kernel
theorem dX7_evaluate_22 : decode cX7_evaluate 22 = .ok (.aload_n 2, 1) := by decide +kernel
theorem dX7_evaluate_23 : decode cX7_evaluate 23 = .ok (.invokevirtual 105, 3) := by decide +kernel
set_option maxRecDepth 20000 in
theorem ggX7_evaluate_X1_readWhole : GoodIn wsX7_evaluate wsX1_readWhole := goodIn_ca (goodIn_r _ [50, 51, 52, 53, 3, 54, 55, 56, 57, 42, 43, 44, 45, 27, 46, 41, 58, 59, 60, 61, 62, 32, 33, 63, 64, 65, 66, 67, 68, 69, 70, 71, 72, 73, 74, 75, 76, 77, 78, 79, 80, 81, 82, 83, 84, 85, 86, 87, 17, 20, 21, 22, 23, 24, 88, 89, 90, 91, 92, 93, 94, 95, 96, 97, 98, 99, 100, 101, 102, 103, 104, 105, 106, 107, 108, 109, 251, 252, 253, 254, 255, 256, 257, 258, 259, 260, 271, 272, 273, 274, 275, 276, 277] (by decide +kernel) (by decide +kernel)) (goodIn_sub (fun _ h => List.mem_cons_of_mem _ (List.mem_append_left _ (List.mem_append_left _ (List.mem_append_right _ h)))) (by decide +kernel))
set_option maxRecDepth 20000 in
theorem gX7_evaluate_X1_readWhole : GoodIn wsX7_evaluate (wsV RX7 105 RX1 yX1_readWhole wsX1_readWhole) := goodIn_app (goodIn_of _ (by decide +kernel)) ggX7_evaluate_X1_readWhole
theorem yY_X1_readWhole : jY yX1_readWhole wsX1_readWhole cX1_readWhole 1 (some .boolean) 0 := ⟨⟨_, rfl⟩, by decide +kernel, by decide +kernel, by decide +kernel⟩
theorem dX7_evaluate_26 : decode cX7_evaluate 26 = .ok (.invokevirtual 75, 3) := by decide +kernel
set_option maxRecDepth 20000 in
theorem ggX7_evaluate_X7_finishReading : GoodIn wsX7_evaluate wsX7_finishReading := goodIn_ca (goodIn_r _ [113, 114, 115, 5, 116, 117, 118, 119, 70, 27, 71, 32, 120, 261, 262, 263, 264, 265, 266, 267, 268, 269, 270, 251, 252, 253, 254, 255, 256, 257, 258, 259, 260, 271, 272, 273, 274, 275, 276, 277] (by decide +kernel) (by decide +kernel)) (goodIn_sub (fun _ h => List.mem_cons_of_mem _ (List.mem_append_left _ (List.mem_append_right _ h))) (by decide +kernel))
set_option maxRecDepth 20000 in
theorem gX7_evaluate_X7_finishReading : GoodIn wsX7_evaluate (wsV RX7 75 RX7 yX7_finishReading wsX7_finishReading) := goodIn_app (goodIn_of _ (by decide +kernel)) ggX7_evaluate_X7_finishReading
theorem dX7_evaluate_29 : decode cX7_evaluate 29 = .ok (.aload_n 2, 1) := by decide +kernel
theorem dX7_evaluate_30 : decode cX7_evaluate 30 = .ok (.aload_n 0, 1) := by decide +kernel
theorem dX7_evaluate_31 : decode cX7_evaluate 31 = .ok (.getfield 30, 3) := by decide +kernel
theorem dX7_evaluate_34 : decode cX7_evaluate 34 = .ok (.invokevirtual 108, 3) := by decide +kernel
set_option maxRecDepth 20000 in
theorem ggX7_evaluate_X1_workOut : GoodIn wsX7_evaluate wsX1_workOut := goodIn_ca (goodIn_r _ [124, 17, 125, 18, 126, 127, 128, 3, 129, 20, 22, 130, 23, 131, 132, 133, 134, 135, 136, 137, 138, 139, 140, 141, 142, 143, 144, 145, 19, 146, 147, 148, 149, 30, 31, 150, 151, 152, 153, 154, 155, 35, 36, 37, 156, 157, 158, 159, 160, 161, 162, 163, 164, 165, 166, 167, 168, 169, 170, 171, 172, 173, 174, 175, 176, 177, 178, 179, 180, 181, 10, 182, 183, 184, 185, 186, 187, 188, 189, 190, 191, 192, 193, 194, 195, 196, 197, 198, 199, 200, 201, 251, 252, 253, 254, 255, 256, 257, 258, 259, 260, 278, 279, 280, 281] (by decide +kernel) (by decide +kernel)) (goodIn_sub (fun _ h => List.mem_cons_of_mem _ (List.mem_append_left _ (List.mem_append_left _ (List.mem_append_right _ h)))) (by decide +kernel))
set_option maxRecDepth 20000 in
theorem gX7_evaluate_X1_workOut : GoodIn wsX7_evaluate (wsV RX7 108 RX1 yX1_workOut wsX1_workOut) := goodIn_app (goodIn_of _ (by decide +kernel)) ggX7_evaluate_X1_workOut
theorem yY_X1_workOut : jY yX1_workOut wsX1_workOut cX1_workOut 5 (some (.object "VersionAlgebra$Range")) 1 := ⟨⟨_, rfl⟩, by decide +kernel, by decide +kernel, by decide +kernel⟩
theorem dX7_evaluate_37 : decode cX7_evaluate 37 = .ok (.astore_n 3, 1) := by decide +kernel
theorem dX7_evaluate_38 : decode cX7_evaluate 38 = .ok (.aload_n 3, 1) := by decide +kernel
theorem dX7_evaluate_39 : decode cX7_evaluate 39 = .ok (.ifnonnull 21, 3) := by decide +kernel
theorem dX7_evaluate_42 : decode cX7_evaluate 42 = .ok (.aload_n 0, 1) := by decide +kernel
theorem dX7_evaluate_43 : decode cX7_evaluate 43 = .ok (.aload_n 2, 1) := by decide +kernel
theorem dX7_evaluate_44 : decode cX7_evaluate 44 = .ok (.invokevirtual 112, 3) := by decide +kernel
set_option maxRecDepth 20000 in
theorem ggX7_evaluate_X1_failureChain : GoodIn wsX7_evaluate wsX1_failureChain := goodIn_ca (goodIn_r _ [205, 17, 19, 18, 21, 24, 251, 252, 253, 254, 255, 256, 257, 258, 259, 260] (by decide +kernel) (by decide +kernel)) (goodIn_sub (fun _ h => List.mem_cons_of_mem _ (List.mem_append_left _ (List.mem_append_left _ (List.mem_append_right _ h)))) (by decide +kernel))
set_option maxRecDepth 20000 in
theorem gX7_evaluate_X1_failureChain : GoodIn wsX7_evaluate (wsV RX7 112 RX1 yX1_failureChain wsX1_failureChain) := goodIn_app (goodIn_of _ (by decide +kernel)) ggX7_evaluate_X1_failureChain
theorem yY_X1_failureChain : jY yX1_failureChain wsX1_failureChain cX1_failureChain 6 (some (.array .int)) 0 := ⟨⟨_, rfl⟩, by decide +kernel, by decide +kernel, by decide +kernel⟩
theorem dX7_evaluate_47 : decode cX7_evaluate 47 = .ok (.putfield 23, 3) := by decide +kernel
theorem dX7_evaluate_50 : decode cX7_evaluate 50 = .ok (.aload_n 0, 1) := by decide +kernel
theorem dX7_evaluate_51 : decode cX7_evaluate 51 = .ok (.aload_n 2, 1) := by decide +kernel
theorem dX7_evaluate_52 : decode cX7_evaluate 52 = .ok (.invokevirtual 116, 3) := by decide +kernel
set_option maxRecDepth 20000 in
theorem ggX7_evaluate_X1_failureReason : GoodIn wsX7_evaluate wsX1_failureReason := goodIn_ca (goodIn_r _ [209, 210, 211, 212, 3, 213, 18, 17, 20, 251, 252, 253, 254, 255, 256, 257, 258, 259, 260] (by decide +kernel) (by decide +kernel)) (goodIn_sub (fun _ h => List.mem_cons_of_mem _ (List.mem_append_left _ (List.mem_append_left _ (List.mem_append_right _ h)))) (by decide +kernel))
set_option maxRecDepth 20000 in
theorem gX7_evaluate_X1_failureReason : GoodIn wsX7_evaluate (wsV RX7 116 RX1 yX1_failureReason wsX1_failureReason) := goodIn_app (goodIn_of _ (by decide +kernel)) ggX7_evaluate_X1_failureReason
theorem yY_X1_failureReason : jY yX1_failureReason wsX1_failureReason cX1_failureReason 1 (some .int) 0 := ⟨⟨_, rfl⟩, by decide +kernel, by decide +kernel, by decide +kernel⟩
theorem dX7_evaluate_55 : decode cX7_evaluate 55 = .ok (.invokevirtual 82, 3) := by decide +kernel
set_option maxRecDepth 20000 in
theorem ggX7_evaluate_X7_refuse : GoodIn wsX7_evaluate wsX7_refuse := goodIn_ca (goodIn_r _ [217, 218, 219, 220, 261, 262, 263, 264, 265, 266, 267, 268, 269, 270] (by decide +kernel) (by decide +kernel)) (goodIn_sub (fun _ h => List.mem_cons_of_mem _ (List.mem_append_right _ h)) (by decide +kernel))
set_option maxRecDepth 20000 in
theorem gX7_evaluate_X7_refuse : GoodIn wsX7_evaluate (wsV RX7 82 RX7 yX7_refuse wsX7_refuse) := goodIn_app (goodIn_of _ (by decide +kernel)) ggX7_evaluate_X7_refuse
theorem dX7_evaluate_60 : decode cX7_evaluate 60 = .ok (.aload_n 0, 1) := by decide +kernel
theorem dX7_evaluate_61 : decode cX7_evaluate 61 = .ok (.iload_n 1, 1) := by decide +kernel
theorem dX7_evaluate_62 : decode cX7_evaluate 62 = .ok (.aload_n 3, 1) := by decide +kernel
theorem dX7_evaluate_63 : decode cX7_evaluate 63 = .ok (.invokevirtual 94, 3) := by decide +kernel
set_option maxRecDepth 20000 in
theorem ggX7_evaluate_X7_change : GoodIn wsX7_evaluate wsX7_change := goodIn_r _ [224, 225, 6, 226, 227, 228, 229, 230, 231, 232, 233, 234, 35, 36, 37, 235, 236, 237, 134, 238, 136, 239, 240, 195, 196, 197, 241, 242, 243, 244, 245, 246, 247, 248, 249, 261, 262, 263, 264, 265, 266, 267, 268, 269, 270, 282, 283, 284, 278, 279, 280] (by decide +kernel) (by decide +kernel)
set_option maxRecDepth 20000 in
theorem gX7_evaluate_X7_change : GoodIn wsX7_evaluate (wsV RX7 94 RX7 yX7_change wsX7_change) := goodIn_app (goodIn_of _ (by decide +kernel)) ggX7_evaluate_X7_change
theorem dX7_evaluate_66 : decode cX7_evaluate 66 = .ok (.aload_n 3, 1) := by decide +kernel
theorem dX7_evaluate_67 : decode cX7_evaluate 67 = .ok (.invokevirtual 98, 3) := by decide +kernel
set_option maxRecDepth 20000 in
theorem ggX7_evaluate_X3_spanCount : GoodIn wsX7_evaluate wsX3_spanCount := goodIn_r _ [159, 150, 281] (by decide +kernel) (by decide +kernel)
set_option maxRecDepth 20000 in
theorem gX7_evaluate_X3_spanCount : GoodIn wsX7_evaluate (wsV RX7 98 RX3 yX3_spanCount wsX3_spanCount) := goodIn_app (goodIn_of _ (by decide +kernel)) ggX7_evaluate_X3_spanCount
theorem dX7_evaluate_70 : decode cX7_evaluate 70 = .ok (.ireturn, 1) := by decide +kernel
set_option maxHeartbeats 400000 in
set_option maxRecDepth 20000 in
theorem ct_X7_evaluate (l : Launch) (D : va_G) (dA : Nat → ClassId) (hst : l.stackTraces = false) (M : jM) (v : Nat) (A : cA) (hA : jAb M v A) (x : Int32) : jCT l D dA yX7_evaluate wsX7_evaluate (520) (5600) (30 + 5 * cL A) (100 + 200 * cL A) 1 [.ref (v), .int (x)] M (jPr M v (sEval A x)) := by
  refine jBody (cc := cX7_evaluate) (nL := 4) (rt := (some .int)) (ini := false) (by decide) rfl hst (Nat.le_of_ble_eq_true rfl) (by simp [Value.category]) (by intro h9; first | exact absurd h9 (by decide) | rfl) ?_
  show J l D dA RX7 cX7_evaluate wsX7_evaluate 4 false (some .int) [] (520) (5600) (jF D dA (jn M) (jPr M v (sEval A x)) 1) (jn M) (30 + 5 * cL A) (100 + 200 * cL A) (M) 0 [.ref (v), .int (x), .float 0, .float 0] []
  obtain ⟨g1, g2, g3, g4, g5, g6, g7, g9⟩ := id hA
  obtain ⟨gx, gH, g8⟩ := id g7
  obtain ⟨ga1, ga2, ga3, ga4, ga5, ga6, ga7, ga8, ga9, ga10, ga11, ga12, ga13⟩ := id g3
  have gc30 := g5.1.2.2.2.2.2.2.2.2.2
  refine J_iload_n dX7_evaluate_0 rfl rfl ?_
  rcases Bool.eq_false_or_eq_true (okSlot ((x))) with ok1 | ok1
  · refine J_callvB (jrunS (As := [.int (x)]) (ct_X7_checkSlot l D dA hst M ((x))) dX7_evaluate_1 yY_X7_checkSlot gX7_evaluate_X7_checkSlot rfl ⟨by omega, by omega⟩ ⟨by omega, by omega⟩ rfl (Nat.le_of_ble_eq_true rfl)) (if_pos ok1) (rfl) ⟨by omega, by omega⟩ ?_
    refine J_new (ci := 5) dX7_evaluate_4 (fun _ h => List.mem_cons_of_mem _ (List.mem_append_left _ (List.mem_append_left _ (List.mem_append_left _ (List.mem_append_left _ (List.mem_append_left _ (List.mem_append_left _ (List.mem_append_left _ (List.mem_append_left _ (List.mem_append_left _ (List.mem_append_right _ (h)))))))))))) cs5 cty5 (List.mem_of_getElem? (i := 1) rfl) (List.mem_of_getElem? (i := 2) rfl) (List.mem_of_getElem? (i := 3) rfl) (by omega) (by omega) (g2) (jOk.ref (show v < jn M from by have := g1.1; omega) (jOk.int (jOk.float (jOk.float jOk.nil)))) jOk.nil ?_
    refine J_dup dX7_evaluate_7 rfl ?_
    refine J_aload_n (v) dX7_evaluate_8 rfl rfl ?_
    refine J_getrs (q := v + 1) (jr_new (M := M) (kd := 5) (len := 0) (by have h9 := (show v < jn M from by have := g1.1; omega); first | exact h9 | (simp only [jn_Nw, jn_Si, jn_Sr, jn_Sv, jn_Sq]; omega)) ga1) dX7_evaluate_9 (fun _ h => List.mem_cons_of_mem _ (List.mem_append_left _ (List.mem_append_left _ (List.mem_append_left _ (List.mem_append_left _ (List.mem_append_left _ (List.mem_append_left _ (List.mem_append_left _ (List.mem_append_left _ (List.mem_append_right _ (h))))))))))) cs10 (by decide) rfl (List.mem_of_getElem? (i := 4) rfl) rfl (by have h9 := (show v < jn M from by have := g1.1; omega); first | exact h9 | (simp only [jn_Nw, jn_Si, jn_Sr, jn_Sv, jn_Sq]; omega)) (jk_new (M := M) (kd := 5) (len := 0) (by have h9 := (show v < jn M from by have := g1.1; omega); first | exact h9 | (simp only [jn_Nw, jn_Si, jn_Sr, jn_Sv, jn_Sq]; omega)) g1.2.1) ?_
    refine J_aload_n (v) dX7_evaluate_12 rfl rfl ?_
    refine J_geti (j := 1) dX7_evaluate_13 (fun _ h => List.mem_cons_of_mem _ (List.mem_append_left _ (List.mem_append_left _ (List.mem_append_left _ (List.mem_append_left _ (List.mem_append_left _ (List.mem_append_left _ (List.mem_append_left _ (List.mem_append_left _ (List.mem_append_right _ (h))))))))))) cs10 (by decide) rfl (List.mem_of_getElem? (i := 5) rfl) rfl (by have h9 := (show v < jn M from by have := g1.1; omega); first | exact h9 | (simp only [jn_Nw, jn_Si, jn_Sr, jn_Sv, jn_Sq]; omega)) (jk_new (M := M) (kd := 5) (len := 0) (by have h9 := (show v < jn M from by have := g1.1; omega); first | exact h9 | (simp only [jn_Nw, jn_Si, jn_Sr, jn_Sv, jn_Sq]; omega)) g1.2.1) ?_
    refine J_topi (y := nI (cL A)) ((ji_new (M := M) (kd := 5) (len := 0) (by have h9 := (show v < jn M from by have := g1.1; omega); first | exact h9 | (simp only [jn_Nw, jn_Si, jn_Sr, jn_Sv, jn_Sq]; omega)) ga8)) ?_
    refine J_callv (jrunI (ret := none) (As := [.ref (v + 1), .int (nI (cL A))]) (ct_X1_init l D dA hst (jNw M 5 0) (jCl_Nw (g2)) (jn M) rfl (by simp [jk_Nw]) (v + 1) (cL A) (by have h9 := g1.1; omega) (jk_new (by have h9 := g1.1; omega) ga6) (jz_new (by have h9 := g1.1; omega) ga7) ga9) dX7_evaluate_16 yY_X1_init gX7_evaluate_X1_init rfl (List.mem_of_getElem? (i := 3) rfl) (List.mem_of_getElem? (i := 14) rfl) (List.mem_of_getElem? (i := 15) rfl) rfl ⟨by omega, by omega⟩ ⟨by omega, by omega⟩ rfl (Nat.le_of_ble_eq_true rfl)) ⟨by omega, by omega⟩ (Or.inr ⟨(jOk.ref (by have h9 := (show v < jn M from by have := g1.1; omega); first | exact h9 | (simp only [jn_Nw, jn_Si, jn_Sr, jn_Sv, jn_Sq]; omega)) (jOk.int (jOk.float (jOk.float jOk.nil)))), (jOk.ref (by simp [jn_Nw, jn_Si, jn_Sr, jn_Sv] <;> omega) jOk.nil)⟩) (fun E M9 hp _ => by cases hp.1) (fun M2 hp16 hle16 => ?_)
    obtain ⟨-, hX2, hC2, hR2, hn2, hf9⟩ := hp16
    have hE2 : jExt M M2 := jXo.e0 hX2
    have hc9 : ji (jNw M 5 0) (v + 1) = cC A := by funext j; rw [ji_Nw, if_neg (by have h9 := g1.1; omega)]; exact congrFun ga10 j
    rw [hc9] at hR2
    have hA2 := hA.ext hE2 hC2
    obtain ⟨m1, m2, m3, m4, m5, m6, m7, m9⟩ := id hA2
    obtain ⟨mx, mH, m8⟩ := id m7
    obtain ⟨ma1, ma2, ma3, ma4, ma5, ma6, ma7, ma8, ma9, ma10, ma11, ma12, ma13⟩ := id m3
    have mc30 := m5.1.2.2.2.2.2.2.2.2.2
    refine J_astore_n (x := jn M) (lv' := [.ref (v), .int (x), .ref (jn M), .float 0]) dX7_evaluate_19 rfl (by decide) rfl rfl ?_
    refine J_aload_n (v) dX7_evaluate_20 rfl rfl ?_
    refine J_aload_n (jn M) dX7_evaluate_21 rfl rfl ?_
    refine J_aload_n (jn M) dX7_evaluate_22 rfl rfl ?_
    refine J_calli0 (jrunV (As := []) (ct_X1_readWhole l D dA hst M2 (jn M) (v + 1) (cC A) (cL A) eS0 hR2) dX7_evaluate_23 yY_X1_readWhole gX7_evaluate_X1_readWhole rfl cs5 hR2.1.1 hR2.1.2.1 rfl ⟨by omega, by omega⟩ ⟨Nat.zero_le _, Nat.zero_le _⟩ rfl (Nat.le_of_ble_eq_true rfl)) (rfl) (jn_ES _ _ _) ?_
    have hn9 : eOk (cL A) (evS A) := eS_ok (eFac_ok 8) _ hR2.ok
    obtain ⟨M3, hM3⟩ : ∃ Mz, Mz = jES M2 (jn M) (evS A) := ⟨_, rfl⟩
    refine J_mem (M' := M3) hM3.symm ?_
    have hR3 : jEr M3 (jn M) (v + 1) (cC A) (cL A) (evS A) := by rw [hM3]; exact hR2.es hn9
    have hE3 : jExt M M3 := by rw [hM3]; exact jES_xt hE2 (Nat.le_refl _)
    have hC3 : jCl M3 := by rw [hM3]; exact hC2
    have hA3 := hA.ext hE3 hC3
    obtain ⟨n1, n2, n3, n4, n5, n6, n7, n9⟩ := id hA3
    obtain ⟨nx, nH, n8⟩ := id n7
    obtain ⟨na1, na2, na3, na4, na5, na6, na7, na8, na9, na10, na11, na12, na13⟩ := id n3
    have nc30 := n5.1.2.2.2.2.2.2.2.2.2
    refine J_callv (jrunV (As := [.ref (jn M), .int (jb (evOk A))]) (ct_X7_finishReading_5 l D dA hst M3 v A hA3 (jn M) (v + 1) (cC A) (cL A) (evS A).1 hR3.1 (evOk A)) dX7_evaluate_26 yY_X7_finishReading gX7_evaluate_X7_finishReading rfl cs10 (show v < jn M3 from by have := n1.1; omega) n1.2.1 rfl ⟨by omega, by omega⟩ ⟨by omega, by omega⟩ rfl (Nat.le_of_ble_eq_true rfl)) ⟨by omega, by omega⟩ (Or.inr ⟨(jOk.ref (show v < jn M3 from by have := n1.1; omega) (jOk.int (jOk.ref hR3.1.1 (jOk.float jOk.nil)))), jOk.nil⟩) (fun E9 M9 hp9 _ => by
        rcases hz1 : evOk A with _ | _
        · rw [hz1] at hp9; obtain ⟨h1, h2, h3⟩ := hp9; cases h1; exact JX_out rfl (by unfold sEval; rw [sSl_t ok1]; unfold sEvB; rw [if_neg (by rw [hz1]; decide)]; exact ⟨rfl, h2, hE3.fv.tr h3⟩)
        · rw [hz1] at hp9; cases hp9.1) (fun M4 hp26 hle26 => ?_)
    have hz1 : evOk A = true := by
        rcases hz1 : evOk A with _ | _
        · rw [hz1] at hp26; cases hp26.1
        · rfl
    rw [hz1] at hp26
    have hA4 : jAb M4 v (cFin A (-1)) := hp26.2.1
    have hf4 : jFv v M3 M4 := hp26.2.2
    obtain ⟨o1, o2, o3, o4, o5, o6, o7, o9⟩ := id hA4
    obtain ⟨ox, oH, o8⟩ := id o7
    obtain ⟨oa1, oa2, oa3, oa4, oa5, oa6, oa7, oa8, oa9, oa10, oa11, oa12, oa13⟩ := id o3
    have oc30 := o5.1.2.2.2.2.2.2.2.2.2
    have hv9 := hA.1.1
    have hR4 := hR3.fv hf4 (by omega) oa10
    have hs1 := evS_1 hz1
    have hsL : (evS A).2.1 ≤ cL A := hn9.2
    refine J_aload_n (jn M) dX7_evaluate_29 rfl rfl ?_
    refine J_aload_n (v) dX7_evaluate_30 rfl rfl ?_
    refine J_getrs (q := v + 2) oa2 dX7_evaluate_31 (fun _ h => List.mem_cons_of_mem _ (List.mem_append_left _ (List.mem_append_left _ (List.mem_append_left _ (List.mem_append_left _ (List.mem_append_left _ (List.mem_append_left _ (List.mem_append_left _ (List.mem_append_left _ (List.mem_append_right _ (h))))))))))) cs10 (by decide) rfl (List.mem_of_getElem? (i := 6) rfl) rfl (show v < jn M4 from by have := o1.1; omega) o1.2.1 ?_
    rcases hwk : eWork (cAt (cNw A)) (evS A) with k | vv
    · refine J_callq (jrunV (As := [.ref (v + 2)]) (ct_X1_workOut l D dA hst M4 o2 (jn M) (v + 1) (cC A) (cL A) (evS A) hR4 (v + 2) (cNw A).2.1 o5.1 (cAt (cNw A)) (fun x => (jVa_cAt o5 x).1)) dX7_evaluate_34 yY_X1_workOut gX7_evaluate_X1_workOut rfl cs5 hR4.1.1 hR4.1.2.1 rfl ⟨by omega, by omega⟩ ⟨by omega, by omega⟩ rfl (Nat.le_of_ble_eq_true rfl)) ⟨by omega, by omega⟩ (Or.inr ⟨(jOk.ref (show v < jn M4 from by have := o1.1; omega) (jOk.int (jOk.ref hR4.1.1 (jOk.float jOk.nil)))), jOk.nil⟩) (fun E9 M9 hp9 _ => by rw [hwk] at hp9; cases hp9.1) (fun x9 M5 hp34 hle34 => ?_)
      rw [hwk] at hp34
      obtain ⟨hx9, M6, hE6, hC6, hM5⟩ := hp34
      have hx9 := jR_inj2 hx9
      subst hx9
      have hkc : k < (evS A).2.1 := by have := eWk_k _ _ _ _ _ hwk; omega
      have hA5 : jAb M5 v (cFin A (-1)) := by rw [hM5]; exact (hA4.ext hE6 hC6).out (by omega) ((hE6.2 (jn M) hR4.1.1).1.trans hR4.1.2.1)
      have hf5 : jFv v M M5 := by rw [hM5]; exact ((hE3.fv.tr hf4).tr hE6.fv).out (Nat.le_refl _)
      have hR5 : jEr M5 (jn M) (v + 1) (cC A) (cL A) (evS A) := by rw [hM5]; exact (hR4.ext hE6).f9
      have h9k : ji M5 (jn M) 9 = nI k := by rw [hM5, ji_Si, if_pos ⟨rfl, rfl⟩]
      obtain ⟨p1, p2, p3, p4, p5, p6, p7, p9⟩ := id hA5
      obtain ⟨px, pH, p8⟩ := id p7
      obtain ⟨pa1, pa2, pa3, pa4, pa5, pa6, pa7, pa8, pa9, pa10, pa11, pa12, pa13⟩ := id p3
      have pc30 := p5.1.2.2.2.2.2.2.2.2.2
      refine J_astore_nq (r := none) (lv' := [.ref (v), .int (x), .ref (jn M), .null]) dX7_evaluate_37 rfl (by decide) rfl rfl ?_
      refine J_aload_nq none dX7_evaluate_38 rfl rfl ?_
      refine J_ifnonnull (r := none) dX7_evaluate_39 (tgt := 60) (by decide) (fun r39 c39 => ?_) (fun c39 => ?_)
      · cases c39
      · refine J_aload_n (v) dX7_evaluate_42 rfl rfl ?_
        refine J_aload_n (jn M) dX7_evaluate_43 rfl rfl ?_
        refine J_callq (jrunV (As := []) (ct_X1_failureChain l D dA hst M5 p2 (jn M) (v + 1) (cC A) (cL A) (evS A) hR5 k h9k hkc) dX7_evaluate_44 yY_X1_failureChain gX7_evaluate_X1_failureChain rfl cs5 hR5.1.1 hR5.1.2.1 rfl ⟨by omega, by omega⟩ ⟨by omega, by omega⟩ rfl (Nat.le_of_ble_eq_true rfl)) ⟨by omega, by omega⟩ (Or.inr ⟨(jOk.ref (show v < jn M5 from by have := p1.1; omega) (jOk.int (jOk.ref hR5.1.1 (jOk.null jOk.nil)))), (jOk.ref (show v < jn M5 from by have := p1.1; omega) jOk.nil)⟩) (fun E9 M9 hp9 _ => by obtain ⟨_, h1, _⟩ := hp9; cases h1) (fun x9 M7 hp44 hle44 => ?_)
        obtain ⟨ac, hx9, hE7, hC7, hc2, hc3, hc4, hc5, hc6⟩ := hp44
        have hx9 := jR_inj hx9
        subst hx9
        have hA7 := hA5.ext hE7 hC7
        have hR7 := hR5.ext hE7
        have h9k7 : ji M7 (jn M) 9 = nI k := by rw [(hE7.2 (jn M) hR5.1.1).2.2.1]; exact h9k
        have hle5 := hf5.1
        have hlen : (eChain (evS A) k).1 ≤ 60 := by have h8 := eUp_len (evS A) (evS A).2.1 0 (nI k) (fun _ => 0); have h7 := ga9; show (eUp (evS A) (evS A).2.1 0 (nI k) (fun _ => 0)).1 ≤ 60; omega
        obtain ⟨q1, q2, q3, q4, q5, q6, q7, q9⟩ := id hA7
        obtain ⟨qx, qH, q8⟩ := id q7
        obtain ⟨qa1, qa2, qa3, qa4, qa5, qa6, qa7, qa8, qa9, qa10, qa11, qa12, qa13⟩ := id q3
        have qc30 := q5.1.2.2.2.2.2.2.2.2.2
        refine J_putr (j := 4) (r := some (ac)) dX7_evaluate_47 (fun _ h => List.mem_cons_of_mem _ (List.mem_append_left _ (List.mem_append_left _ (List.mem_append_left _ (List.mem_append_left _ (List.mem_append_left _ (List.mem_append_left _ (List.mem_append_left _ (List.mem_append_left _ (List.mem_append_right _ (h))))))))))) cs10 cty10 (by decide) rfl (List.mem_of_getElem? (i := 7) rfl) rfl rfl jfit_rA (show v < jn M7 from by have := q1.1; omega) q1.2.1 ?_
        have hcw := hA7.chn (w := evChn (evS A) k) hc3 (by omega) hc4 hc5 hlen hc6
        obtain ⟨M8, hM8⟩ : ∃ Kz9, Kz9 = jSr M7 (v) 4 (some (ac)) := ⟨_, rfl⟩
        have hAM8 : jAb M8 v (cChn (cFin A (-1)) (evChn (evS A) k)) := by rw [hM8]; exact hcw.1
        have hfM8 : jFv v M M8 := by rw [hM8]; exact (hf5.tr hE7.fv).tr hcw.2
        refine J_mem (M' := M8) hM8.symm ?_
        obtain ⟨s1, s2, s3, s4, s5, s6, s7, s9⟩ := id hAM8
        obtain ⟨sx, sH, s8⟩ := id s7
        obtain ⟨sa1, sa2, sa3, sa4, sa5, sa6, sa7, sa8, sa9, sa10, sa11, sa12, sa13⟩ := id s3
        have sc30 := s5.1.2.2.2.2.2.2.2.2.2
        have hR8 : jEr M8 (jn M) (v + 1) (cC A) (cL A) (evS A) := hR7.fv (by rw [hM8]; exact hcw.2) (by omega) sa10
        have h9k8 : ji M8 (jn M) 9 = nI k := by rw [hM8]; exact h9k7
        refine J_aload_n (v) dX7_evaluate_50 rfl rfl ?_
        refine J_aload_n (jn M) dX7_evaluate_51 rfl rfl ?_
        refine J_calli0 (jrunV (As := []) (ct_X1_failureReason l D dA hst M8 (jn M) (v + 1) (cC A) (cL A) (evS A) hR8 k h9k8 hkc) dX7_evaluate_52 yY_X1_failureReason gX7_evaluate_X1_failureReason rfl cs5 hR8.1.1 hR8.1.2.1 rfl ⟨by omega, by omega⟩ ⟨Nat.zero_le _, Nat.zero_le _⟩ rfl (Nat.le_of_ble_eq_true rfl)) (rfl) (rfl) ?_
        exact J_callv (jrunV (As := [.int (eWhy (evS A) k)]) (ct_X7_refuse l D dA hst M8 v (cChn (cFin A (-1)) (evChn (evS A) k)) hAM8 (eWhy (evS A) k)) dX7_evaluate_55 yY_X7_refuse gX7_evaluate_X7_refuse rfl cs10 (show v < jn M8 from by have := s1.1; omega) s1.2.1 rfl ⟨by omega, by omega⟩ ⟨by omega, by omega⟩ rfl (Nat.le_of_ble_eq_true rfl)) ⟨by omega, by omega⟩ (Or.inr ⟨(jOk.ref (show v < jn M8 from by have := s1.1; omega) (jOk.int (jOk.ref hR8.1.1 (jOk.null jOk.nil)))), jOk.nil⟩) (fun E9 M9 hp9 _ => by obtain ⟨h1, h2, h3⟩ := hp9; cases h1; exact JX_out rfl (by unfold sEval; rw [sSl_t ok1]; unfold sEvB; rw [if_pos hz1, hwk]; exact ⟨rfl, h2, hfM8.tr h3⟩)) (fun M9 hp9 _ => by cases hp9.1)
    · refine J_callq (jrunV (As := [.ref (v + 2)]) (ct_X1_workOut l D dA hst M4 o2 (jn M) (v + 1) (cC A) (cL A) (evS A) hR4 (v + 2) (cNw A).2.1 o5.1 (cAt (cNw A)) (fun x => (jVa_cAt o5 x).1)) dX7_evaluate_34 yY_X1_workOut gX7_evaluate_X1_workOut rfl cs5 hR4.1.1 hR4.1.2.1 rfl ⟨by omega, by omega⟩ ⟨by omega, by omega⟩ rfl (Nat.le_of_ble_eq_true rfl)) ⟨by omega, by omega⟩ (Or.inr ⟨(jOk.ref (show v < jn M4 from by have := o1.1; omega) (jOk.int (jOk.ref hR4.1.1 (jOk.float jOk.nil)))), jOk.nil⟩) (fun E9 M9 hp9 _ => by rw [hwk] at hp9; obtain ⟨_, h1, _⟩ := hp9; cases h1) (fun x9 M5 hp34 hle34 => ?_)
      rw [hwk] at hp34
      obtain ⟨rr, hx9, hE5, hC5, hV5⟩ := hp34
      have hx9 := jR_inj2 hx9
      subst hx9
      obtain ⟨w9, hw9, h169⟩ : ∃ w, vv = some w ∧ w.1 ≤ 16 := (eWk_ok _ _ _ _ _ hwk).resolve_left (fun h => by have := h.1; omega)
      subst hw9
      have hV6 := hV5
      cases x9 with
      | none => exact absurd hV6 id
      | some tr =>
        obtain ⟨hg5, hi5⟩ := id hV6
        have hA5 : jAb M5 v (cFin A (-1)) := hA4.ext hE5 hC5
        have hf5 : jFv v M M5 := (hE3.fv.tr hf4).tr hE5.fv
        obtain ⟨p1, p2, p3, p4, p5, p6, p7, p9⟩ := id hA5
        obtain ⟨px, pH, p8⟩ := id p7
        obtain ⟨pa1, pa2, pa3, pa4, pa5, pa6, pa7, pa8, pa9, pa10, pa11, pa12, pa13⟩ := id p3
        have pc30 := p5.1.2.2.2.2.2.2.2.2.2
        refine J_astore_n (x := tr) (lv' := [.ref (v), .int (x), .ref (jn M), .ref (tr)]) dX7_evaluate_37 rfl (by decide) rfl rfl ?_
        refine J_aload_n (tr) dX7_evaluate_38 rfl rfl ?_
        refine J_ifnonnull (r := some (tr)) dX7_evaluate_39 (tgt := 60) (by decide) (fun r39 c39 => ?_) (fun c39 => ?_)
        · clear c39
          refine J_aload_n (v) dX7_evaluate_60 rfl rfl ?_
          refine J_iload_n dX7_evaluate_61 rfl rfl ?_
          refine J_aload_n (tr) dX7_evaluate_62 rfl rfl ?_
          refine J_callv (jrunV (As := [.int (x), .ref (tr)]) (ct_X7_change l D dA hst M5 v ((cFin A (-1))) hA5 ((x)) ok1 (some tr) (some w9) hV6 (fun w hw => by cases hw; exact h169)) dX7_evaluate_63 yY_X7_change gX7_evaluate_X7_change rfl cs10 (show v < jn M5 from by have := p1.1; omega) p1.2.1 rfl ⟨by omega, by omega⟩ ⟨Nat.zero_le _, Nat.zero_le _⟩ rfl (Nat.le_of_ble_eq_true rfl)) ⟨Nat.zero_le _, Nat.zero_le _⟩ (Or.inr ⟨(jOk.ref (show v < jn M5 from by have := p1.1; omega) (jOk.int (jOk.ref (Nat.lt_of_lt_of_le hR4.1.1 hE5.1) (jOk.ref (Nat.lt_of_succ_lt hg5.1) jOk.nil)))), jOk.nil⟩) (fun E M9 hp _ => by cases hp.1) (fun K hp63 hle63 => ?_)
          obtain ⟨-, hAK, hfK⟩ := hp63
          obtain ⟨k1, k2, k3, k4, k5, k6, k7, k9⟩ := id hAK
          obtain ⟨kx, kH, k8⟩ := id k7
          obtain ⟨ka1, ka2, ka3, ka4, ka5, ka6, ka7, ka8, ka9, ka10, ka11, ka12, ka13⟩ := id k3
          have kc30 := k5.1.2.2.2.2.2.2.2.2.2
          refine J_aload_n (tr) dX7_evaluate_66 rfl rfl ?_
          refine J_calli0 (jrunV (As := []) (ct_X3_spanCount l D dA hst K tr w9.1 (hg5.rk (hfK.rk p1))) dX7_evaluate_67 yY_X3_spanCount gX7_evaluate_X3_spanCount rfl cs7 (Nat.lt_of_succ_lt (hg5.rk (hfK.rk p1)).1) (hg5.rk (hfK.rk p1)).2.1 rfl ⟨by omega, by omega⟩ ⟨Nat.zero_le _, Nat.zero_le _⟩ rfl (Nat.le_of_ble_eq_true rfl)) (rfl) (rfl) ?_
          exact J_iret (ty := .int) dX7_evaluate_70 rfl (rfl) (by unfold sEval; rw [sSl_t ok1]; unfold sEvB; rw [if_pos hz1, hwk]; exact ⟨rfl, hAK, hf5.tr hfK⟩)
        · cases c39
  · refine J_callvX (jrunS (As := [.int (x)]) (ct_X7_checkSlot l D dA hst M ((x))) dX7_evaluate_1 yY_X7_checkSlot gX7_evaluate_X7_checkSlot rfl ⟨by omega, by omega⟩ ⟨by omega, by omega⟩ rfl (Nat.le_of_ble_eq_true rfl)) (if_neg (by rw [ok1]; decide)) ⟨by omega, by omega⟩ (Or.inl rfl) ?_
    exact JX_out rfl (by unfold sEval; rw [sSl_f ok1]; exact ⟨rfl, hA, jFv.rf⟩)

