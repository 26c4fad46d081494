theorem jR_inj2 {x y : Option Nat} (h : (Sum.inl (some (va_rf x)) : jO) = oR y) : x = y := by
  cases y with
  | some t => exact jR_inj h
  | none =>
    have h3 : va_rf x = va_rf none := Option.some.inj (Sum.inl.inj h)
    cases x with
    | none => rfl
    | some z => cases h3
theorem jVa_lt {M : jM} {r : Option Nat} {v : Option rVl} (h : jVa M r v) : ∀ q, r = some q → q < jn M := by
  intro q hq
  subst hq
  obtain ⟨w, -, hg, -⟩ := h.some
  exact Nat.lt_of_succ_lt hg.1
theorem jStt.ext {M M1 : jM} {s c : Nat} (h : jStt M s c) (e : jExt M M1) : jStt M1 s c := by
  obtain ⟨h1, h2, h3, h4, h5, h6, h7, h8, h9, h10⟩ := h
  obtain ⟨a1, a2, a3, a4, a5, a6⟩ := e.2 s (by omega)
  obtain ⟨b1, b2, b3, b4, b5, b6⟩ := e.2 (s + 1) (by omega)
  obtain ⟨c1, c2, c3, c4, c5, c6⟩ := e.2 (s + 2) (by omega)
  exact ⟨Nat.lt_of_lt_of_le h1 e.1, a1.trans h2, by rw [a4]; exact h3, by rw [a4]; exact h4, b1.trans h5, b2.trans h6, c1.trans h7, c2.trans h8, by rw [a3]; exact h9, h10⟩
theorem stRange_ext {M M1 : jM} {s c : Nat} (h : jStt M s c) (e : jExt M M1) (x : Int32) : stRange M1 s x = stRange M s x := by
  unfold stRange
  rw [(e.2 (s + 1) (by have := h.1; omega)).2.2.2.1]
theorem jRg.sr {M : jM} {t n a j : Nat} {x : Option Nat} (h : jRg M t n) (hk : jk M a = 23) : jRg (jSr M a j x) t n := by
  obtain ⟨h1, h2, h3, h4, h5, h6⟩ := h
  exact ⟨h1, h2, by rw [jr_Sr, if_neg (fun hh => by rw [hh.1] at h2; omega)]; exact h3, h4, h5, h6⟩
theorem jVa.sr {M : jM} {r : Option Nat} {v : Option rVl} {a j : Nat} {x : Option Nat} (h : jVa M r v) (hk : jk M a = 23) : jVa (jSr M a j x) r v := by
  cases r with
  | none => cases v with
    | none => trivial
    | some w => exact h
  | some t => cases v with
    | none => exact h
    | some w => exact ⟨h.1.sr hk, h.2⟩
/-- the nodes one after the other: where it fails, or what comes last -/
def eWk (S : Int32 → Option rVl) (s : eSt) : Nat → Nat → (Nat → Option rVl) → Option rVl → Nat ⊕ Option rVl
  | 0, _, _, la => .inr la
  | fu + 1, k, vs, _ => match eRes S s vs s.2.1 k with
    | none => .inl k
    | some w => if 16 < w.1 then .inl k else eWk S s fu (k + 1) (fun i => if i = k then some w else vs i) (some w)
def eWork (S : Int32 → Option rVl) (s : eSt) : Nat ⊕ Option rVl := eWk S s s.2.1 0 (fun _ => none) none
theorem eWk_n {S : Int32 → Option rVl} {s : eSt} {k : Nat} {vs : Nat → Option rVl} {la : Option rVl} (h : k < s.2.1) (h1 : eRes S s vs s.2.1 k = none) : eWk S s (s.2.1 - k) k vs la = .inl k := by
  rw [show s.2.1 - k = (s.2.1 - (k + 1)) + 1 from by omega]
  unfold eWk
  rw [h1]
theorem eWk_l {S : Int32 → Option rVl} {s : eSt} {k : Nat} {vs : Nat → Option rVl} {la : Option rVl} {w : rVl} (h : k < s.2.1) (h1 : eRes S s vs s.2.1 k = some w) (h2 : 16 < w.1) : eWk S s (s.2.1 - k) k vs la = .inl k := by
  rw [show s.2.1 - k = (s.2.1 - (k + 1)) + 1 from by omega]
  unfold eWk
  rw [h1]
  simp only [if_pos h2]
theorem eWk_s {S : Int32 → Option rVl} {s : eSt} {k : Nat} {vs : Nat → Option rVl} {la : Option rVl} {w : rVl} (h : k < s.2.1) (h1 : eRes S s vs s.2.1 k = some w) (h2 : ¬ 16 < w.1) : eWk S s (s.2.1 - k) k vs la = eWk S s (s.2.1 - (k + 1)) (k + 1) (fun i => if i = k then some w else vs i) (some w) := by
  rw [show s.2.1 - k = (s.2.1 - (k + 1)) + 1 from by omega]
  conv => lhs; unfold eWk
  rw [h1]
  simp only [if_neg h2]
theorem eWk_e {S : Int32 → Option rVl} {s : eSt} {k : Nat} {vs : Nat → Option rVl} {la : Option rVl} (h : s.2.1 ≤ k) : eWk S s (s.2.1 - k) k vs la = .inr la := by
  rw [show s.2.1 - k = 0 from by omega]
  rfl
def eWo (M : jM) (t : Nat) (z : Nat ⊕ Option rVl) : jP := fun o M1 => match z with
  | .inl k => o = oR none ∧ ∃ M2, jExt M M2 ∧ jCl M2 ∧ M1 = jSi M2 t 9 (nI k)
  | .inr v => ∃ r, o = oR r ∧ jExt M M1 ∧ jCl M1 ∧ jVa M1 r v
theorem dX1_workOut_13 : decode cX1_workOut 13 = .ok (.iload 4, 2) := by decide +kernel
theorem dX1_workOut_15 : decode cX1_workOut 15 = .ok (.aload_n 0, 1) := by decide +kernel
theorem dX1_workOut_16 : decode cX1_workOut 16 = .ok (.getfield 9, 3) := by decide +kernel
theorem dX1_workOut_19 : decode cX1_workOut 19 = .ok (.if_icmp .ge 42, 3) := by decide +kernel
theorem dX1_workOut_61 : decode cX1_workOut 61 = .ok (.aload_n 3, 1) := by decide +kernel
theorem dX1_workOut_62 : decode cX1_workOut 62 = .ok (.areturn, 1) := by decide +kernel
theorem dX1_workOut_22 : decode cX1_workOut 22 = .ok (.aload_n 0, 1) := by decide +kernel
theorem dX1_workOut_23 : decode cX1_workOut 23 = .ok (.iload 4, 2) := by decide +kernel
theorem dX1_workOut_25 : decode cX1_workOut 25 = .ok (.aload_n 2, 1) := by decide +kernel
theorem dX1_workOut_26 : decode cX1_workOut 26 = .ok (.aload_n 1, 1) := by decide +kernel
theorem dX1_workOut_27 : decode cX1_workOut 27 = .ok (.invokevirtual 79, 3) := by decide +kernel
set_option maxRecDepth 20000 in
theorem ggX1_workOut_X1_resultOf : GoodIn wsX1_workOut wsX1_resultOf := goodIn_ca (goodIn_r _ [8, 9, 10, 11, 12, 13, 14, 15, 16, 17, 18, 19, 20, 7, 21, 22, 23, 24, 25, 26, 27, 28, 29, 30, 31, 32, 33, 34, 35, 36, 37, 38, 39, 40, 41, 42, 43, 44, 45, 46, 47, 48, 49, 50, 51, 52, 53, 54, 55, 56, 57, 58, 59, 60, 61, 62, 63, 64, 65, 66, 67, 68, 69, 70, 71, 72, 73, 74, 75, 76, 77, 78, 79, 80, 81, 82, 83, 84, 85, 86, 91, 92, 93, 94, 95, 96, 97, 98, 99, 100, 101, 102, 103, 104] (by decide +kernel) (by decide +kernel)) (goodIn_sub (fun _ h => List.mem_cons_of_mem _ (List.mem_append_right _ h)) (by decide +kernel))
set_option maxRecDepth 20000 in
theorem gX1_workOut_X1_resultOf : GoodIn wsX1_workOut (wsV RX1 79 RX1 yX1_resultOf wsX1_resultOf) := goodIn_app (goodIn_of _ (by decide +kernel)) ggX1_workOut_X1_resultOf
theorem yY_X1_resultOf : jY yX1_resultOf wsX1_resultOf cX1_resultOf 6 (some (.object "VersionAlgebra$Range")) 3 := ⟨⟨_, rfl⟩, by decide +kernel, by decide +kernel, by decide +kernel⟩
theorem dX1_workOut_30 : decode cX1_workOut 30 = .ok (.astore_n 3, 1) := by decide +kernel
theorem dX1_workOut_31 : decode cX1_workOut 31 = .ok (.aload_n 3, 1) := by decide +kernel
theorem dX1_workOut_32 : decode cX1_workOut 32 = .ok (.ifnull 10, 3) := by decide +kernel
theorem dX1_workOut_42 : decode cX1_workOut 42 = .ok (.aload_n 0, 1) := by decide +kernel
theorem dX1_workOut_43 : decode cX1_workOut 43 = .ok (.iload 4, 2) := by decide +kernel
theorem dX1_workOut_45 : decode cX1_workOut 45 = .ok (.putfield 15, 3) := by decide +kernel
theorem dX1_workOut_48 : decode cX1_workOut 48 = .ok (.aconst_null, 1) := by decide +kernel
theorem dX1_workOut_49 : decode cX1_workOut 49 = .ok (.areturn, 1) := by decide +kernel
theorem dX1_workOut_35 : decode cX1_workOut 35 = .ok (.aload_n 3, 1) := by decide +kernel
theorem dX1_workOut_36 : decode cX1_workOut 36 = .ok (.invokevirtual 83, 3) := by decide +kernel
set_option maxRecDepth 20000 in
theorem ggX1_workOut_X3_isTooLong : GoodIn wsX1_workOut wsX3_isTooLong := goodIn_r _ [90, 44, 45, 46, 24, 47, 35, 104] (by decide +kernel) (by decide +kernel)
set_option maxRecDepth 20000 in
theorem gX1_workOut_X3_isTooLong : GoodIn wsX1_workOut (wsV RX1 83 RX3 yX3_isTooLong wsX3_isTooLong) := goodIn_app (goodIn_of _ (by decide +kernel)) ggX1_workOut_X3_isTooLong
theorem yY_X3_isTooLong : jY yX3_isTooLong wsX3_isTooLong cX3_isTooLong 1 (some .boolean) 0 := ⟨⟨_, rfl⟩, by decide +kernel, by decide +kernel, by decide +kernel⟩
theorem dX1_workOut_39 : decode cX1_workOut 39 = .ok (.ifCond .eq 11, 3) := by decide +kernel
theorem dX1_workOut_50 : decode cX1_workOut 50 = .ok (.aload_n 2, 1) := by decide +kernel
theorem dX1_workOut_51 : decode cX1_workOut 51 = .ok (.iload 4, 2) := by decide +kernel
theorem dX1_workOut_53 : decode cX1_workOut 53 = .ok (.aload_n 3, 1) := by decide +kernel
theorem dX1_workOut_54 : decode cX1_workOut 54 = .ok (.aastore, 1) := by decide +kernel
theorem dX1_workOut_55 : decode cX1_workOut 55 = .ok (.iinc 4 1, 3) := by decide +kernel
theorem dX1_workOut_58 : decode cX1_workOut 58 = .ok (.goto (-45), 3) := by decide +kernel
theorem dX1_workOut_0 : decode cX1_workOut 0 = .ok (.aload_n 0, 1) := by decide +kernel
theorem dX1_workOut_1 : decode cX1_workOut 1 = .ok (.getfield 9, 3) := by decide +kernel
theorem dX1_workOut_4 : decode cX1_workOut 4 = .ok (.anewarray 77, 3) := by decide +kernel
theorem dX1_workOut_7 : decode cX1_workOut 7 = .ok (.astore_n 2, 1) := by decide +kernel
theorem dX1_workOut_8 : decode cX1_workOut 8 = .ok (.aconst_null, 1) := by decide +kernel
theorem dX1_workOut_9 : decode cX1_workOut 9 = .ok (.astore_n 3, 1) := by decide +kernel
theorem dX1_workOut_10 : decode cX1_workOut 10 = .ok (.iconst 0, 1) := by decide +kernel
theorem dX1_workOut_11 : decode cX1_workOut 11 = .ok (.istore 4, 2) := by decide +kernel
set_option maxHeartbeats 2000000 in
set_option maxRecDepth 20000 in
theorem ct_X1_workOut (l : Launch) (D : va_G) (dA : Nat → ClassId) (hst : l.stackTraces = false) (M : jM) (hcl : jCl M) (t sg : Nat) (c : Nat → Int32) (L : Nat) (s : eSt) (hR : jEr M t sg c L s) (s0 c0 : Nat) (hS0 : jStt M s0 c0) (S : Int32 → Option rVl) (hSv : ∀ x, jVa M (stRange M s0 x) (S x)) : jCT l D dA yX1_workOut wsX1_workOut (25) (600) (1 + 5 * s.2.1) (141 * s.2.1) 2 [.ref (t), .ref (s0)] M (eWo M t (eWork S s)) := by
  refine jBody (cc := cX1_workOut) (nL := 5) (rt := (some (.object "VersionAlgebra$Range"))) (ini := false) (by decide) rfl hst (Nat.le_of_ble_eq_true rfl) (by simp [Value.category]) (by intro h9; first | exact absurd h9 (by decide) | rfl) ?_
  show J l D dA RX1 cX1_workOut wsX1_workOut 5 false (some (.object "VersionAlgebra$Range")) [] (25) (600) (jF D dA (jn M) (eWo M t (eWork S s)) 2) (jn M) (1 + 5 * s.2.1) (141 * s.2.1) (M) 0 [.ref (t), .ref (s0), .float 0, .float 0, .float 0] []
  obtain ⟨⟨f1, f2, f3, f4, f5, f6, f7, f8, f9, f10, f11, f12⟩, g2, g3, g4, g5, g6⟩ := id hR
  obtain ⟨q1, q2, q3, q4, q5, q6⟩ := hR.rows
  obtain ⟨u1, u2, u3, u4, u5, u6, u7, u8, u9, u10⟩ := id hS0
  have L13 : ∀ (fuel : Nat) (k : Nat) (vs : Nat → Option rVl) (la : Option rVl) (rl : Option Nat) (M1 : jM) (hk : k ≤ s.2.1) (hE : jExt M M1) (hC : jCl M1) (han : jn M < jn M1) (hka : jk M1 (jn M) = 23) (hza : jz M1 (jn M) = s.2.1) (hv : ∀ i, i < s.2.1 → jVa M1 (jr M1 (jn M) i) (vs i)) (h16 : ∀ i, v16 (vs i)) (hla : jVa M1 rl la) (hI : eWk S s (s.2.1 - k) k vs la = eWork S s), s.2.1 - k < fuel → J l D dA RX1 cX1_workOut wsX1_workOut 5 false (some (.object "VersionAlgebra$Range")) [] (25) (600) (jF D dA (jn M) (eWo M t (eWork S s)) 2) (jn M) (5 * (s.2.1 - k)) (140 * (s.2.1 - k)) (M1) 13 [.ref (t), .ref (s0), .ref (jn M), va_rf (rl), .int (nI (k))] [] := by
    intro fuel
    induction fuel with
    | zero => intro k vs la rl M1 hk hE hC han hka hza hv h16 hla hI hm; exact absurd hm (Nat.not_lt_zero _)
    | succ fuel ih13 =>
      intro k vs la rl M1 hk hE hC han hka hza hv h16 hla hI hm13
      have hR1 := hR.ext hE
      have hS1 := hS0.ext hE
      have hSv1 : ∀ x, jVa M1 (stRange M1 s0 x) (S x) := fun x => by rw [stRange_ext hS0 hE]; exact (hSv x).ext hE
      refine J_iload dX1_workOut_13 rfl ?_
      refine J_aload_n (t) dX1_workOut_15 rfl rfl ?_
      refine J_geti (j := 8) dX1_workOut_16 (fun _ h => List.mem_cons_of_mem _ (List.mem_append_left _ (List.mem_append_left _ (List.mem_append_left _ (List.mem_append_right _ (h)))))) cs5 (by decide) rfl (List.mem_of_getElem? (i := 1) rfl) rfl hR1.1.1 hR1.1.2.1 ?_
      refine J_topi (y := nI (s.2.1)) (hR1.rows.1) ?_
      refine J_icmp_ge dX1_workOut_19 (tgt := 61) (by decide) (fun c19 => ?_) (fun c19 => ?_)
      · have c19 := jleT (a := s.2.1) (b := k) (by omega) (by omega) c19
        refine J_aload_nq (rl) dX1_workOut_61 rfl rfl ?_
        exact J_aret (r := rl) dX1_workOut_62 rfl (Or.inl ⟨_, rfl⟩) (by rw [← hI, eWk_e (by omega)]; exact ⟨rl, rfl, hE, hC, hla⟩)
      · have c19 := jleF (a := s.2.1) (b := k) (by omega) (by omega) c19
        refine J_aload_n (t) dX1_workOut_22 rfl rfl ?_
        refine J_iload dX1_workOut_23 rfl ?_
        refine J_aload_n (jn M) dX1_workOut_25 rfl rfl ?_
        refine J_aload_n (s0) dX1_workOut_26 rfl rfl ?_
        refine J_callq (jrunV (As := [.int (nI (k)), .ref (jn M), .ref (s0)]) (ct_X1_resultOf l D dA hst M1 hC t sg c L s hR1 k (by omega) (jn M) s.2.1 han hka hza (by omega) s0 c0 hS1 S vs hSv1 hv h16) dX1_workOut_27 yY_X1_resultOf gX1_workOut_X1_resultOf rfl cs5 hR1.1.1 hR1.1.2.1 rfl ⟨by omega, by omega⟩ ⟨by omega, by omega⟩ rfl (Nat.le_of_ble_eq_true rfl)) ⟨by omega, by omega⟩ (Or.inr ⟨(jOk.ref hR1.1.1 (jOk.ref (show s0 < jn M1 from by have := hS1.1; omega) (jOk.ref han (jOk.rf (by exact jVa_lt hla) (jOk.int jOk.nil))))), jOk.nil⟩) (fun E M9 hp _ => by obtain ⟨_, h1, _⟩ := hp; cases h1) (fun x9 M2 hp27 hle27 => ?_)
        obtain ⟨rr, h27, hE2, hC2, hV2⟩ := hp27
        have hx9 := jR_inj2 h27
        subst hx9
        have hR2 := hR1.ext hE2
        have hka2 : jk M2 (jn M) = 23 := (hE2.2 (jn M) han).1.trans hka
        have hza2 : jz M2 (jn M) = s.2.1 := (hE2.2 (jn M) han).2.1.trans hza
        refine J_astore_nq (r := x9) (lv' := [.ref (t), .ref (s0), .ref (jn M), va_rf (x9), .int (nI (k))]) dX1_workOut_30 rfl (by decide) rfl rfl ?_
        refine J_aload_nq (x9) dX1_workOut_31 rfl rfl ?_
        refine J_ifnull dX1_workOut_32 (tgt := 42) (by decide) (fun c32 => ?_) (fun r32 c32 => ?_)
        · subst c32
          have hn9 := hV2.none
          refine J_aload_n (t) dX1_workOut_42 rfl rfl ?_
          refine J_iload dX1_workOut_43 rfl ?_
          refine J_puti (j := 9) (x := nI (k)) dX1_workOut_45 (fun _ h => List.mem_cons_of_mem _ (List.mem_append_left _ (List.mem_append_left _ (List.mem_append_left _ (List.mem_append_right _ (h)))))) cs5 cty5 (by decide) rfl (List.mem_of_getElem? (i := 3) rfl) rfl rfl ⟨rfl, rfl⟩ hR2.1.1 hR2.1.2.1 ?_
          refine J_null dX1_workOut_48 ?_
          exact J_aret (r := none) dX1_workOut_49 rfl (Or.inl ⟨_, rfl⟩) (by first | (rw [← hI, eWk_n (by omega) hn9]; exact ⟨rfl, M2, hE.tr hE2, hC2, rfl⟩) | (rw [← hI, eWk_l (by omega) hw9 (by simpa using c39)]; exact ⟨rfl, M2, hE.tr hE2, hC2, rfl⟩) | fail "w")
        · subst c32
          obtain ⟨w9, hw9, hg9, hi9⟩ := hV2.some
          refine J_aload_n (r32) dX1_workOut_35 rfl rfl ?_
          refine J_calli0 (jrunV (As := []) (ct_X3_isTooLong l D dA hst M2 r32 w9.1 hg9) dX1_workOut_36 yY_X3_isTooLong gX1_workOut_X3_isTooLong rfl cs7 (Nat.lt_of_succ_lt hg9.1) hg9.2.1 rfl ⟨by omega, by omega⟩ ⟨Nat.zero_le _, Nat.zero_le _⟩ rfl (Nat.le_of_ble_eq_true rfl)) (rfl) (rfl) ?_
          refine J_if_eq dX1_workOut_39 (tgt := 50) (by decide) (fun c39 => ?_) (fun c39 => ?_)
          · have c39 := jb0T c39
            have c39n : ¬ 16 < w9.1 := of_decide_eq_false c39
            refine J_aload_n (jn M) dX1_workOut_50 rfl rfl ?_
            refine J_iload dX1_workOut_51 rfl ?_
            refine J_aload_n (r32) dX1_workOut_53 rfl rfl ?_
            refine J_aast3N (k := k) (r := some (r32)) dX1_workOut_54 (Nat.lt_of_lt_of_le han hE2.1) hka2 (by exact Nat.lt_of_lt_of_eq (show _ < s.2.1 by omega) (Eq.symm hza2)) (by exact Nat.lt_of_le_of_lt (Nat.le_of_eq hza2) (show s.2.1 < 2 ^ 31 by omega)) (by exact fun q9 h9 => by cases h9; exact ⟨Nat.lt_of_succ_lt hg9.1, hg9.2.1⟩) ?_
            refine J_iinc (y := nI (k + 1)) (lv' := [.ref (t), .ref (s0), .ref (jn M), .ref (r32), .int (nI (k + 1))]) dX1_workOut_55 rfl (jinc (k)) (by decide) rfl rfl ?_
            refine J_goto (tgt := 13) dX1_workOut_58 (by decide) ?_
            refine J_less (bc' := 5 * (s.2.1 - (k + 1))) (bs' := 140 * (s.2.1 - (k + 1))) (by omega) (by omega) ?_
            exact ih13 (k + 1) ((fun i => if i = k then some w9 else vs i)) (some w9) (some r32) (jSr M2 (jn M) k (some (r32))) (by omega) (by exact (hE.tr hE2).sr (Nat.le_refl _)) (by exact jCl_Sr hC2 (fun q9 h9 => by cases h9; exact Nat.lt_of_succ_lt hg9.1)) (by exact Nat.lt_of_lt_of_le han hE2.1) (by exact hka2) (by exact hza2) (by intro i hi; rw [jr_Sr]; by_cases hik : i = k; (rw [if_pos ⟨rfl, hik⟩, if_pos hik]; exact jVa.sr (r := some r32) (v := some w9) ⟨hg9, hi9⟩ hka2); (rw [if_neg (fun h => hik h.2), if_neg hik, (hE2.2 (jn M) han).2.2.2.1]; exact ((hv i hi).ext hE2).sr hka2)) (by intro i w hw; by_cases hik : i = k; (rw [if_pos hik] at hw; cases hw; omega); (rw [if_neg hik] at hw; exact h16 i w hw)) (by exact jVa.sr (r := some r32) (v := some w9) ⟨hg9, hi9⟩ hka2) (by rw [← hI]; exact (eWk_s (by omega) hw9 (by omega)).symm) (by omega)
          · have c39 := jb0F c39
            refine J_aload_n (t) dX1_workOut_42 rfl rfl ?_
            refine J_iload dX1_workOut_43 rfl ?_
            refine J_puti (j := 9) (x := nI (k)) dX1_workOut_45 (fun _ h => List.mem_cons_of_mem _ (List.mem_append_left _ (List.mem_append_left _ (List.mem_append_left _ (List.mem_append_right _ (h)))))) cs5 cty5 (by decide) rfl (List.mem_of_getElem? (i := 3) rfl) rfl rfl ⟨rfl, rfl⟩ hR2.1.1 hR2.1.2.1 ?_
            refine J_null dX1_workOut_48 ?_
            exact J_aret (r := none) dX1_workOut_49 rfl (Or.inl ⟨_, rfl⟩) (by first | (rw [← hI, eWk_n (by omega) hn9]; exact ⟨rfl, M2, hE.tr hE2, hC2, rfl⟩) | (rw [← hI, eWk_l (by omega) hw9 (by simpa using c39)]; exact ⟨rfl, M2, hE.tr hE2, hC2, rfl⟩) | fail "w")
  refine J_aload_n (t) dX1_workOut_0 rfl rfl ?_
  refine J_geti (j := 8) dX1_workOut_1 (fun _ h => List.mem_cons_of_mem _ (List.mem_append_left _ (List.mem_append_left _ (List.mem_append_left _ (List.mem_append_right _ (h)))))) cs5 (by decide) rfl (List.mem_of_getElem? (i := 1) rfl) rfl f1 f2 ?_
  refine J_topi (y := nI (s.2.1)) (q1) ?_
  refine J_newq3 (N' := s.2.1) (n := nI (s.2.1)) dX1_workOut_4 (List.mem_of_getElem? (i := 2) rfl) (nI_pos (n := s.2.1) (by omega)) (nI_clamp (n := s.2.1) (by omega)) (by omega) (by omega) (by omega) (hcl) (jOk.ref f1 (jOk.ref (show s0 < jn M from by omega) (jOk.float (jOk.float (jOk.float jOk.nil))))) jOk.nil ?_
  refine J_astore_n (x := jn M) (lv' := [.ref (t), .ref (s0), .ref (jn M), .float 0, .float 0]) dX1_workOut_7 rfl (by decide) rfl rfl ?_
  refine J_null dX1_workOut_8 ?_
  refine J_astore_nq (r := none) (lv' := [.ref (t), .ref (s0), .ref (jn M), .null, .float 0]) dX1_workOut_9 rfl (by decide) rfl rfl ?_
  refine J_iconst (x := 0) dX1_workOut_10 (by decide) ?_
  refine J_istore (lv' := [.ref (t), .ref (s0), .ref (jn M), .null, .int (0)]) dX1_workOut_11 (by decide) rfl rfl ?_
  refine J_less (bc' := 5 * (s.2.1 - (0))) (bs' := 140 * (s.2.1 - (0))) (by omega) (by omega) ?_
  exact L13 _ (0) (fun _ => none) (none) (none) (jNw M 23 (s.2.1)) (by omega) (by exact jExt.nw) (by exact jCl_Nw hcl) (by exact Nat.lt_succ_self _) (by simp [jk_Nw]) (by simp [jz_Nw]) (by intro i _; rw [jr_Nw, if_pos rfl]; trivial) (by intro i w hw; cases hw) (by trivial) (by rfl) (Nat.lt_succ_self _)

