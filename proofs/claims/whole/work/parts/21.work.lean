theorem jok_q {lv : List Value} {i : Nat} {r : Option Nat} (h : lv[i]? = some (va_rf r)) : jok lv (i + 1) = true := by
  show (match lv[i]? with | some v => v.category == 1 | none => true) = true
  rw [h]
  simp [jcat_rf]
/-- a range as a value: how many spans, their ends -/
abbrev rVl : Type := Nat × (Nat → Int32)
def jVa (M : jM) (r : Option Nat) (v : Option rVl) : Prop := match r, v with
  | none, none => True
  | some t, some w => jRg M t w.1 ∧ ∀ j, j < 2 * w.1 → ji M (t + 1) j = w.2 j
  | _, _ => False
def v16 (v : Option rVl) : Prop := ∀ w, v = some w → w.1 ≤ 16
theorem jVa.ext {M M1 : jM} {r : Option Nat} {v : Option rVl} (h : jVa M r v) (e : jExt M M1) : jVa M1 r v := by
  cases r with
  | none => cases v with
    | none => trivial
    | some w => exact h
  | some t => cases v with
    | none => exact h
    | some w => exact ⟨h.1.ext e, fun j hj => by rw [h.1.ints e]; exact h.2 j hj⟩
theorem jVa.none {M : jM} {v : Option rVl} (h : jVa M none v) : v = none := by cases v with
  | none => rfl
  | some w => exact absurd h id
theorem jVa.some {M : jM} {t : Nat} {v : Option rVl} (h : jVa M (some t) v) : ∃ w, v = some w ∧ jRg M t w.1 ∧ ∀ j, j < 2 * w.1 → ji M (t + 1) j = w.2 j := by cases v with
  | none => exact absurd h id
  | some w => exact ⟨w, rfl, h.1, h.2⟩
def vComb (op : Int32) (a b : rVl) : rVl := ((rComb op a.2 a.1 b.2 b.1).1 / 2, (rComb op a.2 a.1 b.2 b.1).2)
def rWhole9 : rVl := (1, fun j => if j = 0 then 0 else 99999999)
theorem jVa_comb {M M1 : jM} {op : Int32} {t1 t2 t : Nat} {a b : rVl} (h1 : ∀ j, j < 2 * a.1 → ji M (t1 + 1) j = a.2 j) (h2 : ∀ j, j < 2 * b.1 → ji M (t2 + 1) j = b.2 j)
    (h : jRo M M1 t ((rComb op (ji M (t1 + 1)) a.1 (ji M (t2 + 1)) b.1).1 / 2) (rComb op (ji M (t1 + 1)) a.1 (ji M (t2 + 1)) b.1).2) : jVa M1 (some t) (some (vComb op a b)) := by
  rw [rComb_congr h1 h2] at h
  exact ⟨h.2.2.1, h.2.2.2.2⟩
/-- what lies at a place of an array of references, nothing beyond its ends -/
def eAtR (f : Nat → Option Nat) (z : Nat) (x : Int32) : Option Nat := if x < 0 then none else if x < nI z then f x.toNatClampNeg else none
def vAt (f : Nat → Option rVl) (z : Nat) (x : Int32) : Option rVl := if x < 0 then none else if x < nI z then f x.toNatClampNeg else none
theorem jVa_at {M : jM} {f : Nat → Option Nat} {g : Nat → Option rVl} {z : Nat} (hz : z < 2 ^ 31) (h : ∀ k, k < z → jVa M (f k) (g k)) (x : Int32) : jVa M (eAtR f z x) (vAt g z x) := by
  unfold eAtR vAt
  split
  · trivial
  · split
    · rename_i h1 h2
      obtain ⟨k, hk, rfl⟩ := nI_of h1
      have := (nI_ltI hk hz).mp h2
      rw [nI_clamp hk]
      exact h k this
    · trivial
theorem v16_at {g : Nat → Option rVl} {z : Nat} (h : ∀ k, v16 (g k)) (x : Int32) : v16 (vAt g z x) := by
  unfold vAt
  split
  · intro w hw; cases hw
  · split
    · exact h _
    · intro w hw; cases hw
/-- the result of a node: S what the slots hold, vs the results so far -/
def eRes (S : Int32 → Option rVl) (s : eSt) (vs : Nat → Option rVl) (z k : Nat) : Option rVl :=
  if s.2.2.1 k = 4 then S (s.2.2.2.2.1 k)
  else match vAt vs z (s.2.2.2.2.1 k) with
    | none => none
    | some a => if s.2.2.1 k = 3 then some (vComb 2 rWhole9 a) else match vAt vs z (s.2.2.2.2.2.1 k) with
      | none => none
      | some b => some (vComb (s.2.2.1 k) a b)
theorem jEr.rows {M : jM} {t sg : Nat} {c : Nat → Int32} {L : Nat} {s : eSt} (h : jEr M t sg c L s) : ji M t 8 = nI s.2.1 ∧ ji M (t + 1) = s.2.2.1 ∧ ji M (t + 2) = s.2.2.2.1 ∧ ji M (t + 3) = s.2.2.2.2.1 ∧ ji M (t + 4) = s.2.2.2.2.2.1 ∧ ji M (t + 5) = s.2.2.2.2.2.2 := by
  have e := h.2.2.2.2.2
  have h8 := jES_at8 M t s
  obtain ⟨a1, a2, a3, a4, a5⟩ := jES_at M t s
  rw [e] at h8 a1 a2 a3 a4 a5
  exact ⟨h8, a1, a2, a3, a4, a5⟩
theorem jEr.ext {M M1 : jM} {t sg : Nat} {c : Nat → Int32} {L : Nat} {s : eSt} (h : jEr M t sg c L s) (e : jExt M M1) : jEr M1 t sg c L s := by
  have hr := h.rows
  obtain ⟨⟨h1, h2, h3, h4, h5, h6, h7, h8, h9, h10, h11, h12⟩, g2, g3, g4, g5, g6⟩ := h
  have a := e.2 t h1
  have b := e.2 sg h4
  have r1 := e.2 (t + 1) (by omega)
  have r2 := e.2 (t + 2) (by omega)
  have r3 := e.2 (t + 3) (by omega)
  have r4 := e.2 (t + 4) (by omega)
  have r5 := e.2 (t + 5) (by omega)
  refine ⟨⟨Nat.lt_of_lt_of_le h1 e.1, a.1.trans h2, by rw [a.2.2.2.1]; exact h3, Nat.lt_of_lt_of_le h4 e.1, b.1.trans h5, b.2.1.trans h6, b.2.2.1.trans h7, by rw [a.2.2.1]; exact h8, h9, by rw [a.2.2.1]; exact h10, h11, h12⟩, Nat.lt_of_lt_of_le g2 e.1, fun i hi => ?_, g4, g5, ?_⟩
  · obtain ⟨x1, x2, x3⟩ := g3 i hi
    have y := e.2 (t + 1 + i) (by omega)
    exact ⟨by rw [a.2.2.2.1]; exact x1, y.1.trans x2, y.2.1.trans x3⟩
  · refine jM_eq rfl rfl rfl ?_ rfl rfl rfl
    funext q j
    show jEg (ji M1) t s q j = ji M1 q j
    unfold jEg
    by_cases h : q = t
    · subst h
      rw [if_pos rfl]
      by_cases hj2 : j = 2
      · subst hj2; rw [if_pos rfl, a.2.2.1]; exact h10.symm
      · rw [if_neg hj2]
        by_cases hj8 : j = 8
        · subst hj8; rw [if_pos rfl, a.2.2.1]; exact hr.1.symm
        · rw [if_neg hj8]
    · rw [if_neg h]
      by_cases q1 : q = t + 1
      · subst q1; rw [if_pos rfl, r1.2.2.1, hr.2.1]
      · rw [if_neg q1]
        by_cases q2 : q = t + 2
        · subst q2; rw [if_pos rfl, r2.2.2.1, hr.2.2.1]
        · rw [if_neg q2]
          by_cases q3 : q = t + 3
          · subst q3; rw [if_pos rfl, r3.2.2.1, hr.2.2.2.1]
          · rw [if_neg q3]
            by_cases q4 : q = t + 4
            · subst q4; rw [if_pos rfl, r4.2.2.1, hr.2.2.2.2.1]
            · rw [if_neg q4]
              by_cases q5 : q = t + 5
              · subst q5; rw [if_pos rfl, r5.2.2.1, hr.2.2.2.2.2]
              · rw [if_neg q5]
theorem dX1_resultAt_0 : decode cX1_resultAt 0 = .ok (.iload_n 0, 1) := by decide +kernel
theorem dX1_resultAt_1 : decode cX1_resultAt 1 = .ok (.ifCond .lt 15, 3) := by decide +kernel
theorem dX1_resultAt_16 : decode cX1_resultAt 16 = .ok (.aconst_null, 1) := by decide +kernel
theorem dX1_resultAt_17 : decode cX1_resultAt 17 = .ok (.areturn, 1) := by decide +kernel
theorem dX1_resultAt_4 : decode cX1_resultAt 4 = .ok (.iload_n 0, 1) := by decide +kernel
theorem dX1_resultAt_5 : decode cX1_resultAt 5 = .ok (.aload_n 1, 1) := by decide +kernel
theorem dX1_resultAt_6 : decode cX1_resultAt 6 = .ok (.arraylength, 1) := by decide +kernel
theorem dX1_resultAt_7 : decode cX1_resultAt 7 = .ok (.if_icmp .ge 9, 3) := by decide +kernel
theorem dX1_resultAt_10 : decode cX1_resultAt 10 = .ok (.aload_n 1, 1) := by decide +kernel
theorem dX1_resultAt_11 : decode cX1_resultAt 11 = .ok (.iload_n 0, 1) := by decide +kernel
theorem dX1_resultAt_12 : decode cX1_resultAt 12 = .ok (.aaload, 1) := by decide +kernel
theorem dX1_resultAt_13 : decode cX1_resultAt 13 = .ok (.goto 4, 3) := by decide +kernel
set_option maxHeartbeats 2000000 in
set_option maxRecDepth 20000 in
theorem ct_X1_resultAt (l : Launch) (D : va_G) (dA : Nat → ClassId) (hst : l.stackTraces = false) (M : jM) (x : Int32) (a z : Nat) (ha : a < jn M) (hk : jk M a = 23) (hz : jz M a = z) (hb : z < 2 ^ 31) : jCT l D dA yX1_resultAt wsX1_resultAt (20) (300) (0) (0) 2 [.int (x), .ref (a)] M (jPo (oR (eAtR (jr M a) z x)) (M)) := by
  refine jBody (cc := cX1_resultAt) (nL := 2) (rt := (some (.object "VersionAlgebra$Range"))) (ini := false) (by decide) rfl hst (Nat.le_of_ble_eq_true rfl) (by simp [Value.category]) (by intro h9; first | exact absurd h9 (by decide) | rfl) ?_
  show J l D dA RX1 cX1_resultAt wsX1_resultAt 2 false (some (.object "VersionAlgebra$Range")) [] (20) (300) (jF D dA (jn M) (jPo (oR (eAtR (jr M a) z x)) (M)) 2) (jn M) (0) (0) (M) 0 [.int (x), .ref (a)] []
  refine J_iload_n dX1_resultAt_0 rfl rfl ?_
  refine J_if_lt dX1_resultAt_1 (tgt := 16) (by decide) (fun c1 => ?_) (fun c1 => ?_)
  · refine J_null dX1_resultAt_16 ?_
    exact J_aret (r := none) dX1_resultAt_17 rfl (Or.inl ⟨_, rfl⟩) ⟨(by first | (unfold eAtR; rw [if_pos c1]; done) | (unfold eAtR; rw [if_pos c1]; rfl) | (unfold eAtR; rw [if_neg (nI_pos (by omega)), if_neg (nI_nlt (by omega) (by omega))]; done) | (unfold eAtR; rw [if_neg (nI_pos (by omega)), if_neg (nI_nlt (by omega) (by omega))]; rfl) | (unfold eAtR; rw [if_neg (nI_pos (by omega)), if_pos (nI_lt (by omega) (by omega)), nI_clamp (by omega)]; done) | fail "r"), (by rfl)⟩
  · obtain ⟨k, hk31, rfl⟩ := nI_of c1
    refine J_iload_n dX1_resultAt_4 rfl rfl ?_
    refine J_aload_n (a) dX1_resultAt_5 rfl rfl ?_
    refine J_alen (t := 3) dX1_resultAt_6 ha hk rfl ?_
    refine J_topi (y := nI (z)) (congrArg nI hz) ?_
    refine J_icmp_ge dX1_resultAt_7 (tgt := 16) (by decide) (fun c7 => ?_) (fun c7 => ?_)
    · have c7 := jleT (a := z) (b := k) (by omega) (by omega) c7
      refine J_null dX1_resultAt_16 ?_
      exact J_aret (r := none) dX1_resultAt_17 rfl (Or.inl ⟨_, rfl⟩) ⟨(by first | (unfold eAtR; rw [if_pos c1]; done) | (unfold eAtR; rw [if_pos c1]; rfl) | (unfold eAtR; rw [if_neg (nI_pos (by omega)), if_neg (nI_nlt (by omega) (by omega))]; done) | (unfold eAtR; rw [if_neg (nI_pos (by omega)), if_neg (nI_nlt (by omega) (by omega))]; rfl) | (unfold eAtR; rw [if_neg (nI_pos (by omega)), if_pos (nI_lt (by omega) (by omega)), nI_clamp (by omega)]; done) | fail "r"), (by rfl)⟩
    · have c7 := jleF (a := z) (b := k) (by omega) (by omega) c7
      refine J_aload_n (a) dX1_resultAt_10 rfl rfl ?_
      refine J_iload_n dX1_resultAt_11 rfl rfl ?_
      refine J_aald3N (k := k) dX1_resultAt_12 ha hk (by exact Nat.lt_of_lt_of_eq (show _ < z by omega) (Eq.symm hz)) (by exact Nat.lt_of_le_of_lt (Nat.le_of_eq hz) (show z < 2 ^ 31 by omega)) ?_
      refine J_goto (tgt := 17) dX1_resultAt_13 (by decide) ?_
      exact J_aret (r := jr M a k) dX1_resultAt_17 rfl (Or.inl ⟨_, rfl⟩) ⟨(by first | (unfold eAtR; rw [if_pos c1]; done) | (unfold eAtR; rw [if_pos c1]; rfl) | (unfold eAtR; rw [if_neg (nI_pos (by omega)), if_neg (nI_nlt (by omega) (by omega))]; done) | (unfold eAtR; rw [if_neg (nI_pos (by omega)), if_neg (nI_nlt (by omega) (by omega))]; rfl) | (unfold eAtR; rw [if_neg (nI_pos (by omega)), if_pos (nI_lt (by omega) (by omega)), nI_clamp (by omega)]; done) | fail "r"), (by rfl)⟩

theorem dX1_resultOf_0 : decode cX1_resultOf 0 = .ok (.aload_n 0, 1) := by decide +kernel
theorem dX1_resultOf_1 : decode cX1_resultOf 1 = .ok (.getfield 22, 3) := by decide +kernel
theorem dX1_resultOf_4 : decode cX1_resultOf 4 = .ok (.iload_n 1, 1) := by decide +kernel
theorem dX1_resultOf_5 : decode cX1_resultOf 5 = .ok (.iaload, 1) := by decide +kernel
theorem dX1_resultOf_6 : decode cX1_resultOf 6 = .ok (.iconst 4, 1) := by decide +kernel
theorem dX1_resultOf_7 : decode cX1_resultOf 7 = .ok (.if_icmp .ne 14, 3) := by decide +kernel
theorem dX1_resultOf_21 : decode cX1_resultOf 21 = .ok (.aload_n 0, 1) := by decide +kernel
theorem dX1_resultOf_22 : decode cX1_resultOf 22 = .ok (.getfield 29, 3) := by decide +kernel
theorem dX1_resultOf_25 : decode cX1_resultOf 25 = .ok (.iload_n 1, 1) := by decide +kernel
theorem dX1_resultOf_26 : decode cX1_resultOf 26 = .ok (.iaload, 1) := by decide +kernel
theorem dX1_resultOf_27 : decode cX1_resultOf 27 = .ok (.aload_n 2, 1) := by decide +kernel
theorem dX1_resultOf_28 : decode cX1_resultOf 28 = .ok (.invokestatic 92, 3) := by decide +kernel
set_option maxRecDepth 20000 in
theorem ggX1_resultOf_X1_resultAt : GoodIn wsX1_resultOf wsX1_resultAt := goodIn_r _ [14] (by decide +kernel) (by decide +kernel)
set_option maxRecDepth 20000 in
theorem gX1_resultOf_X1_resultAt : GoodIn wsX1_resultOf (va_wsS RX1 92 yX1_resultAt wsX1_resultAt) := goodIn_app (goodIn_of _ (by decide +kernel)) ggX1_resultOf_X1_resultAt
theorem yY_X1_resultAt : jY yX1_resultAt wsX1_resultAt cX1_resultAt 2 (some (.object "VersionAlgebra$Range")) 2 := ⟨⟨_, rfl⟩, by decide +kernel, by decide +kernel, by decide +kernel⟩
theorem dX1_resultOf_31 : decode cX1_resultOf 31 = .ok (.astore 4, 2) := by decide +kernel
theorem dX1_resultOf_33 : decode cX1_resultOf 33 = .ok (.aload_n 0, 1) := by decide +kernel
theorem dX1_resultOf_34 : decode cX1_resultOf 34 = .ok (.getfield 22, 3) := by decide +kernel
theorem dX1_resultOf_37 : decode cX1_resultOf 37 = .ok (.iload_n 1, 1) := by decide +kernel
theorem dX1_resultOf_38 : decode cX1_resultOf 38 = .ok (.iaload, 1) := by decide +kernel
theorem dX1_resultOf_39 : decode cX1_resultOf 39 = .ok (.iconst 3, 1) := by decide +kernel
theorem dX1_resultOf_40 : decode cX1_resultOf 40 = .ok (.if_icmp .ne 25, 3) := by decide +kernel
theorem dX1_resultOf_65 : decode cX1_resultOf 65 = .ok (.aload_n 0, 1) := by decide +kernel
theorem dX1_resultOf_66 : decode cX1_resultOf 66 = .ok (.getfield 32, 3) := by decide +kernel
theorem dX1_resultOf_69 : decode cX1_resultOf 69 = .ok (.iload_n 1, 1) := by decide +kernel
theorem dX1_resultOf_70 : decode cX1_resultOf 70 = .ok (.iaload, 1) := by decide +kernel
theorem dX1_resultOf_71 : decode cX1_resultOf 71 = .ok (.aload_n 2, 1) := by decide +kernel
theorem dX1_resultOf_72 : decode cX1_resultOf 72 = .ok (.invokestatic 92, 3) := by decide +kernel
theorem dX1_resultOf_75 : decode cX1_resultOf 75 = .ok (.astore 5, 2) := by decide +kernel
theorem dX1_resultOf_77 : decode cX1_resultOf 77 = .ok (.aload 4, 2) := by decide +kernel
theorem dX1_resultOf_79 : decode cX1_resultOf 79 = .ok (.ifnull 8, 3) := by decide +kernel
theorem dX1_resultOf_87 : decode cX1_resultOf 87 = .ok (.aconst_null, 1) := by decide +kernel
theorem dX1_resultOf_88 : decode cX1_resultOf 88 = .ok (.goto 16, 3) := by decide +kernel
theorem dX1_resultOf_104 : decode cX1_resultOf 104 = .ok (.areturn, 1) := by decide +kernel
theorem dX1_resultOf_82 : decode cX1_resultOf 82 = .ok (.aload 5, 2) := by decide +kernel
theorem dX1_resultOf_84 : decode cX1_resultOf 84 = .ok (.ifnonnull 7, 3) := by decide +kernel
theorem dX1_resultOf_91 : decode cX1_resultOf 91 = .ok (.aload_n 0, 1) := by decide +kernel
theorem dX1_resultOf_92 : decode cX1_resultOf 92 = .ok (.getfield 22, 3) := by decide +kernel
theorem dX1_resultOf_95 : decode cX1_resultOf 95 = .ok (.iload_n 1, 1) := by decide +kernel
theorem dX1_resultOf_96 : decode cX1_resultOf 96 = .ok (.iaload, 1) := by decide +kernel
theorem dX1_resultOf_97 : decode cX1_resultOf 97 = .ok (.aload 4, 2) := by decide +kernel
theorem dX1_resultOf_99 : decode cX1_resultOf 99 = .ok (.aload 5, 2) := by decide +kernel
theorem dX1_resultOf_101 : decode cX1_resultOf 101 = .ok (.invokestatic 101, 3) := by decide +kernel
set_option maxRecDepth 20000 in
theorem ggX1_resultOf_X3_combined : GoodIn wsX1_resultOf wsX3_combined := goodIn_ca (goodIn_r _ [31, 21, 32, 33, 34, 35, 36, 19, 20, 17, 37, 38, 39, 40, 28, 41, 42, 43, 44, 45, 46, 47, 48, 49, 50, 51, 52, 53, 54, 55, 56, 57, 58, 59, 60, 61, 62, 63, 64, 65, 66, 67, 68, 69, 70, 71, 72, 73, 74, 75, 76, 77, 78, 79, 22, 23, 24, 25, 26, 27, 93] (by decide +kernel) (by decide +kernel)) (goodIn_sub (fun _ h => List.mem_cons_of_mem _ (List.mem_append_right _ h)) (by decide +kernel))
set_option maxRecDepth 20000 in
theorem gX1_resultOf_X3_combined : GoodIn wsX1_resultOf (va_wsS RX1 101 yX3_combined wsX3_combined) := goodIn_app (goodIn_of _ (by decide +kernel)) ggX1_resultOf_X3_combined
theorem dX1_resultOf_43 : decode cX1_resultOf 43 = .ok (.aload 4, 2) := by decide +kernel
theorem dX1_resultOf_45 : decode cX1_resultOf 45 = .ok (.ifnonnull 7, 3) := by decide +kernel
theorem dX1_resultOf_52 : decode cX1_resultOf 52 = .ok (.iconst 2, 1) := by decide +kernel
theorem dX1_resultOf_53 : decode cX1_resultOf 53 = .ok (.iconst 0, 1) := by decide +kernel
theorem dX1_resultOf_54 : decode cX1_resultOf 54 = .ok (.ldc 96, 2) := by decide +kernel
theorem dX1_resultOf_56 : decode cX1_resultOf 56 = .ok (.invokestatic 97, 3) := by decide +kernel
set_option maxRecDepth 20000 in
theorem ggX1_resultOf_X3_ofSpan : GoodIn wsX1_resultOf wsX3_ofSpan := goodIn_ca (goodIn_r _ [18, 19, 20, 17, 21, 22, 23, 24, 25, 26, 27, 28, 93] (by decide +kernel) (by decide +kernel)) (goodIn_sub (fun _ h => List.mem_cons_of_mem _ (List.mem_append_right _ h)) (by decide +kernel))
set_option maxRecDepth 20000 in
theorem gX1_resultOf_X3_ofSpan : GoodIn wsX1_resultOf (va_wsS RX1 97 yX3_ofSpan wsX3_ofSpan) := goodIn_app (goodIn_of _ (by decide +kernel)) ggX1_resultOf_X3_ofSpan
theorem dX1_resultOf_59 : decode cX1_resultOf 59 = .ok (.aload 4, 2) := by decide +kernel
theorem dX1_resultOf_61 : decode cX1_resultOf 61 = .ok (.invokestatic 101, 3) := by decide +kernel
theorem dX1_resultOf_64 : decode cX1_resultOf 64 = .ok (.areturn, 1) := by decide +kernel
theorem dX1_resultOf_48 : decode cX1_resultOf 48 = .ok (.aconst_null, 1) := by decide +kernel
theorem dX1_resultOf_49 : decode cX1_resultOf 49 = .ok (.goto 15, 3) := by decide +kernel
theorem dX1_resultOf_10 : decode cX1_resultOf 10 = .ok (.aload_n 3, 1) := by decide +kernel
theorem dX1_resultOf_11 : decode cX1_resultOf 11 = .ok (.aload_n 0, 1) := by decide +kernel
theorem dX1_resultOf_12 : decode cX1_resultOf 12 = .ok (.getfield 29, 3) := by decide +kernel
theorem dX1_resultOf_15 : decode cX1_resultOf 15 = .ok (.iload_n 1, 1) := by decide +kernel
theorem dX1_resultOf_16 : decode cX1_resultOf 16 = .ok (.iaload, 1) := by decide +kernel
theorem dX1_resultOf_17 : decode cX1_resultOf 17 = .ok (.invokevirtual 86, 3) := by decide +kernel
set_option maxRecDepth 20000 in
theorem ggX1_resultOf_X5_rangeIn : GoodIn wsX1_resultOf wsX5_rangeIn := goodIn_r _ [9, 10, 90, 91, 92] (by decide +kernel) (by decide +kernel)
set_option maxRecDepth 20000 in
theorem gX1_resultOf_X5_rangeIn : GoodIn wsX1_resultOf (wsV RX1 86 RX5 yX5_rangeIn wsX5_rangeIn) := goodIn_app (goodIn_of _ (by decide +kernel)) ggX1_resultOf_X5_rangeIn
theorem yY_X5_rangeIn : jY yX5_rangeIn wsX5_rangeIn cX5_rangeIn 2 (some (.object "VersionAlgebra$Range")) 1 := ⟨⟨_, rfl⟩, by decide +kernel, by decide +kernel, by decide +kernel⟩
theorem dX1_resultOf_20 : decode cX1_resultOf 20 = .ok (.areturn, 1) := by decide +kernel
set_option maxHeartbeats 2000000 in
set_option maxRecDepth 20000 in
theorem ct_X1_resultOf (l : Launch) (D : va_G) (dA : Nat → ClassId) (hst : l.stackTraces = false) (M : jM) (hcl : jCl M) (t sg : Nat) (c : Nat → Int32) (L : Nat) (s : eSt) (hR : jEr M t sg c L s) (k : Nat) (hk9 : k < L) (a z : Nat) (ha : a < jn M) (hka : jk M a = 23) (hza : jz M a = z) (hb : z < 2 ^ 31) (s0 c0 : Nat) (hS0 : jStt M s0 c0) (S : Int32 → Option rVl) (vs : Nat → Option rVl) (hSv : ∀ x, jVa M (stRange M s0 x) (S x)) (hv : ∀ i, i < z → jVa M (jr M a i) (vs i)) (h16 : ∀ i, v16 (vs i)) : jCT l D dA yX1_resultOf wsX1_resultOf (24) (540) (5) (140) 2 [.ref (t), .int (nI (k)), .ref (a), .ref (s0)] M (fun o M1 => ∃ r, o = oR r ∧ jExt M M1 ∧ jCl M1 ∧ jVa M1 r (eRes S s vs z k)) := by
  refine jBody (cc := cX1_resultOf) (nL := 6) (rt := (some (.object "VersionAlgebra$Range"))) (ini := false) (by decide) rfl hst (Nat.le_of_ble_eq_true rfl) (by simp [Value.category]) (by intro h9; first | exact absurd h9 (by decide) | rfl) ?_
  show J l D dA RX1 cX1_resultOf wsX1_resultOf 6 false (some (.object "VersionAlgebra$Range")) [] (24) (540) (jF D dA (jn M) (fun o M1 => ∃ r, o = oR r ∧ jExt M M1 ∧ jCl M1 ∧ jVa M1 r (eRes S s vs z k)) 2) (jn M) (5) (140) (M) 0 [.ref (t), .int (nI (k)), .ref (a), .ref (s0), .float 0, .float 0] []
  obtain ⟨⟨f1, f2, f3, f4, f5, f6, f7, f8, f9, f10, f11, f12⟩, g2, g3, g4, g5, g6⟩ := id hR
  obtain ⟨q1, q2, q3, q4, q5, q6⟩ := hR.rows
  obtain ⟨u1, u2, u3, u4, u5, u6, u7, u8, u9, u10⟩ := id hS0
  refine J_aload_n (t) dX1_resultOf_0 rfl rfl ?_
  refine J_getrs (q := t + 1) (g3 0 (by decide)).1 dX1_resultOf_1 (fun _ h => List.mem_cons_of_mem _ (List.mem_append_left _ (List.mem_append_left _ (List.mem_append_left _ (List.mem_append_right _ (h)))))) cs5 (by decide) rfl (List.mem_of_getElem? (i := 1) rfl) rfl f1 f2 ?_
  refine J_iload_n dX1_resultOf_4 rfl rfl ?_
  refine J_ialdN (k := k) dX1_resultOf_5 (show t + 1 < jn M from by omega) (g3 0 (by decide)).2.1 (by exact Nat.lt_of_lt_of_eq (show _ < L by omega) (Eq.symm (g3 0 (by decide)).2.2)) (by exact Nat.lt_of_le_of_lt (Nat.le_of_eq (g3 0 (by decide)).2.2) (show L < 2 ^ 31 by omega)) ?_
  refine J_topi (y := ((s.2.2.1) k)) (congrFun q2 _) ?_
  refine J_iconst (x := 4) dX1_resultOf_6 (by decide) ?_
  refine J_icmp_ne dX1_resultOf_7 (tgt := 21) (by decide) (fun c7 => ?_) (fun c7 => ?_)
  · refine J_aload_n (t) dX1_resultOf_21 rfl rfl ?_
    refine J_getrs (q := t + 3) (g3 2 (by decide)).1 dX1_resultOf_22 (fun _ h => List.mem_cons_of_mem _ (List.mem_append_left _ (List.mem_append_left _ (List.mem_append_left _ (List.mem_append_right _ (h)))))) cs5 (by decide) rfl (List.mem_of_getElem? (i := 2) rfl) rfl f1 f2 ?_
    refine J_iload_n dX1_resultOf_25 rfl rfl ?_
    refine J_ialdN (k := k) dX1_resultOf_26 (show t + 3 < jn M from by omega) (g3 2 (by decide)).2.1 (by exact Nat.lt_of_lt_of_eq (show _ < L by omega) (Eq.symm (g3 2 (by decide)).2.2)) (by exact Nat.lt_of_le_of_lt (Nat.le_of_eq (g3 2 (by decide)).2.2) (show L < 2 ^ 31 by omega)) ?_
    refine J_topi (y := ((s.2.2.2.2.1) k)) (congrFun q4 _) ?_
    refine J_aload_n (a) dX1_resultOf_27 rfl rfl ?_
    refine J_callq0 (jrunS (As := [.int ((s.2.2.2.2.1) k), .ref (a)]) (ct_X1_resultAt l D dA hst M (((s.2.2.2.2.1) k)) a z ha hka hza hb) dX1_resultOf_28 yY_X1_resultAt gX1_resultOf_X1_resultAt rfl ⟨by omega, by omega⟩ ⟨Nat.zero_le _, Nat.zero_le _⟩ rfl (Nat.le_of_ble_eq_true rfl)) (rfl) (rfl) ?_
    refine J_astoreq (r := eAtR (jr M a) z (((s.2.2.2.2.1) k))) (lv' := [.ref (t), .int (nI (k)), .ref (a), .ref (s0), va_rf (eAtR (jr M a) z (((s.2.2.2.2.1) k))), .float 0]) dX1_resultOf_31 (by decide) rfl rfl ?_
    refine J_aload_n (t) dX1_resultOf_33 rfl rfl ?_
    refine J_getrs (q := t + 1) (g3 0 (by decide)).1 dX1_resultOf_34 (fun _ h => List.mem_cons_of_mem _ (List.mem_append_left _ (List.mem_append_left _ (List.mem_append_left _ (List.mem_append_right _ (h)))))) cs5 (by decide) rfl (List.mem_of_getElem? (i := 1) rfl) rfl f1 f2 ?_
    refine J_iload_n dX1_resultOf_37 rfl rfl ?_
    refine J_ialdN (k := k) dX1_resultOf_38 (show t + 1 < jn M from by omega) (g3 0 (by decide)).2.1 (by exact Nat.lt_of_lt_of_eq (show _ < L by omega) (Eq.symm (g3 0 (by decide)).2.2)) (by exact Nat.lt_of_le_of_lt (Nat.le_of_eq (g3 0 (by decide)).2.2) (show L < 2 ^ 31 by omega)) ?_
    refine J_topi (y := ((s.2.2.1) k)) (congrFun q2 _) ?_
    refine J_iconst (x := 3) dX1_resultOf_39 (by decide) ?_
    refine J_icmp_ne dX1_resultOf_40 (tgt := 65) (by decide) (fun c40 => ?_) (fun c40 => ?_)
    · refine J_aload_n (t) dX1_resultOf_65 rfl rfl ?_
      refine J_getrs (q := t + 4) (g3 3 (by decide)).1 dX1_resultOf_66 (fun _ h => List.mem_cons_of_mem _ (List.mem_append_left _ (List.mem_append_left _ (List.mem_append_left _ (List.mem_append_right _ (h)))))) cs5 (by decide) rfl (List.mem_of_getElem? (i := 4) rfl) rfl f1 f2 ?_
      refine J_iload_n dX1_resultOf_69 rfl rfl ?_
      refine J_ialdN (k := k) dX1_resultOf_70 (show t + 4 < jn M from by omega) (g3 3 (by decide)).2.1 (by exact Nat.lt_of_lt_of_eq (show _ < L by omega) (Eq.symm (g3 3 (by decide)).2.2)) (by exact Nat.lt_of_le_of_lt (Nat.le_of_eq (g3 3 (by decide)).2.2) (show L < 2 ^ 31 by omega)) ?_
      refine J_topi (y := ((s.2.2.2.2.2.1) k)) (congrFun q5 _) ?_
      refine J_aload_n (a) dX1_resultOf_71 rfl rfl ?_
      refine J_callq0 (jrunS (As := [.int ((s.2.2.2.2.2.1) k), .ref (a)]) (ct_X1_resultAt l D dA hst M (((s.2.2.2.2.2.1) k)) a z ha hka hza hb) dX1_resultOf_72 yY_X1_resultAt gX1_resultOf_X1_resultAt rfl ⟨by omega, by omega⟩ ⟨Nat.zero_le _, Nat.zero_le _⟩ rfl (Nat.le_of_ble_eq_true rfl)) (rfl) (rfl) ?_
      refine J_astoreq (r := eAtR (jr M a) z (((s.2.2.2.2.2.1) k))) (lv' := [.ref (t), .int (nI (k)), .ref (a), .ref (s0), va_rf (eAtR (jr M a) z (((s.2.2.2.2.1) k))), va_rf (eAtR (jr M a) z (((s.2.2.2.2.2.1) k)))]) dX1_resultOf_75 (by decide) (jok_q rfl) rfl ?_
      refine J_aloadq (eAtR (jr M a) z (((s.2.2.2.2.1) k))) dX1_resultOf_77 rfl ?_
      refine J_ifnull dX1_resultOf_79 (tgt := 87) (by decide) (fun c79 => ?_) (fun r79 c79 => ?_)
      · have hjv1 := jVa_at hb (fun i hi => (hv i hi)) (s.2.2.2.2.1 k)
        rw [c79] at hjv1
        have hev1 := hjv1.none
        refine J_null dX1_resultOf_87 ?_
        refine J_goto (tgt := 104) dX1_resultOf_88 (by decide) ?_
        exact J_aret (r := none) dX1_resultOf_104 rfl (Or.inl ⟨_, rfl⟩) (by first | (refine ⟨none, rfl, jExt.rf, hcl, ?_⟩; unfold eRes; rw [if_neg c7, hev1]; trivial) | (refine ⟨none, rfl, jExt.rf, hcl, ?_⟩; unfold eRes; rw [if_neg c7, hev1]; simp only [if_neg c40, hev2]; trivial) | (refine ⟨some t3, rfl, hO3.1, hO3.2.1, ?_⟩; unfold eRes; rw [if_neg c7, hev1]; simp only [if_neg c40, hev2]; exact jVa_comb (a := v1) (b := v2) hiv1 hiv2 hO3) | fail "h")
      · refine J_conv (M' := M) (lv' := [.ref (t), .int (nI (k)), .ref (a), .ref (s0), .ref (r79), va_rf (eAtR (jr M a) z (((s.2.2.2.2.2.1) k)))]) (st' := []) rfl (by first | (rw [c79]; done) | (rw [c79]; rfl)) rfl ?_
        have hjv1 := jVa_at hb (fun i hi => (hv i hi)) (s.2.2.2.2.1 k)
        rw [c79] at hjv1
        obtain ⟨v1, hev1, hgv1, hiv1⟩ := hjv1.some
        have hlv1 := v16_at (z := z) h16 (s.2.2.2.2.1 k) v1 hev1
        refine J_aloadq (eAtR (jr M a) z (((s.2.2.2.2.2.1) k))) dX1_resultOf_82 rfl ?_
        refine J_ifnonnull dX1_resultOf_84 (tgt := 91) (by decide) (fun r84 c84 => ?_) (fun c84 => ?_)
        · refine J_conv (M' := M) (lv' := [.ref (t), .int (nI (k)), .ref (a), .ref (s0), .ref (r79), .ref (r84)]) (st' := []) rfl (by first | (rw [c84]; done) | (rw [c84]; rfl)) rfl ?_
          have hjv2 := jVa_at hb (fun i hi => (hv i hi)) (s.2.2.2.2.2.1 k)
          rw [c84] at hjv2
          obtain ⟨v2, hev2, hgv2, hiv2⟩ := hjv2.some
          have hlv2 := v16_at (z := z) h16 (s.2.2.2.2.2.1 k) v2 hev2
          refine J_aload_n (t) dX1_resultOf_91 rfl rfl ?_
          refine J_getrs (q := t + 1) (g3 0 (by decide)).1 dX1_resultOf_92 (fun _ h => List.mem_cons_of_mem _ (List.mem_append_left _ (List.mem_append_left _ (List.mem_append_left _ (List.mem_append_right _ (h)))))) cs5 (by decide) rfl (List.mem_of_getElem? (i := 1) rfl) rfl f1 f2 ?_
          refine J_iload_n dX1_resultOf_95 rfl rfl ?_
          refine J_ialdN (k := k) dX1_resultOf_96 (show t + 1 < jn M from by omega) (g3 0 (by decide)).2.1 (by exact Nat.lt_of_lt_of_eq (show _ < L by omega) (Eq.symm (g3 0 (by decide)).2.2)) (by exact Nat.lt_of_le_of_lt (Nat.le_of_eq (g3 0 (by decide)).2.2) (show L < 2 ^ 31 by omega)) ?_
          refine J_topi (y := ((s.2.2.1) k)) (congrFun q2 _) ?_
          refine J_aload (r79) dX1_resultOf_97 rfl ?_
          refine J_aload (r84) dX1_resultOf_99 rfl ?_
          refine J_callq (jrunS (As := [.int ((s.2.2.1) k), .ref (r79), .ref (r84)]) (ct_X3_combined l D dA hst M (hcl) (((s.2.2.1) k)) r79 (v1.1) hgv1 r84 (v2.1) hgv2 (by omega)) dX1_resultOf_101 yY_X3_combined gX1_resultOf_X3_combined rfl ⟨by omega, by omega⟩ ⟨by omega, by omega⟩ rfl (Nat.le_of_ble_eq_true rfl)) ⟨by omega, by omega⟩ (Or.inr ⟨(jOk.ref f1 (jOk.int (jOk.ref ha (jOk.ref (show s0 < jn M from by omega) (jOk.ref (Nat.lt_of_succ_lt hgv1.1) (jOk.ref (Nat.lt_of_succ_lt hgv2.1) jOk.nil)))))), jOk.nil⟩) (fun E M9 hp _ => by obtain ⟨_, h1, _⟩ := hp; cases h1) (fun x9 M3 hp101 hle101 => ?_)
          obtain ⟨t3, h101, hO3⟩ := hp101
          have hx9 := jR_inj h101
          subst hx9
          exact J_aret (r := some (t3)) dX1_resultOf_104 rfl (Or.inl ⟨_, rfl⟩) (by first | (refine ⟨none, rfl, jExt.rf, hcl, ?_⟩; unfold eRes; rw [if_neg c7, hev1]; trivial) | (refine ⟨none, rfl, jExt.rf, hcl, ?_⟩; unfold eRes; rw [if_neg c7, hev1]; simp only [if_neg c40, hev2]; trivial) | (refine ⟨some t3, rfl, hO3.1, hO3.2.1, ?_⟩; unfold eRes; rw [if_neg c7, hev1]; simp only [if_neg c40, hev2]; exact jVa_comb (a := v1) (b := v2) hiv1 hiv2 hO3) | fail "h")
        · have hjv2 := jVa_at hb (fun i hi => (hv i hi)) (s.2.2.2.2.2.1 k)
          rw [c84] at hjv2
          have hev2 := hjv2.none
          refine J_null dX1_resultOf_87 ?_
          refine J_goto (tgt := 104) dX1_resultOf_88 (by decide) ?_
          exact J_aret (r := none) dX1_resultOf_104 rfl (Or.inl ⟨_, rfl⟩) (by first | (refine ⟨none, rfl, jExt.rf, hcl, ?_⟩; unfold eRes; rw [if_neg c7, hev1]; trivial) | (refine ⟨none, rfl, jExt.rf, hcl, ?_⟩; unfold eRes; rw [if_neg c7, hev1]; simp only [if_neg c40, hev2]; trivial) | (refine ⟨some t3, rfl, hO3.1, hO3.2.1, ?_⟩; unfold eRes; rw [if_neg c7, hev1]; simp only [if_neg c40, hev2]; exact jVa_comb (a := v1) (b := v2) hiv1 hiv2 hO3) | fail "h")
    · refine J_aloadq (eAtR (jr M a) z (((s.2.2.2.2.1) k))) dX1_resultOf_43 rfl ?_
      refine J_ifnonnull dX1_resultOf_45 (tgt := 52) (by decide) (fun r45 c45 => ?_) (fun c45 => ?_)
      · refine J_conv (M' := M) (lv' := [.ref (t), .int (nI (k)), .ref (a), .ref (s0), .ref (r45), .float 0]) (st' := []) rfl (by first | (rw [c45]; done) | (rw [c45]; rfl)) rfl ?_
        have hjv1 := jVa_at hb (fun i hi => (hv i hi)) (s.2.2.2.2.1 k)
        rw [c45] at hjv1
        obtain ⟨v1, hev1, hgv1, hiv1⟩ := hjv1.some
        have hlv1 := v16_at (z := z) h16 (s.2.2.2.2.1 k) v1 hev1
        refine J_iconst (x := 2) dX1_resultOf_52 (by decide) ?_
        refine J_iconst (x := 0) dX1_resultOf_53 (by decide) ?_
        refine J_ldc (x := 99999999) dX1_resultOf_54 (List.mem_of_getElem? (i := 3) rfl) ?_
        refine J_callq (jrunS (As := [.int (0), .int (99999999)]) (ct_X3_ofSpan l D dA hst M hcl 0 99999999) dX1_resultOf_56 yY_X3_ofSpan gX1_resultOf_X3_ofSpan rfl ⟨by omega, by omega⟩ ⟨by omega, by omega⟩ rfl (Nat.le_of_ble_eq_true rfl)) ⟨by omega, by omega⟩ (Or.inr ⟨(jOk.ref f1 (jOk.int (jOk.ref ha (jOk.ref (show s0 < jn M from by omega) (jOk.ref (Nat.lt_of_succ_lt hgv1.1) (jOk.float jOk.nil)))))), (jOk.int jOk.nil)⟩) (fun E M9 hp _ => by obtain ⟨_, h1, _⟩ := hp; cases h1) (fun x9 M2 hp56 hle56 => ?_)
        obtain ⟨t2, h56, hO2⟩ := hp56
        have hx9 := jR_inj h56
        subst hx9
        rw [if_pos (show (0 : Int32) ≤ 99999999 by decide)] at hO2
        have hgv2 := hgv1.ext hO2.1
        refine J_aload (r45) dX1_resultOf_59 rfl ?_
        refine J_callq (jrunS (As := [.int (2), .ref (t2), .ref (r45)]) (ct_X3_combined l D dA hst M2 (hO2.2.1) ((2)) t2 1 hO2.2.2.1 r45 (v1.1) hgv2 (by omega)) dX1_resultOf_61 yY_X3_combined gX1_resultOf_X3_combined rfl ⟨by omega, by omega⟩ ⟨by omega, by omega⟩ rfl (Nat.le_of_ble_eq_true rfl)) ⟨by omega, by omega⟩ (Or.inr ⟨(jOk.ref (Nat.lt_of_lt_of_le f1 hO2.1.1) (jOk.int (jOk.ref (Nat.lt_of_lt_of_le ha hO2.1.1) (jOk.ref (Nat.lt_of_lt_of_le (show s0 < jn M from by omega) hO2.1.1) (jOk.ref (Nat.lt_of_succ_lt hgv2.1) (jOk.float jOk.nil)))))), jOk.nil⟩) (fun E M9 hp _ => by obtain ⟨_, h1, _⟩ := hp; cases h1) (fun x9 M3 hp61 hle61 => ?_)
        obtain ⟨t3, h61, hO3⟩ := hp61
        have hx9 := jR_inj h61
        subst hx9
        exact J_aret (r := some (t3)) dX1_resultOf_64 rfl (Or.inl ⟨_, rfl⟩) (by first | (refine ⟨none, rfl, jExt.rf, hcl, ?_⟩; unfold eRes; rw [if_neg c7, hev1]; trivial) | (refine ⟨some t3, rfl, hO2.1.tr hO3.1, hO3.2.1, ?_⟩; unfold eRes; rw [if_neg c7, hev1]; simp only [c40, reduceIte]; exact jVa_comb (a := rWhole9) (b := v1) hO2.2.2.2.2 (fun j hj => by rw [hgv1.ints hO2.1]; exact hiv1 j hj) hO3) | fail "g")
      · have hjv1 := jVa_at hb (fun i hi => (hv i hi)) (s.2.2.2.2.1 k)
        rw [c45] at hjv1
        have hev1 := hjv1.none
        refine J_null dX1_resultOf_48 ?_
        refine J_goto (tgt := 64) dX1_resultOf_49 (by decide) ?_
        exact J_aret (r := none) dX1_resultOf_64 rfl (Or.inl ⟨_, rfl⟩) (by first | (refine ⟨none, rfl, jExt.rf, hcl, ?_⟩; unfold eRes; rw [if_neg c7, hev1]; trivial) | (refine ⟨some t3, rfl, hO2.1.tr hO3.1, hO3.2.1, ?_⟩; unfold eRes; rw [if_neg c7, hev1]; simp only [c40, reduceIte]; exact jVa_comb (a := rWhole9) (b := v1) hO2.2.2.2.2 (fun j hj => by rw [hgv1.ints hO2.1]; exact hiv1 j hj) hO3) | fail "g")
  · refine J_aload_n (s0) dX1_resultOf_10 rfl rfl ?_
    refine J_aload_n (t) dX1_resultOf_11 rfl rfl ?_
    refine J_getrs (q := t + 3) (g3 2 (by decide)).1 dX1_resultOf_12 (fun _ h => List.mem_cons_of_mem _ (List.mem_append_left _ (List.mem_append_left _ (List.mem_append_left _ (List.mem_append_right _ (h)))))) cs5 (by decide) rfl (List.mem_of_getElem? (i := 2) rfl) rfl f1 f2 ?_
    refine J_iload_n dX1_resultOf_15 rfl rfl ?_
    refine J_ialdN (k := k) dX1_resultOf_16 (show t + 3 < jn M from by omega) (g3 2 (by decide)).2.1 (by exact Nat.lt_of_lt_of_eq (show _ < L by omega) (Eq.symm (g3 2 (by decide)).2.2)) (by exact Nat.lt_of_le_of_lt (Nat.le_of_eq (g3 2 (by decide)).2.2) (show L < 2 ^ 31 by omega)) ?_
    refine J_topi (y := ((s.2.2.2.2.1) k)) (congrFun q4 _) ?_
    refine J_callq0 (jrunV (As := [.int ((s.2.2.2.2.1) k)]) (ct_X5_rangeIn l D dA hst M s0 c0 hS0 (((s.2.2.2.2.1) k))) dX1_resultOf_17 yY_X5_rangeIn gX1_resultOf_X5_rangeIn rfl cs9 (show s0 < jn M from by omega) u2 rfl ⟨by omega, by omega⟩ ⟨Nat.zero_le _, Nat.zero_le _⟩ rfl (Nat.le_of_ble_eq_true rfl)) (rfl) (rfl) ?_
    exact J_aret (r := stRange M s0 (((s.2.2.2.2.1) k))) dX1_resultOf_20 rfl (Or.inl ⟨_, rfl⟩) (by exact ⟨_, rfl, jExt.rf, hcl, by unfold eRes; rw [if_pos c7]; exact hSv _⟩)

