theorem tNum_m {c : Nat → Int32} {L p : Nat} (h : (tNum c L p).1 = -1) : tDig c L p = -1 ∧ (tNum c L p).2 = p := by
  by_cases h0 : tDig c L p = -1
  · refine ⟨h0, ?_⟩; unfold tNum; rw [if_pos h0]
  · exfalso
    obtain ⟨-, -, q, hq, e⟩ := gDig_n h0
    unfold tNum at h
    rw [if_neg h0] at h
    by_cases h1 : tDig c L p = 0
    · rw [if_pos h1] at h; exact h0 h
    · rw [if_neg h1] at h
      by_cases h2 : tDig c L (p + 1) = -1
      · rw [if_pos h2] at h; exact h0 h
      · rw [if_neg h2] at h
        obtain ⟨-, -, q2, hq2, e2⟩ := gDig_n h2
        have h9 : nI (10 * q + q2) = -1 := by rw [← h]; show _ = 10 * tDig c L p + tDig c L (p + 1); rw [e, e2, show (10 : Int32) = nI 10 from rfl, pk_mul, nI_add]
        exact absurd (show nI (10 * q + q2) < 0 by rw [h9]; decide) (nI_pos (by omega))
theorem tNum_n {c : Nat → Int32} {L p : Nat} (h : ¬ (tNum c L p).1 = -1) : ¬ tDig c L p = -1 ∧ p < (tNum c L p).2 ∧ ∃ q : Nat, q ≤ 99 ∧ (tNum c L p).1 = nI q := by
  have h0 : ¬ tDig c L p = -1 := fun h0 => h (by unfold tNum; rw [if_pos h0])
  refine ⟨h0, ?_⟩
  obtain ⟨-, -, q, hq, e⟩ := gDig_n h0
  unfold tNum
  rw [if_neg h0]
  by_cases h1 : tDig c L p = 0
  · rw [if_pos h1]; exact ⟨Nat.lt_succ_self _, q, by omega, e⟩
  · rw [if_neg h1]
    by_cases h2 : tDig c L (p + 1) = -1
    · rw [if_pos h2]; exact ⟨Nat.lt_succ_self _, q, by omega, e⟩
    · rw [if_neg h2]
      obtain ⟨-, -, q2, hq2, e2⟩ := gDig_n h2
      refine ⟨by show p < p + 1 + 1; omega, 10 * q + q2, by omega, ?_⟩
      show 10 * tDig c L p + tDig c L (p + 1) = _
      rw [e, e2, show (10 : Int32) = nI 10 from rfl, pk_mul, nI_add]
theorem gNumF {c : Nat → Int32} {L p : Nat} {lt : Bool} {nu a b : Int32} (h : (tNum c L p).1 = -1) : gNum c L (p, false, lt, nu, a, b) = (p, true, lt, nu, a, b) := gNum_b (Or.inr (tNum_m h).1)
theorem gNumT {c : Nat → Int32} {L p : Nat} {lt : Bool} {nu a b : Int32} {n : Int32} {p2 : Nat} (h : tNum c L p = (n, p2)) (hn : ¬ n = -1) : gNum c L (p, false, lt, nu, a, b) = (p2, false, lt, n, a, b) := by
  have h1 := (tNum_n (c := c) (L := L) (p := p) (by rw [h]; exact hn)).1
  rw [gNum_g (fun h9 => h9.elim (fun h8 => absurd (show false = true from h8) (by decide)) h1)]
  show ((tNum c L p).2, false, lt, (tNum c L p).1, a, b) = _
  rw [h]
theorem gNumB {c : Nat → Int32} {L p : Nat} {lt : Bool} {nu a b : Int32} : gNum c L (p, true, lt, nu, a, b) = (p, true, lt, nu, a, b) := gNum_b (Or.inl rfl)
theorem gIsG {c : Nat → Int32} {L p : Nat} {lt : Bool} {nu a b : Int32} {x : Int32} : gIs c L x (p, false, lt, nu, a, b) = tIsAt c L p x := rfl
theorem gIsB {c : Nat → Int32} {L p : Nat} {lt : Bool} {nu a b : Int32} {x : Int32} : gIs c L x (p, true, lt, nu, a, b) = false := rfl
theorem gNeedB {c : Nat → Int32} {L p : Nat} {lt : Bool} {nu a b : Int32} {x : Int32} : gNeed c L x (p, true, lt, nu, a, b) = (p, true, lt, nu, a, b) := rfl
theorem gNeedT {c : Nat → Int32} {L p : Nat} {lt : Bool} {nu a b : Int32} {x : Int32} (h : tIsAt c L p x = true) : gNeed c L x (p, false, lt, nu, a, b) = (p + 1, false, lt, nu, a, b) := if_pos h
theorem gNeedF {c : Nat → Int32} {L p : Nat} {lt : Bool} {nu a b : Int32} {x : Int32} (h : ¬ tIsAt c L p x = true) : gNeed c L x (p, false, lt, nu, a, b) = (p, true, lt, nu, a, b) := if_neg h
theorem gTkB {c : Nat → Int32} {L p : Nat} {lt : Bool} {nu a b : Int32} {x : Int32} : gTk c L x (p, true, lt, nu, a, b) = (p, true, lt, nu, a, b) := rfl
theorem gTkT {c : Nat → Int32} {L p : Nat} {lt : Bool} {nu a b : Int32} {x : Int32} (h : tIsAt c L p x = true) : gTk c L x (p, false, lt, nu, a, b) = (p + 1, false, lt, nu, a, b) := if_pos h
theorem gTkF {c : Nat → Int32} {L p : Nat} {lt : Bool} {nu a b : Int32} {x : Int32} (h : ¬ tIsAt c L p x = true) : gTk c L x (p, false, lt, nu, a, b) = (p, false, lt, nu, a, b) := if_neg h
theorem gPatB {c : Nat → Int32} {L p : Nat} {lt : Bool} {nu a b : Int32} {x : Int32} : (gPat c L x (p, true, lt, nu, a, b)).2 = (p, true, lt, nu, a, b) := by unfold gPat; rw [gNumB, gIsB]; rfl
def gOk (r : rSt) (s : gS) : Prop := s.1 = r.2.1 ∧ s.2.1 = !r.1 ∧ (r.1 = true → s.2.2.1 = r.2.2.2.2)
theorem gPat_rVe {c : Nat → Int32} {L p : Nat} {lt : Bool} {nu a b : Int32} {st kd lo hi : Int32} : gOk (rVe c L kd st p lo hi lt) (gPat c L st (p, false, lt, nu, a, b)).2 ∧ ((rVe c L kd st p lo hi lt).1 = true →
    (rVe c L kd st p lo hi lt).2.2.1 = (rNb kd (gPat c L st (p, false, lt, nu, a, b)).1 lo hi).1 ∧ (rVe c L kd st p lo hi lt).2.2.2.1 = (rNb kd (gPat c L st (p, false, lt, nu, a, b)).1 lo hi).2 ∧
    ∃ n1 n2 : Nat, n1 ≤ 99 ∧ n2 ≤ 99 ∧ (gPat c L st (p, false, lt, nu, a, b)).1 = st + nI n1 * 100 + nI n2) := by
  unfold rVe
  rcases h : tNum c L p with ⟨n, p2⟩
  dsimp only
  by_cases hn : n = -1
  · have hp := (tNum_m (c := c) (L := L) (p := p) (by rw [h]; exact hn)).2
    rw [h] at hp
    have hp2 : p2 = p := hp
    rw [if_pos hn]
    unfold gPat
    rw [gNumF (by rw [h]; exact hn), gIsB, if_neg (by decide)]
    exact ⟨⟨hp2.symm, rfl, fun h => nomatch h⟩, fun h => nomatch h⟩
  · obtain ⟨-, -, q, hq, eq⟩ := tNum_n (c := c) (L := L) (p := p) (by rw [h]; exact hn)
    rw [h] at eq
    have eq2 : n = nI q := eq
    rw [if_neg hn]
    by_cases h45 : tIsAt c L p2 45 = true
    · rw [if_pos h45]
      rcases h2 : tNum c L (p2 + 1) with ⟨m, p3⟩
      dsimp only
      unfold gPat
      rw [gNumT h hn, gIsG, if_pos h45, gTkT h45]
      by_cases hm : m = -1
      · have hp := (tNum_m (c := c) (L := L) (p := p2 + 1) (by rw [h2]; exact hm)).2
        rw [h2] at hp
        have hp2 : p3 = p2 + 1 := hp
        rw [if_pos hm, gNumF (by rw [h2]; exact hm)]
        exact ⟨⟨hp2.symm, rfl, fun h => nomatch h⟩, fun h => nomatch h⟩
      · obtain ⟨-, -, q2, hq2, eq3⟩ := tNum_n (c := c) (L := L) (p := p2 + 1) (by rw [h2]; exact hm)
        rw [h2] at eq3
        have eq4 : m = nI q2 := eq3
        rw [if_neg hm, gNumT h2 hm]
        have ev : st + 100 * n + 99 - 99 + m = st + n * 100 + m := by rw [Int32.add_sub_cancel, Int32.mul_comm]
        refine ⟨⟨rfl, rfl, fun _ => rfl⟩, fun _ => ⟨?_, ?_, q, q2, hq, hq2, ?_⟩⟩
        · show (rNb kd (st + n * 100 + m) lo hi).1 = (rNb kd (st + 100 * n + 99 - 99 + m) lo hi).1
          rw [ev]
        · show (rNb kd (st + n * 100 + m) lo hi).2 = (rNb kd (st + 100 * n + 99 - 99 + m) lo hi).2
          rw [ev]
        · show st + 100 * n + 99 - 99 + m = _
          rw [ev, eq2, eq4]
    · rw [if_neg h45]
      unfold gPat
      rw [gNumT h hn, gIsG, if_neg h45]
      have ev : st + 100 * n + 99 = st + n * 100 + 99 := by rw [Int32.mul_comm]
      refine ⟨⟨rfl, rfl, fun _ => rfl⟩, fun _ => ⟨?_, ?_, q, 99, hq, Nat.le_refl _, ?_⟩⟩
      · show (rNb kd (st + n * 100 + 99) lo hi).1 = (rNb kd (st + 100 * n + 99) lo hi).1
        rw [ev]
      · show (rNb kd (st + n * 100 + 99) lo hi).2 = (rNb kd (st + 100 * n + 99) lo hi).2
        rw [ev]
      · show st + 100 * n + 99 = _
        rw [ev, eq2]; rfl
theorem ver_q {n1 n2 n3 n4 : Nat} (h1 : n1 ≤ 99) (h2 : n2 ≤ 99) (h3 : n3 ≤ 99) (h4 : n4 ≤ 99) : nI n1 * 1000000 + nI n2 * 10000 + nI n3 * 100 + nI n4 = nI (n1 * 1000000 + n2 * 10000 + n3 * 100 + n4) := by
  rw [show (1000000 : Int32) = nI 1000000 from rfl, show (10000 : Int32) = nI 10000 from rfl, show (100 : Int32) = nI 100 from rfl, pk_mul, pk_mul, pk_mul, nI_add, nI_add, nI_add]
theorem gVer_rP1 {c : Nat → Int32} {L p : Nat} {lt : Bool} {nu a b : Int32} {kd lo hi : Int32} (hk : kd ≠ 0) : gOk (rP1 c L kd p lo hi lt) (gVer c L (p, false, lt, nu, a, b)).2 ∧ ((rP1 c L kd p lo hi lt).1 = true →
    (rP1 c L kd p lo hi lt).2.2.1 = (rNb kd (gVer c L (p, false, lt, nu, a, b)).1 lo hi).1 ∧ (rP1 c L kd p lo hi lt).2.2.2.1 = (rNb kd (gVer c L (p, false, lt, nu, a, b)).1 lo hi).2 ∧
    ∃ q : Nat, q < 100000000 ∧ (gVer c L (p, false, lt, nu, a, b)).1 = nI q) := by
  unfold rP1 gVer gVal gV4 gV3 gV2
  rcases h : tNum c L p with ⟨n, p2⟩
  dsimp only
  by_cases hn : n = -1
  · have hp := (tNum_m (c := c) (L := L) (p := p) (by rw [h]; exact hn)).2
    rw [h] at hp
    have hp2 : p2 = p := hp
    rw [if_pos hn, gNumF (by rw [h]; exact hn), gNeedB, gNumB, gNeedB, gPatB]
    exact ⟨⟨hp2.symm, rfl, fun h => nomatch h⟩, fun h => nomatch h⟩
  · obtain ⟨-, -, q, hq, eq⟩ := tNum_n (c := c) (L := L) (p := p) (by rw [h]; exact hn)
    rw [h] at eq
    have eq2 : n = nI q := eq
    rw [if_neg hn, gNumT h hn]
    by_cases h46 : tIsAt c L p2 46 = true
    · rw [if_pos h46, if_neg (fun h => hk h.1), gNeedT h46]
      unfold rP2
      rcases h2 : tNum c L (p2 + 1) with ⟨m, p3⟩
      dsimp only
      by_cases hm : m = -1
      · have hp := (tNum_m (c := c) (L := L) (p := p2 + 1) (by rw [h2]; exact hm)).2
        rw [h2] at hp
        have hp2 : p3 = p2 + 1 := hp
        rw [if_pos hm, gNumF (by rw [h2]; exact hm), gNeedB, gPatB]
        exact ⟨⟨hp2.symm, rfl, fun h => nomatch h⟩, fun h => nomatch h⟩
      · obtain ⟨-, -, q2, hq2, eq3⟩ := tNum_n (c := c) (L := L) (p := p2 + 1) (by rw [h2]; exact hm)
        rw [h2] at eq3
        have eq4 : m = nI q2 := eq3
        rw [if_neg hm, gNumT h2 hm]
        by_cases h46b : tIsAt c L p3 46 = true
        · rw [if_pos h46b, if_neg (fun h => hk h.1), gNeedT h46b]
          have ev : 1000000 * n + 10000 * m = n * 1000000 + m * 10000 := by rw [Int32.mul_comm, Int32.mul_comm 10000 m]
          dsimp only
          rw [ev]
          have hP := gPat_rVe (c := c) (L := L) (p := p3 + 1) (lt := lt) (nu := m) (a := a) (b := b) (st := n * 1000000 + m * 10000) (kd := kd) (lo := lo) (hi := hi)
          refine ⟨hP.1, fun h9 => ?_⟩
          obtain ⟨e1, e2, n1, n2, g1, g2, e3⟩ := hP.2 h9
          exact ⟨e1, e2, q * 1000000 + q2 * 10000 + n1 * 100 + n2, (by omega), by rw [e3, eq2, eq4]; exact ver_q hq hq2 g1 g2⟩
        · rw [if_neg h46b, gNeedF h46b, gPatB]
          exact ⟨⟨rfl, rfl, fun h => nomatch h⟩, fun h => nomatch h⟩
    · rw [if_neg h46, gNeedF h46, gNumB, gNeedB, gPatB]
      exact ⟨⟨rfl, rfl, fun h => nomatch h⟩, fun h => nomatch h⟩
theorem gSer_rP1 {c : Nat → Int32} {L p : Nat} {lt : Bool} {nu a b : Int32} {lo hi : Int32} : gOk (rP1 c L 0 p lo hi lt) (gSer c L (p, false, lt, nu, a, b)) ∧ ((rP1 c L 0 p lo hi lt).1 = true →
    (rP1 c L 0 p lo hi lt).2.2.1 = iMx lo (gSer c L (p, false, lt, nu, a, b)).2.2.2.2.1 ∧ (rP1 c L 0 p lo hi lt).2.2.2.1 = rMin hi (gSer c L (p, false, lt, nu, a, b)).2.2.2.2.2) := by
  unfold rP1 gSer gVer gVal gV4 gV3 gV2
  rcases h : tNum c L p with ⟨n, p2⟩
  dsimp only
  by_cases hn : n = -1
  · have hp := (tNum_m (c := c) (L := L) (p := p) (by rw [h]; exact hn)).2
    rw [h] at hp
    have hp2 : p2 = p := hp
    rw [if_pos hn, gNumF (by rw [h]; exact hn), gNeedB, gIsB, gNumB, gNeedB, gIsB, if_neg (by decide), if_neg (by decide), gPatB]
    exact ⟨⟨hp2.symm, rfl, fun h => nomatch h⟩, fun h => nomatch h⟩
  · rw [if_neg hn, gNumT h hn]
    by_cases h46 : tIsAt c L p2 46 = true
    · rw [if_pos h46, gNeedT h46, gIsG]
      by_cases hx : tIsAt c L (p2 + 1) 120 = true
      · rw [if_pos ⟨rfl, hx⟩, if_pos hx, gTkT hx]
        refine ⟨⟨rfl, rfl, fun _ => rfl⟩, fun _ => ⟨?_, ?_⟩⟩
        · show iMx lo (n * 1000000) = iMx lo (1000000 * n); rw [Int32.mul_comm]
        · show rMin hi (n * 1000000 + 1000000 - 1) = rMin hi (1000000 * n + 999999)
          rw [Int32.mul_comm, Int32.sub_eq_add_neg, Int32.add_assoc]; rfl
      · rw [if_neg (fun h9 => hx h9.2), if_neg hx]
        unfold rP2
        rcases h2 : tNum c L (p2 + 1) with ⟨m, p3⟩
        dsimp only
        by_cases hm : m = -1
        · have hp := (tNum_m (c := c) (L := L) (p := p2 + 1) (by rw [h2]; exact hm)).2
          rw [h2] at hp
          have hp2 : p3 = p2 + 1 := hp
          rw [if_pos hm, gNumF (by rw [h2]; exact hm), gNeedB, gIsB, if_neg (by decide), gPatB]
          exact ⟨⟨hp2.symm, rfl, fun h => nomatch h⟩, fun h => nomatch h⟩
        · rw [if_neg hm, gNumT h2 hm]
          by_cases h46b : tIsAt c L p3 46 = true
          · rw [if_pos h46b, gNeedT h46b, gIsG]
            by_cases hy : tIsAt c L (p3 + 1) 120 = true
            · rw [if_pos ⟨rfl, hy⟩, if_pos hy, gTkT hy]
              refine ⟨⟨rfl, rfl, fun _ => rfl⟩, fun _ => ⟨?_, ?_⟩⟩
              · show iMx lo (n * 1000000 + m * 10000) = iMx lo (1000000 * n + 10000 * m)
                rw [Int32.mul_comm n, Int32.mul_comm m]
              · show rMin hi (n * 1000000 + m * 10000 + 10000 - 1) = rMin hi (1000000 * n + 10000 * m + 9999)
                rw [Int32.mul_comm n, Int32.mul_comm m, Int32.sub_eq_add_neg, Int32.add_assoc _ 10000 (-1)]; rfl
            · rw [if_neg (fun h9 => hy h9.2), if_neg hy]
              have ev : 1000000 * n + 10000 * m = n * 1000000 + m * 10000 := by rw [Int32.mul_comm, Int32.mul_comm 10000 m]
              dsimp only
              rw [ev]
              have hP := gPat_rVe (c := c) (L := L) (p := p3 + 1) (lt := lt) (nu := m) (a := a) (b := b) (st := n * 1000000 + m * 10000) (kd := 0) (lo := lo) (hi := hi)
              refine ⟨hP.1, fun h9 => ?_⟩
              obtain ⟨e1, e2, -⟩ := hP.2 h9
              exact ⟨e1, e2⟩
          · rw [if_neg h46b, gNeedF h46b, gIsB, if_neg (by decide), gPatB]
            exact ⟨⟨rfl, rfl, fun h => nomatch h⟩, fun h => nomatch h⟩
    · rw [if_neg h46, gNeedF h46, gIsB, gNumB, gNeedB, gIsB, if_neg (by decide), if_neg (by decide), gPatB]
      exact ⟨⟨rfl, rfl, fun h => nomatch h⟩, fun h => nomatch h⟩
theorem gNum_lh {c : Nat → Int32} {L : Nat} {s : gS} : (gNum c L s).2.2.2.2 = s.2.2.2.2 := by unfold gNum; split <;> rfl
theorem gTk_lh {c : Nat → Int32} {L : Nat} {x : Int32} {s : gS} : (gTk c L x s).2.2.2.2 = s.2.2.2.2 := by unfold gTk; split <;> rfl
theorem gNeed_lh {c : Nat → Int32} {L : Nat} {x : Int32} {s : gS} : (gNeed c L x s).2.2.2.2 = s.2.2.2.2 := by unfold gNeed; split <;> rfl
theorem gPat_lh {c : Nat → Int32} {L : Nat} {x : Int32} {s : gS} : (gPat c L x s).2.2.2.2.2 = s.2.2.2.2 := by
  unfold gPat
  split
  · show (gNum c L (gTk c L 45 (gNum c L s))).2.2.2.2 = _
    rw [gNum_lh, gTk_lh, gNum_lh]
  · exact gNum_lh
theorem gVer_lh {c : Nat → Int32} {L : Nat} {s : gS} : (gVer c L s).2.2.2.2.2 = s.2.2.2.2 := by
  unfold gVer gV4 gV3 gV2
  rw [gPat_lh, gNeed_lh, gNum_lh, gNeed_lh, gNum_lh]
theorem bhI_n {q : Nat} {b : Bool} (hq : q < 100000000) : bhI (nI q) b - 1 = if b then vCaret (nI q) else vTilde (nI q) := by
  have hv := vBh_b (b := b) hq
  have key : ∀ d, 0 < d → d ≤ 10000 → (q / 100 / d + 1) * d * 100 ≤ 100000000 → bhC ((nI q / 100 / nI d + 1) * nI d * 100) = nI ((q / 100 / d + 1) * d * 100) := by
    intro d h0 h1 h2
    rw [show (100 : Int32) = nI 100 from rfl, pk_div (a := q) (d := 100) (by omega) (by omega) (by omega), pk_div (a := q / 100) (d := d) (by omega) (by omega) (by omega), nI_1, pk_mul, pk_mul]
    unfold bhC
    by_cases h : (q / 100 / d + 1) * d * 100 ≤ 99999999
    · rw [if_pos (show _ ≤ (99999999 : Int32) from (nI_leN (b := 99999999) (by omega) (by omega)).mpr h)]
    · rw [if_neg (show ¬ nI ((q / 100 / d + 1) * d * 100) ≤ 99999999 from fun h9 => h ((nI_leN (b := 99999999) (by omega) (by omega)).mp h9)), show (q / 100 / d + 1) * d * 100 = 100000000 from by omega]; rfl
  have e1 : (nI q / 100 < 10000) ↔ q / 100 < 10000 := by rw [show (100 : Int32) = nI 100 from rfl, pk_div (a := q) (d := 100) (by omega) (by omega) (by omega)]; exact nI_ltI (b := 10000) (by omega) (by omega)
  have e2 : (nI q / 100 < 100) ↔ q / 100 < 100 := by rw [show (100 : Int32) = nI 100 from rfl, pk_div (a := q) (d := 100) (by omega) (by omega) (by omega)]; exact nI_ltI (b := 100) (by omega) (by omega)
  have k1 := key 1 (by omega) (by omega) (by omega)
  have k2 := key 100 (by omega) (by omega) (by omega)
  have k3 := key 10000 (by omega) (by omega) (by omega)
  have hb : bhI (nI q) b = nI (vBh q b) := by
    unfold bhI vBh
    cases b
    · rw [if_neg (by decide), if_neg (by decide)]; refine k2.trans (congrArg nI (by omega))
    · rw [if_pos rfl, if_pos rfl]
      by_cases h1 : q / 100 < 10000
      · rw [if_pos (e1.mpr h1), if_pos (show q < 1000000 by omega)]
        by_cases h2 : q / 100 < 100
        · rw [if_pos (e2.mpr h2), if_pos (show q < 10000 by omega)]; exact k1.trans (congrArg nI (by omega))
        · rw [if_neg (fun h => h2 (e2.mp h)), if_neg (show ¬ q < 10000 by omega)]; exact k2.trans (congrArg nI (by omega))
      · rw [if_neg (fun h => h1 (e1.mp h)), if_neg (show ¬ q < 1000000 by omega)]; exact k3.trans (congrArg nI (by omega))
  rw [hb, nI_prd hv.1]
  cases b
  · rw [if_neg (by decide), vBh_t hq]
  · rw [if_pos rfl, vBh_c hq]
theorem iMx_0 {x : Int32} (h : ¬ x < 0) : iMx x 0 = x := if_neg h
theorem rMin_M {x : Int32} (h : x ≤ 99999999) : rMin x 99999999 = x := if_neg (Int32.not_lt.mpr h)
theorem gPrt_rPt {c : Nat → Int32} {L p : Nat} {lt : Bool} {nu a b : Int32} {lo hi : Int32} (h0 : ¬ lo < 0) (h1 : hi ≤ 99999999) : gOk (rPt c L p lo hi lt) (gPrt c L (p, false, lt, nu, a, b)) ∧ ((rPt c L p lo hi lt).1 = true →
    (rPt c L p lo hi lt).2.2.1 = iMx lo (gPrt c L (p, false, lt, nu, a, b)).2.2.2.2.1 ∧ (rPt c L p lo hi lt).2.2.2.1 = rMin hi (gPrt c L (p, false, lt, nu, a, b)).2.2.2.2.2) := by
  have e0 : gS0 (p, false, lt, nu, a, b) = (p, false, lt, nu, 0, 99999999) := rfl
  unfold rPt gPrt rKind
  rw [e0, gIsG, gIsG, gIsG, gIsG, gIsG, gIsG]
  by_cases c42 : tIsAt c L p 42 = true
  · rw [if_pos c42, if_pos c42, gTkT c42]
    exact ⟨⟨rfl, rfl, fun _ => rfl⟩, fun _ => ⟨(iMx_0 h0).symm, (rMin_M h1).symm⟩⟩
  · rw [if_neg c42, if_neg c42]
    by_cases c60 : tIsAt c L p 60 = true
    · rw [if_pos c60, if_pos c60, gTkT c60, gIsG]
      by_cases c61 : tIsAt c L (p + 1) 61 = true
      · rw [if_pos c61, if_pos c61, gTkT c61]
        have hP := gVer_rP1 (c := c) (L := L) (p := p + 1 + 1) (lt := lt) (nu := nu) (a := 0) (b := 99999999) (kd := 3) (lo := lo) (hi := hi) (by decide)
        refine ⟨⟨hP.1.1, hP.1.2.1, hP.1.2.2⟩, fun h9 => ?_⟩
        obtain ⟨g1, g2, -⟩ := hP.2 h9
        refine ⟨g1.trans ?_, g2.trans ?_⟩
        · show iMx lo 0 = iMx lo (gVer c L _).2.2.2.2.2.1; rw [gVer_lh]
        · show rMin hi _ = rMin hi (_ - 0); rw [Int32.sub_zero]
      · rw [if_neg c61, if_neg c61, gTkF c61]
        have hP := gVer_rP1 (c := c) (L := L) (p := p + 1) (lt := lt) (nu := nu) (a := 0) (b := 99999999) (kd := 2) (lo := lo) (hi := hi) (by decide)
        refine ⟨⟨hP.1.1, hP.1.2.1, hP.1.2.2⟩, fun h9 => ?_⟩
        obtain ⟨g1, g2, -⟩ := hP.2 h9
        refine ⟨g1.trans ?_, g2.trans rfl⟩
        show iMx lo 0 = iMx lo (gVer c L _).2.2.2.2.2.1; rw [gVer_lh]
    · rw [if_neg c60, if_neg c60]
      by_cases c62 : tIsAt c L p 62 = true
      · rw [if_pos c62, if_pos c62, gTkT c62, gIsG]
        by_cases c61 : tIsAt c L (p + 1) 61 = true
        · rw [if_pos c61, if_pos c61, gTkT c61]
          have hP := gVer_rP1 (c := c) (L := L) (p := p + 1 + 1) (lt := lt) (nu := nu) (a := 0) (b := 99999999) (kd := 5) (lo := lo) (hi := hi) (by decide)
          refine ⟨⟨hP.1.1, hP.1.2.1, hP.1.2.2⟩, fun h9 => ?_⟩
          obtain ⟨g1, g2, -⟩ := hP.2 h9
          refine ⟨g1.trans ?_, g2.trans ?_⟩
          · show iMx lo _ = iMx lo (_ + 0); rw [Int32.add_zero]
          · show rMin hi 99999999 = rMin hi (gVer c L _).2.2.2.2.2.2; rw [gVer_lh]
        · rw [if_neg c61, if_neg c61, gTkF c61]
          have hP := gVer_rP1 (c := c) (L := L) (p := p + 1) (lt := lt) (nu := nu) (a := 0) (b := 99999999) (kd := 4) (lo := lo) (hi := hi) (by decide)
          refine ⟨⟨hP.1.1, hP.1.2.1, hP.1.2.2⟩, fun h9 => ?_⟩
          obtain ⟨g1, g2, -⟩ := hP.2 h9
          refine ⟨g1.trans rfl, g2.trans ?_⟩
          show rMin hi 99999999 = rMin hi (gVer c L _).2.2.2.2.2.2; rw [gVer_lh]
      · rw [if_neg c62, if_neg c62]
        by_cases c61 : tIsAt c L p 61 = true
        · rw [if_pos c61, if_pos c61, gTkT c61]
          have hP := gVer_rP1 (c := c) (L := L) (p := p + 1) (lt := lt) (nu := nu) (a := 0) (b := 99999999) (kd := 1) (lo := lo) (hi := hi) (by decide)
          refine ⟨⟨hP.1.1, hP.1.2.1, hP.1.2.2⟩, fun h9 => ?_⟩
          obtain ⟨g1, g2, -⟩ := hP.2 h9
          exact ⟨g1.trans rfl, g2.trans rfl⟩
        · rw [if_neg c61, if_neg c61]
          by_cases c94 : tIsAt c L p 94 = true
          · rw [if_pos c94, if_pos c94, gTkT c94]
            have hP := gVer_rP1 (c := c) (L := L) (p := p + 1) (lt := lt) (nu := nu) (a := 0) (b := 99999999) (kd := 6) (lo := lo) (hi := hi) (by decide)
            refine ⟨⟨hP.1.1, hP.1.2.1, hP.1.2.2⟩, fun h9 => ?_⟩
            obtain ⟨g1, g2, q, hq, eq⟩ := hP.2 h9
            refine ⟨g1.trans rfl, g2.trans ?_⟩
            show rMin hi (vCaret _) = rMin hi (bhI _ true - 1)
            rw [eq, bhI_n hq]; rfl
          · rw [if_neg c94, if_neg c94]
            by_cases c126 : tIsAt c L p 126 = true
            · rw [if_pos c126, if_pos c126, gTkT c126]
              have hP := gVer_rP1 (c := c) (L := L) (p := p + 1) (lt := lt) (nu := nu) (a := 0) (b := 99999999) (kd := 7) (lo := lo) (hi := hi) (by decide)
              refine ⟨⟨hP.1.1, hP.1.2.1, hP.1.2.2⟩, fun h9 => ?_⟩
              obtain ⟨g1, g2, q, hq, eq⟩ := hP.2 h9
              refine ⟨g1.trans rfl, g2.trans ?_⟩
              show rMin hi (vTilde _) = rMin hi (bhI _ false - 1)
              rw [eq, bhI_n hq]; rfl
            · rw [if_neg c126, if_neg c126]
              exact gSer_rP1
theorem rVe_ge {c : Nat → Int32} {L p : Nat} {kd st lo hi : Int32} {b : Bool} (h : (rVe c L kd st p lo hi b).1 = true) : p + 1 ≤ (rVe c L kd st p lo hi b).2.1 := by
  unfold rVe at h ⊢
  by_cases h1 : (tNum c L p).1 = -1
  · rw [if_pos h1] at h; exact nomatch h
  · rw [if_neg h1] at h ⊢
    have a1 := (tNum_n h1).2.1
    by_cases h2 : tIsAt c L (tNum c L p).2 45 = true
    · rw [if_pos h2] at h ⊢
      by_cases h3 : (tNum c L ((tNum c L p).2 + 1)).1 = -1
      · rw [if_pos h3] at h; exact nomatch h
      · rw [if_neg h3]
        have a2 := (tNum_n h3).2.1
        show p + 1 ≤ (tNum c L ((tNum c L p).2 + 1)).2
        omega
    · rw [if_neg h2]; exact a1
theorem rP1_ge {c : Nat → Int32} {L p : Nat} {kd lo hi : Int32} {b : Bool} (h : (rP1 c L kd p lo hi b).1 = true) : p + 3 ≤ (rP1 c L kd p lo hi b).2.1 := by
  unfold rP1 at h ⊢
  by_cases h1 : (tNum c L p).1 = -1
  · rw [if_pos h1] at h; exact nomatch h
  · rw [if_neg h1] at h ⊢
    have a1 := (tNum_n h1).2.1
    by_cases h2 : tIsAt c L (tNum c L p).2 46 = true
    · rw [if_pos h2] at h ⊢
      by_cases h3 : kd = 0 ∧ tIsAt c L ((tNum c L p).2 + 1) 120 = true
      · rw [if_pos h3]; show p + 3 ≤ (tNum c L p).2 + 1 + 1; omega
      · rw [if_neg h3] at h ⊢
        unfold rP2 at h ⊢
        by_cases h4 : (tNum c L ((tNum c L p).2 + 1)).1 = -1
        · rw [if_pos h4] at h; exact nomatch h
        · rw [if_neg h4] at h ⊢
          have a2 := (tNum_n h4).2.1
          by_cases h5 : tIsAt c L (tNum c L ((tNum c L p).2 + 1)).2 46 = true
          · rw [if_pos h5] at h ⊢
            by_cases h6 : kd = 0 ∧ tIsAt c L ((tNum c L ((tNum c L p).2 + 1)).2 + 1) 120 = true
            · rw [if_pos h6]; show p + 3 ≤ (tNum c L ((tNum c L p).2 + 1)).2 + 1 + 1; omega
            · rw [if_neg h6] at h ⊢
              have := rVe_ge h
              omega
          · rw [if_neg h5] at h; exact nomatch h
    · rw [if_neg h2] at h; exact nomatch h
theorem rKind_ge {c : Nat → Int32} {L p : Nat} : p ≤ (rKind c L p).2 := by
  unfold rKind
  repeat' split
  all_goals (first | exact Nat.le_refl _ | (show p ≤ p + 1; omega) | (show p ≤ p + 1 + 1; omega))
theorem rPt_ge {c : Nat → Int32} {L p : Nat} {lo hi : Int32} {b : Bool} (h : (rPt c L p lo hi b).1 = true) : rPt c L p lo hi b = (true, p + 1, lo, hi, b) ∨ p + 3 ≤ (rPt c L p lo hi b).2.1 := by
  unfold rPt at h ⊢
  by_cases h1 : tIsAt c L p 42 = true
  · rw [if_pos h1]; exact Or.inl rfl
  · rw [if_neg h1] at h ⊢
    have := rP1_ge h
    have := rKind_ge (c := c) (L := L) (p := p)
    exact Or.inr (by omega)
