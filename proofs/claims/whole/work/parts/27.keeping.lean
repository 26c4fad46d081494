def cKeep (A : cA) : cA := (A.1, A.2.1, A.2.2.1, cCh A, cNw A, cSn A, cHs A, min (cKp A + 1) 8, fun i => if i + 1 = min (cKp A + 1) 8 then cNw A else cHi A (i + (cKp A + 1) - min (cKp A + 1) 8))
def cSet (A : cA) (k : Nat) (x : Option rVl) : cA := (A.1, A.2.1, A.2.2.1, cCh A, (fun j => if j = k then x else (cNw A).1 j, (cNw A).2), cSn A, cHs A, cKp A, cHi A)
/-- the memory when the history has kept the state now -/
def jKM (M : jM) (v nx kp : Nat) : jM := jSi (jSi (jBL M (v + 8 + 2 + 3 * nx) (v + 2)) (v + 8) 1 (nI ((nx + 1) % 8))) (v + 8) 2 (nI (min (kp + 1) 8))
theorem jCl_BL {M : jM} {s o : Nat} (h : jCl M) (h1 : o + 1 < jn M) (h2 : s + 1 < jn M) : jCl (jBL M s o) := by
  intro a j q ha hq
  unfold jBL at hq
  rw [jr_Si, jr_Sv, jr_Sq] at hq
  split at hq
  · unfold jBR at hq
    split at hq
    · exact h (o + 1) j q h1 hq
    · exact h (s + 1) j q h2 hq
  · exact h a j q ha hq
/-- what the keeping does to the memory, told by its cells -/
def jKf (M K : jM) (v nx kp : Nat) : Prop := jn K = jn M ∧ jk K = jk M ∧ jz K = jz M ∧ jl K = jl M ∧ jd K = jd M ∧ (∀ a, a ≠ v + 8 → a ≠ v + 8 + 2 + 3 * nx → a ≠ v + 8 + 2 + 3 * nx + 2 → ji K a = ji M a) ∧ (∀ a, a ≠ v + 8 + 2 + 3 * nx + 1 → jr K a = jr M a) ∧ ji K (v + 8) 1 = nI ((nx + 1) % 8) ∧ ji K (v + 8) 2 = nI (min (kp + 1) 8) ∧
  ji K (v + 8 + 2 + 3 * nx) 2 = ji M (v + 2) 2 ∧ (∀ j, j < 30 → ji K (v + 8 + 2 + 3 * nx + 2) j = ji M (v + 2 + 2) j) ∧ (∀ j, j < 12 → jr K (v + 8 + 2 + 3 * nx + 1) j = jr M (v + 2 + 1) j) ∧ (jCl M → v + 36 ≤ jn M → nx < 8 → jCl K)
theorem jKM_f (M : jM) (v nx kp : Nat) : jKf M (jKM M v nx kp) v nx kp := by
  unfold jKM
  refine ⟨rfl, rfl, rfl, rfl, rfl, fun a h1 h2 h3 => ?_, fun a h1 => ?_, ?_, ?_, ?_, fun j hj => ?_, fun j hj => ?_, fun hc h1 h2 => jCl_Si (jCl_Si (jCl_BL hc (by omega) (by omega)))⟩
  · funext j
    rw [ji_Si, if_neg (fun h => h1 h.1), ji_Si, if_neg (fun h => h1 h.1), jBL_i h2 h3]
  · funext j
    rw [jr_Si, jr_Si, jBL_r h1]
  · rw [ji_Si, if_neg (fun h => absurd h.2 (by decide)), ji_Si, if_pos ⟨rfl, rfl⟩]
  · rw [ji_Si, if_pos ⟨rfl, rfl⟩]
  · rw [ji_Si, if_neg (fun h => by omega), ji_Si, if_neg (fun h => by omega)]
    unfold jBL
    rw [ji_Si, if_pos ⟨rfl, rfl⟩]
  · rw [ji_Si, if_neg (fun h => by omega), ji_Si, if_neg (fun h => by omega)]
    unfold jBL
    rw [ji_Si, if_neg (fun h => by omega), ji_Sv, if_pos rfl]
    simp [va_cpy, hj]
  · rw [jr_Si, jr_Si]
    unfold jBL
    rw [jr_Si, jr_Sv, jr_Sq, if_pos rfl]
    unfold jBR
    rw [if_pos hj]
theorem jKf.fv {M K : jM} {v nx kp : Nat} (h : jKf M K v nx kp) (hx : nx < 8) : jFv v M K := by
  obtain ⟨k1, k2, k3, k4, k5, k6, k7, -⟩ := h
  exact ⟨Nat.le_of_eq k1.symm, fun a _ => ⟨by rw [k2], by rw [k3]⟩, fun a _ hv _ => ⟨k6 a (by omega) (by omega) (by omega), k7 a (by omega), by rw [k4], by rw [k5]⟩, fun a _ hv _ h9 => h9.eq (k6 a (by omega) (by omega) (by omega))⟩
theorem jA1.same {M K : jM} {v : Nat} {A : cA} (h : jA1 M v A) (k2 : jk K (v + 1) = jk M (v + 1)) (k3 : jz K (v + 1) = jz M (v + 1)) (hr : jr K v = jr M v) (h0 : ji K v = ji M v) (h1 : ji K (v + 1) = ji M (v + 1)) : jA1 K v A := by
  obtain ⟨a1, a2, a3, a4, a5, a6, a7, a8, a9, a10, a11, a12, a13⟩ := h
  exact ⟨by rw [hr]; exact a1, by rw [hr]; exact a2, by rw [hr]; exact a3, by rw [hr]; exact a4, by rw [hr]; exact a5, k2.trans a6, k3.trans a7, by rw [h0]; exact a8, a9, h1.trans a10, by rw [h0]; exact a11, by rw [h0]; exact a12, by rw [h0]; exact a13⟩
/-- a state whose cells hold what another's held -/
theorem jSt.copy {M K : jM} {s o d : Nat} {z : cSt} (h : jSt M o z) (hs : jStt M s d) (e : jRk M K) (hr : jr K s = jr M s) (h2 : ji K s 2 = ji M o 2) (h3 : ∀ j, j < 30 → ji K (s + 2) j = ji M (o + 2) j) (h4 : ∀ j, j < 12 → jr K (s + 1) j = jr M (o + 1) j) : jSt K s z := by
  obtain ⟨⟨a1, a2, a3, a4, a5, a6, a7, a8, a9, a10⟩, b, c⟩ := h
  obtain ⟨s1, s2, s3, s4, s5, s6, s7, s8, s9, s10⟩ := hs
  have k0 := e.2.1 s (by omega)
  have k1 := e.2.1 (s + 1) (by omega)
  have k2 := e.2.1 (s + 2) (by omega)
  refine ⟨⟨Nat.lt_of_lt_of_le s1 e.1, k0.1.trans s2, by rw [hr]; exact s3, by rw [hr]; exact s4, k1.1.trans s5, k1.2.trans s6, k2.1.trans s7, k2.2.trans s8, h2.trans a9, a10⟩, fun j hj => ?_, fun j hj => ?_⟩
  · rw [h4 j hj]; exact ⟨(b j hj).1.rk e, (b j hj).2⟩
  · rw [h3 j (by omega)]; exact c j hj
theorem jAb.keep {M K : jM} {v nx : Nat} {A : cA} (h : jAb M v A) (hH : jHis M (v + 8) nx (cKp A)) (h8 : ∀ i, i < cKp A → jSt M (v + 8 + 2 + 3 * ((nx + 8 - cKp A + i) % 8)) (cHi A i)) (hK : jKf M K v nx (cKp A)) : jAb K v (cKeep A) := by
  obtain ⟨g1, g2, g3, g4, g5, g6, -, g9⟩ := h
  obtain ⟨e1, e2, e3, e4, e5, e6, e7, e8, e9, e10, e11⟩ := id hH
  have hf := hK.fv e10
  have rk := hf.rk g1
  have lt := Nat.le_trans (Nat.add_le_add_left (show 36 ≤ 52 by decide) _) g1.1
  obtain ⟨k1, k2, k3, k4, k5, k6, k7, k8, k9, k10, k11, k12, k13⟩ := hK
  have hold : ∀ s z, jSt M s z → (∀ i, i < 3 → s + i ≠ v + 8) → (s + 2 < v + 8 + 2 + 3 * nx ∨ v + 8 + 2 + 3 * nx + 2 < s) → jSt K s z := fun s z hs h3 h4 => by
    have x0 := h3 0 (by decide)
    have x2 := h3 2 (by decide)
    exact hs.rk rk ⟨k7 _ (by omega), by rw [k6 _ (by omega) (by omega) (by omega)]⟩ (k7 _ (by omega)) (k6 _ (by omega) (by omega) (by omega))
  obtain ⟨d, hd⟩ := e7 nx e10
  have hnew2 : jSt K (v + 8 + 2 + 3 * nx) (cNw A) := g5.copy hd rk (k7 _ (by omega)) k10 k11 k12
  refine ⟨g1.fv hf, k13 g2 lt e10, g3.same (by rw [k2]) (by rw [k3]) (k7 _ (by omega)) (k6 _ (by omega) (by omega) (by omega)) (k6 _ (by omega) (by omega) (by omega)), g4.fv hf (by rw [k7 v (by omega)]), hold _ _ g5 (fun i hi => by omega) (by omega), hold _ _ g6 (fun i hi => by omega) (by omega), ⟨(nx + 1) % 8, ?_, fun i hi => ?_⟩, g9.rk hf.1 hf.2.1 (k7 _ (by omega)) (k6 _ (by omega) (by omega) (by omega)) hf.sb⟩
  · refine ⟨by rw [k1]; exact e1, by rw [k2]; exact e2, by rw [k7 _ (by omega)]; exact e3, by rw [k2]; exact e4, by rw [k3]; exact e5, fun j hj => by rw [k7 _ (by omega)]; exact e6 j hj, fun j hj => ?_, k8, k9, Nat.mod_lt _ (by decide), Nat.min_le_right _ _⟩
    by_cases hjn : j = nx
    · rw [hjn]; exact ⟨_, hnew2.1⟩
    · obtain ⟨c, s1, s2, s3, s4, s5, s6, s7, s8, s9, s10⟩ := e7 j hj
      exact ⟨c, by rw [k1]; exact s1, by rw [k2]; exact s2, by rw [k7 _ (by omega)]; exact s3, by rw [k7 _ (by omega)]; exact s4, by rw [k2]; exact s5, by rw [k3]; exact s6, by rw [k2]; exact s7, by rw [k3]; exact s8, by rw [k6 _ (by omega) (by omega) (by omega)]; exact s9, s10⟩
  · have hi2 : i < min (cKp A + 1) 8 := hi
    show jSt K (v + 8 + 2 + 3 * (((nx + 1) % 8 + 8 - min (cKp A + 1) 8 + i) % 8)) (if i + 1 = min (cKp A + 1) 8 then cNw A else cHi A (i + (cKp A + 1) - min (cKp A + 1) 8))
    by_cases hlast : i + 1 = min (cKp A + 1) 8
    · rw [if_pos hlast, show ((nx + 1) % 8 + 8 - min (cKp A + 1) 8 + i) % 8 = nx from by omega]
      exact hnew2
    · rw [if_neg hlast]
      have h9 := h8 (i + (cKp A + 1) - min (cKp A + 1) 8) (by omega)
      rw [show (nx + 8 - cKp A + (i + (cKp A + 1) - min (cKp A + 1) 8)) % 8 = ((nx + 1) % 8 + 8 - min (cKp A + 1) 8 + i) % 8 from by omega] at h9
      exact hold _ _ h9 (fun i hi => by omega) (by omega)
theorem jAb.set {M : jM} {v k : Nat} {A : cA} {r : Option Nat} {x : Option rVl} (h : jAb M v A) (hk : k < 12) (hx : jVa M r x) (h16 : v16 x) : jAb (jSr M (v + 2 + 1) k r) v (cSet A k x) := by
  obtain ⟨g1, g2, g3, g4, g5, g6, ⟨nx, g7, g8⟩, g9⟩ := h
  have hrow : ∀ a, a ≠ v + 2 + 1 → jr (jSr M (v + 2 + 1) k r) a = jr M a := fun a ha => funext fun j => by rw [jr_Sr, if_neg (fun h => ha h.1)]
  have hf : jFv v M (jSr M (v + 2 + 1) k r) := ⟨Nat.le_refl _, fun _ _ => ⟨rfl, rfl⟩, fun a _ hv _ => ⟨rfl, hrow a (by omega), rfl, rfl⟩, fun a _ _ _ h => h⟩
  have rk := hf.rk g1
  have lt := Nat.le_trans (Nat.add_le_add_left (show 36 ≤ 52 by decide) _) g1.1
  refine ⟨g1.fv hf, jCl_Sr g2 (jVa_lt hx), ?_, g4.fv hf (by rw [hrow v (by omega)]), ?_, g6.rk rk ⟨hrow _ (by omega), rfl⟩ (hrow _ (by omega)) rfl, ⟨nx, g7.fv hf.1 hf.2.1 ⟨hrow _ (by omega), rfl⟩ (hrow _ (by omega)) (fun j hj => ⟨hrow _ (by omega), rfl⟩), fun i hi => ?_⟩, g9.rk hf.1 hf.2.1 (hrow _ (by omega)) rfl hf.sb⟩
  · obtain ⟨a1, a2, a3, a4, a5, a6, a7, a8, a9, a10, a11, a12, a13⟩ := g3
    have hr0 := hrow v (by omega)
    exact ⟨by rw [hr0]; exact a1, by rw [hr0]; exact a2, by rw [hr0]; exact a3, by rw [hr0]; exact a4, by rw [hr0]; exact a5, a6, a7, a8, a9, a10, a11, a12, a13⟩
  · obtain ⟨⟨a1, a2, a3, a4, a5, a6, a7, a8, a9, a10⟩, b, c⟩ := g5
    refine ⟨⟨a1, a2, by rw [hrow _ (by omega)]; exact a3, by rw [hrow _ (by omega)]; exact a4, a5, a6, a7, a8, a9, a10⟩, fun j hj => ?_, c⟩
    show jVa _ (jr (jSr M (v + 2 + 1) k r) (v + 2 + 1) j) (if j = k then x else (cNw A).1 j) ∧ v16 (if j = k then x else (cNw A).1 j)
    rw [jr_Sr]
    by_cases hj2 : j = k
    · rw [if_pos ⟨rfl, hj2⟩, if_pos hj2]; exact ⟨hx.rk rk, h16⟩
    · rw [if_neg (fun h => hj2 h.2), if_neg hj2]; exact ⟨(b j hj).1.rk rk, (b j hj).2⟩
  · exact (g8 i hi).rk rk ⟨hrow _ (by omega), rfl⟩ (hrow _ (by omega)) rfl
theorem jSet_fv {M : jM} {v k : Nat} {r : Option Nat} : jFv v M (jSr M (v + 2 + 1) k r) := ⟨Nat.le_refl _, fun _ _ => ⟨rfl, rfl⟩, fun a _ hv _ => ⟨rfl, funext fun j => by rw [jr_Sr, if_neg (fun h => by omega)], rfl, rfl⟩, fun a _ _ _ h => h⟩
/-- what a call leaves: its outcome, the object's new state, nothing else changed -/
def jPa (M : jM) (v : Nat) (o0 : jO) (A : cA) : jP := fun o M1 => o = o0 ∧ jAb M1 v A ∧ jFv v M M1
