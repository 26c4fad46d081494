abbrev cR : Type := jO × cA
/-- what a call leaves: outcome and state -/
def jPr (M : jM) (v : Nat) (R : cR) : jP := jPa M v R.1 R.2
def sSl (x : Int32) (A : cA) (R : cR) : cR := if okSlot x then R else (oX xIOOBE, A)
def sVe (x : Int32) (A : cA) (R : cR) : cR := if okVer x then R else (oX xIAE, A)
theorem sSl_t {x : Int32} {A : cA} {R : cR} (h : okSlot x = true) : sSl x A R = R := if_pos h
theorem sSl_f {x : Int32} {A : cA} {R : cR} (h : okSlot x = false) : sSl x A R = (oX xIOOBE, A) := if_neg (by rw [h]; decide)
theorem sVe_t {x : Int32} {A : cA} {R : cR} (h : okVer x = true) : sVe x A R = R := if_pos h
theorem sVe_f {x : Int32} {A : cA} {R : cR} (h : okVer x = false) : sVe x A R = (oX xIAE, A) := if_neg (by rw [h]; decide)
def cApp (A : cA) (c : Int32) : cA := ((cL A + 1, fun j => if j = cL A then c else cC A j), A.2)
def cRef (A : cA) (k : Int32) : cA := (A.1, A.2.1, k, A.2.2.2)
def cFin (A : cA) (f : Int32) : cA := ((0, cC A), f, A.2.2)
def cChn (A : cA) (w : rVl) : cA := (A.1, A.2.1, A.2.2.1, some w, A.2.2.2.2)
def cPut (A : cA) (k : Nat) (x : Option rVl) : cA := cSet (cKeep A) k x
def cNwS (A : cA) (z : cSt) : cA := (A.1, A.2.1, A.2.2.1, cCh A, z, A.2.2.2.2.2)
theorem jSi_fv {M : jM} {v a k : Nat} {x : Int32} (h1 : v ≤ a) (h2 : a < v + 35) : jFv v M (jSi M a k x) := ⟨Nat.le_refl _, fun _ _ => ⟨rfl, rfl⟩, fun b _ hb _ => ⟨funext fun j => by rw [ji_Si, if_neg (fun h => by omega)], rfl, rfl, rfl⟩, fun b _ hb _ h9 => h9.eq (funext fun j => by rw [ji_Si, if_neg (fun h => by omega)])⟩
theorem jAb.si {M : jM} {v k : Nat} {x : Int32} {A A2 : cA} (h : jAb M v A) (h1 : jA1 (jSi M v k x) v A2) (e0 : cCh A2 = cCh A) (e1 : cNw A2 = cNw A) (e2 : cSn A2 = cSn A) (e3 : cKp A2 = cKp A) (e4 : cHi A2 = cHi A) : jAb (jSi M v k x) v A2 :=
  h.own (jSi_fv (Nat.le_refl _) (by omega)) h.2.1 h1 (by rw [e0]; exact h.2.2.2.1.fv (jSi_fv (Nat.le_refl _) (by omega)) rfl) (fun a ha _ => ⟨funext fun j => by rw [ji_Si, if_neg (fun h => by omega)], rfl⟩) e1 e2 e3 e4
theorem jAb.app {M : jM} {v : Nat} {A : cA} {c : Int32} (h : jAb M v A) (hl : cL A < 60) : jAb (jSi (jSi M (v + 1) (cL A) c) v 1 (nI (cL A + 1))) v (cApp A c) := by
  obtain ⟨a1, a2, a3, a4, a5, a6, a7, a8, a9, a10, a11, a12, a13⟩ := id h.2.2.1
  have hf : jFv v M (jSi (jSi M (v + 1) (cL A) c) v 1 (nI (cL A + 1))) := (jSi_fv (by omega) (by omega)).tr (jSi_fv (Nat.le_refl _) (by omega))
  refine h.own hf h.2.1 ⟨a1, a2, a3, a4, a5, a6, a7, ?_, hl, ?_, ?_, ?_, ?_⟩ (h.2.2.2.1.fv hf rfl) (fun a ha _ => ⟨funext fun j => by rw [ji_Si, if_neg (fun h => by omega), ji_Si, if_neg (fun h => by omega)], rfl⟩) rfl rfl rfl rfl
  · rw [ji_Si, if_pos ⟨rfl, rfl⟩]; rfl
  · funext j
    rw [ji_Si, if_neg (fun h => by omega), ji_Si]
    show _ = if j = cL A then c else cC A j
    by_cases hj : j = cL A
    · rw [if_pos ⟨rfl, hj⟩, if_pos hj]
    · rw [if_neg (fun h => hj h.2), if_neg hj, a10]
  · rw [ji_Si, if_neg (fun h => absurd h.2 (by decide)), ji_Si, if_neg (fun h => by omega)]; exact a11
  · rw [ji_Si, if_neg (fun h => absurd h.2 (by decide)), ji_Si, if_neg (fun h => by omega)]; exact a12
  · rw [ji_Si, if_neg (fun h => absurd h.2 (by decide)), ji_Si, if_neg (fun h => by omega)]; exact a13
theorem jAb.ref {M : jM} {v : Nat} {A : cA} {k : Int32} (h : jAb M v A) : jAb (jSi M v 3 k) v (cRef A k) := by
  obtain ⟨a1, a2, a3, a4, a5, a6, a7, a8, a9, a10, a11, a12, a13⟩ := id h.2.2.1
  refine h.si ⟨a1, a2, a3, a4, a5, a6, a7, ?_, a9, ?_, ?_, ?_, ?_⟩ rfl rfl rfl rfl rfl
  · rw [ji_Si, if_neg (fun h => absurd h.2 (by decide))]; exact a8
  · funext j; rw [ji_Si, if_neg (fun h => by omega)]; exact congrFun a10 j
  · rw [ji_Si, if_neg (fun h => absurd h.2 (by decide))]; exact a11
  · rw [ji_Si, if_pos ⟨rfl, rfl⟩]; rfl
  · rw [ji_Si, if_neg (fun h => absurd h.2 (by decide))]; exact a13
theorem jAb.fin {M : jM} {v : Nat} {A : cA} {f : Int32} (h : jAb M v A) : jAb (jSi (jSi M v 1 0) v 2 f) v (cFin A f) ∧ jFv v M (jSi (jSi M v 1 0) v 2 f) := by
  obtain ⟨a1, a2, a3, a4, a5, a6, a7, a8, a9, a10, a11, a12, a13⟩ := id h.2.2.1
  have hf : jFv v M (jSi (jSi M v 1 0) v 2 f) := (jSi_fv (Nat.le_refl _) (by omega)).tr (jSi_fv (Nat.le_refl _) (by omega))
  refine ⟨h.own hf h.2.1 ⟨a1, a2, a3, a4, a5, a6, a7, ?_, Nat.zero_le _, ?_, ?_, ?_, ?_⟩ (h.2.2.2.1.fv hf rfl) (fun a ha _ => ⟨funext fun j => by rw [ji_Si, if_neg (fun h => by omega), ji_Si, if_neg (fun h => by omega)], rfl⟩) rfl rfl rfl rfl, hf⟩
  · rw [ji_Si, if_neg (fun h => absurd h.2 (by decide)), ji_Si, if_pos ⟨rfl, rfl⟩]; rfl
  · funext j; rw [ji_Si, if_neg (fun h => by omega), ji_Si, if_neg (fun h => by omega)]; exact congrFun a10 j
  · rw [ji_Si, if_pos ⟨rfl, rfl⟩]; rfl
  · rw [ji_Si, if_neg (fun h => absurd h.2 (by decide)), ji_Si, if_neg (fun h => absurd h.2 (by decide))]; exact a12
  · rw [ji_Si, if_neg (fun h => absurd h.2 (by decide)), ji_Si, if_neg (fun h => absurd h.2 (by decide))]; exact a13
theorem jVa_k {M : jM} {r : Option Nat} {x : Option rVl} (h : jVa M r x) : ∀ q, r = some q → q < jn M ∧ jk M q = 7 := by
  intro q hq
  subst hq
  obtain ⟨w, -, hg, -⟩ := h.some
  exact ⟨Nat.lt_of_succ_lt hg.1, hg.2.1⟩
/-- what copying a state does to the memory -/
def jLf (M K : jM) (v s o : Nat) : Prop := jn K = jn M ∧ jk K = jk M ∧ jz K = jz M ∧ jl K = jl M ∧ jd K = jd M ∧ (∀ a, a ≠ v → a ≠ v + 8 → a ≠ s → a ≠ s + 2 → ji K a = ji M a) ∧ (∀ a, a ≠ s + 1 → jr K a = jr M a) ∧
  ji K s 2 = ji M o 2 ∧ (∀ j, j < 30 → ji K (s + 2) j = ji M (o + 2) j) ∧ ∀ j, j < 12 → jr K (s + 1) j = jr M (o + 1) j
theorem jAb.like {M K : jM} {v s o : Nat} {A A2 : cA} {z : cSt} (h : jAb M v A) (hs : s = v + 2 ∨ s = v + 5) (hK : jLf M K v s o) (hcl : jCl K) (ho : jSt M o z) (h1 : jA1 K v A2) (eC : cCh A2 = cCh A) (hN : s = v + 2 → cNw A2 = z ∧ cSn A2 = cSn A) (hS : s = v + 5 → cSn A2 = z ∧ cNw A2 = cNw A)
    (hH : ∃ nx, nx < 8 ∧ cKp A2 ≤ 8 ∧ ji K (v + 8) 1 = nI nx ∧ ji K (v + 8) 2 = nI (cKp A2) ∧ ∀ i, i < cKp A2 → jSt M (v + 8 + 2 + 3 * ((nx + 8 - cKp A2 + i) % 8)) (cHi A2 i)) : jAb K v A2 ∧ jFv v M K := by
  obtain ⟨g1, g2, g3, g4, g5, g6, ⟨nx0, g7, g8⟩, g9⟩ := h
  obtain ⟨k1, k2, k3, k4, k5, k6, k7, k8, k9, k10⟩ := hK
  have lt := Nat.le_trans (Nat.add_le_add_left (show 36 ≤ 52 by decide) _) g1.1
  have hf : jFv v M K := ⟨Nat.le_of_eq k1.symm, fun a _ => ⟨by rw [k2], by rw [k3]⟩, fun a _ hv _ => ⟨k6 a (by omega) (by omega) (by omega) (by omega), k7 a (by omega), by rw [k4], by rw [k5]⟩, fun a _ hv _ h9 => h9.eq (k6 a (by omega) (by omega) (by omega) (by omega))⟩
  have rk := hf.rk g1
  have hold : ∀ s1 z1, jSt M s1 z1 → v + 2 ≤ s1 → (s1 + 2 < v + 8 ∨ v + 8 < s1) → (s1 + 2 < s ∨ s + 2 < s1) → jSt K s1 z1 := fun s1 z1 hs1 x1 x2 x3 =>
    hs1.rk rk ⟨k7 _ (by omega), by rw [k6 _ (by omega) (by omega) (by omega) (by omega)]⟩ (k7 _ (by omega)) (k6 _ (by omega) (by omega) (by omega) (by omega))
  have hnew : ∀ d, jStt M s d → jSt K s z := fun d hd => ho.copy hd rk (k7 _ (by omega)) k8 k9 k10
  obtain ⟨e1, e2, e3, e4, e5, e6, e7, e8, e9, e10, e11⟩ := g7
  obtain ⟨nx, b1, b2, b3, b4, b5⟩ := hH
  refine ⟨⟨g1.fv hf, hcl, h1, by rw [eC]; exact g4.fv hf (by rw [k7 v (by omega)]), ?_, ?_, ⟨nx, ⟨by rw [k1]; exact e1, by rw [k2]; exact e2, by rw [k7 _ (by omega)]; exact e3, by rw [k2]; exact e4, by rw [k3]; exact e5, fun j hj => by rw [k7 _ (by omega)]; exact e6 j hj, fun j hj => ?_, b3, b4, b1, b2⟩, fun i hi => ?_⟩, g9.rk hf.1 hf.2.1 (k7 _ (by omega)) (k6 _ (by omega) (by omega) (by omega) (by omega)) hf.sb⟩, hf⟩
  · rcases hs with rfl | rfl
    · rw [(hN rfl).1]; exact hnew _ g5.1
    · rw [(hS rfl).2]; exact hold _ _ g5 (by omega) (by omega) (by omega)
  · rcases hs with rfl | rfl
    · rw [(hN rfl).2]; exact hold _ _ g6 (by omega) (by omega) (by omega)
    · rw [(hS rfl).1]; exact hnew _ g6.1
  · obtain ⟨c, s1, s2, s3, s4, s5, s6, s7, s8, s9, s10⟩ := e7 j hj
    exact ⟨c, by rw [k1]; exact s1, by rw [k2]; exact s2, by rw [k7 _ (by omega)]; exact s3, by rw [k7 _ (by omega)]; exact s4, by rw [k2]; exact s5, by rw [k3]; exact s6, by rw [k2]; exact s7, by rw [k3]; exact s8, by rw [k6 _ (by omega) (by omega) (by omega) (by omega)]; exact s9, s10⟩
  · exact hold _ _ (b5 i hi) (by omega) (by omega) (by omega)
def cUnd (A : cA) : cA := (A.1, A.2.1, A.2.2.1, cCh A, cHi A (cKp A - 1), cSn A, cHs A, cKp A - 1, cHi A)
def cRes (A : cA) : cA := (A.1, A.2.1, A.2.2.1, cCh A, cSn A, cSn A, cHs A, 0, cHi A)
def cSav (A : cA) : cA := (A.1, A.2.1, A.2.2.1, cCh A, cNw A, cNw A, true, cKp A, cHi A)
theorem jBL_f {M K : jM} {v s o : Nat} (e : jLf M K v s o) : True := trivial
theorem jAb.undo {M : jM} {v nx : Nat} {A : cA} (h : jAb M v A) (hH : jHis M (v + 8) nx (cKp A)) (h8 : ∀ i, i < cKp A → jSt M (v + 8 + 2 + 3 * ((nx + 8 - cKp A + i) % 8)) (cHi A i)) (hk : cKp A ≠ 0) :
    jAb (jBL (jSi (jSi M (v + 8) 1 (nI ((nx + 7) % 8))) (v + 8) 2 (nI (cKp A - 1))) (v + 2) (v + 8 + 2 + 3 * ((nx + 7) % 8))) v (cUnd A) ∧ jFv v M (jBL (jSi (jSi M (v + 8) 1 (nI ((nx + 7) % 8))) (v + 8) 2 (nI (cKp A - 1))) (v + 2) (v + 8 + 2 + 3 * ((nx + 7) % 8))) := by
  obtain ⟨e1, e2, e3, e4, e5, e6, e7, e8, e9, e10, e11⟩ := id hH
  have lt := Nat.le_trans (Nat.add_le_add_left (show 36 ≤ 52 by decide) _) h.1.1
  have hi : ∀ a, a ≠ v + 8 → ji (jSi (jSi M (v + 8) 1 (nI ((nx + 7) % 8))) (v + 8) 2 (nI (cKp A - 1))) a = ji M a := fun a ha => funext fun j => by rw [ji_Si, if_neg (fun h => ha h.1), ji_Si, if_neg (fun h => ha h.1)]
  have h9 := h8 (cKp A - 1) (by omega)
  rw [show (nx + 8 - cKp A + (cKp A - 1)) % 8 = (nx + 7) % 8 from by omega] at h9
  have hm : (nx + 7) % 8 < 8 := Nat.mod_lt _ (by decide)
  refine h.like (z := cHi A (cKp A - 1)) (o := v + 8 + 2 + 3 * ((nx + 7) % 8)) (s := v + 2) (Or.inl rfl) ⟨rfl, rfl, rfl, rfl, rfl, fun a h1 h2 h3 h4 => funext fun j => ?_, fun a h1 => funext fun j => ?_, ?_, fun j hj => ?_, fun j hj => ?_⟩ ?_ h9 ?_ rfl (fun _ => ⟨rfl, rfl⟩) (fun hc => by omega) ⟨(nx + 7) % 8, hm, (by show cKp A - 1 ≤ 8; omega), ?_, ?_, fun i hi2 => ?_⟩
  · rw [jBL_i h3 h4, hi a h2]
  · rw [jBL_r h1]; rfl
  · unfold jBL; rw [ji_Si, if_pos ⟨rfl, rfl⟩, hi _ (by omega)]
  · unfold jBL; rw [ji_Si, if_neg (fun h => by omega), ji_Sv, if_pos rfl, hi _ (by omega)]; simp [va_cpy, hj]
  · unfold jBL; rw [jr_Si, jr_Sv, jr_Sq, if_pos rfl]; unfold jBR; rw [if_pos hj]; rfl
  · exact jCl_BL (jCl_Si (jCl_Si h.2.1)) (by show _ < jn M; omega) (by show _ < jn M; omega)
  · exact h.2.2.1.same rfl rfl (by funext j; rw [jBL_r (by omega)]; rfl) (by funext j; rw [jBL_i (by omega) (by omega), hi _ (by omega)]) (by funext j; rw [jBL_i (by omega) (by omega), hi _ (by omega)])
  · rw [jBL_i (by omega) (by omega), ji_Si, if_neg (fun h => absurd h.2 (by decide)), ji_Si, if_pos ⟨rfl, rfl⟩]
  · rw [jBL_i (by omega) (by omega), ji_Si, if_pos ⟨rfl, rfl⟩]; rfl
  · have hi3 : i < cKp A - 1 := hi2
    have h7 := h8 i (by omega)
    rw [show (nx + 8 - cKp A + i) % 8 = ((nx + 7) % 8 + 8 - (cKp A - 1) + i) % 8 from by omega] at h7
    exact h7
theorem jAb.res {M : jM} {v : Nat} {A : cA} (h : jAb M v A) : jAb (jSi (jBL M (v + 2) (v + 5)) (v + 8) 2 0) v (cRes A) ∧ jFv v M (jSi (jBL M (v + 2) (v + 5)) (v + 8) 2 0) := by
  obtain ⟨nx, hH, h8⟩ := id h.2.2.2.2.2.2.1
  obtain ⟨e1, e2, e3, e4, e5, e6, e7, e8, e9, e10, e11⟩ := id hH
  have lt := Nat.le_trans (Nat.add_le_add_left (show 36 ≤ 52 by decide) _) h.1.1
  have hi : ∀ a, a ≠ v + 8 → a ≠ v + 2 → a ≠ v + 2 + 2 → ji (jSi (jBL M (v + 2) (v + 5)) (v + 8) 2 0) a = ji M a := fun a ha h2 h3 => funext fun j => by rw [ji_Si, if_neg (fun h => ha h.1), jBL_i h2 h3]
  refine h.like (z := cSn A) (o := v + 5) (s := v + 2) (Or.inl rfl) ⟨rfl, rfl, rfl, rfl, rfl, fun a h1 h2 h3 h4 => hi a h2 h3 h4, fun a h1 => funext fun j => ?_, ?_, fun j hj => ?_, fun j hj => ?_⟩ ?_ h.2.2.2.2.2.1 ?_ rfl (fun _ => ⟨rfl, rfl⟩) (fun hc => by omega) ⟨nx, e10, Nat.zero_le _, ?_, ?_, fun i hi2 => absurd hi2 (Nat.not_lt_zero _)⟩
  · rw [jr_Si, jBL_r h1]
  · rw [ji_Si, if_neg (fun h => by omega)]; unfold jBL; rw [ji_Si, if_pos ⟨rfl, rfl⟩]
  · rw [ji_Si, if_neg (fun h => by omega)]; unfold jBL; rw [ji_Si, if_neg (fun h => by omega), ji_Sv, if_pos rfl]; simp [va_cpy, hj]
  · rw [jr_Si]; unfold jBL; rw [jr_Si, jr_Sv, jr_Sq, if_pos rfl]; unfold jBR; rw [if_pos hj]
  · exact jCl_Si (jCl_BL h.2.1 (by omega) (by omega))
  · exact h.2.2.1.same rfl rfl (by funext j; rw [jr_Si, jBL_r (by omega)]) (hi _ (by omega) (by omega) (by omega)) (hi _ (by omega) (by omega) (by omega))
  · rw [ji_Si, if_neg (fun h => absurd h.2 (by decide)), jBL_i (by omega) (by omega)]; exact e8
  · rw [ji_Si, if_pos ⟨rfl, rfl⟩]; rfl
theorem jAb.sav {M : jM} {v : Nat} {A : cA} (h : jAb M v A) : jAb (jSi (jBL M (v + 5) (v + 2)) v 7 1) v (cSav A) ∧ jFv v M (jSi (jBL M (v + 5) (v + 2)) v 7 1) := by
  obtain ⟨nx, hH, h8⟩ := id h.2.2.2.2.2.2.1
  obtain ⟨e1, e2, e3, e4, e5, e6, e7, e8, e9, e10, e11⟩ := id hH
  have lt := Nat.le_trans (Nat.add_le_add_left (show 36 ≤ 52 by decide) _) h.1.1
  have hi : ∀ a, a ≠ v → a ≠ v + 5 → a ≠ v + 5 + 2 → ji (jSi (jBL M (v + 5) (v + 2)) v 7 1) a = ji M a := fun a ha h2 h3 => funext fun j => by rw [ji_Si, if_neg (fun h => ha h.1), jBL_i h2 h3]
  have hv : ∀ j, j ≠ 7 → ji (jSi (jBL M (v + 5) (v + 2)) v 7 1) v j = ji M v j := fun j hj => by rw [ji_Si, if_neg (fun h => hj h.2), jBL_i (by omega) (by omega)]
  refine h.like (z := cNw A) (o := v + 2) (s := v + 5) (Or.inr rfl) ⟨rfl, rfl, rfl, rfl, rfl, fun a h1 h2 h3 h4 => hi a h1 h3 h4, fun a h1 => funext fun j => ?_, ?_, fun j hj => ?_, fun j hj => ?_⟩ ?_ h.2.2.2.2.1 ?_ rfl (fun hc => by omega) (fun _ => ⟨rfl, rfl⟩) ⟨nx, e10, e11, ?_, ?_, h8⟩
  · rw [jr_Si, jBL_r h1]
  · rw [ji_Si, if_neg (fun h => by omega)]; unfold jBL; rw [ji_Si, if_pos ⟨rfl, rfl⟩]
  · rw [ji_Si, if_neg (fun h => by omega)]; unfold jBL; rw [ji_Si, if_neg (fun h => by omega), ji_Sv, if_pos rfl]; simp [va_cpy, hj]
  · rw [jr_Si]; unfold jBL; rw [jr_Si, jr_Sv, jr_Sq, if_pos rfl]; unfold jBR; rw [if_pos hj]
  · exact jCl_Si (jCl_BL h.2.1 (by omega) (by omega))
  · obtain ⟨a1, a2, a3, a4, a5, a6, a7, a8, a9, a10, a11, a12, a13⟩ := id h.2.2.1
    have hr : ∀ j, jr (jSi (jBL M (v + 5) (v + 2)) v 7 1) v j = jr M v j := fun j => by rw [jr_Si, jBL_r (by omega)]
    exact ⟨by rw [hr]; exact a1, by rw [hr]; exact a2, by rw [hr]; exact a3, by rw [hr]; exact a4, by rw [hr]; exact a5, a6, a7, by rw [hv 1 (by decide)]; exact a8, a9, by rw [hi _ (by omega) (by omega) (by omega)]; exact a10, by rw [hv 2 (by decide)]; exact a11, by rw [hv 3 (by decide)]; exact a12, by rw [ji_Si, if_pos ⟨rfl, rfl⟩]; rfl⟩
  · rw [hi _ (by omega) (by omega) (by omega)]; exact e8
  · rw [hi _ (by omega) (by omega) (by omega)]; exact e9
