theorem vAt_n {f : Nat → Option rVl} {z l : Nat} (h : l < z) (hz : z < 2 ^ 31) : vAt f z (nI l) = f l := by
  unfold vAt
  rw [if_neg (nI_pos (by omega)), if_pos (nI_lt h hz), nI_clamp (by omega)]
theorem eRes_4 {S : Int32 → Option rVl} {s : eSt} {vs : Nat → Option rVl} {z k : Nat} (h : s.2.2.1 k = 4) : eRes S s vs z k = S (s.2.2.2.2.1 k) := if_pos h
theorem eRes_3 {S : Int32 → Option rVl} {s : eSt} {vs : Nat → Option rVl} {z k l : Nat} {a : rVl} (h : s.2.2.1 k = 3) (hl : s.2.2.2.2.1 k = nI l) (hz : l < z) (hb : z < 2 ^ 31) (ha : vs l = some a) : eRes S s vs z k = some (vComb 2 rWhole9 a) := by
  unfold eRes
  rw [if_neg (by rw [h]; decide), hl, vAt_n hz hb, ha]
  dsimp only
  rw [if_pos h]
theorem eRes_2 {S : Int32 → Option rVl} {s : eSt} {vs : Nat → Option rVl} {z k l r : Nat} {a b : rVl} (h : s.2.2.1 k = 0 ∨ s.2.2.1 k = 1 ∨ s.2.2.1 k = 2) (hl : s.2.2.2.2.1 k = nI l) (hr : s.2.2.2.2.2.1 k = nI r) (hz : l < z) (hz2 : r < z) (hb : z < 2 ^ 31) (ha : vs l = some a) (hb2 : vs r = some b) : eRes S s vs z k = some (vComb (s.2.2.1 k) a b) := by
  unfold eRes
  rw [if_neg (kd_n h).1, hl, hr, vAt_n hz hb, vAt_n hz2 hb, ha, hb2]
  dsimp only
  rw [if_neg (kd_n h).2]
/-- the class's row of nodes, seen as a tree -/
theorem eWk_T {S : Int32 → Option rVl} {s : eSt} (h60 : s.2.1 ≤ 60) (h16 : ∀ x w, S x = some w → w.1 ≤ 16) : ∀ f a t vs la, tTr s f a t → t < s.2.1 →
    match evT S s f t with
    | .inl p => p ≠ [] ∧ eWk S s (s.2.1 - a) a vs la = .inl (lst p)
    | .inr w => w.1 ≤ 16 ∧ ∃ vs2, (∀ i, i < a → vs2 i = vs i) ∧ vs2 t = some w ∧ eWk S s (s.2.1 - a) a vs la = eWk S s (s.2.1 - (t + 1)) (t + 1) vs2 (some w) := by
  intro f
  induction f with
  | zero => intro a t vs la h _; exact absurd h id
  | succ f ih =>
    intro a t vs la h ht
    rcases h with ⟨h, rfl⟩ | ⟨h, l, g1, g2, g3, g4, g5⟩ | ⟨h, l, r, g1, g2, g3, g4, g5, g6, g7, g8, g9⟩
    · cases hS : S (s.2.2.2.2.1 a) with
      | none =>
        rw [evT_4n h hS]
        exact ⟨List.cons_ne_nil _ _, eWk_n ht (by rw [eRes_4 h]; exact hS)⟩
      | some w =>
        rw [evT_4s h hS]
        have hw := h16 _ _ hS
        exact ⟨hw, fun i => if i = a then some w else vs i, fun i hi => if_neg (by omega), if_pos rfl, eWk_s ht (by rw [eRes_4 h]; exact hS) (by omega)⟩
    · have h1 := ih a l vs la g5 (by omega)
      cases hev : evT S s f l with
      | inl p =>
        rw [hev] at h1
        rw [evT_3i h g3 (by omega) hev]
        exact ⟨List.cons_ne_nil _ _, h1.2.trans (by rw [lst_c h1.1])⟩
      | inr x =>
        rw [hev] at h1
        obtain ⟨b1, vs1, b2, b3, b4⟩ := h1
        have hr := eRes_3 (S := S) (vs := vs1) (z := s.2.1) h g3 (by omega) (by omega) b3
        rw [g1] at b4
        by_cases h9 : 16 < (vComb 2 rWhole9 x).1
        · rw [evT_3x h g3 (by omega) hev h9]
          exact ⟨List.cons_ne_nil _ _, b4.trans (eWk_l ht hr h9)⟩
        · rw [evT_3r h g3 (by omega) hev h9]
          exact ⟨by omega, fun i => if i = t then some (vComb 2 rWhole9 x) else vs1 i, fun i hi => (if_neg (by omega)).trans (b2 i hi), if_pos rfl, b4.trans (eWk_s ht hr h9)⟩
    · have h1 := ih a l vs la g8 (by omega)
      cases hev : evT S s f l with
      | inl p =>
        rw [hev] at h1
        rw [evT_2a h g4 (by omega) hev]
        exact ⟨List.cons_ne_nil _ _, h1.2.trans (by rw [lst_c h1.1])⟩
      | inr x =>
        rw [hev] at h1
        obtain ⟨b1, vs1, b2, b3, b4⟩ := h1
        have h2 := ih (l + 1) r vs1 (some x) g9 (by omega)
        cases hew : evT S s f r with
        | inl p =>
          rw [hew] at h2
          rw [evT_2b h g4 g5 (by omega) (by omega) hev hew]
          exact ⟨List.cons_ne_nil _ _, b4.trans (h2.2.trans (by rw [lst_c h2.1]))⟩
        | inr y =>
          rw [hew] at h2
          obtain ⟨c1, vs2, c2, c3, c4⟩ := h2
          have hr := eRes_2 (S := S) (vs := vs2) (z := s.2.1) h g4 g5 (by omega) (by omega) (by omega) ((c2 l (by omega)).trans b3) c3
          rw [g3] at c4
          by_cases h9 : 16 < (vComb (s.2.2.1 t) x y).1
          · rw [evT_2x h g4 g5 (by omega) (by omega) hev hew h9]
            exact ⟨List.cons_ne_nil _ _, b4.trans (c4.trans (eWk_l ht hr h9))⟩
          · rw [evT_2r h g4 g5 (by omega) (by omega) hev hew h9]
            exact ⟨by omega, fun i => if i = t then some (vComb (s.2.2.1 t) x y) else vs2 i, fun i hi => ((if_neg (by omega)).trans (c2 i (by omega))).trans (b2 i hi), if_pos rfl, b4.trans (c4.trans (eWk_s ht hr h9))⟩
/-- a way down, by parents -/
def dnC (s : eSt) : List Nat → Prop
  | [] => True
  | x :: r => x < s.2.1 ∧ (match r with
    | [] => True
    | y :: _ => s.2.2.2.2.2.2 y = nI x) ∧ dnC s r
theorem evT_dn {S : Int32 → Option rVl} {s : eSt} (h60 : s.2.1 ≤ 60) : ∀ f a t p, tTr s f a t → t < s.2.1 → evT S s f t = .inl p → (∃ q, p = t :: q) ∧ dnC s p ∧ p.length ≤ f := by
  intro f
  induction f with
  | zero => intro a t p h _ _; exact absurd h id
  | succ f ih =>
    intro a t p h ht he
    have one : (∃ q, [t] = t :: q) ∧ dnC s [t] ∧ [t].length ≤ f + 1 := ⟨⟨[], rfl⟩, ⟨ht, trivial, trivial⟩, by show 1 ≤ f + 1; omega⟩
    have up : ∀ l a2 p2, tTr s f a2 l → l < s.2.1 → s.2.2.2.2.2.2 l = nI t → evT S s f l = .inl p2 → (∃ q, t :: p2 = t :: q) ∧ dnC s (t :: p2) ∧ (t :: p2).length ≤ f + 1 := fun l a2 p2 h1 h2 h3 h4 => by
      obtain ⟨⟨q, rfl⟩, b2, b3⟩ := ih a2 l p2 h1 h2 h4
      exact ⟨⟨_, rfl⟩, ⟨ht, h3, b2⟩, by show (l :: q).length + 1 ≤ f + 1; omega⟩
    rcases h with ⟨h, rfl⟩ | ⟨h, l, g1, g2, g3, g4, g5⟩ | ⟨h, l, r, g1, g2, g3, g4, g5, g6, g7, g8, g9⟩
    · cases hS : S (s.2.2.2.2.1 a) with
      | none => rw [evT_4n h hS] at he; cases he; exact one
      | some w => rw [evT_4s h hS] at he; cases he
    · cases hev : evT S s f l with
      | inl p2 => rw [evT_3i h g3 (by omega) hev] at he; cases he; exact up l a p2 g5 (by omega) g4 hev
      | inr x =>
        by_cases h9 : 16 < (vComb 2 rWhole9 x).1
        · rw [evT_3x h g3 (by omega) hev h9] at he; cases he; exact one
        · rw [evT_3r h g3 (by omega) hev h9] at he; cases he
    · cases hev : evT S s f l with
      | inl p2 => rw [evT_2a h g4 (by omega) hev] at he; cases he; exact up l a p2 g8 (by omega) g6 hev
      | inr x =>
        cases hew : evT S s f r with
        | inl p2 => rw [evT_2b h g4 g5 (by omega) (by omega) hev hew] at he; cases he; exact up r (l + 1) p2 g9 (by omega) g7 hew
        | inr y =>
          by_cases h9 : 16 < (vComb (s.2.2.1 t) x y).1
          · rw [evT_2x h g4 g5 (by omega) (by omega) hev hew h9] at he; cases he; exact one
          · rw [evT_2r h g4 g5 (by omega) (by omega) hev hew h9] at he; cases he
theorem eUp_1 {s : eSt} {fu len kk : Nat} {f : Nat → Int32} (hk : kk < s.2.1) (hb : s.2.1 ≤ 60) : eUp s (fu + 1) len (nI kk) f = eUp s fu (len + 1) (s.2.2.2.2.2.2 kk) (upd f len (s.2.2.2.1 kk)) := by
  conv => lhs; unfold eUp
  rw [if_neg (nI_pos (by omega)), if_pos (nI_lt hk (by omega)), nI_clamp (by omega)]
theorem eUp_p {s : eSt} (h60 : s.2.1 ≤ 60) : ∀ p t fu len f, dnC s (t :: p) → ∃ f2, eUp s (fu + (t :: p).length) len (nI (lst (t :: p))) f = eUp s fu (len + (t :: p).length) (s.2.2.2.2.2.2 t) f2 ∧ (∀ j, j < len → f2 j = f j) ∧ ∀ i, i < (t :: p).length → f2 (len + i) = s.2.2.2.1 ((t :: p).getD ((t :: p).length - 1 - i) 0) := by
  intro p
  induction p with
  | nil =>
    intro t fu len f h
    refine ⟨upd f len (s.2.2.2.1 t), eUp_1 h.1 h60, fun j hj => upd_ne (by omega), fun i hi => ?_⟩
    have hi2 : i < 1 := hi
    obtain rfl : i = 0 := by omega
    exact upd_eq
  | cons y r ih =>
    intro t fu len f h
    obtain ⟨f2, e1, e2, e3⟩ := ih y (fu + 1) len f h.2.2
    have hpar : s.2.2.2.2.2.2 y = nI t := h.2.1
    refine ⟨upd f2 (len + (y :: r).length) (s.2.2.2.1 t), ?_, fun j hj => (upd_ne (by omega)).trans (e2 j hj), fun i hi => ?_⟩
    · rw [lst_c (List.cons_ne_nil _ _), show fu + (t :: y :: r).length = fu + 1 + (y :: r).length from by show fu + ((y :: r).length + 1) = _; omega, e1, hpar, eUp_1 h.1 h60]
      rfl
    · have hi2 : i < (y :: r).length + 1 := hi
      by_cases h9 : i = (y :: r).length
      · subst h9
        rw [upd_eq, show (t :: y :: r).length - 1 - (y :: r).length = 0 from by show (y :: r).length + 1 - 1 - (y :: r).length = 0; omega]; rfl
      · rw [upd_ne (by omega), e3 i (by omega), show (t :: y :: r).length - 1 - i = ((y :: r).length - 1 - i) + 1 from by show (y :: r).length + 1 - 1 - i = _; omega]; rfl
theorem evChn_p {s : eSt} {t : Nat} {p : List Nat} (h60 : s.2.1 ≤ 60) (h : dnC s (t :: p)) (hr : s.2.2.2.2.2.2 t = -1) (hl : (t :: p).length ≤ s.2.1) : (evChn s (lst (t :: p))).1 = (t :: p).length ∧ ∀ j, j < (t :: p).length → (evChn s (lst (t :: p))).2 j = s.2.2.2.1 ((t :: p).getD j 0) := by
  obtain ⟨f2, e1, e2, e3⟩ := eUp_p h60 p t (s.2.1 - (t :: p).length) 0 (fun _ => 0) h
  have e4 : eChain s (lst (t :: p)) = ((t :: p).length, f2) := by
    unfold eChain
    rw [show s.2.1 - (t :: p).length + (t :: p).length = s.2.1 from by omega] at e1
    rw [e1, hr, Nat.zero_add]
    cases s.2.1 - (t :: p).length with
    | zero => rfl
    | succ z => unfold eUp; rw [if_pos (by decide)]
  unfold evChn
  rw [e4]
  refine ⟨rfl, fun j hj => ?_⟩
  show f2 ((t :: p).length - 1 - j) = _
  have := e3 ((t :: p).length - 1 - j) (by omega)
  rw [Nat.zero_add] at this
  rw [this, show (t :: p).length - 1 - ((t :: p).length - 1 - j) = j from by omega]
theorem mAb.wk {M M1 : jM} {m : Nat} {A : cA} (h : mAb M m A) (hf : mWfr m 0 M M1) (h10 : ji M1 m 10 = ji M m 10) (h5 : ji M1 (m + 5) = ji M (m + 5)) : mAb M1 m A := by
  refine h.q hf.1 ⟨fun i h1 h2 => ?_, fun f hf2 => ?_⟩
  · by_cases h9 : i = 5
    · subst h9; exact h5
    · exact hf.2.1 (m + i) (by omega) (by omega) (by omega) (by omega) (by omega)
  · by_cases h9 : f = 10
    · subst h9; exact h10
    · refine hf.2.2.1 f h9 (fun e => ?_) (fun e => ?_)
      · subst e; exact absurd hf2 (by decide)
      · subst e; exact absurd hf2 (by decide)
theorem mAb.chn {M M1 : jM} {m : Nat} {A : cA} {w : rVl} (h : mAb M m A) (hf : mWfr m 0 M M1) (hc : mCh M1 m (some w)) : mAb M1 m (cChn A w) := by
  obtain ⟨a1, a2, a3, a4, a5, a6, a7, a8⟩ := h
  have hR : ∀ i, 1 ≤ i → i ≤ 4 → ji M1 (m + i) = ji M (m + i) := fun i h1 h2 => hf.2.1 (m + i) (by omega) (by omega) (by omega) (by omega) (by omega)
  have hS : ∀ f, f ≤ 8 → ji M1 m f = ji M m f := fun f h1 => hf.2.2.1 f (by omega) (by omega) (by omega)
  refine ⟨hf.1.ok a1, ?_, ?_, ?_, ?_, ?_, ?_, hc⟩
  · rw [hR 1 (by omega) (by omega)]; exact a2
  · rw [hR 2 (by omega) (by omega), hS 4 (by omega)]; exact a3
  · rw [hR 3 (by omega) (by omega), hS 3 (by omega)]; exact a4
  · rw [hR 4 (by omega) (by omega), hS 6 (by omega)]; exact a5
  · rw [hS 7 (by omega)]; exact a6
  · rw [hS 8 (by omega)]; exact a7
theorem evR {A : cA} : evS A = (eS (cC A) (cL A) (eFac (cC A) (cL A) 8) eS0).2 := rfl
theorem evOk_f {A : cA} (h : (eS (cC A) (cL A) (eFac (cC A) (cL A) 8) eS0).1 = -1 ∨ (eS (cC A) (cL A) (eFac (cC A) (cL A) 8) eS0).2.1 ≠ cL A) : evOk A = false := by
  unfold evOk eWh
  rcases h with h | h
  · rw [decide_eq_true h]; rfl
  · rw [decide_eq_false h, Bool.and_false]
theorem evOk_t {A : cA} (h : (eS (cC A) (cL A) (eFac (cC A) (cL A) 8) eS0).1 ≠ -1) (h2 : (eS (cC A) (cL A) (eFac (cC A) (cL A) 8) eS0).2.1 = cL A) : evOk A = true := by
  unfold evOk eWh
  rw [decide_eq_false h, decide_eq_true h2]; rfl
theorem ev_u {A : cA} {x : Int32} (h : okSlot x = true) : sEval A x = sEvB A x (evOk A) (evS A) := by unfold sEval; exact sSl_t h
theorem ev_f {A : cA} {x : Int32} (h : okSlot x = false) : sEval A x = (oX xIOOBE, A) := by unfold sEval; exact sSl_f h
theorem evB_f {A : cA} {x : Int32} {s : eSt} : sEvB A x false s = (oX xIAE, cFin A (nI s.1)) := rfl
theorem evB_t {A : cA} {x : Int32} {s : eSt} : sEvB A x true s = sEvW A x s (eWork (cAt (cNw A)) s) := rfl
theorem cAt_16 {row : Nat → Int32} {p : Nat} {z : cSt} (h : mSt row p z) : ∀ x w, cAt z x = some w → w.1 ≤ 16 := by
  intro x w hx
  unfold cAt at hx
  by_cases hs : okSlot x = true
  · rw [if_pos hs] at hx
    obtain ⟨k, hk, rfl⟩ := okSlot_of hs
    rw [nI_clamp (by omega)] at hx
    have h1 := h.1 k hk
    rw [hx] at h1
    exact h1.2.1
  · rw [if_neg hs] at hx; exact nomatch hx
theorem ev_beg {M : jM} {m : Nat} {A : cA} {x : Int32} (h : mAb M m A) : mEx (jSi (jSi (jSi (jSi (jSi (jSi M m 11 x) m 15 0) m 16 0) m 17 0) m 25 0) m 26 0) m (cC A) (cL A) (0, false, false, ji M m 18, ji M m 19, ji M m 20) eS0 0 :=
  ⟨((rd_beg h).fo (by omega)).fo (by omega), fun k hk => absurd hk (Nat.not_lt_zero _), by rw [ji_Sik (by decide)]; exact ji_Sis, ji_Sis, rfl, rfl⟩
theorem dX8_evaluate_0 : decode cX8_evaluate 0 = .ok (.aload_n 0, 1) := by decide +kernel
theorem dX8_evaluate_1 : decode cX8_evaluate 1 = .ok (.iload_n 1, 1) := by decide +kernel
theorem dX8_evaluate_2 : decode cX8_evaluate 2 = .ok (.invokestatic 151, 3) := by decide +kernel
set_option maxRecDepth 20000 in
theorem ggX8_evaluate_X8_isSlot : GoodIn wsX8_evaluate wsX8_isSlot := goodIn_r _ [13] (by decide +kernel) (by decide +kernel)
set_option maxRecDepth 20000 in
theorem gX8_evaluate_X8_isSlot : GoodIn wsX8_evaluate (va_wsS RX8 151 yX8_isSlot wsX8_isSlot) := goodIn_app (goodIn_of _ (by decide +kernel)) ggX8_evaluate_X8_isSlot
theorem dX8_evaluate_5 : decode cX8_evaluate 5 = .ok (.ifCond .eq 7, 3) := by decide +kernel
theorem dX8_evaluate_12 : decode cX8_evaluate 12 = .ok (.iconst 1, 1) := by decide +kernel
theorem dX8_evaluate_13 : decode cX8_evaluate 13 = .ok (.invokevirtual 148, 3) := by decide +kernel
set_option maxRecDepth 20000 in
theorem ggX8_evaluate_X8_fails : GoodIn wsX8_evaluate wsX8_fails := goodIn_r _ [17, 9, 118, 119, 120, 121, 122, 123, 124, 125, 126, 127, 128, 129, 130, 131, 132, 133, 134, 135, 136, 137, 138, 139, 140, 141, 142, 143, 144, 145, 146, 147, 148] (by decide +kernel) (by decide +kernel)
set_option maxRecDepth 20000 in
theorem gX8_evaluate_X8_fails : GoodIn wsX8_evaluate (wsV RX8 148 RX8 yX8_fails wsX8_fails) := goodIn_app (goodIn_of _ (by decide +kernel)) ggX8_evaluate_X8_fails
theorem dX8_evaluate_16 : decode cX8_evaluate 16 = .ok (.ifCond .eq 5, 3) := by decide +kernel
theorem dX8_evaluate_19 : decode cX8_evaluate 19 = .ok (.iconst 0, 1) := by decide +kernel
theorem dX8_evaluate_20 : decode cX8_evaluate 20 = .ok (.ireturn, 1) := by decide +kernel
theorem dX8_evaluate_8 : decode cX8_evaluate 8 = .ok (.iconst 0, 1) := by decide +kernel
theorem dX8_evaluate_9 : decode cX8_evaluate 9 = .ok (.goto 4, 3) := by decide +kernel
theorem dX8_evaluate_21 : decode cX8_evaluate 21 = .ok (.aload_n 0, 1) := by decide +kernel
theorem dX8_evaluate_22 : decode cX8_evaluate 22 = .ok (.invokevirtual 154, 3) := by decide +kernel
set_option maxRecDepth 20000 in
theorem ggX8_evaluate_X8_begins : GoodIn wsX8_evaluate wsX8_begins := goodIn_r _ [21, 4, 3, 22, 118, 119, 120, 121, 122, 123, 124, 125, 126, 127, 128, 129, 130, 131, 132, 133, 134, 135, 136, 137, 138, 139, 140, 141, 142, 143, 144, 145, 146, 147, 148] (by decide +kernel) (by decide +kernel)
set_option maxRecDepth 20000 in
theorem gX8_evaluate_X8_begins : GoodIn wsX8_evaluate (wsV RX8 154 RX8 yX8_begins wsX8_begins) := goodIn_app (goodIn_of _ (by decide +kernel)) ggX8_evaluate_X8_begins
theorem dX8_evaluate_25 : decode cX8_evaluate 25 = .ok (.aload_n 0, 1) := by decide +kernel
theorem dX8_evaluate_26 : decode cX8_evaluate 26 = .ok (.iconst 0, 1) := by decide +kernel
theorem dX8_evaluate_27 : decode cX8_evaluate 27 = .ok (.putfield 166, 3) := by decide +kernel
theorem dX8_evaluate_30 : decode cX8_evaluate 30 = .ok (.aload_n 0, 1) := by decide +kernel
theorem dX8_evaluate_31 : decode cX8_evaluate 31 = .ok (.iconst 0, 1) := by decide +kernel
theorem dX8_evaluate_32 : decode cX8_evaluate 32 = .ok (.putfield 169, 3) := by decide +kernel
theorem dX8_evaluate_35 : decode cX8_evaluate 35 = .ok (.aload_n 0, 1) := by decide +kernel
theorem dX8_evaluate_36 : decode cX8_evaluate 36 = .ok (.invokevirtual 175, 3) := by decide +kernel
set_option maxRecDepth 20000 in
theorem ggX8_evaluate_X8_readSum : GoodIn wsX8_evaluate wsX8_readSum := goodIn_ca (goodIn_r _ [26, 3, 4, 27, 28, 29, 12, 30, 31, 32, 33, 5, 34, 35, 36, 37, 38, 39, 1, 40, 41, 42, 43, 2, 44, 45, 46, 47, 48, 49, 50, 51, 23, 24, 25, 52, 53, 54, 55, 56, 57, 58, 59, 60, 61, 62, 63, 64, 65, 66, 67, 68, 118, 119, 120, 121, 122, 123, 124, 125, 126, 127, 128, 129, 130, 131, 132, 133, 134, 135, 136, 137, 138, 139, 140, 141, 142, 143, 144, 145, 146, 147, 148] (by decide +kernel) (by decide +kernel)) (goodIn_sub (fun _ h => List.mem_cons_of_mem _ (List.mem_append_right _ h)) (by decide +kernel))
set_option maxRecDepth 20000 in
theorem gX8_evaluate_X8_readSum : GoodIn wsX8_evaluate (wsV RX8 175 RX8 yX8_readSum wsX8_readSum) := goodIn_app (goodIn_of _ (by decide +kernel)) ggX8_evaluate_X8_readSum
theorem dX8_evaluate_39 : decode cX8_evaluate 39 = .ok (.istore_n 2, 1) := by decide +kernel
theorem dX8_evaluate_40 : decode cX8_evaluate 40 = .ok (.aload_n 0, 1) := by decide +kernel
theorem dX8_evaluate_41 : decode cX8_evaluate 41 = .ok (.getfield 87, 3) := by decide +kernel
theorem dX8_evaluate_44 : decode cX8_evaluate 44 = .ok (.ifCond .ne 18, 3) := by decide +kernel
theorem dX8_evaluate_62 : decode cX8_evaluate 62 = .ok (.aload_n 0, 1) := by decide +kernel
theorem dX8_evaluate_63 : decode cX8_evaluate 63 = .ok (.iconst 0, 1) := by decide +kernel
theorem dX8_evaluate_64 : decode cX8_evaluate 64 = .ok (.putfield 84, 3) := by decide +kernel
theorem dX8_evaluate_67 : decode cX8_evaluate 67 = .ok (.aload_n 0, 1) := by decide +kernel
theorem dX8_evaluate_68 : decode cX8_evaluate 68 = .ok (.aload_n 0, 1) := by decide +kernel
theorem dX8_evaluate_69 : decode cX8_evaluate 69 = .ok (.getfield 87, 3) := by decide +kernel
theorem dX8_evaluate_72 : decode cX8_evaluate 72 = .ok (.ifCond .eq 10, 3) := by decide +kernel
theorem dX8_evaluate_75 : decode cX8_evaluate 75 = .ok (.aload_n 0, 1) := by decide +kernel
theorem dX8_evaluate_76 : decode cX8_evaluate 76 = .ok (.getfield 81, 3) := by decide +kernel
theorem dX8_evaluate_79 : decode cX8_evaluate 79 = .ok (.goto 4, 3) := by decide +kernel
theorem dX8_evaluate_83 : decode cX8_evaluate 83 = .ok (.putfield 22, 3) := by decide +kernel
theorem dX8_evaluate_86 : decode cX8_evaluate 86 = .ok (.aload_n 0, 1) := by decide +kernel
theorem dX8_evaluate_87 : decode cX8_evaluate 87 = .ok (.aload_n 0, 1) := by decide +kernel
theorem dX8_evaluate_88 : decode cX8_evaluate 88 = .ok (.getfield 87, 3) := by decide +kernel
theorem dX8_evaluate_91 : decode cX8_evaluate 91 = .ok (.ifCond .eq 7, 3) := by decide +kernel
theorem dX8_evaluate_94 : decode cX8_evaluate 94 = .ok (.iconst 2, 1) := by decide +kernel
theorem dX8_evaluate_95 : decode cX8_evaluate 95 = .ok (.goto 4, 3) := by decide +kernel
theorem dX8_evaluate_99 : decode cX8_evaluate 99 = .ok (.invokevirtual 148, 3) := by decide +kernel
theorem dX8_evaluate_102 : decode cX8_evaluate 102 = .ok (.ifCond .eq 5, 3) := by decide +kernel
theorem dX8_evaluate_105 : decode cX8_evaluate 105 = .ok (.iconst 0, 1) := by decide +kernel
theorem dX8_evaluate_106 : decode cX8_evaluate 106 = .ok (.ireturn, 1) := by decide +kernel
theorem dX8_evaluate_47 : decode cX8_evaluate 47 = .ok (.aload_n 0, 1) := by decide +kernel
theorem dX8_evaluate_48 : decode cX8_evaluate 48 = .ok (.getfield 81, 3) := by decide +kernel
theorem dX8_evaluate_51 : decode cX8_evaluate 51 = .ok (.aload_n 0, 1) := by decide +kernel
theorem dX8_evaluate_52 : decode cX8_evaluate 52 = .ok (.getfield 84, 3) := by decide +kernel
theorem dX8_evaluate_55 : decode cX8_evaluate 55 = .ok (.if_icmp .ge 7, 3) := by decide +kernel
theorem dX8_evaluate_82 : decode cX8_evaluate 82 = .ok (.iconst (-1), 1) := by decide +kernel
theorem dX8_evaluate_98 : decode cX8_evaluate 98 = .ok (.iconst 0, 1) := by decide +kernel
theorem dX8_evaluate_107 : decode cX8_evaluate 107 = .ok (.aload_n 0, 1) := by decide +kernel
theorem dX8_evaluate_108 : decode cX8_evaluate 108 = .ok (.iconst 0, 1) := by decide +kernel
theorem dX8_evaluate_109 : decode cX8_evaluate 109 = .ok (.putfield 185, 3) := by decide +kernel
theorem dX8_evaluate_112 : decode cX8_evaluate 112 = .ok (.aload_n 0, 1) := by decide +kernel
theorem dX8_evaluate_113 : decode cX8_evaluate 113 = .ok (.iload_n 2, 1) := by decide +kernel
theorem dX8_evaluate_114 : decode cX8_evaluate 114 = .ok (.iconst 0, 1) := by decide +kernel
theorem dX8_evaluate_115 : decode cX8_evaluate 115 = .ok (.iconst 0, 1) := by decide +kernel
theorem dX8_evaluate_116 : decode cX8_evaluate 116 = .ok (.invokevirtual 199, 3) := by decide +kernel
set_option maxRecDepth 20000 in
theorem ggX8_evaluate_X8_works : GoodIn wsX8_evaluate wsX8_works := goodIn_ca (goodIn_r _ [72, 39, 40, 42, 73, 7, 74, 41, 10, 11, 12, 13, 75, 76, 77, 78, 79, 80, 81, 82, 83, 84, 85, 86, 87, 88, 89, 69, 70, 71, 90, 91, 92, 93, 94, 95, 96, 97, 98, 99, 100, 101, 102, 103, 104, 105, 106, 107, 118, 119, 120, 121, 122, 123, 124, 125, 126, 127, 128, 129, 130, 131, 132, 133, 134, 135, 136, 137, 138, 139, 140, 141, 142, 143, 144, 145, 146, 147, 148] (by decide +kernel) (by decide +kernel)) (goodIn_sub (fun _ h => List.mem_cons_of_mem _ (List.mem_append_right _ h)) (by decide +kernel))
set_option maxRecDepth 20000 in
theorem gX8_evaluate_X8_works : GoodIn wsX8_evaluate (wsV RX8 199 RX8 yX8_works wsX8_works) := goodIn_app (goodIn_of _ (by decide +kernel)) ggX8_evaluate_X8_works
theorem dX8_evaluate_119 : decode cX8_evaluate 119 = .ok (.aload_n 0, 1) := by decide +kernel
theorem dX8_evaluate_120 : decode cX8_evaluate 120 = .ok (.getfield 185, 3) := by decide +kernel
theorem dX8_evaluate_123 : decode cX8_evaluate 123 = .ok (.ifCond .le 18, 3) := by decide +kernel
theorem dX8_evaluate_126 : decode cX8_evaluate 126 = .ok (.aload_n 0, 1) := by decide +kernel
theorem dX8_evaluate_127 : decode cX8_evaluate 127 = .ok (.aload_n 0, 1) := by decide +kernel
theorem dX8_evaluate_128 : decode cX8_evaluate 128 = .ok (.getfield 185, 3) := by decide +kernel
theorem dX8_evaluate_131 : decode cX8_evaluate 131 = .ok (.putfield 160, 3) := by decide +kernel
theorem dX8_evaluate_134 : decode cX8_evaluate 134 = .ok (.aload_n 0, 1) := by decide +kernel
theorem dX8_evaluate_135 : decode cX8_evaluate 135 = .ok (.iconst 3, 1) := by decide +kernel
theorem dX8_evaluate_136 : decode cX8_evaluate 136 = .ok (.putfield 56, 3) := by decide +kernel
theorem dX8_evaluate_139 : decode cX8_evaluate 139 = .ok (.iconst 0, 1) := by decide +kernel
theorem dX8_evaluate_140 : decode cX8_evaluate 140 = .ok (.ireturn, 1) := by decide +kernel
theorem dX8_evaluate_141 : decode cX8_evaluate 141 = .ok (.aload_n 0, 1) := by decide +kernel
theorem dX8_evaluate_142 : decode cX8_evaluate 142 = .ok (.iload_n 1, 1) := by decide +kernel
theorem dX8_evaluate_143 : decode cX8_evaluate 143 = .ok (.invokevirtual 163, 3) := by decide +kernel
set_option maxRecDepth 20000 in
theorem ggX8_evaluate_X8_lays : GoodIn wsX8_evaluate wsX8_lays := goodIn_ca (goodIn_r _ [111, 79, 74, 112, 113, 114, 12, 115, 116, 117, 118, 119, 120, 121, 122, 123, 124, 125, 126, 127, 128, 129, 130, 131, 132, 133, 134, 135, 136, 137, 138, 139, 140, 141, 142, 143, 144, 145, 146, 147, 148] (by decide +kernel) (by decide +kernel)) (goodIn_sub (fun _ h => List.mem_cons_of_mem _ (List.mem_append_right _ h)) (by decide +kernel))
set_option maxRecDepth 20000 in
theorem gX8_evaluate_X8_lays : GoodIn wsX8_evaluate (wsV RX8 163 RX8 yX8_lays wsX8_lays) := goodIn_app (goodIn_of _ (by decide +kernel)) ggX8_evaluate_X8_lays
theorem dX8_evaluate_146 : decode cX8_evaluate 146 = .ok (.ireturn, 1) := by decide +kernel
theorem dX8_evaluate_58 : decode cX8_evaluate 58 = .ok (.aload_n 0, 1) := by decide +kernel
theorem dX8_evaluate_59 : decode cX8_evaluate 59 = .ok (.invokevirtual 99, 3) := by decide +kernel
set_option maxRecDepth 20000 in
theorem ggX8_evaluate_X8_bad : GoodIn wsX8_evaluate wsX8_bad := goodIn_r _ [48, 3, 118, 119, 120, 121, 122, 123, 124, 125, 126, 127, 128, 129, 130, 131, 132, 133, 134, 135, 136, 137, 138, 139, 140, 141, 142, 143, 144, 145, 146, 147, 148] (by decide +kernel) (by decide +kernel)
set_option maxRecDepth 20000 in
theorem gX8_evaluate_X8_bad : GoodIn wsX8_evaluate (wsV RX8 99 RX8 yX8_bad wsX8_bad) := goodIn_app (goodIn_of _ (by decide +kernel)) ggX8_evaluate_X8_bad
set_option maxHeartbeats 400000 in
set_option maxRecDepth 20000 in
theorem ct_X8_evaluate (l : Launch) (D : va_G) (dA : Nat → ClassId) (hst : l.stackTraces = false) (M : jM) (m : Nat) (A : cA) (hA : mAb M m A) (hW : zWf (cNw A)) (s : Int32) : jCT l D dA yX8_evaluate wsX8_evaluate (500) (5300) (0) (0) 1 [.ref (m), .int (s)] M (mRl M m [xIOOBE, xIAE, xUOE] (sEval A s).1 (sEval A s).2) := by
  refine jBody (cc := cX8_evaluate) (nL := 3) (rt := (some .int)) (ini := false) (by decide) rfl hst (Nat.le_of_ble_eq_true rfl) (by simp [Value.category]) (by intro h9; first | exact absurd h9 (by decide) | rfl) ?_
  show J l D dA RX8 cX8_evaluate wsX8_evaluate 3 false (some .int) [] (500) (5300) (jF D dA (jn M) (mRl M m [xIOOBE, xIAE, xUOE] (sEval A s).1 (sEval A s).2) 1) (jn M) (0) (0) (M) 0 [.ref (m), .int (s), .float 0] []
  obtain ⟨hM, hz, ⟨hKn, hK8, hKs⟩, ⟨hHs, hHz⟩, ⟨hLn, hL6, hLc⟩, hFl, ⟨hRs, hRp⟩, hCh⟩ := id hA
  obtain ⟨m1, m2, ⟨r1, r2, r3, r4, r5, r6, r7, r8, r9, r10, r11, r12, r13⟩, ⟨k1, k2, k3, k4, k5, k6, k7, k8, k9, k10, k11, k12, k13⟩, z1, z2, z3, z4, z5, z6, z7, z8, z9, z10, z11, z12, z13⟩ := id hM
  refine J_aload_n (m) dX8_evaluate_0 rfl rfl ?_
  refine J_iload_n dX8_evaluate_1 rfl rfl ?_
  refine J_calli0 (jrunS (As := [.int (s)]) (ct_X8_isSlot l D dA hst M ((s))) dX8_evaluate_2 yY_X8_isSlot gX8_evaluate_X8_isSlot rfl ⟨by omega, by omega⟩ ⟨Nat.zero_le _, Nat.zero_le _⟩ rfl (Nat.le_of_ble_eq_true rfl)) (rfl) (rfl) ?_
  refine J_if_eq dX8_evaluate_5 (tgt := 12) (by decide) (fun c5 => ?_) (fun c5 => ?_)
  · have c5 := jb0T c5
    refine J_iconst (x := 1) dX8_evaluate_12 (by decide) ?_
    refine J_calli0 (jrunV (As := [.int (1)]) (ct_X8_fails l D dA hst M m hM ((1))) dX8_evaluate_13 yY_X8_fails gX8_evaluate_X8_fails rfl cs11 (show m < jn M from by omega) m2 rfl ⟨by omega, by omega⟩ ⟨Nat.zero_le _, Nat.zero_le _⟩ rfl (Nat.le_of_ble_eq_true rfl)) (rfl) (rfl) ?_
    refine J_if_eq dX8_evaluate_16 (tgt := 21) (by decide) (fun c16 => ?_) (fun c16 => ?_)
    · exact absurd c16 (by decide)
    · have c16 := jeqF (a := 1) (b := 0) (by omega) (by omega) c16
      refine J_iconst (x := 0) dX8_evaluate_19 (by decide) ?_
      exact J_iret (ty := .int) dX8_evaluate_20 rfl (rfl) (by rw [ev_f c5]; exact ⟨mAg.x 0 xIOOBE rfl (by decide) ji_Sis rfl, (hA).si rfl, (mFr.rf).si ⟨by omega, by omega⟩, _, rfl⟩)
  · have c5 := jb0F c5
    refine J_iconst (x := 0) dX8_evaluate_8 (by decide) ?_
    refine J_goto (tgt := 13) dX8_evaluate_9 (by decide) ?_
    refine J_calli0 (jrunV (As := [.int (0)]) (ct_X8_fails l D dA hst M m hM ((0))) dX8_evaluate_13 yY_X8_fails gX8_evaluate_X8_fails rfl cs11 (show m < jn M from by omega) m2 rfl ⟨by omega, by omega⟩ ⟨Nat.zero_le _, Nat.zero_le _⟩ rfl (Nat.le_of_ble_eq_true rfl)) (rfl) (rfl) ?_
    refine J_if_eq dX8_evaluate_16 (tgt := 21) (by decide) (fun c16 => ?_) (fun c16 => ?_)
    · have c16 := jeqT (a := 0) (b := 0) (by omega) (by omega) c16
      obtain ⟨k, hk, rfl⟩ := okSlot_of c5
      refine J_aload_n (m) dX8_evaluate_21 rfl rfl ?_
      refine J_callv0 (jrunV (As := []) (ct_X8_begins l D dA hst (jSi M m 11 ((0))) m hM) dX8_evaluate_22 yY_X8_begins gX8_evaluate_X8_begins rfl cs11 (show m < jn M from by omega) m2 rfl ⟨by omega, by omega⟩ ⟨Nat.zero_le _, Nat.zero_le _⟩ rfl (Nat.le_of_ble_eq_true rfl)) (rfl) (rfl) ?_
      refine J_aload_n (m) dX8_evaluate_25 rfl rfl ?_
      refine J_iconst (x := 0) dX8_evaluate_26 (by decide) ?_
      refine J_puti (j := 25) (x := (0)) dX8_evaluate_27 (fun _ h => List.mem_cons_of_mem _ (List.mem_append_left _ (List.mem_append_right _ (h)))) cs11 cty11 (by decide) rfl (List.mem_of_getElem? (i := 1) rfl) rfl rfl ⟨rfl, rfl⟩ (show m < jn M from by omega) m2 ?_
      refine J_aload_n (m) dX8_evaluate_30 rfl rfl ?_
      refine J_iconst (x := 0) dX8_evaluate_31 (by decide) ?_
      refine J_puti (j := 26) (x := (0)) dX8_evaluate_32 (fun _ h => List.mem_cons_of_mem _ (List.mem_append_left _ (List.mem_append_right _ (h)))) cs11 cty11 (by decide) rfl (List.mem_of_getElem? (i := 2) rfl) rfl rfl ⟨rfl, rfl⟩ (show m < jn M from by omega) m2 ?_
      refine J_aload_n (m) dX8_evaluate_35 rfl rfl ?_
      refine J_calli (jrunV (As := []) (mCT_sum l D dA hst m (cC A) (cL A) hL6 (jSi (jSi (jSi (jSi (jSi (jSi M m 11 ((0))) m 15 0) m 16 0) m 17 0) m 25 ((0))) m 26 ((0))) eS0 _ (ev_beg hA) ⟨Nat.zero_le _, Nat.zero_le _⟩ (Nat.le_refl _)) dX8_evaluate_36 yY_X8_readSum gX8_evaluate_X8_readSum rfl cs11 (show m < jn M from by omega) m2 rfl ⟨by omega, by omega⟩ ⟨Nat.zero_le _, Nat.zero_le _⟩ rfl (Nat.le_of_ble_eq_true rfl)) ⟨Nat.zero_le _, Nat.zero_le _⟩ (Or.inr ⟨(jOk.ref (show m < jn M from by omega) (jOk.int (jOk.float jOk.nil))), jOk.nil⟩) (fun E M9 hp _ => by obtain ⟨_, _, h1, _⟩ := hp; cases h1) (fun x9 K1 hp36 hle36 => ?_)
      obtain ⟨x1, g1, he9, hd1, hp1, hb1, ho1, hF1, hE1, hc1, hk1⟩ := hp36
      have he9 := (jI_inj he9).symm
      subst he9
      obtain ⟨Km1, Km2, ⟨Kr1, Kr2, Kr3, Kr4, Kr5, Kr6, Kr7, Kr8, Kr9, Kr10, Kr11, Kr12, Kr13⟩, ⟨Kk1, Kk2, Kk3, Kk4, Kk5, Kk6, Kk7, Kk8, Kk9, Kk10, Kk11, Kk12, Kk13⟩, Kz1, Kz2, Kz3, Kz4, Kz5, Kz6, Kz7, Kz8, Kz9, Kz10, Kz11, Kz12, Kz13⟩ := id hd1.1
      have hAK : mAb K1 m A := ((hA.beg.si rfl).si rfl).q hF1 hE1
      have hFK : mFr m M K1 := ((mFr.beg.si ⟨by omega, by omega⟩).si ⟨by omega, by omega⟩).tr hF1
      obtain ⟨R, hR⟩ : ∃ R, R = (eS (cC A) (cL A) (eFac (cC A) (cL A) 8) eS0) := ⟨_, rfl⟩
      rw [← hR] at hp1 hb1 hk1
      by_cases hr : R.1 = -1
      · have hg : g1.2.1 = true := by rw [hb1]; exact decide_eq_true hr
        refine J_istore_n (lv' := [.ref (m), .int (nI (k)), .int (x1)]) dX8_evaluate_39 rfl (by decide) rfl rfl ?_
        refine J_aload_n (m) dX8_evaluate_40 rfl rfl ?_
        refine J_geti (j := 16) dX8_evaluate_41 (fun _ h => List.mem_cons_of_mem _ (List.mem_append_left _ (List.mem_append_right _ (h)))) cs11 (by decide) rfl (List.mem_of_getElem? (i := 3) rfl) rfl (show m < jn K1 from by omega) Km2 ?_
        refine J_topi (y := jb (true)) ((hd1.f16.trans (congrArg jb hg))) ?_
        refine J_if_ne dX8_evaluate_44 (tgt := 62) (by decide) (fun c44 => ?_) (fun c44 => ?_)
        · have c44 := jb0F c44
          have hdY := hd1
          have hAY := hAK
          have hFY := hFK
          refine J_aload_n (m) dX8_evaluate_62 rfl rfl ?_
          refine J_iconst (x := 0) dX8_evaluate_63 (by decide) ?_
          refine J_puti (j := 6) (x := (0)) dX8_evaluate_64 (fun _ h => List.mem_cons_of_mem _ (List.mem_append_left _ (List.mem_append_right _ (h)))) cs11 cty11 (by decide) rfl (List.mem_of_getElem? (i := 5) rfl) rfl rfl ⟨rfl, rfl⟩ (show m < jn K1 from by omega) Km2 ?_
          refine J_aload_n (m) dX8_evaluate_67 rfl rfl ?_
          refine J_aload_n (m) dX8_evaluate_68 rfl rfl ?_
          refine J_geti (j := 16) dX8_evaluate_69 (fun _ h => List.mem_cons_of_mem _ (List.mem_append_left _ (List.mem_append_right _ (h)))) cs11 (by decide) rfl (List.mem_of_getElem? (i := 3) rfl) rfl (show m < jn K1 from by omega) Km2 ?_
          refine J_topi (y := jb (true)) ((ji_ne_i (by omega) (hd1.f16.trans (congrArg jb hg)))) ?_
          refine J_if_eq dX8_evaluate_72 (tgt := 82) (by decide) (fun c72 => ?_) (fun c72 => ?_)
          · exact absurd c72 (by decide)
          · have c72 := jb0F c72
            refine J_aload_n (m) dX8_evaluate_75 rfl rfl ?_
            refine J_geti (j := 15) dX8_evaluate_76 (fun _ h => List.mem_cons_of_mem _ (List.mem_append_left _ (List.mem_append_right _ (h)))) cs11 (by decide) rfl (List.mem_of_getElem? (i := 4) rfl) rfl (show m < jn K1 from by omega) Km2 ?_
            refine J_topi (y := nI (R.2.1)) ((ji_ne_i (by omega) (hd1.f15.trans (congrArg nI hp1)))) ?_
            refine J_goto (tgt := 83) dX8_evaluate_79 (by decide) ?_
            refine J_puti (j := 7) (x := nI (R.2.1)) dX8_evaluate_83 (fun _ h => List.mem_cons_of_mem _ (List.mem_append_left _ (List.mem_append_right _ (h)))) cs11 cty11 (by decide) rfl (List.mem_of_getElem? (i := 6) rfl) rfl rfl ⟨rfl, rfl⟩ (show m < jn K1 from by omega) Km2 ?_
            refine J_aload_n (m) dX8_evaluate_86 rfl rfl ?_
            refine J_aload_n (m) dX8_evaluate_87 rfl rfl ?_
            refine J_geti (j := 16) dX8_evaluate_88 (fun _ h => List.mem_cons_of_mem _ (List.mem_append_left _ (List.mem_append_right _ (h)))) cs11 (by decide) rfl (List.mem_of_getElem? (i := 3) rfl) rfl (show m < jn K1 from by omega) Km2 ?_
            refine J_topi (y := jb (true)) ((ji_ne_i (by omega) (ji_ne_i (by omega) (hd1.f16.trans (congrArg jb hg))))) ?_
            refine J_if_eq dX8_evaluate_91 (tgt := 98) (by decide) (fun c91 => ?_) (fun c91 => ?_)
            · exact absurd c91 (by decide)
            · have c91 := jb0F c91
              refine J_iconst (x := 2) dX8_evaluate_94 (by decide) ?_
              refine J_goto (tgt := 99) dX8_evaluate_95 (by decide) ?_
              refine J_calli0 (jrunV (As := [.int (2)]) (ct_X8_fails l D dA hst (jSi (jSi K1 m 6 ((0))) m 7 (nI (R.2.1))) m hdY.1 ((2))) dX8_evaluate_99 yY_X8_fails gX8_evaluate_X8_fails rfl cs11 (show m < jn K1 from by omega) Km2 rfl ⟨by omega, by omega⟩ ⟨Nat.zero_le _, Nat.zero_le _⟩ rfl (Nat.le_of_ble_eq_true rfl)) (rfl) (rfl) ?_
              refine J_if_eq dX8_evaluate_102 (tgt := 107) (by decide) (fun c102 => ?_) (fun c102 => ?_)
              · exact absurd c102 (by decide)
              · have c102 := jeqF (a := 1) (b := 0) (by omega) (by omega) c102
                refine J_iconst (x := 0) dX8_evaluate_105 (by decide) ?_
                exact J_iret (ty := .int) dX8_evaluate_106 rfl (rfl) (by rw [ev_u c5, evOk_f (Or.inl (by rw [← hR]; exact hr)), evB_f, evR, ← hR]; exact ⟨mAg.x 1 xIAE rfl (by decide) ji_Sis rfl, hAY.fin.si rfl, ((hFY.si ⟨by omega, by omega⟩).si ⟨by omega, by omega⟩).si ⟨by omega, by omega⟩, _, rfl⟩)
        · exact absurd c44 (by decide)
      · have hg : g1.2.1 = false := by rw [hb1]; exact decide_eq_false hr
        obtain ⟨hx1, hn1, h251⟩ := hk1 hr
        have hT : eTree (cL A) eS0 R := by rw [hR]; exact eS_T hL6 (eFac_ok 8) (eFac_T hL6 8) eS0 ⟨Nat.zero_le _, Nat.zero_le _⟩ (Nat.le_refl _)
        obtain ⟨t, t1, -, t3, t4, t5, -, t7, t8⟩ := hT hr
        have t4 : t + 1 + 0 ≤ R.2.1 + 0 := t4
        have t8 : tTr R.2 (t + 1) 0 t := t8
        refine J_topi (y := nI (t)) (by rw [hx1]; exact t1) ?_
        refine J_istore_n (lv' := [.ref (m), .int (nI (k)), .int (nI (t))]) dX8_evaluate_39 rfl (by decide) rfl rfl ?_
        refine J_aload_n (m) dX8_evaluate_40 rfl rfl ?_
        refine J_geti (j := 16) dX8_evaluate_41 (fun _ h => List.mem_cons_of_mem _ (List.mem_append_left _ (List.mem_append_right _ (h)))) cs11 (by decide) rfl (List.mem_of_getElem? (i := 3) rfl) rfl (show m < jn K1 from by omega) Km2 ?_
        refine J_topi (y := jb (false)) ((hd1.f16.trans (congrArg jb hg))) ?_
        refine J_if_ne dX8_evaluate_44 (tgt := 62) (by decide) (fun c44 => ?_) (fun c44 => ?_)
        · exact absurd c44 (by decide)
        · have c44 := jb0T c44
          refine J_aload_n (m) dX8_evaluate_47 rfl rfl ?_
          refine J_geti (j := 15) dX8_evaluate_48 (fun _ h => List.mem_cons_of_mem _ (List.mem_append_left _ (List.mem_append_right _ (h)))) cs11 (by decide) rfl (List.mem_of_getElem? (i := 4) rfl) rfl (show m < jn K1 from by omega) Km2 ?_
          refine J_topi (y := nI (R.2.1)) ((hd1.f15.trans (congrArg nI hp1))) ?_
          refine J_aload_n (m) dX8_evaluate_51 rfl rfl ?_
          refine J_geti (j := 6) dX8_evaluate_52 (fun _ h => List.mem_cons_of_mem _ (List.mem_append_left _ (List.mem_append_right _ (h)))) cs11 (by decide) rfl (List.mem_of_getElem? (i := 5) rfl) rfl (show m < jn K1 from by omega) Km2 ?_
          refine J_topi (y := nI (cL A)) (hd1.f6) ?_
          refine J_icmp_ge dX8_evaluate_55 (tgt := 62) (by decide) (fun c55 => ?_) (fun c55 => ?_)
          · have c55 := jleT (a := cL A) (b := R.2.1) (by omega) (by omega) c55
            have hdY := hd1
            have hAY := hAK
            have hFY := hFK
            refine J_aload_n (m) dX8_evaluate_62 rfl rfl ?_
            refine J_iconst (x := 0) dX8_evaluate_63 (by decide) ?_
            refine J_puti (j := 6) (x := (0)) dX8_evaluate_64 (fun _ h => List.mem_cons_of_mem _ (List.mem_append_left _ (List.mem_append_right _ (h)))) cs11 cty11 (by decide) rfl (List.mem_of_getElem? (i := 5) rfl) rfl rfl ⟨rfl, rfl⟩ (show m < jn K1 from by omega) Km2 ?_
            refine J_aload_n (m) dX8_evaluate_67 rfl rfl ?_
            refine J_aload_n (m) dX8_evaluate_68 rfl rfl ?_
            refine J_geti (j := 16) dX8_evaluate_69 (fun _ h => List.mem_cons_of_mem _ (List.mem_append_left _ (List.mem_append_right _ (h)))) cs11 (by decide) rfl (List.mem_of_getElem? (i := 3) rfl) rfl (show m < jn K1 from by omega) Km2 ?_
            refine J_topi (y := jb (false)) ((ji_ne_i (by omega) (hd1.f16.trans (congrArg jb hg)))) ?_
            refine J_if_eq dX8_evaluate_72 (tgt := 82) (by decide) (fun c72 => ?_) (fun c72 => ?_)
            · have c72 := jb0T c72
              refine J_iconst (x := (-1)) dX8_evaluate_82 (by decide) ?_
              refine J_puti (j := 7) (x := (-1)) dX8_evaluate_83 (fun _ h => List.mem_cons_of_mem _ (List.mem_append_left _ (List.mem_append_right _ (h)))) cs11 cty11 (by decide) rfl (List.mem_of_getElem? (i := 6) rfl) rfl rfl ⟨rfl, rfl⟩ (show m < jn K1 from by omega) Km2 ?_
              refine J_aload_n (m) dX8_evaluate_86 rfl rfl ?_
              refine J_aload_n (m) dX8_evaluate_87 rfl rfl ?_
              refine J_geti (j := 16) dX8_evaluate_88 (fun _ h => List.mem_cons_of_mem _ (List.mem_append_left _ (List.mem_append_right _ (h)))) cs11 (by decide) rfl (List.mem_of_getElem? (i := 3) rfl) rfl (show m < jn K1 from by omega) Km2 ?_
              refine J_topi (y := jb (false)) ((ji_ne_i (by omega) (ji_ne_i (by omega) (hd1.f16.trans (congrArg jb hg))))) ?_
              refine J_if_eq dX8_evaluate_91 (tgt := 98) (by decide) (fun c91 => ?_) (fun c91 => ?_)
              · have c91 := jb0T c91
                refine J_iconst (x := 0) dX8_evaluate_98 (by decide) ?_
                refine J_calli0 (jrunV (As := [.int (0)]) (ct_X8_fails l D dA hst (jSi (jSi K1 m 6 ((0))) m 7 ((-1))) m hdY.1 ((0))) dX8_evaluate_99 yY_X8_fails gX8_evaluate_X8_fails rfl cs11 (show m < jn K1 from by omega) Km2 rfl ⟨by omega, by omega⟩ ⟨Nat.zero_le _, Nat.zero_le _⟩ rfl (Nat.le_of_ble_eq_true rfl)) (rfl) (rfl) ?_
                refine J_if_eq dX8_evaluate_102 (tgt := 107) (by decide) (fun c102 => ?_) (fun c102 => ?_)
                · have c102 := jeqT (a := 0) (b := 0) (by omega) (by omega) c102
                  refine J_aload_n (m) dX8_evaluate_107 rfl rfl ?_
                  refine J_iconst (x := 0) dX8_evaluate_108 (by decide) ?_
                  refine J_puti (j := 28) (x := (0)) dX8_evaluate_109 (fun _ h => List.mem_cons_of_mem _ (List.mem_append_left _ (List.mem_append_right _ (h)))) cs11 cty11 (by decide) rfl (List.mem_of_getElem? (i := 7) rfl) rfl rfl ⟨rfl, rfl⟩ (show m < jn K1 from by omega) Km2 ?_
                  obtain ⟨K2, hK2⟩ : ∃ K2, K2 = jSi (jSi (jSi (jSi K1 m 6 ((0))) m 7 ((-1))) m 11 ((0))) m 28 ((0)) := ⟨_, rfl⟩
                  refine J_mem (M' := K2) hK2.symm ?_
                  have hend : R.2.1 = cL A := by omega
                  have hA2 : mAb K2 m (cFin A (-1)) := by rw [hK2]; exact (hAY.fin.si rfl).si rfl
                  have hF2 : mFr m M K2 := by rw [hK2]; exact (((hFY.si ⟨by omega, by omega⟩).si ⟨by omega, by omega⟩).si ⟨by omega, by omega⟩).si ⟨by omega, by omega⟩
                  have h282 : ji K2 m 28 = 0 := by rw [hK2]; exact ji_Sis
                  have hN2 : mNd K2 m R.2 := by rw [hK2]; exact mNd.fo (mNd.fo (mNd.fo (mNd.fo hn1)))
                  have hc2 : ji K2 m 11 = 0 := by rw [hK2, ji_Sik (by decide)]; exact ji_Sis
                  have hs60 : R.2.2.1 ≤ 60 := by omega
                  have hWC := mWC_all l D dA hst m (cNw A) R.2 hW.1 hs60 (t + 1)
                  obtain ⟨Bm1, Bm2, ⟨Br1, Br2, Br3, Br4, Br5, Br6, Br7, Br8, Br9, Br10, Br11, Br12, Br13⟩, ⟨Bk1, Bk2, Bk3, Bk4, Bk5, Bk6, Bk7, Bk8, Bk9, Bk10, Bk11, Bk12, Bk13⟩, Bz1, Bz2, Bz3, Bz4, Bz5, Bz6, Bz7, Bz8, Bz9, Bz10, Bz11, Bz12, Bz13⟩ := id hA2.1
                  refine J_aload_n (m) dX8_evaluate_112 rfl rfl ?_
                  refine J_iload_n dX8_evaluate_113 rfl rfl ?_
                  refine J_iconst (x := 0) dX8_evaluate_114 (by decide) ?_
                  refine J_iconst (x := 0) dX8_evaluate_115 (by decide) ?_
                  refine J_callv (jrunV (As := [.int (nI (t)), .int (0), .int (0)]) (mWC.use hWC K2 0 t 0 0 hA2.1 hA2.z hN2 t8 (by omega) (by omega) (by omega) h282) dX8_evaluate_116 yY_X8_works gX8_evaluate_X8_works rfl cs11 (show m < jn K2 from by omega) Bm2 rfl ⟨by omega, by omega⟩ ⟨Nat.zero_le _, Nat.zero_le _⟩ rfl (Nat.le_of_ble_eq_true rfl)) ⟨Nat.zero_le _, Nat.zero_le _⟩ (Or.inr ⟨(jOk.ref (show m < jn K2 from by omega) (jOk.int (jOk.int jOk.nil))), jOk.nil⟩) (fun E M9 hp _ => by cases hp.1) (fun K3 hp116 hle116 => ?_)
                  obtain ⟨_, hf3, hr3⟩ := hp116
                  have hO3 := hf3.1.ok hA2.1
                  obtain ⟨Cm1, Cm2, ⟨Cr1, Cr2, Cr3, Cr4, Cr5, Cr6, Cr7, Cr8, Cr9, Cr10, Cr11, Cr12, Cr13⟩, ⟨Ck1, Ck2, Ck3, Ck4, Ck5, Ck6, Ck7, Ck8, Ck9, Ck10, Ck11, Ck12, Ck13⟩, Cz1, Cz2, Cz3, Cz4, Cz5, Cz6, Cz7, Cz8, Cz9, Cz10, Cz11, Cz12, Cz13⟩ := id hO3
                  have hc3 : ji K3 m 11 = 0 := (hf3.2.2.1 11 (by decide) (by decide) (by decide)).trans hc2
                  have hF3 := hF2.tr hf3.1
                  have hWT := eWk_T (S := cAt (cNw A)) hs60 (cAt_16 hz) (t + 1) 0 t (fun _ => none) none t8 (by omega)
                  have hev1 : sEval A (nI k) = sEvW A (nI k) R.2 (eWork (cAt (cNw A)) R.2) := by rw [ev_u c5, evOk_t (by rw [← hR]; exact hr) (by rw [← hR]; exact hend), evB_t, evR, ← hR]
                  rcases hev : evT (cAt (cNw A)) R.2 (t + 1) t with p | w
                  · have hr3 : mWr K2 K3 m R.2 0 0 (evT (cAt (cNw A)) R.2 (t + 1) t) := hr3
                    rw [hev] at hr3 hWT
                    obtain ⟨u1, u2, u3, u4, u5, u6⟩ := hr3
                    have hwork : eWork (cAt (cNw A)) R.2 = .inl (lst p) := hWT.2
                    obtain ⟨⟨q, rfl⟩, hdn, hlen⟩ := evT_dn hs60 (t + 1) 0 t p t8 (by omega) hev
                    obtain ⟨z1, z2⟩ := evChn_p hs60 hdn t7 (by omega)
                    have hch : mCh K3 m (some (evChn R.2 (lst (t :: q)))) := ⟨by rw [z1, u4, Nat.zero_add], by rw [z1]; omega, fun j hj => by rw [z1] at hj; rw [z2 j hj, ← u6 j hj, Nat.zero_add]⟩
                    have hA3 : mAb K3 m (cChn (cFin A (-1)) (evChn R.2 (lst (t :: q)))) := hA2.chn hf3 hch
                    refine J_aload_n (m) dX8_evaluate_119 rfl rfl ?_
                    refine J_geti (j := 28) dX8_evaluate_120 (fun _ h => List.mem_cons_of_mem _ (List.mem_append_left _ (List.mem_append_right _ (h)))) cs11 (by decide) rfl (List.mem_of_getElem? (i := 7) rfl) rfl (show m < jn K3 from by omega) Cm2 ?_
                    refine J_topi (y := (eWhy R.2 (lst (t :: q)))) (u3) ?_
                    refine J_if_le dX8_evaluate_123 (tgt := 141) (by decide) (fun c123 => ?_) (fun c123 => ?_)
                    · exact absurd eWhy_p (Int32.not_lt.mpr c123)
                    · refine J_aload_n (m) dX8_evaluate_126 rfl rfl ?_
                      refine J_aload_n (m) dX8_evaluate_127 rfl rfl ?_
                      refine J_geti (j := 28) dX8_evaluate_128 (fun _ h => List.mem_cons_of_mem _ (List.mem_append_left _ (List.mem_append_right _ (h)))) cs11 (by decide) rfl (List.mem_of_getElem? (i := 7) rfl) rfl (show m < jn K3 from by omega) Cm2 ?_
                      refine J_topi (y := (eWhy R.2 (lst (t :: q)))) (u3) ?_
                      refine J_puti (j := 8) (x := (eWhy R.2 (lst (t :: q)))) dX8_evaluate_131 (fun _ h => List.mem_cons_of_mem _ (List.mem_append_left _ (List.mem_append_right _ (h)))) cs11 cty11 (by decide) rfl (List.mem_of_getElem? (i := 8) rfl) rfl rfl ⟨rfl, rfl⟩ (show m < jn K3 from by omega) Cm2 ?_
                      refine J_aload_n (m) dX8_evaluate_134 rfl rfl ?_
                      refine J_iconst (x := 3) dX8_evaluate_135 (by decide) ?_
                      refine J_puti (j := 11) (x := (3)) dX8_evaluate_136 (fun _ h => List.mem_cons_of_mem _ (List.mem_append_left _ (List.mem_append_right _ (h)))) cs11 cty11 (by decide) rfl (List.mem_of_getElem? (i := 9) rfl) rfl rfl ⟨rfl, rfl⟩ (show m < jn K3 from by omega) Cm2 ?_
                      refine J_iconst (x := 0) dX8_evaluate_139 (by decide) ?_
                      exact J_iret (ty := .int) dX8_evaluate_140 rfl (rfl) (by rw [hev1, hwork]; exact ⟨mAg.x 2 xUOE rfl (by decide) ji_Sis rfl, (hA3.re8 eWhy_p).si rfl, (hF3.si ⟨by omega, by omega⟩).si ⟨by omega, by omega⟩, _, rfl⟩)
                  · have hr3 : mWr K2 K3 m R.2 0 0 (evT (cAt (cNw A)) R.2 (t + 1) t) := hr3
                    rw [hev] at hr3 hWT
                    obtain ⟨u1, u2, u3, u4, u5, u6⟩ := hr3
                    obtain ⟨w16, vs2, -, -, hwk⟩ := hWT
                    have hwork : eWork (cAt (cNw A)) R.2 = .inr (some w) := hwk.trans (by rw [← t3]; exact eWk_e (Nat.le_refl _))
                    have hA3 : mAb K3 m (cFin A (-1)) := hA2.wk hf3 u2 u3
                    refine J_aload_n (m) dX8_evaluate_119 rfl rfl ?_
                    refine J_geti (j := 28) dX8_evaluate_120 (fun _ h => List.mem_cons_of_mem _ (List.mem_append_left _ (List.mem_append_right _ (h)))) cs11 (by decide) rfl (List.mem_of_getElem? (i := 7) rfl) rfl (show m < jn K3 from by omega) Cm2 ?_
                    refine J_topi (y := (0)) (u1) ?_
                    refine J_if_le dX8_evaluate_123 (tgt := 141) (by decide) (fun c123 => ?_) (fun c123 => ?_)
                    · have c123 := jleT (a := 0) (b := 0) (by omega) (by omega) c123
                      refine J_aload_n (m) dX8_evaluate_141 rfl rfl ?_
                      refine J_iload_n dX8_evaluate_142 rfl rfl ?_
                      refine J_calli (jrunV (As := [.int (nI (k))]) (ct_X8_lays l D dA hst K3 m (cFin A (-1)) hA3 k hk w u4) dX8_evaluate_143 yY_X8_lays gX8_evaluate_X8_lays rfl cs11 (show m < jn K3 from by omega) Cm2 rfl ⟨by omega, by omega⟩ ⟨Nat.zero_le _, Nat.zero_le _⟩ rfl (Nat.le_of_ble_eq_true rfl)) ⟨Nat.zero_le _, Nat.zero_le _⟩ (Or.inr ⟨(jOk.ref (show m < jn K3 from by omega) (jOk.int (jOk.int jOk.nil))), jOk.nil⟩) (fun E M9 hp _ => by cases hp.1) (fun x9 K4 hp143 hle143 => ?_)
                      obtain ⟨he8, hB4, hF4, h114⟩ := hp143
                      cases he8
                      exact J_iret (ty := .int) dX8_evaluate_146 rfl (rfl) (by rw [hev1, hwork]; unfold sEvW; dsimp only; rw [nI_clamp (by omega)]; exact ⟨Or.inl ⟨h114.trans hc3, rfl⟩, hB4, hF3.tr hF4, _, rfl⟩)
                    · exact absurd c123 (by decide)
                · exact absurd c102 (by decide)
              · exact absurd c91 (by decide)
            · exact absurd c72 (by decide)
          · have c55 := jleF (a := cL A) (b := R.2.1) (by omega) (by omega) c55
            refine J_aload_n (m) dX8_evaluate_58 rfl rfl ?_
            refine J_callv0 (jrunV (As := []) (ct_X8_bad l D dA hst K1 m (cC A) (cL A) g1 hd1) dX8_evaluate_59 yY_X8_bad gX8_evaluate_X8_bad rfl cs11 (show m < jn K1 from by omega) Km2 rfl ⟨by omega, by omega⟩ ⟨Nat.zero_le _, Nat.zero_le _⟩ rfl (Nat.le_of_ble_eq_true rfl)) (rfl) (rfl) ?_
            obtain ⟨Y, hYe⟩ : ∃ Y, Y = mRS K1 m (gBad g1) := ⟨_, rfl⟩
            refine J_mem (M' := Y) hYe.symm ?_
            have hdY : mRd Y m (cC A) (cL A) (gBad g1) := by rw [hYe]; exact hd1.rs _ hd1.le
            have hAY : mAb Y m A := by rw [hYe]; exact hAK.q mRS_F mRS_E
            have hFY : mFr m M Y := by rw [hYe]; exact hFK.tr mRS_F
            obtain ⟨Ym1, Ym2, ⟨Yr1, Yr2, Yr3, Yr4, Yr5, Yr6, Yr7, Yr8, Yr9, Yr10, Yr11, Yr12, Yr13⟩, ⟨Yk1, Yk2, Yk3, Yk4, Yk5, Yk6, Yk7, Yk8, Yk9, Yk10, Yk11, Yk12, Yk13⟩, Yz1, Yz2, Yz3, Yz4, Yz5, Yz6, Yz7, Yz8, Yz9, Yz10, Yz11, Yz12, Yz13⟩ := id hdY.1
            refine J_aload_n (m) dX8_evaluate_62 rfl rfl ?_
            refine J_iconst (x := 0) dX8_evaluate_63 (by decide) ?_
            refine J_puti (j := 6) (x := (0)) dX8_evaluate_64 (fun _ h => List.mem_cons_of_mem _ (List.mem_append_left _ (List.mem_append_right _ (h)))) cs11 cty11 (by decide) rfl (List.mem_of_getElem? (i := 5) rfl) rfl rfl ⟨rfl, rfl⟩ (show m < jn Y from by omega) Ym2 ?_
            refine J_aload_n (m) dX8_evaluate_67 rfl rfl ?_
            refine J_aload_n (m) dX8_evaluate_68 rfl rfl ?_
            refine J_geti (j := 16) dX8_evaluate_69 (fun _ h => List.mem_cons_of_mem _ (List.mem_append_left _ (List.mem_append_right _ (h)))) cs11 (by decide) rfl (List.mem_of_getElem? (i := 3) rfl) rfl (show m < jn Y from by omega) Ym2 ?_
            refine J_topi (y := jb (true)) ((ji_ne_i (by omega) hdY.f16)) ?_
            refine J_if_eq dX8_evaluate_72 (tgt := 82) (by decide) (fun c72 => ?_) (fun c72 => ?_)
            · exact absurd c72 (by decide)
            · have c72 := jb0F c72
              refine J_aload_n (m) dX8_evaluate_75 rfl rfl ?_
              refine J_geti (j := 15) dX8_evaluate_76 (fun _ h => List.mem_cons_of_mem _ (List.mem_append_left _ (List.mem_append_right _ (h)))) cs11 (by decide) rfl (List.mem_of_getElem? (i := 4) rfl) rfl (show m < jn Y from by omega) Ym2 ?_
              refine J_topi (y := nI (R.2.1)) ((ji_ne_i (by omega) (hdY.f15.trans (congrArg nI hp1)))) ?_
              refine J_goto (tgt := 83) dX8_evaluate_79 (by decide) ?_
              refine J_puti (j := 7) (x := nI (R.2.1)) dX8_evaluate_83 (fun _ h => List.mem_cons_of_mem _ (List.mem_append_left _ (List.mem_append_right _ (h)))) cs11 cty11 (by decide) rfl (List.mem_of_getElem? (i := 6) rfl) rfl rfl ⟨rfl, rfl⟩ (show m < jn Y from by omega) Ym2 ?_
              refine J_aload_n (m) dX8_evaluate_86 rfl rfl ?_
              refine J_aload_n (m) dX8_evaluate_87 rfl rfl ?_
              refine J_geti (j := 16) dX8_evaluate_88 (fun _ h => List.mem_cons_of_mem _ (List.mem_append_left _ (List.mem_append_right _ (h)))) cs11 (by decide) rfl (List.mem_of_getElem? (i := 3) rfl) rfl (show m < jn Y from by omega) Ym2 ?_
              refine J_topi (y := jb (true)) ((ji_ne_i (by omega) (ji_ne_i (by omega) hdY.f16))) ?_
              refine J_if_eq dX8_evaluate_91 (tgt := 98) (by decide) (fun c91 => ?_) (fun c91 => ?_)
              · exact absurd c91 (by decide)
              · have c91 := jb0F c91
                refine J_iconst (x := 2) dX8_evaluate_94 (by decide) ?_
                refine J_goto (tgt := 99) dX8_evaluate_95 (by decide) ?_
                refine J_calli0 (jrunV (As := [.int (2)]) (ct_X8_fails l D dA hst (jSi (jSi Y m 6 ((0))) m 7 (nI (R.2.1))) m hdY.1 ((2))) dX8_evaluate_99 yY_X8_fails gX8_evaluate_X8_fails rfl cs11 (show m < jn Y from by omega) Ym2 rfl ⟨by omega, by omega⟩ ⟨Nat.zero_le _, Nat.zero_le _⟩ rfl (Nat.le_of_ble_eq_true rfl)) (rfl) (rfl) ?_
                refine J_if_eq dX8_evaluate_102 (tgt := 107) (by decide) (fun c102 => ?_) (fun c102 => ?_)
                · exact absurd c102 (by decide)
                · have c102 := jeqF (a := 1) (b := 0) (by omega) (by omega) c102
                  refine J_iconst (x := 0) dX8_evaluate_105 (by decide) ?_
                  exact J_iret (ty := .int) dX8_evaluate_106 rfl (rfl) (by rw [ev_u c5, evOk_f (Or.inr (by rw [← hR]; omega)), evB_f, evR, ← hR]; exact ⟨mAg.x 1 xIAE rfl (by decide) ji_Sis rfl, hAY.fin.si rfl, ((hFY.si ⟨by omega, by omega⟩).si ⟨by omega, by omega⟩).si ⟨by omega, by omega⟩, _, rfl⟩)
    · exact absurd c16 (by decide)

