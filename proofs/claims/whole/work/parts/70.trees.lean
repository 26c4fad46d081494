/-- the nodes from a to t are a tree with its root at t, operands first -/
def tTr (s : eSt) : Nat → Nat → Nat → Prop
  | 0, _, _ => False
  | f + 1, a, t => (s.2.2.1 t = 4 ∧ a = t) ∨ (s.2.2.1 t = 3 ∧ ∃ l, l + 1 = t ∧ a ≤ l ∧ s.2.2.2.2.1 t = nI l ∧ s.2.2.2.2.2.2 l = nI t ∧ tTr s f a l) ∨
    ((s.2.2.1 t = 0 ∨ s.2.2.1 t = 1 ∨ s.2.2.1 t = 2) ∧ ∃ l r, a ≤ l ∧ l < r ∧ r + 1 = t ∧ s.2.2.2.2.1 t = nI l ∧ s.2.2.2.2.2.1 t = nI r ∧ s.2.2.2.2.2.2 l = nI t ∧ s.2.2.2.2.2.2 r = nI t ∧ tTr s f a l ∧ tTr s f (l + 1) r)
theorem tTr_mono {s : eSt} : ∀ f f2 a t, f ≤ f2 → tTr s f a t → tTr s f2 a t := by
  intro f
  induction f with
  | zero => intro f2 a t _ h; exact absurd h id
  | succ f ih =>
    intro f2 a t hf h
    obtain ⟨g, rfl⟩ : ∃ g, f2 = g + 1 := ⟨f2 - 1, by omega⟩
    rcases h with h | ⟨h, l, h1, h2, h3, h4, h5⟩ | ⟨h, l, r, h1, h2, h3, h4, h5, h6, h7, h8, h9⟩
    · exact Or.inl h
    · exact Or.inr (Or.inl ⟨h, l, h1, h2, h3, h4, ih g a l (by omega) h5⟩)
    · exact Or.inr (Or.inr ⟨h, l, r, h1, h2, h3, h4, h5, h6, h7, ih g a l (by omega) h8, ih g (l + 1) r (by omega) h9⟩)
theorem tTr_le {s : eSt} : ∀ f a t, tTr s f a t → a ≤ t := by
  intro f
  induction f with
  | zero => intro a t h; exact absurd h id
  | succ f ih =>
    intro a t h
    rcases h with h | ⟨h, l, h1, h2, h3, h4, h5⟩ | ⟨h, l, r, h1, h2, h3, h4, h5, h6, h7, h8, h9⟩
    · omega
    · omega
    · omega
theorem tTr_cong {s s2 : eSt} : ∀ f a t, (∀ i, a ≤ i → i ≤ t → s2.2.2.1 i = s.2.2.1 i ∧ s2.2.2.2.2.1 i = s.2.2.2.2.1 i ∧ s2.2.2.2.2.2.1 i = s.2.2.2.2.2.1 i) → (∀ i, a ≤ i → i < t → s2.2.2.2.2.2.2 i = s.2.2.2.2.2.2 i) → tTr s f a t → tTr s2 f a t := by
  intro f
  induction f with
  | zero => intro a t _ _ h; exact absurd h id
  | succ f ih =>
    intro a t h1 h2 h
    have hle := tTr_le (f + 1) a t h
    obtain ⟨e1, e2, e3⟩ := h1 t hle (Nat.le_refl _)
    rcases h with h | ⟨h, l, g1, g2, g3, g4, g5⟩ | ⟨h, l, r, g1, g2, g3, g4, g5, g6, g7, g8, g9⟩
    · exact Or.inl ⟨e1.trans h.1, h.2⟩
    · exact Or.inr (Or.inl ⟨e1.trans h, l, g1, g2, e2.trans g3, (h2 l g2 (by omega)).trans g4, ih a l (fun i a1 a2 => h1 i a1 (by omega)) (fun i a1 a2 => h2 i a1 (by omega)) g5⟩)
    · refine Or.inr (Or.inr ⟨by rw [e1]; exact h, l, r, g1, g2, g3, e2.trans g4, e3.trans g5, (h2 l g1 (by omega)).trans g6, (h2 r (by omega) (by omega)).trans g7, ih a l (fun i a1 a2 => h1 i a1 (by omega)) (fun i a1 a2 => h2 i a1 (by omega)) g8, ih (l + 1) r (fun i a1 a2 => h1 i (by omega) (by omega)) (fun i a1 a2 => h2 i (by omega) (by omega)) g9⟩)
/-- below a number of nodes all is as it was -/
def eBel (n : Nat) (s s2 : eSt) : Prop := ∀ i, i < n → s2.2.2.1 i = s.2.2.1 i ∧ s2.2.2.2.1 i = s.2.2.2.1 i ∧ s2.2.2.2.2.1 i = s.2.2.2.2.1 i ∧ s2.2.2.2.2.2.1 i = s.2.2.2.2.2.1 i ∧ s2.2.2.2.2.2.2 i = s.2.2.2.2.2.2 i
theorem eBel.rf {n : Nat} {s : eSt} : eBel n s s := fun _ _ => ⟨rfl, rfl, rfl, rfl, rfl⟩
theorem eBel.tr {n n2 : Nat} {s s2 s3 : eSt} (h : eBel n s s2) (h2 : eBel n2 s2 s3) (hn : n ≤ n2) : eBel n s s3 := fun i hi => by
  obtain ⟨a1, a2, a3, a4, a5⟩ := h i hi
  obtain ⟨b1, b2, b3, b4, b5⟩ := h2 i (by omega)
  exact ⟨b1.trans a1, b2.trans a2, b3.trans a3, b4.trans a4, b5.trans a5⟩
/-- what reading a part of an expression makes -/
def eTree (L : Nat) (s : eSt) (r : Int32 × eSt) : Prop := r.1 ≠ -1 → ∃ t, r.1 = nI t ∧ s.2.1 ≤ t ∧ r.2.2.1 = t + 1 ∧ t + 1 + s.1 ≤ r.2.1 + s.2.1 ∧ r.2.1 ≤ L ∧ eBel s.2.1 s r.2 ∧ r.2.2.2.2.2.2.2 t = -1 ∧ tTr r.2 (t + 1 - s.2.1) s.2.1 t
def eGd (L : Nat) (G : eRd) : Prop := ∀ s, eOk L s → s.2.1 ≤ s.1 → eTree L s (G s)
theorem upd_ne {f : Nat → Int32} {k j : Nat} {x : Int32} (h : j ≠ k) : upd f k x j = f j := by unfold upd; rw [if_neg h]
theorem upd_eq {f : Nat → Int32} {k : Nat} {x : Int32} : upd f k x k = x := by unfold upd; rw [if_pos rfl]
theorem eAdd_4 {L : Nat} {po le ri : Int32} {s : eSt} (h : s.2.1 < L) : eAdd L 4 po le ri s = (nI s.2.1, eInc (eNew s 4 po le ri)) := by unfold eAdd; rw [if_pos h, if_pos rfl]
theorem eSp_n {L x : Nat} {y : Int32} {s : eSt} (h : x < L) (hL : L ≤ 60) : eSp L (nI x) y s = (s.1, s.2.1, s.2.2.1, s.2.2.2.1, s.2.2.2.2.1, s.2.2.2.2.2.1, upd s.2.2.2.2.2.2 x y) := by
  unfold eSp
  rw [if_neg (nI_pos (by omega)), if_pos (nI_lt h (by omega)), nI_clamp (by omega)]
theorem eAdd_3 {L l : Nat} {po : Int32} {s : eSt} (h : s.2.1 < L) (hl : l < L) (hL : L ≤ 60) : eAdd L 3 po (nI l) (-1) s = (nI s.2.1, (s.1, s.2.1 + 1, upd s.2.2.1 s.2.1 3, upd s.2.2.2.1 s.2.1 po, upd s.2.2.2.2.1 s.2.1 (nI l), upd s.2.2.2.2.2.1 s.2.1 (-1), upd (upd s.2.2.2.2.2.2 s.2.1 (-1)) l (nI s.2.1))) := by
  unfold eAdd
  rw [if_pos h, if_neg (by decide), eSp_n hl hL]
  unfold eSp
  rw [if_pos (by decide)]
  rfl
theorem eAdd_2 {L l r : Nat} {kd po : Int32} {s : eSt} (hk : kd ≠ 4) (h : s.2.1 < L) (hl : l < L) (hr : r < L) (hL : L ≤ 60) : eAdd L kd po (nI l) (nI r) s = (nI s.2.1, (s.1, s.2.1 + 1, upd s.2.2.1 s.2.1 kd, upd s.2.2.2.1 s.2.1 po, upd s.2.2.2.2.1 s.2.1 (nI l), upd s.2.2.2.2.2.1 s.2.1 (nI r), upd (upd (upd s.2.2.2.2.2.2 s.2.1 (-1)) l (nI s.2.1)) r (nI s.2.1))) := by
  unfold eAdd
  rw [if_pos h, if_neg hk, eSp_n hl hL, eSp_n hr hL]
  rfl
theorem eNum_T {c : Nat → Int32} {L : Nat} : eGd L (eNum c L) := by
  intro s hs hn h1
  unfold eNum at h1 ⊢
  by_cases h : (tNum c L s.1).1 = -1
  · rw [if_pos h] at h1; exact absurd rfl h1
  · have hlt := (tNum_n h).2.1
    have hle := tNum_le (c := c) hs.1
    have h2 : ((tNum c L s.1).2, s.2).2.1 < L := by show s.2.1 < L; omega
    rw [if_neg h, eAdd_4 h2]
    refine ⟨s.2.1, rfl, Nat.le_refl _, rfl, ?_, hle, fun i hi => ?_, upd_eq, ?_⟩
    · show s.2.1 + 1 + s.1 ≤ (tNum c L s.1).2 + s.2.1; omega
    · have e : i ≠ s.2.1 := by omega
      exact ⟨upd_ne e, upd_ne e, upd_ne e, upd_ne e, upd_ne e⟩
    · rw [show s.2.1 + 1 - s.2.1 = 0 + 1 from by omega]
      exact Or.inl ⟨upd_eq, rfl⟩
/-- an operation of two parts -/
theorem eOp_T {c : Nat → Int32} {L : Nat} {G : eRd} (hL : L ≤ 60) (hG : eGd L G) {kd le : Int32} {s s1 : eSt} (hk : kd = 0 ∨ kd = 1 ∨ kd = 2) (h1 : eOk L s1) (h0 : s.2.1 ≤ s.1) (hle : le ≠ -1) (hT : eTree L s (le, s1)) : eTree L s (eOp c L G kd le s1) := by
  obtain ⟨t, e1, e2, e3, e4, e5, e6, e7, e8⟩ := hT hle
  have e1 : le = nI t := e1
  have e3 : s1.2.1 = t + 1 := e3
  have e4 : t + 1 + s.1 ≤ s1.1 + s.2.1 := e4
  intro h2
  unfold eOp at h2 ⊢
  by_cases ha : eAtO c L s1.1 = true
  · rw [if_pos ha] at h2 ⊢
    have hlt := eAtO_lt ha
    have hok : eOk L ((s1.1 + 1, s1.2) : eSt) := ⟨hlt, h1.2⟩
    by_cases hr : (G (s1.1 + 1, s1.2)).1 = -1
    · rw [if_pos hr] at h2; exact absurd rfl h2
    · rw [if_neg hr]
      obtain ⟨r, g1, g2, g3, g4, g5, g6, g7, g8⟩ := hG (s1.1 + 1, s1.2) hok (by show s1.2.1 ≤ s1.1 + 1; omega) hr
      have g2 : s1.2.1 ≤ r := g2
      have g4 : r + 1 + (s1.1 + 1) ≤ (G (s1.1 + 1, s1.2)).2.1 + s1.2.1 := g4
      have g6 : eBel s1.2.1 s1 (G (s1.1 + 1, s1.2)).2 := g6
      have g8 : tTr (G (s1.1 + 1, s1.2)).2 (r + 1 - s1.2.1) s1.2.1 r := g8
      have hk4 : kd ≠ 4 := by rcases hk with rfl | rfl | rfl <;> decide
      generalize G (s1.1 + 1, s1.2) = R at *
      rw [e1, g1, eAdd_2 hk4 (by omega) (by omega) (by omega) hL]
      have g6t := g6 t (by omega)
      refine ⟨R.2.2.1, rfl, by omega, rfl, ?_, g5, ?_, ?_, ?_⟩
      · show R.2.2.1 + 1 + s.1 ≤ R.2.1 + s.2.1; omega
      · refine (e6.tr g6 (by omega)).tr (n2 := s.2.1) (fun i hi => ?_) (Nat.le_refl _)
        have a1 : i ≠ R.2.2.1 := by omega
        exact ⟨upd_ne a1, upd_ne a1, upd_ne a1, upd_ne a1, by show upd (upd (upd _ _ _) _ _) _ _ i = _; rw [upd_ne (by omega), upd_ne (by omega), upd_ne a1]⟩
      · show upd (upd (upd _ _ _) _ _) _ _ _ = _
        rw [upd_ne (by omega), upd_ne (by omega)]; exact upd_eq
      · rw [show R.2.2.1 + 1 - s.2.1 = (R.2.2.1 - s.2.1) + 1 from by omega]
        refine Or.inr (Or.inr ⟨?_, t, r, e2, by omega, g3.symm, upd_eq, upd_eq, ?_, ?_, ?_, ?_⟩)
        · show upd _ _ _ _ = 0 ∨ upd _ _ _ _ = 1 ∨ upd _ _ _ _ = 2; rw [upd_eq]; exact hk
        · show upd (upd (upd _ _ _) _ _) _ _ _ = _
          rw [upd_ne (by omega)]; exact upd_eq
        · show upd (upd (upd _ _ _) _ _) _ _ _ = _
          exact upd_eq
        · refine tTr_mono _ _ _ _ (by omega) (tTr_cong _ _ _ (fun i a1 a2 => ?_) (fun i a1 a2 => ?_) e8)
          · have b := g6 i (by omega)
            exact ⟨(upd_ne (by omega)).trans b.1, (upd_ne (by omega)).trans b.2.2.1, (upd_ne (by omega)).trans b.2.2.2.1⟩
          · have b := g6 i (by omega)
            show upd (upd (upd _ _ _) _ _) _ _ _ = _
            rw [upd_ne (by omega), upd_ne (by omega), upd_ne (by omega)]; exact b.2.2.2.2
        · rw [show t + 1 = s1.2.1 from e3.symm]
          refine tTr_mono _ _ _ _ (by omega) (tTr_cong _ _ _ (fun i a1 a2 => ?_) (fun i a1 a2 => ?_) g8)
          · exact ⟨upd_ne (by omega), upd_ne (by omega), upd_ne (by omega)⟩
          · show upd (upd (upd _ _ _) _ _) _ _ _ = _
            rw [upd_ne (by omega), upd_ne (by omega), upd_ne (by omega)]
  · rw [if_neg ha] at h2; exact absurd rfl h2
theorem eTree_ok {L : Nat} {s : eSt} {r : Int32 × eSt} (h : eTree L s r) (h0 : s.2.1 ≤ s.1) (hr : r.1 ≠ -1) : r.2.2.1 ≤ r.2.1 := by
  obtain ⟨t, e1, e2, e3, e4, -⟩ := h hr
  omega
theorem eTgo_T {c : Nat → Int32} {L : Nat} {G : eRd} (hL : L ≤ 60) (hok : ∀ s, eOk L s → eOk L (G s).2) (hG : eGd L G) {s : eSt} (h0 : s.2.1 ≤ s.1) : ∀ fu le s1, eOk L s1 → eTree L s (le, s1) → eTree L s (eTgo c L G fu le s1) := by
  intro fu
  induction fu with
  | zero => intro le s1 _ h; exact h
  | succ fu ih =>
    intro le s1 h1 hT
    unfold eTgo
    by_cases hle : le = -1
    · rw [if_pos hle]; exact hT
    · rw [if_neg hle]
      split
      · exact ih _ _ (eOp_ok hok h1) (eOp_T hL hG (Or.inr (Or.inl rfl)) h1 h0 hle hT)
      · split
        · exact ih _ _ (eOp_ok hok h1) (eOp_T hL hG (Or.inr (Or.inr rfl)) h1 h0 hle hT)
        · exact hT
theorem eT_T {c : Nat → Int32} {L : Nat} {G : eRd} (hL : L ≤ 60) (hok : ∀ s, eOk L s → eOk L (G s).2) (hG : eGd L G) : eGd L (eT c L G) := fun s hs h0 => eTgo_T hL hok hG h0 _ _ _ (hok s hs) (hG s hs h0)
theorem eSgo_T {c : Nat → Int32} {L : Nat} {G : eRd} (hL : L ≤ 60) (hok : ∀ s, eOk L s → eOk L (G s).2) (hG : eGd L G) {s : eSt} (h0 : s.2.1 ≤ s.1) : ∀ fu le s1, eOk L s1 → eTree L s (le, s1) → eTree L s (eSgo c L G fu le s1) := by
  intro fu
  induction fu with
  | zero => intro le s1 _ h; exact h
  | succ fu ih =>
    intro le s1 h1 hT
    unfold eSgo
    by_cases hle : le = -1
    · rw [if_pos hle]; exact hT
    · rw [if_neg hle]
      split
      · exact ih _ _ (eOp_ok (eT_ok hok) h1) (eOp_T hL (eT_T hL hok hG) (Or.inl rfl) h1 h0 hle hT)
      · exact hT
theorem eS_T {c : Nat → Int32} {L : Nat} {G : eRd} (hL : L ≤ 60) (hok : ∀ s, eOk L s → eOk L (G s).2) (hG : eGd L G) : eGd L (eS c L G) := fun s hs h0 => eSgo_T hL hok hG h0 _ _ _ (eT_ok hok s hs) (eT_T hL hok hG s hs h0)
theorem eFac_T {c : Nat → Int32} {L : Nat} (hL : L ≤ 60) : ∀ d, eGd L (eFac c L d) := by
  intro d
  induction d with
  | zero =>
    intro s hs h0 h1
    by_cases a : tIsAt c L s.1 33 = true
    · exact absurd (show (eFac c L 0 s).1 = -1 by show (if tIsAt c L s.1 33 = true then _ else _ : Int32 × eSt).1 = -1; rw [if_pos a]) h1
    · by_cases b : tIsAt c L s.1 40 = true
      · exact absurd (show (eFac c L 0 s).1 = -1 by show (if tIsAt c L s.1 33 = true then _ else if tIsAt c L s.1 40 = true then _ else _ : Int32 × eSt).1 = -1; rw [if_neg a, if_pos b]) h1
      · have e : eFac c L 0 s = eNum c L s := by
          show (if tIsAt c L s.1 33 = true then _ else if tIsAt c L s.1 40 = true then _ else _ : Int32 × eSt) = _
          rw [if_neg a, if_neg b]
        rw [e] at h1 ⊢
        exact eNum_T s hs h0 h1
  | succ d ih =>
    intro s hs h0 h1
    unfold eFac at h1 ⊢
    by_cases a : tIsAt c L s.1 33 = true
    · rw [if_pos a] at h1 ⊢
      have hlt := tIsAt_lt a
      have hok : eOk L ((s.1 + 1, s.2) : eSt) := ⟨hlt, hs.2⟩
      by_cases hr : (eFac c L d (s.1 + 1, s.2)).1 = -1
      · rw [if_pos hr] at h1; exact absurd rfl h1
      · rw [if_neg hr]
        obtain ⟨r, g1, g2, g3, g4, g5, g6, g7, g8⟩ := ih (s.1 + 1, s.2) hok (by show s.2.1 ≤ s.1 + 1; omega) hr
        have g2 : s.2.1 ≤ r := g2
        have g4 : r + 1 + (s.1 + 1) ≤ (eFac c L d (s.1 + 1, s.2)).2.1 + s.2.1 := g4
        have g6 : eBel s.2.1 s (eFac c L d (s.1 + 1, s.2)).2 := g6
        have g8 : tTr (eFac c L d (s.1 + 1, s.2)).2 (r + 1 - s.2.1) s.2.1 r := g8
        generalize eFac c L d (s.1 + 1, s.2) = R at *
        rw [g1, eAdd_3 (by omega) (by omega) hL]
        refine ⟨R.2.2.1, rfl, by omega, rfl, ?_, g5, ?_, ?_, ?_⟩
        · show R.2.2.1 + 1 + s.1 ≤ R.2.1 + s.2.1; omega
        · refine g6.tr (n2 := s.2.1) (fun i hi => ?_) (Nat.le_refl _)
          have a1 : i ≠ R.2.2.1 := by omega
          exact ⟨upd_ne a1, upd_ne a1, upd_ne a1, upd_ne a1, by show upd (upd _ _ _) _ _ i = _; rw [upd_ne (by omega), upd_ne a1]⟩
        · show upd (upd _ _ _) _ _ _ = _
          rw [upd_ne (by omega)]; exact upd_eq
        · rw [show R.2.2.1 + 1 - s.2.1 = (R.2.2.1 - s.2.1) + 1 from by omega]
          refine Or.inr (Or.inl ⟨upd_eq, r, g3.symm, g2, upd_eq, ?_, ?_⟩)
          · show upd (upd _ _ _) _ _ _ = _
            exact upd_eq
          · refine tTr_mono _ _ _ _ (by omega) (tTr_cong _ _ _ (fun i a1 a2 => ?_) (fun i a1 a2 => ?_) g8)
            · exact ⟨upd_ne (by omega), upd_ne (by omega), upd_ne (by omega)⟩
            · show upd (upd _ _ _) _ _ _ = _
              rw [upd_ne (by omega), upd_ne (by omega)]
    · rw [if_neg a] at h1 ⊢
      by_cases b : tIsAt c L s.1 40 = true
      · rw [if_pos b] at h1 ⊢
        have hlt := tIsAt_lt b
        have hok : eOk L ((s.1 + 1, s.2) : eSt) := ⟨hlt, hs.2⟩
        have hG := eS_T (c := c) hL (eFac_ok d) ih (s.1 + 1, s.2) hok (by show s.2.1 ≤ s.1 + 1; omega)
        by_cases hr : (eS c L (eFac c L d) (s.1 + 1, s.2)).1 = -1
        · rw [if_pos hr] at h1; exact absurd rfl h1
        · rw [if_neg hr] at h1 ⊢
          obtain ⟨r, g1, g2, g3, g4, g5, g6, g7, g8⟩ := hG hr
          have g4 : r + 1 + (s.1 + 1) ≤ (eS c L (eFac c L d) (s.1 + 1, s.2)).2.1 + s.2.1 := g4
          by_cases k : tIsAt c L (eS c L (eFac c L d) (s.1 + 1, s.2)).2.1 41 = true
          · rw [if_pos k]
            have hlt2 := tIsAt_lt k
            refine ⟨r, g1, g2, g3, ?_, hlt2, g6, g7, ?_⟩
            · show r + 1 + s.1 ≤ (eS c L (eFac c L d) (s.1 + 1, s.2)).2.1 + 1 + s.2.1; omega
            · exact tTr_cong (s := (eS c L (eFac c L d) (s.1 + 1, s.2)).2) _ _ _ (fun i _ _ => ⟨rfl, rfl, rfl⟩) (fun i _ _ => rfl) g8
          · rw [if_neg k] at h1; exact absurd rfl h1
      · rw [if_neg b] at h1 ⊢
        exact eNum_T s hs h0 h1
