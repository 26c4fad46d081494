/-- pieces written one after the other: the capacity behind them, the cells and the slots that growing costs -/
def sbK (m l : Nat) : List (List Nat) → Nat
  | [] => m
  | p :: ps => sbK (sbCap (l + p.length) m) (l + p.length) ps
def sbKc (m l : Nat) : List (List Nat) → Nat
  | [] => 0
  | p :: ps => sbC (l + p.length) m + sbKc (sbCap (l + p.length) m) (l + p.length) ps
def sbKs (m l : Nat) : List (List Nat) → Nat
  | [] => 0
  | p :: ps => sbS (l + p.length) m + sbKs (sbCap (l + p.length) m) (l + p.length) ps
theorem sbK_app (ps qs : List (List Nat)) : ∀ m l, sbK m l (ps ++ qs) = sbK (sbK m l ps) (l + ps.flatten.length) qs ∧ sbKc m l (ps ++ qs) = sbKc m l ps + sbKc (sbK m l ps) (l + ps.flatten.length) qs ∧ sbKs m l (ps ++ qs) = sbKs m l ps + sbKs (sbK m l ps) (l + ps.flatten.length) qs := by
  induction ps with
  | nil => intro m l; exact ⟨rfl, (Nat.zero_add _).symm, (Nat.zero_add _).symm⟩
  | cons p ps ih =>
    intro m l
    obtain ⟨a, b, c⟩ := ih (sbCap (l + p.length) m) (l + p.length)
    have e : l + (p :: ps).flatten.length = l + p.length + ps.flatten.length := by rw [List.flatten_cons, List.length_append]; omega
    rw [e]
    refine ⟨a, ?_, ?_⟩
    · show sbC _ _ + sbKc _ _ (ps ++ qs) = sbC _ _ + sbKc _ _ ps + _; rw [b]; exact (Nat.add_assoc _ _ _).symm
    · show sbS _ _ + sbKs _ _ (ps ++ qs) = sbS _ _ + sbKs _ _ ps + _; rw [c]; exact (Nat.add_assoc _ _ _).symm
theorem sbK_ge (ps : List (List Nat)) : ∀ m l, m ≤ sbK m l ps := by
  induction ps with
  | nil => intro m l; exact Nat.le_refl _
  | cons p ps ih => intro m l; exact Nat.le_trans (sbCap_ge _ _).1 (ih _ _)
def sbGp (m : Nat) : Nat := if m < 34 then 6 else if m < 70 then 5 else if m < 142 then 4 else if m < 286 then 3 else if m < 574 then 2 else if m < 1150 then 1 else 0
theorem sbG_step {q m : Nat} (h16 : 16 ≤ m) (hq : q ≤ 600) : sbC q m + sbGp (sbCap q m) ≤ sbGp m ∧ sbS q m + 2 * (1202 - sbCap q m) ≤ 2 * (1202 - m) := by
  unfold sbC sbS sbCap
  by_cases h : q ≤ m
  · rw [if_pos h, if_pos h, if_pos h]; omega
  · rw [if_neg h, if_neg h, if_neg h]
    unfold sbGp
    have : m + 2 ≤ max (q - m) (m + 2) := Nat.le_max_right _ _
    have h2 : max (q - m) (m + 2) ≤ 602 := Nat.max_le.mpr ⟨by omega, by omega⟩
    generalize max (q - m) (m + 2) = z at *
    refine ⟨?_, by omega⟩
    repeat' split
    all_goals omega
theorem sbK_pot (ps : List (List Nat)) : ∀ m l, 16 ≤ m → l + ps.flatten.length ≤ 600 → sbKc m l ps ≤ sbGp m ∧ sbKs m l ps ≤ 2 * (1202 - m) := by
  induction ps with
  | nil => intro m l _ _; exact ⟨Nat.zero_le _, Nat.zero_le _⟩
  | cons p ps ih =>
    intro m l h16 hl
    have e : (p :: ps).flatten.length = p.length + ps.flatten.length := by rw [List.flatten_cons, List.length_append]
    have hg := sbG_step (q := l + p.length) h16 (by omega)
    have := ih (sbCap (l + p.length) m) (l + p.length) (Nat.le_trans h16 (sbCap_ge _ _).1) (by omega)
    show sbC _ _ + sbKc _ _ ps ≤ _ ∧ sbS _ _ + sbKs _ _ ps ≤ _
    omega
theorem sbGp_6 (m : Nat) : sbGp m ≤ 6 := by unfold sbGp; repeat' split
                                            all_goals omega
theorem sbK_le {m l : Nat} {ps T : List (List Nat)} (h : ∃ r, T = ps ++ r) : sbKc m l ps ≤ sbKc m l T ∧ sbKs m l ps ≤ sbKs m l T ∧ ps.flatten.length ≤ T.flatten.length := by
  obtain ⟨r, rfl⟩ := h
  rw [(sbK_app ps r m l).2.1, (sbK_app ps r m l).2.2, List.flatten_append, List.length_append]
  omega
theorem jAb.sb {M M1 : jM} {v b m : Nat} {A : cA} {tx : List Nat} (h : jAb M v A) (hT : sbT M1 (v + 34) b m tx) (h16 : 16 ≤ m) (hF : sbF (v + 34) M M1) : jAb M1 v A ∧ jFv v M M1 := by
  obtain ⟨g1, g2, g3, g4, g5, g6, ⟨nx, g7, g8⟩, g9⟩ := h
  obtain ⟨f1, f2, f3, f4, f5, f6⟩ := hF
  have lt := Nat.le_trans (Nat.add_le_add_left (show 36 ≤ 52 by decide) _) g1.1
  have hf : jFv v M M1 := ⟨f1, fun a ha => ⟨(f2 a ha).1, (f2 a ha).2.1⟩, fun a ha hv hk => ⟨f4 a ha (by omega) hk, f3 a ha (by omega), (f2 a ha).2.2.1, (f2 a ha).2.2.2⟩, fun a ha _ hk hb => f5 a ha hk hb⟩
  have rk := hf.rk g1
  have hst : ∀ s z, v + 2 ≤ s → s + 2 < v + 34 → jSt M s z → jSt M1 s z := fun s z h1 h2 hs => by
    obtain ⟨a1, a2, a3, a4, a5, a6, a7, a8, a9, a10⟩ := hs.1
    exact hs.rk rk ⟨f3 s (by omega) (by omega), by rw [f4 s (by omega) (by omega) (by rw [a2]; decide)]⟩ (f3 _ (by omega) (by omega)) (f4 _ (by omega) (by omega) (by rw [a7]; decide))
  refine ⟨⟨g1.fv hf, f6, g3.same (f2 _ (by omega)).1 (f2 _ (by omega)).2.1 (f3 v (by omega) (by omega)) (f4 v (by omega) (by omega) (by rw [g1.2.1]; decide)) (f4 _ (by omega) (by omega) (by rw [g3.2.2.2.2.2.1]; decide)), g4.fv hf (by rw [f3 v (by omega) (by omega)]), hst _ _ (by omega) (by omega) g5, hst _ _ (by omega) (by omega) g6, ⟨nx, ?_, fun i hi => hst _ _ (by omega) (by omega) (g8 i hi)⟩, ?_⟩, hf⟩
  · obtain ⟨e1, e2, e3, e4, e5, e6, e7, e8, e9, e10, e11⟩ := id g7
    refine g7.fv hf.1 hf.2.1 ⟨f3 _ (by omega) (by omega), f4 _ (by omega) (by omega) (by rw [e2]; decide)⟩ (f3 _ (by omega) (by omega)) (fun j hj => ?_)
    obtain ⟨d, hd⟩ := e7 j hj
    exact ⟨f3 _ (by omega) (by omega), f4 _ (by omega) (by omega) (by rw [hd.2.1]; decide)⟩
  · obtain ⟨h1, h2, h3, h4, h5, h6, h7, h8, h9, h10, h11, h12, h13, h14⟩ := hT
    exact ⟨b, tx.length, h1, h2, h3, h4, h5, h7, h8, by rw [h6]; exact h9, by rw [h6]; exact h16, by rw [h6]; exact h10, h14, h13⟩
/-- pieces ps have been written since M0, behind the text tx0 -/
def wSt (M0 M : jM) (v : Nat) (A : cA) (m0 : Nat) (tx0 : List Nat) (ps : List (List Nat)) : Prop := (∃ b, sbT M (v + 34) b (sbK m0 tx0.length ps) (tx0 ++ ps.flatten)) ∧ sbF (v + 34) M0 M ∧ jAb M v A ∧ 16 ≤ m0
theorem wSt.app {M0 M M1 : jM} {v m0 : Nat} {A : cA} {tx0 : List Nat} {ps qs : List (List Nat)} (h : wSt M0 M v A m0 tx0 ps) (hp : ∃ b1, sbT M1 (v + 34) b1 (sbK (sbK m0 tx0.length ps) (tx0 ++ ps.flatten).length qs) ((tx0 ++ ps.flatten) ++ qs.flatten) ∧ sbF (v + 34) M M1) : wSt M0 M1 v A m0 tx0 (ps ++ qs) := by
  obtain ⟨b1, hB, hF⟩ := hp
  have e := (sbK_app ps qs m0 tx0.length).1
  rw [List.length_append, ← e, List.append_assoc, ← List.flatten_append] at hB
  exact ⟨⟨b1, hB⟩, h.2.1.tr hF, (h.2.2.1.sb hB (Nat.le_trans h.2.2.2 (sbK_ge _ _ _)) hF).1, h.2.2.2⟩
theorem wSt.one {M0 M M1 : jM} {v m0 : Nat} {A : cA} {tx0 ys : List Nat} {ps : List (List Nat)} {o o2 : jO} (h : wSt M0 M v A m0 tx0 ps) (hp : sbP M (v + 34) (sbK m0 tx0.length ps) (tx0 ++ ps.flatten) ys o o2 M1) : wSt M0 M1 v A m0 tx0 (ps ++ [ys]) := by
  obtain ⟨-, b1, hB, hF⟩ := hp
  exact h.app (qs := [ys]) ⟨b1, by rw [show ([ys] : List (List Nat)).flatten = ys from by simp]; exact hB, hF⟩
theorem wSt.pre {M0 M : jM} {v m0 : Nat} {A : cA} {tx0 : List Nat} {ps : List (List Nat)} (h : wSt M0 M v A m0 tx0 ps) (ys : List Nat) (T : List (List Nat)) (hT : ∃ r, T = (ps ++ [ys]) ++ r) {B : Nat} (hl : tx0.length + T.flatten.length ≤ B) :
    ∃ (b mm : Nat) (tt : List Nat) (c s : Nat), sbT M (v + 34) b mm tt ∧ tt.length + ys.length ≤ B ∧ c = sbC (tt.length + ys.length) mm ∧ s = sbS (tt.length + ys.length) mm ∧ sbKc m0 tx0.length (ps ++ [ys]) = sbKc m0 tx0.length ps + c ∧ sbKs m0 tx0.length (ps ++ [ys]) = sbKs m0 tx0.length ps + s ∧ sbKc m0 tx0.length (ps ++ [ys]) ≤ sbKc m0 tx0.length T ∧ sbKs m0 tx0.length (ps ++ [ys]) ≤ sbKs m0 tx0.length T ∧ ∀ o o2 M1, sbP M (v + 34) mm tt ys o o2 M1 → wSt M0 M1 v A m0 tx0 (ps ++ [ys]) := by
  obtain ⟨⟨b, hB⟩, hF, hA, h16⟩ := id h
  have hk := (sbK_app ps [ys] m0 tx0.length).2
  have ht := sbK_le (m := m0) (l := tx0.length) hT
  have e : (tx0 ++ ps.flatten).length = tx0.length + ps.flatten.length := List.length_append
  have e2 : (ps ++ [ys]).flatten.length = ps.flatten.length + ys.length := by rw [List.flatten_append, List.length_append]; simp
  refine ⟨b, _, _, _, _, hB, by omega, rfl, rfl, ?_, ?_, ht.1, ht.2.1, fun o o2 M1 hp => h.one hp⟩
  · rw [e]; exact hk.1
  · rw [e]; exact hk.2
theorem wSt.preL {M0 M : jM} {v m0 : Nat} {A : cA} {tx0 : List Nat} {ps : List (List Nat)} (h : wSt M0 M v A m0 tx0 ps) (qs T : List (List Nat)) (hT : ∃ r, T = (ps ++ qs) ++ r) {B : Nat} (hl : tx0.length + T.flatten.length ≤ B) :
    ∃ (b mm : Nat) (tt : List Nat) (c s : Nat), sbT M (v + 34) b mm tt ∧ 16 ≤ mm ∧ tt.length + qs.flatten.length ≤ B ∧ c = sbKc mm tt.length qs ∧ s = sbKs mm tt.length qs ∧ sbKc m0 tx0.length (ps ++ qs) = sbKc m0 tx0.length ps + c ∧ sbKs m0 tx0.length (ps ++ qs) = sbKs m0 tx0.length ps + s ∧ sbKc m0 tx0.length (ps ++ qs) ≤ sbKc m0 tx0.length T ∧ sbKs m0 tx0.length (ps ++ qs) ≤ sbKs m0 tx0.length T ∧ ∀ M1, (∃ b1, sbT M1 (v + 34) b1 (sbK mm tt.length qs) (tt ++ qs.flatten) ∧ sbF (v + 34) M M1) → wSt M0 M1 v A m0 tx0 (ps ++ qs) := by
  obtain ⟨⟨b, hB⟩, hF, hA, h16⟩ := id h
  have hk := (sbK_app ps qs m0 tx0.length).2
  have ht := sbK_le (m := m0) (l := tx0.length) hT
  have e : (tx0 ++ ps.flatten).length = tx0.length + ps.flatten.length := List.length_append
  have e2 : (ps ++ qs).flatten.length = ps.flatten.length + qs.flatten.length := by rw [List.flatten_append, List.length_append]
  refine ⟨b, _, _, _, _, hB, Nat.le_trans h16 (sbK_ge _ _ _), by omega, rfl, rfl, ?_, ?_, ht.1, ht.2.1, fun M1 hp => h.app hp⟩
  · rw [e]; exact hk.1
  · rw [e]; exact hk.2
/-- the pieces of a version -/
def vTl (q : Nat) : List (List Nat) := if q % 100 = 99 then [] else [[45], sbD (q % 100)]
def vPs (q : Nat) : List (List Nat) := [sbD (q / 1000000), [46], sbD (q / 10000 % 100), [46], sbD (q / 100 % 100)] ++ vTl q
theorem vPs_len (q : Nat) : (vPs q).flatten.length ≤ 11 := by
  have d := fun k => (sbD_pos k).2
  have d1 := d (q / 1000000)
  have d2 := d (q / 10000 % 100)
  have d3 := d (q / 100 % 100)
  have d4 := d (q % 100)
  unfold vPs vTl
  split <;> simp <;> omega
theorem vPre_n {q : Nat} (hq : q < 100000000) : vPre (nI q) = decide (¬ q % 100 = 99) := by
  have e1 : nI q / 100 = nI (q / 100) := pk_div (a := q) (d := 100) (by omega) (by omega) (by omega)
  have e2 : nI (q / 100) * 100 = nI (q / 100 * 100) := pk_mul (q / 100) 100
  have e3 : nI q - nI (q / 100 * 100) = nI (q - q / 100 * 100) := pk_sub (a := q) (b := q / 100 * 100) (by omega)
  unfold vPre
  rw [e1, e2, e3, show q - q / 100 * 100 = q % 100 from by omega]
  have e4 : (nI (q % 100) = 99) ↔ q % 100 = 99 := nI_eq (a := q % 100) (b := 99) (by omega) (by omega)
  by_cases h : q % 100 = 99
  · rw [decide_eq_true (e4.mpr h), decide_eq_false (fun z => z h)]; rfl
  · rw [decide_eq_false (fun z => h (e4.mp z)), decide_eq_true h]; rfl
/-- the pieces of a span -/
def sPs (a b : Nat) : List (List Nat) := if a = b then [[61]] ++ vPs a else (if 0 < a then [[62, 61]] ++ vPs a else []) ++ ((if 0 < a ∧ b < 99999999 then [[32]] else []) ++ (if b < 99999999 then [[60, 61]] ++ vPs b else []))
theorem sPs_len (a b : Nat) : (sPs a b).flatten.length ≤ 27 := by
  have h1 := vPs_len a
  have h2 := vPs_len b
  unfold sPs
  repeat' split
  all_goals simp only [List.flatten_append, List.length_append, List.flatten_cons, List.flatten_nil, List.length_cons, List.length_nil, List.append_nil, List.nil_append] at *
  all_goals omega
theorem dX7_writeVersion_0 : decode cX7_writeVersion 0 = .ok (.aload_n 0, 1) := by decide +kernel
theorem dX7_writeVersion_1 : decode cX7_writeVersion 1 = .ok (.getfield 51, 3) := by decide +kernel
theorem dX7_writeVersion_4 : decode cX7_writeVersion 4 = .ok (.iload_n 1, 1) := by decide +kernel
theorem dX7_writeVersion_5 : decode cX7_writeVersion 5 = .ok (.ldc_w 306, 3) := by decide +kernel
theorem dX7_writeVersion_8 : decode cX7_writeVersion 8 = .ok (.idiv, 1) := by decide +kernel
theorem dX7_writeVersion_9 : decode cX7_writeVersion 9 = .ok (.invokevirtual 333, 3) := by decide +kernel
set_option maxRecDepth 20000 in
theorem ggX7_writeVersion_J4_append_bf812 : GoodIn wsX7_writeVersion wsJ4_append_bf812 := goodIn_r _ [7, 8, 9, 10, 11, 12, 13, 14, 15, 16, 17, 18, 19, 20, 21, 22, 23, 24, 25, 26, 27, 28, 29, 30, 31, 32, 33, 34, 35, 36, 37, 38, 39, 40, 41, 42, 43, 44, 45, 46, 47, 48, 49, 50, 51, 52, 53, 54, 55, 56, 57, 58, 59, 60, 61, 62, 63, 64, 65, 66, 67, 68, 69, 70, 71, 72, 73, 74, 75, 76, 77, 78, 79, 80, 81, 82, 83, 84, 85, 86, 87, 88, 89, 90, 91, 92, 93, 94, 95, 96, 97, 98, 99, 100, 101, 102, 168, 169, 170, 171] (by decide +kernel) (by decide +kernel)
set_option maxRecDepth 20000 in
theorem gX7_writeVersion_J4_append_bf812 : GoodIn wsX7_writeVersion (wsV RX7 333 RJ4 yJ4_append_bf812 wsJ4_append_bf812) := goodIn_app (goodIn_of _ (by decide +kernel)) ggX7_writeVersion_J4_append_bf812
theorem yY_J4_append_bf812 : jY yJ4_append_bf812 wsJ4_append_bf812 cJ4_append_bf812 2 (some (.object "java/lang/StringBuilder")) 1 := ⟨⟨_, rfl⟩, by decide +kernel, by decide +kernel, by decide +kernel⟩
theorem dX7_writeVersion_12 : decode cX7_writeVersion 12 = .ok (.pop, 1) := by decide +kernel
theorem dX7_writeVersion_13 : decode cX7_writeVersion 13 = .ok (.aload_n 0, 1) := by decide +kernel
theorem dX7_writeVersion_14 : decode cX7_writeVersion 14 = .ok (.getfield 51, 3) := by decide +kernel
theorem dX7_writeVersion_17 : decode cX7_writeVersion 17 = .ok (.bipush 46, 2) := by decide +kernel
theorem dX7_writeVersion_19 : decode cX7_writeVersion 19 = .ok (.invokevirtual 319, 3) := by decide +kernel
set_option maxRecDepth 20000 in
theorem ggX7_writeVersion_J4_append_cf468 : GoodIn wsX7_writeVersion wsJ4_append_cf468 := goodIn_r _ [106, 107, 108, 10, 109, 12, 110, 14, 15, 20, 21, 22, 23, 24, 25, 26, 27, 28, 29, 30, 31, 32, 33, 34, 35, 36, 37, 38, 39, 40, 41, 42, 43, 44, 45, 46, 47, 48, 49, 50, 51, 52, 53, 54, 55, 56, 57, 58, 59, 60, 61, 62, 63, 64, 65, 66, 67, 111, 112, 113, 114, 115, 116, 117, 118, 119, 120, 121, 75, 122, 123, 124, 125, 126, 127, 128, 129, 130, 131, 132, 133, 134, 135, 81, 82, 83, 136, 137, 86, 138, 88, 139, 140, 91, 141, 98, 99, 100, 77, 101, 102, 142, 143, 144, 145, 146, 147, 148, 149, 150, 151, 152, 153, 168, 169, 170, 171] (by decide +kernel) (by decide +kernel)
set_option maxRecDepth 20000 in
theorem gX7_writeVersion_J4_append_cf468 : GoodIn wsX7_writeVersion (wsV RX7 319 RJ4 yJ4_append_cf468 wsJ4_append_cf468) := goodIn_app (goodIn_of _ (by decide +kernel)) ggX7_writeVersion_J4_append_cf468
theorem yY_J4_append_cf468 : jY yJ4_append_cf468 wsJ4_append_cf468 cJ4_append_cf468 2 (some (.object "java/lang/StringBuilder")) 1 := ⟨⟨_, rfl⟩, by decide +kernel, by decide +kernel, by decide +kernel⟩
theorem dX7_writeVersion_22 : decode cX7_writeVersion 22 = .ok (.pop, 1) := by decide +kernel
theorem dX7_writeVersion_23 : decode cX7_writeVersion 23 = .ok (.aload_n 0, 1) := by decide +kernel
theorem dX7_writeVersion_24 : decode cX7_writeVersion 24 = .ok (.getfield 51, 3) := by decide +kernel
theorem dX7_writeVersion_27 : decode cX7_writeVersion 27 = .ok (.iload_n 1, 1) := by decide +kernel
theorem dX7_writeVersion_28 : decode cX7_writeVersion 28 = .ok (.sipush 10000, 3) := by decide +kernel
theorem dX7_writeVersion_31 : decode cX7_writeVersion 31 = .ok (.idiv, 1) := by decide +kernel
theorem dX7_writeVersion_32 : decode cX7_writeVersion 32 = .ok (.bipush 100, 2) := by decide +kernel
theorem dX7_writeVersion_34 : decode cX7_writeVersion 34 = .ok (.irem, 1) := by decide +kernel
theorem dX7_writeVersion_35 : decode cX7_writeVersion 35 = .ok (.invokevirtual 333, 3) := by decide +kernel
theorem dX7_writeVersion_38 : decode cX7_writeVersion 38 = .ok (.pop, 1) := by decide +kernel
theorem dX7_writeVersion_39 : decode cX7_writeVersion 39 = .ok (.aload_n 0, 1) := by decide +kernel
theorem dX7_writeVersion_40 : decode cX7_writeVersion 40 = .ok (.getfield 51, 3) := by decide +kernel
theorem dX7_writeVersion_43 : decode cX7_writeVersion 43 = .ok (.bipush 46, 2) := by decide +kernel
theorem dX7_writeVersion_45 : decode cX7_writeVersion 45 = .ok (.invokevirtual 319, 3) := by decide +kernel
theorem dX7_writeVersion_48 : decode cX7_writeVersion 48 = .ok (.pop, 1) := by decide +kernel
theorem dX7_writeVersion_49 : decode cX7_writeVersion 49 = .ok (.aload_n 0, 1) := by decide +kernel
theorem dX7_writeVersion_50 : decode cX7_writeVersion 50 = .ok (.getfield 51, 3) := by decide +kernel
theorem dX7_writeVersion_53 : decode cX7_writeVersion 53 = .ok (.iload_n 1, 1) := by decide +kernel
theorem dX7_writeVersion_54 : decode cX7_writeVersion 54 = .ok (.bipush 100, 2) := by decide +kernel
theorem dX7_writeVersion_56 : decode cX7_writeVersion 56 = .ok (.idiv, 1) := by decide +kernel
theorem dX7_writeVersion_57 : decode cX7_writeVersion 57 = .ok (.bipush 100, 2) := by decide +kernel
theorem dX7_writeVersion_59 : decode cX7_writeVersion 59 = .ok (.irem, 1) := by decide +kernel
theorem dX7_writeVersion_60 : decode cX7_writeVersion 60 = .ok (.invokevirtual 333, 3) := by decide +kernel
theorem dX7_writeVersion_63 : decode cX7_writeVersion 63 = .ok (.pop, 1) := by decide +kernel
theorem dX7_writeVersion_64 : decode cX7_writeVersion 64 = .ok (.iload_n 1, 1) := by decide +kernel
theorem dX7_writeVersion_65 : decode cX7_writeVersion 65 = .ok (.invokestatic 336, 3) := by decide +kernel
set_option maxRecDepth 20000 in
theorem ggX7_writeVersion_X7_isPrerelease : GoodIn wsX7_writeVersion wsX7_isPrerelease := goodIn_r _ [157] (by decide +kernel) (by decide +kernel)
set_option maxRecDepth 20000 in
theorem gX7_writeVersion_X7_isPrerelease : GoodIn wsX7_writeVersion (va_wsS RX7 336 yX7_isPrerelease wsX7_isPrerelease) := goodIn_app (goodIn_of _ (by decide +kernel)) ggX7_writeVersion_X7_isPrerelease
theorem dX7_writeVersion_68 : decode cX7_writeVersion 68 = .ok (.ifCond .eq 25, 3) := by decide +kernel
theorem dX7_writeVersion_93 : decode cX7_writeVersion 93 = .ok (.return_, 1) := by decide +kernel
theorem dX7_writeVersion_71 : decode cX7_writeVersion 71 = .ok (.aload_n 0, 1) := by decide +kernel
theorem dX7_writeVersion_72 : decode cX7_writeVersion 72 = .ok (.getfield 51, 3) := by decide +kernel
theorem dX7_writeVersion_75 : decode cX7_writeVersion 75 = .ok (.bipush 45, 2) := by decide +kernel
theorem dX7_writeVersion_77 : decode cX7_writeVersion 77 = .ok (.invokevirtual 319, 3) := by decide +kernel
theorem dX7_writeVersion_80 : decode cX7_writeVersion 80 = .ok (.pop, 1) := by decide +kernel
theorem dX7_writeVersion_81 : decode cX7_writeVersion 81 = .ok (.aload_n 0, 1) := by decide +kernel
theorem dX7_writeVersion_82 : decode cX7_writeVersion 82 = .ok (.getfield 51, 3) := by decide +kernel
theorem dX7_writeVersion_85 : decode cX7_writeVersion 85 = .ok (.iload_n 1, 1) := by decide +kernel
theorem dX7_writeVersion_86 : decode cX7_writeVersion 86 = .ok (.bipush 100, 2) := by decide +kernel
theorem dX7_writeVersion_88 : decode cX7_writeVersion 88 = .ok (.irem, 1) := by decide +kernel
theorem dX7_writeVersion_89 : decode cX7_writeVersion 89 = .ok (.invokevirtual 333, 3) := by decide +kernel
theorem dX7_writeVersion_92 : decode cX7_writeVersion 92 = .ok (.pop, 1) := by decide +kernel
set_option maxHeartbeats 400000 in
set_option maxRecDepth 20000 in
theorem ct_X7_writeVersion (l : Launch) (D : va_G) (dA : Nat → ClassId) (hst : l.stackTraces = false) (M : jM) (v : Nat) (A : cA) (hA : jAb M v A) (b m : Nat) (tx : List Nat) (hB : sbT M (v + 34) b m tx) (h16 : 16 ≤ m) (q : Nat) (hq : q < 100000000) (hl : tx.length + 11 ≤ 560) : jCT l D dA yX7_writeVersion wsX7_writeVersion (34) (1140) (sbKc m tx.length (vPs q)) (sbKs m tx.length (vPs q)) 0 [.ref (v), .int (nI (q))] M (fun o M1 => o = oV ∧ ∃ b1, sbT M1 (v + 34) b1 (sbK m tx.length (vPs q)) (tx ++ (vPs q).flatten) ∧ sbF (v + 34) M M1) := by
  refine jBody (cc := cX7_writeVersion) (nL := 2) (rt := none) (ini := false) (by decide) rfl hst (Nat.le_of_ble_eq_true rfl) (by simp [Value.category]) (by intro h9; first | exact absurd h9 (by decide) | rfl) ?_
  show J l D dA RX7 cX7_writeVersion wsX7_writeVersion 2 false none [] (34) (1140) (jF D dA (jn M) (fun o M1 => o = oV ∧ ∃ b1, sbT M1 (v + 34) b1 (sbK m tx.length (vPs q)) (tx ++ (vPs q).flatten) ∧ sbF (v + 34) M M1) 0) (jn M) (sbKc m tx.length (vPs q)) (sbKs m tx.length (vPs q)) (M) 0 [.ref (v), .int (nI (q))] []
  obtain ⟨g1, g2, g3, g4, g5, g6, g7, g9⟩ := id hA
  obtain ⟨gx, gH, g8⟩ := id g7
  obtain ⟨ga1, ga2, ga3, ga4, ga5, ga6, ga7, ga8, ga9, ga10, ga11, ga12, ga13⟩ := id g3
  have gc30 := g5.1.2.2.2.2.2.2.2.2.2
  have hW0 : wSt M M v A m tx [] := ⟨⟨b, by rw [List.flatten_nil, List.append_nil]; exact hB⟩, sbF.rf g2, hA, h16⟩
  obtain ⟨⟨b0, hB0⟩, hF0, hA0, -⟩ := id hW0
  obtain ⟨y01, y02, y03, y04, y05, y06, y07, y09⟩ := id hA0
  obtain ⟨y0x, y0H, y08⟩ := id y07
  obtain ⟨y0a1, y0a2, y0a3, y0a4, y0a5, y0a6, y0a7, y0a8, y0a9, y0a10, y0a11, y0a12, y0a13⟩ := id y03
  have y0c30 := y05.1.2.2.2.2.2.2.2.2.2
  have hvl := vPs_len q
  have hlT : tx.length + (vPs q).flatten.length ≤ 560 := by omega
  refine J_aload_n (v) dX7_writeVersion_0 rfl rfl ?_
  refine J_getrs (q := v + 34) ga5 dX7_writeVersion_1 (fun _ h => List.mem_cons_of_mem _ (List.mem_append_left _ (List.mem_append_right _ (h)))) cs10 (by decide) rfl (List.mem_of_getElem? (i := 1) rfl) rfl (show v < jn M from by have := g1.1; omega) g1.2.1 ?_
  refine J_iload_n dX7_writeVersion_4 rfl rfl ?_
  refine J_ldcw (x := 1000000) dX7_writeVersion_5 (List.mem_of_getElem? (i := 2) rfl) ?_
  refine J_idiv dX7_writeVersion_8 (by decide) ?_
  refine J_topi (y := nI (q / 1000000)) (pk_div (a := q) (d := 1000000) (by omega) (by omega) (by omega)) ?_
  obtain ⟨b9q, mm9, tt9, cc9, ss9, hB9q, hl9, hc9, hs9, e19, e29, e39, e49, hst9⟩ := hW0.pre (sbD (q / 1000000)) (vPs q) ⟨_, rfl⟩ hlT
  replace hc9 : cc9 = sbC (tt9.length + (sbD (q / 1000000)).length) mm9 := hc9
  replace hs9 : ss9 = sbS (tt9.length + (sbD (q / 1000000)).length) mm9 := hs9
  replace hl9 : tt9.length + (sbD (q / 1000000)).length ≤ 560 := hl9
  refine J_callq (jrunV (As := [.int (nI (q / 1000000))]) (ct_J4_append_bf812 l D dA hst M (v + 34) b9q mm9 tt9 hB9q y02 (q / 1000000) (by omega) (by omega)) dX7_writeVersion_9 yY_J4_append_bf812 gX7_writeVersion_J4_append_bf812 rfl cs1 hB.1 hB.2.1 rfl ⟨by omega, by omega⟩ ⟨by omega, by omega⟩ rfl (Nat.le_of_ble_eq_true rfl)) ⟨by omega, by omega⟩ (Or.inr ⟨(jOk.ref (show v < jn M from by have := g1.1; omega) (jOk.int jOk.nil)), jOk.nil⟩) (fun E M9 hp _ => by cases hp.1) (fun x9 M9_ hp9 hle9 => ?_)
  have hW9_ := hst9 _ _ _ hp9
  obtain ⟨⟨b9_, hB9_⟩, hF9_, hA9_, -⟩ := id hW9_
  obtain ⟨y9_1, y9_2, y9_3, y9_4, y9_5, y9_6, y9_7, y9_9⟩ := id hA9_
  obtain ⟨y9_x, y9_H, y9_8⟩ := id y9_7
  obtain ⟨y9_a1, y9_a2, y9_a3, y9_a4, y9_a5, y9_a6, y9_a7, y9_a8, y9_a9, y9_a10, y9_a11, y9_a12, y9_a13⟩ := id y9_3
  have y9_c30 := y9_5.1.2.2.2.2.2.2.2.2.2
  refine J_less (bc' := sbKc m tx.length (vPs q) - sbKc m tx.length (([] : List (List Nat)) ++ [(sbD (q / 1000000))])) (bs' := sbKs m tx.length (vPs q) - sbKs m tx.length (([] : List (List Nat)) ++ [(sbD (q / 1000000))])) (by omega) (by omega) ?_
  refine J_pop dX7_writeVersion_12 (jcat_rf _) ?_
  refine J_aload_n (v) dX7_writeVersion_13 rfl rfl ?_
  refine J_getrs (q := v + 34) y9_a5 dX7_writeVersion_14 (fun _ h => List.mem_cons_of_mem _ (List.mem_append_left _ (List.mem_append_right _ (h)))) cs10 (by decide) rfl (List.mem_of_getElem? (i := 1) rfl) rfl (show v < jn M9_ from by have := y9_1.1; omega) y9_1.2.1 ?_
  refine J_bipush (x := 46) dX7_writeVersion_17 (by decide) ?_
  obtain ⟨b19q, mm19, tt19, cc19, ss19, hB19q, hl19, hc19, hs19, e119, e219, e319, e419, hst19⟩ := hW9_.pre [46] (vPs q) ⟨_, rfl⟩ hlT
  replace hc19 : cc19 = sbC (tt19.length + 1) mm19 := hc19
  replace hs19 : ss19 = sbS (tt19.length + 1) mm19 := hs19
  replace hl19 : tt19.length + 1 ≤ 560 := hl19
  refine J_callq (jrunV (As := [.int (46)]) (ct_J4_append_cf468 l D dA hst M9_ (v + 34) b19q mm19 tt19 hB19q y9_2 46 (by decide) (by omega)) dX7_writeVersion_19 yY_J4_append_cf468 gX7_writeVersion_J4_append_cf468 rfl cs1 hB9_.1 hB9_.2.1 rfl ⟨by omega, by omega⟩ ⟨by omega, by omega⟩ rfl (Nat.le_of_ble_eq_true rfl)) ⟨by omega, by omega⟩ (Or.inr ⟨(jOk.ref (show v < jn M9_ from by have := y9_1.1; omega) (jOk.int jOk.nil)), jOk.nil⟩) (fun E M9 hp _ => by cases hp.1) (fun x9 M19_ hp19 hle19 => ?_)
  have hW19_ := hst19 _ _ _ hp19
  obtain ⟨⟨b19_, hB19_⟩, hF19_, hA19_, -⟩ := id hW19_
  obtain ⟨y19_1, y19_2, y19_3, y19_4, y19_5, y19_6, y19_7, y19_9⟩ := id hA19_
  obtain ⟨y19_x, y19_H, y19_8⟩ := id y19_7
  obtain ⟨y19_a1, y19_a2, y19_a3, y19_a4, y19_a5, y19_a6, y19_a7, y19_a8, y19_a9, y19_a10, y19_a11, y19_a12, y19_a13⟩ := id y19_3
  have y19_c30 := y19_5.1.2.2.2.2.2.2.2.2.2
  refine J_less (bc' := sbKc m tx.length (vPs q) - sbKc m tx.length ((([] : List (List Nat)) ++ [(sbD (q / 1000000))]) ++ [[46]])) (bs' := sbKs m tx.length (vPs q) - sbKs m tx.length ((([] : List (List Nat)) ++ [(sbD (q / 1000000))]) ++ [[46]])) (by omega) (by omega) ?_
  refine J_pop dX7_writeVersion_22 (jcat_rf _) ?_
  refine J_aload_n (v) dX7_writeVersion_23 rfl rfl ?_
  refine J_getrs (q := v + 34) y19_a5 dX7_writeVersion_24 (fun _ h => List.mem_cons_of_mem _ (List.mem_append_left _ (List.mem_append_right _ (h)))) cs10 (by decide) rfl (List.mem_of_getElem? (i := 1) rfl) rfl (show v < jn M19_ from by have := y19_1.1; omega) y19_1.2.1 ?_
  refine J_iload_n dX7_writeVersion_27 rfl rfl ?_
  refine J_sipush (x := 10000) dX7_writeVersion_28 (by decide) ?_
  refine J_idiv dX7_writeVersion_31 (by decide) ?_
  refine J_topi (y := nI (q / 10000)) (pk_div (a := q) (d := 10000) (by omega) (by omega) (by omega)) ?_
  refine J_bipush (x := 100) dX7_writeVersion_32 (by decide) ?_
  refine J_irem dX7_writeVersion_34 (by decide) ?_
  refine J_topi (y := nI ((q / 10000) % 100)) (pk_rem (a := q / 10000) (d := 100) (by omega) (by omega) (by omega)) ?_
  obtain ⟨b35q, mm35, tt35, cc35, ss35, hB35q, hl35, hc35, hs35, e135, e235, e335, e435, hst35⟩ := hW19_.pre (sbD ((q / 10000) % 100)) (vPs q) ⟨_, rfl⟩ hlT
  replace hc35 : cc35 = sbC (tt35.length + (sbD ((q / 10000) % 100)).length) mm35 := hc35
  replace hs35 : ss35 = sbS (tt35.length + (sbD ((q / 10000) % 100)).length) mm35 := hs35
  replace hl35 : tt35.length + (sbD ((q / 10000) % 100)).length ≤ 560 := hl35
  refine J_callq (jrunV (As := [.int (nI ((q / 10000) % 100))]) (ct_J4_append_bf812 l D dA hst M19_ (v + 34) b35q mm35 tt35 hB35q y19_2 ((q / 10000) % 100) (by omega) (by omega)) dX7_writeVersion_35 yY_J4_append_bf812 gX7_writeVersion_J4_append_bf812 rfl cs1 hB19_.1 hB19_.2.1 rfl ⟨by omega, by omega⟩ ⟨by omega, by omega⟩ rfl (Nat.le_of_ble_eq_true rfl)) ⟨by omega, by omega⟩ (Or.inr ⟨(jOk.ref (show v < jn M19_ from by have := y19_1.1; omega) (jOk.int jOk.nil)), jOk.nil⟩) (fun E M9 hp _ => by cases hp.1) (fun x9 M35_ hp35 hle35 => ?_)
  have hW35_ := hst35 _ _ _ hp35
  obtain ⟨⟨b35_, hB35_⟩, hF35_, hA35_, -⟩ := id hW35_
  obtain ⟨y35_1, y35_2, y35_3, y35_4, y35_5, y35_6, y35_7, y35_9⟩ := id hA35_
  obtain ⟨y35_x, y35_H, y35_8⟩ := id y35_7
  obtain ⟨y35_a1, y35_a2, y35_a3, y35_a4, y35_a5, y35_a6, y35_a7, y35_a8, y35_a9, y35_a10, y35_a11, y35_a12, y35_a13⟩ := id y35_3
  have y35_c30 := y35_5.1.2.2.2.2.2.2.2.2.2
  refine J_less (bc' := sbKc m tx.length (vPs q) - sbKc m tx.length (((([] : List (List Nat)) ++ [(sbD (q / 1000000))]) ++ [[46]]) ++ [(sbD ((q / 10000) % 100))])) (bs' := sbKs m tx.length (vPs q) - sbKs m tx.length (((([] : List (List Nat)) ++ [(sbD (q / 1000000))]) ++ [[46]]) ++ [(sbD ((q / 10000) % 100))])) (by omega) (by omega) ?_
  refine J_pop dX7_writeVersion_38 (jcat_rf _) ?_
  refine J_aload_n (v) dX7_writeVersion_39 rfl rfl ?_
  refine J_getrs (q := v + 34) y35_a5 dX7_writeVersion_40 (fun _ h => List.mem_cons_of_mem _ (List.mem_append_left _ (List.mem_append_right _ (h)))) cs10 (by decide) rfl (List.mem_of_getElem? (i := 1) rfl) rfl (show v < jn M35_ from by have := y35_1.1; omega) y35_1.2.1 ?_
  refine J_bipush (x := 46) dX7_writeVersion_43 (by decide) ?_
  obtain ⟨b45q, mm45, tt45, cc45, ss45, hB45q, hl45, hc45, hs45, e145, e245, e345, e445, hst45⟩ := hW35_.pre [46] (vPs q) ⟨_, rfl⟩ hlT
  replace hc45 : cc45 = sbC (tt45.length + 1) mm45 := hc45
  replace hs45 : ss45 = sbS (tt45.length + 1) mm45 := hs45
  replace hl45 : tt45.length + 1 ≤ 560 := hl45
  refine J_callq (jrunV (As := [.int (46)]) (ct_J4_append_cf468 l D dA hst M35_ (v + 34) b45q mm45 tt45 hB45q y35_2 46 (by decide) (by omega)) dX7_writeVersion_45 yY_J4_append_cf468 gX7_writeVersion_J4_append_cf468 rfl cs1 hB35_.1 hB35_.2.1 rfl ⟨by omega, by omega⟩ ⟨by omega, by omega⟩ rfl (Nat.le_of_ble_eq_true rfl)) ⟨by omega, by omega⟩ (Or.inr ⟨(jOk.ref (show v < jn M35_ from by have := y35_1.1; omega) (jOk.int jOk.nil)), jOk.nil⟩) (fun E M9 hp _ => by cases hp.1) (fun x9 M45_ hp45 hle45 => ?_)
  have hW45_ := hst45 _ _ _ hp45
  obtain ⟨⟨b45_, hB45_⟩, hF45_, hA45_, -⟩ := id hW45_
  obtain ⟨y45_1, y45_2, y45_3, y45_4, y45_5, y45_6, y45_7, y45_9⟩ := id hA45_
  obtain ⟨y45_x, y45_H, y45_8⟩ := id y45_7
  obtain ⟨y45_a1, y45_a2, y45_a3, y45_a4, y45_a5, y45_a6, y45_a7, y45_a8, y45_a9, y45_a10, y45_a11, y45_a12, y45_a13⟩ := id y45_3
  have y45_c30 := y45_5.1.2.2.2.2.2.2.2.2.2
  refine J_less (bc' := sbKc m tx.length (vPs q) - sbKc m tx.length ((((([] : List (List Nat)) ++ [(sbD (q / 1000000))]) ++ [[46]]) ++ [(sbD ((q / 10000) % 100))]) ++ [[46]])) (bs' := sbKs m tx.length (vPs q) - sbKs m tx.length ((((([] : List (List Nat)) ++ [(sbD (q / 1000000))]) ++ [[46]]) ++ [(sbD ((q / 10000) % 100))]) ++ [[46]])) (by omega) (by omega) ?_
  refine J_pop dX7_writeVersion_48 (jcat_rf _) ?_
  refine J_aload_n (v) dX7_writeVersion_49 rfl rfl ?_
  refine J_getrs (q := v + 34) y45_a5 dX7_writeVersion_50 (fun _ h => List.mem_cons_of_mem _ (List.mem_append_left _ (List.mem_append_right _ (h)))) cs10 (by decide) rfl (List.mem_of_getElem? (i := 1) rfl) rfl (show v < jn M45_ from by have := y45_1.1; omega) y45_1.2.1 ?_
  refine J_iload_n dX7_writeVersion_53 rfl rfl ?_
  refine J_bipush (x := 100) dX7_writeVersion_54 (by decide) ?_
  refine J_idiv dX7_writeVersion_56 (by decide) ?_
  refine J_topi (y := nI (q / 100)) (pk_div (a := q) (d := 100) (by omega) (by omega) (by omega)) ?_
  refine J_bipush (x := 100) dX7_writeVersion_57 (by decide) ?_
  refine J_irem dX7_writeVersion_59 (by decide) ?_
  refine J_topi (y := nI ((q / 100) % 100)) (pk_rem (a := q / 100) (d := 100) (by omega) (by omega) (by omega)) ?_
  obtain ⟨b60q, mm60, tt60, cc60, ss60, hB60q, hl60, hc60, hs60, e160, e260, e360, e460, hst60⟩ := hW45_.pre (sbD ((q / 100) % 100)) (vPs q) ⟨_, rfl⟩ hlT
  replace hc60 : cc60 = sbC (tt60.length + (sbD ((q / 100) % 100)).length) mm60 := hc60
  replace hs60 : ss60 = sbS (tt60.length + (sbD ((q / 100) % 100)).length) mm60 := hs60
  replace hl60 : tt60.length + (sbD ((q / 100) % 100)).length ≤ 560 := hl60
  refine J_callq (jrunV (As := [.int (nI ((q / 100) % 100))]) (ct_J4_append_bf812 l D dA hst M45_ (v + 34) b60q mm60 tt60 hB60q y45_2 ((q / 100) % 100) (by omega) (by omega)) dX7_writeVersion_60 yY_J4_append_bf812 gX7_writeVersion_J4_append_bf812 rfl cs1 hB45_.1 hB45_.2.1 rfl ⟨by omega, by omega⟩ ⟨by omega, by omega⟩ rfl (Nat.le_of_ble_eq_true rfl)) ⟨by omega, by omega⟩ (Or.inr ⟨(jOk.ref (show v < jn M45_ from by have := y45_1.1; omega) (jOk.int jOk.nil)), jOk.nil⟩) (fun E M9 hp _ => by cases hp.1) (fun x9 M60_ hp60 hle60 => ?_)
  have hW60_ := hst60 _ _ _ hp60
  obtain ⟨⟨b60_, hB60_⟩, hF60_, hA60_, -⟩ := id hW60_
  obtain ⟨y60_1, y60_2, y60_3, y60_4, y60_5, y60_6, y60_7, y60_9⟩ := id hA60_
  obtain ⟨y60_x, y60_H, y60_8⟩ := id y60_7
  obtain ⟨y60_a1, y60_a2, y60_a3, y60_a4, y60_a5, y60_a6, y60_a7, y60_a8, y60_a9, y60_a10, y60_a11, y60_a12, y60_a13⟩ := id y60_3
  have y60_c30 := y60_5.1.2.2.2.2.2.2.2.2.2
  refine J_less (bc' := sbKc m tx.length (vPs q) - sbKc m tx.length (((((([] : List (List Nat)) ++ [(sbD (q / 1000000))]) ++ [[46]]) ++ [(sbD ((q / 10000) % 100))]) ++ [[46]]) ++ [(sbD ((q / 100) % 100))])) (bs' := sbKs m tx.length (vPs q) - sbKs m tx.length (((((([] : List (List Nat)) ++ [(sbD (q / 1000000))]) ++ [[46]]) ++ [(sbD ((q / 10000) % 100))]) ++ [[46]]) ++ [(sbD ((q / 100) % 100))])) (by omega) (by omega) ?_
  refine J_pop dX7_writeVersion_63 (jcat_rf _) ?_
  refine J_iload_n dX7_writeVersion_64 rfl rfl ?_
  refine J_calli0 (jrunS (As := [.int (nI (q))]) (ct_X7_isPrerelease l D dA hst M60_ (nI (q))) dX7_writeVersion_65 yY_X7_isPrerelease gX7_writeVersion_X7_isPrerelease rfl ⟨by omega, by omega⟩ ⟨Nat.zero_le _, Nat.zero_le _⟩ rfl (Nat.le_of_ble_eq_true rfl)) (rfl) (rfl) ?_
  refine J_topi (y := jb (decide (¬ q % 100 = 99))) (by rw [vPre_n hq]) ?_
  refine J_if_eq dX7_writeVersion_68 (tgt := 93) (by decide) (fun c68 => ?_) (fun c68 => ?_)
  · have c68 := jb0T c68
    have hvt : vTl q = [] := by unfold vTl; rw [if_pos (Decidable.not_not.mp (of_decide_eq_false c68))]
    exact J_vret dX7_writeVersion_93 rfl (by rw [show vPs q = (((((([] : List (List Nat)) ++ [(sbD (q / 1000000))]) ++ [[46]]) ++ [(sbD ((q / 10000) % 100))]) ++ [[46]]) ++ [(sbD ((q / 100) % 100))]) from by unfold vPs; rw [hvt]; rfl]; exact ⟨rfl, b60_, hB60_, hF60_⟩)
  · have c68 := jb0F c68
    have hvt : vTl q = [[45], sbD (q % 100)] := by unfold vTl; rw [if_neg (of_decide_eq_true c68)]
    refine J_aload_n (v) dX7_writeVersion_71 rfl rfl ?_
    refine J_getrs (q := v + 34) y60_a5 dX7_writeVersion_72 (fun _ h => List.mem_cons_of_mem _ (List.mem_append_left _ (List.mem_append_right _ (h)))) cs10 (by decide) rfl (List.mem_of_getElem? (i := 1) rfl) rfl (show v < jn M60_ from by have := y60_1.1; omega) y60_1.2.1 ?_
    refine J_bipush (x := 45) dX7_writeVersion_75 (by decide) ?_
    obtain ⟨b77q, mm77, tt77, cc77, ss77, hB77q, hl77, hc77, hs77, e177, e277, e377, e477, hst77⟩ := hW60_.pre [45] (vPs q) ⟨_, (by unfold vPs; rw [hvt]; rfl)⟩ hlT
    replace hc77 : cc77 = sbC (tt77.length + 1) mm77 := hc77
    replace hs77 : ss77 = sbS (tt77.length + 1) mm77 := hs77
    replace hl77 : tt77.length + 1 ≤ 560 := hl77
    refine J_callq (jrunV (As := [.int (45)]) (ct_J4_append_cf468 l D dA hst M60_ (v + 34) b77q mm77 tt77 hB77q y60_2 45 (by decide) (by omega)) dX7_writeVersion_77 yY_J4_append_cf468 gX7_writeVersion_J4_append_cf468 rfl cs1 hB60_.1 hB60_.2.1 rfl ⟨by omega, by omega⟩ ⟨by omega, by omega⟩ rfl (Nat.le_of_ble_eq_true rfl)) ⟨by omega, by omega⟩ (Or.inr ⟨(jOk.ref (show v < jn M60_ from by have := y60_1.1; omega) (jOk.int jOk.nil)), jOk.nil⟩) (fun E M9 hp _ => by cases hp.1) (fun x9 M77_ hp77 hle77 => ?_)
    have hW77_ := hst77 _ _ _ hp77
    obtain ⟨⟨b77_, hB77_⟩, hF77_, hA77_, -⟩ := id hW77_
    obtain ⟨y77_1, y77_2, y77_3, y77_4, y77_5, y77_6, y77_7, y77_9⟩ := id hA77_
    obtain ⟨y77_x, y77_H, y77_8⟩ := id y77_7
    obtain ⟨y77_a1, y77_a2, y77_a3, y77_a4, y77_a5, y77_a6, y77_a7, y77_a8, y77_a9, y77_a10, y77_a11, y77_a12, y77_a13⟩ := id y77_3
    have y77_c30 := y77_5.1.2.2.2.2.2.2.2.2.2
    refine J_less (bc' := sbKc m tx.length (vPs q) - sbKc m tx.length ((((((([] : List (List Nat)) ++ [(sbD (q / 1000000))]) ++ [[46]]) ++ [(sbD ((q / 10000) % 100))]) ++ [[46]]) ++ [(sbD ((q / 100) % 100))]) ++ [[45]])) (bs' := sbKs m tx.length (vPs q) - sbKs m tx.length ((((((([] : List (List Nat)) ++ [(sbD (q / 1000000))]) ++ [[46]]) ++ [(sbD ((q / 10000) % 100))]) ++ [[46]]) ++ [(sbD ((q / 100) % 100))]) ++ [[45]])) (by omega) (by omega) ?_
    refine J_pop dX7_writeVersion_80 (jcat_rf _) ?_
    refine J_aload_n (v) dX7_writeVersion_81 rfl rfl ?_
    refine J_getrs (q := v + 34) y77_a5 dX7_writeVersion_82 (fun _ h => List.mem_cons_of_mem _ (List.mem_append_left _ (List.mem_append_right _ (h)))) cs10 (by decide) rfl (List.mem_of_getElem? (i := 1) rfl) rfl (show v < jn M77_ from by have := y77_1.1; omega) y77_1.2.1 ?_
    refine J_iload_n dX7_writeVersion_85 rfl rfl ?_
    refine J_bipush (x := 100) dX7_writeVersion_86 (by decide) ?_
    refine J_irem dX7_writeVersion_88 (by decide) ?_
    refine J_topi (y := nI (q % 100)) (pk_rem (a := q) (d := 100) (by omega) (by omega) (by omega)) ?_
    obtain ⟨b89q, mm89, tt89, cc89, ss89, hB89q, hl89, hc89, hs89, e189, e289, e389, e489, hst89⟩ := hW77_.pre (sbD (q % 100)) (vPs q) ⟨_, (by unfold vPs; rw [hvt]; rfl)⟩ hlT
    replace hc89 : cc89 = sbC (tt89.length + (sbD (q % 100)).length) mm89 := hc89
    replace hs89 : ss89 = sbS (tt89.length + (sbD (q % 100)).length) mm89 := hs89
    replace hl89 : tt89.length + (sbD (q % 100)).length ≤ 560 := hl89
    refine J_callq (jrunV (As := [.int (nI (q % 100))]) (ct_J4_append_bf812 l D dA hst M77_ (v + 34) b89q mm89 tt89 hB89q y77_2 (q % 100) (by omega) (by omega)) dX7_writeVersion_89 yY_J4_append_bf812 gX7_writeVersion_J4_append_bf812 rfl cs1 hB77_.1 hB77_.2.1 rfl ⟨by omega, by omega⟩ ⟨by omega, by omega⟩ rfl (Nat.le_of_ble_eq_true rfl)) ⟨by omega, by omega⟩ (Or.inr ⟨(jOk.ref (show v < jn M77_ from by have := y77_1.1; omega) (jOk.int jOk.nil)), jOk.nil⟩) (fun E M9 hp _ => by cases hp.1) (fun x9 M89_ hp89 hle89 => ?_)
    have hW89_ := hst89 _ _ _ hp89
    obtain ⟨⟨b89_, hB89_⟩, hF89_, hA89_, -⟩ := id hW89_
    obtain ⟨y89_1, y89_2, y89_3, y89_4, y89_5, y89_6, y89_7, y89_9⟩ := id hA89_
    obtain ⟨y89_x, y89_H, y89_8⟩ := id y89_7
    obtain ⟨y89_a1, y89_a2, y89_a3, y89_a4, y89_a5, y89_a6, y89_a7, y89_a8, y89_a9, y89_a10, y89_a11, y89_a12, y89_a13⟩ := id y89_3
    have y89_c30 := y89_5.1.2.2.2.2.2.2.2.2.2
    refine J_less (bc' := sbKc m tx.length (vPs q) - sbKc m tx.length (((((((([] : List (List Nat)) ++ [(sbD (q / 1000000))]) ++ [[46]]) ++ [(sbD ((q / 10000) % 100))]) ++ [[46]]) ++ [(sbD ((q / 100) % 100))]) ++ [[45]]) ++ [(sbD (q % 100))])) (bs' := sbKs m tx.length (vPs q) - sbKs m tx.length (((((((([] : List (List Nat)) ++ [(sbD (q / 1000000))]) ++ [[46]]) ++ [(sbD ((q / 10000) % 100))]) ++ [[46]]) ++ [(sbD ((q / 100) % 100))]) ++ [[45]]) ++ [(sbD (q % 100))])) (by omega) (by omega) ?_
    refine J_pop dX7_writeVersion_92 (jcat_rf _) ?_
    exact J_vret dX7_writeVersion_93 rfl (by rw [show vPs q = (((((((([] : List (List Nat)) ++ [(sbD (q / 1000000))]) ++ [[46]]) ++ [(sbD ((q / 10000) % 100))]) ++ [[46]]) ++ [(sbD ((q / 100) % 100))]) ++ [[45]]) ++ [(sbD (q % 100))]) from by unfold vPs; rw [hvt]; rfl]; exact ⟨rfl, b89_, hB89_, hF89_⟩)

