/-- whether a change at which something holds is met -/
def uA (mt : Int32 → Bool) (nx : Int32 → Int32) : Nat → Int32 → Bool
  | 0, _ => false
  | fu + 1, x => if 99999999 < x then false else mt x || uA mt nx fu (nx x)
theorem uA_e {mt : Int32 → Bool} {nx : Int32 → Int32} {x : Int32} (fu : Nat) (h : 99999999 < x) : uA mt nx fu x = false := by
  cases fu with
  | zero => rfl
  | succ fu => unfold uA; rw [if_pos h]
theorem uA_s {mt : Int32 → Bool} {nx : Int32 → Int32} {x : Int32} {fu : Nat} (h : ¬ 99999999 < x) : uA mt nx (fu + 1) x = (mt x || uA mt nx fu (nx x)) := by
  conv => lhs; unfold uA
  rw [if_neg h]
theorem uA_uS {mt : Int32 → Bool} {nx : Int32 → Int32} : ∀ fu x len f, (uS mt nx fu x len f).1 = 0 ↔ len = 0 ∧ uA mt nx fu x = false := by
  intro fu
  induction fu with
  | zero => intro x len f; exact ⟨fun h => ⟨h, rfl⟩, fun h => h.1⟩
  | succ fu ih =>
    intro x len f
    by_cases hx : 99999999 < x
    · rw [uS_e _ hx, uA_e _ hx]; exact ⟨fun h => ⟨h, rfl⟩, fun h => h.1⟩
    · rw [uA_s hx]
      by_cases hm : mt x = true
      · rw [hm]
        by_cases hj : 0 < len ∧ f (len - 1) = x - 1
        · rw [uS_m hx hm hj, ih]
          exact ⟨fun h => by omega, fun h => by omega⟩
        · rw [uS_a hx hm hj, ih]
          exact ⟨fun h => by omega, fun h => by have := h.2; simp at this⟩
      · rw [uS_n hx hm, ih, (Bool.not_eq_true _).mp hm, Bool.false_or]
theorem rMin_comm (a b : Int32) : rMin a b = rMin b a := by
  unfold rMin
  by_cases h1 : b < a
  · rw [if_pos h1, if_neg (fun h2 => absurd (Int32.lt_of_lt_of_le h1 (Int32.le_of_lt h2)) Int32.lt_irrefl)]
  · rw [if_neg h1]
    by_cases h2 : a < b
    · rw [if_pos h2]
    · rw [if_neg h2]; exact Int32.le_antisymm (Int32.not_lt.mp h1) (Int32.not_lt.mp h2)
theorem comb_uS (op : Int32) (a b : rVl) : rComb op a.2 a.1 b.2 b.1 = uS (fun y => vMeets op (rHolds a.2 a.1 y) (rHolds b.2 b.1 y)) (jNx a b) (2 * (a.1 + b.1 + 1)) 0 0 (fun _ => 0) :=
  rcS_uS (by omega) _ _ _ _ rfl (by omega) (fun _ => by omega)
theorem comb_ev (op : Int32) (a b : rVl) : (rComb op a.2 a.1 b.2 b.1).1 % 2 = 0 := (rcS_len op a.2 a.1 b.2 b.1 (2 * (a.1 + b.1 + 1)) (2 * (a.1 + b.1 + 1)) 0 0 (fun _ => 0) (Nat.zero_le _) rfl).2
theorem comb_0 (op : Int32) (a b : rVl) : decide ((vComb op a b).1 = 0) = !uA (fun y => vMeets op (rHolds a.2 a.1 y) (rHolds b.2 b.1 y)) (jNx a b) (2 * (a.1 + b.1 + 1)) 0 := by
  have h1 := comb_ev op a b
  have h2 := uA_uS (mt := fun y => vMeets op (rHolds a.2 a.1 y) (rHolds b.2 b.1 y)) (nx := jNx a b) (2 * (a.1 + b.1 + 1)) 0 0 (fun _ => 0)
  rw [← comb_uS] at h2
  cases h3 : uA (fun y => vMeets op (rHolds a.2 a.1 y) (rHolds b.2 b.1 y)) (jNx a b) (2 * (a.1 + b.1 + 1)) 0 with
  | false => exact decide_eq_true (show (rComb op a.2 a.1 b.2 b.1).1 / 2 = 0 by rw [h2.mpr ⟨rfl, h3⟩])
  | true =>
    refine decide_eq_false (fun h4 => ?_)
    have h5 : (rComb op a.2 a.1 b.2 b.1).1 / 2 = 0 := h4
    have h6 := (h2.mp (by omega)).2
    rw [h3] at h6
    exact nomatch h6
def relW (A B C : Bool) : Int32 := (bif !A then 1 else 0) + (bif !B then 2 else 0) + (bif !C then 4 else 0)
theorem relM6 : ∀ A B C : Bool, relW A B C &&& 6 = relW (A || (true && true)) (B || (true && !true)) (C || (true && !true)) := by decide
theorem relM5 : ∀ A B C : Bool, relW A B C &&& 5 = relW (A || (true && false)) (B || (true && !false)) (C || (false && !true)) := by decide
theorem relM3 : ∀ A B C : Bool, relW A B C &&& 3 = relW (A || (false && true)) (B || (false && !true)) (C || (true && !false)) := by decide
theorem relM7 : ∀ A B C : Bool, relW A B C &&& 7 = relW (A || (false && false)) (B || (false && !false)) (C || (false && !false)) := by decide
theorem vM1 (a b : Bool) : vMeets 1 a b = (a && b) := by cases a <;> cases b <;> decide
theorem vM2 (a b : Bool) : vMeets 2 a b = (a && !b) := by cases a <;> cases b <;> decide
def rlSt (w1 w2 : rVl) (p fu : Nat) (A B C : Bool) : Prop := p ≤ 100000000 ∧ (p < 100000000 → rTg w1 (nI p) + rTg w2 (nI p) < fu) ∧
  (A || uA (fun y => rHolds w1.2 w1.1 y && rHolds w2.2 w2.1 y) (jNx w1 w2) fu (nI p)) = uA (fun y => rHolds w1.2 w1.1 y && rHolds w2.2 w2.1 y) (jNx w1 w2) (2 * (w1.1 + w2.1 + 1)) 0 ∧
  (B || uA (fun y => rHolds w1.2 w1.1 y && !rHolds w2.2 w2.1 y) (jNx w1 w2) fu (nI p)) = uA (fun y => rHolds w1.2 w1.1 y && !rHolds w2.2 w2.1 y) (jNx w1 w2) (2 * (w1.1 + w2.1 + 1)) 0 ∧
  (C || uA (fun y => rHolds w2.2 w2.1 y && !rHolds w1.2 w1.1 y) (jNx w1 w2) fu (nI p)) = uA (fun y => rHolds w2.2 w2.1 y && !rHolds w1.2 w1.1 y) (jNx w1 w2) (2 * (w1.1 + w2.1 + 1)) 0
theorem rlSt.z {w1 w2 : rVl} : rlSt w1 w2 0 (2 * (w1.1 + w2.1 + 1)) false false false := by
  have h1 := rTg_le (w := w1) (x := nI 0)
  have h2 := rTg_le (w := w2) (x := nI 0)
  exact ⟨by omega, fun _ => by omega, rfl, rfl, rfl⟩
theorem rlSt.fu1 {w1 w2 : rVl} {p fu : Nat} {A B C : Bool} (h : rlSt w1 w2 p fu A B C) (hp : p < 100000000) : ∃ z, fu = z + 1 := ⟨fu - 1, by have := h.2.1 hp; omega⟩
theorem rlSt.s {w1 w2 : rVl} {p z x : Nat} {A B C : Bool} (h : rlSt w1 w2 p (z + 1) A B C) (h1 : rWf w1) (h2 : rWf w2) (hp : p < 100000000) (e : jNx w1 w2 (nI p) = nI x) (hx : x ≤ 100000000) : rlSt w1 w2 x z (A || (rHolds w1.2 w1.1 (nI p) && rHolds w2.2 w2.1 (nI p))) (B || (rHolds w1.2 w1.1 (nI p) && !rHolds w2.2 w2.1 (nI p))) (C || (rHolds w2.2 w2.1 (nI p) && !rHolds w1.2 w1.1 (nI p))) := by
  obtain ⟨a, b, c, d, f⟩ := h
  have ht := jSt9.tg h1 h2 hp e hx
  have hb := b hp
  rw [uA_s (most_n hp), e] at c d f
  refine ⟨hx, fun h9 => by have := ht h9; omega, ?_, ?_, ?_⟩
  · rw [← c, Bool.or_assoc]
  · rw [← d, Bool.or_assoc]
  · rw [← f, Bool.or_assoc]
theorem rlSt.e {w1 w2 : rVl} {fu : Nat} {A B C : Bool} (h : rlSt w1 w2 100000000 fu A B C) : relV w1 w2 = relW A B C := by
  obtain ⟨-, -, c, d, f⟩ := h
  rw [uA_e _ (by decide), Bool.or_false] at c d f
  have e1 : jNx w2 w1 = jNx w1 w2 := funext fun y => rMin_comm _ _
  unfold relV relW
  rw [comb_0, comb_0, comb_0, c, d, f, e1, Nat.add_comm w2.1 w1.1]
  have m1 : (fun y => vMeets 1 (rHolds w1.2 w1.1 y) (rHolds w2.2 w2.1 y)) = (fun y => rHolds w1.2 w1.1 y && rHolds w2.2 w2.1 y) := funext fun y => vM1 _ _
  have m2 : (fun y => vMeets 2 (rHolds w1.2 w1.1 y) (rHolds w2.2 w2.1 y)) = (fun y => rHolds w1.2 w1.1 y && !rHolds w2.2 w2.1 y) := funext fun y => vM2 _ _
  have m3 : (fun y => vMeets 2 (rHolds w2.2 w2.1 y) (rHolds w1.2 w1.1 y)) = (fun y => rHolds w2.2 w2.1 y && !rHolds w1.2 w1.1 y) := funext fun y => vM2 _ _
  rw [m1, m2, m3]
theorem none_of {x : Option rVl} (h : x.isNone = true) : x = none := by
  cases x with
  | none => rfl
  | some w => exact nomatch h
theorem dX8_relation_0 : decode cX8_relation 0 = .ok (.aload_n 0, 1) := by decide +kernel
theorem dX8_relation_1 : decode cX8_relation 1 = .ok (.iload_n 1, 1) := by decide +kernel
theorem dX8_relation_2 : decode cX8_relation 2 = .ok (.invokestatic 151, 3) := by decide +kernel
set_option maxRecDepth 20000 in
theorem ggX8_relation_X8_isSlot : GoodIn wsX8_relation wsX8_isSlot := goodIn_r _ [6] (by decide +kernel) (by decide +kernel)
set_option maxRecDepth 20000 in
theorem gX8_relation_X8_isSlot : GoodIn wsX8_relation (va_wsS RX8 151 yX8_isSlot wsX8_isSlot) := goodIn_app (goodIn_of _ (by decide +kernel)) ggX8_relation_X8_isSlot
theorem dX8_relation_5 : decode cX8_relation 5 = .ok (.ifCond .eq 10, 3) := by decide +kernel
theorem dX8_relation_15 : decode cX8_relation 15 = .ok (.iconst 1, 1) := by decide +kernel
theorem dX8_relation_16 : decode cX8_relation 16 = .ok (.goto 24, 3) := by decide +kernel
theorem dX8_relation_40 : decode cX8_relation 40 = .ok (.invokevirtual 148, 3) := by decide +kernel
set_option maxRecDepth 20000 in
theorem ggX8_relation_X8_fails : GoodIn wsX8_relation wsX8_fails := goodIn_r _ [14, 15, 25, 26, 27, 28, 29, 30, 31, 32, 33, 34, 35, 36, 37, 38, 39, 40, 41, 42, 43, 44, 45, 46, 47, 48, 49, 50, 51, 52, 53, 54, 55] (by decide +kernel) (by decide +kernel)
set_option maxRecDepth 20000 in
theorem gX8_relation_X8_fails : GoodIn wsX8_relation (wsV RX8 148 RX8 yX8_fails wsX8_fails) := goodIn_app (goodIn_of _ (by decide +kernel)) ggX8_relation_X8_fails
theorem dX8_relation_43 : decode cX8_relation 43 = .ok (.ifCond .eq 5, 3) := by decide +kernel
theorem dX8_relation_46 : decode cX8_relation 46 = .ok (.iconst 0, 1) := by decide +kernel
theorem dX8_relation_47 : decode cX8_relation 47 = .ok (.ireturn, 1) := by decide +kernel
theorem dX8_relation_8 : decode cX8_relation 8 = .ok (.iload_n 2, 1) := by decide +kernel
theorem dX8_relation_9 : decode cX8_relation 9 = .ok (.invokestatic 151, 3) := by decide +kernel
theorem dX8_relation_12 : decode cX8_relation 12 = .ok (.ifCond .ne 7, 3) := by decide +kernel
theorem dX8_relation_19 : decode cX8_relation 19 = .ok (.aload_n 0, 1) := by decide +kernel
theorem dX8_relation_20 : decode cX8_relation 20 = .ok (.iload_n 1, 1) := by decide +kernel
theorem dX8_relation_21 : decode cX8_relation 21 = .ok (.invokevirtual 188, 3) := by decide +kernel
set_option maxRecDepth 20000 in
theorem ggX8_relation_X8_isEmpty : GoodIn wsX8_relation wsX8_isEmpty := goodIn_ca (goodIn_r _ [10, 2, 25, 26, 27, 28, 29, 30, 31, 32, 33, 34, 35, 36, 37, 38, 39, 40, 41, 42, 43, 44, 45, 46, 47, 48, 49, 50, 51, 52, 53, 54, 55] (by decide +kernel) (by decide +kernel)) (goodIn_sub (fun _ h => List.mem_cons_of_mem _ (List.mem_append_right _ h)) (by decide +kernel))
set_option maxRecDepth 20000 in
theorem gX8_relation_X8_isEmpty : GoodIn wsX8_relation (wsV RX8 188 RX8 yX8_isEmpty wsX8_isEmpty) := goodIn_app (goodIn_of _ (by decide +kernel)) ggX8_relation_X8_isEmpty
theorem dX8_relation_24 : decode cX8_relation 24 = .ok (.ifCond .ne 11, 3) := by decide +kernel
theorem dX8_relation_35 : decode cX8_relation 35 = .ok (.iconst 2, 1) := by decide +kernel
theorem dX8_relation_36 : decode cX8_relation 36 = .ok (.goto 4, 3) := by decide +kernel
theorem dX8_relation_27 : decode cX8_relation 27 = .ok (.aload_n 0, 1) := by decide +kernel
theorem dX8_relation_28 : decode cX8_relation 28 = .ok (.iload_n 2, 1) := by decide +kernel
theorem dX8_relation_29 : decode cX8_relation 29 = .ok (.invokevirtual 188, 3) := by decide +kernel
theorem dX8_relation_32 : decode cX8_relation 32 = .ok (.ifCond .eq 7, 3) := by decide +kernel
theorem dX8_relation_39 : decode cX8_relation 39 = .ok (.iconst 0, 1) := by decide +kernel
theorem dX8_relation_48 : decode cX8_relation 48 = .ok (.bipush 7, 2) := by decide +kernel
theorem dX8_relation_50 : decode cX8_relation 50 = .ok (.istore_n 3, 1) := by decide +kernel
theorem dX8_relation_54 : decode cX8_relation 54 = .ok (.iload 4, 2) := by decide +kernel
theorem dX8_relation_56 : decode cX8_relation 56 = .ok (.ldc 59, 2) := by decide +kernel
theorem dX8_relation_58 : decode cX8_relation 58 = .ok (.if_icmp .gt 122, 3) := by decide +kernel
theorem dX8_relation_180 : decode cX8_relation 180 = .ok (.iload_n 3, 1) := by decide +kernel
theorem dX8_relation_181 : decode cX8_relation 181 = .ok (.ireturn, 1) := by decide +kernel
theorem dX8_relation_61 : decode cX8_relation 61 = .ok (.aload_n 0, 1) := by decide +kernel
theorem dX8_relation_62 : decode cX8_relation 62 = .ok (.aload_n 0, 1) := by decide +kernel
theorem dX8_relation_63 : decode cX8_relation 63 = .ok (.getfield 9, 3) := by decide +kernel
theorem dX8_relation_66 : decode cX8_relation 66 = .ok (.bipush 33, 2) := by decide +kernel
theorem dX8_relation_68 : decode cX8_relation 68 = .ok (.iload_n 1, 1) := by decide +kernel
theorem dX8_relation_69 : decode cX8_relation 69 = .ok (.imul, 1) := by decide +kernel
theorem dX8_relation_70 : decode cX8_relation 70 = .ok (.iload 4, 2) := by decide +kernel
theorem dX8_relation_72 : decode cX8_relation 72 = .ok (.invokevirtual 71, 3) := by decide +kernel
set_option maxRecDepth 20000 in
theorem ggX8_relation_X8_belongs : GoodIn wsX8_relation wsX8_belongs := goodIn_ca (goodIn_r _ [19, 20, 25, 26, 27, 28, 29, 30, 31, 32, 33, 34, 35, 36, 37, 38, 39, 40, 41, 42, 43, 44, 45, 46, 47, 48, 49, 50, 51, 52, 53, 54, 55] (by decide +kernel) (by decide +kernel)) (goodIn_sub (fun _ h => List.mem_cons_of_mem _ (List.mem_append_right _ h)) (by decide +kernel))
set_option maxRecDepth 20000 in
theorem gX8_relation_X8_belongs : GoodIn wsX8_relation (wsV RX8 71 RX8 yX8_belongs wsX8_belongs) := goodIn_app (goodIn_of _ (by decide +kernel)) ggX8_relation_X8_belongs
theorem dX8_relation_75 : decode cX8_relation 75 = .ok (.istore 5, 2) := by decide +kernel
theorem dX8_relation_77 : decode cX8_relation 77 = .ok (.aload_n 0, 1) := by decide +kernel
theorem dX8_relation_78 : decode cX8_relation 78 = .ok (.aload_n 0, 1) := by decide +kernel
theorem dX8_relation_79 : decode cX8_relation 79 = .ok (.getfield 9, 3) := by decide +kernel
theorem dX8_relation_82 : decode cX8_relation 82 = .ok (.bipush 33, 2) := by decide +kernel
theorem dX8_relation_84 : decode cX8_relation 84 = .ok (.iload_n 2, 1) := by decide +kernel
theorem dX8_relation_85 : decode cX8_relation 85 = .ok (.imul, 1) := by decide +kernel
theorem dX8_relation_86 : decode cX8_relation 86 = .ok (.iload 4, 2) := by decide +kernel
theorem dX8_relation_88 : decode cX8_relation 88 = .ok (.invokevirtual 71, 3) := by decide +kernel
theorem dX8_relation_91 : decode cX8_relation 91 = .ok (.istore 6, 2) := by decide +kernel
theorem dX8_relation_93 : decode cX8_relation 93 = .ok (.iload_n 3, 1) := by decide +kernel
theorem dX8_relation_94 : decode cX8_relation 94 = .ok (.iload 5, 2) := by decide +kernel
theorem dX8_relation_96 : decode cX8_relation 96 = .ok (.ifCond .eq 13, 3) := by decide +kernel
theorem dX8_relation_109 : decode cX8_relation 109 = .ok (.iload 5, 2) := by decide +kernel
theorem dX8_relation_111 : decode cX8_relation 111 = .ok (.ifCond .eq 7, 3) := by decide +kernel
theorem dX8_relation_118 : decode cX8_relation 118 = .ok (.iload 6, 2) := by decide +kernel
theorem dX8_relation_120 : decode cX8_relation 120 = .ok (.ifCond .eq 7, 3) := by decide +kernel
theorem dX8_relation_127 : decode cX8_relation 127 = .ok (.bipush 7, 2) := by decide +kernel
theorem dX8_relation_129 : decode cX8_relation 129 = .ok (.iand, 1) := by decide +kernel
theorem dX8_relation_130 : decode cX8_relation 130 = .ok (.istore_n 3, 1) := by decide +kernel
theorem dX8_relation_131 : decode cX8_relation 131 = .ok (.aload_n 0, 1) := by decide +kernel
theorem dX8_relation_132 : decode cX8_relation 132 = .ok (.getfield 9, 3) := by decide +kernel
theorem dX8_relation_135 : decode cX8_relation 135 = .ok (.bipush 33, 2) := by decide +kernel
theorem dX8_relation_137 : decode cX8_relation 137 = .ok (.iload_n 1, 1) := by decide +kernel
theorem dX8_relation_138 : decode cX8_relation 138 = .ok (.imul, 1) := by decide +kernel
theorem dX8_relation_139 : decode cX8_relation 139 = .ok (.iload 4, 2) := by decide +kernel
theorem dX8_relation_141 : decode cX8_relation 141 = .ok (.invokestatic 67, 3) := by decide +kernel
set_option maxRecDepth 20000 in
theorem ggX8_relation_X8_turn : GoodIn wsX8_relation wsX8_turn := goodIn_ca (goodIn_r _ [23, 24] (by decide +kernel) (by decide +kernel)) (goodIn_sub (fun _ h => List.mem_cons_of_mem _ (List.mem_append_right _ h)) (by decide +kernel))
set_option maxRecDepth 20000 in
theorem gX8_relation_X8_turn : GoodIn wsX8_relation (va_wsS RX8 67 yX8_turn wsX8_turn) := goodIn_app (goodIn_of _ (by decide +kernel)) ggX8_relation_X8_turn
theorem dX8_relation_144 : decode cX8_relation 144 = .ok (.istore 7, 2) := by decide +kernel
theorem dX8_relation_146 : decode cX8_relation 146 = .ok (.aload_n 0, 1) := by decide +kernel
theorem dX8_relation_147 : decode cX8_relation 147 = .ok (.getfield 9, 3) := by decide +kernel
theorem dX8_relation_150 : decode cX8_relation 150 = .ok (.bipush 33, 2) := by decide +kernel
theorem dX8_relation_152 : decode cX8_relation 152 = .ok (.iload_n 2, 1) := by decide +kernel
theorem dX8_relation_153 : decode cX8_relation 153 = .ok (.imul, 1) := by decide +kernel
theorem dX8_relation_154 : decode cX8_relation 154 = .ok (.iload 4, 2) := by decide +kernel
theorem dX8_relation_156 : decode cX8_relation 156 = .ok (.invokestatic 67, 3) := by decide +kernel
theorem dX8_relation_159 : decode cX8_relation 159 = .ok (.istore 8, 2) := by decide +kernel
theorem dX8_relation_161 : decode cX8_relation 161 = .ok (.iload 7, 2) := by decide +kernel
theorem dX8_relation_163 : decode cX8_relation 163 = .ok (.iload 8, 2) := by decide +kernel
theorem dX8_relation_165 : decode cX8_relation 165 = .ok (.if_icmp .ge 8, 3) := by decide +kernel
theorem dX8_relation_173 : decode cX8_relation 173 = .ok (.iload 8, 2) := by decide +kernel
theorem dX8_relation_175 : decode cX8_relation 175 = .ok (.istore 4, 2) := by decide +kernel
theorem dX8_relation_177 : decode cX8_relation 177 = .ok (.goto (-123), 3) := by decide +kernel
theorem dX8_relation_168 : decode cX8_relation 168 = .ok (.iload 7, 2) := by decide +kernel
theorem dX8_relation_170 : decode cX8_relation 170 = .ok (.goto 5, 3) := by decide +kernel
theorem dX8_relation_123 : decode cX8_relation 123 = .ok (.iconst 3, 1) := by decide +kernel
theorem dX8_relation_124 : decode cX8_relation 124 = .ok (.goto 5, 3) := by decide +kernel
theorem dX8_relation_114 : decode cX8_relation 114 = .ok (.iconst 5, 1) := by decide +kernel
theorem dX8_relation_115 : decode cX8_relation 115 = .ok (.goto 14, 3) := by decide +kernel
theorem dX8_relation_99 : decode cX8_relation 99 = .ok (.iload 6, 2) := by decide +kernel
theorem dX8_relation_101 : decode cX8_relation 101 = .ok (.ifCond .eq 8, 3) := by decide +kernel
theorem dX8_relation_104 : decode cX8_relation 104 = .ok (.bipush 6, 2) := by decide +kernel
theorem dX8_relation_106 : decode cX8_relation 106 = .ok (.goto 23, 3) := by decide +kernel
theorem dX8_relation_51 : decode cX8_relation 51 = .ok (.iconst 0, 1) := by decide +kernel
theorem dX8_relation_52 : decode cX8_relation 52 = .ok (.istore 4, 2) := by decide +kernel
set_option maxHeartbeats 400000 in
set_option maxRecDepth 20000 in
theorem ct_X8_relation (l : Launch) (D : va_G) (dA : Nat → ClassId) (hst : l.stackTraces = false) (M : jM) (m : Nat) (A : cA) (hA : mAb M m A) (hW : zWf (cNw A))(s t : Int32) : jCT l D dA yX8_relation wsX8_relation (22) (420) (0) (0) 1 [.ref (m), .int (s), .int (t)] M (mRl M m [xIOOBE, xNSE] ((sRel A s t).1) A) := by
  refine jBody (cc := cX8_relation) (nL := 9) (rt := (some .int)) (ini := false) (by decide) rfl hst (Nat.le_of_ble_eq_true rfl) (by simp [Value.category]) (by intro h9; first | exact absurd h9 (by decide) | rfl) ?_
  show J l D dA RX8 cX8_relation wsX8_relation 9 false (some .int) [] (22) (420) (jF D dA (jn M) (mRl M m [xIOOBE, xNSE] ((sRel A s t).1) A) 1) (jn M) (0) (0) (M) 0 [.ref (m), .int (s), .int (t), .float 0, .float 0, .float 0, .float 0, .float 0, .float 0] []
  obtain ⟨hM, hz, ⟨hKn, hK8, hKs⟩, ⟨hHs, hHz⟩, ⟨hLn, hL6, hLc⟩, hFl, ⟨hRs, hRp⟩, hCh⟩ := id hA
  obtain ⟨m1, m2, ⟨r1, r2, r3, r4, r5, r6, r7, r8, r9, r10, r11, r12, r13⟩, ⟨k1, k2, k3, k4, k5, k6, k7, k8, k9, k10, k11, k12, k13⟩, z1, z2, z3, z4, z5, z6, z7, z8, z9, z10, z11, z12, z13⟩ := id hM
  refine J_aload_n (m) dX8_relation_0 rfl rfl ?_
  refine J_iload_n dX8_relation_1 rfl rfl ?_
  refine J_calli0 (jrunS (As := [.int (s)]) (ct_X8_isSlot l D dA hst M ((s))) dX8_relation_2 yY_X8_isSlot gX8_relation_X8_isSlot rfl ⟨by omega, by omega⟩ ⟨Nat.zero_le _, Nat.zero_le _⟩ rfl (Nat.le_of_ble_eq_true rfl)) (rfl) (rfl) ?_
  refine J_if_eq dX8_relation_5 (tgt := 15) (by decide) (fun c5 => ?_) (fun c5 => ?_)
  · have c5 := jb0T c5
    refine J_iconst (x := 1) dX8_relation_15 (by decide) ?_
    refine J_goto (tgt := 40) dX8_relation_16 (by decide) ?_
    refine J_calli0 (jrunV (As := [.int (1)]) (ct_X8_fails l D dA hst M m hM ((1))) dX8_relation_40 yY_X8_fails gX8_relation_X8_fails rfl cs11 (show m < jn M from by omega) m2 rfl ⟨by omega, by omega⟩ ⟨Nat.zero_le _, Nat.zero_le _⟩ rfl (Nat.le_of_ble_eq_true rfl)) (rfl) (rfl) ?_
    refine J_if_eq dX8_relation_43 (tgt := 48) (by decide) (fun c43 => ?_) (fun c43 => ?_)
    · exact absurd c43 (by decide)
    · have c43 := jeqF (a := 1) (b := 0) (by omega) (by omega) c43
      refine J_iconst (x := 0) dX8_relation_46 (by decide) ?_
      exact J_iret (ty := .int) dX8_relation_47 rfl (rfl) (by refine ⟨?_, (hA).si rfl, (mFr.rf).si ⟨by omega, by omega⟩, _, rfl⟩; first | (exact mAg.x 0 xIOOBE rfl (by decide) ji_Sis (by unfold sRel; first | (rw [sSl_f c5]; done) | (rw [sSl_t c5, sSl_f c12]; done) | (rw [sSl_t c5, sSl_f c12]; rfl) | (rw [sSl_f c5]; rfl))))
  · have c5 := jb0F c5
    refine J_iload_n dX8_relation_8 rfl rfl ?_
    refine J_calli0 (jrunS (As := [.int (t)]) (ct_X8_isSlot l D dA hst M ((t))) dX8_relation_9 yY_X8_isSlot gX8_relation_X8_isSlot rfl ⟨by omega, by omega⟩ ⟨Nat.zero_le _, Nat.zero_le _⟩ rfl (Nat.le_of_ble_eq_true rfl)) (rfl) (rfl) ?_
    refine J_if_ne dX8_relation_12 (tgt := 19) (by decide) (fun c12 => ?_) (fun c12 => ?_)
    · have c12 := jb0F c12
      obtain ⟨k, hk, rfl⟩ := okSlot_of c5
      obtain ⟨q, hq, rfl⟩ := okSlot_of c12
      refine J_aload_n (m) dX8_relation_19 rfl rfl ?_
      refine J_iload_n dX8_relation_20 rfl rfl ?_
      refine J_calli0 (jrunV (As := [.int (nI (k))]) (ct_X8_isEmpty l D dA hst M m hM k hk ((cNw A).1 k) ((hz.at0 hk))) dX8_relation_21 yY_X8_isEmpty gX8_relation_X8_isEmpty rfl cs11 (show m < jn M from by omega) m2 rfl ⟨by omega, by omega⟩ ⟨Nat.zero_le _, Nat.zero_le _⟩ rfl (Nat.le_of_ble_eq_true rfl)) (rfl) (rfl) ?_
      refine J_if_ne dX8_relation_24 (tgt := 35) (by decide) (fun c24 => ?_) (fun c24 => ?_)
      · have c24 := jb0F c24
        refine J_iconst (x := 2) dX8_relation_35 (by decide) ?_
        refine J_goto (tgt := 40) dX8_relation_36 (by decide) ?_
        refine J_calli0 (jrunV (As := [.int (2)]) (ct_X8_fails l D dA hst M m hM ((2))) dX8_relation_40 yY_X8_fails gX8_relation_X8_fails rfl cs11 (show m < jn M from by omega) m2 rfl ⟨by omega, by omega⟩ ⟨Nat.zero_le _, Nat.zero_le _⟩ rfl (Nat.le_of_ble_eq_true rfl)) (rfl) (rfl) ?_
        refine J_if_eq dX8_relation_43 (tgt := 48) (by decide) (fun c43 => ?_) (fun c43 => ?_)
        · exact absurd c43 (by decide)
        · have c43 := jeqF (a := 1) (b := 0) (by omega) (by omega) c43
          refine J_iconst (x := 0) dX8_relation_46 (by decide) ?_
          exact J_iret (ty := .int) dX8_relation_47 rfl (rfl) (by refine ⟨?_, (hA).si rfl, (mFr.rf).si ⟨by omega, by omega⟩, _, rfl⟩; exact mAg.x 1 xNSE rfl (by decide) ji_Sis (by unfold sRel; rw [sSl_t c5, sSl_t c12]; first | (rw [sRn_n (by rw [cAt_n hk]; exact none_of c24)]; done) | (rw [sRn_n (by rw [cAt_n hk]; exact none_of c24)]; rfl) | (obtain ⟨w1, hz1⟩ := some_of c24; rw [sRn_s (by rw [cAt_n hk]; exact hz1), sRn_n (by rw [cAt_n hq]; exact none_of c32)])))
      · have c24 := jb0T c24
        refine J_aload_n (m) dX8_relation_27 rfl rfl ?_
        refine J_iload_n dX8_relation_28 rfl rfl ?_
        refine J_calli0 (jrunV (As := [.int (nI (q))]) (ct_X8_isEmpty l D dA hst M m hM q hq ((cNw A).1 q) ((hz.at0 hq))) dX8_relation_29 yY_X8_isEmpty gX8_relation_X8_isEmpty rfl cs11 (show m < jn M from by omega) m2 rfl ⟨by omega, by omega⟩ ⟨Nat.zero_le _, Nat.zero_le _⟩ rfl (Nat.le_of_ble_eq_true rfl)) (rfl) (rfl) ?_
        refine J_if_eq dX8_relation_32 (tgt := 39) (by decide) (fun c32 => ?_) (fun c32 => ?_)
        · have c32 := jb0T c32
          refine J_iconst (x := 0) dX8_relation_39 (by decide) ?_
          refine J_calli0 (jrunV (As := [.int (0)]) (ct_X8_fails l D dA hst M m hM ((0))) dX8_relation_40 yY_X8_fails gX8_relation_X8_fails rfl cs11 (show m < jn M from by omega) m2 rfl ⟨by omega, by omega⟩ ⟨Nat.zero_le _, Nat.zero_le _⟩ rfl (Nat.le_of_ble_eq_true rfl)) (rfl) (rfl) ?_
          refine J_if_eq dX8_relation_43 (tgt := 48) (by decide) (fun c43 => ?_) (fun c43 => ?_)
          · have c43 := jeqT (a := 0) (b := 0) (by omega) (by omega) c43
            obtain ⟨w1, hz1⟩ := some_of c24
            obtain ⟨w2, hz2⟩ := some_of c32
            have hx1 := hz.at0 hk
            rw [hz1] at hx1
            have hx2 := hz.at0 hq
            rw [hz2] at hx2
            have h161 := hx1.2.1
            have h162 := hx2.2.1
            have hw1 := hW.1 _ _ hz1
            have hw2 := hW.1 _ _ hz2
            refine J_bipush (x := 7) dX8_relation_48 (by decide) ?_
            refine J_topi (y := (relW false false false)) (by decide) ?_
            refine J_istore_n (lv' := [.ref (m), .int (nI (k)), .int (nI (q)), .int (relW false false false), .float 0, .float 0, .float 0, .float 0, .float 0]) dX8_relation_50 rfl (by decide) rfl rfl ?_
            refine J_mem (M' := jSi (jSi M m 11 (0)) m 14 (ji M m 14)) (by exact (jSi_self (ji_Sik (by decide))).symm) ?_
            have L54 : ∀ (fuel : Nat) (fu : Nat) (p : Nat) (A1 : Bool) (B1 : Bool) (C1 : Bool) (y : Int32) (hI : rlSt w1 w2 p fu A1 B1 C1), fu < fuel → J l D dA RX8 cX8_relation wsX8_relation 9 false (some .int) [] (22) (420) (jF D dA (jn M) (mRl M m [xIOOBE, xNSE] ((sRel A (nI k) (nI q)).1) A) 1) (jn M) (0) (0) ((jSi (jSi M m 11 (0)) m 14 y)) 54 [.ref (m), .int (nI (k)), .int (nI (q)), .int (relW A1 B1 C1), .int (nI (p)), .float 0, .float 0, .float 0, .float 0] [] := by
              intro fuel
              induction fuel with
              | zero => intro fu p A1 B1 C1 y hI hm; exact absurd hm (Nat.not_lt_zero _)
              | succ fuel ih54 =>
                intro fu p A1 B1 C1 y hI hm54
                have hp8 := hI.1
                refine J_iload dX8_relation_54 rfl ?_
                refine J_ldc (x := 99999999) dX8_relation_56 (List.mem_of_getElem? (i := 1) rfl) ?_
                refine J_icmp_gt dX8_relation_58 (tgt := 180) (by decide) (fun c58 => ?_) (fun c58 => ?_)
                · have c58 := jltT (a := 99999999) (b := p) (by omega) (by omega) c58
                  refine J_iload_n dX8_relation_180 rfl rfl ?_
                  exact J_iret (ty := .int) dX8_relation_181 rfl (rfl) (by obtain rfl : p = 100000000 := (by omega); refine ⟨Or.inl ⟨?_, ?_⟩, ((hA).si rfl).si rfl, ((mFr.rf).si ⟨by omega, by omega⟩).si ⟨by omega, by omega⟩, _, rfl⟩; (rw [ji_Sik (by decide)]; exact ji_Sis); (unfold sRel; rw [sSl_t c5, sSl_t c12, sRn_s (by rw [cAt_n hk]; exact hz1), sRn_s (by rw [cAt_n hq]; exact hz2), hI.e]))
                · have c58 := jltF (a := 99999999) (b := p) (by omega) (by omega) c58
                  have hp9 : p < 100000000 := by omega
                  obtain ⟨z9, rfl⟩ := hI.fu1 hp9
                  obtain ⟨x1, e1, hx11, hx12, _⟩ := rNext_nat hw1 hp9
                  obtain ⟨x2, e2, hx21, hx22, _⟩ := rNext_nat hw2 hp9
                  have hnx : jNx w1 w2 (nI p) = nI (min x1 x2) := by unfold jNx; rw [e1, e2, rMin_n hx12 hx22]
                  refine J_aload_n (m) dX8_relation_61 rfl rfl ?_
                  refine J_aload_n (m) dX8_relation_62 rfl rfl ?_
                  refine J_getrs (q := m + 1) r1 dX8_relation_63 (fun _ h => List.mem_cons_of_mem _ (List.mem_append_left _ (List.mem_append_right _ (h)))) cs11 (by decide) rfl (List.mem_of_getElem? (i := 2) rfl) rfl (show m < jn M from by omega) m2 ?_
                  refine J_bipush (x := 33) dX8_relation_66 (by decide) ?_
                  refine J_iload_n dX8_relation_68 rfl rfl ?_
                  refine J_imul dX8_relation_69 ?_
                  refine J_topi (y := nI (33 * k)) (pk_mul (33) (k)) ?_
                  refine J_iload dX8_relation_70 rfl ?_
                  refine J_calli (jrunV (As := [.ref (m + 1), .int (nI (33 * k)), .int (nI (p))]) (ct_X8_belongs l D dA hst ((jSi (jSi M m 11 (0)) m 14 y)) m hM (m + 1) 427 (33 * k) (show m + 1 < jn M by omega) k1 z1 (by omega) (by omega) (by omega) w1 hw1 (((hx1).si (by omega)).si (by omega)) (nI (p))) dX8_relation_72 yY_X8_belongs gX8_relation_X8_belongs rfl cs11 (show m < jn M from by omega) m2 rfl ⟨by omega, by omega⟩ ⟨Nat.zero_le _, Nat.zero_le _⟩ rfl (Nat.le_of_ble_eq_true rfl)) ⟨Nat.zero_le _, Nat.zero_le _⟩ (Or.inr ⟨(jOk.ref (show m < jn M from by omega) (jOk.int (jOk.int (jOk.int (jOk.int (jOk.float (jOk.float (jOk.float (jOk.float jOk.nil))))))))), jOk.nil⟩) (fun E M9 hp _ => by obtain ⟨_, h1, _⟩ := hp; cases h1) (fun x9 M1 hp72 hle72 => ?_)
                  obtain ⟨xs72, he, rfl, -⟩ := hp72
                  cases he
                  refine J_mem (M' := jSi (jSi M m 11 (0)) m 14 xs72) (by exact jSi_jSi _ _ _ _ _) ?_
                  refine J_istore (lv' := [.ref (m), .int (nI (k)), .int (nI (q)), .int (relW A1 B1 C1), .int (nI (p)), .int (jb (rHolds w1.2 w1.1 (nI (p)))), .float 0, .float 0, .float 0]) dX8_relation_75 (by decide) rfl rfl ?_
                  refine J_aload_n (m) dX8_relation_77 rfl rfl ?_
                  refine J_aload_n (m) dX8_relation_78 rfl rfl ?_
                  refine J_getrs (q := m + 1) r1 dX8_relation_79 (fun _ h => List.mem_cons_of_mem _ (List.mem_append_left _ (List.mem_append_right _ (h)))) cs11 (by decide) rfl (List.mem_of_getElem? (i := 2) rfl) rfl (show m < jn M from by omega) m2 ?_
                  refine J_bipush (x := 33) dX8_relation_82 (by decide) ?_
                  refine J_iload_n dX8_relation_84 rfl rfl ?_
                  refine J_imul dX8_relation_85 ?_
                  refine J_topi (y := nI (33 * q)) (pk_mul (33) (q)) ?_
                  refine J_iload dX8_relation_86 rfl ?_
                  refine J_calli (jrunV (As := [.ref (m + 1), .int (nI (33 * q)), .int (nI (p))]) (ct_X8_belongs l D dA hst (jSi (jSi M m 11 (0)) m 14 xs72) m hM (m + 1) 427 (33 * q) (show m + 1 < jn M by omega) k1 z1 (by omega) (by omega) (by omega) w2 hw2 (((hx2).si (by omega)).si (by omega)) (nI (p))) dX8_relation_88 yY_X8_belongs gX8_relation_X8_belongs rfl cs11 (show m < jn M from by omega) m2 rfl ⟨by omega, by omega⟩ ⟨Nat.zero_le _, Nat.zero_le _⟩ rfl (Nat.le_of_ble_eq_true rfl)) ⟨Nat.zero_le _, Nat.zero_le _⟩ (Or.inr ⟨(jOk.ref (show m < jn M from by omega) (jOk.int (jOk.int (jOk.int (jOk.int (jOk.int (jOk.float (jOk.float (jOk.float jOk.nil))))))))), jOk.nil⟩) (fun E M9 hp _ => by obtain ⟨_, h1, _⟩ := hp; cases h1) (fun x9 M1 hp88 hle88 => ?_)
                  obtain ⟨xs88, he, rfl, -⟩ := hp88
                  cases he
                  refine J_mem (M' := jSi (jSi M m 11 (0)) m 14 xs88) (by exact jSi_jSi _ _ _ _ _) ?_
                  refine J_istore (lv' := [.ref (m), .int (nI (k)), .int (nI (q)), .int (relW A1 B1 C1), .int (nI (p)), .int (jb (rHolds w1.2 w1.1 (nI (p)))), .int (jb (rHolds w2.2 w2.1 (nI (p)))), .float 0, .float 0]) dX8_relation_91 (by decide) rfl rfl ?_
                  refine J_iload_n dX8_relation_93 rfl rfl ?_
                  refine J_iload dX8_relation_94 rfl ?_
                  refine J_if_eq dX8_relation_96 (tgt := 109) (by decide) (fun c96 => ?_) (fun c96 => ?_)
                  · have c96 := jb0T c96
                    refine J_iload dX8_relation_109 rfl ?_
                    refine J_if_eq dX8_relation_111 (tgt := 118) (by decide) (fun c111 => ?_) (fun c111 => ?_)
                    · have c111 := jb0T c111
                      refine J_iload dX8_relation_118 rfl ?_
                      refine J_if_eq dX8_relation_120 (tgt := 127) (by decide) (fun c120 => ?_) (fun c120 => ?_)
                      · have c120 := jb0T c120
                        refine J_bipush (x := 7) dX8_relation_127 (by decide) ?_
                        refine J_iand dX8_relation_129 ?_
                        refine J_topi (y := relW (A1 || (rHolds w1.2 w1.1 (nI p) && rHolds w2.2 w2.1 (nI p))) (B1 || (rHolds w1.2 w1.1 (nI p) && !rHolds w2.2 w2.1 (nI p))) (C1 || (rHolds w2.2 w2.1 (nI p) && !rHolds w1.2 w1.1 (nI p)))) (by first | exact absurd (c96.symm.trans c111) (by decide) | (rw [c96, c101]; exact relM6 _ _ _) | (rw [c111, c101]; exact relM5 _ _ _) | (rw [c111, c120]; exact relM3 _ _ _) | (rw [c111, c120]; exact relM7 _ _ _)) ?_
                        refine J_istore_n (lv' := [.ref (m), .int (nI (k)), .int (nI (q)), .int (relW (A1 || (rHolds w1.2 w1.1 (nI p) && rHolds w2.2 w2.1 (nI p))) (B1 || (rHolds w1.2 w1.1 (nI p) && !rHolds w2.2 w2.1 (nI p))) (C1 || (rHolds w2.2 w2.1 (nI p) && !rHolds w1.2 w1.1 (nI p)))), .int (nI (p)), .int (jb (rHolds w1.2 w1.1 (nI (p)))), .int (jb (rHolds w2.2 w2.1 (nI (p)))), .float 0, .float 0]) dX8_relation_130 rfl (by decide) rfl rfl ?_
                        refine J_aload_n (m) dX8_relation_131 rfl rfl ?_
                        refine J_getrs (q := m + 1) r1 dX8_relation_132 (fun _ h => List.mem_cons_of_mem _ (List.mem_append_left _ (List.mem_append_right _ (h)))) cs11 (by decide) rfl (List.mem_of_getElem? (i := 2) rfl) rfl (show m < jn M from by omega) m2 ?_
                        refine J_bipush (x := 33) dX8_relation_135 (by decide) ?_
                        refine J_iload_n dX8_relation_137 rfl rfl ?_
                        refine J_imul dX8_relation_138 ?_
                        refine J_topi (y := nI (33 * k)) (pk_mul (33) (k)) ?_
                        refine J_iload dX8_relation_139 rfl ?_
                        refine J_calli0 (jrunS (As := [.ref (m + 1), .int (nI (33 * k)), .int (nI (p))]) (ct_X8_turn l D dA hst (jSi (jSi M m 11 (0)) m 14 xs88) (m + 1) 427 (33 * k) (show m + 1 < jn M by omega) k1 z1 (by omega) (by omega) w1 (((hx1).si (by omega)).si (by omega)) (nI (p))) dX8_relation_141 yY_X8_turn gX8_relation_X8_turn rfl ⟨by omega, by omega⟩ ⟨Nat.zero_le _, Nat.zero_le _⟩ rfl (Nat.le_of_ble_eq_true rfl)) (rfl) (rfl) ?_
                        refine J_topi (y := nI (x1)) (by rw [mTurn_eq hw1]; exact e1) ?_
                        refine J_istore (lv' := [.ref (m), .int (nI (k)), .int (nI (q)), .int (relW (A1 || (rHolds w1.2 w1.1 (nI p) && rHolds w2.2 w2.1 (nI p))) (B1 || (rHolds w1.2 w1.1 (nI p) && !rHolds w2.2 w2.1 (nI p))) (C1 || (rHolds w2.2 w2.1 (nI p) && !rHolds w1.2 w1.1 (nI p)))), .int (nI (p)), .int (jb (rHolds w1.2 w1.1 (nI (p)))), .int (jb (rHolds w2.2 w2.1 (nI (p)))), .int (nI (x1)), .float 0]) dX8_relation_144 (by decide) rfl rfl ?_
                        refine J_aload_n (m) dX8_relation_146 rfl rfl ?_
                        refine J_getrs (q := m + 1) r1 dX8_relation_147 (fun _ h => List.mem_cons_of_mem _ (List.mem_append_left _ (List.mem_append_right _ (h)))) cs11 (by decide) rfl (List.mem_of_getElem? (i := 2) rfl) rfl (show m < jn M from by omega) m2 ?_
                        refine J_bipush (x := 33) dX8_relation_150 (by decide) ?_
                        refine J_iload_n dX8_relation_152 rfl rfl ?_
                        refine J_imul dX8_relation_153 ?_
                        refine J_topi (y := nI (33 * q)) (pk_mul (33) (q)) ?_
                        refine J_iload dX8_relation_154 rfl ?_
                        refine J_calli0 (jrunS (As := [.ref (m + 1), .int (nI (33 * q)), .int (nI (p))]) (ct_X8_turn l D dA hst (jSi (jSi M m 11 (0)) m 14 xs88) (m + 1) 427 (33 * q) (show m + 1 < jn M by omega) k1 z1 (by omega) (by omega) w2 (((hx2).si (by omega)).si (by omega)) (nI (p))) dX8_relation_156 yY_X8_turn gX8_relation_X8_turn rfl ⟨by omega, by omega⟩ ⟨Nat.zero_le _, Nat.zero_le _⟩ rfl (Nat.le_of_ble_eq_true rfl)) (rfl) (rfl) ?_
                        refine J_topi (y := nI (x2)) (by rw [mTurn_eq hw2]; exact e2) ?_
                        refine J_istore (lv' := [.ref (m), .int (nI (k)), .int (nI (q)), .int (relW (A1 || (rHolds w1.2 w1.1 (nI p) && rHolds w2.2 w2.1 (nI p))) (B1 || (rHolds w1.2 w1.1 (nI p) && !rHolds w2.2 w2.1 (nI p))) (C1 || (rHolds w2.2 w2.1 (nI p) && !rHolds w1.2 w1.1 (nI p)))), .int (nI (p)), .int (jb (rHolds w1.2 w1.1 (nI (p)))), .int (jb (rHolds w2.2 w2.1 (nI (p)))), .int (nI (x1)), .int (nI (x2))]) dX8_relation_159 (by decide) rfl rfl ?_
                        refine J_iload dX8_relation_161 rfl ?_
                        refine J_iload dX8_relation_163 rfl ?_
                        refine J_icmp_ge dX8_relation_165 (tgt := 173) (by decide) (fun c165 => ?_) (fun c165 => ?_)
                        · have c165 := jleT (a := x2) (b := x1) (by omega) (by omega) c165
                          refine J_iload dX8_relation_173 rfl ?_
                          refine J_topi (y := nI (min x1 x2)) (congrArg nI (by omega)) ?_
                          refine J_istore (lv' := [.ref (m), .int (nI (k)), .int (nI (q)), .int (relW (A1 || (rHolds w1.2 w1.1 (nI p) && rHolds w2.2 w2.1 (nI p))) (B1 || (rHolds w1.2 w1.1 (nI p) && !rHolds w2.2 w2.1 (nI p))) (C1 || (rHolds w2.2 w2.1 (nI p) && !rHolds w1.2 w1.1 (nI p)))), .int (nI (min x1 x2)), .int (jb (rHolds w1.2 w1.1 (nI (p)))), .int (jb (rHolds w2.2 w2.1 (nI (p)))), .int (nI (x1)), .int (nI (x2))]) dX8_relation_175 (by decide) rfl rfl ?_
                          refine J_goto (tgt := 54) dX8_relation_177 (by decide) ?_
                          refine J_fg 5 (lv' := [.ref (m), .int (nI (k)), .int (nI (q)), .int (relW (A1 || (rHolds w1.2 w1.1 (nI p) && rHolds w2.2 w2.1 (nI p))) (B1 || (rHolds w1.2 w1.1 (nI p) && !rHolds w2.2 w2.1 (nI p))) (C1 || (rHolds w2.2 w2.1 (nI p) && !rHolds w1.2 w1.1 (nI p)))), .int (nI (min x1 x2)), .float 0, .int (jb (rHolds w2.2 w2.1 (nI (p)))), .int (nI (x1)), .int (nI (x2))]) rfl ?_
                          refine J_fg 6 (lv' := [.ref (m), .int (nI (k)), .int (nI (q)), .int (relW (A1 || (rHolds w1.2 w1.1 (nI p) && rHolds w2.2 w2.1 (nI p))) (B1 || (rHolds w1.2 w1.1 (nI p) && !rHolds w2.2 w2.1 (nI p))) (C1 || (rHolds w2.2 w2.1 (nI p) && !rHolds w1.2 w1.1 (nI p)))), .int (nI (min x1 x2)), .float 0, .float 0, .int (nI (x1)), .int (nI (x2))]) rfl ?_
                          refine J_fg 7 (lv' := [.ref (m), .int (nI (k)), .int (nI (q)), .int (relW (A1 || (rHolds w1.2 w1.1 (nI p) && rHolds w2.2 w2.1 (nI p))) (B1 || (rHolds w1.2 w1.1 (nI p) && !rHolds w2.2 w2.1 (nI p))) (C1 || (rHolds w2.2 w2.1 (nI p) && !rHolds w1.2 w1.1 (nI p)))), .int (nI (min x1 x2)), .float 0, .float 0, .float 0, .int (nI (x2))]) rfl ?_
                          refine J_fg 8 (lv' := [.ref (m), .int (nI (k)), .int (nI (q)), .int (relW (A1 || (rHolds w1.2 w1.1 (nI p) && rHolds w2.2 w2.1 (nI p))) (B1 || (rHolds w1.2 w1.1 (nI p) && !rHolds w2.2 w2.1 (nI p))) (C1 || (rHolds w2.2 w2.1 (nI p) && !rHolds w1.2 w1.1 (nI p)))), .int (nI (min x1 x2)), .float 0, .float 0, .float 0, .float 0]) rfl ?_
                          exact ih54 (z9) (min x1 x2) ((A1 || (rHolds w1.2 w1.1 (nI p) && rHolds w2.2 w2.1 (nI p)))) ((B1 || (rHolds w1.2 w1.1 (nI p) && !rHolds w2.2 w2.1 (nI p)))) ((C1 || (rHolds w2.2 w2.1 (nI p) && !rHolds w1.2 w1.1 (nI p)))) (xs88) (by exact hI.s hw1 hw2 hp9 hnx (by omega)) (by omega)
                        · have c165 := jleF (a := x2) (b := x1) (by omega) (by omega) c165
                          refine J_iload dX8_relation_168 rfl ?_
                          refine J_goto (tgt := 175) dX8_relation_170 (by decide) ?_
                          refine J_topi (y := nI (min x1 x2)) (congrArg nI (by omega)) ?_
                          refine J_istore (lv' := [.ref (m), .int (nI (k)), .int (nI (q)), .int (relW (A1 || (rHolds w1.2 w1.1 (nI p) && rHolds w2.2 w2.1 (nI p))) (B1 || (rHolds w1.2 w1.1 (nI p) && !rHolds w2.2 w2.1 (nI p))) (C1 || (rHolds w2.2 w2.1 (nI p) && !rHolds w1.2 w1.1 (nI p)))), .int (nI (min x1 x2)), .int (jb (rHolds w1.2 w1.1 (nI (p)))), .int (jb (rHolds w2.2 w2.1 (nI (p)))), .int (nI (x1)), .int (nI (x2))]) dX8_relation_175 (by decide) rfl rfl ?_
                          refine J_goto (tgt := 54) dX8_relation_177 (by decide) ?_
                          refine J_fg 5 (lv' := [.ref (m), .int (nI (k)), .int (nI (q)), .int (relW (A1 || (rHolds w1.2 w1.1 (nI p) && rHolds w2.2 w2.1 (nI p))) (B1 || (rHolds w1.2 w1.1 (nI p) && !rHolds w2.2 w2.1 (nI p))) (C1 || (rHolds w2.2 w2.1 (nI p) && !rHolds w1.2 w1.1 (nI p)))), .int (nI (min x1 x2)), .float 0, .int (jb (rHolds w2.2 w2.1 (nI (p)))), .int (nI (x1)), .int (nI (x2))]) rfl ?_
                          refine J_fg 6 (lv' := [.ref (m), .int (nI (k)), .int (nI (q)), .int (relW (A1 || (rHolds w1.2 w1.1 (nI p) && rHolds w2.2 w2.1 (nI p))) (B1 || (rHolds w1.2 w1.1 (nI p) && !rHolds w2.2 w2.1 (nI p))) (C1 || (rHolds w2.2 w2.1 (nI p) && !rHolds w1.2 w1.1 (nI p)))), .int (nI (min x1 x2)), .float 0, .float 0, .int (nI (x1)), .int (nI (x2))]) rfl ?_
                          refine J_fg 7 (lv' := [.ref (m), .int (nI (k)), .int (nI (q)), .int (relW (A1 || (rHolds w1.2 w1.1 (nI p) && rHolds w2.2 w2.1 (nI p))) (B1 || (rHolds w1.2 w1.1 (nI p) && !rHolds w2.2 w2.1 (nI p))) (C1 || (rHolds w2.2 w2.1 (nI p) && !rHolds w1.2 w1.1 (nI p)))), .int (nI (min x1 x2)), .float 0, .float 0, .float 0, .int (nI (x2))]) rfl ?_
                          refine J_fg 8 (lv' := [.ref (m), .int (nI (k)), .int (nI (q)), .int (relW (A1 || (rHolds w1.2 w1.1 (nI p) && rHolds w2.2 w2.1 (nI p))) (B1 || (rHolds w1.2 w1.1 (nI p) && !rHolds w2.2 w2.1 (nI p))) (C1 || (rHolds w2.2 w2.1 (nI p) && !rHolds w1.2 w1.1 (nI p)))), .int (nI (min x1 x2)), .float 0, .float 0, .float 0, .float 0]) rfl ?_
                          exact ih54 (z9) (min x1 x2) ((A1 || (rHolds w1.2 w1.1 (nI p) && rHolds w2.2 w2.1 (nI p)))) ((B1 || (rHolds w1.2 w1.1 (nI p) && !rHolds w2.2 w2.1 (nI p)))) ((C1 || (rHolds w2.2 w2.1 (nI p) && !rHolds w1.2 w1.1 (nI p)))) (xs88) (by exact hI.s hw1 hw2 hp9 hnx (by omega)) (by omega)
                      · have c120 := jb0F c120
                        refine J_iconst (x := 3) dX8_relation_123 (by decide) ?_
                        refine J_goto (tgt := 129) dX8_relation_124 (by decide) ?_
                        refine J_iand dX8_relation_129 ?_
                        refine J_topi (y := relW (A1 || (rHolds w1.2 w1.1 (nI p) && rHolds w2.2 w2.1 (nI p))) (B1 || (rHolds w1.2 w1.1 (nI p) && !rHolds w2.2 w2.1 (nI p))) (C1 || (rHolds w2.2 w2.1 (nI p) && !rHolds w1.2 w1.1 (nI p)))) (by first | exact absurd (c96.symm.trans c111) (by decide) | (rw [c96, c101]; exact relM6 _ _ _) | (rw [c111, c101]; exact relM5 _ _ _) | (rw [c111, c120]; exact relM3 _ _ _) | (rw [c111, c120]; exact relM7 _ _ _)) ?_
                        refine J_istore_n (lv' := [.ref (m), .int (nI (k)), .int (nI (q)), .int (relW (A1 || (rHolds w1.2 w1.1 (nI p) && rHolds w2.2 w2.1 (nI p))) (B1 || (rHolds w1.2 w1.1 (nI p) && !rHolds w2.2 w2.1 (nI p))) (C1 || (rHolds w2.2 w2.1 (nI p) && !rHolds w1.2 w1.1 (nI p)))), .int (nI (p)), .int (jb (rHolds w1.2 w1.1 (nI (p)))), .int (jb (rHolds w2.2 w2.1 (nI (p)))), .float 0, .float 0]) dX8_relation_130 rfl (by decide) rfl rfl ?_
                        refine J_aload_n (m) dX8_relation_131 rfl rfl ?_
                        refine J_getrs (q := m + 1) r1 dX8_relation_132 (fun _ h => List.mem_cons_of_mem _ (List.mem_append_left _ (List.mem_append_right _ (h)))) cs11 (by decide) rfl (List.mem_of_getElem? (i := 2) rfl) rfl (show m < jn M from by omega) m2 ?_
                        refine J_bipush (x := 33) dX8_relation_135 (by decide) ?_
                        refine J_iload_n dX8_relation_137 rfl rfl ?_
                        refine J_imul dX8_relation_138 ?_
                        refine J_topi (y := nI (33 * k)) (pk_mul (33) (k)) ?_
                        refine J_iload dX8_relation_139 rfl ?_
                        refine J_calli0 (jrunS (As := [.ref (m + 1), .int (nI (33 * k)), .int (nI (p))]) (ct_X8_turn l D dA hst (jSi (jSi M m 11 (0)) m 14 xs88) (m + 1) 427 (33 * k) (show m + 1 < jn M by omega) k1 z1 (by omega) (by omega) w1 (((hx1).si (by omega)).si (by omega)) (nI (p))) dX8_relation_141 yY_X8_turn gX8_relation_X8_turn rfl ⟨by omega, by omega⟩ ⟨Nat.zero_le _, Nat.zero_le _⟩ rfl (Nat.le_of_ble_eq_true rfl)) (rfl) (rfl) ?_
                        refine J_topi (y := nI (x1)) (by rw [mTurn_eq hw1]; exact e1) ?_
                        refine J_istore (lv' := [.ref (m), .int (nI (k)), .int (nI (q)), .int (relW (A1 || (rHolds w1.2 w1.1 (nI p) && rHolds w2.2 w2.1 (nI p))) (B1 || (rHolds w1.2 w1.1 (nI p) && !rHolds w2.2 w2.1 (nI p))) (C1 || (rHolds w2.2 w2.1 (nI p) && !rHolds w1.2 w1.1 (nI p)))), .int (nI (p)), .int (jb (rHolds w1.2 w1.1 (nI (p)))), .int (jb (rHolds w2.2 w2.1 (nI (p)))), .int (nI (x1)), .float 0]) dX8_relation_144 (by decide) rfl rfl ?_
                        refine J_aload_n (m) dX8_relation_146 rfl rfl ?_
                        refine J_getrs (q := m + 1) r1 dX8_relation_147 (fun _ h => List.mem_cons_of_mem _ (List.mem_append_left _ (List.mem_append_right _ (h)))) cs11 (by decide) rfl (List.mem_of_getElem? (i := 2) rfl) rfl (show m < jn M from by omega) m2 ?_
                        refine J_bipush (x := 33) dX8_relation_150 (by decide) ?_
                        refine J_iload_n dX8_relation_152 rfl rfl ?_
                        refine J_imul dX8_relation_153 ?_
                        refine J_topi (y := nI (33 * q)) (pk_mul (33) (q)) ?_
                        refine J_iload dX8_relation_154 rfl ?_
                        refine J_calli0 (jrunS (As := [.ref (m + 1), .int (nI (33 * q)), .int (nI (p))]) (ct_X8_turn l D dA hst (jSi (jSi M m 11 (0)) m 14 xs88) (m + 1) 427 (33 * q) (show m + 1 < jn M by omega) k1 z1 (by omega) (by omega) w2 (((hx2).si (by omega)).si (by omega)) (nI (p))) dX8_relation_156 yY_X8_turn gX8_relation_X8_turn rfl ⟨by omega, by omega⟩ ⟨Nat.zero_le _, Nat.zero_le _⟩ rfl (Nat.le_of_ble_eq_true rfl)) (rfl) (rfl) ?_
                        refine J_topi (y := nI (x2)) (by rw [mTurn_eq hw2]; exact e2) ?_
                        refine J_istore (lv' := [.ref (m), .int (nI (k)), .int (nI (q)), .int (relW (A1 || (rHolds w1.2 w1.1 (nI p) && rHolds w2.2 w2.1 (nI p))) (B1 || (rHolds w1.2 w1.1 (nI p) && !rHolds w2.2 w2.1 (nI p))) (C1 || (rHolds w2.2 w2.1 (nI p) && !rHolds w1.2 w1.1 (nI p)))), .int (nI (p)), .int (jb (rHolds w1.2 w1.1 (nI (p)))), .int (jb (rHolds w2.2 w2.1 (nI (p)))), .int (nI (x1)), .int (nI (x2))]) dX8_relation_159 (by decide) rfl rfl ?_
                        refine J_iload dX8_relation_161 rfl ?_
                        refine J_iload dX8_relation_163 rfl ?_
                        refine J_icmp_ge dX8_relation_165 (tgt := 173) (by decide) (fun c165 => ?_) (fun c165 => ?_)
                        · have c165 := jleT (a := x2) (b := x1) (by omega) (by omega) c165
                          refine J_iload dX8_relation_173 rfl ?_
                          refine J_topi (y := nI (min x1 x2)) (congrArg nI (by omega)) ?_
                          refine J_istore (lv' := [.ref (m), .int (nI (k)), .int (nI (q)), .int (relW (A1 || (rHolds w1.2 w1.1 (nI p) && rHolds w2.2 w2.1 (nI p))) (B1 || (rHolds w1.2 w1.1 (nI p) && !rHolds w2.2 w2.1 (nI p))) (C1 || (rHolds w2.2 w2.1 (nI p) && !rHolds w1.2 w1.1 (nI p)))), .int (nI (min x1 x2)), .int (jb (rHolds w1.2 w1.1 (nI (p)))), .int (jb (rHolds w2.2 w2.1 (nI (p)))), .int (nI (x1)), .int (nI (x2))]) dX8_relation_175 (by decide) rfl rfl ?_
                          refine J_goto (tgt := 54) dX8_relation_177 (by decide) ?_
                          refine J_fg 5 (lv' := [.ref (m), .int (nI (k)), .int (nI (q)), .int (relW (A1 || (rHolds w1.2 w1.1 (nI p) && rHolds w2.2 w2.1 (nI p))) (B1 || (rHolds w1.2 w1.1 (nI p) && !rHolds w2.2 w2.1 (nI p))) (C1 || (rHolds w2.2 w2.1 (nI p) && !rHolds w1.2 w1.1 (nI p)))), .int (nI (min x1 x2)), .float 0, .int (jb (rHolds w2.2 w2.1 (nI (p)))), .int (nI (x1)), .int (nI (x2))]) rfl ?_
                          refine J_fg 6 (lv' := [.ref (m), .int (nI (k)), .int (nI (q)), .int (relW (A1 || (rHolds w1.2 w1.1 (nI p) && rHolds w2.2 w2.1 (nI p))) (B1 || (rHolds w1.2 w1.1 (nI p) && !rHolds w2.2 w2.1 (nI p))) (C1 || (rHolds w2.2 w2.1 (nI p) && !rHolds w1.2 w1.1 (nI p)))), .int (nI (min x1 x2)), .float 0, .float 0, .int (nI (x1)), .int (nI (x2))]) rfl ?_
                          refine J_fg 7 (lv' := [.ref (m), .int (nI (k)), .int (nI (q)), .int (relW (A1 || (rHolds w1.2 w1.1 (nI p) && rHolds w2.2 w2.1 (nI p))) (B1 || (rHolds w1.2 w1.1 (nI p) && !rHolds w2.2 w2.1 (nI p))) (C1 || (rHolds w2.2 w2.1 (nI p) && !rHolds w1.2 w1.1 (nI p)))), .int (nI (min x1 x2)), .float 0, .float 0, .float 0, .int (nI (x2))]) rfl ?_
                          refine J_fg 8 (lv' := [.ref (m), .int (nI (k)), .int (nI (q)), .int (relW (A1 || (rHolds w1.2 w1.1 (nI p) && rHolds w2.2 w2.1 (nI p))) (B1 || (rHolds w1.2 w1.1 (nI p) && !rHolds w2.2 w2.1 (nI p))) (C1 || (rHolds w2.2 w2.1 (nI p) && !rHolds w1.2 w1.1 (nI p)))), .int (nI (min x1 x2)), .float 0, .float 0, .float 0, .float 0]) rfl ?_
                          exact ih54 (z9) (min x1 x2) ((A1 || (rHolds w1.2 w1.1 (nI p) && rHolds w2.2 w2.1 (nI p)))) ((B1 || (rHolds w1.2 w1.1 (nI p) && !rHolds w2.2 w2.1 (nI p)))) ((C1 || (rHolds w2.2 w2.1 (nI p) && !rHolds w1.2 w1.1 (nI p)))) (xs88) (by exact hI.s hw1 hw2 hp9 hnx (by omega)) (by omega)
                        · have c165 := jleF (a := x2) (b := x1) (by omega) (by omega) c165
                          refine J_iload dX8_relation_168 rfl ?_
                          refine J_goto (tgt := 175) dX8_relation_170 (by decide) ?_
                          refine J_topi (y := nI (min x1 x2)) (congrArg nI (by omega)) ?_
                          refine J_istore (lv' := [.ref (m), .int (nI (k)), .int (nI (q)), .int (relW (A1 || (rHolds w1.2 w1.1 (nI p) && rHolds w2.2 w2.1 (nI p))) (B1 || (rHolds w1.2 w1.1 (nI p) && !rHolds w2.2 w2.1 (nI p))) (C1 || (rHolds w2.2 w2.1 (nI p) && !rHolds w1.2 w1.1 (nI p)))), .int (nI (min x1 x2)), .int (jb (rHolds w1.2 w1.1 (nI (p)))), .int (jb (rHolds w2.2 w2.1 (nI (p)))), .int (nI (x1)), .int (nI (x2))]) dX8_relation_175 (by decide) rfl rfl ?_
                          refine J_goto (tgt := 54) dX8_relation_177 (by decide) ?_
                          refine J_fg 5 (lv' := [.ref (m), .int (nI (k)), .int (nI (q)), .int (relW (A1 || (rHolds w1.2 w1.1 (nI p) && rHolds w2.2 w2.1 (nI p))) (B1 || (rHolds w1.2 w1.1 (nI p) && !rHolds w2.2 w2.1 (nI p))) (C1 || (rHolds w2.2 w2.1 (nI p) && !rHolds w1.2 w1.1 (nI p)))), .int (nI (min x1 x2)), .float 0, .int (jb (rHolds w2.2 w2.1 (nI (p)))), .int (nI (x1)), .int (nI (x2))]) rfl ?_
                          refine J_fg 6 (lv' := [.ref (m), .int (nI (k)), .int (nI (q)), .int (relW (A1 || (rHolds w1.2 w1.1 (nI p) && rHolds w2.2 w2.1 (nI p))) (B1 || (rHolds w1.2 w1.1 (nI p) && !rHolds w2.2 w2.1 (nI p))) (C1 || (rHolds w2.2 w2.1 (nI p) && !rHolds w1.2 w1.1 (nI p)))), .int (nI (min x1 x2)), .float 0, .float 0, .int (nI (x1)), .int (nI (x2))]) rfl ?_
                          refine J_fg 7 (lv' := [.ref (m), .int (nI (k)), .int (nI (q)), .int (relW (A1 || (rHolds w1.2 w1.1 (nI p) && rHolds w2.2 w2.1 (nI p))) (B1 || (rHolds w1.2 w1.1 (nI p) && !rHolds w2.2 w2.1 (nI p))) (C1 || (rHolds w2.2 w2.1 (nI p) && !rHolds w1.2 w1.1 (nI p)))), .int (nI (min x1 x2)), .float 0, .float 0, .float 0, .int (nI (x2))]) rfl ?_
                          refine J_fg 8 (lv' := [.ref (m), .int (nI (k)), .int (nI (q)), .int (relW (A1 || (rHolds w1.2 w1.1 (nI p) && rHolds w2.2 w2.1 (nI p))) (B1 || (rHolds w1.2 w1.1 (nI p) && !rHolds w2.2 w2.1 (nI p))) (C1 || (rHolds w2.2 w2.1 (nI p) && !rHolds w1.2 w1.1 (nI p)))), .int (nI (min x1 x2)), .float 0, .float 0, .float 0, .float 0]) rfl ?_
                          exact ih54 (z9) (min x1 x2) ((A1 || (rHolds w1.2 w1.1 (nI p) && rHolds w2.2 w2.1 (nI p)))) ((B1 || (rHolds w1.2 w1.1 (nI p) && !rHolds w2.2 w2.1 (nI p)))) ((C1 || (rHolds w2.2 w2.1 (nI p) && !rHolds w1.2 w1.1 (nI p)))) (xs88) (by exact hI.s hw1 hw2 hp9 hnx (by omega)) (by omega)
                    · have c111 := jb0F c111
                      refine J_iconst (x := 5) dX8_relation_114 (by decide) ?_
                      refine J_goto (tgt := 129) dX8_relation_115 (by decide) ?_
                      refine J_iand dX8_relation_129 ?_
                      refine J_topi (y := relW (A1 || (rHolds w1.2 w1.1 (nI p) && rHolds w2.2 w2.1 (nI p))) (B1 || (rHolds w1.2 w1.1 (nI p) && !rHolds w2.2 w2.1 (nI p))) (C1 || (rHolds w2.2 w2.1 (nI p) && !rHolds w1.2 w1.1 (nI p)))) (by first | exact absurd (c96.symm.trans c111) (by decide) | (rw [c96, c101]; exact relM6 _ _ _) | (rw [c111, c101]; exact relM5 _ _ _) | (rw [c111, c120]; exact relM3 _ _ _) | (rw [c111, c120]; exact relM7 _ _ _)) ?_
                      refine J_istore_n (lv' := [.ref (m), .int (nI (k)), .int (nI (q)), .int (relW (A1 || (rHolds w1.2 w1.1 (nI p) && rHolds w2.2 w2.1 (nI p))) (B1 || (rHolds w1.2 w1.1 (nI p) && !rHolds w2.2 w2.1 (nI p))) (C1 || (rHolds w2.2 w2.1 (nI p) && !rHolds w1.2 w1.1 (nI p)))), .int (nI (p)), .int (jb (rHolds w1.2 w1.1 (nI (p)))), .int (jb (rHolds w2.2 w2.1 (nI (p)))), .float 0, .float 0]) dX8_relation_130 rfl (by decide) rfl rfl ?_
                      refine J_aload_n (m) dX8_relation_131 rfl rfl ?_
                      refine J_getrs (q := m + 1) r1 dX8_relation_132 (fun _ h => List.mem_cons_of_mem _ (List.mem_append_left _ (List.mem_append_right _ (h)))) cs11 (by decide) rfl (List.mem_of_getElem? (i := 2) rfl) rfl (show m < jn M from by omega) m2 ?_
                      refine J_bipush (x := 33) dX8_relation_135 (by decide) ?_
                      refine J_iload_n dX8_relation_137 rfl rfl ?_
                      refine J_imul dX8_relation_138 ?_
                      refine J_topi (y := nI (33 * k)) (pk_mul (33) (k)) ?_
                      refine J_iload dX8_relation_139 rfl ?_
                      refine J_calli0 (jrunS (As := [.ref (m + 1), .int (nI (33 * k)), .int (nI (p))]) (ct_X8_turn l D dA hst (jSi (jSi M m 11 (0)) m 14 xs88) (m + 1) 427 (33 * k) (show m + 1 < jn M by omega) k1 z1 (by omega) (by omega) w1 (((hx1).si (by omega)).si (by omega)) (nI (p))) dX8_relation_141 yY_X8_turn gX8_relation_X8_turn rfl ⟨by omega, by omega⟩ ⟨Nat.zero_le _, Nat.zero_le _⟩ rfl (Nat.le_of_ble_eq_true rfl)) (rfl) (rfl) ?_
                      refine J_topi (y := nI (x1)) (by rw [mTurn_eq hw1]; exact e1) ?_
                      refine J_istore (lv' := [.ref (m), .int (nI (k)), .int (nI (q)), .int (relW (A1 || (rHolds w1.2 w1.1 (nI p) && rHolds w2.2 w2.1 (nI p))) (B1 || (rHolds w1.2 w1.1 (nI p) && !rHolds w2.2 w2.1 (nI p))) (C1 || (rHolds w2.2 w2.1 (nI p) && !rHolds w1.2 w1.1 (nI p)))), .int (nI (p)), .int (jb (rHolds w1.2 w1.1 (nI (p)))), .int (jb (rHolds w2.2 w2.1 (nI (p)))), .int (nI (x1)), .float 0]) dX8_relation_144 (by decide) rfl rfl ?_
                      refine J_aload_n (m) dX8_relation_146 rfl rfl ?_
                      refine J_getrs (q := m + 1) r1 dX8_relation_147 (fun _ h => List.mem_cons_of_mem _ (List.mem_append_left _ (List.mem_append_right _ (h)))) cs11 (by decide) rfl (List.mem_of_getElem? (i := 2) rfl) rfl (show m < jn M from by omega) m2 ?_
                      refine J_bipush (x := 33) dX8_relation_150 (by decide) ?_
                      refine J_iload_n dX8_relation_152 rfl rfl ?_
                      refine J_imul dX8_relation_153 ?_
                      refine J_topi (y := nI (33 * q)) (pk_mul (33) (q)) ?_
                      refine J_iload dX8_relation_154 rfl ?_
                      refine J_calli0 (jrunS (As := [.ref (m + 1), .int (nI (33 * q)), .int (nI (p))]) (ct_X8_turn l D dA hst (jSi (jSi M m 11 (0)) m 14 xs88) (m + 1) 427 (33 * q) (show m + 1 < jn M by omega) k1 z1 (by omega) (by omega) w2 (((hx2).si (by omega)).si (by omega)) (nI (p))) dX8_relation_156 yY_X8_turn gX8_relation_X8_turn rfl ⟨by omega, by omega⟩ ⟨Nat.zero_le _, Nat.zero_le _⟩ rfl (Nat.le_of_ble_eq_true rfl)) (rfl) (rfl) ?_
                      refine J_topi (y := nI (x2)) (by rw [mTurn_eq hw2]; exact e2) ?_
                      refine J_istore (lv' := [.ref (m), .int (nI (k)), .int (nI (q)), .int (relW (A1 || (rHolds w1.2 w1.1 (nI p) && rHolds w2.2 w2.1 (nI p))) (B1 || (rHolds w1.2 w1.1 (nI p) && !rHolds w2.2 w2.1 (nI p))) (C1 || (rHolds w2.2 w2.1 (nI p) && !rHolds w1.2 w1.1 (nI p)))), .int (nI (p)), .int (jb (rHolds w1.2 w1.1 (nI (p)))), .int (jb (rHolds w2.2 w2.1 (nI (p)))), .int (nI (x1)), .int (nI (x2))]) dX8_relation_159 (by decide) rfl rfl ?_
                      refine J_iload dX8_relation_161 rfl ?_
                      refine J_iload dX8_relation_163 rfl ?_
                      refine J_icmp_ge dX8_relation_165 (tgt := 173) (by decide) (fun c165 => ?_) (fun c165 => ?_)
                      · have c165 := jleT (a := x2) (b := x1) (by omega) (by omega) c165
                        refine J_iload dX8_relation_173 rfl ?_
                        refine J_topi (y := nI (min x1 x2)) (congrArg nI (by omega)) ?_
                        refine J_istore (lv' := [.ref (m), .int (nI (k)), .int (nI (q)), .int (relW (A1 || (rHolds w1.2 w1.1 (nI p) && rHolds w2.2 w2.1 (nI p))) (B1 || (rHolds w1.2 w1.1 (nI p) && !rHolds w2.2 w2.1 (nI p))) (C1 || (rHolds w2.2 w2.1 (nI p) && !rHolds w1.2 w1.1 (nI p)))), .int (nI (min x1 x2)), .int (jb (rHolds w1.2 w1.1 (nI (p)))), .int (jb (rHolds w2.2 w2.1 (nI (p)))), .int (nI (x1)), .int (nI (x2))]) dX8_relation_175 (by decide) rfl rfl ?_
                        refine J_goto (tgt := 54) dX8_relation_177 (by decide) ?_
                        refine J_fg 5 (lv' := [.ref (m), .int (nI (k)), .int (nI (q)), .int (relW (A1 || (rHolds w1.2 w1.1 (nI p) && rHolds w2.2 w2.1 (nI p))) (B1 || (rHolds w1.2 w1.1 (nI p) && !rHolds w2.2 w2.1 (nI p))) (C1 || (rHolds w2.2 w2.1 (nI p) && !rHolds w1.2 w1.1 (nI p)))), .int (nI (min x1 x2)), .float 0, .int (jb (rHolds w2.2 w2.1 (nI (p)))), .int (nI (x1)), .int (nI (x2))]) rfl ?_
                        refine J_fg 6 (lv' := [.ref (m), .int (nI (k)), .int (nI (q)), .int (relW (A1 || (rHolds w1.2 w1.1 (nI p) && rHolds w2.2 w2.1 (nI p))) (B1 || (rHolds w1.2 w1.1 (nI p) && !rHolds w2.2 w2.1 (nI p))) (C1 || (rHolds w2.2 w2.1 (nI p) && !rHolds w1.2 w1.1 (nI p)))), .int (nI (min x1 x2)), .float 0, .float 0, .int (nI (x1)), .int (nI (x2))]) rfl ?_
                        refine J_fg 7 (lv' := [.ref (m), .int (nI (k)), .int (nI (q)), .int (relW (A1 || (rHolds w1.2 w1.1 (nI p) && rHolds w2.2 w2.1 (nI p))) (B1 || (rHolds w1.2 w1.1 (nI p) && !rHolds w2.2 w2.1 (nI p))) (C1 || (rHolds w2.2 w2.1 (nI p) && !rHolds w1.2 w1.1 (nI p)))), .int (nI (min x1 x2)), .float 0, .float 0, .float 0, .int (nI (x2))]) rfl ?_
                        refine J_fg 8 (lv' := [.ref (m), .int (nI (k)), .int (nI (q)), .int (relW (A1 || (rHolds w1.2 w1.1 (nI p) && rHolds w2.2 w2.1 (nI p))) (B1 || (rHolds w1.2 w1.1 (nI p) && !rHolds w2.2 w2.1 (nI p))) (C1 || (rHolds w2.2 w2.1 (nI p) && !rHolds w1.2 w1.1 (nI p)))), .int (nI (min x1 x2)), .float 0, .float 0, .float 0, .float 0]) rfl ?_
                        exact ih54 (z9) (min x1 x2) ((A1 || (rHolds w1.2 w1.1 (nI p) && rHolds w2.2 w2.1 (nI p)))) ((B1 || (rHolds w1.2 w1.1 (nI p) && !rHolds w2.2 w2.1 (nI p)))) ((C1 || (rHolds w2.2 w2.1 (nI p) && !rHolds w1.2 w1.1 (nI p)))) (xs88) (by exact hI.s hw1 hw2 hp9 hnx (by omega)) (by omega)
                      · have c165 := jleF (a := x2) (b := x1) (by omega) (by omega) c165
                        refine J_iload dX8_relation_168 rfl ?_
                        refine J_goto (tgt := 175) dX8_relation_170 (by decide) ?_
                        refine J_topi (y := nI (min x1 x2)) (congrArg nI (by omega)) ?_
                        refine J_istore (lv' := [.ref (m), .int (nI (k)), .int (nI (q)), .int (relW (A1 || (rHolds w1.2 w1.1 (nI p) && rHolds w2.2 w2.1 (nI p))) (B1 || (rHolds w1.2 w1.1 (nI p) && !rHolds w2.2 w2.1 (nI p))) (C1 || (rHolds w2.2 w2.1 (nI p) && !rHolds w1.2 w1.1 (nI p)))), .int (nI (min x1 x2)), .int (jb (rHolds w1.2 w1.1 (nI (p)))), .int (jb (rHolds w2.2 w2.1 (nI (p)))), .int (nI (x1)), .int (nI (x2))]) dX8_relation_175 (by decide) rfl rfl ?_
                        refine J_goto (tgt := 54) dX8_relation_177 (by decide) ?_
                        refine J_fg 5 (lv' := [.ref (m), .int (nI (k)), .int (nI (q)), .int (relW (A1 || (rHolds w1.2 w1.1 (nI p) && rHolds w2.2 w2.1 (nI p))) (B1 || (rHolds w1.2 w1.1 (nI p) && !rHolds w2.2 w2.1 (nI p))) (C1 || (rHolds w2.2 w2.1 (nI p) && !rHolds w1.2 w1.1 (nI p)))), .int (nI (min x1 x2)), .float 0, .int (jb (rHolds w2.2 w2.1 (nI (p)))), .int (nI (x1)), .int (nI (x2))]) rfl ?_
                        refine J_fg 6 (lv' := [.ref (m), .int (nI (k)), .int (nI (q)), .int (relW (A1 || (rHolds w1.2 w1.1 (nI p) && rHolds w2.2 w2.1 (nI p))) (B1 || (rHolds w1.2 w1.1 (nI p) && !rHolds w2.2 w2.1 (nI p))) (C1 || (rHolds w2.2 w2.1 (nI p) && !rHolds w1.2 w1.1 (nI p)))), .int (nI (min x1 x2)), .float 0, .float 0, .int (nI (x1)), .int (nI (x2))]) rfl ?_
                        refine J_fg 7 (lv' := [.ref (m), .int (nI (k)), .int (nI (q)), .int (relW (A1 || (rHolds w1.2 w1.1 (nI p) && rHolds w2.2 w2.1 (nI p))) (B1 || (rHolds w1.2 w1.1 (nI p) && !rHolds w2.2 w2.1 (nI p))) (C1 || (rHolds w2.2 w2.1 (nI p) && !rHolds w1.2 w1.1 (nI p)))), .int (nI (min x1 x2)), .float 0, .float 0, .float 0, .int (nI (x2))]) rfl ?_
                        refine J_fg 8 (lv' := [.ref (m), .int (nI (k)), .int (nI (q)), .int (relW (A1 || (rHolds w1.2 w1.1 (nI p) && rHolds w2.2 w2.1 (nI p))) (B1 || (rHolds w1.2 w1.1 (nI p) && !rHolds w2.2 w2.1 (nI p))) (C1 || (rHolds w2.2 w2.1 (nI p) && !rHolds w1.2 w1.1 (nI p)))), .int (nI (min x1 x2)), .float 0, .float 0, .float 0, .float 0]) rfl ?_
                        exact ih54 (z9) (min x1 x2) ((A1 || (rHolds w1.2 w1.1 (nI p) && rHolds w2.2 w2.1 (nI p)))) ((B1 || (rHolds w1.2 w1.1 (nI p) && !rHolds w2.2 w2.1 (nI p)))) ((C1 || (rHolds w2.2 w2.1 (nI p) && !rHolds w1.2 w1.1 (nI p)))) (xs88) (by exact hI.s hw1 hw2 hp9 hnx (by omega)) (by omega)
                  · have c96 := jb0F c96
                    refine J_iload dX8_relation_99 rfl ?_
                    refine J_if_eq dX8_relation_101 (tgt := 109) (by decide) (fun c101 => ?_) (fun c101 => ?_)
                    · have c101 := jb0T c101
                      refine J_iload dX8_relation_109 rfl ?_
                      refine J_if_eq dX8_relation_111 (tgt := 118) (by decide) (fun c111 => ?_) (fun c111 => ?_)
                      · have c111 := jb0T c111
                        refine J_iload dX8_relation_118 rfl ?_
                        refine J_if_eq dX8_relation_120 (tgt := 127) (by decide) (fun c120 => ?_) (fun c120 => ?_)
                        · have c120 := jb0T c120
                          refine J_bipush (x := 7) dX8_relation_127 (by decide) ?_
                          refine J_iand dX8_relation_129 ?_
                          refine J_topi (y := relW (A1 || (rHolds w1.2 w1.1 (nI p) && rHolds w2.2 w2.1 (nI p))) (B1 || (rHolds w1.2 w1.1 (nI p) && !rHolds w2.2 w2.1 (nI p))) (C1 || (rHolds w2.2 w2.1 (nI p) && !rHolds w1.2 w1.1 (nI p)))) (by first | exact absurd (c96.symm.trans c111) (by decide) | (rw [c96, c101]; exact relM6 _ _ _) | (rw [c111, c101]; exact relM5 _ _ _) | (rw [c111, c120]; exact relM3 _ _ _) | (rw [c111, c120]; exact relM7 _ _ _)) ?_
                          refine J_istore_n (lv' := [.ref (m), .int (nI (k)), .int (nI (q)), .int (relW (A1 || (rHolds w1.2 w1.1 (nI p) && rHolds w2.2 w2.1 (nI p))) (B1 || (rHolds w1.2 w1.1 (nI p) && !rHolds w2.2 w2.1 (nI p))) (C1 || (rHolds w2.2 w2.1 (nI p) && !rHolds w1.2 w1.1 (nI p)))), .int (nI (p)), .int (jb (rHolds w1.2 w1.1 (nI (p)))), .int (jb (rHolds w2.2 w2.1 (nI (p)))), .float 0, .float 0]) dX8_relation_130 rfl (by decide) rfl rfl ?_
                          refine J_aload_n (m) dX8_relation_131 rfl rfl ?_
                          refine J_getrs (q := m + 1) r1 dX8_relation_132 (fun _ h => List.mem_cons_of_mem _ (List.mem_append_left _ (List.mem_append_right _ (h)))) cs11 (by decide) rfl (List.mem_of_getElem? (i := 2) rfl) rfl (show m < jn M from by omega) m2 ?_
                          refine J_bipush (x := 33) dX8_relation_135 (by decide) ?_
                          refine J_iload_n dX8_relation_137 rfl rfl ?_
                          refine J_imul dX8_relation_138 ?_
                          refine J_topi (y := nI (33 * k)) (pk_mul (33) (k)) ?_
                          refine J_iload dX8_relation_139 rfl ?_
                          refine J_calli0 (jrunS (As := [.ref (m + 1), .int (nI (33 * k)), .int (nI (p))]) (ct_X8_turn l D dA hst (jSi (jSi M m 11 (0)) m 14 xs88) (m + 1) 427 (33 * k) (show m + 1 < jn M by omega) k1 z1 (by omega) (by omega) w1 (((hx1).si (by omega)).si (by omega)) (nI (p))) dX8_relation_141 yY_X8_turn gX8_relation_X8_turn rfl ⟨by omega, by omega⟩ ⟨Nat.zero_le _, Nat.zero_le _⟩ rfl (Nat.le_of_ble_eq_true rfl)) (rfl) (rfl) ?_
                          refine J_topi (y := nI (x1)) (by rw [mTurn_eq hw1]; exact e1) ?_
                          refine J_istore (lv' := [.ref (m), .int (nI (k)), .int (nI (q)), .int (relW (A1 || (rHolds w1.2 w1.1 (nI p) && rHolds w2.2 w2.1 (nI p))) (B1 || (rHolds w1.2 w1.1 (nI p) && !rHolds w2.2 w2.1 (nI p))) (C1 || (rHolds w2.2 w2.1 (nI p) && !rHolds w1.2 w1.1 (nI p)))), .int (nI (p)), .int (jb (rHolds w1.2 w1.1 (nI (p)))), .int (jb (rHolds w2.2 w2.1 (nI (p)))), .int (nI (x1)), .float 0]) dX8_relation_144 (by decide) rfl rfl ?_
                          refine J_aload_n (m) dX8_relation_146 rfl rfl ?_
                          refine J_getrs (q := m + 1) r1 dX8_relation_147 (fun _ h => List.mem_cons_of_mem _ (List.mem_append_left _ (List.mem_append_right _ (h)))) cs11 (by decide) rfl (List.mem_of_getElem? (i := 2) rfl) rfl (show m < jn M from by omega) m2 ?_
                          refine J_bipush (x := 33) dX8_relation_150 (by decide) ?_
                          refine J_iload_n dX8_relation_152 rfl rfl ?_
                          refine J_imul dX8_relation_153 ?_
                          refine J_topi (y := nI (33 * q)) (pk_mul (33) (q)) ?_
                          refine J_iload dX8_relation_154 rfl ?_
                          refine J_calli0 (jrunS (As := [.ref (m + 1), .int (nI (33 * q)), .int (nI (p))]) (ct_X8_turn l D dA hst (jSi (jSi M m 11 (0)) m 14 xs88) (m + 1) 427 (33 * q) (show m + 1 < jn M by omega) k1 z1 (by omega) (by omega) w2 (((hx2).si (by omega)).si (by omega)) (nI (p))) dX8_relation_156 yY_X8_turn gX8_relation_X8_turn rfl ⟨by omega, by omega⟩ ⟨Nat.zero_le _, Nat.zero_le _⟩ rfl (Nat.le_of_ble_eq_true rfl)) (rfl) (rfl) ?_
                          refine J_topi (y := nI (x2)) (by rw [mTurn_eq hw2]; exact e2) ?_
                          refine J_istore (lv' := [.ref (m), .int (nI (k)), .int (nI (q)), .int (relW (A1 || (rHolds w1.2 w1.1 (nI p) && rHolds w2.2 w2.1 (nI p))) (B1 || (rHolds w1.2 w1.1 (nI p) && !rHolds w2.2 w2.1 (nI p))) (C1 || (rHolds w2.2 w2.1 (nI p) && !rHolds w1.2 w1.1 (nI p)))), .int (nI (p)), .int (jb (rHolds w1.2 w1.1 (nI (p)))), .int (jb (rHolds w2.2 w2.1 (nI (p)))), .int (nI (x1)), .int (nI (x2))]) dX8_relation_159 (by decide) rfl rfl ?_
                          refine J_iload dX8_relation_161 rfl ?_
                          refine J_iload dX8_relation_163 rfl ?_
                          refine J_icmp_ge dX8_relation_165 (tgt := 173) (by decide) (fun c165 => ?_) (fun c165 => ?_)
                          · have c165 := jleT (a := x2) (b := x1) (by omega) (by omega) c165
                            refine J_iload dX8_relation_173 rfl ?_
                            refine J_topi (y := nI (min x1 x2)) (congrArg nI (by omega)) ?_
                            refine J_istore (lv' := [.ref (m), .int (nI (k)), .int (nI (q)), .int (relW (A1 || (rHolds w1.2 w1.1 (nI p) && rHolds w2.2 w2.1 (nI p))) (B1 || (rHolds w1.2 w1.1 (nI p) && !rHolds w2.2 w2.1 (nI p))) (C1 || (rHolds w2.2 w2.1 (nI p) && !rHolds w1.2 w1.1 (nI p)))), .int (nI (min x1 x2)), .int (jb (rHolds w1.2 w1.1 (nI (p)))), .int (jb (rHolds w2.2 w2.1 (nI (p)))), .int (nI (x1)), .int (nI (x2))]) dX8_relation_175 (by decide) rfl rfl ?_
                            refine J_goto (tgt := 54) dX8_relation_177 (by decide) ?_
                            refine J_fg 5 (lv' := [.ref (m), .int (nI (k)), .int (nI (q)), .int (relW (A1 || (rHolds w1.2 w1.1 (nI p) && rHolds w2.2 w2.1 (nI p))) (B1 || (rHolds w1.2 w1.1 (nI p) && !rHolds w2.2 w2.1 (nI p))) (C1 || (rHolds w2.2 w2.1 (nI p) && !rHolds w1.2 w1.1 (nI p)))), .int (nI (min x1 x2)), .float 0, .int (jb (rHolds w2.2 w2.1 (nI (p)))), .int (nI (x1)), .int (nI (x2))]) rfl ?_
                            refine J_fg 6 (lv' := [.ref (m), .int (nI (k)), .int (nI (q)), .int (relW (A1 || (rHolds w1.2 w1.1 (nI p) && rHolds w2.2 w2.1 (nI p))) (B1 || (rHolds w1.2 w1.1 (nI p) && !rHolds w2.2 w2.1 (nI p))) (C1 || (rHolds w2.2 w2.1 (nI p) && !rHolds w1.2 w1.1 (nI p)))), .int (nI (min x1 x2)), .float 0, .float 0, .int (nI (x1)), .int (nI (x2))]) rfl ?_
                            refine J_fg 7 (lv' := [.ref (m), .int (nI (k)), .int (nI (q)), .int (relW (A1 || (rHolds w1.2 w1.1 (nI p) && rHolds w2.2 w2.1 (nI p))) (B1 || (rHolds w1.2 w1.1 (nI p) && !rHolds w2.2 w2.1 (nI p))) (C1 || (rHolds w2.2 w2.1 (nI p) && !rHolds w1.2 w1.1 (nI p)))), .int (nI (min x1 x2)), .float 0, .float 0, .float 0, .int (nI (x2))]) rfl ?_
                            refine J_fg 8 (lv' := [.ref (m), .int (nI (k)), .int (nI (q)), .int (relW (A1 || (rHolds w1.2 w1.1 (nI p) && rHolds w2.2 w2.1 (nI p))) (B1 || (rHolds w1.2 w1.1 (nI p) && !rHolds w2.2 w2.1 (nI p))) (C1 || (rHolds w2.2 w2.1 (nI p) && !rHolds w1.2 w1.1 (nI p)))), .int (nI (min x1 x2)), .float 0, .float 0, .float 0, .float 0]) rfl ?_
                            exact ih54 (z9) (min x1 x2) ((A1 || (rHolds w1.2 w1.1 (nI p) && rHolds w2.2 w2.1 (nI p)))) ((B1 || (rHolds w1.2 w1.1 (nI p) && !rHolds w2.2 w2.1 (nI p)))) ((C1 || (rHolds w2.2 w2.1 (nI p) && !rHolds w1.2 w1.1 (nI p)))) (xs88) (by exact hI.s hw1 hw2 hp9 hnx (by omega)) (by omega)
                          · have c165 := jleF (a := x2) (b := x1) (by omega) (by omega) c165
                            refine J_iload dX8_relation_168 rfl ?_
                            refine J_goto (tgt := 175) dX8_relation_170 (by decide) ?_
                            refine J_topi (y := nI (min x1 x2)) (congrArg nI (by omega)) ?_
                            refine J_istore (lv' := [.ref (m), .int (nI (k)), .int (nI (q)), .int (relW (A1 || (rHolds w1.2 w1.1 (nI p) && rHolds w2.2 w2.1 (nI p))) (B1 || (rHolds w1.2 w1.1 (nI p) && !rHolds w2.2 w2.1 (nI p))) (C1 || (rHolds w2.2 w2.1 (nI p) && !rHolds w1.2 w1.1 (nI p)))), .int (nI (min x1 x2)), .int (jb (rHolds w1.2 w1.1 (nI (p)))), .int (jb (rHolds w2.2 w2.1 (nI (p)))), .int (nI (x1)), .int (nI (x2))]) dX8_relation_175 (by decide) rfl rfl ?_
                            refine J_goto (tgt := 54) dX8_relation_177 (by decide) ?_
                            refine J_fg 5 (lv' := [.ref (m), .int (nI (k)), .int (nI (q)), .int (relW (A1 || (rHolds w1.2 w1.1 (nI p) && rHolds w2.2 w2.1 (nI p))) (B1 || (rHolds w1.2 w1.1 (nI p) && !rHolds w2.2 w2.1 (nI p))) (C1 || (rHolds w2.2 w2.1 (nI p) && !rHolds w1.2 w1.1 (nI p)))), .int (nI (min x1 x2)), .float 0, .int (jb (rHolds w2.2 w2.1 (nI (p)))), .int (nI (x1)), .int (nI (x2))]) rfl ?_
                            refine J_fg 6 (lv' := [.ref (m), .int (nI (k)), .int (nI (q)), .int (relW (A1 || (rHolds w1.2 w1.1 (nI p) && rHolds w2.2 w2.1 (nI p))) (B1 || (rHolds w1.2 w1.1 (nI p) && !rHolds w2.2 w2.1 (nI p))) (C1 || (rHolds w2.2 w2.1 (nI p) && !rHolds w1.2 w1.1 (nI p)))), .int (nI (min x1 x2)), .float 0, .float 0, .int (nI (x1)), .int (nI (x2))]) rfl ?_
                            refine J_fg 7 (lv' := [.ref (m), .int (nI (k)), .int (nI (q)), .int (relW (A1 || (rHolds w1.2 w1.1 (nI p) && rHolds w2.2 w2.1 (nI p))) (B1 || (rHolds w1.2 w1.1 (nI p) && !rHolds w2.2 w2.1 (nI p))) (C1 || (rHolds w2.2 w2.1 (nI p) && !rHolds w1.2 w1.1 (nI p)))), .int (nI (min x1 x2)), .float 0, .float 0, .float 0, .int (nI (x2))]) rfl ?_
                            refine J_fg 8 (lv' := [.ref (m), .int (nI (k)), .int (nI (q)), .int (relW (A1 || (rHolds w1.2 w1.1 (nI p) && rHolds w2.2 w2.1 (nI p))) (B1 || (rHolds w1.2 w1.1 (nI p) && !rHolds w2.2 w2.1 (nI p))) (C1 || (rHolds w2.2 w2.1 (nI p) && !rHolds w1.2 w1.1 (nI p)))), .int (nI (min x1 x2)), .float 0, .float 0, .float 0, .float 0]) rfl ?_
                            exact ih54 (z9) (min x1 x2) ((A1 || (rHolds w1.2 w1.1 (nI p) && rHolds w2.2 w2.1 (nI p)))) ((B1 || (rHolds w1.2 w1.1 (nI p) && !rHolds w2.2 w2.1 (nI p)))) ((C1 || (rHolds w2.2 w2.1 (nI p) && !rHolds w1.2 w1.1 (nI p)))) (xs88) (by exact hI.s hw1 hw2 hp9 hnx (by omega)) (by omega)
                        · have c120 := jb0F c120
                          refine J_iconst (x := 3) dX8_relation_123 (by decide) ?_
                          refine J_goto (tgt := 129) dX8_relation_124 (by decide) ?_
                          refine J_iand dX8_relation_129 ?_
                          refine J_topi (y := relW (A1 || (rHolds w1.2 w1.1 (nI p) && rHolds w2.2 w2.1 (nI p))) (B1 || (rHolds w1.2 w1.1 (nI p) && !rHolds w2.2 w2.1 (nI p))) (C1 || (rHolds w2.2 w2.1 (nI p) && !rHolds w1.2 w1.1 (nI p)))) (by first | exact absurd (c96.symm.trans c111) (by decide) | (rw [c96, c101]; exact relM6 _ _ _) | (rw [c111, c101]; exact relM5 _ _ _) | (rw [c111, c120]; exact relM3 _ _ _) | (rw [c111, c120]; exact relM7 _ _ _)) ?_
                          refine J_istore_n (lv' := [.ref (m), .int (nI (k)), .int (nI (q)), .int (relW (A1 || (rHolds w1.2 w1.1 (nI p) && rHolds w2.2 w2.1 (nI p))) (B1 || (rHolds w1.2 w1.1 (nI p) && !rHolds w2.2 w2.1 (nI p))) (C1 || (rHolds w2.2 w2.1 (nI p) && !rHolds w1.2 w1.1 (nI p)))), .int (nI (p)), .int (jb (rHolds w1.2 w1.1 (nI (p)))), .int (jb (rHolds w2.2 w2.1 (nI (p)))), .float 0, .float 0]) dX8_relation_130 rfl (by decide) rfl rfl ?_
                          refine J_aload_n (m) dX8_relation_131 rfl rfl ?_
                          refine J_getrs (q := m + 1) r1 dX8_relation_132 (fun _ h => List.mem_cons_of_mem _ (List.mem_append_left _ (List.mem_append_right _ (h)))) cs11 (by decide) rfl (List.mem_of_getElem? (i := 2) rfl) rfl (show m < jn M from by omega) m2 ?_
                          refine J_bipush (x := 33) dX8_relation_135 (by decide) ?_
                          refine J_iload_n dX8_relation_137 rfl rfl ?_
                          refine J_imul dX8_relation_138 ?_
                          refine J_topi (y := nI (33 * k)) (pk_mul (33) (k)) ?_
                          refine J_iload dX8_relation_139 rfl ?_
                          refine J_calli0 (jrunS (As := [.ref (m + 1), .int (nI (33 * k)), .int (nI (p))]) (ct_X8_turn l D dA hst (jSi (jSi M m 11 (0)) m 14 xs88) (m + 1) 427 (33 * k) (show m + 1 < jn M by omega) k1 z1 (by omega) (by omega) w1 (((hx1).si (by omega)).si (by omega)) (nI (p))) dX8_relation_141 yY_X8_turn gX8_relation_X8_turn rfl ⟨by omega, by omega⟩ ⟨Nat.zero_le _, Nat.zero_le _⟩ rfl (Nat.le_of_ble_eq_true rfl)) (rfl) (rfl) ?_
                          refine J_topi (y := nI (x1)) (by rw [mTurn_eq hw1]; exact e1) ?_
                          refine J_istore (lv' := [.ref (m), .int (nI (k)), .int (nI (q)), .int (relW (A1 || (rHolds w1.2 w1.1 (nI p) && rHolds w2.2 w2.1 (nI p))) (B1 || (rHolds w1.2 w1.1 (nI p) && !rHolds w2.2 w2.1 (nI p))) (C1 || (rHolds w2.2 w2.1 (nI p) && !rHolds w1.2 w1.1 (nI p)))), .int (nI (p)), .int (jb (rHolds w1.2 w1.1 (nI (p)))), .int (jb (rHolds w2.2 w2.1 (nI (p)))), .int (nI (x1)), .float 0]) dX8_relation_144 (by decide) rfl rfl ?_
                          refine J_aload_n (m) dX8_relation_146 rfl rfl ?_
                          refine J_getrs (q := m + 1) r1 dX8_relation_147 (fun _ h => List.mem_cons_of_mem _ (List.mem_append_left _ (List.mem_append_right _ (h)))) cs11 (by decide) rfl (List.mem_of_getElem? (i := 2) rfl) rfl (show m < jn M from by omega) m2 ?_
                          refine J_bipush (x := 33) dX8_relation_150 (by decide) ?_
                          refine J_iload_n dX8_relation_152 rfl rfl ?_
                          refine J_imul dX8_relation_153 ?_
                          refine J_topi (y := nI (33 * q)) (pk_mul (33) (q)) ?_
                          refine J_iload dX8_relation_154 rfl ?_
                          refine J_calli0 (jrunS (As := [.ref (m + 1), .int (nI (33 * q)), .int (nI (p))]) (ct_X8_turn l D dA hst (jSi (jSi M m 11 (0)) m 14 xs88) (m + 1) 427 (33 * q) (show m + 1 < jn M by omega) k1 z1 (by omega) (by omega) w2 (((hx2).si (by omega)).si (by omega)) (nI (p))) dX8_relation_156 yY_X8_turn gX8_relation_X8_turn rfl ⟨by omega, by omega⟩ ⟨Nat.zero_le _, Nat.zero_le _⟩ rfl (Nat.le_of_ble_eq_true rfl)) (rfl) (rfl) ?_
                          refine J_topi (y := nI (x2)) (by rw [mTurn_eq hw2]; exact e2) ?_
                          refine J_istore (lv' := [.ref (m), .int (nI (k)), .int (nI (q)), .int (relW (A1 || (rHolds w1.2 w1.1 (nI p) && rHolds w2.2 w2.1 (nI p))) (B1 || (rHolds w1.2 w1.1 (nI p) && !rHolds w2.2 w2.1 (nI p))) (C1 || (rHolds w2.2 w2.1 (nI p) && !rHolds w1.2 w1.1 (nI p)))), .int (nI (p)), .int (jb (rHolds w1.2 w1.1 (nI (p)))), .int (jb (rHolds w2.2 w2.1 (nI (p)))), .int (nI (x1)), .int (nI (x2))]) dX8_relation_159 (by decide) rfl rfl ?_
                          refine J_iload dX8_relation_161 rfl ?_
                          refine J_iload dX8_relation_163 rfl ?_
                          refine J_icmp_ge dX8_relation_165 (tgt := 173) (by decide) (fun c165 => ?_) (fun c165 => ?_)
                          · have c165 := jleT (a := x2) (b := x1) (by omega) (by omega) c165
                            refine J_iload dX8_relation_173 rfl ?_
                            refine J_topi (y := nI (min x1 x2)) (congrArg nI (by omega)) ?_
                            refine J_istore (lv' := [.ref (m), .int (nI (k)), .int (nI (q)), .int (relW (A1 || (rHolds w1.2 w1.1 (nI p) && rHolds w2.2 w2.1 (nI p))) (B1 || (rHolds w1.2 w1.1 (nI p) && !rHolds w2.2 w2.1 (nI p))) (C1 || (rHolds w2.2 w2.1 (nI p) && !rHolds w1.2 w1.1 (nI p)))), .int (nI (min x1 x2)), .int (jb (rHolds w1.2 w1.1 (nI (p)))), .int (jb (rHolds w2.2 w2.1 (nI (p)))), .int (nI (x1)), .int (nI (x2))]) dX8_relation_175 (by decide) rfl rfl ?_
                            refine J_goto (tgt := 54) dX8_relation_177 (by decide) ?_
                            refine J_fg 5 (lv' := [.ref (m), .int (nI (k)), .int (nI (q)), .int (relW (A1 || (rHolds w1.2 w1.1 (nI p) && rHolds w2.2 w2.1 (nI p))) (B1 || (rHolds w1.2 w1.1 (nI p) && !rHolds w2.2 w2.1 (nI p))) (C1 || (rHolds w2.2 w2.1 (nI p) && !rHolds w1.2 w1.1 (nI p)))), .int (nI (min x1 x2)), .float 0, .int (jb (rHolds w2.2 w2.1 (nI (p)))), .int (nI (x1)), .int (nI (x2))]) rfl ?_
                            refine J_fg 6 (lv' := [.ref (m), .int (nI (k)), .int (nI (q)), .int (relW (A1 || (rHolds w1.2 w1.1 (nI p) && rHolds w2.2 w2.1 (nI p))) (B1 || (rHolds w1.2 w1.1 (nI p) && !rHolds w2.2 w2.1 (nI p))) (C1 || (rHolds w2.2 w2.1 (nI p) && !rHolds w1.2 w1.1 (nI p)))), .int (nI (min x1 x2)), .float 0, .float 0, .int (nI (x1)), .int (nI (x2))]) rfl ?_
                            refine J_fg 7 (lv' := [.ref (m), .int (nI (k)), .int (nI (q)), .int (relW (A1 || (rHolds w1.2 w1.1 (nI p) && rHolds w2.2 w2.1 (nI p))) (B1 || (rHolds w1.2 w1.1 (nI p) && !rHolds w2.2 w2.1 (nI p))) (C1 || (rHolds w2.2 w2.1 (nI p) && !rHolds w1.2 w1.1 (nI p)))), .int (nI (min x1 x2)), .float 0, .float 0, .float 0, .int (nI (x2))]) rfl ?_
                            refine J_fg 8 (lv' := [.ref (m), .int (nI (k)), .int (nI (q)), .int (relW (A1 || (rHolds w1.2 w1.1 (nI p) && rHolds w2.2 w2.1 (nI p))) (B1 || (rHolds w1.2 w1.1 (nI p) && !rHolds w2.2 w2.1 (nI p))) (C1 || (rHolds w2.2 w2.1 (nI p) && !rHolds w1.2 w1.1 (nI p)))), .int (nI (min x1 x2)), .float 0, .float 0, .float 0, .float 0]) rfl ?_
                            exact ih54 (z9) (min x1 x2) ((A1 || (rHolds w1.2 w1.1 (nI p) && rHolds w2.2 w2.1 (nI p)))) ((B1 || (rHolds w1.2 w1.1 (nI p) && !rHolds w2.2 w2.1 (nI p)))) ((C1 || (rHolds w2.2 w2.1 (nI p) && !rHolds w1.2 w1.1 (nI p)))) (xs88) (by exact hI.s hw1 hw2 hp9 hnx (by omega)) (by omega)
                          · have c165 := jleF (a := x2) (b := x1) (by omega) (by omega) c165
                            refine J_iload dX8_relation_168 rfl ?_
                            refine J_goto (tgt := 175) dX8_relation_170 (by decide) ?_
                            refine J_topi (y := nI (min x1 x2)) (congrArg nI (by omega)) ?_
                            refine J_istore (lv' := [.ref (m), .int (nI (k)), .int (nI (q)), .int (relW (A1 || (rHolds w1.2 w1.1 (nI p) && rHolds w2.2 w2.1 (nI p))) (B1 || (rHolds w1.2 w1.1 (nI p) && !rHolds w2.2 w2.1 (nI p))) (C1 || (rHolds w2.2 w2.1 (nI p) && !rHolds w1.2 w1.1 (nI p)))), .int (nI (min x1 x2)), .int (jb (rHolds w1.2 w1.1 (nI (p)))), .int (jb (rHolds w2.2 w2.1 (nI (p)))), .int (nI (x1)), .int (nI (x2))]) dX8_relation_175 (by decide) rfl rfl ?_
                            refine J_goto (tgt := 54) dX8_relation_177 (by decide) ?_
                            refine J_fg 5 (lv' := [.ref (m), .int (nI (k)), .int (nI (q)), .int (relW (A1 || (rHolds w1.2 w1.1 (nI p) && rHolds w2.2 w2.1 (nI p))) (B1 || (rHolds w1.2 w1.1 (nI p) && !rHolds w2.2 w2.1 (nI p))) (C1 || (rHolds w2.2 w2.1 (nI p) && !rHolds w1.2 w1.1 (nI p)))), .int (nI (min x1 x2)), .float 0, .int (jb (rHolds w2.2 w2.1 (nI (p)))), .int (nI (x1)), .int (nI (x2))]) rfl ?_
                            refine J_fg 6 (lv' := [.ref (m), .int (nI (k)), .int (nI (q)), .int (relW (A1 || (rHolds w1.2 w1.1 (nI p) && rHolds w2.2 w2.1 (nI p))) (B1 || (rHolds w1.2 w1.1 (nI p) && !rHolds w2.2 w2.1 (nI p))) (C1 || (rHolds w2.2 w2.1 (nI p) && !rHolds w1.2 w1.1 (nI p)))), .int (nI (min x1 x2)), .float 0, .float 0, .int (nI (x1)), .int (nI (x2))]) rfl ?_
                            refine J_fg 7 (lv' := [.ref (m), .int (nI (k)), .int (nI (q)), .int (relW (A1 || (rHolds w1.2 w1.1 (nI p) && rHolds w2.2 w2.1 (nI p))) (B1 || (rHolds w1.2 w1.1 (nI p) && !rHolds w2.2 w2.1 (nI p))) (C1 || (rHolds w2.2 w2.1 (nI p) && !rHolds w1.2 w1.1 (nI p)))), .int (nI (min x1 x2)), .float 0, .float 0, .float 0, .int (nI (x2))]) rfl ?_
                            refine J_fg 8 (lv' := [.ref (m), .int (nI (k)), .int (nI (q)), .int (relW (A1 || (rHolds w1.2 w1.1 (nI p) && rHolds w2.2 w2.1 (nI p))) (B1 || (rHolds w1.2 w1.1 (nI p) && !rHolds w2.2 w2.1 (nI p))) (C1 || (rHolds w2.2 w2.1 (nI p) && !rHolds w1.2 w1.1 (nI p)))), .int (nI (min x1 x2)), .float 0, .float 0, .float 0, .float 0]) rfl ?_
                            exact ih54 (z9) (min x1 x2) ((A1 || (rHolds w1.2 w1.1 (nI p) && rHolds w2.2 w2.1 (nI p)))) ((B1 || (rHolds w1.2 w1.1 (nI p) && !rHolds w2.2 w2.1 (nI p)))) ((C1 || (rHolds w2.2 w2.1 (nI p) && !rHolds w1.2 w1.1 (nI p)))) (xs88) (by exact hI.s hw1 hw2 hp9 hnx (by omega)) (by omega)
                      · have c111 := jb0F c111
                        refine J_iconst (x := 5) dX8_relation_114 (by decide) ?_
                        refine J_goto (tgt := 129) dX8_relation_115 (by decide) ?_
                        refine J_iand dX8_relation_129 ?_
                        refine J_topi (y := relW (A1 || (rHolds w1.2 w1.1 (nI p) && rHolds w2.2 w2.1 (nI p))) (B1 || (rHolds w1.2 w1.1 (nI p) && !rHolds w2.2 w2.1 (nI p))) (C1 || (rHolds w2.2 w2.1 (nI p) && !rHolds w1.2 w1.1 (nI p)))) (by first | exact absurd (c96.symm.trans c111) (by decide) | (rw [c96, c101]; exact relM6 _ _ _) | (rw [c111, c101]; exact relM5 _ _ _) | (rw [c111, c120]; exact relM3 _ _ _) | (rw [c111, c120]; exact relM7 _ _ _)) ?_
                        refine J_istore_n (lv' := [.ref (m), .int (nI (k)), .int (nI (q)), .int (relW (A1 || (rHolds w1.2 w1.1 (nI p) && rHolds w2.2 w2.1 (nI p))) (B1 || (rHolds w1.2 w1.1 (nI p) && !rHolds w2.2 w2.1 (nI p))) (C1 || (rHolds w2.2 w2.1 (nI p) && !rHolds w1.2 w1.1 (nI p)))), .int (nI (p)), .int (jb (rHolds w1.2 w1.1 (nI (p)))), .int (jb (rHolds w2.2 w2.1 (nI (p)))), .float 0, .float 0]) dX8_relation_130 rfl (by decide) rfl rfl ?_
                        refine J_aload_n (m) dX8_relation_131 rfl rfl ?_
                        refine J_getrs (q := m + 1) r1 dX8_relation_132 (fun _ h => List.mem_cons_of_mem _ (List.mem_append_left _ (List.mem_append_right _ (h)))) cs11 (by decide) rfl (List.mem_of_getElem? (i := 2) rfl) rfl (show m < jn M from by omega) m2 ?_
                        refine J_bipush (x := 33) dX8_relation_135 (by decide) ?_
                        refine J_iload_n dX8_relation_137 rfl rfl ?_
                        refine J_imul dX8_relation_138 ?_
                        refine J_topi (y := nI (33 * k)) (pk_mul (33) (k)) ?_
                        refine J_iload dX8_relation_139 rfl ?_
                        refine J_calli0 (jrunS (As := [.ref (m + 1), .int (nI (33 * k)), .int (nI (p))]) (ct_X8_turn l D dA hst (jSi (jSi M m 11 (0)) m 14 xs88) (m + 1) 427 (33 * k) (show m + 1 < jn M by omega) k1 z1 (by omega) (by omega) w1 (((hx1).si (by omega)).si (by omega)) (nI (p))) dX8_relation_141 yY_X8_turn gX8_relation_X8_turn rfl ⟨by omega, by omega⟩ ⟨Nat.zero_le _, Nat.zero_le _⟩ rfl (Nat.le_of_ble_eq_true rfl)) (rfl) (rfl) ?_
                        refine J_topi (y := nI (x1)) (by rw [mTurn_eq hw1]; exact e1) ?_
                        refine J_istore (lv' := [.ref (m), .int (nI (k)), .int (nI (q)), .int (relW (A1 || (rHolds w1.2 w1.1 (nI p) && rHolds w2.2 w2.1 (nI p))) (B1 || (rHolds w1.2 w1.1 (nI p) && !rHolds w2.2 w2.1 (nI p))) (C1 || (rHolds w2.2 w2.1 (nI p) && !rHolds w1.2 w1.1 (nI p)))), .int (nI (p)), .int (jb (rHolds w1.2 w1.1 (nI (p)))), .int (jb (rHolds w2.2 w2.1 (nI (p)))), .int (nI (x1)), .float 0]) dX8_relation_144 (by decide) rfl rfl ?_
                        refine J_aload_n (m) dX8_relation_146 rfl rfl ?_
                        refine J_getrs (q := m + 1) r1 dX8_relation_147 (fun _ h => List.mem_cons_of_mem _ (List.mem_append_left _ (List.mem_append_right _ (h)))) cs11 (by decide) rfl (List.mem_of_getElem? (i := 2) rfl) rfl (show m < jn M from by omega) m2 ?_
                        refine J_bipush (x := 33) dX8_relation_150 (by decide) ?_
                        refine J_iload_n dX8_relation_152 rfl rfl ?_
                        refine J_imul dX8_relation_153 ?_
                        refine J_topi (y := nI (33 * q)) (pk_mul (33) (q)) ?_
                        refine J_iload dX8_relation_154 rfl ?_
                        refine J_calli0 (jrunS (As := [.ref (m + 1), .int (nI (33 * q)), .int (nI (p))]) (ct_X8_turn l D dA hst (jSi (jSi M m 11 (0)) m 14 xs88) (m + 1) 427 (33 * q) (show m + 1 < jn M by omega) k1 z1 (by omega) (by omega) w2 (((hx2).si (by omega)).si (by omega)) (nI (p))) dX8_relation_156 yY_X8_turn gX8_relation_X8_turn rfl ⟨by omega, by omega⟩ ⟨Nat.zero_le _, Nat.zero_le _⟩ rfl (Nat.le_of_ble_eq_true rfl)) (rfl) (rfl) ?_
                        refine J_topi (y := nI (x2)) (by rw [mTurn_eq hw2]; exact e2) ?_
                        refine J_istore (lv' := [.ref (m), .int (nI (k)), .int (nI (q)), .int (relW (A1 || (rHolds w1.2 w1.1 (nI p) && rHolds w2.2 w2.1 (nI p))) (B1 || (rHolds w1.2 w1.1 (nI p) && !rHolds w2.2 w2.1 (nI p))) (C1 || (rHolds w2.2 w2.1 (nI p) && !rHolds w1.2 w1.1 (nI p)))), .int (nI (p)), .int (jb (rHolds w1.2 w1.1 (nI (p)))), .int (jb (rHolds w2.2 w2.1 (nI (p)))), .int (nI (x1)), .int (nI (x2))]) dX8_relation_159 (by decide) rfl rfl ?_
                        refine J_iload dX8_relation_161 rfl ?_
                        refine J_iload dX8_relation_163 rfl ?_
                        refine J_icmp_ge dX8_relation_165 (tgt := 173) (by decide) (fun c165 => ?_) (fun c165 => ?_)
                        · have c165 := jleT (a := x2) (b := x1) (by omega) (by omega) c165
                          refine J_iload dX8_relation_173 rfl ?_
                          refine J_topi (y := nI (min x1 x2)) (congrArg nI (by omega)) ?_
                          refine J_istore (lv' := [.ref (m), .int (nI (k)), .int (nI (q)), .int (relW (A1 || (rHolds w1.2 w1.1 (nI p) && rHolds w2.2 w2.1 (nI p))) (B1 || (rHolds w1.2 w1.1 (nI p) && !rHolds w2.2 w2.1 (nI p))) (C1 || (rHolds w2.2 w2.1 (nI p) && !rHolds w1.2 w1.1 (nI p)))), .int (nI (min x1 x2)), .int (jb (rHolds w1.2 w1.1 (nI (p)))), .int (jb (rHolds w2.2 w2.1 (nI (p)))), .int (nI (x1)), .int (nI (x2))]) dX8_relation_175 (by decide) rfl rfl ?_
                          refine J_goto (tgt := 54) dX8_relation_177 (by decide) ?_
                          refine J_fg 5 (lv' := [.ref (m), .int (nI (k)), .int (nI (q)), .int (relW (A1 || (rHolds w1.2 w1.1 (nI p) && rHolds w2.2 w2.1 (nI p))) (B1 || (rHolds w1.2 w1.1 (nI p) && !rHolds w2.2 w2.1 (nI p))) (C1 || (rHolds w2.2 w2.1 (nI p) && !rHolds w1.2 w1.1 (nI p)))), .int (nI (min x1 x2)), .float 0, .int (jb (rHolds w2.2 w2.1 (nI (p)))), .int (nI (x1)), .int (nI (x2))]) rfl ?_
                          refine J_fg 6 (lv' := [.ref (m), .int (nI (k)), .int (nI (q)), .int (relW (A1 || (rHolds w1.2 w1.1 (nI p) && rHolds w2.2 w2.1 (nI p))) (B1 || (rHolds w1.2 w1.1 (nI p) && !rHolds w2.2 w2.1 (nI p))) (C1 || (rHolds w2.2 w2.1 (nI p) && !rHolds w1.2 w1.1 (nI p)))), .int (nI (min x1 x2)), .float 0, .float 0, .int (nI (x1)), .int (nI (x2))]) rfl ?_
                          refine J_fg 7 (lv' := [.ref (m), .int (nI (k)), .int (nI (q)), .int (relW (A1 || (rHolds w1.2 w1.1 (nI p) && rHolds w2.2 w2.1 (nI p))) (B1 || (rHolds w1.2 w1.1 (nI p) && !rHolds w2.2 w2.1 (nI p))) (C1 || (rHolds w2.2 w2.1 (nI p) && !rHolds w1.2 w1.1 (nI p)))), .int (nI (min x1 x2)), .float 0, .float 0, .float 0, .int (nI (x2))]) rfl ?_
                          refine J_fg 8 (lv' := [.ref (m), .int (nI (k)), .int (nI (q)), .int (relW (A1 || (rHolds w1.2 w1.1 (nI p) && rHolds w2.2 w2.1 (nI p))) (B1 || (rHolds w1.2 w1.1 (nI p) && !rHolds w2.2 w2.1 (nI p))) (C1 || (rHolds w2.2 w2.1 (nI p) && !rHolds w1.2 w1.1 (nI p)))), .int (nI (min x1 x2)), .float 0, .float 0, .float 0, .float 0]) rfl ?_
                          exact ih54 (z9) (min x1 x2) ((A1 || (rHolds w1.2 w1.1 (nI p) && rHolds w2.2 w2.1 (nI p)))) ((B1 || (rHolds w1.2 w1.1 (nI p) && !rHolds w2.2 w2.1 (nI p)))) ((C1 || (rHolds w2.2 w2.1 (nI p) && !rHolds w1.2 w1.1 (nI p)))) (xs88) (by exact hI.s hw1 hw2 hp9 hnx (by omega)) (by omega)
                        · have c165 := jleF (a := x2) (b := x1) (by omega) (by omega) c165
                          refine J_iload dX8_relation_168 rfl ?_
                          refine J_goto (tgt := 175) dX8_relation_170 (by decide) ?_
                          refine J_topi (y := nI (min x1 x2)) (congrArg nI (by omega)) ?_
                          refine J_istore (lv' := [.ref (m), .int (nI (k)), .int (nI (q)), .int (relW (A1 || (rHolds w1.2 w1.1 (nI p) && rHolds w2.2 w2.1 (nI p))) (B1 || (rHolds w1.2 w1.1 (nI p) && !rHolds w2.2 w2.1 (nI p))) (C1 || (rHolds w2.2 w2.1 (nI p) && !rHolds w1.2 w1.1 (nI p)))), .int (nI (min x1 x2)), .int (jb (rHolds w1.2 w1.1 (nI (p)))), .int (jb (rHolds w2.2 w2.1 (nI (p)))), .int (nI (x1)), .int (nI (x2))]) dX8_relation_175 (by decide) rfl rfl ?_
                          refine J_goto (tgt := 54) dX8_relation_177 (by decide) ?_
                          refine J_fg 5 (lv' := [.ref (m), .int (nI (k)), .int (nI (q)), .int (relW (A1 || (rHolds w1.2 w1.1 (nI p) && rHolds w2.2 w2.1 (nI p))) (B1 || (rHolds w1.2 w1.1 (nI p) && !rHolds w2.2 w2.1 (nI p))) (C1 || (rHolds w2.2 w2.1 (nI p) && !rHolds w1.2 w1.1 (nI p)))), .int (nI (min x1 x2)), .float 0, .int (jb (rHolds w2.2 w2.1 (nI (p)))), .int (nI (x1)), .int (nI (x2))]) rfl ?_
                          refine J_fg 6 (lv' := [.ref (m), .int (nI (k)), .int (nI (q)), .int (relW (A1 || (rHolds w1.2 w1.1 (nI p) && rHolds w2.2 w2.1 (nI p))) (B1 || (rHolds w1.2 w1.1 (nI p) && !rHolds w2.2 w2.1 (nI p))) (C1 || (rHolds w2.2 w2.1 (nI p) && !rHolds w1.2 w1.1 (nI p)))), .int (nI (min x1 x2)), .float 0, .float 0, .int (nI (x1)), .int (nI (x2))]) rfl ?_
                          refine J_fg 7 (lv' := [.ref (m), .int (nI (k)), .int (nI (q)), .int (relW (A1 || (rHolds w1.2 w1.1 (nI p) && rHolds w2.2 w2.1 (nI p))) (B1 || (rHolds w1.2 w1.1 (nI p) && !rHolds w2.2 w2.1 (nI p))) (C1 || (rHolds w2.2 w2.1 (nI p) && !rHolds w1.2 w1.1 (nI p)))), .int (nI (min x1 x2)), .float 0, .float 0, .float 0, .int (nI (x2))]) rfl ?_
                          refine J_fg 8 (lv' := [.ref (m), .int (nI (k)), .int (nI (q)), .int (relW (A1 || (rHolds w1.2 w1.1 (nI p) && rHolds w2.2 w2.1 (nI p))) (B1 || (rHolds w1.2 w1.1 (nI p) && !rHolds w2.2 w2.1 (nI p))) (C1 || (rHolds w2.2 w2.1 (nI p) && !rHolds w1.2 w1.1 (nI p)))), .int (nI (min x1 x2)), .float 0, .float 0, .float 0, .float 0]) rfl ?_
                          exact ih54 (z9) (min x1 x2) ((A1 || (rHolds w1.2 w1.1 (nI p) && rHolds w2.2 w2.1 (nI p)))) ((B1 || (rHolds w1.2 w1.1 (nI p) && !rHolds w2.2 w2.1 (nI p)))) ((C1 || (rHolds w2.2 w2.1 (nI p) && !rHolds w1.2 w1.1 (nI p)))) (xs88) (by exact hI.s hw1 hw2 hp9 hnx (by omega)) (by omega)
                    · have c101 := jb0F c101
                      refine J_bipush (x := 6) dX8_relation_104 (by decide) ?_
                      refine J_goto (tgt := 129) dX8_relation_106 (by decide) ?_
                      refine J_iand dX8_relation_129 ?_
                      refine J_topi (y := relW (A1 || (rHolds w1.2 w1.1 (nI p) && rHolds w2.2 w2.1 (nI p))) (B1 || (rHolds w1.2 w1.1 (nI p) && !rHolds w2.2 w2.1 (nI p))) (C1 || (rHolds w2.2 w2.1 (nI p) && !rHolds w1.2 w1.1 (nI p)))) (by first | exact absurd (c96.symm.trans c111) (by decide) | (rw [c96, c101]; exact relM6 _ _ _) | (rw [c111, c101]; exact relM5 _ _ _) | (rw [c111, c120]; exact relM3 _ _ _) | (rw [c111, c120]; exact relM7 _ _ _)) ?_
                      refine J_istore_n (lv' := [.ref (m), .int (nI (k)), .int (nI (q)), .int (relW (A1 || (rHolds w1.2 w1.1 (nI p) && rHolds w2.2 w2.1 (nI p))) (B1 || (rHolds w1.2 w1.1 (nI p) && !rHolds w2.2 w2.1 (nI p))) (C1 || (rHolds w2.2 w2.1 (nI p) && !rHolds w1.2 w1.1 (nI p)))), .int (nI (p)), .int (jb (rHolds w1.2 w1.1 (nI (p)))), .int (jb (rHolds w2.2 w2.1 (nI (p)))), .float 0, .float 0]) dX8_relation_130 rfl (by decide) rfl rfl ?_
                      refine J_aload_n (m) dX8_relation_131 rfl rfl ?_
                      refine J_getrs (q := m + 1) r1 dX8_relation_132 (fun _ h => List.mem_cons_of_mem _ (List.mem_append_left _ (List.mem_append_right _ (h)))) cs11 (by decide) rfl (List.mem_of_getElem? (i := 2) rfl) rfl (show m < jn M from by omega) m2 ?_
                      refine J_bipush (x := 33) dX8_relation_135 (by decide) ?_
                      refine J_iload_n dX8_relation_137 rfl rfl ?_
                      refine J_imul dX8_relation_138 ?_
                      refine J_topi (y := nI (33 * k)) (pk_mul (33) (k)) ?_
                      refine J_iload dX8_relation_139 rfl ?_
                      refine J_calli0 (jrunS (As := [.ref (m + 1), .int (nI (33 * k)), .int (nI (p))]) (ct_X8_turn l D dA hst (jSi (jSi M m 11 (0)) m 14 xs88) (m + 1) 427 (33 * k) (show m + 1 < jn M by omega) k1 z1 (by omega) (by omega) w1 (((hx1).si (by omega)).si (by omega)) (nI (p))) dX8_relation_141 yY_X8_turn gX8_relation_X8_turn rfl ⟨by omega, by omega⟩ ⟨Nat.zero_le _, Nat.zero_le _⟩ rfl (Nat.le_of_ble_eq_true rfl)) (rfl) (rfl) ?_
                      refine J_topi (y := nI (x1)) (by rw [mTurn_eq hw1]; exact e1) ?_
                      refine J_istore (lv' := [.ref (m), .int (nI (k)), .int (nI (q)), .int (relW (A1 || (rHolds w1.2 w1.1 (nI p) && rHolds w2.2 w2.1 (nI p))) (B1 || (rHolds w1.2 w1.1 (nI p) && !rHolds w2.2 w2.1 (nI p))) (C1 || (rHolds w2.2 w2.1 (nI p) && !rHolds w1.2 w1.1 (nI p)))), .int (nI (p)), .int (jb (rHolds w1.2 w1.1 (nI (p)))), .int (jb (rHolds w2.2 w2.1 (nI (p)))), .int (nI (x1)), .float 0]) dX8_relation_144 (by decide) rfl rfl ?_
                      refine J_aload_n (m) dX8_relation_146 rfl rfl ?_
                      refine J_getrs (q := m + 1) r1 dX8_relation_147 (fun _ h => List.mem_cons_of_mem _ (List.mem_append_left _ (List.mem_append_right _ (h)))) cs11 (by decide) rfl (List.mem_of_getElem? (i := 2) rfl) rfl (show m < jn M from by omega) m2 ?_
                      refine J_bipush (x := 33) dX8_relation_150 (by decide) ?_
                      refine J_iload_n dX8_relation_152 rfl rfl ?_
                      refine J_imul dX8_relation_153 ?_
                      refine J_topi (y := nI (33 * q)) (pk_mul (33) (q)) ?_
                      refine J_iload dX8_relation_154 rfl ?_
                      refine J_calli0 (jrunS (As := [.ref (m + 1), .int (nI (33 * q)), .int (nI (p))]) (ct_X8_turn l D dA hst (jSi (jSi M m 11 (0)) m 14 xs88) (m + 1) 427 (33 * q) (show m + 1 < jn M by omega) k1 z1 (by omega) (by omega) w2 (((hx2).si (by omega)).si (by omega)) (nI (p))) dX8_relation_156 yY_X8_turn gX8_relation_X8_turn rfl ⟨by omega, by omega⟩ ⟨Nat.zero_le _, Nat.zero_le _⟩ rfl (Nat.le_of_ble_eq_true rfl)) (rfl) (rfl) ?_
                      refine J_topi (y := nI (x2)) (by rw [mTurn_eq hw2]; exact e2) ?_
                      refine J_istore (lv' := [.ref (m), .int (nI (k)), .int (nI (q)), .int (relW (A1 || (rHolds w1.2 w1.1 (nI p) && rHolds w2.2 w2.1 (nI p))) (B1 || (rHolds w1.2 w1.1 (nI p) && !rHolds w2.2 w2.1 (nI p))) (C1 || (rHolds w2.2 w2.1 (nI p) && !rHolds w1.2 w1.1 (nI p)))), .int (nI (p)), .int (jb (rHolds w1.2 w1.1 (nI (p)))), .int (jb (rHolds w2.2 w2.1 (nI (p)))), .int (nI (x1)), .int (nI (x2))]) dX8_relation_159 (by decide) rfl rfl ?_
                      refine J_iload dX8_relation_161 rfl ?_
                      refine J_iload dX8_relation_163 rfl ?_
                      refine J_icmp_ge dX8_relation_165 (tgt := 173) (by decide) (fun c165 => ?_) (fun c165 => ?_)
                      · have c165 := jleT (a := x2) (b := x1) (by omega) (by omega) c165
                        refine J_iload dX8_relation_173 rfl ?_
                        refine J_topi (y := nI (min x1 x2)) (congrArg nI (by omega)) ?_
                        refine J_istore (lv' := [.ref (m), .int (nI (k)), .int (nI (q)), .int (relW (A1 || (rHolds w1.2 w1.1 (nI p) && rHolds w2.2 w2.1 (nI p))) (B1 || (rHolds w1.2 w1.1 (nI p) && !rHolds w2.2 w2.1 (nI p))) (C1 || (rHolds w2.2 w2.1 (nI p) && !rHolds w1.2 w1.1 (nI p)))), .int (nI (min x1 x2)), .int (jb (rHolds w1.2 w1.1 (nI (p)))), .int (jb (rHolds w2.2 w2.1 (nI (p)))), .int (nI (x1)), .int (nI (x2))]) dX8_relation_175 (by decide) rfl rfl ?_
                        refine J_goto (tgt := 54) dX8_relation_177 (by decide) ?_
                        refine J_fg 5 (lv' := [.ref (m), .int (nI (k)), .int (nI (q)), .int (relW (A1 || (rHolds w1.2 w1.1 (nI p) && rHolds w2.2 w2.1 (nI p))) (B1 || (rHolds w1.2 w1.1 (nI p) && !rHolds w2.2 w2.1 (nI p))) (C1 || (rHolds w2.2 w2.1 (nI p) && !rHolds w1.2 w1.1 (nI p)))), .int (nI (min x1 x2)), .float 0, .int (jb (rHolds w2.2 w2.1 (nI (p)))), .int (nI (x1)), .int (nI (x2))]) rfl ?_
                        refine J_fg 6 (lv' := [.ref (m), .int (nI (k)), .int (nI (q)), .int (relW (A1 || (rHolds w1.2 w1.1 (nI p) && rHolds w2.2 w2.1 (nI p))) (B1 || (rHolds w1.2 w1.1 (nI p) && !rHolds w2.2 w2.1 (nI p))) (C1 || (rHolds w2.2 w2.1 (nI p) && !rHolds w1.2 w1.1 (nI p)))), .int (nI (min x1 x2)), .float 0, .float 0, .int (nI (x1)), .int (nI (x2))]) rfl ?_
                        refine J_fg 7 (lv' := [.ref (m), .int (nI (k)), .int (nI (q)), .int (relW (A1 || (rHolds w1.2 w1.1 (nI p) && rHolds w2.2 w2.1 (nI p))) (B1 || (rHolds w1.2 w1.1 (nI p) && !rHolds w2.2 w2.1 (nI p))) (C1 || (rHolds w2.2 w2.1 (nI p) && !rHolds w1.2 w1.1 (nI p)))), .int (nI (min x1 x2)), .float 0, .float 0, .float 0, .int (nI (x2))]) rfl ?_
                        refine J_fg 8 (lv' := [.ref (m), .int (nI (k)), .int (nI (q)), .int (relW (A1 || (rHolds w1.2 w1.1 (nI p) && rHolds w2.2 w2.1 (nI p))) (B1 || (rHolds w1.2 w1.1 (nI p) && !rHolds w2.2 w2.1 (nI p))) (C1 || (rHolds w2.2 w2.1 (nI p) && !rHolds w1.2 w1.1 (nI p)))), .int (nI (min x1 x2)), .float 0, .float 0, .float 0, .float 0]) rfl ?_
                        exact ih54 (z9) (min x1 x2) ((A1 || (rHolds w1.2 w1.1 (nI p) && rHolds w2.2 w2.1 (nI p)))) ((B1 || (rHolds w1.2 w1.1 (nI p) && !rHolds w2.2 w2.1 (nI p)))) ((C1 || (rHolds w2.2 w2.1 (nI p) && !rHolds w1.2 w1.1 (nI p)))) (xs88) (by exact hI.s hw1 hw2 hp9 hnx (by omega)) (by omega)
                      · have c165 := jleF (a := x2) (b := x1) (by omega) (by omega) c165
                        refine J_iload dX8_relation_168 rfl ?_
                        refine J_goto (tgt := 175) dX8_relation_170 (by decide) ?_
                        refine J_topi (y := nI (min x1 x2)) (congrArg nI (by omega)) ?_
                        refine J_istore (lv' := [.ref (m), .int (nI (k)), .int (nI (q)), .int (relW (A1 || (rHolds w1.2 w1.1 (nI p) && rHolds w2.2 w2.1 (nI p))) (B1 || (rHolds w1.2 w1.1 (nI p) && !rHolds w2.2 w2.1 (nI p))) (C1 || (rHolds w2.2 w2.1 (nI p) && !rHolds w1.2 w1.1 (nI p)))), .int (nI (min x1 x2)), .int (jb (rHolds w1.2 w1.1 (nI (p)))), .int (jb (rHolds w2.2 w2.1 (nI (p)))), .int (nI (x1)), .int (nI (x2))]) dX8_relation_175 (by decide) rfl rfl ?_
                        refine J_goto (tgt := 54) dX8_relation_177 (by decide) ?_
                        refine J_fg 5 (lv' := [.ref (m), .int (nI (k)), .int (nI (q)), .int (relW (A1 || (rHolds w1.2 w1.1 (nI p) && rHolds w2.2 w2.1 (nI p))) (B1 || (rHolds w1.2 w1.1 (nI p) && !rHolds w2.2 w2.1 (nI p))) (C1 || (rHolds w2.2 w2.1 (nI p) && !rHolds w1.2 w1.1 (nI p)))), .int (nI (min x1 x2)), .float 0, .int (jb (rHolds w2.2 w2.1 (nI (p)))), .int (nI (x1)), .int (nI (x2))]) rfl ?_
                        refine J_fg 6 (lv' := [.ref (m), .int (nI (k)), .int (nI (q)), .int (relW (A1 || (rHolds w1.2 w1.1 (nI p) && rHolds w2.2 w2.1 (nI p))) (B1 || (rHolds w1.2 w1.1 (nI p) && !rHolds w2.2 w2.1 (nI p))) (C1 || (rHolds w2.2 w2.1 (nI p) && !rHolds w1.2 w1.1 (nI p)))), .int (nI (min x1 x2)), .float 0, .float 0, .int (nI (x1)), .int (nI (x2))]) rfl ?_
                        refine J_fg 7 (lv' := [.ref (m), .int (nI (k)), .int (nI (q)), .int (relW (A1 || (rHolds w1.2 w1.1 (nI p) && rHolds w2.2 w2.1 (nI p))) (B1 || (rHolds w1.2 w1.1 (nI p) && !rHolds w2.2 w2.1 (nI p))) (C1 || (rHolds w2.2 w2.1 (nI p) && !rHolds w1.2 w1.1 (nI p)))), .int (nI (min x1 x2)), .float 0, .float 0, .float 0, .int (nI (x2))]) rfl ?_
                        refine J_fg 8 (lv' := [.ref (m), .int (nI (k)), .int (nI (q)), .int (relW (A1 || (rHolds w1.2 w1.1 (nI p) && rHolds w2.2 w2.1 (nI p))) (B1 || (rHolds w1.2 w1.1 (nI p) && !rHolds w2.2 w2.1 (nI p))) (C1 || (rHolds w2.2 w2.1 (nI p) && !rHolds w1.2 w1.1 (nI p)))), .int (nI (min x1 x2)), .float 0, .float 0, .float 0, .float 0]) rfl ?_
                        exact ih54 (z9) (min x1 x2) ((A1 || (rHolds w1.2 w1.1 (nI p) && rHolds w2.2 w2.1 (nI p)))) ((B1 || (rHolds w1.2 w1.1 (nI p) && !rHolds w2.2 w2.1 (nI p)))) ((C1 || (rHolds w2.2 w2.1 (nI p) && !rHolds w1.2 w1.1 (nI p)))) (xs88) (by exact hI.s hw1 hw2 hp9 hnx (by omega)) (by omega)
            refine J_iconst (x := 0) dX8_relation_51 (by decide) ?_
            refine J_istore (lv' := [.ref (m), .int (nI (k)), .int (nI (q)), .int (relW false false false), .int (0), .float 0, .float 0, .float 0, .float 0]) dX8_relation_52 (by decide) rfl rfl ?_
            exact L54 _ (2 * (w1.1 + w2.1 + 1)) (0) (false) (false) (false) (ji M m 14) (by exact rlSt.z) (Nat.lt_succ_self _)
          · exact absurd c43 (by decide)
        · have c32 := jb0F c32
          refine J_iconst (x := 2) dX8_relation_35 (by decide) ?_
          refine J_goto (tgt := 40) dX8_relation_36 (by decide) ?_
          refine J_calli0 (jrunV (As := [.int (2)]) (ct_X8_fails l D dA hst M m hM ((2))) dX8_relation_40 yY_X8_fails gX8_relation_X8_fails rfl cs11 (show m < jn M from by omega) m2 rfl ⟨by omega, by omega⟩ ⟨Nat.zero_le _, Nat.zero_le _⟩ rfl (Nat.le_of_ble_eq_true rfl)) (rfl) (rfl) ?_
          refine J_if_eq dX8_relation_43 (tgt := 48) (by decide) (fun c43 => ?_) (fun c43 => ?_)
          · exact absurd c43 (by decide)
          · have c43 := jeqF (a := 1) (b := 0) (by omega) (by omega) c43
            refine J_iconst (x := 0) dX8_relation_46 (by decide) ?_
            exact J_iret (ty := .int) dX8_relation_47 rfl (rfl) (by refine ⟨?_, (hA).si rfl, (mFr.rf).si ⟨by omega, by omega⟩, _, rfl⟩; exact mAg.x 1 xNSE rfl (by decide) ji_Sis (by unfold sRel; rw [sSl_t c5, sSl_t c12]; first | (rw [sRn_n (by rw [cAt_n hk]; exact none_of c24)]; done) | (rw [sRn_n (by rw [cAt_n hk]; exact none_of c24)]; rfl) | (obtain ⟨w1, hz1⟩ := some_of c24; rw [sRn_s (by rw [cAt_n hk]; exact hz1), sRn_n (by rw [cAt_n hq]; exact none_of c32)])))
    · have c12 := jb0T c12
      refine J_iconst (x := 1) dX8_relation_15 (by decide) ?_
      refine J_goto (tgt := 40) dX8_relation_16 (by decide) ?_
      refine J_calli0 (jrunV (As := [.int (1)]) (ct_X8_fails l D dA hst M m hM ((1))) dX8_relation_40 yY_X8_fails gX8_relation_X8_fails rfl cs11 (show m < jn M from by omega) m2 rfl ⟨by omega, by omega⟩ ⟨Nat.zero_le _, Nat.zero_le _⟩ rfl (Nat.le_of_ble_eq_true rfl)) (rfl) (rfl) ?_
      refine J_if_eq dX8_relation_43 (tgt := 48) (by decide) (fun c43 => ?_) (fun c43 => ?_)
      · exact absurd c43 (by decide)
      · have c43 := jeqF (a := 1) (b := 0) (by omega) (by omega) c43
        refine J_iconst (x := 0) dX8_relation_46 (by decide) ?_
        exact J_iret (ty := .int) dX8_relation_47 rfl (rfl) (by refine ⟨?_, (hA).si rfl, (mFr.rf).si ⟨by omega, by omega⟩, _, rfl⟩; first | (exact mAg.x 0 xIOOBE rfl (by decide) ji_Sis (by unfold sRel; first | (rw [sSl_f c5]; done) | (rw [sSl_t c5, sSl_f c12]; done) | (rw [sSl_t c5, sSl_f c12]; rfl) | (rw [sSl_f c5]; rfl))))

