theorem uS_m {mt : Int32 → Bool} {nx : Int32 → Int32} {fu : Nat} {x : Int32} {len : Nat} {f : Nat → Int32} (h : ¬ 99999999 < x) (hm : mt x = true) (hj : 0 < len ∧ f (len - 1) = x - 1) : uS mt nx (fu + 1) x len f = uS mt nx fu (nx x) len (upd f (len - 1) (nx x - 1)) := by
  conv => lhs; unfold uS
  rw [if_neg h, if_pos hm, if_pos hj]
theorem uS_a {mt : Int32 → Bool} {nx : Int32 → Int32} {fu : Nat} {x : Int32} {len : Nat} {f : Nat → Int32} (h : ¬ 99999999 < x) (hm : mt x = true) (hj : ¬ (0 < len ∧ f (len - 1) = x - 1)) : uS mt nx (fu + 1) x len f = uS mt nx fu (nx x) (len + 2) (upd (upd f len x) (len + 1) (nx x - 1)) := by
  conv => lhs; unfold uS
  rw [if_neg h, if_pos hm, if_neg hj]
theorem uS_n {mt : Int32 → Bool} {nx : Int32 → Int32} {fu : Nat} {x : Int32} {len : Nat} {f : Nat → Int32} (h : ¬ 99999999 < x) (hm : ¬ mt x = true) : uS mt nx (fu + 1) x len f = uS mt nx fu (nx x) len f := by
  conv => lhs; unfold uS
  rw [if_neg h, if_neg hm]
theorem mSlot.sv {M : jM} {a c p : Nat} {g : Nat → Int32} {z : Option rVl} (h : mSlot (ji M a) p z) (hne : a ≠ c) : mSlot (ji (jSv M c g) a) p z := by
  have e : ji (jSv M c g) a = ji M a := funext fun j => ji_Svn hne
  rw [e]; exact h
def jMt (what : Int32) (w1 w2 : rVl) (y : Int32) : Bool := vGv what (rHolds w1.2 w1.1 y) (rHolds w2.2 w2.1 y)
def jNx (w1 w2 : rVl) (y : Int32) : Int32 := rMin (rNext w1.2 w1.1 y) (rNext w2.2 w2.1 y)
def jJn (what : Int32) (w1 w2 : rVl) (f : Nat → Int32) : Nat × (Nat → Int32) := uS (jMt what w1 w2) (jNx w1 w2) (2 * (w1.1 + w2.1 + 1)) 0 0 f
/-- what joining leaves: its room, and the range at its place, if it has few enough spans -/
def mJn (M : jM) (m : Nat) (what : Int32) (w1 w2 : rVl) (t : Nat) : jP := fun o M1 => ∃ n D y H, jJn what w1 w2 (ji M (m + 7)) = (2 * n, D) ∧ M1 = jSv (jSi (jSv M (m + 7) D) m 14 y) (m + 6) H ∧ (∀ j, (j < t ∨ t + 33 ≤ j) → H j = ji M (m + 6) j) ∧ ((16 < n ∧ o = oI (jb false)) ∨ (n ≤ 16 ∧ o = oI (jb true) ∧ mSlot H t (some (n, D))))
/-- where the joining stands -/
def jSt9 (M : jM) (m : Nat) (what : Int32) (w1 w2 : rVl) (p n fu : Nat) (D : Nat → Int32) : Prop := p ≤ 100000000 ∧ uS (jMt what w1 w2) (jNx w1 w2) fu (nI p) (2 * n) D = jJn what w1 w2 (ji M (m + 7)) ∧ (p < 100000000 → rTg w1 (nI p) + rTg w2 (nI p) < fu) ∧ 2 * n + fu ≤ 2 * (w1.1 + w2.1 + 1) + 1 ∧ (¬ (0 < 2 * n ∧ D (2 * n - 1) = nI p - 1) → 2 * n + fu ≤ 2 * (w1.1 + w2.1 + 1))
theorem jSt9.z {M : jM} {m : Nat} {what : Int32} {w1 w2 : rVl} : jSt9 M m what w1 w2 0 0 (2 * (w1.1 + w2.1 + 1)) (ji M (m + 7)) := by
  have h1 := rTg_le (w := w1) (x := nI 0)
  have h2 := rTg_le (w := w2) (x := nI 0)
  exact ⟨by omega, rfl, fun _ => by omega, by omega, fun _ => by omega⟩
theorem jSt9.fu1 {M : jM} {m : Nat} {what : Int32} {w1 w2 : rVl} {p n fu : Nat} {D : Nat → Int32} (h : jSt9 M m what w1 w2 p n fu D) (hp : p < 100000000) : ∃ z, fu = z + 1 := ⟨fu - 1, by have := h.2.2.1 hp; omega⟩
theorem most_n {p : Nat} (hp : p < 100000000) : ¬ (99999999 : Int32) < nI p := fun h9 => absurd ((nI_most (by omega)).mp h9) (by omega)
theorem nI_prd {x : Nat} (h : 1 ≤ x) : nI x - 1 = nI (x - 1) := pk_sub (a := x) (b := 1) h
theorem jSt9.tg {w1 w2 : rVl} (h1 : rWf w1) (h2 : rWf w2) {p x : Nat} (hp : p < 100000000) (e : jNx w1 w2 (nI p) = nI x) (hx : x ≤ 100000000) : x < 100000000 → rTg w1 (nI x) + rTg w2 (nI x) < rTg w1 (nI p) + rTg w2 (nI p) := by
  obtain ⟨y, e2, a, b, c⟩ := nx_two h1 h2 p hp
  have h9 : nI x = nI y := e.symm.trans e2
  have h8 : x = y := Nat.le_antisymm ((nI_leN (by omega) (by omega)).mp (by rw [h9]; exact Int32.le_refl _)) ((nI_leN (by omega) (by omega)).mp (by rw [h9]; exact Int32.le_refl _))
  subst h8
  exact c
theorem jSt9.m {M : jM} {m : Nat} {what : Int32} {w1 w2 : rVl} {p n z x : Nat} {D : Nat → Int32} (h : jSt9 M m what w1 w2 p n (z + 1) D) (h1 : rWf w1) (h2 : rWf w2) (hp : p < 100000000) (e : jNx w1 w2 (nI p) = nI x) (hpx : p < x) (hx : x ≤ 100000000) (hm : jMt what w1 w2 (nI p) = true) (hn : 0 < n) (hj : D (2 * n - 1) = nI p - 1) : jSt9 M m what w1 w2 x n z (upd D (2 * n - 1) (nI (x - 1))) := by
  obtain ⟨a, b, c, d, f⟩ := h
  have ht := jSt9.tg h1 h2 hp e hx
  have hc := c hp
  refine ⟨hx, ?_, fun h9 => by have := ht h9; omega, by omega, fun _ => by omega⟩
  rw [← b, uS_m (most_n hp) hm ⟨by omega, hj⟩, e, nI_prd (by omega)]
theorem jSt9.a {M : jM} {m : Nat} {what : Int32} {w1 w2 : rVl} {p n z x : Nat} {D : Nat → Int32} (h : jSt9 M m what w1 w2 p n (z + 1) D) (h1 : rWf w1) (h2 : rWf w2) (hp : p < 100000000) (e : jNx w1 w2 (nI p) = nI x) (hpx : p < x) (hx : x ≤ 100000000) (hm : jMt what w1 w2 (nI p) = true) (hj : ¬ (0 < 2 * n ∧ D (2 * n - 1) = nI p - 1)) : jSt9 M m what w1 w2 x (n + 1) z (upd (upd D (2 * n) (nI p)) (2 * n + 1) (nI (x - 1))) := by
  obtain ⟨a, b, c, d, f⟩ := h
  have ht := jSt9.tg h1 h2 hp e hx
  have hc := c hp
  have hf := f hj
  refine ⟨hx, ?_, fun h9 => by have := ht h9; omega, by omega, fun h9 => absurd ⟨by omega, ?_⟩ h9⟩
  · rw [← b, uS_a (most_n hp) hm hj, e, nI_prd (by omega)]; rfl
  · rw [nI_prd (by omega)]; unfold upd; rw [if_pos (by omega)]
theorem jSt9.n {M : jM} {m : Nat} {what : Int32} {w1 w2 : rVl} {p n z x : Nat} {D : Nat → Int32} (h : jSt9 M m what w1 w2 p n (z + 1) D) (h1 : rWf w1) (h2 : rWf w2) (hp : p < 100000000) (e : jNx w1 w2 (nI p) = nI x) (hpx : p < x) (hx : x ≤ 100000000) (hm : ¬ jMt what w1 w2 (nI p) = true) : jSt9 M m what w1 w2 x n z D := by
  obtain ⟨a, b, c, d, f⟩ := h
  have ht := jSt9.tg h1 h2 hp e hx
  have hc := c hp
  refine ⟨hx, ?_, fun h9 => by have := ht h9; omega, by omega, fun _ => by omega⟩
  rw [← b, uS_n (most_n hp) hm, e]
theorem jSt9.room {M : jM} {m : Nat} {what : Int32} {w1 w2 : rVl} {p n z : Nat} {D : Nat → Int32} (h : jSt9 M m what w1 w2 p n (z + 1) D) (l1 : w1.1 ≤ 16) (l2 : w2.1 ≤ 16) : 2 * n + 2 ≤ 70 := by have := h.2.2.2.1; omega
theorem jSt9.e {M : jM} {m : Nat} {what : Int32} {w1 w2 : rVl} {p n fu : Nat} {D : Nat → Int32} (h : jSt9 M m what w1 w2 p n fu D) (hp : 99999999 < nI p) : jJn what w1 w2 (ji M (m + 7)) = (2 * n, D) := by rw [← h.2.1, uS_e _ hp]
theorem mMd {M : jM} {a m k : Nat} {D : Nat → Int32} {x y : Int32} (h : a ≠ m) : jSi (jSi (jSv M a D) m 14 y) a k x = jSi (jSv M a (upd D k x)) m 14 y := jM_eq rfl rfl rfl (by
  funext c j
  show ji (jSi (jSi (jSv M a D) m 14 y) a k x) c j = ji (jSi (jSv M a (upd D k x)) m 14 y) c j
  rw [ji_Si, ji_Si, ji_Si, ji_Sv, ji_Sv]
  by_cases hc : c = a
  · have hm : ¬ (c = m ∧ j = 14) := fun h9 => h (hc.symm.trans h9.1)
    by_cases hk : j = k
    · rw [if_pos ⟨hc, hk⟩, if_neg hm, if_pos hc]; unfold upd; rw [if_pos hk]
    · rw [if_neg (fun h9 => hk h9.2), if_neg hm, if_pos hc, if_neg hm, if_pos hc]; unfold upd; rw [if_neg hk]
  · rw [if_neg (fun h9 => hc h9.1), if_neg hc, if_neg hc]) rfl rfl rfl
theorem jSv_g {X : jM} {a : Nat} {g : Nat → Int32} (h : ji X a = g) : jSv X a g = X := by rw [← h]; exact jSv_self X a
theorem jSi_g {X : jM} {a k : Nat} {x : Int32} {g : Nat → Int32} (h : ji X a = g) : jSi X a k x = jSv X a (upd g k x) := jM_eq rfl rfl rfl (by
  funext c j
  show ji (jSi X a k x) c j = ji (jSv X a (upd g k x)) c j
  rw [ji_Si, ji_Sv]
  unfold upd
  by_cases hc : c = a
  · rw [if_pos hc]
    by_cases hk : j = k
    · rw [if_pos ⟨hc, hk⟩, if_pos hk]
    · rw [if_neg (fun h9 => hk h9.2), if_neg hk, hc, h]
  · rw [if_neg (fun h9 => hc h9.1), if_neg hc]) rfl rfl rfl
theorem jMd6 {M : jM} {m : Nat} {D : Nat → Int32} {y : Int32} : ji (jSi (jSv M (m + 7) D) m 14 y) (m + 6) = ji M (m + 6) := funext fun j => by rw [ji_Sin (by omega), ji_Svn (by omega)]
theorem jMd7 {M : jM} {m : Nat} {D : Nat → Int32} {y : Int32} : ji (jSi (jSv M (m + 7) D) m 14 y) (m + 7) = D := funext fun j => by rw [ji_Sin (by omega), ji_Sv, if_pos rfl]
theorem dX8_joins_6 : decode cX8_joins 6 = .ok (.iload 6, 2) := by decide +kernel
theorem dX8_joins_8 : decode cX8_joins 8 = .ok (.ldc 59, 2) := by decide +kernel
theorem dX8_joins_10 : decode cX8_joins 10 = .ok (.if_icmp .gt 149, 3) := by decide +kernel
theorem dX8_joins_159 : decode cX8_joins 159 = .ok (.iload 5, 2) := by decide +kernel
theorem dX8_joins_161 : decode cX8_joins 161 = .ok (.bipush 16, 2) := by decide +kernel
theorem dX8_joins_163 : decode cX8_joins 163 = .ok (.if_icmp .le 5, 3) := by decide +kernel
theorem dX8_joins_168 : decode cX8_joins 168 = .ok (.aload_n 0, 1) := by decide +kernel
theorem dX8_joins_169 : decode cX8_joins 169 = .ok (.getfield 32, 3) := by decide +kernel
theorem dX8_joins_172 : decode cX8_joins 172 = .ok (.iload 4, 2) := by decide +kernel
theorem dX8_joins_174 : decode cX8_joins 174 = .ok (.iload 5, 2) := by decide +kernel
theorem dX8_joins_176 : decode cX8_joins 176 = .ok (.iastore, 1) := by decide +kernel
theorem dX8_joins_180 : decode cX8_joins 180 = .ok (.iload 7, 2) := by decide +kernel
theorem dX8_joins_182 : decode cX8_joins 182 = .ok (.iconst 2, 1) := by decide +kernel
theorem dX8_joins_183 : decode cX8_joins 183 = .ok (.iload 5, 2) := by decide +kernel
theorem dX8_joins_185 : decode cX8_joins 185 = .ok (.imul, 1) := by decide +kernel
theorem dX8_joins_186 : decode cX8_joins 186 = .ok (.if_icmp .ge 28, 3) := by decide +kernel
theorem dX8_joins_214 : decode cX8_joins 214 = .ok (.iconst 1, 1) := by decide +kernel
theorem dX8_joins_215 : decode cX8_joins 215 = .ok (.ireturn, 1) := by decide +kernel
theorem dX8_joins_189 : decode cX8_joins 189 = .ok (.aload_n 0, 1) := by decide +kernel
theorem dX8_joins_190 : decode cX8_joins 190 = .ok (.getfield 32, 3) := by decide +kernel
theorem dX8_joins_193 : decode cX8_joins 193 = .ok (.iload 4, 2) := by decide +kernel
theorem dX8_joins_195 : decode cX8_joins 195 = .ok (.iconst 1, 1) := by decide +kernel
theorem dX8_joins_196 : decode cX8_joins 196 = .ok (.iadd, 1) := by decide +kernel
theorem dX8_joins_197 : decode cX8_joins 197 = .ok (.iload 7, 2) := by decide +kernel
theorem dX8_joins_199 : decode cX8_joins 199 = .ok (.iadd, 1) := by decide +kernel
theorem dX8_joins_200 : decode cX8_joins 200 = .ok (.aload_n 0, 1) := by decide +kernel
theorem dX8_joins_201 : decode cX8_joins 201 = .ok (.getfield 35, 3) := by decide +kernel
theorem dX8_joins_204 : decode cX8_joins 204 = .ok (.iload 7, 2) := by decide +kernel
theorem dX8_joins_206 : decode cX8_joins 206 = .ok (.iaload, 1) := by decide +kernel
theorem dX8_joins_207 : decode cX8_joins 207 = .ok (.iastore, 1) := by decide +kernel
theorem dX8_joins_208 : decode cX8_joins 208 = .ok (.iinc 7 1, 3) := by decide +kernel
theorem dX8_joins_211 : decode cX8_joins 211 = .ok (.goto (-31), 3) := by decide +kernel
theorem dX8_joins_177 : decode cX8_joins 177 = .ok (.iconst 0, 1) := by decide +kernel
theorem dX8_joins_178 : decode cX8_joins 178 = .ok (.istore 7, 2) := by decide +kernel
theorem dX8_joins_166 : decode cX8_joins 166 = .ok (.iconst 0, 1) := by decide +kernel
theorem dX8_joins_167 : decode cX8_joins 167 = .ok (.ireturn, 1) := by decide +kernel
theorem dX8_joins_13 : decode cX8_joins 13 = .ok (.aload_n 0, 1) := by decide +kernel
theorem dX8_joins_14 : decode cX8_joins 14 = .ok (.getfield 32, 3) := by decide +kernel
theorem dX8_joins_17 : decode cX8_joins 17 = .ok (.iload_n 2, 1) := by decide +kernel
theorem dX8_joins_18 : decode cX8_joins 18 = .ok (.iload 6, 2) := by decide +kernel
theorem dX8_joins_20 : decode cX8_joins 20 = .ok (.invokestatic 67, 3) := by decide +kernel
set_option maxRecDepth 20000 in
theorem ggX8_joins_X8_turn : GoodIn wsX8_joins wsX8_turn := goodIn_ca (goodIn_r _ [7, 8] (by decide +kernel) (by decide +kernel)) (goodIn_sub (fun _ h => List.mem_cons_of_mem _ (List.mem_append_right _ h)) (by decide +kernel))
set_option maxRecDepth 20000 in
theorem gX8_joins_X8_turn : GoodIn wsX8_joins (va_wsS RX8 67 yX8_turn wsX8_turn) := goodIn_app (goodIn_of _ (by decide +kernel)) ggX8_joins_X8_turn
theorem dX8_joins_23 : decode cX8_joins 23 = .ok (.istore 7, 2) := by decide +kernel
theorem dX8_joins_25 : decode cX8_joins 25 = .ok (.aload_n 0, 1) := by decide +kernel
theorem dX8_joins_26 : decode cX8_joins 26 = .ok (.getfield 32, 3) := by decide +kernel
theorem dX8_joins_29 : decode cX8_joins 29 = .ok (.iload_n 3, 1) := by decide +kernel
theorem dX8_joins_30 : decode cX8_joins 30 = .ok (.iload 6, 2) := by decide +kernel
theorem dX8_joins_32 : decode cX8_joins 32 = .ok (.invokestatic 67, 3) := by decide +kernel
theorem dX8_joins_35 : decode cX8_joins 35 = .ok (.istore 8, 2) := by decide +kernel
theorem dX8_joins_37 : decode cX8_joins 37 = .ok (.iload 7, 2) := by decide +kernel
theorem dX8_joins_39 : decode cX8_joins 39 = .ok (.iload 8, 2) := by decide +kernel
theorem dX8_joins_41 : decode cX8_joins 41 = .ok (.if_icmp .ge 8, 3) := by decide +kernel
theorem dX8_joins_49 : decode cX8_joins 49 = .ok (.iload 8, 2) := by decide +kernel
theorem dX8_joins_51 : decode cX8_joins 51 = .ok (.istore 9, 2) := by decide +kernel
theorem dX8_joins_53 : decode cX8_joins 53 = .ok (.iload_n 1, 1) := by decide +kernel
theorem dX8_joins_54 : decode cX8_joins 54 = .ok (.aload_n 0, 1) := by decide +kernel
theorem dX8_joins_55 : decode cX8_joins 55 = .ok (.aload_n 0, 1) := by decide +kernel
theorem dX8_joins_56 : decode cX8_joins 56 = .ok (.getfield 32, 3) := by decide +kernel
theorem dX8_joins_59 : decode cX8_joins 59 = .ok (.iload_n 2, 1) := by decide +kernel
theorem dX8_joins_60 : decode cX8_joins 60 = .ok (.iload 6, 2) := by decide +kernel
theorem dX8_joins_62 : decode cX8_joins 62 = .ok (.invokevirtual 71, 3) := by decide +kernel
set_option maxRecDepth 20000 in
theorem ggX8_joins_X8_belongs : GoodIn wsX8_joins wsX8_belongs := goodIn_ca (goodIn_r _ [12, 13, 17, 18, 19, 20, 21, 22, 23, 24, 25, 26, 27, 28, 29, 30, 31, 32, 33, 34, 35, 36, 37, 38, 39, 40, 41, 42, 43, 44, 45, 46, 47] (by decide +kernel) (by decide +kernel)) (goodIn_sub (fun _ h => List.mem_cons_of_mem _ (List.mem_append_right _ h)) (by decide +kernel))
set_option maxRecDepth 20000 in
theorem gX8_joins_X8_belongs : GoodIn wsX8_joins (wsV RX8 71 RX8 yX8_belongs wsX8_belongs) := goodIn_app (goodIn_of _ (by decide +kernel)) ggX8_joins_X8_belongs
theorem dX8_joins_65 : decode cX8_joins 65 = .ok (.aload_n 0, 1) := by decide +kernel
theorem dX8_joins_66 : decode cX8_joins 66 = .ok (.aload_n 0, 1) := by decide +kernel
theorem dX8_joins_67 : decode cX8_joins 67 = .ok (.getfield 32, 3) := by decide +kernel
theorem dX8_joins_70 : decode cX8_joins 70 = .ok (.iload_n 3, 1) := by decide +kernel
theorem dX8_joins_71 : decode cX8_joins 71 = .ok (.iload 6, 2) := by decide +kernel
theorem dX8_joins_73 : decode cX8_joins 73 = .ok (.invokevirtual 71, 3) := by decide +kernel
theorem dX8_joins_76 : decode cX8_joins 76 = .ok (.invokestatic 75, 3) := by decide +kernel
set_option maxRecDepth 20000 in
theorem ggX8_joins_X8_gives : GoodIn wsX8_joins wsX8_gives := goodIn_r _ [16] (by decide +kernel) (by decide +kernel)
set_option maxRecDepth 20000 in
theorem gX8_joins_X8_gives : GoodIn wsX8_joins (va_wsS RX8 75 yX8_gives wsX8_gives) := goodIn_app (goodIn_of _ (by decide +kernel)) ggX8_joins_X8_gives
theorem yY_X8_gives : jY yX8_gives wsX8_gives cX8_gives 3 (some .boolean) 3 := ⟨⟨_, rfl⟩, by decide +kernel, by decide +kernel, by decide +kernel⟩
theorem dX8_joins_79 : decode cX8_joins 79 = .ok (.ifCond .eq 73, 3) := by decide +kernel
theorem dX8_joins_152 : decode cX8_joins 152 = .ok (.iload 9, 2) := by decide +kernel
theorem dX8_joins_154 : decode cX8_joins 154 = .ok (.istore 6, 2) := by decide +kernel
theorem dX8_joins_156 : decode cX8_joins 156 = .ok (.goto (-150), 3) := by decide +kernel
theorem dX8_joins_82 : decode cX8_joins 82 = .ok (.iload 5, 2) := by decide +kernel
theorem dX8_joins_84 : decode cX8_joins 84 = .ok (.ifCond .le 39, 3) := by decide +kernel
theorem dX8_joins_123 : decode cX8_joins 123 = .ok (.aload_n 0, 1) := by decide +kernel
theorem dX8_joins_124 : decode cX8_joins 124 = .ok (.getfield 35, 3) := by decide +kernel
theorem dX8_joins_127 : decode cX8_joins 127 = .ok (.iconst 2, 1) := by decide +kernel
theorem dX8_joins_128 : decode cX8_joins 128 = .ok (.iload 5, 2) := by decide +kernel
theorem dX8_joins_130 : decode cX8_joins 130 = .ok (.imul, 1) := by decide +kernel
theorem dX8_joins_131 : decode cX8_joins 131 = .ok (.iload 6, 2) := by decide +kernel
theorem dX8_joins_133 : decode cX8_joins 133 = .ok (.iastore, 1) := by decide +kernel
theorem dX8_joins_134 : decode cX8_joins 134 = .ok (.aload_n 0, 1) := by decide +kernel
theorem dX8_joins_135 : decode cX8_joins 135 = .ok (.getfield 35, 3) := by decide +kernel
theorem dX8_joins_138 : decode cX8_joins 138 = .ok (.iconst 2, 1) := by decide +kernel
theorem dX8_joins_139 : decode cX8_joins 139 = .ok (.iload 5, 2) := by decide +kernel
theorem dX8_joins_141 : decode cX8_joins 141 = .ok (.imul, 1) := by decide +kernel
theorem dX8_joins_142 : decode cX8_joins 142 = .ok (.iconst 1, 1) := by decide +kernel
theorem dX8_joins_143 : decode cX8_joins 143 = .ok (.iadd, 1) := by decide +kernel
theorem dX8_joins_144 : decode cX8_joins 144 = .ok (.iload 9, 2) := by decide +kernel
theorem dX8_joins_146 : decode cX8_joins 146 = .ok (.iconst 1, 1) := by decide +kernel
theorem dX8_joins_147 : decode cX8_joins 147 = .ok (.isub, 1) := by decide +kernel
theorem dX8_joins_148 : decode cX8_joins 148 = .ok (.iastore, 1) := by decide +kernel
theorem dX8_joins_149 : decode cX8_joins 149 = .ok (.iinc 5 1, 3) := by decide +kernel
theorem dX8_joins_87 : decode cX8_joins 87 = .ok (.aload_n 0, 1) := by decide +kernel
theorem dX8_joins_88 : decode cX8_joins 88 = .ok (.getfield 35, 3) := by decide +kernel
theorem dX8_joins_91 : decode cX8_joins 91 = .ok (.iconst 2, 1) := by decide +kernel
theorem dX8_joins_92 : decode cX8_joins 92 = .ok (.iload 5, 2) := by decide +kernel
theorem dX8_joins_94 : decode cX8_joins 94 = .ok (.imul, 1) := by decide +kernel
theorem dX8_joins_95 : decode cX8_joins 95 = .ok (.iconst 1, 1) := by decide +kernel
theorem dX8_joins_96 : decode cX8_joins 96 = .ok (.isub, 1) := by decide +kernel
theorem dX8_joins_97 : decode cX8_joins 97 = .ok (.iaload, 1) := by decide +kernel
theorem dX8_joins_98 : decode cX8_joins 98 = .ok (.iload 6, 2) := by decide +kernel
theorem dX8_joins_100 : decode cX8_joins 100 = .ok (.iconst 1, 1) := by decide +kernel
theorem dX8_joins_101 : decode cX8_joins 101 = .ok (.isub, 1) := by decide +kernel
theorem dX8_joins_102 : decode cX8_joins 102 = .ok (.if_icmp .ne 21, 3) := by decide +kernel
theorem dX8_joins_105 : decode cX8_joins 105 = .ok (.aload_n 0, 1) := by decide +kernel
theorem dX8_joins_106 : decode cX8_joins 106 = .ok (.getfield 35, 3) := by decide +kernel
theorem dX8_joins_109 : decode cX8_joins 109 = .ok (.iconst 2, 1) := by decide +kernel
theorem dX8_joins_110 : decode cX8_joins 110 = .ok (.iload 5, 2) := by decide +kernel
theorem dX8_joins_112 : decode cX8_joins 112 = .ok (.imul, 1) := by decide +kernel
theorem dX8_joins_113 : decode cX8_joins 113 = .ok (.iconst 1, 1) := by decide +kernel
theorem dX8_joins_114 : decode cX8_joins 114 = .ok (.isub, 1) := by decide +kernel
theorem dX8_joins_115 : decode cX8_joins 115 = .ok (.iload 9, 2) := by decide +kernel
theorem dX8_joins_117 : decode cX8_joins 117 = .ok (.iconst 1, 1) := by decide +kernel
theorem dX8_joins_118 : decode cX8_joins 118 = .ok (.isub, 1) := by decide +kernel
theorem dX8_joins_119 : decode cX8_joins 119 = .ok (.iastore, 1) := by decide +kernel
theorem dX8_joins_120 : decode cX8_joins 120 = .ok (.goto 32, 3) := by decide +kernel
theorem dX8_joins_44 : decode cX8_joins 44 = .ok (.iload 7, 2) := by decide +kernel
theorem dX8_joins_46 : decode cX8_joins 46 = .ok (.goto 5, 3) := by decide +kernel
theorem dX8_joins_0 : decode cX8_joins 0 = .ok (.iconst 0, 1) := by decide +kernel
theorem dX8_joins_1 : decode cX8_joins 1 = .ok (.istore 5, 2) := by decide +kernel
theorem dX8_joins_3 : decode cX8_joins 3 = .ok (.iconst 0, 1) := by decide +kernel
theorem dX8_joins_4 : decode cX8_joins 4 = .ok (.istore 6, 2) := by decide +kernel
set_option maxHeartbeats 400000 in
set_option maxRecDepth 20000 in
theorem ct_X8_joins (l : Launch) (D : va_G) (dA : Nat → ClassId) (hst : l.stackTraces = false) (M : jM) (m : Nat) (hM : mOk M m) (op : Int32) (one other t : Nat) (w1 w2 : rVl) (hw1 : rWf w1) (hw2 : rWf w2) (hx1 : mSlot (ji M (m + 6)) one (some w1)) (hx2 : mSlot (ji M (m + 6)) other (some w2)) (ho1 : one + 33 ≤ 2112) (ho2 : other + 33 ≤ 2112) (ht : t + 33 ≤ 2112) : jCT l D dA yX8_joins wsX8_joins (21) (360) (0) (0) 1 [.ref (m), .int (op), .int (nI (one)), .int (nI (other)), .int (nI (t))] M (mJn M m op w1 w2 t) := by
  refine jBody (cc := cX8_joins) (nL := 10) (rt := (some .boolean)) (ini := false) (by decide) rfl hst (Nat.le_of_ble_eq_true rfl) (by simp [Value.category]) (by intro h9; first | exact absurd h9 (by decide) | rfl) ?_
  show J l D dA RX8 cX8_joins wsX8_joins 10 false (some .boolean) [] (21) (360) (jF D dA (jn M) (mJn M m op w1 w2 t) 1) (jn M) (0) (0) (M) 0 [.ref (m), .int (op), .int (nI (one)), .int (nI (other)), .int (nI (t)), .float 0, .float 0, .float 0, .float 0, .float 0] []
  obtain ⟨m1, m2, ⟨r1, r2, r3, r4, r5, r6, r7, r8, r9, r10, r11, r12, r13⟩, ⟨k1, k2, k3, k4, k5, k6, k7, k8, k9, k10, k11, k12, k13⟩, z1, z2, z3, z4, z5, z6, z7, z8, z9, z10, z11, z12, z13⟩ := id hM
  have h161 := hx1.2.1
  have h162 := hx2.2.1
  have L6 : ∀ (fuel : Nat) (fu : Nat) (p : Nat) (n : Nat) (Dm : Nat → Int32) (y : Int32) (hI : jSt9 M m op w1 w2 p n fu Dm), fu < fuel → J l D dA RX8 cX8_joins wsX8_joins 10 false (some .boolean) [] (21) (360) (jF D dA (jn M) (mJn M m op w1 w2 t) 1) (jn M) (0) (0) ((jSi (jSv M (m + 7) Dm) m 14 y)) 6 [.ref (m), .int (op), .int (nI (one)), .int (nI (other)), .int (nI (t)), .int (nI (n)), .int (nI (p)), .float 0, .float 0, .float 0] [] := by
    intro fuel
    induction fuel with
    | zero => intro fu p n Dm y hI hm; exact absurd hm (Nat.not_lt_zero _)
    | succ fuel ih6 =>
      intro fu p n Dm y hI hm6
      have hp8 := hI.1
      have hlen := hI.2.2.2.1
      refine J_iload dX8_joins_6 rfl ?_
      refine J_ldc (x := 99999999) dX8_joins_8 (List.mem_of_getElem? (i := 1) rfl) ?_
      refine J_icmp_gt dX8_joins_10 (tgt := 159) (by decide) (fun c10 => ?_) (fun c10 => ?_)
      · have c10 := jltT (a := 99999999) (b := p) (by omega) (by omega) c10
        have hend := hI.e ((nI_most hI.1).mpr (by omega))
        refine J_iload dX8_joins_159 rfl ?_
        refine J_bipush (x := 16) dX8_joins_161 (by decide) ?_
        refine J_icmp_le dX8_joins_163 (tgt := 168) (by decide) (fun c163 => ?_) (fun c163 => ?_)
        · have c163 := jleT (a := n) (b := 16) (by omega) (by omega) c163
          refine J_aload_n (m) dX8_joins_168 rfl rfl ?_
          refine J_getrs (q := m + 6) r6 dX8_joins_169 (fun _ h => List.mem_cons_of_mem _ (List.mem_append_left _ (List.mem_append_right _ (h)))) cs11 (by decide) rfl (List.mem_of_getElem? (i := 2) rfl) rfl (show m < jn M from by omega) m2 ?_
          refine J_iload dX8_joins_172 rfl ?_
          refine J_iload dX8_joins_174 rfl ?_
          refine J_iastN (k := t) dX8_joins_176 (show m + 6 < jn M from by omega) k6 (by exact Nat.lt_of_lt_of_eq (show _ < 2112 by omega) (Eq.symm z6)) (by exact Nat.lt_of_le_of_lt (Nat.le_of_eq z6) (show 2112 < 2 ^ 31 by omega)) ?_
          refine J_mem (M' := jSv (jSi (jSv M (m + 7) Dm) m 14 y) (m + 6) (mCp (upd (ji M (m + 6)) t (nI n)) (t + 1) Dm 0)) (by rw [mCp_0]; exact jSi_g jMd6) ?_
          have L180 : ∀ (fuel : Nat) (k : Nat) (hk : k ≤ 2 * n), 2 * n - k < fuel → J l D dA RX8 cX8_joins wsX8_joins 10 false (some .boolean) [] (21) (360) (jF D dA (jn M) (mJn M m op w1 w2 t) 1) (jn M) (0) (0) ((jSv (jSi (jSv M (m + 7) Dm) m 14 y) (m + 6) (mCp (upd (ji M (m + 6)) t (nI n)) (t + 1) Dm k))) 180 [.ref (m), .int (op), .int (nI (one)), .int (nI (other)), .int (nI (t)), .int (nI (n)), .float 0, .int (nI (k)), .float 0, .float 0] [] := by
            intro fuel
            induction fuel with
            | zero => intro k hk hm; exact absurd hm (Nat.not_lt_zero _)
            | succ fuel ih180 =>
              intro k hk hm180
              refine J_iload dX8_joins_180 rfl ?_
              refine J_iconst (x := 2) dX8_joins_182 (by decide) ?_
              refine J_iload dX8_joins_183 rfl ?_
              refine J_imul dX8_joins_185 ?_
              refine J_topi (y := nI (2 * n)) (pk_mul (2) (n)) ?_
              refine J_icmp_ge dX8_joins_186 (tgt := 214) (by decide) (fun c186 => ?_) (fun c186 => ?_)
              · have c186 := jleT (a := 2 * n) (b := k) (by omega) (by omega) c186
                refine J_iconst (x := 1) dX8_joins_214 (by decide) ?_
                exact J_iret (ty := .boolean) dX8_joins_215 rfl (by rfl) (by refine ⟨n, Dm, y, _, hend, rfl, fun j hj => ?_, Or.inr ⟨by omega, rfl, ?_, by omega, fun i hi => mCp_in (by omega)⟩⟩; (rw [mCp_out (by omega)]; unfold upd; rw [if_neg (by omega)]); (rw [mCp_out (by omega)]; unfold upd; rw [if_pos rfl]))
              · have c186 := jleF (a := 2 * n) (b := k) (by omega) (by omega) c186
                refine J_aload_n (m) dX8_joins_189 rfl rfl ?_
                refine J_getrs (q := m + 6) r6 dX8_joins_190 (fun _ h => List.mem_cons_of_mem _ (List.mem_append_left _ (List.mem_append_right _ (h)))) cs11 (by decide) rfl (List.mem_of_getElem? (i := 2) rfl) rfl (show m < jn M from by omega) m2 ?_
                refine J_iload dX8_joins_193 rfl ?_
                refine J_iconst (x := 1) dX8_joins_195 (by decide) ?_
                refine J_iadd dX8_joins_196 ?_
                refine J_topi (y := nI (t + 1)) (nI_add (t) (1)) ?_
                refine J_iload dX8_joins_197 rfl ?_
                refine J_iadd dX8_joins_199 ?_
                refine J_topi (y := nI (t + 1 + k)) (nI_add (t + 1) (k)) ?_
                refine J_aload_n (m) dX8_joins_200 rfl rfl ?_
                refine J_getrs (q := m + 7) r7 dX8_joins_201 (fun _ h => List.mem_cons_of_mem _ (List.mem_append_left _ (List.mem_append_right _ (h)))) cs11 (by decide) rfl (List.mem_of_getElem? (i := 3) rfl) rfl (show m < jn M from by omega) m2 ?_
                refine J_iload dX8_joins_204 rfl ?_
                refine J_ialdN (k := k) dX8_joins_206 (show m + 7 < jn M from by omega) k7 (by exact Nat.lt_of_lt_of_eq (show _ < 200 by omega) (Eq.symm z7)) (by exact Nat.lt_of_le_of_lt (Nat.le_of_eq z7) (show 200 < 2 ^ 31 by omega)) ?_
                refine J_topi (y := (Dm k)) (by rw [ji_Svn (by omega)]; exact congrFun jMd7 k) ?_
                refine J_iastN (k := t + 1 + k) dX8_joins_207 (show m + 6 < jn M from by omega) k6 (by exact Nat.lt_of_lt_of_eq (show _ < 2112 by omega) (Eq.symm z6)) (by exact Nat.lt_of_le_of_lt (Nat.le_of_eq z6) (show 2112 < 2 ^ 31 by omega)) ?_
                refine J_mem (M' := jSv (jSi (jSv M (m + 7) Dm) m 14 y) (m + 6) (mCp (upd (ji M (m + 6)) t (nI n)) (t + 1) Dm (k + 1))) (by exact (jSi_Sv _ _ _ _ _).trans (congrArg (jSv _ _) mCp_s)) ?_
                refine J_iinc (y := nI (k + 1)) (lv' := [.ref (m), .int (op), .int (nI (one)), .int (nI (other)), .int (nI (t)), .int (nI (n)), .float 0, .int (nI (k + 1)), .float 0, .float 0]) dX8_joins_208 rfl (jinc (k)) (by decide) rfl rfl ?_
                refine J_goto (tgt := 180) dX8_joins_211 (by decide) ?_
                exact ih180 (k + 1) (by omega) (by omega)
          refine J_iconst (x := 0) dX8_joins_177 (by decide) ?_
          refine J_istore (lv' := [.ref (m), .int (op), .int (nI (one)), .int (nI (other)), .int (nI (t)), .int (nI (n)), .int (nI (p)), .int (0), .float 0, .float 0]) dX8_joins_178 (by decide) rfl rfl ?_
          refine J_fg 6 (lv' := [.ref (m), .int (op), .int (nI (one)), .int (nI (other)), .int (nI (t)), .int (nI (n)), .float 0, .int (0), .float 0, .float 0]) rfl ?_
          exact L180 _ (0) (by omega) (Nat.lt_succ_self _)
        · have c163 := jleF (a := n) (b := 16) (by omega) (by omega) c163
          refine J_iconst (x := 0) dX8_joins_166 (by decide) ?_
          exact J_iret (ty := .boolean) dX8_joins_167 rfl (by rfl) (by exact ⟨n, Dm, y, ji M (m + 6), hend, (jSv_g jMd6).symm, fun _ _ => rfl, Or.inl ⟨by omega, rfl⟩⟩)
      · have c10 := jltF (a := 99999999) (b := p) (by omega) (by omega) c10
        have hp9 : p < 100000000 := by omega
        obtain ⟨z9, rfl⟩ := hI.fu1 hp9
        obtain ⟨x1, e1, hx11, hx12, _⟩ := rNext_nat hw1 hp9
        obtain ⟨x2, e2, hx21, hx22, _⟩ := rNext_nat hw2 hp9
        have hnx : jNx w1 w2 (nI p) = nI (min x1 x2) := by unfold jNx; rw [e1, e2, rMin_n hx12 hx22]
        have hrm := hI.room h161 h162
        refine J_aload_n (m) dX8_joins_13 rfl rfl ?_
        refine J_getrs (q := m + 6) r6 dX8_joins_14 (fun _ h => List.mem_cons_of_mem _ (List.mem_append_left _ (List.mem_append_right _ (h)))) cs11 (by decide) rfl (List.mem_of_getElem? (i := 2) rfl) rfl (show m < jn M from by omega) m2 ?_
        refine J_iload_n dX8_joins_17 rfl rfl ?_
        refine J_iload dX8_joins_18 rfl ?_
        refine J_calli0 (jrunS (As := [.ref (m + 6), .int (nI (one)), .int (nI (p))]) (ct_X8_turn l D dA hst ((jSi (jSv M (m + 7) Dm) m 14 y)) (m + 6) 2112 one (show m + 6 < jn M by omega) k6 z6 (by omega) (by omega) w1 (((hx1).sv (by omega)).si (by omega)) (nI (p))) dX8_joins_20 yY_X8_turn gX8_joins_X8_turn rfl ⟨by omega, by omega⟩ ⟨Nat.zero_le _, Nat.zero_le _⟩ rfl (Nat.le_of_ble_eq_true rfl)) (rfl) (rfl) ?_
        refine J_topi (y := nI (x1)) (by rw [mTurn_eq hw1]; exact e1) ?_
        refine J_istore (lv' := [.ref (m), .int (op), .int (nI (one)), .int (nI (other)), .int (nI (t)), .int (nI (n)), .int (nI (p)), .int (nI (x1)), .float 0, .float 0]) dX8_joins_23 (by decide) rfl rfl ?_
        refine J_aload_n (m) dX8_joins_25 rfl rfl ?_
        refine J_getrs (q := m + 6) r6 dX8_joins_26 (fun _ h => List.mem_cons_of_mem _ (List.mem_append_left _ (List.mem_append_right _ (h)))) cs11 (by decide) rfl (List.mem_of_getElem? (i := 2) rfl) rfl (show m < jn M from by omega) m2 ?_
        refine J_iload_n dX8_joins_29 rfl rfl ?_
        refine J_iload dX8_joins_30 rfl ?_
        refine J_calli0 (jrunS (As := [.ref (m + 6), .int (nI (other)), .int (nI (p))]) (ct_X8_turn l D dA hst ((jSi (jSv M (m + 7) Dm) m 14 y)) (m + 6) 2112 other (show m + 6 < jn M by omega) k6 z6 (by omega) (by omega) w2 (((hx2).sv (by omega)).si (by omega)) (nI (p))) dX8_joins_32 yY_X8_turn gX8_joins_X8_turn rfl ⟨by omega, by omega⟩ ⟨Nat.zero_le _, Nat.zero_le _⟩ rfl (Nat.le_of_ble_eq_true rfl)) (rfl) (rfl) ?_
        refine J_topi (y := nI (x2)) (by rw [mTurn_eq hw2]; exact e2) ?_
        refine J_istore (lv' := [.ref (m), .int (op), .int (nI (one)), .int (nI (other)), .int (nI (t)), .int (nI (n)), .int (nI (p)), .int (nI (x1)), .int (nI (x2)), .float 0]) dX8_joins_35 (by decide) rfl rfl ?_
        refine J_iload dX8_joins_37 rfl ?_
        refine J_iload dX8_joins_39 rfl ?_
        refine J_icmp_ge dX8_joins_41 (tgt := 49) (by decide) (fun c41 => ?_) (fun c41 => ?_)
        · have c41 := jleT (a := x2) (b := x1) (by omega) (by omega) c41
          refine J_iload dX8_joins_49 rfl ?_
          refine J_topi (y := nI (min x1 x2)) (by rw [show min x1 x2 = x2 from by omega]) ?_
          refine J_istore (lv' := [.ref (m), .int (op), .int (nI (one)), .int (nI (other)), .int (nI (t)), .int (nI (n)), .int (nI (p)), .int (nI (x1)), .int (nI (x2)), .int (nI (min x1 x2))]) dX8_joins_51 (by decide) rfl rfl ?_
          refine J_iload_n dX8_joins_53 rfl rfl ?_
          refine J_aload_n (m) dX8_joins_54 rfl rfl ?_
          refine J_aload_n (m) dX8_joins_55 rfl rfl ?_
          refine J_getrs (q := m + 6) r6 dX8_joins_56 (fun _ h => List.mem_cons_of_mem _ (List.mem_append_left _ (List.mem_append_right _ (h)))) cs11 (by decide) rfl (List.mem_of_getElem? (i := 2) rfl) rfl (show m < jn M from by omega) m2 ?_
          refine J_iload_n dX8_joins_59 rfl rfl ?_
          refine J_iload dX8_joins_60 rfl ?_
          refine J_calli (jrunV (As := [.ref (m + 6), .int (nI (one)), .int (nI (p))]) (ct_X8_belongs l D dA hst ((jSi (jSv M (m + 7) Dm) m 14 y)) m hM (m + 6) 2112 one (show m + 6 < jn M by omega) k6 z6 (by omega) (by omega) (by omega) w1 hw1 (((hx1).sv (by omega)).si (by omega)) (nI (p))) dX8_joins_62 yY_X8_belongs gX8_joins_X8_belongs rfl cs11 (show m < jn M from by omega) m2 rfl ⟨by omega, by omega⟩ ⟨Nat.zero_le _, Nat.zero_le _⟩ rfl (Nat.le_of_ble_eq_true rfl)) ⟨Nat.zero_le _, Nat.zero_le _⟩ (Or.inr ⟨(jOk.ref (show m < jn M from by omega) (jOk.int (jOk.int (jOk.int (jOk.int (jOk.int (jOk.int (jOk.int (jOk.int (jOk.int jOk.nil)))))))))), (jOk.int jOk.nil)⟩) (fun E M9 hp _ => by obtain ⟨_, h1, _⟩ := hp; cases h1) (fun x9 M1 hp62 hle62 => ?_)
          obtain ⟨xs62, he, rfl, _⟩ := hp62
          cases he
          refine J_mem (M' := jSi (jSv M (m + 7) Dm) m 14 xs62) (jSi_jSi _ _ _ _ _) ?_
          refine J_aload_n (m) dX8_joins_65 rfl rfl ?_
          refine J_aload_n (m) dX8_joins_66 rfl rfl ?_
          refine J_getrs (q := m + 6) r6 dX8_joins_67 (fun _ h => List.mem_cons_of_mem _ (List.mem_append_left _ (List.mem_append_right _ (h)))) cs11 (by decide) rfl (List.mem_of_getElem? (i := 2) rfl) rfl (show m < jn M from by omega) m2 ?_
          refine J_iload_n dX8_joins_70 rfl rfl ?_
          refine J_iload dX8_joins_71 rfl ?_
          refine J_calli (jrunV (As := [.ref (m + 6), .int (nI (other)), .int (nI (p))]) (ct_X8_belongs l D dA hst ((jSi (jSv M (m + 7) Dm) m 14 xs62)) m hM (m + 6) 2112 other (show m + 6 < jn M by omega) k6 z6 (by omega) (by omega) (by omega) w2 hw2 (((hx2).sv (by omega)).si (by omega)) (nI (p))) dX8_joins_73 yY_X8_belongs gX8_joins_X8_belongs rfl cs11 (show m < jn M from by omega) m2 rfl ⟨by omega, by omega⟩ ⟨Nat.zero_le _, Nat.zero_le _⟩ rfl (Nat.le_of_ble_eq_true rfl)) ⟨Nat.zero_le _, Nat.zero_le _⟩ (Or.inr ⟨(jOk.ref (show m < jn M from by omega) (jOk.int (jOk.int (jOk.int (jOk.int (jOk.int (jOk.int (jOk.int (jOk.int (jOk.int jOk.nil)))))))))), (jOk.int (jOk.int jOk.nil))⟩) (fun E M9 hp _ => by obtain ⟨_, h1, _⟩ := hp; cases h1) (fun x9 M1 hp73 hle73 => ?_)
          obtain ⟨xs73, he, rfl, _⟩ := hp73
          cases he
          refine J_mem (M' := jSi (jSv M (m + 7) Dm) m 14 xs73) (jSi_jSi _ _ _ _ _) ?_
          refine J_calli0 (jrunS (As := [.int (op), .int (jb (rHolds w1.2 w1.1 (nI (p)))), .int (jb (rHolds w2.2 w2.1 (nI (p))))]) (ct_X8_gives l D dA hst ((jSi (jSv M (m + 7) Dm) m 14 xs73)) ((op)) (rHolds w1.2 w1.1 (nI (p))) (rHolds w2.2 w2.1 (nI (p)))) dX8_joins_76 yY_X8_gives gX8_joins_X8_gives rfl ⟨by omega, by omega⟩ ⟨Nat.zero_le _, Nat.zero_le _⟩ rfl (Nat.le_of_ble_eq_true rfl)) (rfl) (rfl) ?_
          refine J_if_eq dX8_joins_79 (tgt := 152) (by decide) (fun c79 => ?_) (fun c79 => ?_)
          · have c79 := jb0T c79
            refine J_iload dX8_joins_152 rfl ?_
            refine J_istore (lv' := [.ref (m), .int (op), .int (nI (one)), .int (nI (other)), .int (nI (t)), .int (nI (n)), .int (nI (min x1 x2)), .int (nI (x1)), .int (nI (x2)), .int (nI (min x1 x2))]) dX8_joins_154 (by decide) rfl rfl ?_
            refine J_goto (tgt := 6) dX8_joins_156 (by decide) ?_
            refine J_fg 7 (lv' := [.ref (m), .int (op), .int (nI (one)), .int (nI (other)), .int (nI (t)), .int (nI (n)), .int (nI (min x1 x2)), .float 0, .int (nI (x2)), .int (nI (min x1 x2))]) rfl ?_
            refine J_fg 8 (lv' := [.ref (m), .int (op), .int (nI (one)), .int (nI (other)), .int (nI (t)), .int (nI (n)), .int (nI (min x1 x2)), .float 0, .float 0, .int (nI (min x1 x2))]) rfl ?_
            refine J_fg 9 (lv' := [.ref (m), .int (op), .int (nI (one)), .int (nI (other)), .int (nI (t)), .int (nI (n)), .int (nI (min x1 x2)), .float 0, .float 0, .float 0]) rfl ?_
            exact ih6 (z9) (min x1 x2) (n) (Dm) (xs73) (by exact hI.n hw1 hw2 hp9 hnx (by omega) (by omega) (by unfold jMt; rw [c79]; decide) ) (by omega)
          · have c79 := jb0F c79
            refine J_iload dX8_joins_82 rfl ?_
            refine J_if_le dX8_joins_84 (tgt := 123) (by decide) (fun c84 => ?_) (fun c84 => ?_)
            · have c84 := jleT (a := n) (b := 0) (by omega) (by omega) c84
              refine J_aload_n (m) dX8_joins_123 rfl rfl ?_
              refine J_getrs (q := m + 7) r7 dX8_joins_124 (fun _ h => List.mem_cons_of_mem _ (List.mem_append_left _ (List.mem_append_right _ (h)))) cs11 (by decide) rfl (List.mem_of_getElem? (i := 3) rfl) rfl (show m < jn M from by omega) m2 ?_
              refine J_iconst (x := 2) dX8_joins_127 (by decide) ?_
              refine J_iload dX8_joins_128 rfl ?_
              refine J_imul dX8_joins_130 ?_
              refine J_topi (y := nI (2 * n)) (pk_mul (2) (n)) ?_
              refine J_iload dX8_joins_131 rfl ?_
              refine J_iastN (k := 2 * n) dX8_joins_133 (show m + 7 < jn M from by omega) k7 (by exact Nat.lt_of_lt_of_eq (show _ < 200 by omega) (Eq.symm z7)) (by exact Nat.lt_of_le_of_lt (Nat.le_of_eq z7) (show 200 < 2 ^ 31 by omega)) ?_
              refine J_mem (M' := jSi (jSv M (m + 7) (upd Dm (2 * n) (nI p))) m 14 xs73) (by exact mMd (by omega)) ?_
              refine J_aload_n (m) dX8_joins_134 rfl rfl ?_
              refine J_getrs (q := m + 7) r7 dX8_joins_135 (fun _ h => List.mem_cons_of_mem _ (List.mem_append_left _ (List.mem_append_right _ (h)))) cs11 (by decide) rfl (List.mem_of_getElem? (i := 3) rfl) rfl (show m < jn M from by omega) m2 ?_
              refine J_iconst (x := 2) dX8_joins_138 (by decide) ?_
              refine J_iload dX8_joins_139 rfl ?_
              refine J_imul dX8_joins_141 ?_
              refine J_topi (y := nI (2 * n)) (pk_mul (2) (n)) ?_
              refine J_iconst (x := 1) dX8_joins_142 (by decide) ?_
              refine J_iadd dX8_joins_143 ?_
              refine J_topi (y := nI (2 * n + 1)) (nI_add (2 * n) (1)) ?_
              refine J_iload dX8_joins_144 rfl ?_
              refine J_iconst (x := 1) dX8_joins_146 (by decide) ?_
              refine J_isub dX8_joins_147 ?_
              refine J_topi (y := nI (min x1 x2 - 1)) (pk_sub (a := min x1 x2) (b := 1) (by omega)) ?_
              refine J_iastN (k := 2 * n + 1) dX8_joins_148 (show m + 7 < jn M from by omega) k7 (by exact Nat.lt_of_lt_of_eq (show _ < 200 by omega) (Eq.symm z7)) (by exact Nat.lt_of_le_of_lt (Nat.le_of_eq z7) (show 200 < 2 ^ 31 by omega)) ?_
              refine J_mem (M' := jSi (jSv M (m + 7) (upd (upd Dm (2 * n) (nI p)) (2 * n + 1) (nI (min x1 x2 - 1)))) m 14 xs73) (by exact mMd (by omega)) ?_
              refine J_iinc (y := nI (n + 1)) (lv' := [.ref (m), .int (op), .int (nI (one)), .int (nI (other)), .int (nI (t)), .int (nI (n + 1)), .int (nI (p)), .int (nI (x1)), .int (nI (x2)), .int (nI (min x1 x2))]) dX8_joins_149 rfl (jinc (n)) (by decide) rfl rfl ?_
              refine J_iload dX8_joins_152 rfl ?_
              refine J_istore (lv' := [.ref (m), .int (op), .int (nI (one)), .int (nI (other)), .int (nI (t)), .int (nI (n + 1)), .int (nI (min x1 x2)), .int (nI (x1)), .int (nI (x2)), .int (nI (min x1 x2))]) dX8_joins_154 (by decide) rfl rfl ?_
              refine J_goto (tgt := 6) dX8_joins_156 (by decide) ?_
              refine J_fg 7 (lv' := [.ref (m), .int (op), .int (nI (one)), .int (nI (other)), .int (nI (t)), .int (nI (n + 1)), .int (nI (min x1 x2)), .float 0, .int (nI (x2)), .int (nI (min x1 x2))]) rfl ?_
              refine J_fg 8 (lv' := [.ref (m), .int (op), .int (nI (one)), .int (nI (other)), .int (nI (t)), .int (nI (n + 1)), .int (nI (min x1 x2)), .float 0, .float 0, .int (nI (min x1 x2))]) rfl ?_
              refine J_fg 9 (lv' := [.ref (m), .int (op), .int (nI (one)), .int (nI (other)), .int (nI (t)), .int (nI (n + 1)), .int (nI (min x1 x2)), .float 0, .float 0, .float 0]) rfl ?_
              exact ih6 (z9) (min x1 x2) (n + 1) ((upd (upd Dm (2 * n) (nI p)) (2 * n + 1) (nI (min x1 x2 - 1)))) (xs73) (by exact hI.a hw1 hw2 hp9 hnx (by omega) (by omega) c79 (fun h9 => by first | omega | exact c102 h9.2)) (by omega)
            · have c84 := jleF (a := n) (b := 0) (by omega) (by omega) c84
              refine J_aload_n (m) dX8_joins_87 rfl rfl ?_
              refine J_getrs (q := m + 7) r7 dX8_joins_88 (fun _ h => List.mem_cons_of_mem _ (List.mem_append_left _ (List.mem_append_right _ (h)))) cs11 (by decide) rfl (List.mem_of_getElem? (i := 3) rfl) rfl (show m < jn M from by omega) m2 ?_
              refine J_iconst (x := 2) dX8_joins_91 (by decide) ?_
              refine J_iload dX8_joins_92 rfl ?_
              refine J_imul dX8_joins_94 ?_
              refine J_topi (y := nI (2 * n)) (pk_mul (2) (n)) ?_
              refine J_iconst (x := 1) dX8_joins_95 (by decide) ?_
              refine J_isub dX8_joins_96 ?_
              refine J_topi (y := nI (2 * n - 1)) (pk_sub (a := 2 * n) (b := 1) (by omega)) ?_
              refine J_ialdN (k := 2 * n - 1) dX8_joins_97 (show m + 7 < jn M from by omega) k7 (by exact Nat.lt_of_lt_of_eq (show _ < 200 by omega) (Eq.symm z7)) (by exact Nat.lt_of_le_of_lt (Nat.le_of_eq z7) (show 200 < 2 ^ 31 by omega)) ?_
              refine J_topi (y := (Dm (2 * n - 1))) (by rw [ji_Sin (by omega), ji_Sv, if_pos rfl]) ?_
              refine J_iload dX8_joins_98 rfl ?_
              refine J_iconst (x := 1) dX8_joins_100 (by decide) ?_
              refine J_isub dX8_joins_101 ?_
              refine J_icmp_ne dX8_joins_102 (tgt := 123) (by decide) (fun c102 => ?_) (fun c102 => ?_)
              · refine J_aload_n (m) dX8_joins_123 rfl rfl ?_
                refine J_getrs (q := m + 7) r7 dX8_joins_124 (fun _ h => List.mem_cons_of_mem _ (List.mem_append_left _ (List.mem_append_right _ (h)))) cs11 (by decide) rfl (List.mem_of_getElem? (i := 3) rfl) rfl (show m < jn M from by omega) m2 ?_
                refine J_iconst (x := 2) dX8_joins_127 (by decide) ?_
                refine J_iload dX8_joins_128 rfl ?_
                refine J_imul dX8_joins_130 ?_
                refine J_topi (y := nI (2 * n)) (pk_mul (2) (n)) ?_
                refine J_iload dX8_joins_131 rfl ?_
                refine J_iastN (k := 2 * n) dX8_joins_133 (show m + 7 < jn M from by omega) k7 (by exact Nat.lt_of_lt_of_eq (show _ < 200 by omega) (Eq.symm z7)) (by exact Nat.lt_of_le_of_lt (Nat.le_of_eq z7) (show 200 < 2 ^ 31 by omega)) ?_
                refine J_mem (M' := jSi (jSv M (m + 7) (upd Dm (2 * n) (nI p))) m 14 xs73) (by exact mMd (by omega)) ?_
                refine J_aload_n (m) dX8_joins_134 rfl rfl ?_
                refine J_getrs (q := m + 7) r7 dX8_joins_135 (fun _ h => List.mem_cons_of_mem _ (List.mem_append_left _ (List.mem_append_right _ (h)))) cs11 (by decide) rfl (List.mem_of_getElem? (i := 3) rfl) rfl (show m < jn M from by omega) m2 ?_
                refine J_iconst (x := 2) dX8_joins_138 (by decide) ?_
                refine J_iload dX8_joins_139 rfl ?_
                refine J_imul dX8_joins_141 ?_
                refine J_topi (y := nI (2 * n)) (pk_mul (2) (n)) ?_
                refine J_iconst (x := 1) dX8_joins_142 (by decide) ?_
                refine J_iadd dX8_joins_143 ?_
                refine J_topi (y := nI (2 * n + 1)) (nI_add (2 * n) (1)) ?_
                refine J_iload dX8_joins_144 rfl ?_
                refine J_iconst (x := 1) dX8_joins_146 (by decide) ?_
                refine J_isub dX8_joins_147 ?_
                refine J_topi (y := nI (min x1 x2 - 1)) (pk_sub (a := min x1 x2) (b := 1) (by omega)) ?_
                refine J_iastN (k := 2 * n + 1) dX8_joins_148 (show m + 7 < jn M from by omega) k7 (by exact Nat.lt_of_lt_of_eq (show _ < 200 by omega) (Eq.symm z7)) (by exact Nat.lt_of_le_of_lt (Nat.le_of_eq z7) (show 200 < 2 ^ 31 by omega)) ?_
                refine J_mem (M' := jSi (jSv M (m + 7) (upd (upd Dm (2 * n) (nI p)) (2 * n + 1) (nI (min x1 x2 - 1)))) m 14 xs73) (by exact mMd (by omega)) ?_
                refine J_iinc (y := nI (n + 1)) (lv' := [.ref (m), .int (op), .int (nI (one)), .int (nI (other)), .int (nI (t)), .int (nI (n + 1)), .int (nI (p)), .int (nI (x1)), .int (nI (x2)), .int (nI (min x1 x2))]) dX8_joins_149 rfl (jinc (n)) (by decide) rfl rfl ?_
                refine J_iload dX8_joins_152 rfl ?_
                refine J_istore (lv' := [.ref (m), .int (op), .int (nI (one)), .int (nI (other)), .int (nI (t)), .int (nI (n + 1)), .int (nI (min x1 x2)), .int (nI (x1)), .int (nI (x2)), .int (nI (min x1 x2))]) dX8_joins_154 (by decide) rfl rfl ?_
                refine J_goto (tgt := 6) dX8_joins_156 (by decide) ?_
                refine J_fg 7 (lv' := [.ref (m), .int (op), .int (nI (one)), .int (nI (other)), .int (nI (t)), .int (nI (n + 1)), .int (nI (min x1 x2)), .float 0, .int (nI (x2)), .int (nI (min x1 x2))]) rfl ?_
                refine J_fg 8 (lv' := [.ref (m), .int (op), .int (nI (one)), .int (nI (other)), .int (nI (t)), .int (nI (n + 1)), .int (nI (min x1 x2)), .float 0, .float 0, .int (nI (min x1 x2))]) rfl ?_
                refine J_fg 9 (lv' := [.ref (m), .int (op), .int (nI (one)), .int (nI (other)), .int (nI (t)), .int (nI (n + 1)), .int (nI (min x1 x2)), .float 0, .float 0, .float 0]) rfl ?_
                exact ih6 (z9) (min x1 x2) (n + 1) ((upd (upd Dm (2 * n) (nI p)) (2 * n + 1) (nI (min x1 x2 - 1)))) (xs73) (by exact hI.a hw1 hw2 hp9 hnx (by omega) (by omega) c79 (fun h9 => by first | omega | exact c102 h9.2)) (by omega)
              · refine J_aload_n (m) dX8_joins_105 rfl rfl ?_
                refine J_getrs (q := m + 7) r7 dX8_joins_106 (fun _ h => List.mem_cons_of_mem _ (List.mem_append_left _ (List.mem_append_right _ (h)))) cs11 (by decide) rfl (List.mem_of_getElem? (i := 3) rfl) rfl (show m < jn M from by omega) m2 ?_
                refine J_iconst (x := 2) dX8_joins_109 (by decide) ?_
                refine J_iload dX8_joins_110 rfl ?_
                refine J_imul dX8_joins_112 ?_
                refine J_topi (y := nI (2 * n)) (pk_mul (2) (n)) ?_
                refine J_iconst (x := 1) dX8_joins_113 (by decide) ?_
                refine J_isub dX8_joins_114 ?_
                refine J_topi (y := nI (2 * n - 1)) (pk_sub (a := 2 * n) (b := 1) (by omega)) ?_
                refine J_iload dX8_joins_115 rfl ?_
                refine J_iconst (x := 1) dX8_joins_117 (by decide) ?_
                refine J_isub dX8_joins_118 ?_
                refine J_topi (y := nI (min x1 x2 - 1)) (pk_sub (a := min x1 x2) (b := 1) (by omega)) ?_
                refine J_iastN (k := 2 * n - 1) dX8_joins_119 (show m + 7 < jn M from by omega) k7 (by exact Nat.lt_of_lt_of_eq (show _ < 200 by omega) (Eq.symm z7)) (by exact Nat.lt_of_le_of_lt (Nat.le_of_eq z7) (show 200 < 2 ^ 31 by omega)) ?_
                refine J_mem (M' := jSi (jSv M (m + 7) (upd Dm (2 * n - 1) (nI (min x1 x2 - 1)))) m 14 xs73) (by exact mMd (by omega)) ?_
                refine J_goto (tgt := 152) dX8_joins_120 (by decide) ?_
                refine J_iload dX8_joins_152 rfl ?_
                refine J_istore (lv' := [.ref (m), .int (op), .int (nI (one)), .int (nI (other)), .int (nI (t)), .int (nI (n)), .int (nI (min x1 x2)), .int (nI (x1)), .int (nI (x2)), .int (nI (min x1 x2))]) dX8_joins_154 (by decide) rfl rfl ?_
                refine J_goto (tgt := 6) dX8_joins_156 (by decide) ?_
                refine J_fg 7 (lv' := [.ref (m), .int (op), .int (nI (one)), .int (nI (other)), .int (nI (t)), .int (nI (n)), .int (nI (min x1 x2)), .float 0, .int (nI (x2)), .int (nI (min x1 x2))]) rfl ?_
                refine J_fg 8 (lv' := [.ref (m), .int (op), .int (nI (one)), .int (nI (other)), .int (nI (t)), .int (nI (n)), .int (nI (min x1 x2)), .float 0, .float 0, .int (nI (min x1 x2))]) rfl ?_
                refine J_fg 9 (lv' := [.ref (m), .int (op), .int (nI (one)), .int (nI (other)), .int (nI (t)), .int (nI (n)), .int (nI (min x1 x2)), .float 0, .float 0, .float 0]) rfl ?_
                exact ih6 (z9) (min x1 x2) (n) ((upd Dm (2 * n - 1) (nI (min x1 x2 - 1)))) (xs73) (by exact hI.m hw1 hw2 hp9 hnx (by omega) (by omega) c79 (by omega) c102) (by omega)
        · have c41 := jleF (a := x2) (b := x1) (by omega) (by omega) c41
          refine J_iload dX8_joins_44 rfl ?_
          refine J_goto (tgt := 51) dX8_joins_46 (by decide) ?_
          refine J_topi (y := nI (min x1 x2)) (by rw [show min x1 x2 = x1 from by omega]) ?_
          refine J_istore (lv' := [.ref (m), .int (op), .int (nI (one)), .int (nI (other)), .int (nI (t)), .int (nI (n)), .int (nI (p)), .int (nI (x1)), .int (nI (x2)), .int (nI (min x1 x2))]) dX8_joins_51 (by decide) rfl rfl ?_
          refine J_iload_n dX8_joins_53 rfl rfl ?_
          refine J_aload_n (m) dX8_joins_54 rfl rfl ?_
          refine J_aload_n (m) dX8_joins_55 rfl rfl ?_
          refine J_getrs (q := m + 6) r6 dX8_joins_56 (fun _ h => List.mem_cons_of_mem _ (List.mem_append_left _ (List.mem_append_right _ (h)))) cs11 (by decide) rfl (List.mem_of_getElem? (i := 2) rfl) rfl (show m < jn M from by omega) m2 ?_
          refine J_iload_n dX8_joins_59 rfl rfl ?_
          refine J_iload dX8_joins_60 rfl ?_
          refine J_calli (jrunV (As := [.ref (m + 6), .int (nI (one)), .int (nI (p))]) (ct_X8_belongs l D dA hst ((jSi (jSv M (m + 7) Dm) m 14 y)) m hM (m + 6) 2112 one (show m + 6 < jn M by omega) k6 z6 (by omega) (by omega) (by omega) w1 hw1 (((hx1).sv (by omega)).si (by omega)) (nI (p))) dX8_joins_62 yY_X8_belongs gX8_joins_X8_belongs rfl cs11 (show m < jn M from by omega) m2 rfl ⟨by omega, by omega⟩ ⟨Nat.zero_le _, Nat.zero_le _⟩ rfl (Nat.le_of_ble_eq_true rfl)) ⟨Nat.zero_le _, Nat.zero_le _⟩ (Or.inr ⟨(jOk.ref (show m < jn M from by omega) (jOk.int (jOk.int (jOk.int (jOk.int (jOk.int (jOk.int (jOk.int (jOk.int (jOk.int jOk.nil)))))))))), (jOk.int jOk.nil)⟩) (fun E M9 hp _ => by obtain ⟨_, h1, _⟩ := hp; cases h1) (fun x9 M1 hp62 hle62 => ?_)
          obtain ⟨xs62, he, rfl, _⟩ := hp62
          cases he
          refine J_mem (M' := jSi (jSv M (m + 7) Dm) m 14 xs62) (jSi_jSi _ _ _ _ _) ?_
          refine J_aload_n (m) dX8_joins_65 rfl rfl ?_
          refine J_aload_n (m) dX8_joins_66 rfl rfl ?_
          refine J_getrs (q := m + 6) r6 dX8_joins_67 (fun _ h => List.mem_cons_of_mem _ (List.mem_append_left _ (List.mem_append_right _ (h)))) cs11 (by decide) rfl (List.mem_of_getElem? (i := 2) rfl) rfl (show m < jn M from by omega) m2 ?_
          refine J_iload_n dX8_joins_70 rfl rfl ?_
          refine J_iload dX8_joins_71 rfl ?_
          refine J_calli (jrunV (As := [.ref (m + 6), .int (nI (other)), .int (nI (p))]) (ct_X8_belongs l D dA hst ((jSi (jSv M (m + 7) Dm) m 14 xs62)) m hM (m + 6) 2112 other (show m + 6 < jn M by omega) k6 z6 (by omega) (by omega) (by omega) w2 hw2 (((hx2).sv (by omega)).si (by omega)) (nI (p))) dX8_joins_73 yY_X8_belongs gX8_joins_X8_belongs rfl cs11 (show m < jn M from by omega) m2 rfl ⟨by omega, by omega⟩ ⟨Nat.zero_le _, Nat.zero_le _⟩ rfl (Nat.le_of_ble_eq_true rfl)) ⟨Nat.zero_le _, Nat.zero_le _⟩ (Or.inr ⟨(jOk.ref (show m < jn M from by omega) (jOk.int (jOk.int (jOk.int (jOk.int (jOk.int (jOk.int (jOk.int (jOk.int (jOk.int jOk.nil)))))))))), (jOk.int (jOk.int jOk.nil))⟩) (fun E M9 hp _ => by obtain ⟨_, h1, _⟩ := hp; cases h1) (fun x9 M1 hp73 hle73 => ?_)
          obtain ⟨xs73, he, rfl, _⟩ := hp73
          cases he
          refine J_mem (M' := jSi (jSv M (m + 7) Dm) m 14 xs73) (jSi_jSi _ _ _ _ _) ?_
          refine J_calli0 (jrunS (As := [.int (op), .int (jb (rHolds w1.2 w1.1 (nI (p)))), .int (jb (rHolds w2.2 w2.1 (nI (p))))]) (ct_X8_gives l D dA hst ((jSi (jSv M (m + 7) Dm) m 14 xs73)) ((op)) (rHolds w1.2 w1.1 (nI (p))) (rHolds w2.2 w2.1 (nI (p)))) dX8_joins_76 yY_X8_gives gX8_joins_X8_gives rfl ⟨by omega, by omega⟩ ⟨Nat.zero_le _, Nat.zero_le _⟩ rfl (Nat.le_of_ble_eq_true rfl)) (rfl) (rfl) ?_
          refine J_if_eq dX8_joins_79 (tgt := 152) (by decide) (fun c79 => ?_) (fun c79 => ?_)
          · have c79 := jb0T c79
            refine J_iload dX8_joins_152 rfl ?_
            refine J_istore (lv' := [.ref (m), .int (op), .int (nI (one)), .int (nI (other)), .int (nI (t)), .int (nI (n)), .int (nI (min x1 x2)), .int (nI (x1)), .int (nI (x2)), .int (nI (min x1 x2))]) dX8_joins_154 (by decide) rfl rfl ?_
            refine J_goto (tgt := 6) dX8_joins_156 (by decide) ?_
            refine J_fg 7 (lv' := [.ref (m), .int (op), .int (nI (one)), .int (nI (other)), .int (nI (t)), .int (nI (n)), .int (nI (min x1 x2)), .float 0, .int (nI (x2)), .int (nI (min x1 x2))]) rfl ?_
            refine J_fg 8 (lv' := [.ref (m), .int (op), .int (nI (one)), .int (nI (other)), .int (nI (t)), .int (nI (n)), .int (nI (min x1 x2)), .float 0, .float 0, .int (nI (min x1 x2))]) rfl ?_
            refine J_fg 9 (lv' := [.ref (m), .int (op), .int (nI (one)), .int (nI (other)), .int (nI (t)), .int (nI (n)), .int (nI (min x1 x2)), .float 0, .float 0, .float 0]) rfl ?_
            exact ih6 (z9) (min x1 x2) (n) (Dm) (xs73) (by exact hI.n hw1 hw2 hp9 hnx (by omega) (by omega) (by unfold jMt; rw [c79]; decide) ) (by omega)
          · have c79 := jb0F c79
            refine J_iload dX8_joins_82 rfl ?_
            refine J_if_le dX8_joins_84 (tgt := 123) (by decide) (fun c84 => ?_) (fun c84 => ?_)
            · have c84 := jleT (a := n) (b := 0) (by omega) (by omega) c84
              refine J_aload_n (m) dX8_joins_123 rfl rfl ?_
              refine J_getrs (q := m + 7) r7 dX8_joins_124 (fun _ h => List.mem_cons_of_mem _ (List.mem_append_left _ (List.mem_append_right _ (h)))) cs11 (by decide) rfl (List.mem_of_getElem? (i := 3) rfl) rfl (show m < jn M from by omega) m2 ?_
              refine J_iconst (x := 2) dX8_joins_127 (by decide) ?_
              refine J_iload dX8_joins_128 rfl ?_
              refine J_imul dX8_joins_130 ?_
              refine J_topi (y := nI (2 * n)) (pk_mul (2) (n)) ?_
              refine J_iload dX8_joins_131 rfl ?_
              refine J_iastN (k := 2 * n) dX8_joins_133 (show m + 7 < jn M from by omega) k7 (by exact Nat.lt_of_lt_of_eq (show _ < 200 by omega) (Eq.symm z7)) (by exact Nat.lt_of_le_of_lt (Nat.le_of_eq z7) (show 200 < 2 ^ 31 by omega)) ?_
              refine J_mem (M' := jSi (jSv M (m + 7) (upd Dm (2 * n) (nI p))) m 14 xs73) (by exact mMd (by omega)) ?_
              refine J_aload_n (m) dX8_joins_134 rfl rfl ?_
              refine J_getrs (q := m + 7) r7 dX8_joins_135 (fun _ h => List.mem_cons_of_mem _ (List.mem_append_left _ (List.mem_append_right _ (h)))) cs11 (by decide) rfl (List.mem_of_getElem? (i := 3) rfl) rfl (show m < jn M from by omega) m2 ?_
              refine J_iconst (x := 2) dX8_joins_138 (by decide) ?_
              refine J_iload dX8_joins_139 rfl ?_
              refine J_imul dX8_joins_141 ?_
              refine J_topi (y := nI (2 * n)) (pk_mul (2) (n)) ?_
              refine J_iconst (x := 1) dX8_joins_142 (by decide) ?_
              refine J_iadd dX8_joins_143 ?_
              refine J_topi (y := nI (2 * n + 1)) (nI_add (2 * n) (1)) ?_
              refine J_iload dX8_joins_144 rfl ?_
              refine J_iconst (x := 1) dX8_joins_146 (by decide) ?_
              refine J_isub dX8_joins_147 ?_
              refine J_topi (y := nI (min x1 x2 - 1)) (pk_sub (a := min x1 x2) (b := 1) (by omega)) ?_
              refine J_iastN (k := 2 * n + 1) dX8_joins_148 (show m + 7 < jn M from by omega) k7 (by exact Nat.lt_of_lt_of_eq (show _ < 200 by omega) (Eq.symm z7)) (by exact Nat.lt_of_le_of_lt (Nat.le_of_eq z7) (show 200 < 2 ^ 31 by omega)) ?_
              refine J_mem (M' := jSi (jSv M (m + 7) (upd (upd Dm (2 * n) (nI p)) (2 * n + 1) (nI (min x1 x2 - 1)))) m 14 xs73) (by exact mMd (by omega)) ?_
              refine J_iinc (y := nI (n + 1)) (lv' := [.ref (m), .int (op), .int (nI (one)), .int (nI (other)), .int (nI (t)), .int (nI (n + 1)), .int (nI (p)), .int (nI (x1)), .int (nI (x2)), .int (nI (min x1 x2))]) dX8_joins_149 rfl (jinc (n)) (by decide) rfl rfl ?_
              refine J_iload dX8_joins_152 rfl ?_
              refine J_istore (lv' := [.ref (m), .int (op), .int (nI (one)), .int (nI (other)), .int (nI (t)), .int (nI (n + 1)), .int (nI (min x1 x2)), .int (nI (x1)), .int (nI (x2)), .int (nI (min x1 x2))]) dX8_joins_154 (by decide) rfl rfl ?_
              refine J_goto (tgt := 6) dX8_joins_156 (by decide) ?_
              refine J_fg 7 (lv' := [.ref (m), .int (op), .int (nI (one)), .int (nI (other)), .int (nI (t)), .int (nI (n + 1)), .int (nI (min x1 x2)), .float 0, .int (nI (x2)), .int (nI (min x1 x2))]) rfl ?_
              refine J_fg 8 (lv' := [.ref (m), .int (op), .int (nI (one)), .int (nI (other)), .int (nI (t)), .int (nI (n + 1)), .int (nI (min x1 x2)), .float 0, .float 0, .int (nI (min x1 x2))]) rfl ?_
              refine J_fg 9 (lv' := [.ref (m), .int (op), .int (nI (one)), .int (nI (other)), .int (nI (t)), .int (nI (n + 1)), .int (nI (min x1 x2)), .float 0, .float 0, .float 0]) rfl ?_
              exact ih6 (z9) (min x1 x2) (n + 1) ((upd (upd Dm (2 * n) (nI p)) (2 * n + 1) (nI (min x1 x2 - 1)))) (xs73) (by exact hI.a hw1 hw2 hp9 hnx (by omega) (by omega) c79 (fun h9 => by first | omega | exact c102 h9.2)) (by omega)
            · have c84 := jleF (a := n) (b := 0) (by omega) (by omega) c84
              refine J_aload_n (m) dX8_joins_87 rfl rfl ?_
              refine J_getrs (q := m + 7) r7 dX8_joins_88 (fun _ h => List.mem_cons_of_mem _ (List.mem_append_left _ (List.mem_append_right _ (h)))) cs11 (by decide) rfl (List.mem_of_getElem? (i := 3) rfl) rfl (show m < jn M from by omega) m2 ?_
              refine J_iconst (x := 2) dX8_joins_91 (by decide) ?_
              refine J_iload dX8_joins_92 rfl ?_
              refine J_imul dX8_joins_94 ?_
              refine J_topi (y := nI (2 * n)) (pk_mul (2) (n)) ?_
              refine J_iconst (x := 1) dX8_joins_95 (by decide) ?_
              refine J_isub dX8_joins_96 ?_
              refine J_topi (y := nI (2 * n - 1)) (pk_sub (a := 2 * n) (b := 1) (by omega)) ?_
              refine J_ialdN (k := 2 * n - 1) dX8_joins_97 (show m + 7 < jn M from by omega) k7 (by exact Nat.lt_of_lt_of_eq (show _ < 200 by omega) (Eq.symm z7)) (by exact Nat.lt_of_le_of_lt (Nat.le_of_eq z7) (show 200 < 2 ^ 31 by omega)) ?_
              refine J_topi (y := (Dm (2 * n - 1))) (by rw [ji_Sin (by omega), ji_Sv, if_pos rfl]) ?_
              refine J_iload dX8_joins_98 rfl ?_
              refine J_iconst (x := 1) dX8_joins_100 (by decide) ?_
              refine J_isub dX8_joins_101 ?_
              refine J_icmp_ne dX8_joins_102 (tgt := 123) (by decide) (fun c102 => ?_) (fun c102 => ?_)
              · refine J_aload_n (m) dX8_joins_123 rfl rfl ?_
                refine J_getrs (q := m + 7) r7 dX8_joins_124 (fun _ h => List.mem_cons_of_mem _ (List.mem_append_left _ (List.mem_append_right _ (h)))) cs11 (by decide) rfl (List.mem_of_getElem? (i := 3) rfl) rfl (show m < jn M from by omega) m2 ?_
                refine J_iconst (x := 2) dX8_joins_127 (by decide) ?_
                refine J_iload dX8_joins_128 rfl ?_
                refine J_imul dX8_joins_130 ?_
                refine J_topi (y := nI (2 * n)) (pk_mul (2) (n)) ?_
                refine J_iload dX8_joins_131 rfl ?_
                refine J_iastN (k := 2 * n) dX8_joins_133 (show m + 7 < jn M from by omega) k7 (by exact Nat.lt_of_lt_of_eq (show _ < 200 by omega) (Eq.symm z7)) (by exact Nat.lt_of_le_of_lt (Nat.le_of_eq z7) (show 200 < 2 ^ 31 by omega)) ?_
                refine J_mem (M' := jSi (jSv M (m + 7) (upd Dm (2 * n) (nI p))) m 14 xs73) (by exact mMd (by omega)) ?_
                refine J_aload_n (m) dX8_joins_134 rfl rfl ?_
                refine J_getrs (q := m + 7) r7 dX8_joins_135 (fun _ h => List.mem_cons_of_mem _ (List.mem_append_left _ (List.mem_append_right _ (h)))) cs11 (by decide) rfl (List.mem_of_getElem? (i := 3) rfl) rfl (show m < jn M from by omega) m2 ?_
                refine J_iconst (x := 2) dX8_joins_138 (by decide) ?_
                refine J_iload dX8_joins_139 rfl ?_
                refine J_imul dX8_joins_141 ?_
                refine J_topi (y := nI (2 * n)) (pk_mul (2) (n)) ?_
                refine J_iconst (x := 1) dX8_joins_142 (by decide) ?_
                refine J_iadd dX8_joins_143 ?_
                refine J_topi (y := nI (2 * n + 1)) (nI_add (2 * n) (1)) ?_
                refine J_iload dX8_joins_144 rfl ?_
                refine J_iconst (x := 1) dX8_joins_146 (by decide) ?_
                refine J_isub dX8_joins_147 ?_
                refine J_topi (y := nI (min x1 x2 - 1)) (pk_sub (a := min x1 x2) (b := 1) (by omega)) ?_
                refine J_iastN (k := 2 * n + 1) dX8_joins_148 (show m + 7 < jn M from by omega) k7 (by exact Nat.lt_of_lt_of_eq (show _ < 200 by omega) (Eq.symm z7)) (by exact Nat.lt_of_le_of_lt (Nat.le_of_eq z7) (show 200 < 2 ^ 31 by omega)) ?_
                refine J_mem (M' := jSi (jSv M (m + 7) (upd (upd Dm (2 * n) (nI p)) (2 * n + 1) (nI (min x1 x2 - 1)))) m 14 xs73) (by exact mMd (by omega)) ?_
                refine J_iinc (y := nI (n + 1)) (lv' := [.ref (m), .int (op), .int (nI (one)), .int (nI (other)), .int (nI (t)), .int (nI (n + 1)), .int (nI (p)), .int (nI (x1)), .int (nI (x2)), .int (nI (min x1 x2))]) dX8_joins_149 rfl (jinc (n)) (by decide) rfl rfl ?_
                refine J_iload dX8_joins_152 rfl ?_
                refine J_istore (lv' := [.ref (m), .int (op), .int (nI (one)), .int (nI (other)), .int (nI (t)), .int (nI (n + 1)), .int (nI (min x1 x2)), .int (nI (x1)), .int (nI (x2)), .int (nI (min x1 x2))]) dX8_joins_154 (by decide) rfl rfl ?_
                refine J_goto (tgt := 6) dX8_joins_156 (by decide) ?_
                refine J_fg 7 (lv' := [.ref (m), .int (op), .int (nI (one)), .int (nI (other)), .int (nI (t)), .int (nI (n + 1)), .int (nI (min x1 x2)), .float 0, .int (nI (x2)), .int (nI (min x1 x2))]) rfl ?_
                refine J_fg 8 (lv' := [.ref (m), .int (op), .int (nI (one)), .int (nI (other)), .int (nI (t)), .int (nI (n + 1)), .int (nI (min x1 x2)), .float 0, .float 0, .int (nI (min x1 x2))]) rfl ?_
                refine J_fg 9 (lv' := [.ref (m), .int (op), .int (nI (one)), .int (nI (other)), .int (nI (t)), .int (nI (n + 1)), .int (nI (min x1 x2)), .float 0, .float 0, .float 0]) rfl ?_
                exact ih6 (z9) (min x1 x2) (n + 1) ((upd (upd Dm (2 * n) (nI p)) (2 * n + 1) (nI (min x1 x2 - 1)))) (xs73) (by exact hI.a hw1 hw2 hp9 hnx (by omega) (by omega) c79 (fun h9 => by first | omega | exact c102 h9.2)) (by omega)
              · refine J_aload_n (m) dX8_joins_105 rfl rfl ?_
                refine J_getrs (q := m + 7) r7 dX8_joins_106 (fun _ h => List.mem_cons_of_mem _ (List.mem_append_left _ (List.mem_append_right _ (h)))) cs11 (by decide) rfl (List.mem_of_getElem? (i := 3) rfl) rfl (show m < jn M from by omega) m2 ?_
                refine J_iconst (x := 2) dX8_joins_109 (by decide) ?_
                refine J_iload dX8_joins_110 rfl ?_
                refine J_imul dX8_joins_112 ?_
                refine J_topi (y := nI (2 * n)) (pk_mul (2) (n)) ?_
                refine J_iconst (x := 1) dX8_joins_113 (by decide) ?_
                refine J_isub dX8_joins_114 ?_
                refine J_topi (y := nI (2 * n - 1)) (pk_sub (a := 2 * n) (b := 1) (by omega)) ?_
                refine J_iload dX8_joins_115 rfl ?_
                refine J_iconst (x := 1) dX8_joins_117 (by decide) ?_
                refine J_isub dX8_joins_118 ?_
                refine J_topi (y := nI (min x1 x2 - 1)) (pk_sub (a := min x1 x2) (b := 1) (by omega)) ?_
                refine J_iastN (k := 2 * n - 1) dX8_joins_119 (show m + 7 < jn M from by omega) k7 (by exact Nat.lt_of_lt_of_eq (show _ < 200 by omega) (Eq.symm z7)) (by exact Nat.lt_of_le_of_lt (Nat.le_of_eq z7) (show 200 < 2 ^ 31 by omega)) ?_
                refine J_mem (M' := jSi (jSv M (m + 7) (upd Dm (2 * n - 1) (nI (min x1 x2 - 1)))) m 14 xs73) (by exact mMd (by omega)) ?_
                refine J_goto (tgt := 152) dX8_joins_120 (by decide) ?_
                refine J_iload dX8_joins_152 rfl ?_
                refine J_istore (lv' := [.ref (m), .int (op), .int (nI (one)), .int (nI (other)), .int (nI (t)), .int (nI (n)), .int (nI (min x1 x2)), .int (nI (x1)), .int (nI (x2)), .int (nI (min x1 x2))]) dX8_joins_154 (by decide) rfl rfl ?_
                refine J_goto (tgt := 6) dX8_joins_156 (by decide) ?_
                refine J_fg 7 (lv' := [.ref (m), .int (op), .int (nI (one)), .int (nI (other)), .int (nI (t)), .int (nI (n)), .int (nI (min x1 x2)), .float 0, .int (nI (x2)), .int (nI (min x1 x2))]) rfl ?_
                refine J_fg 8 (lv' := [.ref (m), .int (op), .int (nI (one)), .int (nI (other)), .int (nI (t)), .int (nI (n)), .int (nI (min x1 x2)), .float 0, .float 0, .int (nI (min x1 x2))]) rfl ?_
                refine J_fg 9 (lv' := [.ref (m), .int (op), .int (nI (one)), .int (nI (other)), .int (nI (t)), .int (nI (n)), .int (nI (min x1 x2)), .float 0, .float 0, .float 0]) rfl ?_
                exact ih6 (z9) (min x1 x2) (n) ((upd Dm (2 * n - 1) (nI (min x1 x2 - 1)))) (xs73) (by exact hI.m hw1 hw2 hp9 hnx (by omega) (by omega) c79 (by omega) c102) (by omega)
  refine J_iconst (x := 0) dX8_joins_0 (by decide) ?_
  refine J_istore (lv' := [.ref (m), .int (op), .int (nI (one)), .int (nI (other)), .int (nI (t)), .int (0), .float 0, .float 0, .float 0, .float 0]) dX8_joins_1 (by decide) rfl rfl ?_
  refine J_iconst (x := 0) dX8_joins_3 (by decide) ?_
  refine J_mem (M' := jSi (jSv M (m + 7) (ji M (m + 7))) m 14 (ji M m 14)) (by rw [jSv_self]; exact (jSi_self rfl).symm) ?_
  refine J_istore (lv' := [.ref (m), .int (op), .int (nI (one)), .int (nI (other)), .int (nI (t)), .int (0), .int (0), .float 0, .float 0, .float 0]) dX8_joins_4 (by decide) rfl rfl ?_
  exact L6 _ (2 * (w1.1 + w2.1 + 1)) (0) (0) (ji M (m + 7)) (ji M m 14) (by exact jSt9.z) (Nat.lt_succ_self _)

