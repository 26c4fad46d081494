theorem jRg.ext {M M1 : jM} {t n : Nat} (h : jRg M t n) (e : jExt M M1) : jRg M1 t n := by
  obtain ⟨h1, h2, h3, h4, h5, h6⟩ := h
  obtain ⟨a1, a2, a3, a4, a5, a6⟩ := e.2 t (Nat.lt_of_succ_lt h1)
  obtain ⟨b1, b2, b3, b4, b5, b6⟩ := e.2 (t + 1) h1
  exact ⟨Nat.lt_of_lt_of_le h1 e.1, a1.trans h2, by rw [a4]; exact h3, b1.trans h4, b2.trans h5, h6⟩
theorem jRg.ints {M M1 : jM} {t n : Nat} (h : jRg M t n) (e : jExt M M1) : ji M1 (t + 1) = ji M (t + 1) := (e.2 (t + 1) h.1).2.2.1
/-- a range made: of n spans with the ends e, at t -/
def jRo (M M1 : jM) (t n : Nat) (e : Nat → Int32) : Prop := jExt M M1 ∧ jCl M1 ∧ jRg M1 t n ∧ jn M ≤ t ∧ ∀ j, j < 2 * n → ji M1 (t + 1) j = e j
theorem ji_upd {M : jM} {a k : Nat} {x : Int32} : ji (jSi M a k x) a = upd (ji M a) k x := by funext j; simp [ji_Si, upd]
def rMin (x y : Int32) : Int32 := if y < x then y else x
/-- what an operation of two ranges gives, change by change -/
def rcS (op : Int32) (e1 : Nat → Int32) (n1 : Nat) (e2 : Nat → Int32) (n2 cap : Nat) : Nat → Int32 → Nat → (Nat → Int32) → Nat × (Nat → Int32)
  | 0, _, len, f => (len, f)
  | fu + 1, at9, len, f =>
    if 99999999 < at9 then (len, f) else
    if vMeets op (rHolds e1 n1 at9) (rHolds e2 n2 at9) then
      if 0 < len ∧ f (len - 1) = at9 - 1 then rcS op e1 n1 e2 n2 cap fu (rMin (rNext e1 n1 at9) (rNext e2 n2 at9)) len (upd f (len - 1) (rMin (rNext e1 n1 at9) (rNext e2 n2 at9) - 1))
      else if len + 2 ≤ cap then rcS op e1 n1 e2 n2 cap fu (rMin (rNext e1 n1 at9) (rNext e2 n2 at9)) (len + 2) (upd (upd f len at9) (len + 1) (rMin (rNext e1 n1 at9) (rNext e2 n2 at9) - 1))
      else rcS op e1 n1 e2 n2 cap fu (rMin (rNext e1 n1 at9) (rNext e2 n2 at9)) len f
    else rcS op e1 n1 e2 n2 cap fu (rMin (rNext e1 n1 at9) (rNext e2 n2 at9)) len f
theorem rcS_s {op : Int32} {e1 : Nat → Int32} {n1 : Nat} {e2 : Nat → Int32} {n2 cap fu : Nat} {at9 : Int32} {len : Nat} {f : Nat → Int32} (h : ¬ 99999999 < at9) : rcS op e1 n1 e2 n2 cap (fu + 1) at9 len f =
    if vMeets op (rHolds e1 n1 at9) (rHolds e2 n2 at9) then
      if 0 < len ∧ f (len - 1) = at9 - 1 then rcS op e1 n1 e2 n2 cap fu (rMin (rNext e1 n1 at9) (rNext e2 n2 at9)) len (upd f (len - 1) (rMin (rNext e1 n1 at9) (rNext e2 n2 at9) - 1))
      else if len + 2 ≤ cap then rcS op e1 n1 e2 n2 cap fu (rMin (rNext e1 n1 at9) (rNext e2 n2 at9)) (len + 2) (upd (upd f len at9) (len + 1) (rMin (rNext e1 n1 at9) (rNext e2 n2 at9) - 1))
      else rcS op e1 n1 e2 n2 cap fu (rMin (rNext e1 n1 at9) (rNext e2 n2 at9)) len f
    else rcS op e1 n1 e2 n2 cap fu (rMin (rNext e1 n1 at9) (rNext e2 n2 at9)) len f := by
  conv => lhs; unfold rcS
  rw [if_neg h]
theorem rcS_e {op : Int32} {e1 : Nat → Int32} {n1 : Nat} {e2 : Nat → Int32} {n2 cap fu : Nat} {at9 : Int32} {len : Nat} {f : Nat → Int32} (h : fu = 0 ∨ 99999999 < at9) : rcS op e1 n1 e2 n2 cap fu at9 len f = (len, f) := by
  cases fu with
  | zero => rfl
  | succ fu =>
    unfold rcS
    rw [if_pos (h.resolve_left (Nat.succ_ne_zero _))]
theorem rcS_len (op : Int32) (e1 : Nat → Int32) (n1 : Nat) (e2 : Nat → Int32) (n2 cap : Nat) : ∀ fu at9 len f, len ≤ cap → len % 2 = 0 → (rcS op e1 n1 e2 n2 cap fu at9 len f).1 ≤ cap ∧ (rcS op e1 n1 e2 n2 cap fu at9 len f).1 % 2 = 0 := by
  intro fu
  induction fu with
  | zero => intro at9 len f h h2; exact ⟨h, h2⟩
  | succ fu ih =>
    intro at9 len f h h2
    unfold rcS
    split
    · exact ⟨h, h2⟩
    · split
      · split
        · exact ih _ _ _ h h2
        · split
          · exact ih _ _ _ (by omega) (by omega)
          · exact ih _ _ _ h h2
      · exact ih _ _ _ h h2
def rComb (op : Int32) (e1 : Nat → Int32) (n1 : Nat) (e2 : Nat → Int32) (n2 : Nat) : Nat × (Nat → Int32) := rcS op e1 n1 e2 n2 (2 * (n1 + n2 + 1)) (2 * (n1 + n2 + 1)) 0 0 (fun _ => 0)
/-- the array in which combined gathers -/
def jFa (M M1 : jM) (cap : Nat) : Prop := jExt M M1 ∧ jn M1 = jn M + 1 ∧ jCl M1 ∧ jk M1 (jn M) = 22 ∧ jz M1 (jn M) = cap
theorem jFa.si {M M1 : jM} {cap k : Nat} {x : Int32} (h : jFa M M1 cap) : jFa M (jSi M1 (jn M) k x) cap := ⟨h.1.si (Nat.le_refl _), h.2.1, h.2.2.1, h.2.2.2.1, h.2.2.2.2⟩
theorem comb_end {M M1 M2 : jM} {op : Int32} {e1 : Nat → Int32} {n1 : Nat} {e2 : Nat → Int32} {n2 fu len : Nat} {at9 : Int32} (hF : jFa M M1 (2 * (n1 + n2 + 1))) (hl : len ≤ 2 * (n1 + n2 + 1)) (hb : n1 + n2 < 1000) (hI : rcS op e1 n1 e2 n2 (2 * (n1 + n2 + 1)) fu at9 len (ji M1 (jn M)) = rComb op e1 n1 e2 n2) (he : fu = 0 ∨ 99999999 < at9)
    (hF2 : jFa (jNw M1 7 0) M2 len) (hC2 : ∀ j : Nat, j < len → ji M2 (jn (jNw M1 7 0)) j = ji (jNw M1 7 0) (jn M) j) :
    ∃ t, (Sum.inl (some (va_rf (some (jn M1)))) : jO) = oR (some t) ∧ jRo M (jSr M2 (jn M1) 0 (some (jn M1 + 1))) t ((rComb op e1 n1 e2 n2).1 / 2) (rComb op e1 n1 e2 n2).2 := by
  have hE : rComb op e1 n1 e2 n2 = (len, ji M1 (jn M)) := by rw [← hI]; exact rcS_e he
  have hev : len % 2 = 0 := by
    have := (rcS_len op e1 n1 e2 n2 (2 * (n1 + n2 + 1)) (2 * (n1 + n2 + 1)) 0 0 (fun _ => 0) (Nat.zero_le _) rfl).2
    have h9 : (rComb op e1 n1 e2 n2).1 % 2 = 0 := this
    rw [hE] at h9
    exact h9
  obtain ⟨a1, a2, a3, a4, a5⟩ := hF
  obtain ⟨b1, b2, b3, b4, b5⟩ := hF2
  have b2' : jn M2 = jn M1 + 1 + 1 := b2
  have hM1 : jn M ≤ jn M1 := a1.1
  refine ⟨jn M1, rfl, ?_⟩
  rw [hE]
  refine ⟨((a1.tr jExt.nw).tr b1).sr hM1, jCl_Sr b3 (fun q h => by cases h; omega), ⟨?_, ?_, ?_, ?_, ?_, ?_⟩, hM1, fun j hj => ?_⟩
  · show jn M1 + 1 < jn M2; omega
  · show jk M2 (jn M1) = 7
    rw [(b1.2 (jn M1) (Nat.lt_succ_self _)).1]
    simp [jk_Nw]
  · simp [jr_Sr]
  · exact b4
  · show jz M2 (jn M1 + 1) = 2 * (len / 2)
    have h8 : jz M2 (jn M1 + 1) = len := b5
    rw [h8]; omega
  · show len / 2 < 1000000; omega
  · have hj2 : j < len := by have : j < 2 * (len / 2) := hj; omega
    show ji M2 (jn M1 + 1) j = ji M1 (jn M) j
    have h8 := hC2 j hj2
    have h7 : ji M2 (jn M1 + 1) j = ji (jNw M1 7 0) (jn M) j := h8
    rw [h7, ji_Nw, if_neg (by omega)]
theorem dX3_init_0 : decode cX3_init 0 = .ok (.aload_n 0, 1) := by decide +kernel
theorem dX3_init_1 : decode cX3_init 1 = .ok (.invokespecial 3, 3) := by decide +kernel
theorem dX3_init_4 : decode cX3_init 4 = .ok (.aload_n 0, 1) := by decide +kernel
theorem dX3_init_5 : decode cX3_init 5 = .ok (.aload_n 1, 1) := by decide +kernel
theorem dX3_init_6 : decode cX3_init 6 = .ok (.putfield 9, 3) := by decide +kernel
theorem dX3_init_9 : decode cX3_init 9 = .ok (.return_, 1) := by decide +kernel
set_option maxHeartbeats 2000000 in
set_option maxRecDepth 20000 in
theorem ct_X3_init (l : Launch) (D : va_G) (dA : Nat → ClassId) (hst : l.stackTraces = false) (M : jM) (t a : Nat) (ht : t < jn M) (hk : jk M t = 7) : jCT l D dA yX3_init wsX3_init (20) (300) (0) (0) 0 [.ref (t), .ref (a)] M (jPo (oV) (jSr M t 0 (some a))) := by
  refine jBody (cc := cX3_init) (nL := 2) (rt := none) (ini := true) (by decide) rfl hst (Nat.le_of_ble_eq_true rfl) (by simp [Value.category]) (by intro h9; first | exact absurd h9 (by decide) | rfl) ?_
  show J l D dA RX3 cX3_init wsX3_init 2 true none [] (20) (300) (jF D dA (jn M) (jPo (oV) (jSr M t 0 (some a))) 0) (jn M) (0) (0) (M) 0 [.ref (t), .ref (a)] []
  refine J_aload_n (t) dX3_init_0 rfl rfl ?_
  refine J_objInit dX3_init_1 (List.mem_of_getElem? (i := 1) rfl) (List.mem_of_getElem? (i := 2) rfl) (List.mem_of_getElem? (i := 3) rfl) (Nat.le_of_ble_eq_true rfl) (by omega) (by omega) ?_
  refine J_aload_n (t) dX3_init_4 rfl rfl ?_
  refine J_aload_n (a) dX3_init_5 rfl rfl ?_
  refine J_putrF (j := 0) (r := some (a)) dX3_init_6 (fun _ h => List.mem_cons_of_mem _ (List.mem_append_right _ (h))) cs7 cty7 (by decide) rfl (List.mem_of_getElem? (i := 4) rfl) rfl rfl rfl rfl jfit_rA ht hk ?_
  exact J_vret dX3_init_9 rfl ⟨(by rfl), (by rfl)⟩

theorem dX3_ofSpan_0 : decode cX3_ofSpan 0 = .ok (.iload_n 0, 1) := by decide +kernel
theorem dX3_ofSpan_1 : decode cX3_ofSpan 1 = .ok (.iload_n 1, 1) := by decide +kernel
theorem dX3_ofSpan_2 : decode cX3_ofSpan 2 = .ok (.if_icmp .le 14, 3) := by decide +kernel
theorem dX3_ofSpan_16 : decode cX3_ofSpan 16 = .ok (.new 10, 3) := by decide +kernel
theorem dX3_ofSpan_19 : decode cX3_ofSpan 19 = .ok (.dup, 1) := by decide +kernel
theorem dX3_ofSpan_20 : decode cX3_ofSpan 20 = .ok (.iconst 2, 1) := by decide +kernel
theorem dX3_ofSpan_21 : decode cX3_ofSpan 21 = .ok (.newarray .int, 2) := by decide +kernel
theorem dX3_ofSpan_23 : decode cX3_ofSpan 23 = .ok (.dup, 1) := by decide +kernel
theorem dX3_ofSpan_24 : decode cX3_ofSpan 24 = .ok (.iconst 0, 1) := by decide +kernel
theorem dX3_ofSpan_25 : decode cX3_ofSpan 25 = .ok (.iload_n 0, 1) := by decide +kernel
theorem dX3_ofSpan_26 : decode cX3_ofSpan 26 = .ok (.iastore, 1) := by decide +kernel
theorem dX3_ofSpan_27 : decode cX3_ofSpan 27 = .ok (.dup, 1) := by decide +kernel
theorem dX3_ofSpan_28 : decode cX3_ofSpan 28 = .ok (.iconst 1, 1) := by decide +kernel
theorem dX3_ofSpan_29 : decode cX3_ofSpan 29 = .ok (.iload_n 1, 1) := by decide +kernel
theorem dX3_ofSpan_30 : decode cX3_ofSpan 30 = .ok (.iastore, 1) := by decide +kernel
theorem dX3_ofSpan_31 : decode cX3_ofSpan 31 = .ok (.invokespecial 15, 3) := by decide +kernel
set_option maxRecDepth 20000 in
theorem ggX3_ofSpan_X3_init : GoodIn wsX3_ofSpan wsX3_init := goodIn_r _ [7, 8, 9, 10, 11, 12] (by decide +kernel) (by decide +kernel)
set_option maxRecDepth 20000 in
theorem gX3_ofSpan_X3_init : GoodIn wsX3_ofSpan (wsX3_init) := ggX3_ofSpan_X3_init
theorem yY_X3_init : jY yX3_init wsX3_init cX3_init 2 none 1 := ⟨⟨_, rfl⟩, by decide +kernel, by decide +kernel, by decide +kernel⟩
theorem dX3_ofSpan_34 : decode cX3_ofSpan 34 = .ok (.areturn, 1) := by decide +kernel
theorem dX3_ofSpan_5 : decode cX3_ofSpan 5 = .ok (.new 10, 3) := by decide +kernel
theorem dX3_ofSpan_8 : decode cX3_ofSpan 8 = .ok (.dup, 1) := by decide +kernel
theorem dX3_ofSpan_9 : decode cX3_ofSpan 9 = .ok (.iconst 0, 1) := by decide +kernel
theorem dX3_ofSpan_10 : decode cX3_ofSpan 10 = .ok (.newarray .int, 2) := by decide +kernel
theorem dX3_ofSpan_12 : decode cX3_ofSpan 12 = .ok (.invokespecial 15, 3) := by decide +kernel
theorem dX3_ofSpan_15 : decode cX3_ofSpan 15 = .ok (.areturn, 1) := by decide +kernel
set_option maxHeartbeats 2000000 in
set_option maxRecDepth 20000 in
theorem ct_X3_ofSpan (l : Launch) (D : va_G) (dA : Nat → ClassId) (hst : l.stackTraces = false) (M : jM) (hcl : jCl M) (x y : Int32) : jCT l D dA yX3_ofSpan wsX3_ofSpan (21) (360) (2) (3) 2 [.int (x), .int (y)] M (fun o M1 => ∃ t, o = oR (some t) ∧ jRo M M1 t (if x ≤ y then 1 else 0) (fun j => if j = 0 then x else y)) := by
  refine jBody (cc := cX3_ofSpan) (nL := 2) (rt := (some (.object "VersionAlgebra$Range"))) (ini := false) (by decide) rfl hst (Nat.le_of_ble_eq_true rfl) (by simp [Value.category]) (by intro h9; first | exact absurd h9 (by decide) | rfl) ?_
  show J l D dA RX3 cX3_ofSpan wsX3_ofSpan 2 false (some (.object "VersionAlgebra$Range")) [] (21) (360) (jF D dA (jn M) (fun o M1 => ∃ t, o = oR (some t) ∧ jRo M M1 t (if x ≤ y then 1 else 0) (fun j => if j = 0 then x else y)) 2) (jn M) (2) (3) (M) 0 [.int (x), .int (y)] []
  refine J_iload_n dX3_ofSpan_0 rfl rfl ?_
  refine J_iload_n dX3_ofSpan_1 rfl rfl ?_
  refine J_icmp_le dX3_ofSpan_2 (tgt := 16) (by decide) (fun c2 => ?_) (fun c2 => ?_)
  · refine J_new (ci := 7) dX3_ofSpan_16 (fun _ h => List.mem_cons_of_mem _ (List.mem_append_left _ (List.mem_append_right _ (h)))) cs7 cty7 (List.mem_of_getElem? (i := 1) rfl) (List.mem_of_getElem? (i := 2) rfl) (List.mem_of_getElem? (i := 3) rfl) (by omega) (by omega) (hcl) (jOk.int (jOk.int jOk.nil)) jOk.nil ?_
    refine J_dup dX3_ofSpan_19 rfl ?_
    refine J_iconst (x := 2) dX3_ofSpan_20 (by decide) ?_
    refine J_newa (t := 2) (atype := .int) (N' := 2) (n := (2)) dX3_ofSpan_21 (by decide) rfl rfl (List.mem_of_getElem? (i := 4) rfl) (nI_pos (n := 2) (by omega)) (nI_clamp (n := 2) (by omega)) (by simp [newarray.typeOf, componentBytes] <;> omega) (by omega) (by omega) (jCl_Nw (hcl)) (jOk.int (jOk.int jOk.nil)) (jOk.ref (by simp [jn_Nw, jn_Si, jn_Sr, jn_Sv] <;> omega) (jOk.ref (by simp [jn_Nw, jn_Si, jn_Sr, jn_Sv] <;> omega) jOk.nil)) ?_
    refine J_dup dX3_ofSpan_23 rfl ?_
    refine J_iconst (x := 0) dX3_ofSpan_24 (by decide) ?_
    refine J_iload_n dX3_ofSpan_25 rfl rfl ?_
    refine J_iastN (k := 0) dX3_ofSpan_26 (by simp [jn_Nw, jn_Si, jn_Sr, jn_Sv] <;> omega) (by simp [jk_Nw, jk_Si, jk_Sr, jk_Sv, jn_Nw, jn_Si, jn_Sr, jn_Sv]) (by exact Nat.lt_of_lt_of_eq (show _ < 2 by omega) (Eq.symm (by simp [jz_Nw, jz_Si, jz_Sr, jz_Sv, jn_Nw, jn_Si, jn_Sr, jn_Sv]))) (by exact Nat.lt_of_le_of_lt (Nat.le_of_eq (by simp [jz_Nw, jz_Si, jz_Sr, jz_Sv, jn_Nw, jn_Si, jn_Sr, jn_Sv])) (show 2 < 2 ^ 31 by omega)) ?_
    refine J_dup dX3_ofSpan_27 rfl ?_
    refine J_iconst (x := 1) dX3_ofSpan_28 (by decide) ?_
    refine J_iload_n dX3_ofSpan_29 rfl rfl ?_
    refine J_iastN (k := 1) dX3_ofSpan_30 (by simp [jn_Nw, jn_Si, jn_Sr, jn_Sv] <;> omega) (by simp [jk_Nw, jk_Si, jk_Sr, jk_Sv, jn_Nw, jn_Si, jn_Sr, jn_Sv]) (by exact Nat.lt_of_lt_of_eq (show _ < 2 by omega) (Eq.symm (by simp [jz_Nw, jz_Si, jz_Sr, jz_Sv, jn_Nw, jn_Si, jn_Sr, jn_Sv]))) (by exact Nat.lt_of_le_of_lt (Nat.le_of_eq (by simp [jz_Nw, jz_Si, jz_Sr, jz_Sv, jn_Nw, jn_Si, jn_Sr, jn_Sv])) (show 2 < 2 ^ 31 by omega)) ?_
    refine J_callv0 (jrunI (ret := none) (As := [.ref (jn M + 1)]) (ct_X3_init l D dA hst (jSi (jSi (jNw (jNw M 7 0) 22 2) (jn M + 1) 0 ((x))) (jn M + 1) 1 ((y))) (jn M) (jn M + 1) (by simp [jn_Nw, jn_Si, jn_Sr, jn_Sv] <;> omega) (by simp [jk_Nw, jk_Si, jk_Sr, jk_Sv, jn_Nw, jn_Si, jn_Sr, jn_Sv])) dX3_ofSpan_31 yY_X3_init gX3_ofSpan_X3_init rfl (List.mem_of_getElem? (i := 3) rfl) (List.mem_of_getElem? (i := 5) rfl) (List.mem_of_getElem? (i := 6) rfl) rfl ⟨by omega, by omega⟩ ⟨Nat.zero_le _, Nat.zero_le _⟩ rfl (Nat.le_of_ble_eq_true rfl)) (rfl) (rfl) ?_
    exact J_aret (r := some (jn M)) dX3_ofSpan_34 rfl (Or.inl ⟨_, rfl⟩) (by exact ⟨jn M, rfl, (by simp only [if_pos c2]; exact ⟨(((jExt.nw.tr jExt.nw).si (Nat.le_succ _)).si (Nat.le_succ _)).sr (Nat.le_refl _), jCl_Sr (jCl_Si (jCl_Si (jCl_Nw (jCl_Nw hcl)))) (fun q h => by cases h; simp [jk_Nw, jk_Si, jk_Sr, jk_Sv, jn_Nw, jn_Si, jn_Sr, jn_Sv, jz_Nw, jz_Si, jz_Sr, jz_Sv, jr_Nw, jr_Sr, jr_Si, jr_Sv, ji_Nw, ji_Si, ji_Sr, ji_Sv]), ⟨by simp [jk_Nw, jk_Si, jk_Sr, jk_Sv, jn_Nw, jn_Si, jn_Sr, jn_Sv, jz_Nw, jz_Si, jz_Sr, jz_Sv, jr_Nw, jr_Sr, jr_Si, jr_Sv, ji_Nw, ji_Si, ji_Sr, ji_Sv], by simp [jk_Nw, jk_Si, jk_Sr, jk_Sv, jn_Nw, jn_Si, jn_Sr, jn_Sv, jz_Nw, jz_Si, jz_Sr, jz_Sv, jr_Nw, jr_Sr, jr_Si, jr_Sv, ji_Nw, ji_Si, ji_Sr, ji_Sv], by simp [jk_Nw, jk_Si, jk_Sr, jk_Sv, jn_Nw, jn_Si, jn_Sr, jn_Sv, jz_Nw, jz_Si, jz_Sr, jz_Sv, jr_Nw, jr_Sr, jr_Si, jr_Sv, ji_Nw, ji_Si, ji_Sr, ji_Sv], by simp [jk_Nw, jk_Si, jk_Sr, jk_Sv, jn_Nw, jn_Si, jn_Sr, jn_Sv, jz_Nw, jz_Si, jz_Sr, jz_Sv, jr_Nw, jr_Sr, jr_Si, jr_Sv, ji_Nw, ji_Si, ji_Sr, ji_Sv], by simp [jk_Nw, jk_Si, jk_Sr, jk_Sv, jn_Nw, jn_Si, jn_Sr, jn_Sv, jz_Nw, jz_Si, jz_Sr, jz_Sv, jr_Nw, jr_Sr, jr_Si, jr_Sv, ji_Nw, ji_Si, ji_Sr, ji_Sv], by omega⟩, Nat.le_refl _, fun j hj => by rcases (show j = 0 ∨ j = 1 by omega) with rfl | rfl <;> simp [jk_Nw, jk_Si, jk_Sr, jk_Sv, jn_Nw, jn_Si, jn_Sr, jn_Sv, jz_Nw, jz_Si, jz_Sr, jz_Sv, jr_Nw, jr_Sr, jr_Si, jr_Sv, ji_Nw, ji_Si, ji_Sr, ji_Sv]⟩)⟩)
  · refine J_new (ci := 7) dX3_ofSpan_5 (fun _ h => List.mem_cons_of_mem _ (List.mem_append_left _ (List.mem_append_right _ (h)))) cs7 cty7 (List.mem_of_getElem? (i := 1) rfl) (List.mem_of_getElem? (i := 2) rfl) (List.mem_of_getElem? (i := 3) rfl) (by omega) (by omega) (hcl) (jOk.int (jOk.int jOk.nil)) jOk.nil ?_
    refine J_dup dX3_ofSpan_8 rfl ?_
    refine J_iconst (x := 0) dX3_ofSpan_9 (by decide) ?_
    refine J_newa (t := 2) (atype := .int) (N' := 0) (n := (0)) dX3_ofSpan_10 (by decide) rfl rfl (List.mem_of_getElem? (i := 4) rfl) (nI_pos (n := 0) (by omega)) (nI_clamp (n := 0) (by omega)) (by simp [newarray.typeOf, componentBytes] <;> omega) (by omega) (by omega) (jCl_Nw (hcl)) (jOk.int (jOk.int jOk.nil)) (jOk.ref (by simp [jn_Nw, jn_Si, jn_Sr, jn_Sv] <;> omega) (jOk.ref (by simp [jn_Nw, jn_Si, jn_Sr, jn_Sv] <;> omega) jOk.nil)) ?_
    refine J_callv0 (jrunI (ret := none) (As := [.ref (jn M + 1)]) (ct_X3_init l D dA hst (jNw (jNw M 7 0) 22 0) (jn M) (jn M + 1) (by simp [jn_Nw, jn_Si, jn_Sr, jn_Sv] <;> omega) (by simp [jk_Nw, jk_Si, jk_Sr, jk_Sv, jn_Nw, jn_Si, jn_Sr, jn_Sv])) dX3_ofSpan_12 yY_X3_init gX3_ofSpan_X3_init rfl (List.mem_of_getElem? (i := 3) rfl) (List.mem_of_getElem? (i := 5) rfl) (List.mem_of_getElem? (i := 6) rfl) rfl ⟨by omega, by omega⟩ ⟨Nat.zero_le _, Nat.zero_le _⟩ rfl (Nat.le_of_ble_eq_true rfl)) (rfl) (rfl) ?_
    exact J_aret (r := some (jn M)) dX3_ofSpan_15 rfl (Or.inl ⟨_, rfl⟩) (by exact ⟨jn M, rfl, (by simp only [if_neg c2]; exact ⟨(jExt.nw.tr jExt.nw).sr (Nat.le_refl _), jCl_Sr (jCl_Nw (jCl_Nw hcl)) (fun q h => by cases h; simp [jk_Nw, jk_Si, jk_Sr, jk_Sv, jn_Nw, jn_Si, jn_Sr, jn_Sv, jz_Nw, jz_Si, jz_Sr, jz_Sv, jr_Nw, jr_Sr, jr_Si, jr_Sv, ji_Nw, ji_Si, ji_Sr, ji_Sv]), ⟨by simp [jk_Nw, jk_Si, jk_Sr, jk_Sv, jn_Nw, jn_Si, jn_Sr, jn_Sv, jz_Nw, jz_Si, jz_Sr, jz_Sv, jr_Nw, jr_Sr, jr_Si, jr_Sv, ji_Nw, ji_Si, ji_Sr, ji_Sv], by simp [jk_Nw, jk_Si, jk_Sr, jk_Sv, jn_Nw, jn_Si, jn_Sr, jn_Sv, jz_Nw, jz_Si, jz_Sr, jz_Sv, jr_Nw, jr_Sr, jr_Si, jr_Sv, ji_Nw, ji_Si, ji_Sr, ji_Sv], by simp [jk_Nw, jk_Si, jk_Sr, jk_Sv, jn_Nw, jn_Si, jn_Sr, jn_Sv, jz_Nw, jz_Si, jz_Sr, jz_Sv, jr_Nw, jr_Sr, jr_Si, jr_Sv, ji_Nw, ji_Si, ji_Sr, ji_Sv], by simp [jk_Nw, jk_Si, jk_Sr, jk_Sv, jn_Nw, jn_Si, jn_Sr, jn_Sv, jz_Nw, jz_Si, jz_Sr, jz_Sv, jr_Nw, jr_Sr, jr_Si, jr_Sv, ji_Nw, ji_Si, ji_Sr, ji_Sv], by simp [jk_Nw, jk_Si, jk_Sr, jk_Sv, jn_Nw, jn_Si, jn_Sr, jn_Sv, jz_Nw, jz_Si, jz_Sr, jz_Sv, jr_Nw, jr_Sr, jr_Si, jr_Sv, ji_Nw, ji_Si, ji_Sr, ji_Sv], by omega⟩, Nat.le_refl _, fun j hj => by omega⟩)⟩)

theorem dJ7_copyOf_59c91_0 : decode cJ7_copyOf_59c91 0 = .ok (.iload_n 1, 1) := by decide +kernel
theorem dJ7_copyOf_59c91_1 : decode cJ7_copyOf_59c91 1 = .ok (.aload_n 0, 1) := by decide +kernel
theorem dJ7_copyOf_59c91_2 : decode cJ7_copyOf_59c91 2 = .ok (.arraylength, 1) := by decide +kernel
theorem dJ7_copyOf_59c91_3 : decode cJ7_copyOf_59c91 3 = .ok (.if_icmp .ne 11, 3) := by decide +kernel
theorem dJ7_copyOf_59c91_14 : decode cJ7_copyOf_59c91 14 = .ok (.iload_n 1, 1) := by decide +kernel
theorem dJ7_copyOf_59c91_15 : decode cJ7_copyOf_59c91 15 = .ok (.newarray .int, 2) := by decide +kernel
theorem dJ7_copyOf_59c91_17 : decode cJ7_copyOf_59c91 17 = .ok (.astore_n 2, 1) := by decide +kernel
theorem dJ7_copyOf_59c91_18 : decode cJ7_copyOf_59c91 18 = .ok (.aload_n 0, 1) := by decide +kernel
theorem dJ7_copyOf_59c91_19 : decode cJ7_copyOf_59c91 19 = .ok (.iconst 0, 1) := by decide +kernel
theorem dJ7_copyOf_59c91_20 : decode cJ7_copyOf_59c91 20 = .ok (.aload_n 2, 1) := by decide +kernel
theorem dJ7_copyOf_59c91_21 : decode cJ7_copyOf_59c91 21 = .ok (.iconst 0, 1) := by decide +kernel
theorem dJ7_copyOf_59c91_22 : decode cJ7_copyOf_59c91 22 = .ok (.aload_n 0, 1) := by decide +kernel
theorem dJ7_copyOf_59c91_23 : decode cJ7_copyOf_59c91 23 = .ok (.arraylength, 1) := by decide +kernel
theorem dJ7_copyOf_59c91_24 : decode cJ7_copyOf_59c91 24 = .ok (.iload_n 1, 1) := by decide +kernel
theorem dJ7_copyOf_59c91_25 : decode cJ7_copyOf_59c91 25 = .ok (.invokestatic 304, 3) := by decide +kernel
theorem dJ7_copyOf_59c91_28 : decode cJ7_copyOf_59c91 28 = .ok (.invokestatic 150, 3) := by decide +kernel
theorem dJ7_copyOf_59c91_31 : decode cJ7_copyOf_59c91 31 = .ok (.aload_n 2, 1) := by decide +kernel
theorem dJ7_copyOf_59c91_32 : decode cJ7_copyOf_59c91 32 = .ok (.areturn, 1) := by decide +kernel
theorem dJ7_copyOf_59c91_6 : decode cJ7_copyOf_59c91 6 = .ok (.aload_n 0, 1) := by decide +kernel
theorem dJ7_copyOf_59c91_7 : decode cJ7_copyOf_59c91 7 = .ok (.invokevirtual 316, 3) := by decide +kernel
theorem jcast_I : Cond.castable "[I" "java/lang/Cloneable" ∈ jNws := List.mem_filter.mpr ⟨by decide +kernel, rfl⟩
theorem dJ7_copyOf_59c91_10 : decode cJ7_copyOf_59c91 10 = .ok (.checkcast 317, 3) := by decide +kernel
theorem dJ7_copyOf_59c91_13 : decode cJ7_copyOf_59c91 13 = .ok (.areturn, 1) := by decide +kernel
set_option maxHeartbeats 2000000 in
set_option maxRecDepth 20000 in
theorem ct_J7_copyOf_59c91 (l : Launch) (D : va_G) (dA : Nat → ClassId) (hst : l.stackTraces = false) (M : jM) (hcl : jCl M) (a z n : Nat) (ha : a < jn M) (hk : jk M a = 22) (hz : jz M a = z) (hn : n ≤ z) (hb : z < 1000000) : jCT l D dA yJ7_copyOf_59c91 wsJ7_copyOf_59c91 (21) (360) (1) (n) 2 [.ref (a), .int (nI (n))] M (fun o M1 => o = oR (some (jn M)) ∧ jFa M M1 n ∧ ∀ j, j < n → ji M1 (jn M) j = ji M a j) := by
  refine jBody (cc := cJ7_copyOf_59c91) (nL := 3) (rt := (some (.array .int))) (ini := false) (by decide) rfl hst (Nat.le_of_ble_eq_true rfl) (by simp [Value.category]) (by intro h9; first | exact absurd h9 (by decide) | rfl) ?_
  show J l D dA RJ7 cJ7_copyOf_59c91 wsJ7_copyOf_59c91 3 false (some (.array .int)) [] (21) (360) (jF D dA (jn M) (fun o M1 => o = oR (some (jn M)) ∧ jFa M M1 n ∧ ∀ j, j < n → ji M1 (jn M) j = ji M a j) 2) (jn M) (1) (n) (M) 0 [.ref (a), .int (nI (n)), .float 0] []
  refine J_iload_n dJ7_copyOf_59c91_0 rfl rfl ?_
  refine J_aload_n (a) dJ7_copyOf_59c91_1 rfl rfl ?_
  refine J_alen (t := 2) dJ7_copyOf_59c91_2 ha hk rfl ?_
  refine J_topi (y := nI (z)) (congrArg nI hz) ?_
  refine J_icmp_ne dJ7_copyOf_59c91_3 (tgt := 14) (by decide) (fun c3 => ?_) (fun c3 => ?_)
  · have c3 := jeqF (a := n) (b := z) (by omega) (by omega) c3
    refine J_iload_n dJ7_copyOf_59c91_14 rfl rfl ?_
    refine J_newa (t := 2) (atype := .int) (N' := n) (n := nI (n)) dJ7_copyOf_59c91_15 (by decide) rfl rfl (List.mem_of_getElem? (i := 7) rfl) (nI_pos (n := n) (by omega)) (nI_clamp (n := n) (by omega)) (by simp [newarray.typeOf, componentBytes] <;> omega) (by omega) (by omega) (hcl) (jOk.ref ha (jOk.int (jOk.float jOk.nil))) jOk.nil ?_
    refine J_astore_n (x := jn M) (lv' := [.ref (a), .int (nI (n)), .ref (jn M)]) dJ7_copyOf_59c91_17 rfl (by decide) rfl rfl ?_
    refine J_aload_n (a) dJ7_copyOf_59c91_18 rfl rfl ?_
    refine J_iconst (x := 0) dJ7_copyOf_59c91_19 (by decide) ?_
    refine J_aload_n (jn M) dJ7_copyOf_59c91_20 rfl rfl ?_
    refine J_iconst (x := 0) dJ7_copyOf_59c91_21 (by decide) ?_
    refine J_aload_n (a) dJ7_copyOf_59c91_22 rfl rfl ?_
    refine J_alen (t := 2) dJ7_copyOf_59c91_23 (by have := ha; simp [jn_Nw, jn_Si, jn_Sr, jn_Sv] at this ⊢; omega) (jk_new ha hk) rfl ?_
    refine J_topi (y := nI (z)) (congrArg nI (jz_new ha hz)) ?_
    refine J_iload_n dJ7_copyOf_59c91_24 rfl rfl ?_
    refine J_mmin dJ7_copyOf_59c91_25 (List.mem_of_getElem? (i := 8) rfl) (List.mem_of_getElem? (i := 9) rfl) (List.mem_of_getElem? (i := 10) rfl) (List.mem_of_getElem? (i := 11) rfl) (Nat.le_of_ble_eq_true rfl) (by omega) (by omega) ?_
    refine J_topi (y := nI (n)) (by split; rfl; (have := jltF (a := n) (b := z) (by omega) (by omega) (by assumption)); rw [show z = n from by omega]) ?_
    refine J_copyi (z0 := z) (z := n) (sp := 0) (dp := 0) (n := n) dJ7_copyOf_59c91_28 (List.mem_of_getElem? (i := 12) rfl) (List.mem_of_getElem? (i := 13) rfl) (List.mem_of_getElem? (i := 14) rfl) (List.mem_of_getElem? (i := 15) rfl) (by have := ha; simp [jn_Nw, jn_Si, jn_Sr, jn_Sv] at this ⊢; omega) (jk_new ha hk) (by simp [jn_Nw, jn_Si, jn_Sr, jn_Sv] <;> omega) (by simp [jk_Nw, jk_Si, jk_Sr, jk_Sv, jn_Nw, jn_Si, jn_Sr, jn_Sv]) (jz_new ha hz) (by simp [jz_Nw, jz_Si, jz_Sr, jz_Sv, jn_Nw, jn_Si, jn_Sr, jn_Sv]) (by omega) (by omega) (by omega) (by omega) (Nat.le_of_ble_eq_true rfl) (by omega) (by omega) ?_
    refine J_aload_n (jn M) dJ7_copyOf_59c91_31 rfl rfl ?_
    exact J_aret (r := some (jn M)) dJ7_copyOf_59c91_32 rfl (Or.inr ⟨_, rfl⟩) (by exact ⟨rfl, ⟨(jExt.nw).sv (Nat.le_refl _), rfl, jCl_Sv (jCl_Nw hcl), by simp [jk_Nw, jk_Si, jk_Sr, jk_Sv, jn_Nw, jn_Si, jn_Sr, jn_Sv, jz_Nw, jz_Si, jz_Sr, jz_Sv, jr_Nw, jr_Sr, jr_Si, jr_Sv, ji_Nw, ji_Si, ji_Sr, ji_Sv], by simp [jk_Nw, jk_Si, jk_Sr, jk_Sv, jn_Nw, jn_Si, jn_Sr, jn_Sv, jz_Nw, jz_Si, jz_Sr, jz_Sv, jr_Nw, jr_Sr, jr_Si, jr_Sv, ji_Nw, ji_Si, ji_Sr, ji_Sv]⟩, fun j hj => by simp [ji_Sv, va_cpy, hj, ji_Nw, Nat.ne_of_lt ha]⟩)
  · have c3 := jeqT (a := n) (b := z) (by omega) (by omega) c3
    refine J_aload_n (a) dJ7_copyOf_59c91_6 rfl rfl ?_
    refine J_cloneI dJ7_copyOf_59c91_7 dJ7_copyOf_59c91_10 (List.mem_of_getElem? (i := 1) rfl) (List.mem_of_getElem? (i := 2) rfl) (List.mem_of_getElem? (i := 3) rfl) (List.mem_of_getElem? (i := 4) rfl) (List.mem_of_getElem? (i := 5) rfl) (List.mem_of_getElem? (i := 6) rfl) jcast_I ha hk hcl (jOk.ref ha (jOk.int (jOk.float jOk.nil))) jOk.nil (by omega) (by rw [hz]; omega) (Nat.le_of_ble_eq_true rfl) (by omega) (by omega) ?_
    exact J_aret (r := some (jn M)) dJ7_copyOf_59c91_13 rfl (Or.inr ⟨_, rfl⟩) (by exact ⟨rfl, ⟨(jExt.nw).sv (Nat.le_refl _), rfl, jCl_Sv (jCl_Nw hcl), by simp [jk_Nw, jk_Si, jk_Sr, jk_Sv, jn_Nw, jn_Si, jn_Sr, jn_Sv, jz_Nw, jz_Si, jz_Sr, jz_Sv, jr_Nw, jr_Sr, jr_Si, jr_Sv, ji_Nw, ji_Si, ji_Sr, ji_Sv], by simp [jk_Nw, jk_Si, jk_Sr, jk_Sv, jn_Nw, jn_Si, jn_Sr, jn_Sv, jz_Nw, jz_Si, jz_Sr, jz_Sv, jr_Nw, jr_Sr, jr_Si, jr_Sv, ji_Nw, ji_Si, ji_Sr, ji_Sv] <;> omega⟩, fun j hj => by simp [jk_Nw, jk_Si, jk_Sr, jk_Sv, jn_Nw, jn_Si, jn_Sr, jn_Sv, jz_Nw, jz_Si, jz_Sr, jz_Sv, jr_Nw, jr_Sr, jr_Si, jr_Sv, ji_Nw, ji_Si, ji_Sr, ji_Sv]⟩)

theorem dX3_combined_25 : decode cX3_combined 25 = .ok (.iload 6, 2) := by decide +kernel
theorem dX3_combined_27 : decode cX3_combined 27 = .ok (.aload_n 3, 1) := by decide +kernel
theorem dX3_combined_28 : decode cX3_combined 28 = .ok (.arraylength, 1) := by decide +kernel
theorem dX3_combined_29 : decode cX3_combined 29 = .ok (.if_icmp .ge 115, 3) := by decide +kernel
theorem dX3_combined_144 : decode cX3_combined 144 = .ok (.new 10, 3) := by decide +kernel
theorem dX3_combined_147 : decode cX3_combined 147 = .ok (.dup, 1) := by decide +kernel
theorem dX3_combined_148 : decode cX3_combined 148 = .ok (.aload_n 3, 1) := by decide +kernel
theorem dX3_combined_149 : decode cX3_combined 149 = .ok (.iload 4, 2) := by decide +kernel
theorem dX3_combined_151 : decode cX3_combined 151 = .ok (.invokestatic 41, 3) := by decide +kernel
set_option maxRecDepth 20000 in
theorem ggX3_combined_J7_copyOf_59c91 : GoodIn wsX3_combined wsJ7_copyOf_59c91 := goodIn_r _ [42, 43, 44, 45, 46, 47, 48, 1, 49, 4, 5, 6, 50, 51, 52, 53] (by decide +kernel) (by decide +kernel)
set_option maxRecDepth 20000 in
theorem gX3_combined_J7_copyOf_59c91 : GoodIn wsX3_combined (va_wsS RX3 41 yJ7_copyOf_59c91 wsJ7_copyOf_59c91) := goodIn_app (goodIn_of _ (by decide +kernel)) ggX3_combined_J7_copyOf_59c91
theorem yY_J7_copyOf_59c91 : jY yJ7_copyOf_59c91 wsJ7_copyOf_59c91 cJ7_copyOf_59c91 3 (some (.array .int)) 2 := ⟨⟨_, rfl⟩, by decide +kernel, by decide +kernel, by decide +kernel⟩
theorem dX3_combined_154 : decode cX3_combined 154 = .ok (.invokespecial 15, 3) := by decide +kernel
set_option maxRecDepth 20000 in
theorem ggX3_combined_X3_init : GoodIn wsX3_combined wsX3_init := goodIn_r _ [56, 57, 58, 59, 14, 60] (by decide +kernel) (by decide +kernel)
set_option maxRecDepth 20000 in
theorem gX3_combined_X3_init : GoodIn wsX3_combined (wsX3_init) := ggX3_combined_X3_init
theorem dX3_combined_157 : decode cX3_combined 157 = .ok (.areturn, 1) := by decide +kernel
theorem dX3_combined_32 : decode cX3_combined 32 = .ok (.iload 5, 2) := by decide +kernel
theorem dX3_combined_34 : decode cX3_combined 34 = .ok (.ldc 22, 2) := by decide +kernel
theorem dX3_combined_36 : decode cX3_combined 36 = .ok (.if_icmp .gt 108, 3) := by decide +kernel
theorem dX3_combined_39 : decode cX3_combined 39 = .ok (.aload_n 1, 1) := by decide +kernel
theorem dX3_combined_40 : decode cX3_combined 40 = .ok (.iload 5, 2) := by decide +kernel
theorem dX3_combined_42 : decode cX3_combined 42 = .ok (.invokevirtual 23, 3) := by decide +kernel
set_option maxRecDepth 20000 in
theorem ggX3_combined_X3_nextChange : GoodIn wsX3_combined wsX3_nextChange := goodIn_ca (goodIn_r _ [18, 19, 20, 21, 22, 9, 23, 14, 10, 11, 12, 13, 24, 25, 26, 27, 28, 29, 30, 31, 60] (by decide +kernel) (by decide +kernel)) (goodIn_sub (fun _ h => List.mem_cons_of_mem _ (List.mem_append_right _ h)) (by decide +kernel))
set_option maxRecDepth 20000 in
theorem gX3_combined_X3_nextChange : GoodIn wsX3_combined (wsV RX3 23 RX3 yX3_nextChange wsX3_nextChange) := goodIn_app (goodIn_of _ (by decide +kernel)) ggX3_combined_X3_nextChange
theorem yY_X3_nextChange : jY yX3_nextChange wsX3_nextChange cX3_nextChange 3 (some .int) 1 := ⟨⟨_, rfl⟩, by decide +kernel, by decide +kernel, by decide +kernel⟩
theorem dX3_combined_45 : decode cX3_combined 45 = .ok (.aload_n 2, 1) := by decide +kernel
theorem dX3_combined_46 : decode cX3_combined 46 = .ok (.iload 5, 2) := by decide +kernel
theorem dX3_combined_48 : decode cX3_combined 48 = .ok (.invokevirtual 23, 3) := by decide +kernel
theorem dX3_combined_51 : decode cX3_combined 51 = .ok (.invokestatic 27, 3) := by decide +kernel
theorem dX3_combined_54 : decode cX3_combined 54 = .ok (.istore 7, 2) := by decide +kernel
theorem dX3_combined_56 : decode cX3_combined 56 = .ok (.iload_n 0, 1) := by decide +kernel
theorem dX3_combined_57 : decode cX3_combined 57 = .ok (.aload_n 1, 1) := by decide +kernel
theorem dX3_combined_58 : decode cX3_combined 58 = .ok (.iload 5, 2) := by decide +kernel
theorem dX3_combined_60 : decode cX3_combined 60 = .ok (.invokevirtual 33, 3) := by decide +kernel
set_option maxRecDepth 20000 in
theorem ggX3_combined_X3_holds : GoodIn wsX3_combined wsX3_holds := goodIn_ca (goodIn_r _ [35, 20, 21, 22, 9, 23, 14, 10, 11, 12, 13, 24, 25, 26, 27, 60] (by decide +kernel) (by decide +kernel)) (goodIn_sub (fun _ h => List.mem_cons_of_mem _ (List.mem_append_right _ h)) (by decide +kernel))
set_option maxRecDepth 20000 in
theorem gX3_combined_X3_holds : GoodIn wsX3_combined (wsV RX3 33 RX3 yX3_holds wsX3_holds) := goodIn_app (goodIn_of _ (by decide +kernel)) ggX3_combined_X3_holds
theorem dX3_combined_63 : decode cX3_combined 63 = .ok (.aload_n 2, 1) := by decide +kernel
theorem dX3_combined_64 : decode cX3_combined 64 = .ok (.iload 5, 2) := by decide +kernel
theorem dX3_combined_66 : decode cX3_combined 66 = .ok (.invokevirtual 33, 3) := by decide +kernel
theorem dX3_combined_69 : decode cX3_combined 69 = .ok (.invokestatic 37, 3) := by decide +kernel
set_option maxRecDepth 20000 in
theorem ggX3_combined_X7_meets : GoodIn wsX3_combined wsX7_meets := goodIn_r _ [38] (by decide +kernel) (by decide +kernel)
set_option maxRecDepth 20000 in
theorem gX3_combined_X7_meets_n37 : GoodIn wsX3_combined (wsX7_meets) := ggX3_combined_X7_meets
theorem yY_X7_meets : jY yX7_meets wsX7_meets cX7_meets 3 (some .boolean) 3 := ⟨⟨_, rfl⟩, by decide +kernel, by decide +kernel, by decide +kernel⟩
theorem jnw_X3_combined_37 : Cond.methodLinkNest RX3 37 yX7_meets "VersionAlgebra" ∈ jNws := List.mem_filter.mpr ⟨by decide +kernel, rfl⟩
theorem dX3_combined_72 : decode cX3_combined 72 = .ok (.ifCond .eq 62, 3) := by decide +kernel
theorem dX3_combined_134 : decode cX3_combined 134 = .ok (.iload 7, 2) := by decide +kernel
theorem dX3_combined_136 : decode cX3_combined 136 = .ok (.istore 5, 2) := by decide +kernel
theorem dX3_combined_138 : decode cX3_combined 138 = .ok (.iinc 6 1, 3) := by decide +kernel
theorem dX3_combined_141 : decode cX3_combined 141 = .ok (.goto (-116), 3) := by decide +kernel
theorem dX3_combined_75 : decode cX3_combined 75 = .ok (.iload 4, 2) := by decide +kernel
theorem dX3_combined_77 : decode cX3_combined 77 = .ok (.ifCond .le 29, 3) := by decide +kernel
theorem dX3_combined_106 : decode cX3_combined 106 = .ok (.iload 4, 2) := by decide +kernel
theorem dX3_combined_108 : decode cX3_combined 108 = .ok (.iconst 2, 1) := by decide +kernel
theorem dX3_combined_109 : decode cX3_combined 109 = .ok (.iadd, 1) := by decide +kernel
theorem dX3_combined_110 : decode cX3_combined 110 = .ok (.aload_n 3, 1) := by decide +kernel
theorem dX3_combined_111 : decode cX3_combined 111 = .ok (.arraylength, 1) := by decide +kernel
theorem dX3_combined_112 : decode cX3_combined 112 = .ok (.if_icmp .gt 22, 3) := by decide +kernel
theorem dX3_combined_115 : decode cX3_combined 115 = .ok (.aload_n 3, 1) := by decide +kernel
theorem dX3_combined_116 : decode cX3_combined 116 = .ok (.iload 4, 2) := by decide +kernel
theorem dX3_combined_118 : decode cX3_combined 118 = .ok (.iload 5, 2) := by decide +kernel
theorem dX3_combined_120 : decode cX3_combined 120 = .ok (.iastore, 1) := by decide +kernel
theorem dX3_combined_121 : decode cX3_combined 121 = .ok (.aload_n 3, 1) := by decide +kernel
theorem dX3_combined_122 : decode cX3_combined 122 = .ok (.iload 4, 2) := by decide +kernel
theorem dX3_combined_124 : decode cX3_combined 124 = .ok (.iconst 1, 1) := by decide +kernel
theorem dX3_combined_125 : decode cX3_combined 125 = .ok (.iadd, 1) := by decide +kernel
theorem dX3_combined_126 : decode cX3_combined 126 = .ok (.iload 7, 2) := by decide +kernel
theorem dX3_combined_128 : decode cX3_combined 128 = .ok (.iconst 1, 1) := by decide +kernel
theorem dX3_combined_129 : decode cX3_combined 129 = .ok (.isub, 1) := by decide +kernel
theorem dX3_combined_130 : decode cX3_combined 130 = .ok (.iastore, 1) := by decide +kernel
theorem dX3_combined_131 : decode cX3_combined 131 = .ok (.iinc 4 2, 3) := by decide +kernel
theorem dX3_combined_80 : decode cX3_combined 80 = .ok (.aload_n 3, 1) := by decide +kernel
theorem dX3_combined_81 : decode cX3_combined 81 = .ok (.iload 4, 2) := by decide +kernel
theorem dX3_combined_83 : decode cX3_combined 83 = .ok (.iconst 1, 1) := by decide +kernel
theorem dX3_combined_84 : decode cX3_combined 84 = .ok (.isub, 1) := by decide +kernel
theorem dX3_combined_85 : decode cX3_combined 85 = .ok (.iaload, 1) := by decide +kernel
theorem dX3_combined_86 : decode cX3_combined 86 = .ok (.iload 5, 2) := by decide +kernel
theorem dX3_combined_88 : decode cX3_combined 88 = .ok (.iconst 1, 1) := by decide +kernel
theorem dX3_combined_89 : decode cX3_combined 89 = .ok (.isub, 1) := by decide +kernel
theorem dX3_combined_90 : decode cX3_combined 90 = .ok (.if_icmp .ne 16, 3) := by decide +kernel
theorem dX3_combined_93 : decode cX3_combined 93 = .ok (.aload_n 3, 1) := by decide +kernel
theorem dX3_combined_94 : decode cX3_combined 94 = .ok (.iload 4, 2) := by decide +kernel
theorem dX3_combined_96 : decode cX3_combined 96 = .ok (.iconst 1, 1) := by decide +kernel
theorem dX3_combined_97 : decode cX3_combined 97 = .ok (.isub, 1) := by decide +kernel
theorem dX3_combined_98 : decode cX3_combined 98 = .ok (.iload 7, 2) := by decide +kernel
theorem dX3_combined_100 : decode cX3_combined 100 = .ok (.iconst 1, 1) := by decide +kernel
theorem dX3_combined_101 : decode cX3_combined 101 = .ok (.isub, 1) := by decide +kernel
theorem dX3_combined_102 : decode cX3_combined 102 = .ok (.iastore, 1) := by decide +kernel
theorem dX3_combined_103 : decode cX3_combined 103 = .ok (.goto 31, 3) := by decide +kernel
theorem dX3_combined_0 : decode cX3_combined 0 = .ok (.iconst 2, 1) := by decide +kernel
theorem dX3_combined_1 : decode cX3_combined 1 = .ok (.aload_n 1, 1) := by decide +kernel
theorem dX3_combined_2 : decode cX3_combined 2 = .ok (.invokevirtual 18, 3) := by decide +kernel
set_option maxRecDepth 20000 in
theorem ggX3_combined_X3_spanCount : GoodIn wsX3_combined wsX3_spanCount := goodIn_r _ [13, 14, 60] (by decide +kernel) (by decide +kernel)
set_option maxRecDepth 20000 in
theorem gX3_combined_X3_spanCount : GoodIn wsX3_combined (wsV RX3 18 RX3 yX3_spanCount wsX3_spanCount) := goodIn_app (goodIn_of _ (by decide +kernel)) ggX3_combined_X3_spanCount
theorem dX3_combined_5 : decode cX3_combined 5 = .ok (.aload_n 2, 1) := by decide +kernel
theorem dX3_combined_6 : decode cX3_combined 6 = .ok (.invokevirtual 18, 3) := by decide +kernel
theorem dX3_combined_9 : decode cX3_combined 9 = .ok (.iadd, 1) := by decide +kernel
theorem dX3_combined_10 : decode cX3_combined 10 = .ok (.iconst 1, 1) := by decide +kernel
theorem dX3_combined_11 : decode cX3_combined 11 = .ok (.iadd, 1) := by decide +kernel
theorem dX3_combined_12 : decode cX3_combined 12 = .ok (.imul, 1) := by decide +kernel
theorem dX3_combined_13 : decode cX3_combined 13 = .ok (.newarray .int, 2) := by decide +kernel
theorem dX3_combined_15 : decode cX3_combined 15 = .ok (.astore_n 3, 1) := by decide +kernel
theorem dX3_combined_16 : decode cX3_combined 16 = .ok (.iconst 0, 1) := by decide +kernel
theorem dX3_combined_17 : decode cX3_combined 17 = .ok (.istore 4, 2) := by decide +kernel
theorem dX3_combined_19 : decode cX3_combined 19 = .ok (.iconst 0, 1) := by decide +kernel
theorem dX3_combined_20 : decode cX3_combined 20 = .ok (.istore 5, 2) := by decide +kernel
theorem dX3_combined_22 : decode cX3_combined 22 = .ok (.iconst 0, 1) := by decide +kernel
theorem dX3_combined_23 : decode cX3_combined 23 = .ok (.istore 6, 2) := by decide +kernel
set_option maxHeartbeats 2000000 in
set_option maxRecDepth 20000 in
theorem ct_X3_combined (l : Launch) (D : va_G) (dA : Nat → ClassId) (hst : l.stackTraces = false) (M : jM) (hcl : jCl M) (op : Int32) (t1 n1 : Nat) (hR1 : jRg M t1 n1) (t2 n2 : Nat) (hR2 : jRg M t2 n2) (hb : n1 + n2 < 1000) : jCT l D dA yX3_combined wsX3_combined (23) (480) (3) (4 * (n1 + n2 + 1) + 1) 2 [.int (op), .ref (t1), .ref (t2)] M (fun o M1 => ∃ t, o = oR (some t) ∧ jRo M M1 t ((rComb op (ji M (t1 + 1)) n1 (ji M (t2 + 1)) n2).1 / 2) (rComb op (ji M (t1 + 1)) n1 (ji M (t2 + 1)) n2).2) := by
  refine jBody (cc := cX3_combined) (nL := 8) (rt := (some (.object "VersionAlgebra$Range"))) (ini := false) (by decide) rfl hst (Nat.le_of_ble_eq_true rfl) (by simp [Value.category]) (by intro h9; first | exact absurd h9 (by decide) | rfl) ?_
  show J l D dA RX3 cX3_combined wsX3_combined 8 false (some (.object "VersionAlgebra$Range")) [] (23) (480) (jF D dA (jn M) (fun o M1 => ∃ t, o = oR (some t) ∧ jRo M M1 t ((rComb op (ji M (t1 + 1)) n1 (ji M (t2 + 1)) n2).1 / 2) (rComb op (ji M (t1 + 1)) n1 (ji M (t2 + 1)) n2).2) 2) (jn M) (3) (4 * (n1 + n2 + 1) + 1) (M) 0 [.int (op), .ref (t1), .ref (t2), .float 0, .float 0, .float 0, .float 0, .float 0] []
  obtain ⟨f1, f2, f3, f4, f5, f6⟩ := id hR1
  obtain ⟨g1, g2, g3, g4, g5, g6⟩ := id hR2
  have L25 : ∀ (fuel : Nat) (step : Nat) (len : Nat) (at9 : Int32) (M1 : jM) (hs : step ≤ 2 * (n1 + n2 + 1)) (hl : len ≤ 2 * (n1 + n2 + 1)) (hF : jFa M M1 (2 * (n1 + n2 + 1))) (hI : rcS op (ji M (t1 + 1)) n1 (ji M (t2 + 1)) n2 (2 * (n1 + n2 + 1)) (2 * (n1 + n2 + 1) - step) at9 len (ji M1 (jn M)) = rComb op (ji M (t1 + 1)) n1 (ji M (t2 + 1)) n2), 2 * (n1 + n2 + 1) - step < fuel → J l D dA RX3 cX3_combined wsX3_combined 8 false (some (.object "VersionAlgebra$Range")) [] (23) (480) (jF D dA (jn M) (fun o M1 => ∃ t, o = oR (some t) ∧ jRo M M1 t ((rComb op (ji M (t1 + 1)) n1 (ji M (t2 + 1)) n2).1 / 2) (rComb op (ji M (t1 + 1)) n1 (ji M (t2 + 1)) n2).2) 2) (jn M) (3 - 1) (4 * (n1 + n2 + 1) + 1 - 2 * (n1 + n2 + 1)) (M1) 25 [.int (op), .ref (t1), .ref (t2), .ref (jn M), .int (nI (len)), .int (at9), .int (nI (step)), .float 0] [] := by
    intro fuel
    induction fuel with
    | zero => intro step len at9 M1 hs hl hF hI hm; exact absurd hm (Nat.not_lt_zero _)
    | succ fuel ih25 =>
      intro step len at9 M1 hs hl hF hI hm25
      have e1 := hR1.ints hF.1
      have e2 := hR2.ints hF.1
      have hjn := hF.2.1
      refine J_iload dX3_combined_25 rfl ?_
      refine J_aload_n (jn M) dX3_combined_27 rfl rfl ?_
      refine J_alen (t := 2) dX3_combined_28 (by have h9 := hF.2.1; show jn M < jn M1; omega) hF.2.2.2.1 rfl ?_
      refine J_topi (y := nI (2 * (n1 + n2 + 1))) (congrArg nI hF.2.2.2.2) ?_
      refine J_icmp_ge dX3_combined_29 (tgt := 144) (by decide) (fun c29 => ?_) (fun c29 => ?_)
      · have c29 := jleT (a := 2 * (n1 + n2 + 1)) (b := step) (by omega) (by omega) c29
        refine J_new (ci := 7) dX3_combined_144 (fun _ h => List.mem_cons_of_mem _ (List.mem_append_left _ (List.mem_append_right _ (h)))) cs7 cty7 (List.mem_of_getElem? (i := 7) rfl) (List.mem_of_getElem? (i := 8) rfl) (List.mem_of_getElem? (i := 9) rfl) (by omega) (by omega) (hF.2.2.1) (jOk.int (jOk.ref (hR1.ext hF.1 |>.1 |> Nat.lt_of_succ_lt) (jOk.ref (hR2.ext hF.1 |>.1 |> Nat.lt_of_succ_lt) (jOk.ref (by have h9 := hF.2.1; show jn M < jn M1; omega) (jOk.int (jOk.int (jOk.int (jOk.float jOk.nil)))))))) jOk.nil ?_
        refine J_dup dX3_combined_147 rfl ?_
        refine J_aload_n (jn M) dX3_combined_148 rfl rfl ?_
        refine J_iload dX3_combined_149 rfl ?_
        refine J_callq (jrunS (As := [.ref (jn M), .int (nI (len))]) (ct_J7_copyOf_59c91 l D dA hst (jNw M1 7 0) (jCl_Nw (hF.2.2.1)) (jn M) (2 * (n1 + n2 + 1)) len (by have h9 := hF.2.1; simp [jk_Nw, jk_Si, jk_Sr, jk_Sv, jn_Nw, jn_Si, jn_Sr, jn_Sv, jz_Nw, jz_Si, jz_Sr, jz_Sv, jr_Nw, jr_Sr, jr_Si, jr_Sv, ji_Nw, ji_Si, ji_Sr, ji_Sv]; omega) (by have h9 := hF.2.1; simp [jk_Nw, h9, hF.2.2.2.1]) (by have h9 := hF.2.1; simp [jz_Nw, h9, hF.2.2.2.2]) (by omega) (by omega)) dX3_combined_151 yY_J7_copyOf_59c91 gX3_combined_J7_copyOf_59c91 rfl ⟨by omega, by omega⟩ ⟨by omega, by omega⟩ rfl (Nat.le_of_ble_eq_true rfl)) ⟨by omega, by omega⟩ (Or.inr ⟨(jOk.int (jOk.ref (by have := (hR1.ext hF.1 |>.1 |> Nat.lt_of_succ_lt); simp [jn_Nw, jn_Si, jn_Sr, jn_Sv] at this ⊢; omega) (jOk.ref (by have := (hR2.ext hF.1 |>.1 |> Nat.lt_of_succ_lt); simp [jn_Nw, jn_Si, jn_Sr, jn_Sv] at this ⊢; omega) (jOk.ref (by have := (by have h9 := hF.2.1; show jn M < jn M1; omega); simp [jn_Nw, jn_Si, jn_Sr, jn_Sv] at this ⊢; omega) (jOk.int (jOk.int (jOk.int (jOk.float jOk.nil)))))))), (jOk.ref (by simp [jn_Nw, jn_Si, jn_Sr, jn_Sv] <;> omega) (jOk.ref (by simp [jn_Nw, jn_Si, jn_Sr, jn_Sv] <;> omega) jOk.nil))⟩) (fun E M9 hp _ => by have h1 := hp.1; cases h1) (fun x9 M2 hp151 hle151 => ?_)
        have hx9 : x9 = some (jn (jNw M1 7 0)) := by
         have h1 := hp151.1
         have h3 : va_rf x9 = va_rf (some (jn (jNw M1 7 0))) := Option.some.inj (Sum.inl.inj h1)
         cases x9 with
         | none => cases h3
         | some z => exact congrArg some (Value.ref.inj h3)
        subst hx9
        obtain ⟨-, hF2, hC2⟩ := hp151
        refine J_callv0 (jrunI (ret := none) (As := [.ref (jn M1 + 1)]) (ct_X3_init l D dA hst M2 (jn M1) (jn M1 + 1) (by have h8 := hF2.2.1; simp only [jn_Nw] at h8; omega) ((hF2.1.2 (jn M1) (Nat.lt_succ_self _)).1.trans (by simp [jk_Nw]))) dX3_combined_154 yY_X3_init gX3_combined_X3_init rfl (List.mem_of_getElem? (i := 9) rfl) (List.mem_of_getElem? (i := 54) rfl) (List.mem_of_getElem? (i := 55) rfl) rfl ⟨by omega, by omega⟩ ⟨Nat.zero_le _, Nat.zero_le _⟩ rfl (Nat.le_of_ble_eq_true rfl)) (rfl) (rfl) ?_
        exact J_aret (r := some (jn M1)) dX3_combined_157 rfl (Or.inl ⟨_, rfl⟩) (by exact comb_end hF hl hb hI (by first | (left; omega) | (right; assumption)) hF2 hC2)
      · have c29 := jleF (a := 2 * (n1 + n2 + 1)) (b := step) (by omega) (by omega) c29
        refine J_iload dX3_combined_32 rfl ?_
        refine J_ldc (x := 99999999) dX3_combined_34 (List.mem_of_getElem? (i := 2) rfl) ?_
        refine J_icmp_gt dX3_combined_36 (tgt := 144) (by decide) (fun c36 => ?_) (fun c36 => ?_)
        · refine J_new (ci := 7) dX3_combined_144 (fun _ h => List.mem_cons_of_mem _ (List.mem_append_left _ (List.mem_append_right _ (h)))) cs7 cty7 (List.mem_of_getElem? (i := 7) rfl) (List.mem_of_getElem? (i := 8) rfl) (List.mem_of_getElem? (i := 9) rfl) (by omega) (by omega) (hF.2.2.1) (jOk.int (jOk.ref (hR1.ext hF.1 |>.1 |> Nat.lt_of_succ_lt) (jOk.ref (hR2.ext hF.1 |>.1 |> Nat.lt_of_succ_lt) (jOk.ref (by have h9 := hF.2.1; show jn M < jn M1; omega) (jOk.int (jOk.int (jOk.int (jOk.float jOk.nil)))))))) jOk.nil ?_
          refine J_dup dX3_combined_147 rfl ?_
          refine J_aload_n (jn M) dX3_combined_148 rfl rfl ?_
          refine J_iload dX3_combined_149 rfl ?_
          refine J_callq (jrunS (As := [.ref (jn M), .int (nI (len))]) (ct_J7_copyOf_59c91 l D dA hst (jNw M1 7 0) (jCl_Nw (hF.2.2.1)) (jn M) (2 * (n1 + n2 + 1)) len (by have h9 := hF.2.1; simp [jk_Nw, jk_Si, jk_Sr, jk_Sv, jn_Nw, jn_Si, jn_Sr, jn_Sv, jz_Nw, jz_Si, jz_Sr, jz_Sv, jr_Nw, jr_Sr, jr_Si, jr_Sv, ji_Nw, ji_Si, ji_Sr, ji_Sv]; omega) (by have h9 := hF.2.1; simp [jk_Nw, h9, hF.2.2.2.1]) (by have h9 := hF.2.1; simp [jz_Nw, h9, hF.2.2.2.2]) (by omega) (by omega)) dX3_combined_151 yY_J7_copyOf_59c91 gX3_combined_J7_copyOf_59c91 rfl ⟨by omega, by omega⟩ ⟨by omega, by omega⟩ rfl (Nat.le_of_ble_eq_true rfl)) ⟨by omega, by omega⟩ (Or.inr ⟨(jOk.int (jOk.ref (by have := (hR1.ext hF.1 |>.1 |> Nat.lt_of_succ_lt); simp [jn_Nw, jn_Si, jn_Sr, jn_Sv] at this ⊢; omega) (jOk.ref (by have := (hR2.ext hF.1 |>.1 |> Nat.lt_of_succ_lt); simp [jn_Nw, jn_Si, jn_Sr, jn_Sv] at this ⊢; omega) (jOk.ref (by have := (by have h9 := hF.2.1; show jn M < jn M1; omega); simp [jn_Nw, jn_Si, jn_Sr, jn_Sv] at this ⊢; omega) (jOk.int (jOk.int (jOk.int (jOk.float jOk.nil)))))))), (jOk.ref (by simp [jn_Nw, jn_Si, jn_Sr, jn_Sv] <;> omega) (jOk.ref (by simp [jn_Nw, jn_Si, jn_Sr, jn_Sv] <;> omega) jOk.nil))⟩) (fun E M9 hp _ => by have h1 := hp.1; cases h1) (fun x9 M2 hp151 hle151 => ?_)
          have hx9 : x9 = some (jn (jNw M1 7 0)) := by
           have h1 := hp151.1
           have h3 : va_rf x9 = va_rf (some (jn (jNw M1 7 0))) := Option.some.inj (Sum.inl.inj h1)
           cases x9 with
           | none => cases h3
           | some z => exact congrArg some (Value.ref.inj h3)
          subst hx9
          obtain ⟨-, hF2, hC2⟩ := hp151
          refine J_callv0 (jrunI (ret := none) (As := [.ref (jn M1 + 1)]) (ct_X3_init l D dA hst M2 (jn M1) (jn M1 + 1) (by have h8 := hF2.2.1; simp only [jn_Nw] at h8; omega) ((hF2.1.2 (jn M1) (Nat.lt_succ_self _)).1.trans (by simp [jk_Nw]))) dX3_combined_154 yY_X3_init gX3_combined_X3_init rfl (List.mem_of_getElem? (i := 9) rfl) (List.mem_of_getElem? (i := 54) rfl) (List.mem_of_getElem? (i := 55) rfl) rfl ⟨by omega, by omega⟩ ⟨Nat.zero_le _, Nat.zero_le _⟩ rfl (Nat.le_of_ble_eq_true rfl)) (rfl) (rfl) ?_
          exact J_aret (r := some (jn M1)) dX3_combined_157 rfl (Or.inl ⟨_, rfl⟩) (by exact comb_end hF hl hb hI (by first | (left; omega) | (right; assumption)) hF2 hC2)
        · refine J_aload_n (t1) dX3_combined_39 rfl rfl ?_
          refine J_iload dX3_combined_40 rfl ?_
          refine J_calli0 (jrunV (As := [.int (at9)]) (ct_X3_nextChange l D dA hst M1 t1 n1 (hR1.ext hF.1) ((at9))) dX3_combined_42 yY_X3_nextChange gX3_combined_X3_nextChange rfl cs7 (hR1.ext hF.1 |>.1 |> Nat.lt_of_succ_lt) (hR1.ext hF.1).2.1 rfl ⟨by omega, by omega⟩ ⟨Nat.zero_le _, Nat.zero_le _⟩ rfl (Nat.le_of_ble_eq_true rfl)) (rfl) (rfl) ?_
          refine J_topi (y := (rNext (ji M (t1 + 1)) n1 at9)) (by rw [e1]) ?_
          refine J_aload_n (t2) dX3_combined_45 rfl rfl ?_
          refine J_iload dX3_combined_46 rfl ?_
          refine J_calli0 (jrunV (As := [.int (at9)]) (ct_X3_nextChange l D dA hst M1 t2 n2 (hR2.ext hF.1) ((at9))) dX3_combined_48 yY_X3_nextChange gX3_combined_X3_nextChange rfl cs7 (hR2.ext hF.1 |>.1 |> Nat.lt_of_succ_lt) (hR2.ext hF.1).2.1 rfl ⟨by omega, by omega⟩ ⟨Nat.zero_le _, Nat.zero_le _⟩ rfl (Nat.le_of_ble_eq_true rfl)) (rfl) (rfl) ?_
          refine J_topi (y := (rNext (ji M (t2 + 1)) n2 at9)) (by rw [e2]) ?_
          refine J_mmin dX3_combined_51 (List.mem_of_getElem? (i := 3) rfl) (List.mem_of_getElem? (i := 4) rfl) (List.mem_of_getElem? (i := 5) rfl) (List.mem_of_getElem? (i := 6) rfl) (Nat.le_of_ble_eq_true rfl) (by omega) (by omega) ?_
          refine J_topi (y := (rMin (rNext (ji M (t1 + 1)) n1 at9) (rNext (ji M (t2 + 1)) n2 at9))) (by rfl) ?_
          refine J_istore (lv' := [.int (op), .ref (t1), .ref (t2), .ref (jn M), .int (nI (len)), .int (at9), .int (nI (step)), .int (rMin (rNext (ji M (t1 + 1)) n1 at9) (rNext (ji M (t2 + 1)) n2 at9))]) dX3_combined_54 (by decide) rfl rfl ?_
          refine J_iload_n dX3_combined_56 rfl rfl ?_
          refine J_aload_n (t1) dX3_combined_57 rfl rfl ?_
          refine J_iload dX3_combined_58 rfl ?_
          refine J_calli0 (jrunV (As := [.int (at9)]) (ct_X3_holds l D dA hst M1 t1 n1 (hR1.ext hF.1) ((at9))) dX3_combined_60 yY_X3_holds gX3_combined_X3_holds rfl cs7 (hR1.ext hF.1 |>.1 |> Nat.lt_of_succ_lt) (hR1.ext hF.1).2.1 rfl ⟨by omega, by omega⟩ ⟨Nat.zero_le _, Nat.zero_le _⟩ rfl (Nat.le_of_ble_eq_true rfl)) (rfl) (rfl) ?_
          refine J_topi (y := jb (rHolds (ji M (t1 + 1)) n1 at9)) (by rw [e1]) ?_
          refine J_aload_n (t2) dX3_combined_63 rfl rfl ?_
          refine J_iload dX3_combined_64 rfl ?_
          refine J_calli0 (jrunV (As := [.int (at9)]) (ct_X3_holds l D dA hst M1 t2 n2 (hR2.ext hF.1) ((at9))) dX3_combined_66 yY_X3_holds gX3_combined_X3_holds rfl cs7 (hR2.ext hF.1 |>.1 |> Nat.lt_of_succ_lt) (hR2.ext hF.1).2.1 rfl ⟨by omega, by omega⟩ ⟨Nat.zero_le _, Nat.zero_le _⟩ rfl (Nat.le_of_ble_eq_true rfl)) (rfl) (rfl) ?_
          refine J_topi (y := jb (rHolds (ji M (t2 + 1)) n2 at9)) (by rw [e2]) ?_
          refine J_calli0 (jrunSN (As := [.int (op), .int (jb (rHolds (ji M (t1 + 1)) n1 at9)), .int (jb (rHolds (ji M (t2 + 1)) n2 at9))]) (ct_X7_meets l D dA hst M1 ((op)) (rHolds (ji M (t1 + 1)) n1 at9) (rHolds (ji M (t2 + 1)) n2 at9)) dX3_combined_69 yY_X7_meets gX3_combined_X7_meets_n37 (List.mem_of_getElem? (i := 37) rfl) jnw_X3_combined_37 (List.mem_of_getElem? (i := 36) rfl) rfl ⟨by omega, by omega⟩ ⟨Nat.zero_le _, Nat.zero_le _⟩ rfl (Nat.le_of_ble_eq_true rfl)) (rfl) (rfl) ?_
          refine J_if_eq dX3_combined_72 (tgt := 134) (by decide) (fun c72 => ?_) (fun c72 => ?_)
          · have c72 := jb0T c72
            refine J_iload dX3_combined_134 rfl ?_
            refine J_istore (lv' := [.int (op), .ref (t1), .ref (t2), .ref (jn M), .int (nI (len)), .int (rMin (rNext (ji M (t1 + 1)) n1 at9) (rNext (ji M (t2 + 1)) n2 at9)), .int (nI (step)), .int (rMin (rNext (ji M (t1 + 1)) n1 at9) (rNext (ji M (t2 + 1)) n2 at9))]) dX3_combined_136 (by decide) rfl rfl ?_
            refine J_iinc (y := nI (step + 1)) (lv' := [.int (op), .ref (t1), .ref (t2), .ref (jn M), .int (nI (len)), .int (rMin (rNext (ji M (t1 + 1)) n1 at9) (rNext (ji M (t2 + 1)) n2 at9)), .int (nI (step + 1)), .int (rMin (rNext (ji M (t1 + 1)) n1 at9) (rNext (ji M (t2 + 1)) n2 at9))]) dX3_combined_138 rfl (jinc (step)) (by decide) rfl rfl ?_
            refine J_goto (tgt := 25) dX3_combined_141 (by decide) ?_
            refine J_fg 7 (lv' := [.int (op), .ref (t1), .ref (t2), .ref (jn M), .int (nI (len)), .int (rMin (rNext (ji M (t1 + 1)) n1 at9) (rNext (ji M (t2 + 1)) n2 at9)), .int (nI (step + 1)), .float 0]) rfl ?_
            exact ih25 (step + 1) (len) (rMin (rNext (ji M (t1 + 1)) n1 at9) (rNext (ji M (t2 + 1)) n2 at9)) (M1) (by omega) (by omega) (by first | exact hF | exact hF.si | exact hF.si.si | exact ⟨jExt.nw, rfl, jCl_Nw hcl, by simp [jk_Nw, jk_Si, jk_Sr, jk_Sv, jn_Nw, jn_Si, jn_Sr, jn_Sv, jz_Nw, jz_Si, jz_Sr, jz_Sv, jr_Nw, jr_Sr, jr_Si, jr_Sv, ji_Nw, ji_Si, ji_Sr, ji_Sv], by simp [jk_Nw, jk_Si, jk_Sr, jk_Sv, jn_Nw, jn_Si, jn_Sr, jn_Sv, jz_Nw, jz_Si, jz_Sr, jz_Sv, jr_Nw, jr_Sr, jr_Si, jr_Sv, ji_Nw, ji_Si, ji_Sr, ji_Sv]⟩) (by first | (refine Eq.trans ?_ hI; rw [show 2 * (n1 + n2 + 1) - step = (2 * (n1 + n2 + 1) - (step + 1)) + 1 from by omega, rcS_s c36]; rw [if_pos c72, if_pos (show 0 < len ∧ ji M1 (jn M) (len - 1) = at9 - 1 from ⟨c77, c90⟩), ji_upd]; done) | (refine Eq.trans ?_ hI; rw [show 2 * (n1 + n2 + 1) - step = (2 * (n1 + n2 + 1) - (step + 1)) + 1 from by omega, rcS_s c36]; rw [if_pos c72, if_neg (show ¬ (0 < len ∧ ji M1 (jn M) (len - 1) = at9 - 1) from fun h => by first | exact c90 h.2 | omega)]; first | (rw [if_pos (by omega), ji_upd, ji_upd]; done) | (rw [if_neg (by omega)]; done)) | (refine Eq.trans ?_ hI; rw [show 2 * (n1 + n2 + 1) - step = (2 * (n1 + n2 + 1) - (step + 1)) + 1 from by omega, rcS_s c36]; rw [if_neg (by rw [c72]; decide)]; done)) (by omega)
          · have c72 := jb0F c72
            refine J_iload dX3_combined_75 rfl ?_
            refine J_if_le dX3_combined_77 (tgt := 106) (by decide) (fun c77 => ?_) (fun c77 => ?_)
            · have c77 := jleT (a := len) (b := 0) (by omega) (by omega) c77
              refine J_iload dX3_combined_106 rfl ?_
              refine J_iconst (x := 2) dX3_combined_108 (by decide) ?_
              refine J_iadd dX3_combined_109 ?_
              refine J_topi (y := nI (len + 2)) (nI_add (len) (2)) ?_
              refine J_aload_n (jn M) dX3_combined_110 rfl rfl ?_
              refine J_alen (t := 2) dX3_combined_111 (by have h9 := hF.2.1; show jn M < jn M1; omega) hF.2.2.2.1 rfl ?_
              refine J_topi (y := nI (2 * (n1 + n2 + 1))) (congrArg nI hF.2.2.2.2) ?_
              refine J_icmp_gt dX3_combined_112 (tgt := 134) (by decide) (fun c112 => ?_) (fun c112 => ?_)
              · have c112 := jltT (a := 2 * (n1 + n2 + 1)) (b := len + 2) (by omega) (by omega) c112
                refine J_iload dX3_combined_134 rfl ?_
                refine J_istore (lv' := [.int (op), .ref (t1), .ref (t2), .ref (jn M), .int (nI (len)), .int (rMin (rNext (ji M (t1 + 1)) n1 at9) (rNext (ji M (t2 + 1)) n2 at9)), .int (nI (step)), .int (rMin (rNext (ji M (t1 + 1)) n1 at9) (rNext (ji M (t2 + 1)) n2 at9))]) dX3_combined_136 (by decide) rfl rfl ?_
                refine J_iinc (y := nI (step + 1)) (lv' := [.int (op), .ref (t1), .ref (t2), .ref (jn M), .int (nI (len)), .int (rMin (rNext (ji M (t1 + 1)) n1 at9) (rNext (ji M (t2 + 1)) n2 at9)), .int (nI (step + 1)), .int (rMin (rNext (ji M (t1 + 1)) n1 at9) (rNext (ji M (t2 + 1)) n2 at9))]) dX3_combined_138 rfl (jinc (step)) (by decide) rfl rfl ?_
                refine J_goto (tgt := 25) dX3_combined_141 (by decide) ?_
                refine J_fg 7 (lv' := [.int (op), .ref (t1), .ref (t2), .ref (jn M), .int (nI (len)), .int (rMin (rNext (ji M (t1 + 1)) n1 at9) (rNext (ji M (t2 + 1)) n2 at9)), .int (nI (step + 1)), .float 0]) rfl ?_
                exact ih25 (step + 1) (len) (rMin (rNext (ji M (t1 + 1)) n1 at9) (rNext (ji M (t2 + 1)) n2 at9)) (M1) (by omega) (by omega) (by first | exact hF | exact hF.si | exact hF.si.si | exact ⟨jExt.nw, rfl, jCl_Nw hcl, by simp [jk_Nw, jk_Si, jk_Sr, jk_Sv, jn_Nw, jn_Si, jn_Sr, jn_Sv, jz_Nw, jz_Si, jz_Sr, jz_Sv, jr_Nw, jr_Sr, jr_Si, jr_Sv, ji_Nw, ji_Si, ji_Sr, ji_Sv], by simp [jk_Nw, jk_Si, jk_Sr, jk_Sv, jn_Nw, jn_Si, jn_Sr, jn_Sv, jz_Nw, jz_Si, jz_Sr, jz_Sv, jr_Nw, jr_Sr, jr_Si, jr_Sv, ji_Nw, ji_Si, ji_Sr, ji_Sv]⟩) (by first | (refine Eq.trans ?_ hI; rw [show 2 * (n1 + n2 + 1) - step = (2 * (n1 + n2 + 1) - (step + 1)) + 1 from by omega, rcS_s c36]; rw [if_pos c72, if_pos (show 0 < len ∧ ji M1 (jn M) (len - 1) = at9 - 1 from ⟨c77, c90⟩), ji_upd]; done) | (refine Eq.trans ?_ hI; rw [show 2 * (n1 + n2 + 1) - step = (2 * (n1 + n2 + 1) - (step + 1)) + 1 from by omega, rcS_s c36]; rw [if_pos c72, if_neg (show ¬ (0 < len ∧ ji M1 (jn M) (len - 1) = at9 - 1) from fun h => by first | exact c90 h.2 | omega)]; first | (rw [if_pos (by omega), ji_upd, ji_upd]; done) | (rw [if_neg (by omega)]; done)) | (refine Eq.trans ?_ hI; rw [show 2 * (n1 + n2 + 1) - step = (2 * (n1 + n2 + 1) - (step + 1)) + 1 from by omega, rcS_s c36]; rw [if_neg (by rw [c72]; decide)]; done)) (by omega)
              · have c112 := jltF (a := 2 * (n1 + n2 + 1)) (b := len + 2) (by omega) (by omega) c112
                refine J_aload_n (jn M) dX3_combined_115 rfl rfl ?_
                refine J_iload dX3_combined_116 rfl ?_
                refine J_iload dX3_combined_118 rfl ?_
                refine J_iastN (k := len) dX3_combined_120 (by have h9 := hF.2.1; show jn M < jn M1; omega) hF.2.2.2.1 (by exact Nat.lt_of_lt_of_eq (show _ < 2 * (n1 + n2 + 1) by omega) (Eq.symm hF.2.2.2.2)) (by exact Nat.lt_of_le_of_lt (Nat.le_of_eq hF.2.2.2.2) (show 2 * (n1 + n2 + 1) < 2 ^ 31 by omega)) ?_
                refine J_aload_n (jn M) dX3_combined_121 rfl rfl ?_
                refine J_iload dX3_combined_122 rfl ?_
                refine J_iconst (x := 1) dX3_combined_124 (by decide) ?_
                refine J_iadd dX3_combined_125 ?_
                refine J_topi (y := nI (len + 1)) (nI_add (len) (1)) ?_
                refine J_iload dX3_combined_126 rfl ?_
                refine J_iconst (x := 1) dX3_combined_128 (by decide) ?_
                refine J_isub dX3_combined_129 ?_
                refine J_iastN (k := len + 1) dX3_combined_130 (by have h9 := hF.2.1; show jn M < jn M1; omega) hF.2.2.2.1 (by exact Nat.lt_of_lt_of_eq (show _ < 2 * (n1 + n2 + 1) by omega) (Eq.symm hF.2.2.2.2)) (by exact Nat.lt_of_le_of_lt (Nat.le_of_eq hF.2.2.2.2) (show 2 * (n1 + n2 + 1) < 2 ^ 31 by omega)) ?_
                refine J_iinc (y := nI (len + 2)) (lv' := [.int (op), .ref (t1), .ref (t2), .ref (jn M), .int (nI (len + 2)), .int (at9), .int (nI (step)), .int (rMin (rNext (ji M (t1 + 1)) n1 at9) (rNext (ji M (t2 + 1)) n2 at9))]) dX3_combined_131 rfl (by rw [show Int32.ofInt 2 = nI 2 from by decide]; exact nI_add _ _) (by decide) rfl rfl ?_
                refine J_iload dX3_combined_134 rfl ?_
                refine J_istore (lv' := [.int (op), .ref (t1), .ref (t2), .ref (jn M), .int (nI (len + 2)), .int (rMin (rNext (ji M (t1 + 1)) n1 at9) (rNext (ji M (t2 + 1)) n2 at9)), .int (nI (step)), .int (rMin (rNext (ji M (t1 + 1)) n1 at9) (rNext (ji M (t2 + 1)) n2 at9))]) dX3_combined_136 (by decide) rfl rfl ?_
                refine J_iinc (y := nI (step + 1)) (lv' := [.int (op), .ref (t1), .ref (t2), .ref (jn M), .int (nI (len + 2)), .int (rMin (rNext (ji M (t1 + 1)) n1 at9) (rNext (ji M (t2 + 1)) n2 at9)), .int (nI (step + 1)), .int (rMin (rNext (ji M (t1 + 1)) n1 at9) (rNext (ji M (t2 + 1)) n2 at9))]) dX3_combined_138 rfl (jinc (step)) (by decide) rfl rfl ?_
                refine J_goto (tgt := 25) dX3_combined_141 (by decide) ?_
                refine J_fg 7 (lv' := [.int (op), .ref (t1), .ref (t2), .ref (jn M), .int (nI (len + 2)), .int (rMin (rNext (ji M (t1 + 1)) n1 at9) (rNext (ji M (t2 + 1)) n2 at9)), .int (nI (step + 1)), .float 0]) rfl ?_
                exact ih25 (step + 1) (len + 2) (rMin (rNext (ji M (t1 + 1)) n1 at9) (rNext (ji M (t2 + 1)) n2 at9)) (jSi (jSi M1 (jn M) len ((at9))) (jn M) (len + 1) (((rMin (rNext (ji M (t1 + 1)) n1 at9) (rNext (ji M (t2 + 1)) n2 at9)) - (1)))) (by omega) (by omega) (by first | exact hF | exact hF.si | exact hF.si.si | exact ⟨jExt.nw, rfl, jCl_Nw hcl, by simp [jk_Nw, jk_Si, jk_Sr, jk_Sv, jn_Nw, jn_Si, jn_Sr, jn_Sv, jz_Nw, jz_Si, jz_Sr, jz_Sv, jr_Nw, jr_Sr, jr_Si, jr_Sv, ji_Nw, ji_Si, ji_Sr, ji_Sv], by simp [jk_Nw, jk_Si, jk_Sr, jk_Sv, jn_Nw, jn_Si, jn_Sr, jn_Sv, jz_Nw, jz_Si, jz_Sr, jz_Sv, jr_Nw, jr_Sr, jr_Si, jr_Sv, ji_Nw, ji_Si, ji_Sr, ji_Sv]⟩) (by first | (refine Eq.trans ?_ hI; rw [show 2 * (n1 + n2 + 1) - step = (2 * (n1 + n2 + 1) - (step + 1)) + 1 from by omega, rcS_s c36]; rw [if_pos c72, if_pos (show 0 < len ∧ ji M1 (jn M) (len - 1) = at9 - 1 from ⟨c77, c90⟩), ji_upd]; done) | (refine Eq.trans ?_ hI; rw [show 2 * (n1 + n2 + 1) - step = (2 * (n1 + n2 + 1) - (step + 1)) + 1 from by omega, rcS_s c36]; rw [if_pos c72, if_neg (show ¬ (0 < len ∧ ji M1 (jn M) (len - 1) = at9 - 1) from fun h => by first | exact c90 h.2 | omega)]; first | (rw [if_pos (by omega), ji_upd, ji_upd]; done) | (rw [if_neg (by omega)]; done)) | (refine Eq.trans ?_ hI; rw [show 2 * (n1 + n2 + 1) - step = (2 * (n1 + n2 + 1) - (step + 1)) + 1 from by omega, rcS_s c36]; rw [if_neg (by rw [c72]; decide)]; done)) (by omega)
            · have c77 := jleF (a := len) (b := 0) (by omega) (by omega) c77
              refine J_aload_n (jn M) dX3_combined_80 rfl rfl ?_
              refine J_iload dX3_combined_81 rfl ?_
              refine J_iconst (x := 1) dX3_combined_83 (by decide) ?_
              refine J_isub dX3_combined_84 ?_
              refine J_topi (y := nI (len - 1)) (pk_sub (a := len) (b := 1) (by omega)) ?_
              refine J_ialdN (k := len - 1) dX3_combined_85 (by have h9 := hF.2.1; show jn M < jn M1; omega) hF.2.2.2.1 (by exact Nat.lt_of_lt_of_eq (show _ < 2 * (n1 + n2 + 1) by omega) (Eq.symm hF.2.2.2.2)) (by exact Nat.lt_of_le_of_lt (Nat.le_of_eq hF.2.2.2.2) (show 2 * (n1 + n2 + 1) < 2 ^ 31 by omega)) ?_
              refine J_iload dX3_combined_86 rfl ?_
              refine J_iconst (x := 1) dX3_combined_88 (by decide) ?_
              refine J_isub dX3_combined_89 ?_
              refine J_icmp_ne dX3_combined_90 (tgt := 106) (by decide) (fun c90 => ?_) (fun c90 => ?_)
              · refine J_iload dX3_combined_106 rfl ?_
                refine J_iconst (x := 2) dX3_combined_108 (by decide) ?_
                refine J_iadd dX3_combined_109 ?_
                refine J_topi (y := nI (len + 2)) (nI_add (len) (2)) ?_
                refine J_aload_n (jn M) dX3_combined_110 rfl rfl ?_
                refine J_alen (t := 2) dX3_combined_111 (by have h9 := hF.2.1; show jn M < jn M1; omega) hF.2.2.2.1 rfl ?_
                refine J_topi (y := nI (2 * (n1 + n2 + 1))) (congrArg nI hF.2.2.2.2) ?_
                refine J_icmp_gt dX3_combined_112 (tgt := 134) (by decide) (fun c112 => ?_) (fun c112 => ?_)
                · have c112 := jltT (a := 2 * (n1 + n2 + 1)) (b := len + 2) (by omega) (by omega) c112
                  refine J_iload dX3_combined_134 rfl ?_
                  refine J_istore (lv' := [.int (op), .ref (t1), .ref (t2), .ref (jn M), .int (nI (len)), .int (rMin (rNext (ji M (t1 + 1)) n1 at9) (rNext (ji M (t2 + 1)) n2 at9)), .int (nI (step)), .int (rMin (rNext (ji M (t1 + 1)) n1 at9) (rNext (ji M (t2 + 1)) n2 at9))]) dX3_combined_136 (by decide) rfl rfl ?_
                  refine J_iinc (y := nI (step + 1)) (lv' := [.int (op), .ref (t1), .ref (t2), .ref (jn M), .int (nI (len)), .int (rMin (rNext (ji M (t1 + 1)) n1 at9) (rNext (ji M (t2 + 1)) n2 at9)), .int (nI (step + 1)), .int (rMin (rNext (ji M (t1 + 1)) n1 at9) (rNext (ji M (t2 + 1)) n2 at9))]) dX3_combined_138 rfl (jinc (step)) (by decide) rfl rfl ?_
                  refine J_goto (tgt := 25) dX3_combined_141 (by decide) ?_
                  refine J_fg 7 (lv' := [.int (op), .ref (t1), .ref (t2), .ref (jn M), .int (nI (len)), .int (rMin (rNext (ji M (t1 + 1)) n1 at9) (rNext (ji M (t2 + 1)) n2 at9)), .int (nI (step + 1)), .float 0]) rfl ?_
                  exact ih25 (step + 1) (len) (rMin (rNext (ji M (t1 + 1)) n1 at9) (rNext (ji M (t2 + 1)) n2 at9)) (M1) (by omega) (by omega) (by first | exact hF | exact hF.si | exact hF.si.si | exact ⟨jExt.nw, rfl, jCl_Nw hcl, by simp [jk_Nw, jk_Si, jk_Sr, jk_Sv, jn_Nw, jn_Si, jn_Sr, jn_Sv, jz_Nw, jz_Si, jz_Sr, jz_Sv, jr_Nw, jr_Sr, jr_Si, jr_Sv, ji_Nw, ji_Si, ji_Sr, ji_Sv], by simp [jk_Nw, jk_Si, jk_Sr, jk_Sv, jn_Nw, jn_Si, jn_Sr, jn_Sv, jz_Nw, jz_Si, jz_Sr, jz_Sv, jr_Nw, jr_Sr, jr_Si, jr_Sv, ji_Nw, ji_Si, ji_Sr, ji_Sv]⟩) (by first | (refine Eq.trans ?_ hI; rw [show 2 * (n1 + n2 + 1) - step = (2 * (n1 + n2 + 1) - (step + 1)) + 1 from by omega, rcS_s c36]; rw [if_pos c72, if_pos (show 0 < len ∧ ji M1 (jn M) (len - 1) = at9 - 1 from ⟨c77, c90⟩), ji_upd]; done) | (refine Eq.trans ?_ hI; rw [show 2 * (n1 + n2 + 1) - step = (2 * (n1 + n2 + 1) - (step + 1)) + 1 from by omega, rcS_s c36]; rw [if_pos c72, if_neg (show ¬ (0 < len ∧ ji M1 (jn M) (len - 1) = at9 - 1) from fun h => by first | exact c90 h.2 | omega)]; first | (rw [if_pos (by omega), ji_upd, ji_upd]; done) | (rw [if_neg (by omega)]; done)) | (refine Eq.trans ?_ hI; rw [show 2 * (n1 + n2 + 1) - step = (2 * (n1 + n2 + 1) - (step + 1)) + 1 from by omega, rcS_s c36]; rw [if_neg (by rw [c72]; decide)]; done)) (by omega)
                · have c112 := jltF (a := 2 * (n1 + n2 + 1)) (b := len + 2) (by omega) (by omega) c112
                  refine J_aload_n (jn M) dX3_combined_115 rfl rfl ?_
                  refine J_iload dX3_combined_116 rfl ?_
                  refine J_iload dX3_combined_118 rfl ?_
                  refine J_iastN (k := len) dX3_combined_120 (by have h9 := hF.2.1; show jn M < jn M1; omega) hF.2.2.2.1 (by exact Nat.lt_of_lt_of_eq (show _ < 2 * (n1 + n2 + 1) by omega) (Eq.symm hF.2.2.2.2)) (by exact Nat.lt_of_le_of_lt (Nat.le_of_eq hF.2.2.2.2) (show 2 * (n1 + n2 + 1) < 2 ^ 31 by omega)) ?_
                  refine J_aload_n (jn M) dX3_combined_121 rfl rfl ?_
                  refine J_iload dX3_combined_122 rfl ?_
                  refine J_iconst (x := 1) dX3_combined_124 (by decide) ?_
                  refine J_iadd dX3_combined_125 ?_
                  refine J_topi (y := nI (len + 1)) (nI_add (len) (1)) ?_
                  refine J_iload dX3_combined_126 rfl ?_
                  refine J_iconst (x := 1) dX3_combined_128 (by decide) ?_
                  refine J_isub dX3_combined_129 ?_
                  refine J_iastN (k := len + 1) dX3_combined_130 (by have h9 := hF.2.1; show jn M < jn M1; omega) hF.2.2.2.1 (by exact Nat.lt_of_lt_of_eq (show _ < 2 * (n1 + n2 + 1) by omega) (Eq.symm hF.2.2.2.2)) (by exact Nat.lt_of_le_of_lt (Nat.le_of_eq hF.2.2.2.2) (show 2 * (n1 + n2 + 1) < 2 ^ 31 by omega)) ?_
                  refine J_iinc (y := nI (len + 2)) (lv' := [.int (op), .ref (t1), .ref (t2), .ref (jn M), .int (nI (len + 2)), .int (at9), .int (nI (step)), .int (rMin (rNext (ji M (t1 + 1)) n1 at9) (rNext (ji M (t2 + 1)) n2 at9))]) dX3_combined_131 rfl (by rw [show Int32.ofInt 2 = nI 2 from by decide]; exact nI_add _ _) (by decide) rfl rfl ?_
                  refine J_iload dX3_combined_134 rfl ?_
                  refine J_istore (lv' := [.int (op), .ref (t1), .ref (t2), .ref (jn M), .int (nI (len + 2)), .int (rMin (rNext (ji M (t1 + 1)) n1 at9) (rNext (ji M (t2 + 1)) n2 at9)), .int (nI (step)), .int (rMin (rNext (ji M (t1 + 1)) n1 at9) (rNext (ji M (t2 + 1)) n2 at9))]) dX3_combined_136 (by decide) rfl rfl ?_
                  refine J_iinc (y := nI (step + 1)) (lv' := [.int (op), .ref (t1), .ref (t2), .ref (jn M), .int (nI (len + 2)), .int (rMin (rNext (ji M (t1 + 1)) n1 at9) (rNext (ji M (t2 + 1)) n2 at9)), .int (nI (step + 1)), .int (rMin (rNext (ji M (t1 + 1)) n1 at9) (rNext (ji M (t2 + 1)) n2 at9))]) dX3_combined_138 rfl (jinc (step)) (by decide) rfl rfl ?_
                  refine J_goto (tgt := 25) dX3_combined_141 (by decide) ?_
                  refine J_fg 7 (lv' := [.int (op), .ref (t1), .ref (t2), .ref (jn M), .int (nI (len + 2)), .int (rMin (rNext (ji M (t1 + 1)) n1 at9) (rNext (ji M (t2 + 1)) n2 at9)), .int (nI (step + 1)), .float 0]) rfl ?_
                  exact ih25 (step + 1) (len + 2) (rMin (rNext (ji M (t1 + 1)) n1 at9) (rNext (ji M (t2 + 1)) n2 at9)) (jSi (jSi M1 (jn M) len ((at9))) (jn M) (len + 1) (((rMin (rNext (ji M (t1 + 1)) n1 at9) (rNext (ji M (t2 + 1)) n2 at9)) - (1)))) (by omega) (by omega) (by first | exact hF | exact hF.si | exact hF.si.si | exact ⟨jExt.nw, rfl, jCl_Nw hcl, by simp [jk_Nw, jk_Si, jk_Sr, jk_Sv, jn_Nw, jn_Si, jn_Sr, jn_Sv, jz_Nw, jz_Si, jz_Sr, jz_Sv, jr_Nw, jr_Sr, jr_Si, jr_Sv, ji_Nw, ji_Si, ji_Sr, ji_Sv], by simp [jk_Nw, jk_Si, jk_Sr, jk_Sv, jn_Nw, jn_Si, jn_Sr, jn_Sv, jz_Nw, jz_Si, jz_Sr, jz_Sv, jr_Nw, jr_Sr, jr_Si, jr_Sv, ji_Nw, ji_Si, ji_Sr, ji_Sv]⟩) (by first | (refine Eq.trans ?_ hI; rw [show 2 * (n1 + n2 + 1) - step = (2 * (n1 + n2 + 1) - (step + 1)) + 1 from by omega, rcS_s c36]; rw [if_pos c72, if_pos (show 0 < len ∧ ji M1 (jn M) (len - 1) = at9 - 1 from ⟨c77, c90⟩), ji_upd]; done) | (refine Eq.trans ?_ hI; rw [show 2 * (n1 + n2 + 1) - step = (2 * (n1 + n2 + 1) - (step + 1)) + 1 from by omega, rcS_s c36]; rw [if_pos c72, if_neg (show ¬ (0 < len ∧ ji M1 (jn M) (len - 1) = at9 - 1) from fun h => by first | exact c90 h.2 | omega)]; first | (rw [if_pos (by omega), ji_upd, ji_upd]; done) | (rw [if_neg (by omega)]; done)) | (refine Eq.trans ?_ hI; rw [show 2 * (n1 + n2 + 1) - step = (2 * (n1 + n2 + 1) - (step + 1)) + 1 from by omega, rcS_s c36]; rw [if_neg (by rw [c72]; decide)]; done)) (by omega)
              · refine J_aload_n (jn M) dX3_combined_93 rfl rfl ?_
                refine J_iload dX3_combined_94 rfl ?_
                refine J_iconst (x := 1) dX3_combined_96 (by decide) ?_
                refine J_isub dX3_combined_97 ?_
                refine J_topi (y := nI (len - 1)) (pk_sub (a := len) (b := 1) (by omega)) ?_
                refine J_iload dX3_combined_98 rfl ?_
                refine J_iconst (x := 1) dX3_combined_100 (by decide) ?_
                refine J_isub dX3_combined_101 ?_
                refine J_iastN (k := len - 1) dX3_combined_102 (by have h9 := hF.2.1; show jn M < jn M1; omega) hF.2.2.2.1 (by exact Nat.lt_of_lt_of_eq (show _ < 2 * (n1 + n2 + 1) by omega) (Eq.symm hF.2.2.2.2)) (by exact Nat.lt_of_le_of_lt (Nat.le_of_eq hF.2.2.2.2) (show 2 * (n1 + n2 + 1) < 2 ^ 31 by omega)) ?_
                refine J_goto (tgt := 134) dX3_combined_103 (by decide) ?_
                refine J_iload dX3_combined_134 rfl ?_
                refine J_istore (lv' := [.int (op), .ref (t1), .ref (t2), .ref (jn M), .int (nI (len)), .int (rMin (rNext (ji M (t1 + 1)) n1 at9) (rNext (ji M (t2 + 1)) n2 at9)), .int (nI (step)), .int (rMin (rNext (ji M (t1 + 1)) n1 at9) (rNext (ji M (t2 + 1)) n2 at9))]) dX3_combined_136 (by decide) rfl rfl ?_
                refine J_iinc (y := nI (step + 1)) (lv' := [.int (op), .ref (t1), .ref (t2), .ref (jn M), .int (nI (len)), .int (rMin (rNext (ji M (t1 + 1)) n1 at9) (rNext (ji M (t2 + 1)) n2 at9)), .int (nI (step + 1)), .int (rMin (rNext (ji M (t1 + 1)) n1 at9) (rNext (ji M (t2 + 1)) n2 at9))]) dX3_combined_138 rfl (jinc (step)) (by decide) rfl rfl ?_
                refine J_goto (tgt := 25) dX3_combined_141 (by decide) ?_
                refine J_fg 7 (lv' := [.int (op), .ref (t1), .ref (t2), .ref (jn M), .int (nI (len)), .int (rMin (rNext (ji M (t1 + 1)) n1 at9) (rNext (ji M (t2 + 1)) n2 at9)), .int (nI (step + 1)), .float 0]) rfl ?_
                exact ih25 (step + 1) (len) (rMin (rNext (ji M (t1 + 1)) n1 at9) (rNext (ji M (t2 + 1)) n2 at9)) (jSi M1 (jn M) (len - 1) (((rMin (rNext (ji M (t1 + 1)) n1 at9) (rNext (ji M (t2 + 1)) n2 at9)) - (1)))) (by omega) (by omega) (by first | exact hF | exact hF.si | exact hF.si.si | exact ⟨jExt.nw, rfl, jCl_Nw hcl, by simp [jk_Nw, jk_Si, jk_Sr, jk_Sv, jn_Nw, jn_Si, jn_Sr, jn_Sv, jz_Nw, jz_Si, jz_Sr, jz_Sv, jr_Nw, jr_Sr, jr_Si, jr_Sv, ji_Nw, ji_Si, ji_Sr, ji_Sv], by simp [jk_Nw, jk_Si, jk_Sr, jk_Sv, jn_Nw, jn_Si, jn_Sr, jn_Sv, jz_Nw, jz_Si, jz_Sr, jz_Sv, jr_Nw, jr_Sr, jr_Si, jr_Sv, ji_Nw, ji_Si, ji_Sr, ji_Sv]⟩) (by first | (refine Eq.trans ?_ hI; rw [show 2 * (n1 + n2 + 1) - step = (2 * (n1 + n2 + 1) - (step + 1)) + 1 from by omega, rcS_s c36]; rw [if_pos c72, if_pos (show 0 < len ∧ ji M1 (jn M) (len - 1) = at9 - 1 from ⟨c77, c90⟩), ji_upd]; done) | (refine Eq.trans ?_ hI; rw [show 2 * (n1 + n2 + 1) - step = (2 * (n1 + n2 + 1) - (step + 1)) + 1 from by omega, rcS_s c36]; rw [if_pos c72, if_neg (show ¬ (0 < len ∧ ji M1 (jn M) (len - 1) = at9 - 1) from fun h => by first | exact c90 h.2 | omega)]; first | (rw [if_pos (by omega), ji_upd, ji_upd]; done) | (rw [if_neg (by omega)]; done)) | (refine Eq.trans ?_ hI; rw [show 2 * (n1 + n2 + 1) - step = (2 * (n1 + n2 + 1) - (step + 1)) + 1 from by omega, rcS_s c36]; rw [if_neg (by rw [c72]; decide)]; done)) (by omega)
  refine J_iconst (x := 2) dX3_combined_0 (by decide) ?_
  refine J_aload_n (t1) dX3_combined_1 rfl rfl ?_
  refine J_calli0 (jrunV (As := []) (ct_X3_spanCount l D dA hst M t1 n1 hR1) dX3_combined_2 yY_X3_spanCount gX3_combined_X3_spanCount rfl cs7 (Nat.lt_of_succ_lt f1) f2 rfl ⟨by omega, by omega⟩ ⟨Nat.zero_le _, Nat.zero_le _⟩ rfl (Nat.le_of_ble_eq_true rfl)) (rfl) (rfl) ?_
  refine J_aload_n (t2) dX3_combined_5 rfl rfl ?_
  refine J_calli0 (jrunV (As := []) (ct_X3_spanCount l D dA hst M t2 n2 hR2) dX3_combined_6 yY_X3_spanCount gX3_combined_X3_spanCount rfl cs7 (Nat.lt_of_succ_lt g1) g2 rfl ⟨by omega, by omega⟩ ⟨Nat.zero_le _, Nat.zero_le _⟩ rfl (Nat.le_of_ble_eq_true rfl)) (rfl) (rfl) ?_
  refine J_iadd dX3_combined_9 ?_
  refine J_topi (y := nI (n1 + n2)) (nI_add (n1) (n2)) ?_
  refine J_iconst (x := 1) dX3_combined_10 (by decide) ?_
  refine J_iadd dX3_combined_11 ?_
  refine J_topi (y := nI (n1 + n2 + 1)) (nI_add (n1 + n2) (1)) ?_
  refine J_imul dX3_combined_12 ?_
  refine J_topi (y := nI (2 * (n1 + n2 + 1))) (pk_mul (2) (n1 + n2 + 1)) ?_
  refine J_newa (t := 2) (atype := .int) (N' := 2 * (n1 + n2 + 1)) (n := nI (2 * (n1 + n2 + 1))) dX3_combined_13 (by decide) rfl rfl (List.mem_of_getElem? (i := 1) rfl) (nI_pos (n := 2 * (n1 + n2 + 1)) (by omega)) (nI_clamp (n := 2 * (n1 + n2 + 1)) (by omega)) (by simp [newarray.typeOf, componentBytes] <;> omega) (by omega) (by omega) (hcl) (jOk.int (jOk.ref (Nat.lt_of_succ_lt f1) (jOk.ref (Nat.lt_of_succ_lt g1) (jOk.float (jOk.float (jOk.float (jOk.float (jOk.float jOk.nil)))))))) jOk.nil ?_
  refine J_astore_n (x := jn M) (lv' := [.int (op), .ref (t1), .ref (t2), .ref (jn M), .float 0, .float 0, .float 0, .float 0]) dX3_combined_15 rfl (by decide) rfl rfl ?_
  refine J_iconst (x := 0) dX3_combined_16 (by decide) ?_
  refine J_istore (lv' := [.int (op), .ref (t1), .ref (t2), .ref (jn M), .int (0), .float 0, .float 0, .float 0]) dX3_combined_17 (by decide) rfl rfl ?_
  refine J_iconst (x := 0) dX3_combined_19 (by decide) ?_
  refine J_istore (lv' := [.int (op), .ref (t1), .ref (t2), .ref (jn M), .int (0), .int (0), .float 0, .float 0]) dX3_combined_20 (by decide) rfl rfl ?_
  refine J_iconst (x := 0) dX3_combined_22 (by decide) ?_
  refine J_istore (lv' := [.int (op), .ref (t1), .ref (t2), .ref (jn M), .int (0), .int (0), .int (0), .float 0]) dX3_combined_23 (by decide) rfl rfl ?_
  exact L25 _ (0) (0) (0) (jNw M 22 (2 * (n1 + n2 + 1))) (by omega) (by omega) (by first | exact hF | exact hF.si | exact hF.si.si | exact ⟨jExt.nw, rfl, jCl_Nw hcl, by simp [jk_Nw, jk_Si, jk_Sr, jk_Sv, jn_Nw, jn_Si, jn_Sr, jn_Sv, jz_Nw, jz_Si, jz_Sr, jz_Sv, jr_Nw, jr_Sr, jr_Si, jr_Sv, ji_Nw, ji_Si, ji_Sr, ji_Sv], by simp [jk_Nw, jk_Si, jk_Sr, jk_Sv, jn_Nw, jn_Si, jn_Sr, jn_Sv, jz_Nw, jz_Si, jz_Sr, jz_Sv, jr_Nw, jr_Sr, jr_Si, jr_Sv, ji_Nw, ji_Si, ji_Sr, ji_Sv]⟩) (by have h9 : ji (jNw M 22 (2 * (n1 + n2 + 1))) (jn M) = fun _ => 0 := (by funext j; simp [ji_Nw]); rw [h9]; rfl) (Nat.lt_succ_self _)

