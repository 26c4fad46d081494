theorem ex_rd {M : jM} {t sg L : Nat} (ht : t < jn M) (hk : jk M t = 5) (hs : sg < jn M) (hne : t ≠ sg) (hsk : jk M sg = 21) (hsz : jz M sg = 60) (hL : L ≤ 60) : jRd (jSi (jSi (jSi (jSr (jSi M t 2 0) t 0 (some sg)) t 1 (nI L)) t 8 0) t 9 (-1)) t 5 sg (ji M sg) L 0 := by
  refine ⟨ht, hk, ?_, hs, hsk, hsz, ?_, ?_, hL, ?_, Nat.zero_le _, hne⟩
  · simp [jr_Si, jr_Sr]
  · funext j; simp [ji_Si, ji_Sr, Ne.symm hne]
  · simp [ji_Si, ji_Sr]
  · simp [ji_Si, ji_Sr]; rfl
/-- an array of ints made and laid into a field -/
def jMk (A B : jM) (t k L : Nat) : Prop := jn B = jn A + 1 ∧ (∀ a, a < jn A → jk B a = jk A a ∧ jz B a = jz A a ∧ ji B a = ji A a ∧ jl B a = jl A a ∧ jd B a = jd A a ∧ (∀ j, ¬ (a = t ∧ j = k) → jr B a j = jr A a j)) ∧ jr B t k = some (jn A) ∧ jk B (jn A) = 22 ∧ jz B (jn A) = L ∧ (∀ j, ji B (jn A) j = 0) ∧ jCl B
theorem jMk_mk {A : jM} {t k L : Nat} (hcl : jCl A) : jMk A (jSr (jNw A 22 L) t k (some (jn A))) t k L := by
  refine ⟨rfl, fun a ha => ?_, ?_, ?_, ?_, ?_, jCl_Sr (jCl_Nw hcl) (fun q h => by cases h; exact Nat.lt_succ_self _)⟩
  · have hne : ¬ a = jn A := by omega
    refine ⟨?_, ?_, ?_, ?_, ?_, fun j hj => ?_⟩
    · rw [jk_Sr, jk_Nw, if_neg hne]
    · rw [jz_Sr, jz_Nw, if_neg hne]
    · funext j; rw [ji_Sr, ji_Nw, if_neg hne]
    · funext j; rw [jl_Sr, jl_Nw, if_neg hne]
    · funext j; rw [jd_Sr, jd_Nw, if_neg hne]
    · rw [jr_Sr, if_neg hj, jr_Nw, if_neg hne]
  · rw [jr_Sr, if_pos ⟨rfl, rfl⟩]
  · rw [jk_Sr, jk_Nw, if_pos rfl]
  · rw [jz_Sr, jz_Nw, if_pos rfl]
  · intro j; rw [ji_Sr, ji_Nw, if_pos rfl]
theorem jMk.xo {A B : jM} {t k L : Nat} (h : jMk A B t k L) : jXo t A B := ⟨by have := h.1; omega, fun a ha hne => by
  obtain ⟨h1, h2, h3, h4, h5, h6⟩ := h.2.1 a ha
  exact ⟨h1, h2, h3, funext fun j => h6 j (fun hh => hne hh.1), h4, h5⟩⟩
theorem ex_init {M A B C D E F : jM} {t sg L : Nat} (ht : t + 1 = jn M) (hk : jk M t = 5) (hs : sg < t) (hsk : jk M sg = 21) (hsz : jz M sg = 60) (hL : L ≤ 60) (hA : A = (jSi (jSi (jSi (jSr (jSi M t 2 0) t 0 (some sg)) t 1 (nI L)) t 8 0) t 9 (-1)))
    (h1 : jMk A B t 3 L) (h2 : jMk B C t 4 L) (h3 : jMk C D t 5 L) (h4 : jMk D E t 6 L) (h5 : jMk E F t 7 L) :
    jXo t M F ∧ jCl F ∧ jEr F t sg (ji M sg) L (0, 0, fun _ => 0, fun _ => 0, fun _ => 0, fun _ => 0, fun _ => 0) ∧ jn F = t + 6 ∧ ji F t 9 = -1 := by
  have hnA : jn A = t + 1 := by rw [hA]; exact ht.symm
  have hnB : jn B = t + 2 := by have := h1.1; omega
  have hnC : jn C = t + 3 := by have := h2.1; omega
  have hnD : jn D = t + 4 := by have := h3.1; omega
  have hnE : jn E = t + 5 := by have := h4.1; omega
  have hnF : jn F = t + 6 := by have := h5.1; omega
  have hrd : jRd A t 5 sg (ji M sg) L 0 := by rw [hA]; exact ex_rd (by omega) hk (by omega) (by omega) hsk hsz hL
  have hx0 : jXo t M A := by
    rw [hA]
    refine ⟨Nat.le_refl _, fun a ha hat => ⟨rfl, rfl, ?_, ?_, rfl, rfl⟩⟩
    · funext j; simp [ji_Si, ji_Sr, hat]
    · funext j; simp [jr_Si, jr_Sr, hat]
  have hx : jXo t A F := (((h1.xo.tr h2.xo).tr h3.xo).tr h4.xo).tr h5.xo
  -- what t's own row becomes
  have i1 := h1.2.1 t (by omega)
  have i2 := h2.2.1 t (by omega)
  have i3 := h3.2.1 t (by omega)
  have i4 := h4.2.1 t (by omega)
  have i5 := h5.2.1 t (by omega)
  have hi : ji F t = ji A t := i5.2.2.1.trans (i4.2.2.1.trans (i3.2.2.1.trans (i2.2.2.1.trans i1.2.2.1)))
  have hkt : jk F t = 5 := i5.1.trans (i4.1.trans (i3.1.trans (i2.1.trans (i1.1.trans hrd.2.1))))
  have hr0 : jr F t 0 = some sg := by
    rw [i5.2.2.2.2.2 0 (by omega), i4.2.2.2.2.2 0 (by omega), i3.2.2.2.2.2 0 (by omega), i2.2.2.2.2.2 0 (by omega), i1.2.2.2.2.2 0 (by omega)]; exact hrd.2.2.1
  have hr3 : jr F t 3 = some (t + 1) := by
    rw [i5.2.2.2.2.2 3 (by omega), i4.2.2.2.2.2 3 (by omega), i3.2.2.2.2.2 3 (by omega), i2.2.2.2.2.2 3 (by omega), h1.2.2.1, hnA]
  have hr4 : jr F t 4 = some (t + 2) := by
    rw [i5.2.2.2.2.2 4 (by omega), i4.2.2.2.2.2 4 (by omega), i3.2.2.2.2.2 4 (by omega), h2.2.2.1, hnB]
  have hr5 : jr F t 5 = some (t + 3) := by
    rw [i5.2.2.2.2.2 5 (by omega), i4.2.2.2.2.2 5 (by omega), h3.2.2.1, hnC]
  have hr6 : jr F t 6 = some (t + 4) := by
    rw [i5.2.2.2.2.2 6 (by omega), h4.2.2.1, hnD]
  have hr7 : jr F t 7 = some (t + 5) := by rw [h5.2.2.1, hnE]
  -- the arrays
  have b1 := h1.2.2.2
  have b2 := h2.2.2.2
  have b3 := h3.2.2.2
  have b4 := h4.2.2.2
  have b5 := h5.2.2.2
  rw [hnA] at b1
  rw [hnB] at b2
  rw [hnC] at b3
  rw [hnD] at b4
  rw [hnE] at b5
  have xB : jXo t B F := ((h2.xo.tr h3.xo).tr h4.xo).tr h5.xo
  have xC : jXo t C F := (h3.xo.tr h4.xo).tr h5.xo
  have xD : jXo t D F := h4.xo.tr h5.xo
  have c1 := xB.2 (t + 1) (by omega) (by omega)
  have c2 := xC.2 (t + 2) (by omega) (by omega)
  have c3 := xD.2 (t + 3) (by omega) (by omega)
  have c4 := h5.xo.2 (t + 4) (by omega) (by omega)
  have cs := hx.2 sg (by omega) (by omega)
  have z1 : ji F (t + 1) = fun _ => 0 := by rw [c1.2.2.1]; exact funext b1.2.2.1
  have z2 : ji F (t + 2) = fun _ => 0 := by rw [c2.2.2.1]; exact funext b2.2.2.1
  have z3 : ji F (t + 3) = fun _ => 0 := by rw [c3.2.2.1]; exact funext b3.2.2.1
  have z4 : ji F (t + 4) = fun _ => 0 := by rw [c4.2.2.1]; exact funext b4.2.2.1
  have z5 : ji F (t + 5) = fun _ => 0 := funext b5.2.2.1
  have hj8 : ji F t 8 = 0 := by rw [hi, hA]; simp [ji_Si, ji_Sr]
  have hj2 : ji F t 2 = 0 := by rw [hi]; exact hrd.2.2.2.2.2.2.2.2.2.1
  refine ⟨hx0.tr hx, b5.2.2.2, ⟨⟨by omega, hkt, hr0, by omega, cs.1.trans hrd.2.2.2.2.1, cs.2.1.trans hrd.2.2.2.2.2.1, cs.2.2.1.trans hrd.2.2.2.2.2.2.1, by rw [hi]; exact hrd.2.2.2.2.2.2.2.1, hL, hj2, Nat.zero_le _, by omega⟩, by omega, fun i hi5 => ?_, Or.inl hs, Nat.zero_le _, ?_⟩, hnF, by rw [hi, hA]; simp [ji_Si, ji_Sr]⟩
  · rcases (show i = 0 ∨ i = 1 ∨ i = 2 ∨ i = 3 ∨ i = 4 by omega) with rfl | rfl | rfl | rfl | rfl
    · exact ⟨hr3, c1.1.trans b1.1, c1.2.1.trans b1.2.1⟩
    · exact ⟨hr4, c2.1.trans b2.1, c2.2.1.trans b2.2.1⟩
    · exact ⟨hr5, c3.1.trans b3.1, c3.2.1.trans b3.2.1⟩
    · exact ⟨hr6, c4.1.trans b4.1, c4.2.1.trans b4.2.1⟩
    · exact ⟨hr7, b5.1, b5.2.1⟩
  · refine jM_eq rfl rfl rfl ?_ rfl rfl rfl
    funext a j
    show jEg (ji F) t _ a j = ji F a j
    unfold jEg
    by_cases h0 : a = t
    · subst h0
      rw [if_pos rfl]
      by_cases e2 : j = 2
      · subst e2; rw [if_pos rfl, hj2]; rfl
      · rw [if_neg e2]
        by_cases e8 : j = 8
        · subst e8; rw [if_pos rfl, hj8]; rfl
        · rw [if_neg e8]
    · rw [if_neg h0]
      by_cases q1 : a = t + 1
      · subst q1; rw [if_pos rfl, z1]
      · rw [if_neg q1]
        by_cases q2 : a = t + 2
        · subst q2; rw [if_pos rfl, z2]
        · rw [if_neg q2]
          by_cases q3 : a = t + 3
          · subst q3; rw [if_pos rfl, z3]
          · rw [if_neg q3]
            by_cases q4 : a = t + 4
            · subst q4; rw [if_pos rfl, z4]
            · rw [if_neg q4]
              by_cases q5 : a = t + 5
              · subst q5; rw [if_pos rfl, z5]
              · rw [if_neg q5]
set_option maxHeartbeats 2000000 in
set_option maxRecDepth 20000 in
theorem ct_X6_init_5 (l : Launch) (D : va_G) (dA : Nat → ClassId) (hst : l.stackTraces = false) (M : jM) (t : Nat) (ht : t < jn M) (hk : jk M t = 5) (sg L : Nat) (hs : sg < jn M) (hsk : jk M sg = 21) (hsz : jz M sg = 60) (hL : L ≤ 60) : jCT l D dA yX6_init wsX6_init (20) (300) (0) (0) 0 [.ref (t), .ref (sg), .int (nI (L))] M (jPo (oV) (jSi (jSr (jSi M t 2 0) t 0 (some sg)) t 1 (nI L))) := by
  refine jBody (cc := cX6_init) (nL := 3) (rt := none) (ini := true) (by decide) rfl hst (Nat.le_of_ble_eq_true rfl) (by simp [Value.category]) (by intro h9; first | exact absurd h9 (by decide) | rfl) ?_
  show J l D dA RX6 cX6_init wsX6_init 3 true none [] (20) (300) (jF D dA (jn M) (jPo (oV) (jSi (jSr (jSi M t 2 0) t 0 (some sg)) t 1 (nI L))) 0) (jn M) (0) (0) (M) 0 [.ref (t), .ref (sg), .int (nI (L))] []
  refine J_aload_n (t) dX6_init_0 rfl rfl ?_
  refine J_objInit dX6_init_1 (List.mem_of_getElem? (i := 1) rfl) (List.mem_of_getElem? (i := 2) rfl) (List.mem_of_getElem? (i := 3) rfl) (Nat.le_of_ble_eq_true rfl) (by omega) (by omega) ?_
  refine J_aload_n (t) dX6_init_4 rfl rfl ?_
  refine J_iconst (x := 0) dX6_init_5 (by decide) ?_
  refine J_puti (j := 2) (x := (0)) dX6_init_6 (fun _ h => List.mem_cons_of_mem _ (List.mem_append_left _ (List.mem_append_right _ (h)))) cs5 cty5 (by decide) rfl (List.mem_of_getElem? (i := 4) rfl) rfl rfl ⟨rfl, rfl⟩ ht hk ?_
  refine J_aload_n (t) dX6_init_9 rfl rfl ?_
  refine J_aload_n (sg) dX6_init_10 rfl rfl ?_
  refine J_putrF (j := 0) (r := some (sg)) dX6_init_11 (fun _ h => List.mem_cons_of_mem _ (List.mem_append_left _ (List.mem_append_right _ (h)))) cs5 cty5 (by decide) rfl (List.mem_of_getElem? (i := 5) rfl) rfl rfl rfl rfl jfit_rA ht hk ?_
  refine J_aload_n (t) dX6_init_14 rfl rfl ?_
  refine J_iconst (x := 0) dX6_init_15 (by decide) ?_
  refine J_iload_n dX6_init_16 rfl rfl ?_
  refine J_aload_n (sg) dX6_init_17 rfl rfl ?_
  refine J_alen (t := 1) dX6_init_18 hs hsk rfl ?_
  refine J_topi (y := nI (60)) (congrArg nI hsz) ?_
  refine J_mmin dX6_init_19 (List.mem_of_getElem? (i := 6) rfl) (List.mem_of_getElem? (i := 7) rfl) (List.mem_of_getElem? (i := 8) rfl) (List.mem_of_getElem? (i := 9) rfl) (Nat.le_of_ble_eq_true rfl) (by omega) (by omega) ?_
  refine J_mmax dX6_init_22 (List.mem_of_getElem? (i := 10) rfl) (List.mem_of_getElem? (i := 11) rfl) (List.mem_of_getElem? (i := 8) rfl) (List.mem_of_getElem? (i := 12) rfl) (Nat.le_of_ble_eq_true rfl) (by omega) (by omega) ?_
  refine J_topi (y := nI (L)) (by rw [if_neg (nI_nlt (a := 60) hL (by omega))]; rcases Nat.eq_zero_or_pos L with rfl | hp; rfl; exact if_pos (nI_lt (a := 0) hp (by omega))) ?_
  refine J_putiF (j := 1) (x := nI (L)) dX6_init_25 (fun _ h => List.mem_cons_of_mem _ (List.mem_append_left _ (List.mem_append_right _ (h)))) cs5 cty5 (by decide) rfl (List.mem_of_getElem? (i := 13) rfl) rfl rfl rfl rfl ⟨rfl, rfl⟩ ht hk ?_
  exact J_vret dX6_init_28 rfl ⟨(by rfl), (by rfl)⟩

theorem dX1_init_0 : decode cX1_init 0 = .ok (.aload_n 0, 1) := by decide +kernel
theorem dX1_init_1 : decode cX1_init 1 = .ok (.aload_n 1, 1) := by decide +kernel
theorem dX1_init_2 : decode cX1_init 2 = .ok (.iload_n 2, 1) := by decide +kernel
theorem dX1_init_3 : decode cX1_init 3 = .ok (.invokespecial 3, 3) := by decide +kernel
set_option maxRecDepth 20000 in
theorem ggX1_init_X6_init : GoodIn wsX1_init wsX6_init := goodIn_r _ [12, 13, 14, 15, 16, 17, 18, 19, 20, 21, 22, 23, 24, 25, 31, 32, 33, 34, 35, 36, 37, 38, 39, 40, 41, 42, 43, 44, 45, 46, 47] (by decide +kernel) (by decide +kernel)
set_option maxRecDepth 20000 in
theorem gX1_init_X6_init : GoodIn wsX1_init (wsX6_init) := ggX1_init_X6_init
theorem dX1_init_6 : decode cX1_init 6 = .ok (.aload_n 0, 1) := by decide +kernel
theorem dX1_init_7 : decode cX1_init 7 = .ok (.iconst 0, 1) := by decide +kernel
theorem dX1_init_8 : decode cX1_init 8 = .ok (.putfield 9, 3) := by decide +kernel
theorem dX1_init_11 : decode cX1_init 11 = .ok (.aload_n 0, 1) := by decide +kernel
theorem dX1_init_12 : decode cX1_init 12 = .ok (.iconst (-1), 1) := by decide +kernel
theorem dX1_init_13 : decode cX1_init 13 = .ok (.putfield 15, 3) := by decide +kernel
theorem dX1_init_16 : decode cX1_init 16 = .ok (.aload_n 0, 1) := by decide +kernel
theorem dX1_init_17 : decode cX1_init 17 = .ok (.invokevirtual 18, 3) := by decide +kernel
set_option maxRecDepth 20000 in
theorem ggX1_init_X6_textSize : GoodIn wsX1_init wsX6_textSize := goodIn_r _ [30, 25, 31, 32, 33, 34, 35, 36, 37, 38, 39, 40, 41, 42, 43, 44, 45, 46, 47] (by decide +kernel) (by decide +kernel)
set_option maxRecDepth 20000 in
theorem gX1_init_X6_textSize_u18X1 : GoodIn wsX1_init (va_wsU RX1 18 RX1 "VersionAlgebra$TextReader" ⟨"VersionAlgebra$Expression", "textSize", "()I"⟩ yX6_textSize wsX6_textSize) := goodIn_app (goodIn_of _ (by decide +kernel)) ggX1_init_X6_textSize
theorem dX1_init_20 : decode cX1_init 20 = .ok (.istore_n 3, 1) := by decide +kernel
theorem dX1_init_21 : decode cX1_init 21 = .ok (.aload_n 0, 1) := by decide +kernel
theorem dX1_init_22 : decode cX1_init 22 = .ok (.iload_n 3, 1) := by decide +kernel
theorem dX1_init_23 : decode cX1_init 23 = .ok (.newarray .int, 2) := by decide +kernel
theorem dX1_init_25 : decode cX1_init 25 = .ok (.putfield 22, 3) := by decide +kernel
theorem dX1_init_28 : decode cX1_init 28 = .ok (.aload_n 0, 1) := by decide +kernel
theorem dX1_init_29 : decode cX1_init 29 = .ok (.iload_n 3, 1) := by decide +kernel
theorem dX1_init_30 : decode cX1_init 30 = .ok (.newarray .int, 2) := by decide +kernel
theorem dX1_init_32 : decode cX1_init 32 = .ok (.putfield 26, 3) := by decide +kernel
theorem dX1_init_35 : decode cX1_init 35 = .ok (.aload_n 0, 1) := by decide +kernel
theorem dX1_init_36 : decode cX1_init 36 = .ok (.iload_n 3, 1) := by decide +kernel
theorem dX1_init_37 : decode cX1_init 37 = .ok (.newarray .int, 2) := by decide +kernel
theorem dX1_init_39 : decode cX1_init 39 = .ok (.putfield 29, 3) := by decide +kernel
theorem dX1_init_42 : decode cX1_init 42 = .ok (.aload_n 0, 1) := by decide +kernel
theorem dX1_init_43 : decode cX1_init 43 = .ok (.iload_n 3, 1) := by decide +kernel
theorem dX1_init_44 : decode cX1_init 44 = .ok (.newarray .int, 2) := by decide +kernel
theorem dX1_init_46 : decode cX1_init 46 = .ok (.putfield 32, 3) := by decide +kernel
theorem dX1_init_49 : decode cX1_init 49 = .ok (.aload_n 0, 1) := by decide +kernel
theorem dX1_init_50 : decode cX1_init 50 = .ok (.iload_n 3, 1) := by decide +kernel
theorem dX1_init_51 : decode cX1_init 51 = .ok (.newarray .int, 2) := by decide +kernel
theorem dX1_init_53 : decode cX1_init 53 = .ok (.putfield 35, 3) := by decide +kernel
theorem dX1_init_56 : decode cX1_init 56 = .ok (.return_, 1) := by decide +kernel
set_option maxHeartbeats 2000000 in
set_option maxRecDepth 20000 in
theorem ct_X1_init (l : Launch) (D : va_G) (dA : Nat → ClassId) (hst : l.stackTraces = false) (M : jM) (hcl : jCl M) (t : Nat) (ht : t + 1 = jn M) (hk : jk M t = 5) (sg L : Nat) (hs : sg < t) (hsk : jk M sg = 21) (hsz : jz M sg = 60) (hL : L ≤ 60) : jCT l D dA yX1_init wsX1_init (21) (360) (5) (5 * L) 0 [.ref (t), .ref (sg), .int (nI (L))] M (fun o M1 => o = oV ∧ jXo t M M1 ∧ jCl M1 ∧ jEr M1 t sg (ji M sg) L (0, 0, fun _ => 0, fun _ => 0, fun _ => 0, fun _ => 0, fun _ => 0) ∧ jn M1 = t + 6 ∧ ji M1 t 9 = -1) := by
  refine jBody (cc := cX1_init) (nL := 4) (rt := none) (ini := true) (by decide) rfl hst (Nat.le_of_ble_eq_true rfl) (by simp [Value.category]) (by intro h9; first | exact absurd h9 (by decide) | rfl) ?_
  show J l D dA RX1 cX1_init wsX1_init 4 true none [] (21) (360) (jF D dA (jn M) (fun o M1 => o = oV ∧ jXo t M M1 ∧ jCl M1 ∧ jEr M1 t sg (ji M sg) L (0, 0, fun _ => 0, fun _ => 0, fun _ => 0, fun _ => 0, fun _ => 0) ∧ jn M1 = t + 6 ∧ ji M1 t 9 = -1) 0) (jn M) (5) (5 * L) (M) 0 [.ref (t), .ref (sg), .int (nI (L)), .float 0] []
  have hlt : t < jn M := by omega
  refine J_aload_n (t) dX1_init_0 rfl rfl ?_
  refine J_aload_n (sg) dX1_init_1 rfl rfl ?_
  refine J_iload_n dX1_init_2 rfl rfl ?_
  refine J_callv0 (jrunI (ret := none) (As := [.ref (sg), .int (nI (L))]) (ct_X6_init_5 l D dA hst M t hlt hk sg L (by omega) hsk hsz hL) dX1_init_3 yY_X6_init gX1_init_X6_init rfl (List.mem_of_getElem? (i := 11) rfl) (List.mem_of_getElem? (i := 9) rfl) (List.mem_of_getElem? (i := 10) rfl) rfl ⟨by omega, by omega⟩ ⟨Nat.zero_le _, Nat.zero_le _⟩ rfl (Nat.le_of_ble_eq_true rfl)) (rfl) (rfl) ?_
  refine J_aload_n (t) dX1_init_6 rfl rfl ?_
  refine J_iconst (x := 0) dX1_init_7 (by decide) ?_
  refine J_puti (j := 8) (x := (0)) dX1_init_8 (fun _ h => List.mem_cons_of_mem _ (List.mem_append_left _ (List.mem_append_right _ (h)))) cs5 cty5 (by decide) rfl (List.mem_of_getElem? (i := 1) rfl) rfl rfl ⟨rfl, rfl⟩ hlt hk ?_
  refine J_aload_n (t) dX1_init_11 rfl rfl ?_
  refine J_iconst (x := (-1)) dX1_init_12 (by decide) ?_
  refine J_puti (j := 9) (x := (-1)) dX1_init_13 (fun _ h => List.mem_cons_of_mem _ (List.mem_append_left _ (List.mem_append_right _ (h)))) cs5 cty5 (by decide) rfl (List.mem_of_getElem? (i := 2) rfl) rfl rfl ⟨rfl, rfl⟩ hlt hk ?_
  obtain ⟨A, hA⟩ : ∃ A, A = jSi (jSi (jSi (jSr (jSi M t 2 0) t 0 (some sg)) t 1 (nI L)) t 8 ((0))) t 9 ((-1)) := ⟨_, rfl⟩
  refine J_mem (M' := A) hA.symm ?_
  have hrd : jRd A t 5 sg (ji M sg) L 0 := by rw [hA]; exact ex_rd hlt hk (by omega) (by omega) hsk hsz hL
  have tA : t < jn A := hrd.1
  have kA : jk A t = 5 := hrd.2.1
  have cA : jCl A := by rw [hA]; exact jCl_Si (jCl_Si (jCl_Si (jCl_Sr (jCl_Si (hcl)) (fun q9 h9 => by cases h9; show sg < jn M; omega))))
  refine J_aload_n (t) dX1_init_16 rfl rfl ?_
  refine J_calli0 (jrunU (As := []) (ct_X6_textSize_5 l D dA hst A t sg (ji M sg) L 0 hrd) dX1_init_17 yY_X6_textSize gX1_init_X6_textSize_u18X1 rfl cs5 tA kA rfl ⟨by omega, by omega⟩ ⟨Nat.zero_le _, Nat.zero_le _⟩ rfl (Nat.le_of_ble_eq_true rfl)) (rfl) (rfl) ?_
  refine J_istore_n (lv' := [.ref (t), .ref (sg), .int (nI (L)), .int (nI (L))]) dX1_init_20 rfl (by decide) rfl rfl ?_
  refine J_aload_n (t) dX1_init_21 rfl rfl ?_
  refine J_iload_n dX1_init_22 rfl rfl ?_
  refine J_newa (t := 2) (atype := .int) (N' := L) (n := nI (L)) dX1_init_23 (by decide) rfl rfl (List.mem_of_getElem? (i := 3) rfl) (nI_pos (n := L) (by omega)) (nI_clamp (n := L) (by omega)) (by simp [newarray.typeOf, componentBytes] <;> omega) (by omega) (by omega) (cA) (jOk.ref tA (jOk.ref (Nat.lt_trans hs tA) (jOk.int (jOk.int jOk.nil)))) (jOk.ref tA jOk.nil) ?_
  refine J_putrF (j := 3) (r := some (jn A)) dX1_init_25 (fun _ h => List.mem_cons_of_mem _ (List.mem_append_left _ (List.mem_append_right _ (h)))) cs5 cty5 (by decide) rfl (List.mem_of_getElem? (i := 4) rfl) rfl rfl rfl rfl jfit_rA (by have h9 := tA; first | exact h9 | (simp only [jn_Nw, jn_Si, jn_Sr, jn_Sv, jn_Sq]; omega)) (jk_new (M := A) (kd := 22) (len := L) (by have h9 := tA; first | exact h9 | (simp only [jn_Nw, jn_Si, jn_Sr, jn_Sv, jn_Sq]; omega)) kA) ?_
  obtain ⟨B, hB⟩ : ∃ Z9, Z9 = jSr (jNw A 22 L) (t) 3 (some (jn A)) := ⟨_, rfl⟩
  have mB : jMk A B t 3 L := by rw [hB]; exact jMk_mk cA
  refine J_mem (M' := B) hB.symm ?_
  have tB : t < jn B := by have := mB.1; omega
  have kB : jk B t = 5 := (mB.2.1 t tA).1.trans kA
  have cB : jCl B := mB.2.2.2.2.2.2
  refine J_aload_n (t) dX1_init_28 rfl rfl ?_
  refine J_iload_n dX1_init_29 rfl rfl ?_
  refine J_newa (t := 2) (atype := .int) (N' := L) (n := nI (L)) dX1_init_30 (by decide) rfl rfl (List.mem_of_getElem? (i := 3) rfl) (nI_pos (n := L) (by omega)) (nI_clamp (n := L) (by omega)) (by simp [newarray.typeOf, componentBytes] <;> omega) (by omega) (by omega) (cB) (jOk.ref tB (jOk.ref (Nat.lt_trans hs tB) (jOk.int (jOk.int jOk.nil)))) (jOk.ref tB jOk.nil) ?_
  refine J_putrF (j := 4) (r := some (jn B)) dX1_init_32 (fun _ h => List.mem_cons_of_mem _ (List.mem_append_left _ (List.mem_append_right _ (h)))) cs5 cty5 (by decide) rfl (List.mem_of_getElem? (i := 5) rfl) rfl rfl rfl rfl jfit_rA (by have h9 := tB; first | exact h9 | (simp only [jn_Nw, jn_Si, jn_Sr, jn_Sv, jn_Sq]; omega)) (jk_new (M := B) (kd := 22) (len := L) (by have h9 := tB; first | exact h9 | (simp only [jn_Nw, jn_Si, jn_Sr, jn_Sv, jn_Sq]; omega)) kB) ?_
  obtain ⟨C, hC⟩ : ∃ Z9, Z9 = jSr (jNw B 22 L) (t) 4 (some (jn B)) := ⟨_, rfl⟩
  have mC : jMk B C t 4 L := by rw [hC]; exact jMk_mk cB
  refine J_mem (M' := C) hC.symm ?_
  have tC : t < jn C := by have := mC.1; omega
  have kC : jk C t = 5 := (mC.2.1 t tB).1.trans kB
  have cC : jCl C := mC.2.2.2.2.2.2
  refine J_aload_n (t) dX1_init_35 rfl rfl ?_
  refine J_iload_n dX1_init_36 rfl rfl ?_
  refine J_newa (t := 2) (atype := .int) (N' := L) (n := nI (L)) dX1_init_37 (by decide) rfl rfl (List.mem_of_getElem? (i := 3) rfl) (nI_pos (n := L) (by omega)) (nI_clamp (n := L) (by omega)) (by simp [newarray.typeOf, componentBytes] <;> omega) (by omega) (by omega) (cC) (jOk.ref tC (jOk.ref (Nat.lt_trans hs tC) (jOk.int (jOk.int jOk.nil)))) (jOk.ref tC jOk.nil) ?_
  refine J_putrF (j := 5) (r := some (jn C)) dX1_init_39 (fun _ h => List.mem_cons_of_mem _ (List.mem_append_left _ (List.mem_append_right _ (h)))) cs5 cty5 (by decide) rfl (List.mem_of_getElem? (i := 6) rfl) rfl rfl rfl rfl jfit_rA (by have h9 := tC; first | exact h9 | (simp only [jn_Nw, jn_Si, jn_Sr, jn_Sv, jn_Sq]; omega)) (jk_new (M := C) (kd := 22) (len := L) (by have h9 := tC; first | exact h9 | (simp only [jn_Nw, jn_Si, jn_Sr, jn_Sv, jn_Sq]; omega)) kC) ?_
  obtain ⟨E1, hE1⟩ : ∃ Z9, Z9 = jSr (jNw C 22 L) (t) 5 (some (jn C)) := ⟨_, rfl⟩
  have mE1 : jMk C E1 t 5 L := by rw [hE1]; exact jMk_mk cC
  refine J_mem (M' := E1) hE1.symm ?_
  have tE1 : t < jn E1 := by have := mE1.1; omega
  have kE1 : jk E1 t = 5 := (mE1.2.1 t tC).1.trans kC
  have cE1 : jCl E1 := mE1.2.2.2.2.2.2
  refine J_aload_n (t) dX1_init_42 rfl rfl ?_
  refine J_iload_n dX1_init_43 rfl rfl ?_
  refine J_newa (t := 2) (atype := .int) (N' := L) (n := nI (L)) dX1_init_44 (by decide) rfl rfl (List.mem_of_getElem? (i := 3) rfl) (nI_pos (n := L) (by omega)) (nI_clamp (n := L) (by omega)) (by simp [newarray.typeOf, componentBytes] <;> omega) (by omega) (by omega) (cE1) (jOk.ref tE1 (jOk.ref (Nat.lt_trans hs tE1) (jOk.int (jOk.int jOk.nil)))) (jOk.ref tE1 jOk.nil) ?_
  refine J_putrF (j := 6) (r := some (jn E1)) dX1_init_46 (fun _ h => List.mem_cons_of_mem _ (List.mem_append_left _ (List.mem_append_right _ (h)))) cs5 cty5 (by decide) rfl (List.mem_of_getElem? (i := 7) rfl) rfl rfl rfl rfl jfit_rA (by have h9 := tE1; first | exact h9 | (simp only [jn_Nw, jn_Si, jn_Sr, jn_Sv, jn_Sq]; omega)) (jk_new (M := E1) (kd := 22) (len := L) (by have h9 := tE1; first | exact h9 | (simp only [jn_Nw, jn_Si, jn_Sr, jn_Sv, jn_Sq]; omega)) kE1) ?_
  obtain ⟨E2, hE2⟩ : ∃ Z9, Z9 = jSr (jNw E1 22 L) (t) 6 (some (jn E1)) := ⟨_, rfl⟩
  have mE2 : jMk E1 E2 t 6 L := by rw [hE2]; exact jMk_mk cE1
  refine J_mem (M' := E2) hE2.symm ?_
  have tE2 : t < jn E2 := by have := mE2.1; omega
  have kE2 : jk E2 t = 5 := (mE2.2.1 t tE1).1.trans kE1
  have cE2 : jCl E2 := mE2.2.2.2.2.2.2
  refine J_aload_n (t) dX1_init_49 rfl rfl ?_
  refine J_iload_n dX1_init_50 rfl rfl ?_
  refine J_newa (t := 2) (atype := .int) (N' := L) (n := nI (L)) dX1_init_51 (by decide) rfl rfl (List.mem_of_getElem? (i := 3) rfl) (nI_pos (n := L) (by omega)) (nI_clamp (n := L) (by omega)) (by simp [newarray.typeOf, componentBytes] <;> omega) (by omega) (by omega) (cE2) (jOk.ref tE2 (jOk.ref (Nat.lt_trans hs tE2) (jOk.int (jOk.int jOk.nil)))) (jOk.ref tE2 jOk.nil) ?_
  refine J_putrF (j := 7) (r := some (jn E2)) dX1_init_53 (fun _ h => List.mem_cons_of_mem _ (List.mem_append_left _ (List.mem_append_right _ (h)))) cs5 cty5 (by decide) rfl (List.mem_of_getElem? (i := 8) rfl) rfl rfl rfl rfl jfit_rA (by have h9 := tE2; first | exact h9 | (simp only [jn_Nw, jn_Si, jn_Sr, jn_Sv, jn_Sq]; omega)) (jk_new (M := E2) (kd := 22) (len := L) (by have h9 := tE2; first | exact h9 | (simp only [jn_Nw, jn_Si, jn_Sr, jn_Sv, jn_Sq]; omega)) kE2) ?_
  obtain ⟨E3, hE3⟩ : ∃ Z9, Z9 = jSr (jNw E2 22 L) (t) 7 (some (jn E2)) := ⟨_, rfl⟩
  have mE3 : jMk E2 E3 t 7 L := by rw [hE3]; exact jMk_mk cE2
  refine J_mem (M' := E3) hE3.symm ?_
  have tE3 : t < jn E3 := by have := mE3.1; omega
  have kE3 : jk E3 t = 5 := (mE3.2.1 t tE2).1.trans kE2
  have cE3 : jCl E3 := mE3.2.2.2.2.2.2
  exact J_vret dX1_init_56 rfl (by exact ⟨rfl, ex_init ht hk hs hsk hsz hL hA mB mC mE1 mE2 mE3⟩)

