set_option maxRecDepth 20000 in
theorem ct_X7_read_bad (l : Launch) (D : va_G) (dA : Nat → ClassId) (hst : l.stackTraces = false) (M : jM) (v : Nat) (A : cA) (hA : jAb M v A) (x : Int32) (ok1 : okSlot x = false) : jCT l D dA yX7_read wsX7_read (28) (780) (6) (40) 1 [.ref (v), .int (x)] M (jPr M v (sRead A x)) := by
  refine jBody (cc := cX7_read) (nL := 4) (rt := (some .int)) (ini := false) (by decide) rfl hst (Nat.le_of_ble_eq_true rfl) (by simp [Value.category]) (by intro h9; first | exact absurd h9 (by decide) | rfl) ?_
  show J l D dA RX7 cX7_read wsX7_read 4 false (some .int) [] (28) (780) (jF D dA (jn M) (jPr M v (sRead A x)) 1) (jn M) (6) (40) (M) 0 [.ref (v), .int (x), .float 0, .float 0] []
  refine J_iload_n dX7_read_0 rfl rfl ?_
  refine J_callvX (jrunS (As := [.int (x)]) (ct_X7_checkSlot l D dA hst M ((x))) dX7_read_1 yY_X7_checkSlot gX7_read_X7_checkSlot rfl ⟨by omega, by omega⟩ ⟨by omega, by omega⟩ rfl (Nat.le_of_ble_eq_true rfl)) (if_neg (by rw [ok1]; decide)) ⟨by omega, by omega⟩ (Or.inl rfl) ?_
  exact JX_out rfl (by unfold sRead; rw [sSl_f ok1]; exact ⟨rfl, hA, jFv.rf⟩)
set_option maxHeartbeats 400000 in
set_option maxRecDepth 20000 in
theorem ct_L_read_bad (l : Launch) (D : va_G) (dA : Nat → ClassId) (hst : l.stackTraces = false) (M : jM) (v : Nat) (A : cA) (hA : jAb M v A) (x : Int32) (ok1 : okSlot x = false) (s : Nat) (hs : s < jn M) (hks : jk M s = 25) (hzs : jz M s = 1) : jCT l D dA yL_read wsL_read (30) (900) (6) (40) 1 [.ref (v), .int (x), .ref (s)] M (lPr M v ((sRead A x).2) (sRead A x).1 [xIOOBE, xIAE, xUOE] (lgI s)) := by
  refine jBodyH (cc := cL_read) (nL := 4) (rt := (some .int)) (ini := false) (by decide) rfl hst (Nat.le_of_ble_eq_true rfl) (by simp [Value.category]) (by intro h9; first | exact absurd h9 (by decide) | rfl) ?_
  show J l D dA RL cL_read wsL_read 4 false (some .int) [(0, 9, 12, 19), (0, 9, 15, 21), (0, 9, 18, 23)] (30) (900) (jF D dA (jn M) (lPr M v ((sRead A x).2) (sRead A x).1 [xIOOBE, xIAE, xUOE] (lgI s)) 1) (jn M) (6) (40) (M) 0 [.ref (v), .int (x), .ref (s), .float 0] []
  refine J_aload_n (s) dL_read_0 rfl rfl ?_
  refine J_iconst (x := 0) dL_read_1 (by decide) ?_
  refine J_aload_n (v) dL_read_2 rfl rfl ?_
  refine J_iload_n dL_read_3 rfl rfl ?_
  refine J_calli (jrunV (As := [.int (x)]) (ct_X7_read_bad l D dA hst M v A hA x ok1) dL_read_4 yY_X7_read gL_read_X7_read rfl cs10 (show v < jn M from Nat.lt_of_lt_of_le (Nat.lt_add_of_pos_right (by decide)) hA.1.1) hA.1.2.1 rfl ⟨by omega, by omega⟩ ⟨by omega, by omega⟩ rfl (Nat.le_of_ble_eq_true rfl)) ⟨by omega, by omega⟩ (Or.inr ⟨(jOk.ref (show v < jn M from Nat.lt_of_lt_of_le (Nat.lt_add_of_pos_right (by decide)) hA.1.1) (jOk.int (jOk.ref hs (jOk.float jOk.nil)))), (jOk.int (jOk.ref hs jOk.nil))⟩) (fun E K hp hle => ?_) (fun x9 K hp hle => ?_)
  · obtain ⟨he, hB, hF⟩ := hp
    have hm := lIn_read E he.symm
    rcases List.mem_cons.mp hm with rfl | hm
    · refine JX_catchN (name := "java/lang/IndexOutOfBoundsException") [] (0, 9, 12, 19) [(0, 9, 15, 21), (0, 9, 18, 23)] rfl (fun _ h => absurd h List.not_mem_nil) (by decide) (by decide) (List.mem_of_getElem? (i := 1) rfl) lca_xIOOBE dL_read_12 rfl (by decide) rfl (lv' := [.ref (v), .int (x), .ref (s), .float 0]) rfl ?_
      refine J_iconst (x := 1) dL_read_13 (by decide) ?_
      exact J_iret (ty := .int) dL_read_14 rfl (rfl) (by exact ⟨K, hB, hF, Or.inr ⟨0, _, rfl, by decide, he.symm, rfl, rfl⟩⟩)
    rcases List.mem_cons.mp hm with rfl | hm
    · refine JX_catchN (name := "java/lang/IllegalArgumentException") [(0, 9, 12, 19)] (0, 9, 15, 21) [(0, 9, 18, 23)] rfl (List.forall_mem_cons.mpr ⟨⟨by decide, "java/lang/IndexOutOfBoundsException", (List.mem_of_getElem? (i := 1) rfl), lnc_xIAE_xIOOBE⟩, fun _ h => absurd h List.not_mem_nil⟩) (by decide) (by decide) (List.mem_of_getElem? (i := 2) rfl) lca_xIAE dL_read_15 rfl (by decide) rfl (lv' := [.ref (v), .int (x), .ref (s), .float 0]) rfl ?_
      refine J_iconst (x := 2) dL_read_16 (by decide) ?_
      exact J_iret (ty := .int) dL_read_17 rfl (rfl) (by exact ⟨K, hB, hF, Or.inr ⟨1, _, rfl, by decide, he.symm, rfl, rfl⟩⟩)
    rcases List.mem_cons.mp hm with rfl | hm
    · refine JX_catchN (name := "java/lang/UnsupportedOperationException") [(0, 9, 12, 19), (0, 9, 15, 21)] (0, 9, 18, 23) [] rfl (List.forall_mem_cons.mpr ⟨⟨by decide, "java/lang/IndexOutOfBoundsException", (List.mem_of_getElem? (i := 1) rfl), lnc_xUOE_xIOOBE⟩, List.forall_mem_cons.mpr ⟨⟨by decide, "java/lang/IllegalArgumentException", (List.mem_of_getElem? (i := 2) rfl), lnc_xUOE_xIAE⟩, fun _ h => absurd h List.not_mem_nil⟩⟩) (by decide) (by decide) (List.mem_of_getElem? (i := 3) rfl) lca_xUOE dL_read_18 rfl (by decide) rfl (lv' := [.ref (v), .int (x), .ref (s), .float 0]) rfl ?_
      refine J_iconst (x := 3) dL_read_19 (by decide) ?_
      exact J_iret (ty := .int) dL_read_20 rfl (rfl) (by exact ⟨K, hB, hF, Or.inr ⟨2, _, rfl, by decide, he.symm, rfl, rfl⟩⟩)
    exact absurd hm List.not_mem_nil
  obtain ⟨he, hB, hF⟩ := hp
  refine J_i2l dL_read_7 ?_
  refine J_last (i := (0)) dL_read_8 (Nat.lt_of_lt_of_le hs hle) ((hF.2.1 s hs).1.trans hks) (by rw [((hF.2.1 s hs).2.trans hzs)]; exact vpin0) ?_
  refine J_goto (tgt := 21) dL_read_9 (by decide) ?_
  refine J_iconst (x := 0) dL_read_21 (by decide) ?_
  exact J_iret (ty := .int) dL_read_22 rfl (rfl) (by exact ⟨K, hB, hF, Or.inl ⟨rfl, x9, he.symm, rfl⟩⟩)

theorem cLz_app {A : cA} {c : Int32} : cL (sApp A c).2 ≤ cL A + 1 := by
  unfold sApp
  split
  · exact Nat.le_succ _
  · exact Nat.le_refl _
theorem cLz_sl {A : cA} {x : Int32} {R : cR} (h2 : cL R.2 = cL A) : cL (sSl x A R).2 = cL A := by
  unfold sSl
  split
  · exact h2
  · rfl
theorem cLz_ve {A : cA} {x : Int32} {R : cR} (h2 : cL R.2 = cL A) : cL (sVe x A R).2 = cL A := by
  unfold sVe
  split
  · exact h2
  · rfl
theorem cLz_ite {c : Prop} [Decidable c] {R S : cR} {n : Nat} (h1 : cL R.2 = n) (h2 : cL S.2 = n) : cL (if c then R else S).2 = n := by
  split
  · exact h1
  · exact h2
theorem cLz_read {A : cA} {x : Int32} (h : okSlot x = true) : cL (sRead A x).2 = 0 := by
  unfold sRead
  rw [sSl_t h]
  exact cLz_ite (cLz_ite rfl (cLz_ite rfl rfl)) rfl
theorem cLz_eval {A : cA} {x : Int32} : cL (sEval A x).2 ≤ cL A := by
  unfold sEval sSl
  split
  · unfold sEvB
    split
    · unfold sEvW
      split
      · exact Nat.zero_le _
      · exact Nat.le_refl _
      · exact Nat.zero_le _
    · exact Nat.zero_le _
  · exact Nat.le_refl _
theorem cLz_readb {A : cA} {x : Int32} (h : okSlot x = false) : cL (sRead A x).2 = cL A := by
  unfold sRead
  rw [sSl_f h]
theorem cLz_put {A : cA} {x y z : Int32} : cL (sPut A x y z).2 = cL A := cLz_sl (cLz_ve (cLz_ve (cLz_ite rfl rfl)))
theorem cLz_clr {A : cA} {x : Int32} : cL (sClr A x).2 = cL A := cLz_sl rfl
theorem cLz_cpy {A : cA} {x y : Int32} : cL (sCpy A x y).2 = cL A := cLz_sl (cLz_sl rfl)
theorem cLz_pub {A : cA} {x : Int32} : cL (sPub A x).2 = cL A := cLz_ve (cLz_ite rfl (cLz_ite rfl rfl))
theorem cLz_wdr {A : cA} {x : Int32} : cL (sWdr A x).2 = cL A := cLz_ve (cLz_ite rfl rfl)
theorem cLz_und {A : cA} : cL (sUnd A).2 = cL A := cLz_ite rfl rfl
theorem cLz_res {A : cA} : cL (sRes A).2 = cL A := cLz_ite rfl rfl
theorem cLz_sav {A : cA} : cL (sSav A).2 = cL A := rfl
theorem lg_cmp_self {x : Int64} : lg_cmp x x = 0 := by unfold lg_cmp; simp
theorem i2c_nar (x : Int32) : vp_nar .char ((x.toUInt32 % 65536).toInt32) = (x.toUInt32 % 65536).toInt32 := by
  show (((x.toUInt32 % 65536).toInt32).toUInt32 % 65536).toInt32 = (x.toUInt32 % 65536).toInt32
  rw [UInt32.toUInt32_toInt32]
  congr 1
  apply UInt32.toNat_inj.mp
  rw [UInt32.toNat_mod, UInt32.toNat_mod, Nat.mod_mod]
theorem nI3_ne {k : Nat} (h : k < 3) : nI (k + 1) ≠ 0 := by
  rcases (show k = 0 ∨ k = 1 ∨ k = 2 from by omega) with rfl | rfl | rfl <;> decide
/-- what the law's call leaves, as its loop takes it -/
def lCd (e : List String) (r : jO) (x6 : Int32) : Prop := (x6 = 0 ∧ ∃ u, r = Sum.inl u) ∨ ∃ k E, e[k]? = some E ∧ k < 3 ∧ r = oX E ∧ x6 = nI (k + 1)
theorem lPr.cd {M M1 : jM} {v : Nat} {A A2 B : cA} {r : jO} {e : List String} {g : jM → jM → jO → Prop} {x6 : Int32} (h : lAb M v A B) (hp : lPr M v A2 r e g (oI x6) M1) (hg : ∀ K, lAb K v A2 B → g K M1 r → lAb M1 v A2 B ∧ ∃ u, r = Sum.inl u) : lAb M1 v A2 B ∧ lCd e r x6 ∧ (x6 = 0 → ∃ K, g K M1 r) := by
  obtain ⟨K, hB, hF, h⟩ := hp
  have hK := lAb.fv ‹lAb M v A B› hB hF
  rcases h with ⟨h1, h2⟩ | ⟨k, E, h1, h2, h3, h4, rfl⟩
  · cases h1
    exact ⟨(hg K hK h2).1, Or.inl ⟨rfl, (hg K hK h2).2⟩, fun _ => ⟨K, h2⟩⟩
  · cases h4
    exact ⟨hK, Or.inr ⟨k, E, h1, h2, h3, rfl⟩, fun h9 => absurd h9 (nI3_ne h2)⟩
theorem lPr.i {M M1 : jM} {v : Nat} {A A2 B : cA} {r : jO} {e : List String} {x6 : Int32} (h : lAb M v A B) (hp : lPr M v A2 r e (lgI (v + 50)) (oI x6) M1) : lAb M1 v A2 B ∧ lCd e r x6 ∧ (x6 = 0 → ∃ y, r = oI y ∧ jl M1 (v + 50) 0 = y.toInt64) := by
  obtain ⟨a, b, c⟩ := hp.cd h (fun K hK ⟨y, h1, h2⟩ => ⟨by rw [h2]; exact hK, _, h1⟩)
  exact ⟨a, b, fun h0 => by
    obtain ⟨K, y, h1, h2⟩ := c h0
    exact ⟨y, h1, by rw [h2, jl_Sl, if_pos ⟨rfl, rfl⟩]⟩⟩
theorem lPr.z {M M1 : jM} {v : Nat} {A A2 B : cA} {r : jO} {e : List String} {x6 : Int32} (h : lAb M v A B) (hp : lPr M v A2 r e (lgZ (v + 50)) (oI x6) M1) : lAb M1 v A2 B ∧ lCd e r x6 ∧ (x6 = 0 → ∃ y : Int32, r = oI y ∧ jl M1 (v + 50) 0 = if y = 0 then 0 else 1) := by
  obtain ⟨a, b, c⟩ := hp.cd h (fun K hK ⟨y, h1, h2⟩ => ⟨by rw [h2]; exact hK, _, h1⟩)
  exact ⟨a, b, fun h0 => by
    obtain ⟨K, y, h1, h2⟩ := c h0
    exact ⟨y, h1, by rw [h2, jl_Sl, if_pos ⟨rfl, rfl⟩]⟩⟩
theorem lPr.d {M M1 : jM} {v : Nat} {A A2 B : cA} {r : jO} {e : List String} {x6 : Int32} (h : lAb M v A B) (hp : lPr M v A2 r e (lgD (v + 51)) (oI x6) M1) : lAb M1 v A2 B ∧ lCd e r x6 ∧ (x6 = 0 → ∃ y : UInt64, r = oD y ∧ jd M1 (v + 51) 0 = y) := by
  obtain ⟨a, b, c⟩ := hp.cd h (fun K hK ⟨y, h1, h2⟩ => ⟨by rw [h2]; exact hK, _, h1⟩)
  exact ⟨a, b, fun h0 => by
    obtain ⟨K, y, h1, h2⟩ := c h0
    exact ⟨y, h1, by rw [h2, jd_Sd, if_pos ⟨rfl, rfl⟩]⟩⟩
theorem lPr.v {M M1 : jM} {v : Nat} {A A2 B : cA} {r : jO} {e : List String} {x6 : Int32} (h : lAb M v A B) (hp : lPr M v A2 r e lgV (oI x6) M1) : lAb M1 v A2 B ∧ lCd e r x6 := by
  obtain ⟨a, b, c⟩ := hp.cd h (fun K hK ⟨h1, h2⟩ => ⟨by rw [h2]; exact hK, _, h1⟩)
  exact ⟨a, b⟩
