/-- every old cell but t as it was -/
def jXo (t : Nat) (M M1 : jM) : Prop := jn M ≤ jn M1 ∧ ∀ a, a < jn M → a ≠ t → jk M1 a = jk M a ∧ jz M1 a = jz M a ∧ ji M1 a = ji M a ∧ jr M1 a = jr M a ∧ jl M1 a = jl M a ∧ jd M1 a = jd M a
theorem jXt.xo {t : Nat} {M M1 : jM} (h : jXt t M M1) : jXo t M M1 := ⟨h.1, fun a ha hne => ⟨(h.2 a ha).1, (h.2 a ha).2.1, ((h.2 a ha).2.2.1 hne).1, ((h.2 a ha).2.2.1 hne).2, (h.2 a ha).2.2.2.2.1, (h.2 a ha).2.2.2.2.2⟩⟩
theorem jXo.tr {t : Nat} {M M1 M2 : jM} (h : jXo t M M1) (h2 : jXo t M1 M2) : jXo t M M2 := by
  refine ⟨Nat.le_trans h.1 h2.1, fun a ha hne => ?_⟩
  obtain ⟨a1, a2, a3, a4, a5, a6⟩ := h.2 a ha hne
  obtain ⟨b1, b2, b3, b4, b5, b6⟩ := h2.2 a (Nat.lt_of_lt_of_le ha h.1) hne
  exact ⟨b1.trans a1, b2.trans a2, b3.trans a3, b4.trans a4, b5.trans a5, b6.trans a6⟩
theorem rr_init {M M2 : jM} {t sg L t9 : Nat} {e : Nat → Int32} (ht : t < jn M) (hk : jk M t = 8) (hs : sg < jn M) (hsk : jk M sg = 21) (hsz : jz M sg = 60) (hL : L ≤ 60) (h : jRo (jSi (jSr (jSi M t 2 0) t 0 (some sg)) t 1 (nI L)) M2 t9 0 e) :
    jXo t M (jSi (jSi (jSi (jSr M2 t 3 (some t9)) t 4 0) t 5 99999999) t 6 0) ∧ jCl (jSi (jSi (jSi (jSr M2 t 3 (some t9)) t 4 0) t 5 99999999) t 6 0) ∧ jRr (jSi (jSi (jSi (jSr M2 t 3 (some t9)) t 4 0) t 5 99999999) t 6 0) t sg (ji M sg) L 0 0 99999999 false ∧ jr (jSi (jSi (jSi (jSr M2 t 3 (some t9)) t 4 0) t 5 99999999) t 6 0) t 3 = some t9 ∧ jRg (jSi (jSi (jSi (jSr M2 t 3 (some t9)) t 4 0) t 5 99999999) t 6 0) t9 0 := by
  obtain ⟨he, hcl, hg, hn, -⟩ := h
  have hne : sg ≠ t := fun hh => by rw [hh] at hsk; omega
  obtain ⟨a1, a2, a3, a4, a5, a6⟩ := he.2 t ht
  obtain ⟨b1, b2, b3, b4, b5, b6⟩ := he.2 sg hs
  have hle : jn M ≤ jn M2 := he.1
  refine ⟨⟨hle, fun a ha hat => ?_⟩, jCl_Sr hcl (fun q hq => by cases hq; exact Nat.lt_of_succ_lt hg.1), ⟨⟨Nat.lt_of_lt_of_le ht hle, a1.trans hk, ?_, Nat.lt_of_lt_of_le hs hle, b1.trans hsk, b2.trans hsz, ?_, ?_, hL, ?_, Nat.zero_le _, Ne.symm hne⟩, ?_, ?_, ?_⟩, ?_, ?_⟩
  · obtain ⟨c1, c2, c3, c4, c5, c6⟩ := he.2 a ha
    refine ⟨c1, c2, ?_, ?_, c5, c6⟩
    · have h9 : ji M2 a = ji M a := by rw [c3]; funext j; simp [ji_Si, ji_Sr, hat]
      rw [← h9]; funext j; simp [ji_Si, ji_Sr, hat]
    · have h9 : jr M2 a = jr M a := by rw [c4]; funext j; simp [jr_Si, jr_Sr, hat]
      rw [← h9]; funext j; simp [jr_Si, jr_Sr, hat]
  · have h9 : jr M2 t 0 = some sg := by rw [a4]; simp [jr_Si, jr_Sr]
    simp [jr_Si, jr_Sr, h9]
  · have h9 : ji M2 sg = ji M sg := by rw [b3]; funext j; simp [ji_Si, ji_Sr, hne]
    rw [← h9]; funext j; simp [ji_Si, ji_Sr, hne]
  · have h9 : ji M2 t 1 = nI L := by rw [a3]; simp [ji_Si, ji_Sr]
    simp [ji_Si, ji_Sr, h9]
  · have h9 : ji M2 t 2 = 0 := by rw [a3]; simp [ji_Si, ji_Sr]
    simp [ji_Si, ji_Sr, h9]; rfl
  · simp [ji_Si, ji_Sr]
  · simp [ji_Si, ji_Sr]
  · simp [ji_Si, ji_Sr, jb]
  · simp [jr_Si, jr_Sr]
  · obtain ⟨g1, g2, g3, g4, g5, g6⟩ := hg
    have h9 : t9 ≠ t := fun hh => by have : jn M ≤ t9 := hn; omega
    exact ⟨g1, g2, by simp [jr_Si, jr_Sr, h9, g3], g4, g5, g6⟩
theorem dX4_init_0 : decode cX4_init 0 = .ok (.aload_n 0, 1) := by decide +kernel
theorem dX4_init_1 : decode cX4_init 1 = .ok (.aload_n 1, 1) := by decide +kernel
theorem dX4_init_2 : decode cX4_init 2 = .ok (.iload_n 2, 1) := by decide +kernel
theorem dX4_init_3 : decode cX4_init 3 = .ok (.invokespecial 3, 3) := by decide +kernel
set_option maxRecDepth 20000 in
theorem ggX4_init_X6_init : GoodIn wsX4_init wsX6_init := goodIn_r _ [9, 10, 11, 12, 13, 14, 15, 16, 17, 18, 19, 20, 21, 22, 42, 43, 44, 45, 46, 47, 48, 49, 50, 51, 35, 36, 37, 38, 39, 40, 41] (by decide +kernel) (by decide +kernel)
set_option maxRecDepth 20000 in
theorem gX4_init_X6_init : GoodIn wsX4_init (wsX6_init) := ggX4_init_X6_init
theorem yY_X6_init : jY yX6_init wsX6_init cX6_init 3 none 2 := ⟨⟨_, rfl⟩, by decide +kernel, by decide +kernel, by decide +kernel⟩
theorem dX4_init_6 : decode cX4_init 6 = .ok (.aload_n 0, 1) := by decide +kernel
theorem dX4_init_7 : decode cX4_init 7 = .ok (.iconst 0, 1) := by decide +kernel
theorem dX4_init_8 : decode cX4_init 8 = .ok (.iconst (-1), 1) := by decide +kernel
theorem dX4_init_9 : decode cX4_init 9 = .ok (.invokestatic 9, 3) := by decide +kernel
set_option maxRecDepth 20000 in
theorem ggX4_init_X3_ofSpan : GoodIn wsX4_init wsX3_ofSpan := goodIn_ca (goodIn_r _ [26, 27, 28, 25, 29, 30, 31, 32, 33, 11, 12, 34, 52] (by decide +kernel) (by decide +kernel)) (goodIn_sub (fun _ h => List.mem_cons_of_mem _ (List.mem_append_right _ h)) (by decide +kernel))
set_option maxRecDepth 20000 in
theorem gX4_init_X3_ofSpan : GoodIn wsX4_init (va_wsS RX4 9 yX3_ofSpan wsX3_ofSpan) := goodIn_app (goodIn_of _ (by decide +kernel)) ggX4_init_X3_ofSpan
theorem dX4_init_12 : decode cX4_init 12 = .ok (.putfield 15, 3) := by decide +kernel
theorem dX4_init_15 : decode cX4_init 15 = .ok (.aload_n 0, 1) := by decide +kernel
theorem dX4_init_16 : decode cX4_init 16 = .ok (.iconst 0, 1) := by decide +kernel
theorem dX4_init_17 : decode cX4_init 17 = .ok (.putfield 21, 3) := by decide +kernel
theorem dX4_init_20 : decode cX4_init 20 = .ok (.aload_n 0, 1) := by decide +kernel
theorem dX4_init_21 : decode cX4_init 21 = .ok (.ldc 25, 2) := by decide +kernel
theorem dX4_init_23 : decode cX4_init 23 = .ok (.putfield 26, 3) := by decide +kernel
theorem dX4_init_26 : decode cX4_init 26 = .ok (.aload_n 0, 1) := by decide +kernel
theorem dX4_init_27 : decode cX4_init 27 = .ok (.iconst 0, 1) := by decide +kernel
theorem dX4_init_28 : decode cX4_init 28 = .ok (.putfield 29, 3) := by decide +kernel
theorem dX4_init_31 : decode cX4_init 31 = .ok (.return_, 1) := by decide +kernel
set_option maxHeartbeats 2000000 in
set_option maxRecDepth 20000 in
theorem ct_X4_init (l : Launch) (D : va_G) (dA : Nat → ClassId) (hst : l.stackTraces = false) (M : jM) (hcl : jCl M) (t : Nat) (ht : t < jn M) (hk : jk M t = 8) (sg L : Nat) (hs : sg < jn M) (hsk : jk M sg = 21) (hsz : jz M sg = 60) (hL : L ≤ 60) : jCT l D dA yX4_init wsX4_init (22) (420) (2) (3) 0 [.ref (t), .ref (sg), .int (nI (L))] M (fun o M1 => o = oV ∧ ∃ t9, jXo t M M1 ∧ jCl M1 ∧ jRr M1 t sg (ji M sg) L 0 0 99999999 false ∧ jr M1 t 3 = some t9 ∧ jRg M1 t9 0) := by
  refine jBody (cc := cX4_init) (nL := 3) (rt := none) (ini := true) (by decide) rfl hst (Nat.le_of_ble_eq_true rfl) (by simp [Value.category]) (by intro h9; first | exact absurd h9 (by decide) | rfl) ?_
  show J l D dA RX4 cX4_init wsX4_init 3 true none [] (22) (420) (jF D dA (jn M) (fun o M1 => o = oV ∧ ∃ t9, jXo t M M1 ∧ jCl M1 ∧ jRr M1 t sg (ji M sg) L 0 0 99999999 false ∧ jr M1 t 3 = some t9 ∧ jRg M1 t9 0) 0) (jn M) (2) (3) (M) 0 [.ref (t), .ref (sg), .int (nI (L))] []
  refine J_aload_n (t) dX4_init_0 rfl rfl ?_
  refine J_aload_n (sg) dX4_init_1 rfl rfl ?_
  refine J_iload_n dX4_init_2 rfl rfl ?_
  refine J_callv0 (jrunI (ret := none) (As := [.ref (sg), .int (nI (L))]) (ct_X6_init_8 l D dA hst M t ht hk sg L hs hsk hsz hL) dX4_init_3 yY_X6_init gX4_init_X6_init rfl (List.mem_of_getElem? (i := 8) rfl) (List.mem_of_getElem? (i := 6) rfl) (List.mem_of_getElem? (i := 7) rfl) rfl ⟨by omega, by omega⟩ ⟨Nat.zero_le _, Nat.zero_le _⟩ rfl (Nat.le_of_ble_eq_true rfl)) (rfl) (rfl) ?_
  refine J_aload_n (t) dX4_init_6 rfl rfl ?_
  refine J_iconst (x := 0) dX4_init_7 (by decide) ?_
  refine J_iconst (x := (-1)) dX4_init_8 (by decide) ?_
  refine J_callq (jrunS (As := [.int (0), .int (-1)]) (ct_X3_ofSpan l D dA hst (jSi (jSr (jSi M t 2 0) t 0 (some sg)) t 1 (nI L)) (jCl_Si (jCl_Sr (jCl_Si (hcl)) (fun q9 h9 => by cases h9; exact hs))) 0 (-1)) dX4_init_9 yY_X3_ofSpan gX4_init_X3_ofSpan rfl ⟨by omega, by omega⟩ ⟨by omega, by omega⟩ rfl (Nat.le_of_ble_eq_true rfl)) ⟨by omega, by omega⟩ (Or.inr ⟨(jOk.ref ht (jOk.ref hs (jOk.int jOk.nil))), (jOk.ref ht jOk.nil)⟩) (fun E M9 hp _ => by obtain ⟨_, h1, _⟩ := hp; cases h1) (fun x9 M2 hp9 hle9 => ?_)
  obtain ⟨t9, h9, hO2⟩ := hp9
  have hx9 := jR_inj h9
  subst hx9
  rw [if_neg (show ¬ (0 : Int32) ≤ -1 by decide)] at hO2
  refine J_putr (j := 3) (r := some (t9)) dX4_init_12 (fun _ h => List.mem_cons_of_mem _ (List.mem_append_left _ (List.mem_append_left _ (List.mem_append_left _ (List.mem_append_right _ (h)))))) cs8 cty8 (by decide) rfl (List.mem_of_getElem? (i := 1) rfl) rfl rfl jfit_r (Nat.lt_of_lt_of_le ht hO2.1.1) ((hO2.1.2 t ht).1.trans hk) ?_
  refine J_aload_n (t) dX4_init_15 rfl rfl ?_
  refine J_iconst (x := 0) dX4_init_16 (by decide) ?_
  refine J_puti (j := 4) (x := (0)) dX4_init_17 (fun _ h => List.mem_cons_of_mem _ (List.mem_append_left _ (List.mem_append_left _ (List.mem_append_left _ (List.mem_append_right _ (h)))))) cs8 cty8 (by decide) rfl (List.mem_of_getElem? (i := 2) rfl) rfl rfl ⟨rfl, rfl⟩ (Nat.lt_of_lt_of_le ht hO2.1.1) ((hO2.1.2 t ht).1.trans hk) ?_
  refine J_aload_n (t) dX4_init_20 rfl rfl ?_
  refine J_ldc (x := 99999999) dX4_init_21 (List.mem_of_getElem? (i := 3) rfl) ?_
  refine J_puti (j := 5) (x := (99999999)) dX4_init_23 (fun _ h => List.mem_cons_of_mem _ (List.mem_append_left _ (List.mem_append_left _ (List.mem_append_left _ (List.mem_append_right _ (h)))))) cs8 cty8 (by decide) rfl (List.mem_of_getElem? (i := 4) rfl) rfl rfl ⟨rfl, rfl⟩ (Nat.lt_of_lt_of_le ht hO2.1.1) ((hO2.1.2 t ht).1.trans hk) ?_
  refine J_aload_n (t) dX4_init_26 rfl rfl ?_
  refine J_iconst (x := 0) dX4_init_27 (by decide) ?_
  refine J_puti (j := 6) (x := (0)) dX4_init_28 (fun _ h => List.mem_cons_of_mem _ (List.mem_append_left _ (List.mem_append_left _ (List.mem_append_left _ (List.mem_append_right _ (h)))))) cs8 cty8 (by decide) rfl (List.mem_of_getElem? (i := 5) rfl) rfl rfl ⟨rfl, rfl⟩ (Nat.lt_of_lt_of_le ht hO2.1.1) ((hO2.1.2 t ht).1.trans hk) ?_
  exact J_vret dX4_init_31 rfl (by exact ⟨rfl, t9, rr_init ht hk hs hsk hsz hL hO2⟩)

theorem dX4_range_0 : decode cX4_range 0 = .ok (.aload_n 0, 1) := by decide +kernel
theorem dX4_range_1 : decode cX4_range 1 = .ok (.getfield 15, 3) := by decide +kernel
theorem dX4_range_4 : decode cX4_range 4 = .ok (.areturn, 1) := by decide +kernel
set_option maxHeartbeats 2000000 in
set_option maxRecDepth 20000 in
theorem ct_X4_range (l : Launch) (D : va_G) (dA : Nat → ClassId) (hst : l.stackTraces = false) (M : jM) (t t9 : Nat) (ht : t < jn M) (hk : jk M t = 8) (hr : jr M t 3 = some t9) : jCT l D dA yX4_range wsX4_range (20) (300) (0) (0) 2 [.ref (t)] M (jPo (oR (some t9)) (M)) := by
  refine jBody (cc := cX4_range) (nL := 1) (rt := (some (.object "VersionAlgebra$Range"))) (ini := false) (by decide) rfl hst (Nat.le_of_ble_eq_true rfl) (by simp [Value.category]) (by intro h9; first | exact absurd h9 (by decide) | rfl) ?_
  show J l D dA RX4 cX4_range wsX4_range 1 false (some (.object "VersionAlgebra$Range")) [] (20) (300) (jF D dA (jn M) (jPo (oR (some t9)) (M)) 2) (jn M) (0) (0) (M) 0 [.ref (t)] []
  refine J_aload_n (t) dX4_range_0 rfl rfl ?_
  refine J_getrs (q := t9) hr dX4_range_1 (fun _ h => List.mem_cons_of_mem _ (List.mem_append_right _ (h))) cs8 (by decide) rfl (List.mem_of_getElem? (i := 1) rfl) rfl ht hk ?_
  exact J_aret (r := some (t9)) dX4_range_4 rfl (Or.inl ⟨_, rfl⟩) ⟨(by rfl), (by rfl)⟩

