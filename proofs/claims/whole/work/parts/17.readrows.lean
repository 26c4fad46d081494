theorem jR_inj {x : Option Nat} {t : Nat} (h : (Sum.inl (some (va_rf x)) : jO) = oR (some t)) : x = some t := by
  have h3 : va_rf x = va_rf (some t) := Option.some.inj (Sum.inl.inj h)
  cases x with
  | none => cases h3
  | some z => exact congrArg some (Value.ref.inj h3)
theorem jRw.step {M X M2 M3 : jM} {t sg : Nat} {c : Nat → Int32} {L p : Nat} {lo hi : Int32} {b : Bool} {t9 n t2 n2 t3 : Nat} {e : Nat → Int32} (h : jRw M X t sg c L p lo hi b t9 n e) (h2 : jRo X M2 t2 n2 (fun j => if j = 0 then lo else hi)) (hn2 : n2 ≤ 1)
    (h3 : jRo M2 M3 t3 ((rComb 0 (ji M2 (t9 + 1)) n (ji M2 (t2 + 1)) n2).1 / 2) (rComb 0 (ji M2 (t9 + 1)) n (ji M2 (t2 + 1)) n2).2) :
    jRw M (jSr M3 t 3 (some t3)) t sg c L p lo hi b t3 ((rComb 0 e n (fun j => if j = 0 then lo else hi) n2).1 / 2) (rComb 0 e n (fun j => if j = 0 then lo else hi) n2).2 := by
  obtain ⟨h1, hcl, hR, hr, hG, hE⟩ := h
  have e1 : ∀ j, j < 2 * n → ji M2 (t9 + 1) j = e j := fun j hj => by rw [hG.ints h2.1]; exact hE j hj
  have ec := rComb_congr (op := 0) e1 h2.2.2.2.2
  rw [ec] at h3
  refine ⟨((h1.tr h2.1.xt).tr h3.1.xt).sr, jCl_Sr h3.2.1 (fun q hq => by cases hq; exact Nat.lt_of_succ_lt h3.2.2.1.1), ((hR.ext h2.1).ext h3.1).sr, by rw [jr_Sr, if_pos ⟨rfl, rfl⟩], ?_, h3.2.2.2.2⟩
  obtain ⟨g1, g2, g3, g4, g5, g6⟩ := h3.2.2.1
  exact ⟨g1, g2, by rw [jr_Sr, if_neg (fun h => absurd h.2 (by decide))]; exact g3, g4, g5, g6⟩
theorem dX4_readRows_2 : decode cX4_readRows 2 = .ok (.iload_n 1, 1) := by decide +kernel
theorem dX4_readRows_3 : decode cX4_readRows 3 = .ok (.aload_n 0, 1) := by decide +kernel
theorem dX4_readRows_4 : decode cX4_readRows 4 = .ok (.invokevirtual 33, 3) := by decide +kernel
set_option maxRecDepth 20000 in
theorem ggX4_readRows_X6_textSize : GoodIn wsX4_readRows wsX6_textSize := goodIn_r _ [9, 10, 149, 150, 151, 152, 153, 154, 155, 156, 157, 158, 142, 143, 144, 145, 146, 147, 148] (by decide +kernel) (by decide +kernel)
set_option maxRecDepth 20000 in
theorem gX4_readRows_X6_textSize_u33X4 : GoodIn wsX4_readRows (va_wsU RX4 33 RX4 "VersionAlgebra$TextReader" ⟨"VersionAlgebra$RangeReader", "textSize", "()I"⟩ yX6_textSize wsX6_textSize) := goodIn_app (goodIn_of _ (by decide +kernel)) ggX4_readRows_X6_textSize
theorem dX4_readRows_7 : decode cX4_readRows 7 = .ok (.if_icmp .gt 55, 3) := by decide +kernel
theorem dX4_readRows_62 : decode cX4_readRows 62 = .ok (.iconst 0, 1) := by decide +kernel
theorem dX4_readRows_63 : decode cX4_readRows 63 = .ok (.ireturn, 1) := by decide +kernel
theorem dX4_readRows_10 : decode cX4_readRows 10 = .ok (.aload_n 0, 1) := by decide +kernel
theorem dX4_readRows_11 : decode cX4_readRows 11 = .ok (.invokevirtual 37, 3) := by decide +kernel
set_option maxRecDepth 20000 in
theorem ggX4_readRows_X4_readRow : GoodIn wsX4_readRows wsX4_readRow := goodIn_ca (goodIn_r _ [15, 2, 16, 3, 4, 5, 6, 7, 8, 9, 10, 17, 18, 19, 14, 20, 21, 22, 23, 24, 25, 26, 27, 28, 29, 30, 31, 32, 33, 34, 35, 36, 37, 38, 39, 40, 41, 42, 43, 44, 45, 46, 47, 48, 49, 50, 51, 52, 53, 54, 55, 56, 57, 58, 59, 60, 61, 62, 63, 64, 65, 66, 67, 68, 69, 70, 71, 72, 73, 74, 75, 142, 143, 144, 145, 146, 147, 148, 149, 150, 151, 152, 153, 154, 155, 156, 157, 158] (by decide +kernel) (by decide +kernel)) (goodIn_sub (fun _ h => List.mem_cons_of_mem _ (List.mem_append_right _ h)) (by decide +kernel))
set_option maxRecDepth 20000 in
theorem gX4_readRows_X4_readRow : GoodIn wsX4_readRows (wsV RX4 37 RX4 yX4_readRow wsX4_readRow) := goodIn_app (goodIn_of _ (by decide +kernel)) ggX4_readRows_X4_readRow
theorem yY_X4_readRow : jY yX4_readRow wsX4_readRow cX4_readRow 2 (some .boolean) 0 := ⟨⟨_, rfl⟩, by decide +kernel, by decide +kernel, by decide +kernel⟩
theorem dX4_readRows_14 : decode cX4_readRows 14 = .ok (.ifCond .ne 5, 3) := by decide +kernel
theorem dX4_readRows_19 : decode cX4_readRows 19 = .ok (.aload_n 0, 1) := by decide +kernel
theorem dX4_readRows_20 : decode cX4_readRows 20 = .ok (.iconst 0, 1) := by decide +kernel
theorem dX4_readRows_21 : decode cX4_readRows 21 = .ok (.aload_n 0, 1) := by decide +kernel
theorem dX4_readRows_22 : decode cX4_readRows 22 = .ok (.getfield 15, 3) := by decide +kernel
theorem dX4_readRows_25 : decode cX4_readRows 25 = .ok (.aload_n 0, 1) := by decide +kernel
theorem dX4_readRows_26 : decode cX4_readRows 26 = .ok (.getfield 21, 3) := by decide +kernel
theorem dX4_readRows_29 : decode cX4_readRows 29 = .ok (.aload_n 0, 1) := by decide +kernel
theorem dX4_readRows_30 : decode cX4_readRows 30 = .ok (.getfield 26, 3) := by decide +kernel
theorem dX4_readRows_33 : decode cX4_readRows 33 = .ok (.invokestatic 9, 3) := by decide +kernel
set_option maxRecDepth 20000 in
theorem ggX4_readRows_X3_ofSpan : GoodIn wsX4_readRows wsX3_ofSpan := goodIn_ca (goodIn_r _ [79, 80, 81, 78, 82, 83, 84, 85, 86, 87, 88, 89, 159] (by decide +kernel) (by decide +kernel)) (goodIn_sub (fun _ h => List.mem_cons_of_mem _ (List.mem_append_right _ h)) (by decide +kernel))
set_option maxRecDepth 20000 in
theorem gX4_readRows_X3_ofSpan : GoodIn wsX4_readRows (va_wsS RX4 9 yX3_ofSpan wsX3_ofSpan) := goodIn_app (goodIn_of _ (by decide +kernel)) ggX4_readRows_X3_ofSpan
theorem yY_X3_ofSpan : jY yX3_ofSpan wsX3_ofSpan cX3_ofSpan 2 (some (.object "VersionAlgebra$Range")) 2 := ⟨⟨_, rfl⟩, by decide +kernel, by decide +kernel, by decide +kernel⟩
theorem dX4_readRows_36 : decode cX4_readRows 36 = .ok (.invokestatic 41, 3) := by decide +kernel
set_option maxRecDepth 20000 in
theorem ggX4_readRows_X3_combined : GoodIn wsX4_readRows wsX3_combined := goodIn_ca (goodIn_r _ [92, 82, 93, 94, 59, 56, 60, 80, 81, 78, 95, 96, 97, 98, 89, 99, 100, 101, 102, 103, 104, 105, 106, 107, 108, 109, 110, 111, 112, 113, 114, 115, 116, 117, 118, 119, 120, 71, 121, 122, 123, 124, 125, 126, 127, 128, 129, 130, 131, 132, 133, 134, 135, 136, 83, 84, 85, 86, 87, 88, 159] (by decide +kernel) (by decide +kernel)) (goodIn_sub (fun _ h => List.mem_cons_of_mem _ (List.mem_append_right _ h)) (by decide +kernel))
set_option maxRecDepth 20000 in
theorem gX4_readRows_X3_combined : GoodIn wsX4_readRows (va_wsS RX4 41 yX3_combined wsX3_combined) := goodIn_app (goodIn_of _ (by decide +kernel)) ggX4_readRows_X3_combined
theorem yY_X3_combined : jY yX3_combined wsX3_combined cX3_combined 8 (some (.object "VersionAlgebra$Range")) 3 := ⟨⟨_, rfl⟩, by decide +kernel, by decide +kernel, by decide +kernel⟩
theorem dX4_readRows_39 : decode cX4_readRows 39 = .ok (.putfield 15, 3) := by decide +kernel
theorem dX4_readRows_42 : decode cX4_readRows 42 = .ok (.aload_n 0, 1) := by decide +kernel
theorem dX4_readRows_43 : decode cX4_readRows 43 = .ok (.bipush 124, 2) := by decide +kernel
theorem dX4_readRows_45 : decode cX4_readRows 45 = .ok (.invokevirtual 45, 3) := by decide +kernel
set_option maxRecDepth 20000 in
theorem ggX4_readRows_X6_takes : GoodIn wsX4_readRows wsX6_takes := goodIn_ca (goodIn_r _ [26, 27, 28, 29, 30, 31, 8, 32, 10, 33, 34, 149, 150, 151, 152, 153, 154, 155, 156, 157, 158, 142, 143, 144, 145, 146, 147, 148] (by decide +kernel) (by decide +kernel)) (goodIn_sub (fun _ h => List.mem_cons_of_mem _ (List.mem_append_right _ h)) (by decide +kernel))
set_option maxRecDepth 20000 in
theorem gX4_readRows_X6_takes_u45X4 : GoodIn wsX4_readRows (va_wsU RX4 45 RX4 "VersionAlgebra$TextReader" ⟨"VersionAlgebra$RangeReader", "takes", "(C)Z"⟩ yX6_takes wsX6_takes) := goodIn_app (goodIn_of _ (by decide +kernel)) ggX4_readRows_X6_takes
theorem dX4_readRows_48 : decode cX4_readRows 48 = .ok (.ifCond .ne 8, 3) := by decide +kernel
theorem dX4_readRows_56 : decode cX4_readRows 56 = .ok (.iinc 1 1, 3) := by decide +kernel
theorem dX4_readRows_59 : decode cX4_readRows 59 = .ok (.goto (-57), 3) := by decide +kernel
theorem dX4_readRows_51 : decode cX4_readRows 51 = .ok (.aload_n 0, 1) := by decide +kernel
theorem dX4_readRows_52 : decode cX4_readRows 52 = .ok (.invokevirtual 49, 3) := by decide +kernel
set_option maxRecDepth 20000 in
theorem ggX4_readRows_X6_isAtEnd : GoodIn wsX4_readRows wsX6_isAtEnd := goodIn_r _ [141, 27, 10, 149, 150, 151, 152, 153, 154, 155, 156, 157, 158, 142, 143, 144, 145, 146, 147, 148] (by decide +kernel) (by decide +kernel)
set_option maxRecDepth 20000 in
theorem gX4_readRows_X6_isAtEnd_u49X4 : GoodIn wsX4_readRows (va_wsU RX4 49 RX4 "VersionAlgebra$TextReader" ⟨"VersionAlgebra$RangeReader", "isAtEnd", "()Z"⟩ yX6_isAtEnd wsX6_isAtEnd) := goodIn_app (goodIn_of _ (by decide +kernel)) ggX4_readRows_X6_isAtEnd
theorem yY_X6_isAtEnd : jY yX6_isAtEnd wsX6_isAtEnd cX6_isAtEnd 1 (some .boolean) 0 := ⟨⟨_, rfl⟩, by decide +kernel, by decide +kernel, by decide +kernel⟩
theorem dX4_readRows_55 : decode cX4_readRows 55 = .ok (.ireturn, 1) := by decide +kernel
theorem dX4_readRows_17 : decode cX4_readRows 17 = .ok (.iconst 0, 1) := by decide +kernel
theorem dX4_readRows_18 : decode cX4_readRows 18 = .ok (.ireturn, 1) := by decide +kernel
theorem dX4_readRows_0 : decode cX4_readRows 0 = .ok (.iconst 0, 1) := by decide +kernel
theorem dX4_readRows_1 : decode cX4_readRows 1 = .ok (.istore_n 1, 1) := by decide +kernel
set_option maxHeartbeats 2000000 in
set_option maxRecDepth 20000 in
theorem ct_X4_readRows (l : Launch) (D : va_G) (dA : Nat → ClassId) (hst : l.stackTraces = false) (M : jM) (t sg : Nat) (c : Nat → Int32) (L p : Nat) (lo hi : Int32) (b : Bool) (hR : jRr M t sg c L p lo hi b) (hcl : jCl M) (t0 n0 : Nat) (e0 : Nat → Int32) (hW0 : jRw M M t sg c L p lo hi b t0 n0 e0) (hn0 : n0 = 0) : jCT l D dA yX4_readRows wsX4_readRows (26) (660) (5 * (L + 1)) (1000 * (L + 1)) 1 [.ref (t)] M (jRwo M t sg c L (rRs c L (L + 1) p lo hi b n0 e0)) := by
  refine jBody (cc := cX4_readRows) (nL := 2) (rt := (some .boolean)) (ini := false) (by decide) rfl hst (Nat.le_of_ble_eq_true rfl) (by simp [Value.category]) (by intro h9; first | exact absurd h9 (by decide) | rfl) ?_
  show J l D dA RX4 cX4_readRows wsX4_readRows 2 false (some .boolean) [] (26) (660) (jF D dA (jn M) (jRwo M t sg c L (rRs c L (L + 1) p lo hi b n0 e0)) 1) (jn M) (5 * (L + 1)) (1000 * (L + 1)) (M) 0 [.ref (t), .float 0] []
  obtain ⟨⟨f1, f2, f3, f4, f5, f6, f7, f8, f9, f10, f11, f12⟩, f13, f14, f15⟩ := id hR
  have L2 : ∀ (fuel : Nat) (k : Nat) (q : Nat) (ql : Int32) (qh : Int32) (qb : Bool) (t9 : Nat) (n : Nat) (e : Nat → Int32) (M1 : jM) (hk : k ≤ L + 1) (hW : jRw M M1 t sg c L q ql qh qb t9 n e) (hn : n ≤ 2 * k) (hI : rRs c L (L + 1 - k) q ql qh qb n e = rRs c L (L + 1) p lo hi b n0 e0), L + 1 - k < fuel → J l D dA RX4 cX4_readRows wsX4_readRows 2 false (some .boolean) [] (26) (660) (jF D dA (jn M) (jRwo M t sg c L (rRs c L (L + 1) p lo hi b n0 e0)) 1) (jn M) (5 * (L + 1 - k)) (1000 * (L + 1 - k)) (M1) 2 [.ref (t), .int (nI (k))] [] := by
    intro fuel
    induction fuel with
    | zero => intro k q ql qh qb t9 n e M1 hk hW hn hI hm; exact absurd hm (Nat.not_lt_zero _)
    | succ fuel ih2 =>
      intro k q ql qh qb t9 n e M1 hk hW hn hI hm2
      obtain ⟨w1, w2, w3, w4, w5, w6⟩ := id hW
      obtain ⟨⟨f1, f2, f3, f4, f5, f6, f7, f8, f9, f10, f11, f12⟩, f13, f14, f15⟩ := id w3
      refine J_mem (M' := jRS M1 t q ql qh qb) (by exact w3.self) ?_
      refine J_iload_n dX4_readRows_2 rfl rfl ?_
      refine J_aload_n (t) dX4_readRows_3 rfl rfl ?_
      refine J_calli0 (jrunU (As := []) (ct_X6_textSize_8 l D dA hst (jRS M1 t q ql qh qb) t sg c L q ((w3.rs (q := q) (lo' := ql) (hi' := qh) (b' := qb) f11).1)) dX4_readRows_4 yY_X6_textSize gX4_readRows_X6_textSize_u33X4 rfl cs8 w3.1.1 w3.1.2.1 rfl ⟨by omega, by omega⟩ ⟨Nat.zero_le _, Nat.zero_le _⟩ rfl (Nat.le_of_ble_eq_true rfl)) (rfl) (rfl) ?_
      refine J_icmp_gt dX4_readRows_7 (tgt := 62) (by decide) (fun c7 => ?_) (fun c7 => ?_)
      · have c7 := jltT (a := L) (b := k) (by omega) (by omega) c7
        refine J_iconst (x := 0) dX4_readRows_62 (by decide) ?_
        exact J_iret (ty := .boolean) dX4_readRows_63 rfl (by rfl) (by rw [← hI, rRs_0 (by omega)]; exact ⟨t9, rfl, hW.rs f11⟩)
      · have c7 := jltF (a := L) (b := k) (by omega) (by omega) c7
        refine J_aload_n (t) dX4_readRows_10 rfl rfl ?_
        refine J_calli0 (jrunV (As := []) (ct_X4_readRow l D dA hst (jRS M1 t q ql qh qb) t sg c L q ql qh qb (w3.rs (q := q) (lo' := ql) (hi' := qh) (b' := qb) f11)) dX4_readRows_11 yY_X4_readRow gX4_readRows_X4_readRow rfl cs8 w3.1.1 w3.1.2.1 rfl ⟨by omega, by omega⟩ ⟨Nat.zero_le _, Nat.zero_le _⟩ rfl (Nat.le_of_ble_eq_true rfl)) (rfl) (jn_RS _ _ _ _ _ _) ?_
        refine J_mem (M' := jRS M1 t ((rRow c L q qb).2.1) ((rRow c L q qb).2.2.1) ((rRow c L q qb).2.2.2.1) ((rRow c L q qb).2.2.2.2)) (by exact jRS_RS _ _ _ _ _ _ _ _ _ _) ?_
        refine J_if_ne dX4_readRows_14 (tgt := 19) (by decide) (fun c14 => ?_) (fun c14 => ?_)
        · have c14 := jb0F c14
          refine J_aload_n (t) dX4_readRows_19 rfl rfl ?_
          refine J_iconst (x := 0) dX4_readRows_20 (by decide) ?_
          refine J_aload_n (t) dX4_readRows_21 rfl rfl ?_
          refine J_getrs (q := t9) w4 dX4_readRows_22 (fun _ h => List.mem_cons_of_mem _ (List.mem_append_left _ (List.mem_append_left _ (List.mem_append_left _ (List.mem_append_right _ (h)))))) cs8 (by decide) rfl (List.mem_of_getElem? (i := 1) rfl) rfl w3.1.1 w3.1.2.1 ?_
          refine J_aload_n (t) dX4_readRows_25 rfl rfl ?_
          refine J_geti (j := 4) dX4_readRows_26 (fun _ h => List.mem_cons_of_mem _ (List.mem_append_left _ (List.mem_append_left _ (List.mem_append_left _ (List.mem_append_right _ (h)))))) cs8 (by decide) rfl (List.mem_of_getElem? (i := 2) rfl) rfl w3.1.1 w3.1.2.1 ?_
          refine J_topi (y := ((rRow c L q qb).2.2.1)) ((w3.rs (q := (rRow c L q qb).2.1) (lo' := (rRow c L q qb).2.2.1) (hi' := (rRow c L q qb).2.2.2.1) (b' := (rRow c L q qb).2.2.2.2) (rRow_le f11)).2.1) ?_
          refine J_aload_n (t) dX4_readRows_29 rfl rfl ?_
          refine J_geti (j := 5) dX4_readRows_30 (fun _ h => List.mem_cons_of_mem _ (List.mem_append_left _ (List.mem_append_left _ (List.mem_append_left _ (List.mem_append_right _ (h)))))) cs8 (by decide) rfl (List.mem_of_getElem? (i := 3) rfl) rfl w3.1.1 w3.1.2.1 ?_
          refine J_topi (y := ((rRow c L q qb).2.2.2.1)) ((w3.rs (q := (rRow c L q qb).2.1) (lo' := (rRow c L q qb).2.2.1) (hi' := (rRow c L q qb).2.2.2.1) (b' := (rRow c L q qb).2.2.2.2) (rRow_le f11)).2.2.1) ?_
          refine J_callq (jrunS (As := [.int ((rRow c L q qb).2.2.1), .int ((rRow c L q qb).2.2.2.1)]) (ct_X3_ofSpan l D dA hst (jRS M1 t ((rRow c L q qb).2.1) ((rRow c L q qb).2.2.1) ((rRow c L q qb).2.2.2.1) ((rRow c L q qb).2.2.2.2)) (w2) (((rRow c L q qb).2.2.1)) (((rRow c L q qb).2.2.2.1))) dX4_readRows_33 yY_X3_ofSpan gX4_readRows_X3_ofSpan rfl ⟨by omega, by omega⟩ ⟨by omega, by omega⟩ rfl (Nat.le_of_ble_eq_true rfl)) ⟨by omega, by omega⟩ (Or.inr ⟨(jOk.ref w3.1.1 (jOk.int jOk.nil)), (jOk.ref (Nat.lt_of_succ_lt w5.1) (jOk.int (jOk.ref w3.1.1 jOk.nil)))⟩) (fun E M9 hp _ => by obtain ⟨_, h1, _⟩ := hp; cases h1) (fun x9 M2 hp33 hle33 => ?_)
          obtain ⟨t2, h33, hO2⟩ := hp33
          have hx9 := jR_inj h33
          subst hx9
          obtain ⟨n2, hn2⟩ : ∃ n2 : Nat, n2 = (if ((rRow c L q qb).2.2.1) ≤ ((rRow c L q qb).2.2.2.1) then 1 else 0) := ⟨_, rfl⟩
          rw [← hn2] at hO2
          have hn2l : n2 ≤ 1 := by rw [hn2]; split <;> omega
          have hW1 := hW.rs (q := (rRow c L q qb).2.1) (lo' := ((rRow c L q qb).2.2.1)) (hi' := ((rRow c L q qb).2.2.2.1)) (b' := (rRow c L q qb).2.2.2.2) (rRow_le f11)
          have hR2 := hW1.2.2.1.ext hO2.1
          have hG2 := hW1.2.2.2.2.1.ext hO2.1
          refine J_callq (jrunS (As := [.int (0), .ref (t9), .ref (t2)]) (ct_X3_combined l D dA hst M2 hO2.2.1 0 t9 n hG2 t2 n2 hO2.2.2.1 (by omega)) dX4_readRows_36 yY_X3_combined gX4_readRows_X3_combined rfl ⟨by omega, by omega⟩ ⟨by omega, by omega⟩ rfl (Nat.le_of_ble_eq_true rfl)) ⟨by omega, by omega⟩ (Or.inr ⟨(jOk.ref hR2.1.1 (jOk.int jOk.nil)), (jOk.ref hR2.1.1 jOk.nil)⟩) (fun E M9 hp _ => by obtain ⟨_, h1, _⟩ := hp; cases h1) (fun x9 M3 hp36 hle36 => ?_)
          obtain ⟨t3, h36, hO3⟩ := hp36
          have hx9 := jR_inj h36
          subst hx9
          have hWY := hW1.step hO2 hn2l hO3
          refine J_putr (j := 3) (r := some (t3)) dX4_readRows_39 (fun _ h => List.mem_cons_of_mem _ (List.mem_append_left _ (List.mem_append_left _ (List.mem_append_left _ (List.mem_append_right _ (h)))))) cs8 cty8 (by decide) rfl (List.mem_of_getElem? (i := 1) rfl) rfl rfl jfit_r (hR2.ext hO3.1).1.1 (hR2.ext hO3.1).1.2.1 ?_
          obtain ⟨Y, hY⟩ : ∃ Y, Y = jSr M3 (t) 3 (some (t3)) := ⟨_, rfl⟩
          rw [← hY] at hWY
          refine J_mem (M' := Y) hY.symm ?_
          refine J_mem (M' := jRS Y t ((rRow c L q qb).2.1) ((rRow c L q qb).2.2.1) ((rRow c L q qb).2.2.2.1) ((rRow c L q qb).2.2.2.2)) (by exact hWY.2.2.1.self) ?_
          refine J_aload_n (t) dX4_readRows_42 rfl rfl ?_
          refine J_bipush (x := 124) dX4_readRows_43 (by decide) ?_
          refine J_calli0 (jrunU (As := [.int (124)]) (ct_X6_takes_8 l D dA hst (jRS Y t ((rRow c L q qb).2.1) ((rRow c L q qb).2.2.1) ((rRow c L q qb).2.2.2.1) ((rRow c L q qb).2.2.2.2)) t sg c L ((rRow c L q qb).2.1) ((hWY.2.2.1.rs (q := (rRow c L q qb).2.1) (lo' := (rRow c L q qb).2.2.1) (hi' := (rRow c L q qb).2.2.2.1) (b' := (rRow c L q qb).2.2.2.2) (rRow_le f11)).1) ((124))) dX4_readRows_45 yY_X6_takes gX4_readRows_X6_takes_u45X4 rfl cs8 hWY.2.2.1.1.1 hWY.2.2.1.1.2.1 rfl ⟨by omega, by omega⟩ ⟨Nat.zero_le _, Nat.zero_le _⟩ rfl (Nat.le_of_ble_eq_true rfl)) (rfl) (rfl) ?_
          refine J_mem (M' := jRS Y t (tTk c L ((rRow c L q qb).2.1) ((124))) ((rRow c L q qb).2.2.1) ((rRow c L q qb).2.2.2.1) ((rRow c L q qb).2.2.2.2)) (by exact jRS_2 _ _ _ _ _ _ _) ?_
          refine J_if_ne dX4_readRows_48 (tgt := 56) (by decide) (fun c48 => ?_) (fun c48 => ?_)
          · have c48 := jb0F c48
            refine J_mem (M' := jRS Y t ((rRow c L q qb).2.1 + 1) ((rRow c L q qb).2.2.1) ((rRow c L q qb).2.2.2.1) ((rRow c L q qb).2.2.2.2)) (by rw [tTk_t c48]) ?_
            refine J_iinc (y := nI (k + 1)) (lv' := [.ref (t), .int (nI (k + 1))]) dX4_readRows_56 rfl (jinc (k)) (by decide) rfl rfl ?_
            refine J_goto (tgt := 2) dX4_readRows_59 (by decide) ?_
            refine J_less (bc' := 5 * (L + 1 - (k + 1))) (bs' := 1000 * (L + 1 - (k + 1))) (by omega) (by omega) ?_
            exact ih2 (k + 1) ((rRow c L q qb).2.1 + 1) ((rRow c L q qb).2.2.1) ((rRow c L q qb).2.2.2.1) ((rRow c L q qb).2.2.2.2) (t3) ((rComb 0 e n (fun j => if j = 0 then (rRow c L q qb).2.2.1 else (rRow c L q qb).2.2.2.1) n2).1 / 2) ((rComb 0 e n (fun j => if j = 0 then (rRow c L q qb).2.2.1 else (rRow c L q qb).2.2.2.1) n2).2) (jRS Y t ((rRow c L q qb).2.1 + 1) ((rRow c L q qb).2.2.1) ((rRow c L q qb).2.2.2.1) ((rRow c L q qb).2.2.2.2)) (by omega) (by exact hWY.rs (tIsAt_lt c48)) (by have := rComb_n 0 e n (fun j => if j = 0 then (rRow c L q qb).2.2.1 else (rRow c L q qb).2.2.2.1) n2; omega) (by refine Eq.trans ?_ hI; rw [rRs_s (k := k) (p := q) (by omega) c14 c48, ← hn2]) (by omega)
          · have c48 := jb0T c48
            refine J_mem (M' := jRS Y t ((rRow c L q qb).2.1) ((rRow c L q qb).2.2.1) ((rRow c L q qb).2.2.2.1) ((rRow c L q qb).2.2.2.2)) (by rw [tTk_f c48]) ?_
            refine J_aload_n (t) dX4_readRows_51 rfl rfl ?_
            refine J_calli0 (jrunU (As := []) (ct_X6_isAtEnd_8 l D dA hst (jRS Y t ((rRow c L q qb).2.1) ((rRow c L q qb).2.2.1) ((rRow c L q qb).2.2.2.1) ((rRow c L q qb).2.2.2.2)) t sg c L ((rRow c L q qb).2.1) ((hWY.2.2.1.rs (q := (rRow c L q qb).2.1) (lo' := (rRow c L q qb).2.2.1) (hi' := (rRow c L q qb).2.2.2.1) (b' := (rRow c L q qb).2.2.2.2) (rRow_le f11)).1)) dX4_readRows_52 yY_X6_isAtEnd gX4_readRows_X6_isAtEnd_u49X4 rfl cs8 hWY.2.2.1.1.1 hWY.2.2.1.1.2.1 rfl ⟨by omega, by omega⟩ ⟨Nat.zero_le _, Nat.zero_le _⟩ rfl (Nat.le_of_ble_eq_true rfl)) (rfl) (rfl) ?_
            exact J_iret (ty := .boolean) dX4_readRows_55 rfl (jb_n _) (by rw [← hI, rRs_e (by omega) c14 c48, ← hn2]; exact ⟨t3, rfl, hWY.rs (rRow_le f11)⟩)
        · have c14 := jb0T c14
          refine J_iconst (x := 0) dX4_readRows_17 (by decide) ?_
          exact J_iret (ty := .boolean) dX4_readRows_18 rfl (by rfl) (by rw [← hI, rRs_n (by omega) c14]; exact ⟨t9, rfl, hW.rs (rRow_le f11)⟩)
  refine J_iconst (x := 0) dX4_readRows_0 (by decide) ?_
  refine J_istore_n (lv' := [.ref (t), .int (0)]) dX4_readRows_1 rfl (by decide) rfl rfl ?_
  refine J_less (bc' := 5 * (L + 1 - (0))) (bs' := 1000 * (L + 1 - (0))) (by omega) (by omega) ?_
  exact L2 _ (0) (p) (lo) (hi) (b) (t0) (n0) (e0) (M) (by omega) (by exact hW0) (by omega) (by rfl) (Nat.lt_succ_self _)

