set_option maxHeartbeats 1000000 in
/-- YOUR PART: from the entry, for every script of at most 2560 ints, the law comes to its end with true ('hflags': the launch's flags, for a law that throws: no stack traces) -/
theorem whole_start {p : Program} {e : Env} {s : State} {m : MethodId} {below : List Frame} {meth : Method} {c : Code} (l : Launch) (hflags : l.flags = flags0) {b L : Nat} {xs : Nat → Int32} (hL : L ≤ 2560) (C0 : lw_At p s m meth c b L xs) : W p l e room_1 s m #[Value.ref b] below meth c s.heap [] 0 0 (lw_Z below #[Value.ref b] s) (entryFrame m ([Value.ref b] : List Value).toArray 9) := by
  obtain ⟨hx, hb, hr, hml, hown, hts0, hX, hbl, hlk, hgv⟩ := C0
  have hts := lw_hts2 hts0
  have hs := flat_of_before _ hgv
  have hA : ∀ a : Nat, a < s.heap.size → ¬ (fun q9 => s.heap.size ≤ q9) a := fun a h1 h2 => Nat.not_lt.mpr h2 h1
  have hst : l.stackTraces = false := by unfold Launch.stackTraces; rw [hflags]; decide
  obtain ⟨D, hD⟩ := st_D hts
  obtain ⟨a0, b0, c0⟩ := st_arrP (ty := .byte) (hts _ (lw_atm (q := (1, 112)) (by decide +kernel)))
  obtain ⟨a1, b1, c1⟩ := st_arrP (ty := .char) (hts _ (lw_atm (q := (1, 59)) (by decide +kernel)))
  obtain ⟨a2, b2, c2⟩ := st_arrP (ty := .int) (hts _ (lw_atm (q := (1, 60)) (by decide +kernel)))
  obtain ⟨a5, b5, c5⟩ := st_arrP (ty := .long) (hts _ (lw_atm (q := (8, 64)) (by decide +kernel)))
  obtain ⟨a6, b6, c6⟩ := st_arrP (ty := .double) (hts _ (lw_atm (q := (8, 65)) (by decide +kernel)))
  have w3 : (Cond.arrayOver (.object RX3)).before #[Value.ref b] s = true := (hts _ (lw_atm (q := (1, 48)) (by decide +kernel)))
  obtain ⟨a3, b3, c3⟩ := st_arrO w3
  have w4 : (Cond.arrayOver (.object RX5)).before #[Value.ref b] s = true := (hts _ (lw_atm (q := (1, 68)) (by decide +kernel)))
  obtain ⟨a4, b4, c4⟩ := st_arrO w4
  obtain ⟨s0, v0, y0, o0, p0, r0, t0⟩ := st_str (A := fun q9 => s.heap.size ≤ q9) (.string "VersionAlgebra" 310) 4 (fun j => ([110, 111, 110, 101] : List Int32).getD j 0) (by decide) (st_f hs (k := 748) (by decide +kernel)) (st_f hs (k := 749) (by decide +kernel)) (st_f hs (k := 750) (by decide +kernel)) (st_f hs (k := 751) (by decide +kernel)) (fun j hj => match j, hj with | 0, _ => (st_f hs (k := 752) (by decide +kernel)) | 1, _ => (st_f hs (k := 753) (by decide +kernel)) | 2, _ => (st_f hs (k := 754) (by decide +kernel)) | 3, _ => (st_f hs (k := 755) (by decide +kernel)) | j + 4, h9 => absurd h9 (by omega)) hA
  obtain ⟨s1, v1, y1, o1, p1, r1, t1⟩ := st_str (A := fun q9 => s.heap.size ≤ q9) (.string "VersionAlgebra" 329) 2 (fun j => ([62, 61] : List Int32).getD j 0) (by decide) (st_f hs (k := 756) (by decide +kernel)) (st_f hs (k := 757) (by decide +kernel)) (st_f hs (k := 758) (by decide +kernel)) (st_f hs (k := 759) (by decide +kernel)) (fun j hj => match j, hj with | 0, _ => (st_f hs (k := 760) (by decide +kernel)) | 1, _ => (st_f hs (k := 761) (by decide +kernel)) | j + 2, h9 => absurd h9 (by omega)) hA
  obtain ⟨s2, v2, y2, o2, p2, r2, t2⟩ := st_str (A := fun q9 => s.heap.size ≤ q9) (.string "VersionAlgebra" 331) 2 (fun j => ([60, 61] : List Int32).getD j 0) (by decide) (st_f hs (k := 762) (by decide +kernel)) (st_f hs (k := 763) (by decide +kernel)) (st_f hs (k := 764) (by decide +kernel)) (st_f hs (k := 765) (by decide +kernel)) (fun j hj => match j, hj with | 0, _ => (st_f hs (k := 766) (by decide +kernel)) | 1, _ => (st_f hs (k := 767) (by decide +kernel)) | j + 2, h9 => absurd h9 (by omega)) hA
  obtain ⟨tTens, eTens, TTens⟩ := va_Tof (A := fun q9 => s.heap.size ≤ q9) (tm := .static "java/lang/Integer" "DigitTens" "[B") (N := 100) (ty := .byte) (f := fun j => .int (nI (48 + j / 10))) (by decide) (st_f hs (k := 115) (by decide +kernel)) (va_eqt (st_f hs (k := 116) (by decide +kernel))) (fun j hj => va_eqt (hs _ (List.mem_of_getElem? (st_dTens j hj)))) hA
  have ZTens := va_Zof (A := fun q9 => s.heap.size ≤ q9) (hts _ (lw_atm (q := (5, 31)) (by decide +kernel))) (hts _ (lw_atm (q := (1, 31)) (by decide +kernel))) eTens hA
  obtain ⟨tOnes, eOnes, TOnes⟩ := va_Tof (A := fun q9 => s.heap.size ≤ q9) (tm := .static "java/lang/Integer" "DigitOnes" "[B") (N := 100) (ty := .byte) (f := fun j => .int (nI (48 + j % 10))) (by decide) (st_f hs (k := 12) (by decide +kernel)) (va_eqt (st_f hs (k := 13) (by decide +kernel))) (fun j hj => va_eqt (hs _ (List.mem_of_getElem? (st_dOnes j hj)))) hA
  have ZOnes := va_Zof (A := fun q9 => s.heap.size ≤ q9) (hts _ (lw_atm (q := (5, 29)) (by decide +kernel))) (hts _ (lw_atm (q := (1, 31)) (by decide +kernel))) eOnes hA
  obtain ⟨fm, Zfm⟩ : ∃ fm : Nat, va_Z "jdk/internal/util/Preconditions" "SIOOBE_FORMATTER" "Ljava/util/function/BiFunction;" .null (fun q9 => s.heap.size ≤ q9) s s.heap ∨ va_Z "jdk/internal/util/Preconditions" "SIOOBE_FORMATTER" "Ljava/util/function/BiFunction;" (.ref fm) (fun q9 => s.heap.size ≤ q9) s s.heap := by
    rcases va_Zqof (C := "jdk/internal/util/Preconditions") (n := "SIOOBE_FORMATTER") (d := "Ljava/util/function/BiFunction;") (A := fun q9 => s.heap.size ≤ q9) (hts _ (lw_atm (q := (4, 199)) (by decide +kernel))) (hts _ (lw_atm (q := (1, 28)) (by decide +kernel))) (st_f hs (k := 7) (by decide +kernel)) hA with h9 | ⟨t, h9⟩
    · exact ⟨0, Or.inl h9⟩
    · exact ⟨t, Or.inr h9⟩
  have y3 : (Term.string "VersionAlgebraModel" 241).eval #[Value.ref b] s none [] s = some (.ref s0) := by
    have h9 : (Cond.eq (.string "VersionAlgebra" 310) (.string "VersionAlgebraModel" 241)).before #[Value.ref b] s = true := (st_f hs (k := 1053) (by decide +kernel))
    have h7 : (Cond.exactly (.string "VersionAlgebraModel" 241) "java/lang/String").before #[Value.ref b] s = true := (st_f hs (k := 1045) (by decide +kernel))
    obtain ⟨a, -, -, -, q1, -⟩ := Cond.exactly_spec h7
    have h8 : s0 = a := by simpa [Cond.before, Cond.holds, Cond.value, y0, q1] using h9
    rw [h8]; exact q1
  obtain ⟨dA, hdA⟩ : ∃ dA : Nat → Nat, dA = st_dA [a0, a1, a2, a3, a4, a5, a6] [s0, s1, s2, fm, b, L, tTens, tOnes, 0, 0, v0, v1, v2] xs := ⟨_, rfl⟩
  have hxs : (fun j => Int32.ofNat (dA (200 + j))) = xs := by rw [hdA]; exact st_dAs _ _ _
  have d0 : dA 0 = a0 := by rw [hdA]; rfl
  have d1 : dA 1 = a1 := by rw [hdA]; rfl
  have d2 : dA 2 = a2 := by rw [hdA]; rfl
  have d3 : dA 3 = a3 := by rw [hdA]; rfl
  have d4 : dA 4 = a4 := by rw [hdA]; rfl
  have d5 : dA 5 = a5 := by rw [hdA]; rfl
  have d6 : dA 6 = a6 := by rw [hdA]; rfl
  have f0 : dA 100 = s0 := by rw [hdA]; rfl
  have f1 : dA 101 = s1 := by rw [hdA]; rfl
  have f2 : dA 102 = s2 := by rw [hdA]; rfl
  have f3 : dA 103 = fm := by rw [hdA]; rfl
  have f4 : dA 104 = b := by rw [hdA]; rfl
  have f5 : dA 105 = L := by rw [hdA]; rfl
  have f6 : dA 106 = tTens := by rw [hdA]; rfl
  have f7 : dA 107 = tOnes := by rw [hdA]; rfl
  have g0 : dA 110 = v0 := by rw [hdA]; rfl
  have g1 : dA 111 = v1 := by rw [hdA]; rfl
  have g2 : dA 112 = v2 := by rw [hdA]; rfl
  clear hdA
  subst d0 d1 d2 d3 d4 d5 d6 f0 f1 f2 f3 f4 f5 f6 f7 g0 g1 g2
  have hK : va_K D vwCl (jT dA) s := by
    refine ⟨hD, fun k q hq => ?_⟩
    have hall : ∀ q ∈ jT dA, ArrOfT s q.1 q.2 ∧ va_RA s q.1 q.2 := List.forall_mem_cons.mpr ⟨⟨b0, c0⟩, List.forall_mem_cons.mpr ⟨⟨b1, c1⟩, List.forall_mem_cons.mpr ⟨⟨b2, c2⟩, List.forall_mem_cons.mpr ⟨⟨b3, c3⟩, List.forall_mem_cons.mpr ⟨⟨b4, c4⟩, List.forall_mem_cons.mpr ⟨⟨b5, c5⟩, List.forall_mem_cons.mpr ⟨⟨b6, c6⟩, fun _ h => absurd h List.not_mem_nil⟩⟩⟩⟩⟩⟩⟩
    exact hall q (List.mem_of_getElem? hq)
  have hS3 : vk_S 3 [4, 2, 2] [[110, 111, 110, 101], [62, 61], [60, 61]] (fun i => dA (100 + i)) (fun i => dA (110 + i)) (fun q9 => s.heap.size ≤ q9) s s.heap := by
    have n01 : dA 100 ≠ dA 101 := fun h9 => by
      have e9 := st_OFv r0 (h9 ▸ r1)
      have e8 : dA 110 = dA 111 := Value.ref.inj e9
      exact absurd (st_Tn t0 (e8 ▸ t1) (by decide) (by decide)).1 (by decide)
    have n02 : dA 100 ≠ dA 102 := fun h9 => by
      have e9 := st_OFv r0 (h9 ▸ r2)
      have e8 : dA 110 = dA 112 := Value.ref.inj e9
      exact absurd (st_Tn t0 (e8 ▸ t2) (by decide) (by decide)).1 (by decide)
    have n12 : dA 101 ≠ dA 102 := fun h9 => by
      have e9 := st_OFv r1 (h9 ▸ r2)
      have e8 : dA 111 = dA 112 := Value.ref.inj e9
      have e7 := (st_Tn t1 (e8 ▸ t2) (by decide) (by decide)).2
      exact absurd (Value.int.inj e7) (by decide)
    refine ⟨fun i hi => ?_, fun i j hi hj he => ?_⟩
    · match i, hi with
      | 0, _ => exact ⟨o0, p0, r0, t0⟩
      | 1, _ => exact ⟨o1, p1, r1, t1⟩
      | 2, _ => exact ⟨o2, p2, r2, t2⟩
      | k + 3, h9 => exact absurd h9 (by omega)
    · match i, j, hi, hj, he with
      | 0, 0, _, _, _ => rfl
      | 1, 1, _, _, _ => rfl
      | 2, 2, _, _, _ => rfl
      | 0, 1, _, _, he => exact absurd he n01
      | 1, 0, _, _, he => exact absurd he.symm n01
      | 0, 2, _, _, he => exact absurd he n02
      | 2, 0, _, _, he => exact absurd he.symm n02
      | 1, 2, _, _, he => exact absurd he n12
      | 2, 1, _, _, he => exact absurd he.symm n12
      | k + 3, _, h9, _, _ => exact absurd h9 (by omega)
      | _, k + 3, _, h9, _ => exact absurd h9 (by omega)
  have hJX : jX dA (fun q9 => s.heap.size ≤ q9) s s.heap := by
    refine ⟨fun w hw => ?_, va_AO.of w3, va_AO.of w4, ?_, ?_, fun q9 hq => ?_, fun q9 hq => ?_, hS3, vk_R.of (hts _ (lw_atm (q := (5, 137)) (by decide +kernel))) y0, vk_R.of (hts _ (lw_atm (q := (7, 204)) (by decide +kernel))) y3, vk_R.of (hts _ (lw_atm (q := (5, 175)) (by decide +kernel))) y1, vk_R.of (hts _ (lw_atm (q := (5, 176)) (by decide +kernel))) y2, ?_, ⟨ZTens, TTens⟩, ⟨ZOnes, TOnes⟩, Zfm, ?_, hbl, hA _ hbl, hL⟩
    · obtain ⟨h1, h2⟩ := List.mem_filter.mp hw
      have h3 := hts0 w h1
      cases w <;> first | (cases h2; done) | exact va_Nw.of rfl h3
    · exact vx_Zqof (hts _ (lw_atm (q := (1, 194)) (by decide +kernel))) (hts _ (lw_atm (q := (1, 9)) (by decide +kernel))) (st_f hs (k := 5) (by decide +kernel)) hA
    · exact vx_Zqof (hts _ (lw_atm (q := (1, 196)) (by decide +kernel))) (hts _ (lw_atm (q := (1, 9)) (by decide +kernel))) (st_f hs (k := 6) (by decide +kernel)) hA
    · obtain ⟨h1, h2⟩ := st_ss q9 hq
      obtain ⟨a, -, -, -, q1, -⟩ := Cond.exactly_spec (hs _ h2)
      exact ⟨a, vk_R.of (hts _ h1) q1⟩
    · exact va_Nc.of (hs _ (st_nc q9 hq))
    · exact va_Zof (hts _ (lw_atm (q := (1, 90)) (by decide +kernel))) (hts _ (lw_atm (q := (1, 6)) (by decide +kernel))) (va_eqi (st_f hs (k := 4) (by decide +kernel))) hA
    · rw [hxs]; exact hX
  have hR : c.exceptionTable.toList = tableOf (c.exceptionTable.toList.map (fun x => (x.startPc, x.endPc, x.handlerPc, x.catchType))) := by
    rw [tableOf, List.map_map]
    exact (List.map_id _).symm
  have hl := lv_entry (([.retAddr 4] : List Value).map (jv dA (fun _ => 0))) (n := 9) (by show 1 ≤ 9; decide)
  have hE : entryFrame m ([Value.ref (dA 104)] : List Value).toArray 9 = F0 m 0 _ [] := lg_entry_eq m (([.retAddr 4] : List Value).map (jv dA (fun _ => 0))) 9
  rw [hE]
  generalize (lg_sl (([.retAddr 4] : List Value).map (jv dA (fun _ => 0))) ++ List.replicate (9 - (lg_sl (([.retAddr 4] : List Value).map (jv dA (fun _ => 0)))).length) Slot.unset).toArray = ls at hl ⊢
  have hl2 := jLs_entry (dA := dA) (av := [.retAddr 4]) (fun v hv => by rw [List.mem_singleton.mp hv]; rfl) hl
  have k := law_start l D dA hst (F := lF) (n0 := 0) (hh := c.exceptionTable.toList.map (fun x => (x.startPc, x.endPc, x.handlerPc, x.catchType))) (fr := 2048) (lo := 94400) (by decide) (by decide) hL (fun M lv => J_lret M lv) p e room_1 s m #[Value.ref (dA 104)] below meth c s.heap [] 0 0 603072 7182442 (fun q9 => s.heap.size ≤ q9) (fun _ => 0) (fun _ => 0) ls
    ⟨hx, hb, hml, hown, fun w hw => hts w (lw_all w hw), hlk, hR, (fun h9 => by cases h9), hr, Nat.le_refl _, Nat.le_refl _, Nat.le_refl _, Nat.le_refl _, fun q h9 => h9, hK, hJX, hst⟩ (fun k q h9 => by cases h9) ⟨(fun i j p9 q9 h9 => by cases h9), (fun k q h9 => by cases h9)⟩ va_S.rf hl2 ⟨jAg.rf, Nat.le_refl _, by decide, by decide, Or.inl rfl⟩
  intro T hT X
  obtain ⟨t, k1, k2⟩ := k T hT X
  exact ⟨t, k1, k2 ⟨Nat.le_refl _, Nat.le_refl _, fun q h9 => h9⟩⟩
