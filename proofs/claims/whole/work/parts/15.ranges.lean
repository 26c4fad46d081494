theorem jn_RS (M : jM) (t p : Nat) (lo hi : Int32) (b : Bool) : jn (jRS M t p lo hi b) = jn M := rfl
/-- a kind of a part, and the place behind it -/
def rKind (c : Nat → Int32) (L p : Nat) : Int32 × Nat :=
  if tIsAt c L p 60 then (if tIsAt c L (p + 1) 61 then (3, p + 1 + 1) else (2, p + 1))
  else if tIsAt c L p 62 then (if tIsAt c L (p + 1) 61 then (5, p + 1 + 1) else (4, p + 1))
  else if tIsAt c L p 61 then (1, p + 1)
  else if tIsAt c L p 94 then (6, p + 1)
  else if tIsAt c L p 126 then (7, p + 1)
  else (0, p)
theorem rKind_le {c : Nat → Int32} {L p : Nat} (h : p ≤ L) : (rKind c L p).2 ≤ L := by
  unfold rKind
  split
  · rename_i h1
    have := tIsAt_lt h1
    split
    · rename_i h2; exact tIsAt_lt h2
    · exact this
  · split
    · rename_i h1
      have := tIsAt_lt h1
      split
      · rename_i h2; exact tIsAt_lt h2
      · exact this
    · split
      · rename_i h2; exact tIsAt_lt h2
      · split
        · rename_i h2; exact tIsAt_lt h2
        · split
          · rename_i h2; exact tIsAt_lt h2
          · exact h
def rNb (kd x lo hi : Int32) : Int32 × Int32 :=
  if kd = 2 then (iMx lo 0, rMin hi (x - 1)) else if kd = 3 then (iMx lo 0, rMin hi x) else if kd = 4 then (iMx lo (x + 1), rMin hi 99999999)
  else if kd = 5 then (iMx lo x, rMin hi 99999999) else if kd = 6 then (iMx lo x, rMin hi (vCaret x)) else if kd = 7 then (iMx lo x, rMin hi (vTilde x)) else (iMx lo x, rMin hi x)
/-- what reading gives: whether it went well, the place, the bounds, whether a prerelease is 99 -/
abbrev rSt : Type := Bool × Nat × Int32 × Int32 × Bool
def rVe (c : Nat → Int32) (L : Nat) (kd start : Int32) (p : Nat) (lo hi : Int32) (b : Bool) : rSt :=
  if (tNum c L p).1 = -1 then (false, (tNum c L p).2, lo, hi, b)
  else if tIsAt c L (tNum c L p).2 45 then
    (if (tNum c L ((tNum c L p).2 + 1)).1 = -1 then (false, (tNum c L ((tNum c L p).2 + 1)).2, lo, hi, b)
    else (true, (tNum c L ((tNum c L p).2 + 1)).2, (rNb kd (start + (tNum c L p).1 * 100 + (tNum c L ((tNum c L p).2 + 1)).1) lo hi).1, (rNb kd (start + (tNum c L p).1 * 100 + (tNum c L ((tNum c L p).2 + 1)).1) lo hi).2, b || decide ((tNum c L ((tNum c L p).2 + 1)).1 = 99)))
  else (true, (tNum c L p).2, (rNb kd (start + (tNum c L p).1 * 100 + 99) lo hi).1, (rNb kd (start + (tNum c L p).1 * 100 + 99) lo hi).2, b)
theorem rVe_le {c : Nat → Int32} {L p : Nat} {kd start lo hi : Int32} {b : Bool} (h : p ≤ L) : (rVe c L kd start p lo hi b).2.1 ≤ L := by
  unfold rVe
  split
  · exact tNum_le h
  · split
    · rename_i h1
      have h2 := tIsAt_lt h1
      split
      · exact tNum_le h2
      · exact tNum_le h2
    · exact tNum_le h
theorem jb_or (a b : Bool) : jb (a || b) = if a then 1 else jb b := by cases a <;> rfl
theorem dX4_hasPrerelease99_0 : decode cX4_hasPrerelease99 0 = .ok (.aload_n 0, 1) := by decide +kernel
theorem dX4_hasPrerelease99_1 : decode cX4_hasPrerelease99 1 = .ok (.getfield 29, 3) := by decide +kernel
theorem dX4_hasPrerelease99_4 : decode cX4_hasPrerelease99 4 = .ok (.ireturn, 1) := by decide +kernel
set_option maxHeartbeats 2000000 in
set_option maxRecDepth 20000 in
theorem ct_X4_hasPrerelease99 (l : Launch) (D : va_G) (dA : Nat → ClassId) (hst : l.stackTraces = false) (M : jM) (t sg : Nat) (c : Nat → Int32) (L p : Nat) (lo hi : Int32) (b : Bool) (hR : jRr M t sg c L p lo hi b) : jCT l D dA yX4_hasPrerelease99 wsX4_hasPrerelease99 (20) (300) (0) (0) 1 [.ref (t)] M (jPo (oI (jb b)) (jRS M t p lo hi b)) := by
  refine jBody (cc := cX4_hasPrerelease99) (nL := 1) (rt := (some .boolean)) (ini := false) (by decide) rfl hst (Nat.le_of_ble_eq_true rfl) (by simp [Value.category]) (by intro h9; first | exact absurd h9 (by decide) | rfl) ?_
  show J l D dA RX4 cX4_hasPrerelease99 wsX4_hasPrerelease99 1 false (some .boolean) [] (20) (300) (jF D dA (jn M) (jPo (oI (jb b)) (jRS M t p lo hi b)) 1) (jn M) (0) (0) (M) 0 [.ref (t)] []
  obtain ⟨⟨f1, f2, f3, f4, f5, f6, f7, f8, f9, f10, f11, f12⟩, f13, f14, f15⟩ := id hR
  refine J_mem (M' := jRS M t p lo hi b) (by exact hR.self) ?_
  refine J_aload_n (t) dX4_hasPrerelease99_0 rfl rfl ?_
  refine J_geti (j := 6) dX4_hasPrerelease99_1 (fun _ h => List.mem_cons_of_mem _ (List.mem_append_right _ (h))) cs8 (by decide) rfl (List.mem_of_getElem? (i := 1) rfl) rfl f1 f2 ?_
  refine J_topi (y := jb (b)) ((hR.rs (q := p) (lo' := lo) (hi' := hi) (b' := b) f11).2.2.2) ?_
  exact J_iret (ty := .boolean) dX4_hasPrerelease99_4 rfl (jb_n _) ⟨(by rfl), (by rfl)⟩

theorem dX4_narrow_0 : decode cX4_narrow 0 = .ok (.aload_n 0, 1) := by decide +kernel
theorem dX4_narrow_1 : decode cX4_narrow 1 = .ok (.aload_n 0, 1) := by decide +kernel
theorem dX4_narrow_2 : decode cX4_narrow 2 = .ok (.getfield 21, 3) := by decide +kernel
theorem dX4_narrow_5 : decode cX4_narrow 5 = .ok (.iload_n 1, 1) := by decide +kernel
theorem dX4_narrow_6 : decode cX4_narrow 6 = .ok (.invokestatic 80, 3) := by decide +kernel
theorem dX4_narrow_9 : decode cX4_narrow 9 = .ok (.putfield 21, 3) := by decide +kernel
theorem dX4_narrow_12 : decode cX4_narrow 12 = .ok (.aload_n 0, 1) := by decide +kernel
theorem dX4_narrow_13 : decode cX4_narrow 13 = .ok (.aload_n 0, 1) := by decide +kernel
theorem dX4_narrow_14 : decode cX4_narrow 14 = .ok (.getfield 26, 3) := by decide +kernel
theorem dX4_narrow_17 : decode cX4_narrow 17 = .ok (.iload_n 2, 1) := by decide +kernel
theorem dX4_narrow_18 : decode cX4_narrow 18 = .ok (.invokestatic 86, 3) := by decide +kernel
theorem dX4_narrow_21 : decode cX4_narrow 21 = .ok (.putfield 26, 3) := by decide +kernel
theorem dX4_narrow_24 : decode cX4_narrow 24 = .ok (.return_, 1) := by decide +kernel
set_option maxHeartbeats 2000000 in
set_option maxRecDepth 20000 in
theorem ct_X4_narrow (l : Launch) (D : va_G) (dA : Nat → ClassId) (hst : l.stackTraces = false) (M : jM) (t sg : Nat) (c : Nat → Int32) (L p : Nat) (lo hi : Int32) (b : Bool) (hR : jRr M t sg c L p lo hi b) (x y : Int32) : jCT l D dA yX4_narrow wsX4_narrow (21) (360) (0) (0) 0 [.ref (t), .int (x), .int (y)] M (jPo (oV) (jRS M t p (iMx lo x) (rMin hi y) b)) := by
  refine jBody (cc := cX4_narrow) (nL := 3) (rt := none) (ini := false) (by decide) rfl hst (Nat.le_of_ble_eq_true rfl) (by simp [Value.category]) (by intro h9; first | exact absurd h9 (by decide) | rfl) ?_
  show J l D dA RX4 cX4_narrow wsX4_narrow 3 false none [] (21) (360) (jF D dA (jn M) (jPo (oV) (jRS M t p (iMx lo x) (rMin hi y) b)) 0) (jn M) (0) (0) (M) 0 [.ref (t), .int (x), .int (y)] []
  obtain ⟨⟨f1, f2, f3, f4, f5, f6, f7, f8, f9, f10, f11, f12⟩, f13, f14, f15⟩ := id hR
  refine J_mem (M' := jRS M t p lo hi b) (by exact hR.self) ?_
  refine J_aload_n (t) dX4_narrow_0 rfl rfl ?_
  refine J_aload_n (t) dX4_narrow_1 rfl rfl ?_
  refine J_geti (j := 4) dX4_narrow_2 (fun _ h => List.mem_cons_of_mem _ (List.mem_append_right _ (h))) cs8 (by decide) rfl (List.mem_of_getElem? (i := 1) rfl) rfl f1 f2 ?_
  refine J_topi (y := (lo)) ((hR.rs (q := p) (lo' := lo) (hi' := hi) (b' := b) f11).2.1) ?_
  refine J_iload_n dX4_narrow_5 rfl rfl ?_
  refine J_mmax dX4_narrow_6 (List.mem_of_getElem? (i := 2) rfl) (List.mem_of_getElem? (i := 3) rfl) (List.mem_of_getElem? (i := 4) rfl) (List.mem_of_getElem? (i := 5) rfl) (Nat.le_of_ble_eq_true rfl) (by omega) (by omega) ?_
  refine J_puti (j := 4) (x := (iMx ((lo)) ((x)))) dX4_narrow_9 (fun _ h => List.mem_cons_of_mem _ (List.mem_append_right _ (h))) cs8 cty8 (by decide) rfl (List.mem_of_getElem? (i := 1) rfl) rfl rfl ⟨rfl, rfl⟩ f1 f2 ?_
  refine J_mem (M' := jRS M t p (iMx lo x) hi b) (by exact jRS_4 _ _ _ _ _ _ _) ?_
  refine J_aload_n (t) dX4_narrow_12 rfl rfl ?_
  refine J_aload_n (t) dX4_narrow_13 rfl rfl ?_
  refine J_geti (j := 5) dX4_narrow_14 (fun _ h => List.mem_cons_of_mem _ (List.mem_append_right _ (h))) cs8 (by decide) rfl (List.mem_of_getElem? (i := 6) rfl) rfl f1 f2 ?_
  refine J_topi (y := (hi)) ((hR.rs (q := p) (lo' := iMx lo x) (hi' := hi) (b' := b) f11).2.2.1) ?_
  refine J_iload_n dX4_narrow_17 rfl rfl ?_
  refine J_mmin dX4_narrow_18 (List.mem_of_getElem? (i := 7) rfl) (List.mem_of_getElem? (i := 8) rfl) (List.mem_of_getElem? (i := 4) rfl) (List.mem_of_getElem? (i := 9) rfl) (Nat.le_of_ble_eq_true rfl) (by omega) (by omega) ?_
  refine J_puti (j := 5) (x := (rMin ((hi)) ((y)))) dX4_narrow_21 (fun _ h => List.mem_cons_of_mem _ (List.mem_append_right _ (h))) cs8 cty8 (by decide) rfl (List.mem_of_getElem? (i := 6) rfl) rfl rfl ⟨rfl, rfl⟩ f1 f2 ?_
  refine J_mem (M' := jRS M t p (iMx lo x) (rMin hi y) b) (by exact jRS_5 _ _ _ _ _ _ _) ?_
  exact J_vret dX4_narrow_24 rfl ⟨(by rfl), (by rfl)⟩

theorem dX4_narrowBy_0 : decode cX4_narrowBy 0 = .ok (.iload_n 1, 1) := by decide +kernel
theorem dX4_narrowBy_1 : decode cX4_narrowBy 1 = .ok (.tableswitch 105 2 7 #[39, 50, 59, 71, 81, 93], 39) := by decide +kernel
theorem dX4_narrowBy_40 : decode cX4_narrowBy 40 = .ok (.aload_n 0, 1) := by decide +kernel
theorem dX4_narrowBy_41 : decode cX4_narrowBy 41 = .ok (.iconst 0, 1) := by decide +kernel
theorem dX4_narrowBy_42 : decode cX4_narrowBy 42 = .ok (.iload_n 2, 1) := by decide +kernel
theorem dX4_narrowBy_43 : decode cX4_narrowBy 43 = .ok (.iconst 1, 1) := by decide +kernel
theorem dX4_narrowBy_44 : decode cX4_narrowBy 44 = .ok (.isub, 1) := by decide +kernel
theorem dX4_narrowBy_45 : decode cX4_narrowBy 45 = .ok (.invokevirtual 62, 3) := by decide +kernel
set_option maxRecDepth 20000 in
theorem ggX4_narrowBy_X4_narrow : GoodIn wsX4_narrowBy wsX4_narrow := goodIn_r _ [6, 7, 8, 9, 10, 11, 12, 13, 14, 15, 22, 23, 24, 25, 26, 27, 28] (by decide +kernel) (by decide +kernel)
set_option maxRecDepth 20000 in
theorem gX4_narrowBy_X4_narrow : GoodIn wsX4_narrowBy (wsV RX4 62 RX4 yX4_narrow wsX4_narrow) := goodIn_app (goodIn_of _ (by decide +kernel)) ggX4_narrowBy_X4_narrow
theorem yY_X4_narrow : jY yX4_narrow wsX4_narrow cX4_narrow 3 none 2 := ⟨⟨_, rfl⟩, by decide +kernel, by decide +kernel, by decide +kernel⟩
theorem dX4_narrowBy_48 : decode cX4_narrowBy 48 = .ok (.goto 64, 3) := by decide +kernel
theorem dX4_narrowBy_112 : decode cX4_narrowBy 112 = .ok (.return_, 1) := by decide +kernel
theorem dX4_narrowBy_51 : decode cX4_narrowBy 51 = .ok (.aload_n 0, 1) := by decide +kernel
theorem dX4_narrowBy_52 : decode cX4_narrowBy 52 = .ok (.iconst 0, 1) := by decide +kernel
theorem dX4_narrowBy_53 : decode cX4_narrowBy 53 = .ok (.iload_n 2, 1) := by decide +kernel
theorem dX4_narrowBy_54 : decode cX4_narrowBy 54 = .ok (.invokevirtual 62, 3) := by decide +kernel
theorem dX4_narrowBy_57 : decode cX4_narrowBy 57 = .ok (.goto 55, 3) := by decide +kernel
theorem dX4_narrowBy_60 : decode cX4_narrowBy 60 = .ok (.aload_n 0, 1) := by decide +kernel
theorem dX4_narrowBy_61 : decode cX4_narrowBy 61 = .ok (.iload_n 2, 1) := by decide +kernel
theorem dX4_narrowBy_62 : decode cX4_narrowBy 62 = .ok (.iconst 1, 1) := by decide +kernel
theorem dX4_narrowBy_63 : decode cX4_narrowBy 63 = .ok (.iadd, 1) := by decide +kernel
theorem dX4_narrowBy_64 : decode cX4_narrowBy 64 = .ok (.ldc 25, 2) := by decide +kernel
theorem dX4_narrowBy_66 : decode cX4_narrowBy 66 = .ok (.invokevirtual 62, 3) := by decide +kernel
theorem dX4_narrowBy_69 : decode cX4_narrowBy 69 = .ok (.goto 43, 3) := by decide +kernel
theorem dX4_narrowBy_72 : decode cX4_narrowBy 72 = .ok (.aload_n 0, 1) := by decide +kernel
theorem dX4_narrowBy_73 : decode cX4_narrowBy 73 = .ok (.iload_n 2, 1) := by decide +kernel
theorem dX4_narrowBy_74 : decode cX4_narrowBy 74 = .ok (.ldc 25, 2) := by decide +kernel
theorem dX4_narrowBy_76 : decode cX4_narrowBy 76 = .ok (.invokevirtual 62, 3) := by decide +kernel
theorem dX4_narrowBy_79 : decode cX4_narrowBy 79 = .ok (.goto 33, 3) := by decide +kernel
theorem dX4_narrowBy_82 : decode cX4_narrowBy 82 = .ok (.aload_n 0, 1) := by decide +kernel
theorem dX4_narrowBy_83 : decode cX4_narrowBy 83 = .ok (.iload_n 2, 1) := by decide +kernel
theorem dX4_narrowBy_84 : decode cX4_narrowBy 84 = .ok (.iload_n 2, 1) := by decide +kernel
theorem dX4_narrowBy_85 : decode cX4_narrowBy 85 = .ok (.invokestatic 73, 3) := by decide +kernel
set_option maxRecDepth 20000 in
theorem ggX4_narrowBy_X7_lastOfCaret : GoodIn wsX4_narrowBy wsX7_lastOfCaret := goodIn_r _ [18, 19] (by decide +kernel) (by decide +kernel)
set_option maxRecDepth 20000 in
theorem gX4_narrowBy_X7_lastOfCaret_n73 : GoodIn wsX4_narrowBy (wsX7_lastOfCaret) := ggX4_narrowBy_X7_lastOfCaret
theorem yY_X7_lastOfCaret : jY yX7_lastOfCaret wsX7_lastOfCaret cX7_lastOfCaret 1 (some .int) 1 := ⟨⟨_, rfl⟩, by decide +kernel, by decide +kernel, by decide +kernel⟩
theorem jnw_X4_narrowBy_73 : Cond.methodLinkNest RX4 73 yX7_lastOfCaret "VersionAlgebra" ∈ jNws := List.mem_filter.mpr ⟨by decide +kernel, rfl⟩
theorem dX4_narrowBy_88 : decode cX4_narrowBy 88 = .ok (.invokevirtual 62, 3) := by decide +kernel
theorem dX4_narrowBy_91 : decode cX4_narrowBy 91 = .ok (.goto 21, 3) := by decide +kernel
theorem dX4_narrowBy_94 : decode cX4_narrowBy 94 = .ok (.aload_n 0, 1) := by decide +kernel
theorem dX4_narrowBy_95 : decode cX4_narrowBy 95 = .ok (.iload_n 2, 1) := by decide +kernel
theorem dX4_narrowBy_96 : decode cX4_narrowBy 96 = .ok (.iload_n 2, 1) := by decide +kernel
theorem dX4_narrowBy_97 : decode cX4_narrowBy 97 = .ok (.invokestatic 77, 3) := by decide +kernel
set_option maxRecDepth 20000 in
theorem ggX4_narrowBy_X7_lastOfTilde : GoodIn wsX4_narrowBy wsX7_lastOfTilde := goodIn_r _ [21] (by decide +kernel) (by decide +kernel)
set_option maxRecDepth 20000 in
theorem gX4_narrowBy_X7_lastOfTilde_n77 : GoodIn wsX4_narrowBy (wsX7_lastOfTilde) := ggX4_narrowBy_X7_lastOfTilde
theorem yY_X7_lastOfTilde : jY yX7_lastOfTilde wsX7_lastOfTilde cX7_lastOfTilde 1 (some .int) 1 := ⟨⟨_, rfl⟩, by decide +kernel, by decide +kernel, by decide +kernel⟩
theorem jnw_X4_narrowBy_77 : Cond.methodLinkNest RX4 77 yX7_lastOfTilde "VersionAlgebra" ∈ jNws := List.mem_filter.mpr ⟨by decide +kernel, rfl⟩
theorem dX4_narrowBy_100 : decode cX4_narrowBy 100 = .ok (.invokevirtual 62, 3) := by decide +kernel
theorem dX4_narrowBy_103 : decode cX4_narrowBy 103 = .ok (.goto 9, 3) := by decide +kernel
theorem dX4_narrowBy_106 : decode cX4_narrowBy 106 = .ok (.aload_n 0, 1) := by decide +kernel
theorem dX4_narrowBy_107 : decode cX4_narrowBy 107 = .ok (.iload_n 2, 1) := by decide +kernel
theorem dX4_narrowBy_108 : decode cX4_narrowBy 108 = .ok (.iload_n 2, 1) := by decide +kernel
theorem dX4_narrowBy_109 : decode cX4_narrowBy 109 = .ok (.invokevirtual 62, 3) := by decide +kernel
set_option maxHeartbeats 2000000 in
set_option maxRecDepth 20000 in
theorem ct_X4_narrowBy (l : Launch) (D : va_G) (dA : Nat → ClassId) (hst : l.stackTraces = false) (M : jM) (t sg : Nat) (c : Nat → Int32) (L p : Nat) (lo hi : Int32) (b : Bool) (hR : jRr M t sg c L p lo hi b) (kd x : Int32) : jCT l D dA yX4_narrowBy wsX4_narrowBy (22) (420) (0) (0) 0 [.ref (t), .int (kd), .int (x)] M (jPo (oV) (jRS M t p (rNb kd x lo hi).1 (rNb kd x lo hi).2 b)) := by
  refine jBody (cc := cX4_narrowBy) (nL := 3) (rt := none) (ini := false) (by decide) rfl hst (Nat.le_of_ble_eq_true rfl) (by simp [Value.category]) (by intro h9; first | exact absurd h9 (by decide) | rfl) ?_
  show J l D dA RX4 cX4_narrowBy wsX4_narrowBy 3 false none [] (22) (420) (jF D dA (jn M) (jPo (oV) (jRS M t p (rNb kd x lo hi).1 (rNb kd x lo hi).2 b)) 0) (jn M) (0) (0) (M) 0 [.ref (t), .int (kd), .int (x)] []
  obtain ⟨⟨f1, f2, f3, f4, f5, f6, f7, f8, f9, f10, f11, f12⟩, f13, f14, f15⟩ := id hR
  refine J_mem (M' := jRS M t p lo hi b) (by exact hR.self) ?_
  refine J_iload_n dX4_narrowBy_0 rfl rfl ?_
  by_cases s1_2 : ((kd)) = 2
  · refine J_tableIn (off := 39) (tgt := 40) dX4_narrowBy_1 (by rw [s1_2]; decide) (by rw [s1_2]; decide) (by rw [s1_2]; rfl) (by decide) ?_
    refine J_aload_n (t) dX4_narrowBy_40 rfl rfl ?_
    refine J_iconst (x := 0) dX4_narrowBy_41 (by decide) ?_
    refine J_iload_n dX4_narrowBy_42 rfl rfl ?_
    refine J_iconst (x := 1) dX4_narrowBy_43 (by decide) ?_
    refine J_isub dX4_narrowBy_44 ?_
    refine J_callv0 (jrunV (As := [.int (0), .int ((x) - (1))]) (ct_X4_narrow l D dA hst (jRS M t p lo hi b) t sg c L p lo hi b (hR.rs (q := p) (lo' := lo) (hi' := hi) (b' := b) f11) ((0)) (((x) - (1)))) dX4_narrowBy_45 yY_X4_narrow gX4_narrowBy_X4_narrow rfl cs8 f1 f2 rfl ⟨by omega, by omega⟩ ⟨Nat.zero_le _, Nat.zero_le _⟩ rfl (Nat.le_of_ble_eq_true rfl)) (rfl) (jn_RS _ _ _ _ _ _) ?_
    refine J_mem (M' := jRS M t p (iMx lo ((0))) (rMin hi (((x) - (1)))) b) (by exact jRS_RS _ _ _ _ _ _ _ _ _ _) ?_
    refine J_goto (tgt := 112) dX4_narrowBy_48 (by decide) ?_
    exact J_vret dX4_narrowBy_112 rfl ⟨(by rfl), (by first | (simp only [rNb, *, reduceIte]; done) | (simp [rNb, *]; done) | fail "n")⟩
  by_cases s1_3 : ((kd)) = 3
  · refine J_tableIn (off := 50) (tgt := 51) dX4_narrowBy_1 (by rw [s1_3]; decide) (by rw [s1_3]; decide) (by rw [s1_3]; rfl) (by decide) ?_
    refine J_aload_n (t) dX4_narrowBy_51 rfl rfl ?_
    refine J_iconst (x := 0) dX4_narrowBy_52 (by decide) ?_
    refine J_iload_n dX4_narrowBy_53 rfl rfl ?_
    refine J_callv0 (jrunV (As := [.int (0), .int (x)]) (ct_X4_narrow l D dA hst (jRS M t p lo hi b) t sg c L p lo hi b (hR.rs (q := p) (lo' := lo) (hi' := hi) (b' := b) f11) ((0)) ((x))) dX4_narrowBy_54 yY_X4_narrow gX4_narrowBy_X4_narrow rfl cs8 f1 f2 rfl ⟨by omega, by omega⟩ ⟨Nat.zero_le _, Nat.zero_le _⟩ rfl (Nat.le_of_ble_eq_true rfl)) (rfl) (jn_RS _ _ _ _ _ _) ?_
    refine J_mem (M' := jRS M t p (iMx lo ((0))) (rMin hi ((x))) b) (by exact jRS_RS _ _ _ _ _ _ _ _ _ _) ?_
    refine J_goto (tgt := 112) dX4_narrowBy_57 (by decide) ?_
    exact J_vret dX4_narrowBy_112 rfl ⟨(by rfl), (by first | (simp only [rNb, *, reduceIte]; done) | (simp [rNb, *]; done) | fail "n")⟩
  by_cases s1_4 : ((kd)) = 4
  · refine J_tableIn (off := 59) (tgt := 60) dX4_narrowBy_1 (by rw [s1_4]; decide) (by rw [s1_4]; decide) (by rw [s1_4]; rfl) (by decide) ?_
    refine J_aload_n (t) dX4_narrowBy_60 rfl rfl ?_
    refine J_iload_n dX4_narrowBy_61 rfl rfl ?_
    refine J_iconst (x := 1) dX4_narrowBy_62 (by decide) ?_
    refine J_iadd dX4_narrowBy_63 ?_
    refine J_ldc (x := 99999999) dX4_narrowBy_64 (List.mem_of_getElem? (i := 1) rfl) ?_
    refine J_callv0 (jrunV (As := [.int ((x) + (1)), .int (99999999)]) (ct_X4_narrow l D dA hst (jRS M t p lo hi b) t sg c L p lo hi b (hR.rs (q := p) (lo' := lo) (hi' := hi) (b' := b) f11) (((x) + (1))) ((99999999))) dX4_narrowBy_66 yY_X4_narrow gX4_narrowBy_X4_narrow rfl cs8 f1 f2 rfl ⟨by omega, by omega⟩ ⟨Nat.zero_le _, Nat.zero_le _⟩ rfl (Nat.le_of_ble_eq_true rfl)) (rfl) (jn_RS _ _ _ _ _ _) ?_
    refine J_mem (M' := jRS M t p (iMx lo (((x) + (1)))) (rMin hi ((99999999))) b) (by exact jRS_RS _ _ _ _ _ _ _ _ _ _) ?_
    refine J_goto (tgt := 112) dX4_narrowBy_69 (by decide) ?_
    exact J_vret dX4_narrowBy_112 rfl ⟨(by rfl), (by first | (simp only [rNb, *, reduceIte]; done) | (simp [rNb, *]; done) | fail "n")⟩
  by_cases s1_5 : ((kd)) = 5
  · refine J_tableIn (off := 71) (tgt := 72) dX4_narrowBy_1 (by rw [s1_5]; decide) (by rw [s1_5]; decide) (by rw [s1_5]; rfl) (by decide) ?_
    refine J_aload_n (t) dX4_narrowBy_72 rfl rfl ?_
    refine J_iload_n dX4_narrowBy_73 rfl rfl ?_
    refine J_ldc (x := 99999999) dX4_narrowBy_74 (List.mem_of_getElem? (i := 1) rfl) ?_
    refine J_callv0 (jrunV (As := [.int (x), .int (99999999)]) (ct_X4_narrow l D dA hst (jRS M t p lo hi b) t sg c L p lo hi b (hR.rs (q := p) (lo' := lo) (hi' := hi) (b' := b) f11) ((x)) ((99999999))) dX4_narrowBy_76 yY_X4_narrow gX4_narrowBy_X4_narrow rfl cs8 f1 f2 rfl ⟨by omega, by omega⟩ ⟨Nat.zero_le _, Nat.zero_le _⟩ rfl (Nat.le_of_ble_eq_true rfl)) (rfl) (jn_RS _ _ _ _ _ _) ?_
    refine J_mem (M' := jRS M t p (iMx lo ((x))) (rMin hi ((99999999))) b) (by exact jRS_RS _ _ _ _ _ _ _ _ _ _) ?_
    refine J_goto (tgt := 112) dX4_narrowBy_79 (by decide) ?_
    exact J_vret dX4_narrowBy_112 rfl ⟨(by rfl), (by first | (simp only [rNb, *, reduceIte]; done) | (simp [rNb, *]; done) | fail "n")⟩
  by_cases s1_6 : ((kd)) = 6
  · refine J_tableIn (off := 81) (tgt := 82) dX4_narrowBy_1 (by rw [s1_6]; decide) (by rw [s1_6]; decide) (by rw [s1_6]; rfl) (by decide) ?_
    refine J_aload_n (t) dX4_narrowBy_82 rfl rfl ?_
    refine J_iload_n dX4_narrowBy_83 rfl rfl ?_
    refine J_iload_n dX4_narrowBy_84 rfl rfl ?_
    refine J_calli0 (jrunSN (As := [.int (x)]) (ct_X7_lastOfCaret l D dA hst (jRS M t p lo hi b) ((x))) dX4_narrowBy_85 yY_X7_lastOfCaret gX4_narrowBy_X7_lastOfCaret_n73 (List.mem_of_getElem? (i := 17) rfl) jnw_X4_narrowBy_73 (List.mem_of_getElem? (i := 16) rfl) rfl ⟨by omega, by omega⟩ ⟨Nat.zero_le _, Nat.zero_le _⟩ rfl (Nat.le_of_ble_eq_true rfl)) (rfl) (rfl) ?_
    refine J_callv0 (jrunV (As := [.int (x), .int (vCaret ((x)))]) (ct_X4_narrow l D dA hst (jRS M t p lo hi b) t sg c L p lo hi b (hR.rs (q := p) (lo' := lo) (hi' := hi) (b' := b) f11) ((x)) ((vCaret ((x))))) dX4_narrowBy_88 yY_X4_narrow gX4_narrowBy_X4_narrow rfl cs8 f1 f2 rfl ⟨by omega, by omega⟩ ⟨Nat.zero_le _, Nat.zero_le _⟩ rfl (Nat.le_of_ble_eq_true rfl)) (rfl) (jn_RS _ _ _ _ _ _) ?_
    refine J_mem (M' := jRS M t p (iMx lo ((x))) (rMin hi ((vCaret ((x))))) b) (by exact jRS_RS _ _ _ _ _ _ _ _ _ _) ?_
    refine J_goto (tgt := 112) dX4_narrowBy_91 (by decide) ?_
    exact J_vret dX4_narrowBy_112 rfl ⟨(by rfl), (by first | (simp only [rNb, *, reduceIte]; done) | (simp [rNb, *]; done) | fail "n")⟩
  by_cases s1_7 : ((kd)) = 7
  · refine J_tableIn (off := 93) (tgt := 94) dX4_narrowBy_1 (by rw [s1_7]; decide) (by rw [s1_7]; decide) (by rw [s1_7]; rfl) (by decide) ?_
    refine J_aload_n (t) dX4_narrowBy_94 rfl rfl ?_
    refine J_iload_n dX4_narrowBy_95 rfl rfl ?_
    refine J_iload_n dX4_narrowBy_96 rfl rfl ?_
    refine J_calli0 (jrunSN (As := [.int (x)]) (ct_X7_lastOfTilde l D dA hst (jRS M t p lo hi b) ((x))) dX4_narrowBy_97 yY_X7_lastOfTilde gX4_narrowBy_X7_lastOfTilde_n77 (List.mem_of_getElem? (i := 17) rfl) jnw_X4_narrowBy_77 (List.mem_of_getElem? (i := 20) rfl) rfl ⟨by omega, by omega⟩ ⟨Nat.zero_le _, Nat.zero_le _⟩ rfl (Nat.le_of_ble_eq_true rfl)) (rfl) (rfl) ?_
    refine J_callv0 (jrunV (As := [.int (x), .int (vTilde ((x)))]) (ct_X4_narrow l D dA hst (jRS M t p lo hi b) t sg c L p lo hi b (hR.rs (q := p) (lo' := lo) (hi' := hi) (b' := b) f11) ((x)) ((vTilde ((x))))) dX4_narrowBy_100 yY_X4_narrow gX4_narrowBy_X4_narrow rfl cs8 f1 f2 rfl ⟨by omega, by omega⟩ ⟨Nat.zero_le _, Nat.zero_le _⟩ rfl (Nat.le_of_ble_eq_true rfl)) (rfl) (jn_RS _ _ _ _ _ _) ?_
    refine J_mem (M' := jRS M t p (iMx lo ((x))) (rMin hi ((vTilde ((x))))) b) (by exact jRS_RS _ _ _ _ _ _ _ _ _ _) ?_
    refine J_goto (tgt := 112) dX4_narrowBy_103 (by decide) ?_
    exact J_vret dX4_narrowBy_112 rfl ⟨(by rfl), (by first | (simp only [rNb, *, reduceIte]; done) | (simp [rNb, *]; done) | fail "n")⟩
  refine J_tableOut (tgt := 106) dX4_narrowBy_1 (by have : (((kd))).toInt ≠ 2 := fun h9 => s1_2 (Int32.toInt_inj.mp (h9.trans (show (2 : Int) = (2 : Int32).toInt by decide))); have : (((kd))).toInt ≠ 3 := fun h9 => s1_3 (Int32.toInt_inj.mp (h9.trans (show (3 : Int) = (3 : Int32).toInt by decide))); have : (((kd))).toInt ≠ 4 := fun h9 => s1_4 (Int32.toInt_inj.mp (h9.trans (show (4 : Int) = (4 : Int32).toInt by decide))); have : (((kd))).toInt ≠ 5 := fun h9 => s1_5 (Int32.toInt_inj.mp (h9.trans (show (5 : Int) = (5 : Int32).toInt by decide))); have : (((kd))).toInt ≠ 6 := fun h9 => s1_6 (Int32.toInt_inj.mp (h9.trans (show (6 : Int) = (6 : Int32).toInt by decide))); have : (((kd))).toInt ≠ 7 := fun h9 => s1_7 (Int32.toInt_inj.mp (h9.trans (show (7 : Int) = (7 : Int32).toInt by decide))); omega) (by decide) ?_
  refine J_aload_n (t) dX4_narrowBy_106 rfl rfl ?_
  refine J_iload_n dX4_narrowBy_107 rfl rfl ?_
  refine J_iload_n dX4_narrowBy_108 rfl rfl ?_
  refine J_callv0 (jrunV (As := [.int (x), .int (x)]) (ct_X4_narrow l D dA hst (jRS M t p lo hi b) t sg c L p lo hi b (hR.rs (q := p) (lo' := lo) (hi' := hi) (b' := b) f11) ((x)) ((x))) dX4_narrowBy_109 yY_X4_narrow gX4_narrowBy_X4_narrow rfl cs8 f1 f2 rfl ⟨by omega, by omega⟩ ⟨Nat.zero_le _, Nat.zero_le _⟩ rfl (Nat.le_of_ble_eq_true rfl)) (rfl) (jn_RS _ _ _ _ _ _) ?_
  refine J_mem (M' := jRS M t p (iMx lo ((x))) (rMin hi ((x))) b) (by exact jRS_RS _ _ _ _ _ _ _ _ _ _) ?_
  exact J_vret dX4_narrowBy_112 rfl ⟨(by rfl), (by first | (simp only [rNb, *, reduceIte]; done) | (simp [rNb, *]; done) | fail "n")⟩

theorem dX4_takeKind_0 : decode cX4_takeKind 0 = .ok (.aload_n 0, 1) := by decide +kernel
theorem dX4_takeKind_1 : decode cX4_takeKind 1 = .ok (.bipush 60, 2) := by decide +kernel
theorem dX4_takeKind_3 : decode cX4_takeKind 3 = .ok (.invokevirtual 45, 3) := by decide +kernel
set_option maxRecDepth 20000 in
theorem ggX4_takeKind_X6_takes : GoodIn wsX4_takeKind wsX6_takes := goodIn_ca (goodIn_r _ [6, 7, 8, 9, 10, 11, 5, 12, 13, 14, 15, 16, 17, 18, 19, 20, 21, 22, 23, 24, 25, 26, 27, 28, 29, 30, 31, 32] (by decide +kernel) (by decide +kernel)) (goodIn_sub (fun _ h => List.mem_cons_of_mem _ (List.mem_append_right _ h)) (by decide +kernel))
set_option maxRecDepth 20000 in
theorem gX4_takeKind_X6_takes_u45X4 : GoodIn wsX4_takeKind (va_wsU RX4 45 RX4 "VersionAlgebra$TextReader" ⟨"VersionAlgebra$RangeReader", "takes", "(C)Z"⟩ yX6_takes wsX6_takes) := goodIn_app (goodIn_of _ (by decide +kernel)) ggX4_takeKind_X6_takes
theorem yY_X6_takes : jY yX6_takes wsX6_takes cX6_takes 2 (some .boolean) 1 := ⟨⟨_, rfl⟩, by decide +kernel, by decide +kernel, by decide +kernel⟩
theorem dX4_takeKind_6 : decode cX4_takeKind 6 = .ok (.ifCond .eq 18, 3) := by decide +kernel
theorem dX4_takeKind_24 : decode cX4_takeKind 24 = .ok (.aload_n 0, 1) := by decide +kernel
theorem dX4_takeKind_25 : decode cX4_takeKind 25 = .ok (.bipush 62, 2) := by decide +kernel
theorem dX4_takeKind_27 : decode cX4_takeKind 27 = .ok (.invokevirtual 45, 3) := by decide +kernel
theorem dX4_takeKind_30 : decode cX4_takeKind 30 = .ok (.ifCond .eq 18, 3) := by decide +kernel
theorem dX4_takeKind_48 : decode cX4_takeKind 48 = .ok (.aload_n 0, 1) := by decide +kernel
theorem dX4_takeKind_49 : decode cX4_takeKind 49 = .ok (.bipush 61, 2) := by decide +kernel
theorem dX4_takeKind_51 : decode cX4_takeKind 51 = .ok (.invokevirtual 45, 3) := by decide +kernel
theorem dX4_takeKind_54 : decode cX4_takeKind 54 = .ok (.ifCond .eq 5, 3) := by decide +kernel
theorem dX4_takeKind_59 : decode cX4_takeKind 59 = .ok (.aload_n 0, 1) := by decide +kernel
theorem dX4_takeKind_60 : decode cX4_takeKind 60 = .ok (.bipush 94, 2) := by decide +kernel
theorem dX4_takeKind_62 : decode cX4_takeKind 62 = .ok (.invokevirtual 45, 3) := by decide +kernel
theorem dX4_takeKind_65 : decode cX4_takeKind 65 = .ok (.ifCond .eq 6, 3) := by decide +kernel
theorem dX4_takeKind_71 : decode cX4_takeKind 71 = .ok (.aload_n 0, 1) := by decide +kernel
theorem dX4_takeKind_72 : decode cX4_takeKind 72 = .ok (.bipush 126, 2) := by decide +kernel
theorem dX4_takeKind_74 : decode cX4_takeKind 74 = .ok (.invokevirtual 45, 3) := by decide +kernel
theorem dX4_takeKind_77 : decode cX4_takeKind 77 = .ok (.ifCond .eq 8, 3) := by decide +kernel
theorem dX4_takeKind_85 : decode cX4_takeKind 85 = .ok (.iconst 0, 1) := by decide +kernel
theorem dX4_takeKind_86 : decode cX4_takeKind 86 = .ok (.ireturn, 1) := by decide +kernel
theorem dX4_takeKind_80 : decode cX4_takeKind 80 = .ok (.bipush 7, 2) := by decide +kernel
theorem dX4_takeKind_82 : decode cX4_takeKind 82 = .ok (.goto 4, 3) := by decide +kernel
theorem dX4_takeKind_68 : decode cX4_takeKind 68 = .ok (.bipush 6, 2) := by decide +kernel
theorem dX4_takeKind_70 : decode cX4_takeKind 70 = .ok (.ireturn, 1) := by decide +kernel
theorem dX4_takeKind_57 : decode cX4_takeKind 57 = .ok (.iconst 1, 1) := by decide +kernel
theorem dX4_takeKind_58 : decode cX4_takeKind 58 = .ok (.ireturn, 1) := by decide +kernel
theorem dX4_takeKind_33 : decode cX4_takeKind 33 = .ok (.aload_n 0, 1) := by decide +kernel
theorem dX4_takeKind_34 : decode cX4_takeKind 34 = .ok (.bipush 61, 2) := by decide +kernel
theorem dX4_takeKind_36 : decode cX4_takeKind 36 = .ok (.invokevirtual 45, 3) := by decide +kernel
theorem dX4_takeKind_39 : decode cX4_takeKind 39 = .ok (.ifCond .eq 7, 3) := by decide +kernel
theorem dX4_takeKind_46 : decode cX4_takeKind 46 = .ok (.iconst 4, 1) := by decide +kernel
theorem dX4_takeKind_47 : decode cX4_takeKind 47 = .ok (.ireturn, 1) := by decide +kernel
theorem dX4_takeKind_42 : decode cX4_takeKind 42 = .ok (.iconst 5, 1) := by decide +kernel
theorem dX4_takeKind_43 : decode cX4_takeKind 43 = .ok (.goto 4, 3) := by decide +kernel
theorem dX4_takeKind_9 : decode cX4_takeKind 9 = .ok (.aload_n 0, 1) := by decide +kernel
theorem dX4_takeKind_10 : decode cX4_takeKind 10 = .ok (.bipush 61, 2) := by decide +kernel
theorem dX4_takeKind_12 : decode cX4_takeKind 12 = .ok (.invokevirtual 45, 3) := by decide +kernel
theorem dX4_takeKind_15 : decode cX4_takeKind 15 = .ok (.ifCond .eq 7, 3) := by decide +kernel
theorem dX4_takeKind_22 : decode cX4_takeKind 22 = .ok (.iconst 2, 1) := by decide +kernel
theorem dX4_takeKind_23 : decode cX4_takeKind 23 = .ok (.ireturn, 1) := by decide +kernel
theorem dX4_takeKind_18 : decode cX4_takeKind 18 = .ok (.iconst 3, 1) := by decide +kernel
theorem dX4_takeKind_19 : decode cX4_takeKind 19 = .ok (.goto 4, 3) := by decide +kernel
set_option maxHeartbeats 2000000 in
set_option maxRecDepth 20000 in
theorem ct_X4_takeKind (l : Launch) (D : va_G) (dA : Nat → ClassId) (hst : l.stackTraces = false) (M : jM) (t sg : Nat) (c : Nat → Int32) (L p : Nat) (lo hi : Int32) (b : Bool) (hR : jRr M t sg c L p lo hi b) : jCT l D dA yX4_takeKind wsX4_takeKind (22) (420) (0) (0) 1 [.ref (t)] M (jPo (oI (rKind c L p).1) (jRS M t (rKind c L p).2 lo hi b)) := by
  refine jBody (cc := cX4_takeKind) (nL := 1) (rt := (some .int)) (ini := false) (by decide) rfl hst (Nat.le_of_ble_eq_true rfl) (by simp [Value.category]) (by intro h9; first | exact absurd h9 (by decide) | rfl) ?_
  show J l D dA RX4 cX4_takeKind wsX4_takeKind 1 false (some .int) [] (22) (420) (jF D dA (jn M) (jPo (oI (rKind c L p).1) (jRS M t (rKind c L p).2 lo hi b)) 1) (jn M) (0) (0) (M) 0 [.ref (t)] []
  obtain ⟨⟨f1, f2, f3, f4, f5, f6, f7, f8, f9, f10, f11, f12⟩, f13, f14, f15⟩ := id hR
  refine J_mem (M' := jRS M t p lo hi b) (by exact hR.self) ?_
  refine J_aload_n (t) dX4_takeKind_0 rfl rfl ?_
  refine J_bipush (x := 60) dX4_takeKind_1 (by decide) ?_
  refine J_calli0 (jrunU (As := [.int (60)]) (ct_X6_takes_8 l D dA hst (jRS M t p lo hi b) t sg c L p ((hR.rs (q := p) (lo' := lo) (hi' := hi) (b' := b) f11).1) ((60))) dX4_takeKind_3 yY_X6_takes gX4_takeKind_X6_takes_u45X4 rfl cs8 f1 f2 rfl ⟨by omega, by omega⟩ ⟨Nat.zero_le _, Nat.zero_le _⟩ rfl (Nat.le_of_ble_eq_true rfl)) (rfl) (rfl) ?_
  refine J_mem (M' := jRS M t (tTk c L p ((60))) lo hi b) (by exact jRS_2 _ _ _ _ _ _ _) ?_
  refine J_if_eq dX4_takeKind_6 (tgt := 24) (by decide) (fun c6 => ?_) (fun c6 => ?_)
  · have c6 := jb0T c6
    refine J_mem (M' := jRS M t p lo hi b) (by rw [tTk_f c6]) ?_
    refine J_aload_n (t) dX4_takeKind_24 rfl rfl ?_
    refine J_bipush (x := 62) dX4_takeKind_25 (by decide) ?_
    refine J_calli0 (jrunU (As := [.int (62)]) (ct_X6_takes_8 l D dA hst (jRS M t p lo hi b) t sg c L p ((hR.rs (q := p) (lo' := lo) (hi' := hi) (b' := b) f11).1) ((62))) dX4_takeKind_27 yY_X6_takes gX4_takeKind_X6_takes_u45X4 rfl cs8 f1 f2 rfl ⟨by omega, by omega⟩ ⟨Nat.zero_le _, Nat.zero_le _⟩ rfl (Nat.le_of_ble_eq_true rfl)) (rfl) (rfl) ?_
    refine J_mem (M' := jRS M t (tTk c L p ((62))) lo hi b) (by exact jRS_2 _ _ _ _ _ _ _) ?_
    refine J_if_eq dX4_takeKind_30 (tgt := 48) (by decide) (fun c30 => ?_) (fun c30 => ?_)
    · have c30 := jb0T c30
      refine J_mem (M' := jRS M t p lo hi b) (by rw [tTk_f c30]) ?_
      refine J_aload_n (t) dX4_takeKind_48 rfl rfl ?_
      refine J_bipush (x := 61) dX4_takeKind_49 (by decide) ?_
      refine J_calli0 (jrunU (As := [.int (61)]) (ct_X6_takes_8 l D dA hst (jRS M t p lo hi b) t sg c L p ((hR.rs (q := p) (lo' := lo) (hi' := hi) (b' := b) f11).1) ((61))) dX4_takeKind_51 yY_X6_takes gX4_takeKind_X6_takes_u45X4 rfl cs8 f1 f2 rfl ⟨by omega, by omega⟩ ⟨Nat.zero_le _, Nat.zero_le _⟩ rfl (Nat.le_of_ble_eq_true rfl)) (rfl) (rfl) ?_
      refine J_mem (M' := jRS M t (tTk c L p ((61))) lo hi b) (by exact jRS_2 _ _ _ _ _ _ _) ?_
      refine J_if_eq dX4_takeKind_54 (tgt := 59) (by decide) (fun c54 => ?_) (fun c54 => ?_)
      · have c54 := jb0T c54
        refine J_mem (M' := jRS M t p lo hi b) (by rw [tTk_f c54]) ?_
        refine J_aload_n (t) dX4_takeKind_59 rfl rfl ?_
        refine J_bipush (x := 94) dX4_takeKind_60 (by decide) ?_
        refine J_calli0 (jrunU (As := [.int (94)]) (ct_X6_takes_8 l D dA hst (jRS M t p lo hi b) t sg c L p ((hR.rs (q := p) (lo' := lo) (hi' := hi) (b' := b) f11).1) ((94))) dX4_takeKind_62 yY_X6_takes gX4_takeKind_X6_takes_u45X4 rfl cs8 f1 f2 rfl ⟨by omega, by omega⟩ ⟨Nat.zero_le _, Nat.zero_le _⟩ rfl (Nat.le_of_ble_eq_true rfl)) (rfl) (rfl) ?_
        refine J_mem (M' := jRS M t (tTk c L p ((94))) lo hi b) (by exact jRS_2 _ _ _ _ _ _ _) ?_
        refine J_if_eq dX4_takeKind_65 (tgt := 71) (by decide) (fun c65 => ?_) (fun c65 => ?_)
        · have c65 := jb0T c65
          refine J_mem (M' := jRS M t p lo hi b) (by rw [tTk_f c65]) ?_
          refine J_aload_n (t) dX4_takeKind_71 rfl rfl ?_
          refine J_bipush (x := 126) dX4_takeKind_72 (by decide) ?_
          refine J_calli0 (jrunU (As := [.int (126)]) (ct_X6_takes_8 l D dA hst (jRS M t p lo hi b) t sg c L p ((hR.rs (q := p) (lo' := lo) (hi' := hi) (b' := b) f11).1) ((126))) dX4_takeKind_74 yY_X6_takes gX4_takeKind_X6_takes_u45X4 rfl cs8 f1 f2 rfl ⟨by omega, by omega⟩ ⟨Nat.zero_le _, Nat.zero_le _⟩ rfl (Nat.le_of_ble_eq_true rfl)) (rfl) (rfl) ?_
          refine J_mem (M' := jRS M t (tTk c L p ((126))) lo hi b) (by exact jRS_2 _ _ _ _ _ _ _) ?_
          refine J_if_eq dX4_takeKind_77 (tgt := 85) (by decide) (fun c77 => ?_) (fun c77 => ?_)
          · have c77 := jb0T c77
            refine J_mem (M' := jRS M t p lo hi b) (by rw [tTk_f c77]) ?_
            refine J_iconst (x := 0) dX4_takeKind_85 (by decide) ?_
            exact J_iret (ty := .int) dX4_takeKind_86 rfl (rfl) ⟨(by first | (simp only [rKind, *, reduceIte, Bool.false_eq_true]; done) | fail "k"), (by first | (simp only [rKind, *, reduceIte, Bool.false_eq_true]; done) | fail "k")⟩
          · have c77 := jb0F c77
            refine J_mem (M' := jRS M t (p + 1) lo hi b) (by rw [tTk_t c77]) ?_
            refine J_bipush (x := 7) dX4_takeKind_80 (by decide) ?_
            refine J_goto (tgt := 86) dX4_takeKind_82 (by decide) ?_
            exact J_iret (ty := .int) dX4_takeKind_86 rfl (rfl) ⟨(by first | (simp only [rKind, *, reduceIte, Bool.false_eq_true]; done) | fail "k"), (by first | (simp only [rKind, *, reduceIte, Bool.false_eq_true]; done) | fail "k")⟩
        · have c65 := jb0F c65
          refine J_mem (M' := jRS M t (p + 1) lo hi b) (by rw [tTk_t c65]) ?_
          refine J_bipush (x := 6) dX4_takeKind_68 (by decide) ?_
          exact J_iret (ty := .int) dX4_takeKind_70 rfl (rfl) ⟨(by first | (simp only [rKind, *, reduceIte, Bool.false_eq_true]; done) | fail "k"), (by first | (simp only [rKind, *, reduceIte, Bool.false_eq_true]; done) | fail "k")⟩
      · have c54 := jb0F c54
        refine J_mem (M' := jRS M t (p + 1) lo hi b) (by rw [tTk_t c54]) ?_
        refine J_iconst (x := 1) dX4_takeKind_57 (by decide) ?_
        exact J_iret (ty := .int) dX4_takeKind_58 rfl (rfl) ⟨(by first | (simp only [rKind, *, reduceIte, Bool.false_eq_true]; done) | fail "k"), (by first | (simp only [rKind, *, reduceIte, Bool.false_eq_true]; done) | fail "k")⟩
    · have c30 := jb0F c30
      refine J_mem (M' := jRS M t (p + 1) lo hi b) (by rw [tTk_t c30]) ?_
      refine J_aload_n (t) dX4_takeKind_33 rfl rfl ?_
      refine J_bipush (x := 61) dX4_takeKind_34 (by decide) ?_
      refine J_calli0 (jrunU (As := [.int (61)]) (ct_X6_takes_8 l D dA hst (jRS M t (p + 1) lo hi b) t sg c L (p + 1) ((hR.rs (q := p + 1) (lo' := lo) (hi' := hi) (b' := b) (tIsAt_lt c30)).1) ((61))) dX4_takeKind_36 yY_X6_takes gX4_takeKind_X6_takes_u45X4 rfl cs8 f1 f2 rfl ⟨by omega, by omega⟩ ⟨Nat.zero_le _, Nat.zero_le _⟩ rfl (Nat.le_of_ble_eq_true rfl)) (rfl) (rfl) ?_
      refine J_mem (M' := jRS M t (tTk c L (p + 1) ((61))) lo hi b) (by exact jRS_2 _ _ _ _ _ _ _) ?_
      refine J_if_eq dX4_takeKind_39 (tgt := 46) (by decide) (fun c39 => ?_) (fun c39 => ?_)
      · have c39 := jb0T c39
        refine J_mem (M' := jRS M t (p + 1) lo hi b) (by rw [tTk_f c39]) ?_
        refine J_iconst (x := 4) dX4_takeKind_46 (by decide) ?_
        exact J_iret (ty := .int) dX4_takeKind_47 rfl (rfl) ⟨(by first | (simp only [rKind, *, reduceIte, Bool.false_eq_true]; done) | fail "k"), (by first | (simp only [rKind, *, reduceIte, Bool.false_eq_true]; done) | fail "k")⟩
      · have c39 := jb0F c39
        refine J_mem (M' := jRS M t (p + 1 + 1) lo hi b) (by rw [tTk_t c39]) ?_
        refine J_iconst (x := 5) dX4_takeKind_42 (by decide) ?_
        refine J_goto (tgt := 47) dX4_takeKind_43 (by decide) ?_
        exact J_iret (ty := .int) dX4_takeKind_47 rfl (rfl) ⟨(by first | (simp only [rKind, *, reduceIte, Bool.false_eq_true]; done) | fail "k"), (by first | (simp only [rKind, *, reduceIte, Bool.false_eq_true]; done) | fail "k")⟩
  · have c6 := jb0F c6
    refine J_mem (M' := jRS M t (p + 1) lo hi b) (by rw [tTk_t c6]) ?_
    refine J_aload_n (t) dX4_takeKind_9 rfl rfl ?_
    refine J_bipush (x := 61) dX4_takeKind_10 (by decide) ?_
    refine J_calli0 (jrunU (As := [.int (61)]) (ct_X6_takes_8 l D dA hst (jRS M t (p + 1) lo hi b) t sg c L (p + 1) ((hR.rs (q := p + 1) (lo' := lo) (hi' := hi) (b' := b) (tIsAt_lt c6)).1) ((61))) dX4_takeKind_12 yY_X6_takes gX4_takeKind_X6_takes_u45X4 rfl cs8 f1 f2 rfl ⟨by omega, by omega⟩ ⟨Nat.zero_le _, Nat.zero_le _⟩ rfl (Nat.le_of_ble_eq_true rfl)) (rfl) (rfl) ?_
    refine J_mem (M' := jRS M t (tTk c L (p + 1) ((61))) lo hi b) (by exact jRS_2 _ _ _ _ _ _ _) ?_
    refine J_if_eq dX4_takeKind_15 (tgt := 22) (by decide) (fun c15 => ?_) (fun c15 => ?_)
    · have c15 := jb0T c15
      refine J_mem (M' := jRS M t (p + 1) lo hi b) (by rw [tTk_f c15]) ?_
      refine J_iconst (x := 2) dX4_takeKind_22 (by decide) ?_
      exact J_iret (ty := .int) dX4_takeKind_23 rfl (rfl) ⟨(by first | (simp only [rKind, *, reduceIte, Bool.false_eq_true]; done) | fail "k"), (by first | (simp only [rKind, *, reduceIte, Bool.false_eq_true]; done) | fail "k")⟩
    · have c15 := jb0F c15
      refine J_mem (M' := jRS M t (p + 1 + 1) lo hi b) (by rw [tTk_t c15]) ?_
      refine J_iconst (x := 3) dX4_takeKind_18 (by decide) ?_
      refine J_goto (tgt := 23) dX4_takeKind_19 (by decide) ?_
      exact J_iret (ty := .int) dX4_takeKind_23 rfl (rfl) ⟨(by first | (simp only [rKind, *, reduceIte, Bool.false_eq_true]; done) | fail "k"), (by first | (simp only [rKind, *, reduceIte, Bool.false_eq_true]; done) | fail "k")⟩

theorem dX4_readVersionEnd_0 : decode cX4_readVersionEnd 0 = .ok (.aload_n 0, 1) := by decide +kernel
theorem dX4_readVersionEnd_1 : decode cX4_readVersionEnd 1 = .ok (.invokevirtual 58, 3) := by decide +kernel
set_option maxRecDepth 20000 in
theorem ggX4_readVersionEnd_X6_takeNumber : GoodIn wsX4_readVersionEnd wsX6_takeNumber := goodIn_ca (goodIn_r _ [7, 8, 9, 10, 11, 12, 6, 13, 14, 15, 16, 60, 61, 62, 63, 64, 65, 66, 67, 68, 69, 53, 54, 55, 56, 57, 58, 59] (by decide +kernel) (by decide +kernel)) (goodIn_sub (fun _ h => List.mem_cons_of_mem _ (List.mem_append_right _ h)) (by decide +kernel))
set_option maxRecDepth 20000 in
theorem gX4_readVersionEnd_X6_takeNumber_u58X4 : GoodIn wsX4_readVersionEnd (va_wsU RX4 58 RX4 "VersionAlgebra$TextReader" ⟨"VersionAlgebra$RangeReader", "takeNumber", "()I"⟩ yX6_takeNumber wsX6_takeNumber) := goodIn_app (goodIn_of _ (by decide +kernel)) ggX4_readVersionEnd_X6_takeNumber
theorem yY_X6_takeNumber : jY yX6_takeNumber wsX6_takeNumber cX6_takeNumber 3 (some .int) 0 := ⟨⟨_, rfl⟩, by decide +kernel, by decide +kernel, by decide +kernel⟩
theorem dX4_readVersionEnd_4 : decode cX4_readVersionEnd 4 = .ok (.istore_n 3, 1) := by decide +kernel
theorem dX4_readVersionEnd_5 : decode cX4_readVersionEnd 5 = .ok (.iload_n 3, 1) := by decide +kernel
theorem dX4_readVersionEnd_6 : decode cX4_readVersionEnd 6 = .ok (.iconst (-1), 1) := by decide +kernel
theorem dX4_readVersionEnd_7 : decode cX4_readVersionEnd 7 = .ok (.if_icmp .ne 5, 3) := by decide +kernel
theorem dX4_readVersionEnd_12 : decode cX4_readVersionEnd 12 = .ok (.bipush 99, 2) := by decide +kernel
theorem dX4_readVersionEnd_14 : decode cX4_readVersionEnd 14 = .ok (.istore 4, 2) := by decide +kernel
theorem dX4_readVersionEnd_16 : decode cX4_readVersionEnd 16 = .ok (.aload_n 0, 1) := by decide +kernel
theorem dX4_readVersionEnd_17 : decode cX4_readVersionEnd 17 = .ok (.bipush 45, 2) := by decide +kernel
theorem dX4_readVersionEnd_19 : decode cX4_readVersionEnd 19 = .ok (.invokevirtual 45, 3) := by decide +kernel
set_option maxRecDepth 20000 in
theorem ggX4_readVersionEnd_X6_takes : GoodIn wsX4_readVersionEnd wsX6_takes := goodIn_ca (goodIn_r _ [21, 8, 22, 23, 24, 25, 6, 26, 14, 15, 27, 60, 61, 62, 63, 64, 65, 66, 67, 68, 69, 53, 54, 55, 56, 57, 58, 59] (by decide +kernel) (by decide +kernel)) (goodIn_sub (fun _ h => List.mem_cons_of_mem _ (List.mem_append_right _ h)) (by decide +kernel))
set_option maxRecDepth 20000 in
theorem gX4_readVersionEnd_X6_takes_u45X4 : GoodIn wsX4_readVersionEnd (va_wsU RX4 45 RX4 "VersionAlgebra$TextReader" ⟨"VersionAlgebra$RangeReader", "takes", "(C)Z"⟩ yX6_takes wsX6_takes) := goodIn_app (goodIn_of _ (by decide +kernel)) ggX4_readVersionEnd_X6_takes
theorem dX4_readVersionEnd_22 : decode cX4_readVersionEnd 22 = .ok (.ifCond .eq 40, 3) := by decide +kernel
theorem dX4_readVersionEnd_62 : decode cX4_readVersionEnd 62 = .ok (.aload_n 0, 1) := by decide +kernel
theorem dX4_readVersionEnd_63 : decode cX4_readVersionEnd 63 = .ok (.iload_n 1, 1) := by decide +kernel
theorem dX4_readVersionEnd_64 : decode cX4_readVersionEnd 64 = .ok (.iload_n 2, 1) := by decide +kernel
theorem dX4_readVersionEnd_65 : decode cX4_readVersionEnd 65 = .ok (.iload_n 3, 1) := by decide +kernel
theorem dX4_readVersionEnd_66 : decode cX4_readVersionEnd 66 = .ok (.bipush 100, 2) := by decide +kernel
theorem dX4_readVersionEnd_68 : decode cX4_readVersionEnd 68 = .ok (.imul, 1) := by decide +kernel
theorem dX4_readVersionEnd_69 : decode cX4_readVersionEnd 69 = .ok (.iadd, 1) := by decide +kernel
theorem dX4_readVersionEnd_70 : decode cX4_readVersionEnd 70 = .ok (.iload 4, 2) := by decide +kernel
theorem dX4_readVersionEnd_72 : decode cX4_readVersionEnd 72 = .ok (.iadd, 1) := by decide +kernel
theorem dX4_readVersionEnd_73 : decode cX4_readVersionEnd 73 = .ok (.invokevirtual 70, 3) := by decide +kernel
set_option maxRecDepth 20000 in
theorem ggX4_readVersionEnd_X4_narrowBy : GoodIn wsX4_readVersionEnd wsX4_narrowBy := goodIn_r _ [32, 33, 34, 35, 36, 31, 37, 38, 39, 40, 41, 42, 43, 44, 45, 46, 47, 48, 49, 50, 51, 52, 53, 54, 55, 56, 57, 58, 59] (by decide +kernel) (by decide +kernel)
set_option maxRecDepth 20000 in
theorem gX4_readVersionEnd_X4_narrowBy : GoodIn wsX4_readVersionEnd (wsV RX4 70 RX4 yX4_narrowBy wsX4_narrowBy) := goodIn_app (goodIn_of _ (by decide +kernel)) ggX4_readVersionEnd_X4_narrowBy
theorem yY_X4_narrowBy : jY yX4_narrowBy wsX4_narrowBy cX4_narrowBy 3 none 2 := ⟨⟨_, rfl⟩, by decide +kernel, by decide +kernel, by decide +kernel⟩
theorem dX4_readVersionEnd_76 : decode cX4_readVersionEnd 76 = .ok (.iconst 1, 1) := by decide +kernel
theorem dX4_readVersionEnd_77 : decode cX4_readVersionEnd 77 = .ok (.ireturn, 1) := by decide +kernel
theorem dX4_readVersionEnd_25 : decode cX4_readVersionEnd 25 = .ok (.aload_n 0, 1) := by decide +kernel
theorem dX4_readVersionEnd_26 : decode cX4_readVersionEnd 26 = .ok (.invokevirtual 58, 3) := by decide +kernel
theorem dX4_readVersionEnd_29 : decode cX4_readVersionEnd 29 = .ok (.istore 4, 2) := by decide +kernel
theorem dX4_readVersionEnd_31 : decode cX4_readVersionEnd 31 = .ok (.iload 4, 2) := by decide +kernel
theorem dX4_readVersionEnd_33 : decode cX4_readVersionEnd 33 = .ok (.iconst (-1), 1) := by decide +kernel
theorem dX4_readVersionEnd_34 : decode cX4_readVersionEnd 34 = .ok (.if_icmp .ne 5, 3) := by decide +kernel
theorem dX4_readVersionEnd_39 : decode cX4_readVersionEnd 39 = .ok (.aload_n 0, 1) := by decide +kernel
theorem dX4_readVersionEnd_40 : decode cX4_readVersionEnd 40 = .ok (.aload_n 0, 1) := by decide +kernel
theorem dX4_readVersionEnd_41 : decode cX4_readVersionEnd 41 = .ok (.getfield 29, 3) := by decide +kernel
theorem dX4_readVersionEnd_44 : decode cX4_readVersionEnd 44 = .ok (.ifCond .ne 10, 3) := by decide +kernel
theorem dX4_readVersionEnd_54 : decode cX4_readVersionEnd 54 = .ok (.iconst 1, 1) := by decide +kernel
theorem dX4_readVersionEnd_55 : decode cX4_readVersionEnd 55 = .ok (.goto 4, 3) := by decide +kernel
theorem dX4_readVersionEnd_59 : decode cX4_readVersionEnd 59 = .ok (.putfield 29, 3) := by decide +kernel
theorem dX4_readVersionEnd_47 : decode cX4_readVersionEnd 47 = .ok (.iload 4, 2) := by decide +kernel
theorem dX4_readVersionEnd_49 : decode cX4_readVersionEnd 49 = .ok (.bipush 99, 2) := by decide +kernel
theorem dX4_readVersionEnd_51 : decode cX4_readVersionEnd 51 = .ok (.if_icmp .ne 7, 3) := by decide +kernel
theorem dX4_readVersionEnd_58 : decode cX4_readVersionEnd 58 = .ok (.iconst 0, 1) := by decide +kernel
theorem dX4_readVersionEnd_37 : decode cX4_readVersionEnd 37 = .ok (.iconst 0, 1) := by decide +kernel
theorem dX4_readVersionEnd_38 : decode cX4_readVersionEnd 38 = .ok (.ireturn, 1) := by decide +kernel
theorem dX4_readVersionEnd_10 : decode cX4_readVersionEnd 10 = .ok (.iconst 0, 1) := by decide +kernel
theorem dX4_readVersionEnd_11 : decode cX4_readVersionEnd 11 = .ok (.ireturn, 1) := by decide +kernel
set_option maxHeartbeats 2000000 in
set_option maxRecDepth 20000 in
theorem ct_X4_readVersionEnd (l : Launch) (D : va_G) (dA : Nat → ClassId) (hst : l.stackTraces = false) (M : jM) (t sg : Nat) (c : Nat → Int32) (L p : Nat) (lo hi : Int32) (b : Bool) (hR : jRr M t sg c L p lo hi b) (kd st : Int32) : jCT l D dA yX4_readVersionEnd wsX4_readVersionEnd (23) (480) (0) (0) 1 [.ref (t), .int (kd), .int (st)] M (jPo (oI (jb (rVe c L kd st p lo hi b).1)) (jRS M t (rVe c L kd st p lo hi b).2.1 (rVe c L kd st p lo hi b).2.2.1 (rVe c L kd st p lo hi b).2.2.2.1 (rVe c L kd st p lo hi b).2.2.2.2)) := by
  refine jBody (cc := cX4_readVersionEnd) (nL := 5) (rt := (some .boolean)) (ini := false) (by decide) rfl hst (Nat.le_of_ble_eq_true rfl) (by simp [Value.category]) (by intro h9; first | exact absurd h9 (by decide) | rfl) ?_
  show J l D dA RX4 cX4_readVersionEnd wsX4_readVersionEnd 5 false (some .boolean) [] (23) (480) (jF D dA (jn M) (jPo (oI (jb (rVe c L kd st p lo hi b).1)) (jRS M t (rVe c L kd st p lo hi b).2.1 (rVe c L kd st p lo hi b).2.2.1 (rVe c L kd st p lo hi b).2.2.2.1 (rVe c L kd st p lo hi b).2.2.2.2)) 1) (jn M) (0) (0) (M) 0 [.ref (t), .int (kd), .int (st), .float 0, .float 0] []
  obtain ⟨⟨f1, f2, f3, f4, f5, f6, f7, f8, f9, f10, f11, f12⟩, f13, f14, f15⟩ := id hR
  refine J_mem (M' := jRS M t p lo hi b) (by exact hR.self) ?_
  refine J_aload_n (t) dX4_readVersionEnd_0 rfl rfl ?_
  refine J_calli0 (jrunU (As := []) (ct_X6_takeNumber_8 l D dA hst (jRS M t p lo hi b) t sg c L p ((hR.rs (q := p) (lo' := lo) (hi' := hi) (b' := b) f11).1)) dX4_readVersionEnd_1 yY_X6_takeNumber gX4_readVersionEnd_X6_takeNumber_u58X4 rfl cs8 f1 f2 rfl ⟨by omega, by omega⟩ ⟨Nat.zero_le _, Nat.zero_le _⟩ rfl (Nat.le_of_ble_eq_true rfl)) (rfl) (rfl) ?_
  refine J_mem (M' := jRS M t ((tNum c L p).2) lo hi b) (by exact jRS_2 _ _ _ _ _ _ _) ?_
  refine J_istore_n (lv' := [.ref (t), .int (kd), .int (st), .int ((tNum c L p).1), .float 0]) dX4_readVersionEnd_4 rfl (by decide) rfl rfl ?_
  refine J_iload_n dX4_readVersionEnd_5 rfl rfl ?_
  refine J_iconst (x := (-1)) dX4_readVersionEnd_6 (by decide) ?_
  refine J_icmp_ne dX4_readVersionEnd_7 (tgt := 12) (by decide) (fun c7 => ?_) (fun c7 => ?_)
  · refine J_bipush (x := 99) dX4_readVersionEnd_12 (by decide) ?_
    refine J_istore (lv' := [.ref (t), .int (kd), .int (st), .int ((tNum c L p).1), .int (99)]) dX4_readVersionEnd_14 (by decide) rfl rfl ?_
    refine J_aload_n (t) dX4_readVersionEnd_16 rfl rfl ?_
    refine J_bipush (x := 45) dX4_readVersionEnd_17 (by decide) ?_
    refine J_calli0 (jrunU (As := [.int (45)]) (ct_X6_takes_8 l D dA hst (jRS M t ((tNum c L p).2) lo hi b) t sg c L ((tNum c L p).2) ((hR.rs (q := (tNum c L p).2) (lo' := lo) (hi' := hi) (b' := b) (tNum_le f11)).1) ((45))) dX4_readVersionEnd_19 yY_X6_takes gX4_readVersionEnd_X6_takes_u45X4 rfl cs8 f1 f2 rfl ⟨by omega, by omega⟩ ⟨Nat.zero_le _, Nat.zero_le _⟩ rfl (Nat.le_of_ble_eq_true rfl)) (rfl) (rfl) ?_
    refine J_mem (M' := jRS M t (tTk c L ((tNum c L p).2) ((45))) lo hi b) (by exact jRS_2 _ _ _ _ _ _ _) ?_
    refine J_if_eq dX4_readVersionEnd_22 (tgt := 62) (by decide) (fun c22 => ?_) (fun c22 => ?_)
    · have c22 := jb0T c22
      refine J_mem (M' := jRS M t ((tNum c L p).2) lo hi b) (by rw [tTk_f c22]) ?_
      refine J_aload_n (t) dX4_readVersionEnd_62 rfl rfl ?_
      refine J_iload_n dX4_readVersionEnd_63 rfl rfl ?_
      refine J_iload_n dX4_readVersionEnd_64 rfl rfl ?_
      refine J_iload_n dX4_readVersionEnd_65 rfl rfl ?_
      refine J_bipush (x := 100) dX4_readVersionEnd_66 (by decide) ?_
      refine J_imul dX4_readVersionEnd_68 ?_
      refine J_iadd dX4_readVersionEnd_69 ?_
      refine J_iload dX4_readVersionEnd_70 rfl ?_
      refine J_iadd dX4_readVersionEnd_72 ?_
      refine J_callv0 (jrunV (As := [.int (kd), .int (((st) + (((tNum c L p).1) * (100))) + (99))]) (ct_X4_narrowBy l D dA hst (jRS M t ((tNum c L p).2) lo hi b) t sg c L ((tNum c L p).2) lo hi b (hR.rs (q := (tNum c L p).2) (lo' := lo) (hi' := hi) (b' := b) (tNum_le f11)) ((kd)) ((((st) + (((tNum c L p).1) * (100))) + (99)))) dX4_readVersionEnd_73 yY_X4_narrowBy gX4_readVersionEnd_X4_narrowBy rfl cs8 f1 f2 rfl ⟨by omega, by omega⟩ ⟨Nat.zero_le _, Nat.zero_le _⟩ rfl (Nat.le_of_ble_eq_true rfl)) (rfl) (jn_RS _ _ _ _ _ _) ?_
      refine J_mem (M' := jRS M t (((tNum c L p).2)) ((rNb ((kd)) ((((st) + (((tNum c L p).1) * (100))) + (99))) lo hi).1) ((rNb ((kd)) ((((st) + (((tNum c L p).1) * (100))) + (99))) lo hi).2) b) (by exact jRS_RS _ _ _ _ _ _ _ _ _ _) ?_
      refine J_iconst (x := 1) dX4_readVersionEnd_76 (by decide) ?_
      exact J_iret (ty := .boolean) dX4_readVersionEnd_77 rfl (by rfl) ⟨(by first | contradiction | (simp (config := {decide := true}) only [rVe, jb_t, jb_f, *, reduceIte, Bool.false_eq_true]; done) | (simp only [rVe, jb_t, jb_f, *, reduceIte, Bool.false_eq_true]; done) | (simp [rVe, *]; done) | fail "v"), (by first | contradiction | (simp (config := {decide := true}) only [rVe, jb_t, jb_f, *, reduceIte, Bool.false_eq_true]; done) | (simp only [rVe, jb_t, jb_f, *, reduceIte, Bool.false_eq_true]; done) | (simp [rVe, *]; done) | fail "v")⟩
    · have c22 := jb0F c22
      refine J_mem (M' := jRS M t ((tNum c L p).2 + 1) lo hi b) (by rw [tTk_t c22]) ?_
      refine J_aload_n (t) dX4_readVersionEnd_25 rfl rfl ?_
      refine J_calli0 (jrunU (As := []) (ct_X6_takeNumber_8 l D dA hst (jRS M t ((tNum c L p).2 + 1) lo hi b) t sg c L ((tNum c L p).2 + 1) ((hR.rs (q := (tNum c L p).2 + 1) (lo' := lo) (hi' := hi) (b' := b) (tIsAt_lt c22)).1)) dX4_readVersionEnd_26 yY_X6_takeNumber gX4_readVersionEnd_X6_takeNumber_u58X4 rfl cs8 f1 f2 rfl ⟨by omega, by omega⟩ ⟨Nat.zero_le _, Nat.zero_le _⟩ rfl (Nat.le_of_ble_eq_true rfl)) (rfl) (rfl) ?_
      refine J_mem (M' := jRS M t ((tNum c L ((tNum c L p).2 + 1)).2) lo hi b) (by exact jRS_2 _ _ _ _ _ _ _) ?_
      refine J_istore (lv' := [.ref (t), .int (kd), .int (st), .int ((tNum c L p).1), .int ((tNum c L ((tNum c L p).2 + 1)).1)]) dX4_readVersionEnd_29 (by decide) rfl rfl ?_
      refine J_iload dX4_readVersionEnd_31 rfl ?_
      refine J_iconst (x := (-1)) dX4_readVersionEnd_33 (by decide) ?_
      refine J_icmp_ne dX4_readVersionEnd_34 (tgt := 39) (by decide) (fun c34 => ?_) (fun c34 => ?_)
      · refine J_aload_n (t) dX4_readVersionEnd_39 rfl rfl ?_
        refine J_aload_n (t) dX4_readVersionEnd_40 rfl rfl ?_
        refine J_geti (j := 6) dX4_readVersionEnd_41 (fun _ h => List.mem_cons_of_mem _ (List.mem_append_left _ (List.mem_append_left _ (List.mem_append_right _ (h))))) cs8 (by decide) rfl (List.mem_of_getElem? (i := 1) rfl) rfl f1 f2 ?_
        refine J_topi (y := jb (b)) ((hR.rs (q := (tNum c L ((tNum c L p).2 + 1)).2) (lo' := lo) (hi' := hi) (b' := b) (tNum_le (tIsAt_lt c22))).2.2.2) ?_
        refine J_if_ne dX4_readVersionEnd_44 (tgt := 54) (by decide) (fun c44 => ?_) (fun c44 => ?_)
        · have c44 := jb0F c44
          refine J_iconst (x := 1) dX4_readVersionEnd_54 (by decide) ?_
          refine J_goto (tgt := 59) dX4_readVersionEnd_55 (by decide) ?_
          refine J_topi (y := jb (b || decide ((tNum c L ((tNum c L p).2 + 1)).1 = 99))) (by simp [jb, *]) ?_
          refine J_puti (j := 6) (x := jb (b || decide ((tNum c L ((tNum c L p).2 + 1)).1 = 99))) dX4_readVersionEnd_59 (fun _ h => List.mem_cons_of_mem _ (List.mem_append_left _ (List.mem_append_left _ (List.mem_append_right _ (h))))) cs8 cty8 (by decide) rfl (List.mem_of_getElem? (i := 1) rfl) rfl rfl ⟨jb_n _, jb_fit _⟩ f1 f2 ?_
          refine J_mem (M' := jRS M t ((tNum c L ((tNum c L p).2 + 1)).2) lo hi (b || decide ((tNum c L ((tNum c L p).2 + 1)).1 = 99))) (by exact jRS_6 _ _ _ _ _ _ _) ?_
          refine J_aload_n (t) dX4_readVersionEnd_62 rfl rfl ?_
          refine J_iload_n dX4_readVersionEnd_63 rfl rfl ?_
          refine J_iload_n dX4_readVersionEnd_64 rfl rfl ?_
          refine J_iload_n dX4_readVersionEnd_65 rfl rfl ?_
          refine J_bipush (x := 100) dX4_readVersionEnd_66 (by decide) ?_
          refine J_imul dX4_readVersionEnd_68 ?_
          refine J_iadd dX4_readVersionEnd_69 ?_
          refine J_iload dX4_readVersionEnd_70 rfl ?_
          refine J_iadd dX4_readVersionEnd_72 ?_
          refine J_callv0 (jrunV (As := [.int (kd), .int (((st) + (((tNum c L p).1) * (100))) + ((tNum c L ((tNum c L p).2 + 1)).1))]) (ct_X4_narrowBy l D dA hst (jRS M t ((tNum c L ((tNum c L p).2 + 1)).2) lo hi (b || decide ((tNum c L ((tNum c L p).2 + 1)).1 = 99))) t sg c L ((tNum c L ((tNum c L p).2 + 1)).2) lo hi (b || decide ((tNum c L ((tNum c L p).2 + 1)).1 = 99)) (hR.rs (q := (tNum c L ((tNum c L p).2 + 1)).2) (lo' := lo) (hi' := hi) (b' := b || decide ((tNum c L ((tNum c L p).2 + 1)).1 = 99)) (tNum_le (tIsAt_lt c22))) ((kd)) ((((st) + (((tNum c L p).1) * (100))) + ((tNum c L ((tNum c L p).2 + 1)).1)))) dX4_readVersionEnd_73 yY_X4_narrowBy gX4_readVersionEnd_X4_narrowBy rfl cs8 f1 f2 rfl ⟨by omega, by omega⟩ ⟨Nat.zero_le _, Nat.zero_le _⟩ rfl (Nat.le_of_ble_eq_true rfl)) (rfl) (jn_RS _ _ _ _ _ _) ?_
          refine J_mem (M' := jRS M t (((tNum c L ((tNum c L p).2 + 1)).2)) ((rNb ((kd)) ((((st) + (((tNum c L p).1) * (100))) + ((tNum c L ((tNum c L p).2 + 1)).1))) lo hi).1) ((rNb ((kd)) ((((st) + (((tNum c L p).1) * (100))) + ((tNum c L ((tNum c L p).2 + 1)).1))) lo hi).2) ((b || decide ((tNum c L ((tNum c L p).2 + 1)).1 = 99)))) (by exact jRS_RS _ _ _ _ _ _ _ _ _ _) ?_
          refine J_iconst (x := 1) dX4_readVersionEnd_76 (by decide) ?_
          exact J_iret (ty := .boolean) dX4_readVersionEnd_77 rfl (by rfl) ⟨(by first | contradiction | (simp (config := {decide := true}) only [rVe, jb_t, jb_f, *, reduceIte, Bool.false_eq_true]; done) | (simp only [rVe, jb_t, jb_f, *, reduceIte, Bool.false_eq_true]; done) | (simp [rVe, *]; done) | fail "v"), (by first | contradiction | (simp (config := {decide := true}) only [rVe, jb_t, jb_f, *, reduceIte, Bool.false_eq_true]; done) | (simp only [rVe, jb_t, jb_f, *, reduceIte, Bool.false_eq_true]; done) | (simp [rVe, *]; done) | fail "v")⟩
        · have c44 := jb0T c44
          refine J_iload dX4_readVersionEnd_47 rfl ?_
          refine J_bipush (x := 99) dX4_readVersionEnd_49 (by decide) ?_
          refine J_icmp_ne dX4_readVersionEnd_51 (tgt := 58) (by decide) (fun c51 => ?_) (fun c51 => ?_)
          · refine J_iconst (x := 0) dX4_readVersionEnd_58 (by decide) ?_
            refine J_topi (y := jb (b || decide ((tNum c L ((tNum c L p).2 + 1)).1 = 99))) (by simp [jb, *]) ?_
            refine J_puti (j := 6) (x := jb (b || decide ((tNum c L ((tNum c L p).2 + 1)).1 = 99))) dX4_readVersionEnd_59 (fun _ h => List.mem_cons_of_mem _ (List.mem_append_left _ (List.mem_append_left _ (List.mem_append_right _ (h))))) cs8 cty8 (by decide) rfl (List.mem_of_getElem? (i := 1) rfl) rfl rfl ⟨jb_n _, jb_fit _⟩ f1 f2 ?_
            refine J_mem (M' := jRS M t ((tNum c L ((tNum c L p).2 + 1)).2) lo hi (b || decide ((tNum c L ((tNum c L p).2 + 1)).1 = 99))) (by exact jRS_6 _ _ _ _ _ _ _) ?_
            refine J_aload_n (t) dX4_readVersionEnd_62 rfl rfl ?_
            refine J_iload_n dX4_readVersionEnd_63 rfl rfl ?_
            refine J_iload_n dX4_readVersionEnd_64 rfl rfl ?_
            refine J_iload_n dX4_readVersionEnd_65 rfl rfl ?_
            refine J_bipush (x := 100) dX4_readVersionEnd_66 (by decide) ?_
            refine J_imul dX4_readVersionEnd_68 ?_
            refine J_iadd dX4_readVersionEnd_69 ?_
            refine J_iload dX4_readVersionEnd_70 rfl ?_
            refine J_iadd dX4_readVersionEnd_72 ?_
            refine J_callv0 (jrunV (As := [.int (kd), .int (((st) + (((tNum c L p).1) * (100))) + ((tNum c L ((tNum c L p).2 + 1)).1))]) (ct_X4_narrowBy l D dA hst (jRS M t ((tNum c L ((tNum c L p).2 + 1)).2) lo hi (b || decide ((tNum c L ((tNum c L p).2 + 1)).1 = 99))) t sg c L ((tNum c L ((tNum c L p).2 + 1)).2) lo hi (b || decide ((tNum c L ((tNum c L p).2 + 1)).1 = 99)) (hR.rs (q := (tNum c L ((tNum c L p).2 + 1)).2) (lo' := lo) (hi' := hi) (b' := b || decide ((tNum c L ((tNum c L p).2 + 1)).1 = 99)) (tNum_le (tIsAt_lt c22))) ((kd)) ((((st) + (((tNum c L p).1) * (100))) + ((tNum c L ((tNum c L p).2 + 1)).1)))) dX4_readVersionEnd_73 yY_X4_narrowBy gX4_readVersionEnd_X4_narrowBy rfl cs8 f1 f2 rfl ⟨by omega, by omega⟩ ⟨Nat.zero_le _, Nat.zero_le _⟩ rfl (Nat.le_of_ble_eq_true rfl)) (rfl) (jn_RS _ _ _ _ _ _) ?_
            refine J_mem (M' := jRS M t (((tNum c L ((tNum c L p).2 + 1)).2)) ((rNb ((kd)) ((((st) + (((tNum c L p).1) * (100))) + ((tNum c L ((tNum c L p).2 + 1)).1))) lo hi).1) ((rNb ((kd)) ((((st) + (((tNum c L p).1) * (100))) + ((tNum c L ((tNum c L p).2 + 1)).1))) lo hi).2) ((b || decide ((tNum c L ((tNum c L p).2 + 1)).1 = 99)))) (by exact jRS_RS _ _ _ _ _ _ _ _ _ _) ?_
            refine J_iconst (x := 1) dX4_readVersionEnd_76 (by decide) ?_
            exact J_iret (ty := .boolean) dX4_readVersionEnd_77 rfl (by rfl) ⟨(by first | contradiction | (simp (config := {decide := true}) only [rVe, jb_t, jb_f, *, reduceIte, Bool.false_eq_true]; done) | (simp only [rVe, jb_t, jb_f, *, reduceIte, Bool.false_eq_true]; done) | (simp [rVe, *]; done) | fail "v"), (by first | contradiction | (simp (config := {decide := true}) only [rVe, jb_t, jb_f, *, reduceIte, Bool.false_eq_true]; done) | (simp only [rVe, jb_t, jb_f, *, reduceIte, Bool.false_eq_true]; done) | (simp [rVe, *]; done) | fail "v")⟩
          · refine J_iconst (x := 1) dX4_readVersionEnd_54 (by decide) ?_
            refine J_goto (tgt := 59) dX4_readVersionEnd_55 (by decide) ?_
            refine J_topi (y := jb (b || decide ((tNum c L ((tNum c L p).2 + 1)).1 = 99))) (by simp [jb, *]) ?_
            refine J_puti (j := 6) (x := jb (b || decide ((tNum c L ((tNum c L p).2 + 1)).1 = 99))) dX4_readVersionEnd_59 (fun _ h => List.mem_cons_of_mem _ (List.mem_append_left _ (List.mem_append_left _ (List.mem_append_right _ (h))))) cs8 cty8 (by decide) rfl (List.mem_of_getElem? (i := 1) rfl) rfl rfl ⟨jb_n _, jb_fit _⟩ f1 f2 ?_
            refine J_mem (M' := jRS M t ((tNum c L ((tNum c L p).2 + 1)).2) lo hi (b || decide ((tNum c L ((tNum c L p).2 + 1)).1 = 99))) (by exact jRS_6 _ _ _ _ _ _ _) ?_
            refine J_aload_n (t) dX4_readVersionEnd_62 rfl rfl ?_
            refine J_iload_n dX4_readVersionEnd_63 rfl rfl ?_
            refine J_iload_n dX4_readVersionEnd_64 rfl rfl ?_
            refine J_iload_n dX4_readVersionEnd_65 rfl rfl ?_
            refine J_bipush (x := 100) dX4_readVersionEnd_66 (by decide) ?_
            refine J_imul dX4_readVersionEnd_68 ?_
            refine J_iadd dX4_readVersionEnd_69 ?_
            refine J_iload dX4_readVersionEnd_70 rfl ?_
            refine J_iadd dX4_readVersionEnd_72 ?_
            refine J_callv0 (jrunV (As := [.int (kd), .int (((st) + (((tNum c L p).1) * (100))) + ((tNum c L ((tNum c L p).2 + 1)).1))]) (ct_X4_narrowBy l D dA hst (jRS M t ((tNum c L ((tNum c L p).2 + 1)).2) lo hi (b || decide ((tNum c L ((tNum c L p).2 + 1)).1 = 99))) t sg c L ((tNum c L ((tNum c L p).2 + 1)).2) lo hi (b || decide ((tNum c L ((tNum c L p).2 + 1)).1 = 99)) (hR.rs (q := (tNum c L ((tNum c L p).2 + 1)).2) (lo' := lo) (hi' := hi) (b' := b || decide ((tNum c L ((tNum c L p).2 + 1)).1 = 99)) (tNum_le (tIsAt_lt c22))) ((kd)) ((((st) + (((tNum c L p).1) * (100))) + ((tNum c L ((tNum c L p).2 + 1)).1)))) dX4_readVersionEnd_73 yY_X4_narrowBy gX4_readVersionEnd_X4_narrowBy rfl cs8 f1 f2 rfl ⟨by omega, by omega⟩ ⟨Nat.zero_le _, Nat.zero_le _⟩ rfl (Nat.le_of_ble_eq_true rfl)) (rfl) (jn_RS _ _ _ _ _ _) ?_
            refine J_mem (M' := jRS M t (((tNum c L ((tNum c L p).2 + 1)).2)) ((rNb ((kd)) ((((st) + (((tNum c L p).1) * (100))) + ((tNum c L ((tNum c L p).2 + 1)).1))) lo hi).1) ((rNb ((kd)) ((((st) + (((tNum c L p).1) * (100))) + ((tNum c L ((tNum c L p).2 + 1)).1))) lo hi).2) ((b || decide ((tNum c L ((tNum c L p).2 + 1)).1 = 99)))) (by exact jRS_RS _ _ _ _ _ _ _ _ _ _) ?_
            refine J_iconst (x := 1) dX4_readVersionEnd_76 (by decide) ?_
            exact J_iret (ty := .boolean) dX4_readVersionEnd_77 rfl (by rfl) ⟨(by first | contradiction | (simp (config := {decide := true}) only [rVe, jb_t, jb_f, *, reduceIte, Bool.false_eq_true]; done) | (simp only [rVe, jb_t, jb_f, *, reduceIte, Bool.false_eq_true]; done) | (simp [rVe, *]; done) | fail "v"), (by first | contradiction | (simp (config := {decide := true}) only [rVe, jb_t, jb_f, *, reduceIte, Bool.false_eq_true]; done) | (simp only [rVe, jb_t, jb_f, *, reduceIte, Bool.false_eq_true]; done) | (simp [rVe, *]; done) | fail "v")⟩
      · refine J_iconst (x := 0) dX4_readVersionEnd_37 (by decide) ?_
        exact J_iret (ty := .boolean) dX4_readVersionEnd_38 rfl (by rfl) ⟨(by first | contradiction | (simp (config := {decide := true}) only [rVe, jb_t, jb_f, *, reduceIte, Bool.false_eq_true]; done) | (simp only [rVe, jb_t, jb_f, *, reduceIte, Bool.false_eq_true]; done) | (simp [rVe, *]; done) | fail "v"), (by first | contradiction | (simp (config := {decide := true}) only [rVe, jb_t, jb_f, *, reduceIte, Bool.false_eq_true]; done) | (simp only [rVe, jb_t, jb_f, *, reduceIte, Bool.false_eq_true]; done) | (simp [rVe, *]; done) | fail "v")⟩
  · refine J_iconst (x := 0) dX4_readVersionEnd_10 (by decide) ?_
    exact J_iret (ty := .boolean) dX4_readVersionEnd_11 rfl (by rfl) ⟨(by first | contradiction | (simp (config := {decide := true}) only [rVe, jb_t, jb_f, *, reduceIte, Bool.false_eq_true]; done) | (simp only [rVe, jb_t, jb_f, *, reduceIte, Bool.false_eq_true]; done) | (simp [rVe, *]; done) | fail "v"), (by first | contradiction | (simp (config := {decide := true}) only [rVe, jb_t, jb_f, *, reduceIte, Bool.false_eq_true]; done) | (simp only [rVe, jb_t, jb_f, *, reduceIte, Bool.false_eq_true]; done) | (simp [rVe, *]; done) | fail "v")⟩

/-- the part behind the first number's point: what it starts at, the place -/
def rP2 (c : Nat → Int32) (L : Nat) (kd x : Int32) (p : Nat) (lo hi : Int32) (b : Bool) : rSt :=
  if (tNum c L p).1 = -1 then (false, (tNum c L p).2, lo, hi, b)
  else if tIsAt c L (tNum c L p).2 46 then
    (if kd = 0 ∧ tIsAt c L ((tNum c L p).2 + 1) 120 = true then (true, (tNum c L p).2 + 1 + 1, iMx lo (x + (tNum c L p).1 * 10000), rMin hi (x + (tNum c L p).1 * 10000 + 10000 - 1), b)
    else rVe c L kd (x + (tNum c L p).1 * 10000) ((tNum c L p).2 + 1) lo hi b)
  else (false, (tNum c L p).2, lo, hi, b)
def rP1 (c : Nat → Int32) (L : Nat) (kd : Int32) (p : Nat) (lo hi : Int32) (b : Bool) : rSt :=
  if (tNum c L p).1 = -1 then (false, (tNum c L p).2, lo, hi, b)
  else if tIsAt c L (tNum c L p).2 46 then
    (if kd = 0 ∧ tIsAt c L ((tNum c L p).2 + 1) 120 = true then (true, (tNum c L p).2 + 1 + 1, iMx lo ((tNum c L p).1 * 1000000), rMin hi ((tNum c L p).1 * 1000000 + 1000000 - 1), b)
    else rP2 c L kd ((tNum c L p).1 * 1000000) ((tNum c L p).2 + 1) lo hi b)
  else (false, (tNum c L p).2, lo, hi, b)
def rPt (c : Nat → Int32) (L p : Nat) (lo hi : Int32) (b : Bool) : rSt :=
  if tIsAt c L p 42 then (true, p + 1, lo, hi, b) else rP1 c L (rKind c L p).1 (rKind c L p).2 lo hi b
theorem rP2_le {c : Nat → Int32} {L p : Nat} {kd x lo hi : Int32} {b : Bool} (h : p ≤ L) : (rP2 c L kd x p lo hi b).2.1 ≤ L := by
  unfold rP2
  split
  · exact tNum_le h
  · split
    · rename_i h1
      have h2 := tIsAt_lt h1
      split
      · rename_i h3; exact tIsAt_lt h3.2
      · exact rVe_le h2
    · exact tNum_le h
theorem rP1_le {c : Nat → Int32} {L p : Nat} {kd lo hi : Int32} {b : Bool} (h : p ≤ L) : (rP1 c L kd p lo hi b).2.1 ≤ L := by
  unfold rP1
  split
  · exact tNum_le h
  · split
    · rename_i h1
      have h2 := tIsAt_lt h1
      split
      · rename_i h3; exact tIsAt_lt h3.2
      · exact rP2_le h2
    · exact tNum_le h
theorem rPt_le {c : Nat → Int32} {L p : Nat} {lo hi : Int32} {b : Bool} (h : p ≤ L) : (rPt c L p lo hi b).2.1 ≤ L := by
  unfold rPt
  split
  · rename_i h1; exact tIsAt_lt h1
  · exact rP1_le (rKind_le h)
theorem dX4_readPart_0 : decode cX4_readPart 0 = .ok (.aload_n 0, 1) := by decide +kernel
theorem dX4_readPart_1 : decode cX4_readPart 1 = .ok (.bipush 42, 2) := by decide +kernel
theorem dX4_readPart_3 : decode cX4_readPart 3 = .ok (.invokevirtual 45, 3) := by decide +kernel
set_option maxRecDepth 20000 in
theorem ggX4_readPart_X6_takes : GoodIn wsX4_readPart wsX6_takes := goodIn_ca (goodIn_r _ [7, 8, 9, 10, 11, 12, 6, 13, 14, 15, 16, 62, 63, 64, 65, 66, 67, 68, 69, 70, 71, 72, 73, 74, 75, 76, 77, 78] (by decide +kernel) (by decide +kernel)) (goodIn_sub (fun _ h => List.mem_cons_of_mem _ (List.mem_append_right _ h)) (by decide +kernel))
set_option maxRecDepth 20000 in
theorem gX4_readPart_X6_takes_u45X4 : GoodIn wsX4_readPart (va_wsU RX4 45 RX4 "VersionAlgebra$TextReader" ⟨"VersionAlgebra$RangeReader", "takes", "(C)Z"⟩ yX6_takes wsX6_takes) := goodIn_app (goodIn_of _ (by decide +kernel)) ggX4_readPart_X6_takes
theorem dX4_readPart_6 : decode cX4_readPart 6 = .ok (.ifCond .eq 5, 3) := by decide +kernel
theorem dX4_readPart_11 : decode cX4_readPart 11 = .ok (.aload_n 0, 1) := by decide +kernel
theorem dX4_readPart_12 : decode cX4_readPart 12 = .ok (.invokevirtual 55, 3) := by decide +kernel
set_option maxRecDepth 20000 in
theorem ggX4_readPart_X4_takeKind : GoodIn wsX4_readPart wsX4_takeKind := goodIn_ca (goodIn_r _ [21, 2, 3, 4, 5, 6, 7, 8, 9, 10, 11, 12, 13, 14, 15, 16, 62, 63, 64, 65, 66, 67, 68, 69, 70, 71, 72, 73, 74, 75, 76, 77, 78] (by decide +kernel) (by decide +kernel)) (goodIn_sub (fun _ h => List.mem_cons_of_mem _ (List.mem_append_right _ h)) (by decide +kernel))
set_option maxRecDepth 20000 in
theorem gX4_readPart_X4_takeKind : GoodIn wsX4_readPart (wsV RX4 55 RX4 yX4_takeKind wsX4_takeKind) := goodIn_app (goodIn_of _ (by decide +kernel)) ggX4_readPart_X4_takeKind
theorem yY_X4_takeKind : jY yX4_takeKind wsX4_takeKind cX4_takeKind 1 (some .int) 0 := ⟨⟨_, rfl⟩, by decide +kernel, by decide +kernel, by decide +kernel⟩
theorem dX4_readPart_15 : decode cX4_readPart 15 = .ok (.istore_n 1, 1) := by decide +kernel
theorem dX4_readPart_16 : decode cX4_readPart 16 = .ok (.aload_n 0, 1) := by decide +kernel
theorem dX4_readPart_17 : decode cX4_readPart 17 = .ok (.invokevirtual 58, 3) := by decide +kernel
set_option maxRecDepth 20000 in
theorem ggX4_readPart_X6_takeNumber : GoodIn wsX4_readPart wsX6_takeNumber := goodIn_ca (goodIn_r _ [26, 8, 27, 28, 29, 30, 6, 31, 14, 15, 32, 62, 63, 64, 65, 66, 67, 68, 69, 70, 71, 72, 73, 74, 75, 76, 77, 78] (by decide +kernel) (by decide +kernel)) (goodIn_sub (fun _ h => List.mem_cons_of_mem _ (List.mem_append_right _ h)) (by decide +kernel))
set_option maxRecDepth 20000 in
theorem gX4_readPart_X6_takeNumber_u58X4 : GoodIn wsX4_readPart (va_wsU RX4 58 RX4 "VersionAlgebra$TextReader" ⟨"VersionAlgebra$RangeReader", "takeNumber", "()I"⟩ yX6_takeNumber wsX6_takeNumber) := goodIn_app (goodIn_of _ (by decide +kernel)) ggX4_readPart_X6_takeNumber
theorem dX4_readPart_20 : decode cX4_readPart 20 = .ok (.istore_n 2, 1) := by decide +kernel
theorem dX4_readPart_21 : decode cX4_readPart 21 = .ok (.iload_n 2, 1) := by decide +kernel
theorem dX4_readPart_22 : decode cX4_readPart 22 = .ok (.iconst (-1), 1) := by decide +kernel
theorem dX4_readPart_23 : decode cX4_readPart 23 = .ok (.if_icmp .eq 12, 3) := by decide +kernel
theorem dX4_readPart_35 : decode cX4_readPart 35 = .ok (.iconst 0, 1) := by decide +kernel
theorem dX4_readPart_36 : decode cX4_readPart 36 = .ok (.ireturn, 1) := by decide +kernel
theorem dX4_readPart_26 : decode cX4_readPart 26 = .ok (.aload_n 0, 1) := by decide +kernel
theorem dX4_readPart_27 : decode cX4_readPart 27 = .ok (.bipush 46, 2) := by decide +kernel
theorem dX4_readPart_29 : decode cX4_readPart 29 = .ok (.invokevirtual 45, 3) := by decide +kernel
theorem dX4_readPart_32 : decode cX4_readPart 32 = .ok (.ifCond .ne 5, 3) := by decide +kernel
theorem dX4_readPart_37 : decode cX4_readPart 37 = .ok (.iload_n 2, 1) := by decide +kernel
theorem dX4_readPart_38 : decode cX4_readPart 38 = .ok (.ldc 61, 2) := by decide +kernel
theorem dX4_readPart_40 : decode cX4_readPart 40 = .ok (.imul, 1) := by decide +kernel
theorem dX4_readPart_41 : decode cX4_readPart 41 = .ok (.istore_n 3, 1) := by decide +kernel
theorem dX4_readPart_42 : decode cX4_readPart 42 = .ok (.iload_n 1, 1) := by decide +kernel
theorem dX4_readPart_43 : decode cX4_readPart 43 = .ok (.ifCond .ne 25, 3) := by decide +kernel
theorem dX4_readPart_68 : decode cX4_readPart 68 = .ok (.aload_n 0, 1) := by decide +kernel
theorem dX4_readPart_69 : decode cX4_readPart 69 = .ok (.invokevirtual 58, 3) := by decide +kernel
theorem dX4_readPart_72 : decode cX4_readPart 72 = .ok (.istore 4, 2) := by decide +kernel
theorem dX4_readPart_74 : decode cX4_readPart 74 = .ok (.iload 4, 2) := by decide +kernel
theorem dX4_readPart_76 : decode cX4_readPart 76 = .ok (.iconst (-1), 1) := by decide +kernel
theorem dX4_readPart_77 : decode cX4_readPart 77 = .ok (.if_icmp .eq 12, 3) := by decide +kernel
theorem dX4_readPart_89 : decode cX4_readPart 89 = .ok (.iconst 0, 1) := by decide +kernel
theorem dX4_readPart_90 : decode cX4_readPart 90 = .ok (.ireturn, 1) := by decide +kernel
theorem dX4_readPart_80 : decode cX4_readPart 80 = .ok (.aload_n 0, 1) := by decide +kernel
theorem dX4_readPart_81 : decode cX4_readPart 81 = .ok (.bipush 46, 2) := by decide +kernel
theorem dX4_readPart_83 : decode cX4_readPart 83 = .ok (.invokevirtual 45, 3) := by decide +kernel
theorem dX4_readPart_86 : decode cX4_readPart 86 = .ok (.ifCond .ne 5, 3) := by decide +kernel
theorem dX4_readPart_91 : decode cX4_readPart 91 = .ok (.iload_n 3, 1) := by decide +kernel
theorem dX4_readPart_92 : decode cX4_readPart 92 = .ok (.iload 4, 2) := by decide +kernel
theorem dX4_readPart_94 : decode cX4_readPart 94 = .ok (.sipush 10000, 3) := by decide +kernel
theorem dX4_readPart_97 : decode cX4_readPart 97 = .ok (.imul, 1) := by decide +kernel
theorem dX4_readPart_98 : decode cX4_readPart 98 = .ok (.iadd, 1) := by decide +kernel
theorem dX4_readPart_99 : decode cX4_readPart 99 = .ok (.istore_n 3, 1) := by decide +kernel
theorem dX4_readPart_100 : decode cX4_readPart 100 = .ok (.iload_n 1, 1) := by decide +kernel
theorem dX4_readPart_101 : decode cX4_readPart 101 = .ok (.ifCond .ne 26, 3) := by decide +kernel
theorem dX4_readPart_127 : decode cX4_readPart 127 = .ok (.aload_n 0, 1) := by decide +kernel
theorem dX4_readPart_128 : decode cX4_readPart 128 = .ok (.iload_n 1, 1) := by decide +kernel
theorem dX4_readPart_129 : decode cX4_readPart 129 = .ok (.iload_n 3, 1) := by decide +kernel
theorem dX4_readPart_130 : decode cX4_readPart 130 = .ok (.invokevirtual 66, 3) := by decide +kernel
set_option maxRecDepth 20000 in
theorem ggX4_readPart_X4_readVersionEnd : GoodIn wsX4_readPart wsX4_readVersionEnd := goodIn_ca (goodIn_r _ [49, 50, 22, 23, 24, 25, 6, 26, 8, 27, 28, 29, 30, 31, 14, 15, 32, 2, 3, 4, 5, 7, 9, 10, 11, 12, 13, 16, 51, 52, 53, 20, 54, 55, 33, 34, 35, 36, 37, 38, 39, 40, 41, 42, 43, 44, 45, 56, 57, 58, 59, 60, 61, 72, 73, 74, 75, 76, 77, 78, 62, 63, 64, 65, 66, 67, 68, 69, 70, 71] (by decide +kernel) (by decide +kernel)) (goodIn_sub (fun _ h => List.mem_cons_of_mem _ (List.mem_append_right _ h)) (by decide +kernel))
set_option maxRecDepth 20000 in
theorem gX4_readPart_X4_readVersionEnd : GoodIn wsX4_readPart (wsV RX4 66 RX4 yX4_readVersionEnd wsX4_readVersionEnd) := goodIn_app (goodIn_of _ (by decide +kernel)) ggX4_readPart_X4_readVersionEnd
theorem yY_X4_readVersionEnd : jY yX4_readVersionEnd wsX4_readVersionEnd cX4_readVersionEnd 5 (some .boolean) 2 := ⟨⟨_, rfl⟩, by decide +kernel, by decide +kernel, by decide +kernel⟩
theorem dX4_readPart_133 : decode cX4_readPart 133 = .ok (.ireturn, 1) := by decide +kernel
theorem dX4_readPart_104 : decode cX4_readPart 104 = .ok (.aload_n 0, 1) := by decide +kernel
theorem dX4_readPart_105 : decode cX4_readPart 105 = .ok (.bipush 120, 2) := by decide +kernel
theorem dX4_readPart_107 : decode cX4_readPart 107 = .ok (.invokevirtual 45, 3) := by decide +kernel
theorem dX4_readPart_110 : decode cX4_readPart 110 = .ok (.ifCond .eq 17, 3) := by decide +kernel
theorem dX4_readPart_113 : decode cX4_readPart 113 = .ok (.aload_n 0, 1) := by decide +kernel
theorem dX4_readPart_114 : decode cX4_readPart 114 = .ok (.iload_n 3, 1) := by decide +kernel
theorem dX4_readPart_115 : decode cX4_readPart 115 = .ok (.iload_n 3, 1) := by decide +kernel
theorem dX4_readPart_116 : decode cX4_readPart 116 = .ok (.sipush 10000, 3) := by decide +kernel
theorem dX4_readPart_119 : decode cX4_readPart 119 = .ok (.iadd, 1) := by decide +kernel
theorem dX4_readPart_120 : decode cX4_readPart 120 = .ok (.iconst 1, 1) := by decide +kernel
theorem dX4_readPart_121 : decode cX4_readPart 121 = .ok (.isub, 1) := by decide +kernel
theorem dX4_readPart_122 : decode cX4_readPart 122 = .ok (.invokevirtual 62, 3) := by decide +kernel
set_option maxRecDepth 20000 in
theorem ggX4_readPart_X4_narrow : GoodIn wsX4_readPart wsX4_narrow := goodIn_r _ [36, 37, 38, 39, 40, 41, 42, 43, 44, 45, 72, 73, 74, 75, 76, 77, 78] (by decide +kernel) (by decide +kernel)
set_option maxRecDepth 20000 in
theorem gX4_readPart_X4_narrow : GoodIn wsX4_readPart (wsV RX4 62 RX4 yX4_narrow wsX4_narrow) := goodIn_app (goodIn_of _ (by decide +kernel)) ggX4_readPart_X4_narrow
theorem dX4_readPart_125 : decode cX4_readPart 125 = .ok (.iconst 1, 1) := by decide +kernel
theorem dX4_readPart_126 : decode cX4_readPart 126 = .ok (.ireturn, 1) := by decide +kernel
theorem dX4_readPart_46 : decode cX4_readPart 46 = .ok (.aload_n 0, 1) := by decide +kernel
theorem dX4_readPart_47 : decode cX4_readPart 47 = .ok (.bipush 120, 2) := by decide +kernel
theorem dX4_readPart_49 : decode cX4_readPart 49 = .ok (.invokevirtual 45, 3) := by decide +kernel
theorem dX4_readPart_52 : decode cX4_readPart 52 = .ok (.ifCond .eq 16, 3) := by decide +kernel
theorem dX4_readPart_55 : decode cX4_readPart 55 = .ok (.aload_n 0, 1) := by decide +kernel
theorem dX4_readPart_56 : decode cX4_readPart 56 = .ok (.iload_n 3, 1) := by decide +kernel
theorem dX4_readPart_57 : decode cX4_readPart 57 = .ok (.iload_n 3, 1) := by decide +kernel
theorem dX4_readPart_58 : decode cX4_readPart 58 = .ok (.ldc 61, 2) := by decide +kernel
theorem dX4_readPart_60 : decode cX4_readPart 60 = .ok (.iadd, 1) := by decide +kernel
theorem dX4_readPart_61 : decode cX4_readPart 61 = .ok (.iconst 1, 1) := by decide +kernel
theorem dX4_readPart_62 : decode cX4_readPart 62 = .ok (.isub, 1) := by decide +kernel
theorem dX4_readPart_63 : decode cX4_readPart 63 = .ok (.invokevirtual 62, 3) := by decide +kernel
theorem dX4_readPart_66 : decode cX4_readPart 66 = .ok (.iconst 1, 1) := by decide +kernel
theorem dX4_readPart_67 : decode cX4_readPart 67 = .ok (.ireturn, 1) := by decide +kernel
theorem dX4_readPart_9 : decode cX4_readPart 9 = .ok (.iconst 1, 1) := by decide +kernel
theorem dX4_readPart_10 : decode cX4_readPart 10 = .ok (.ireturn, 1) := by decide +kernel
set_option maxHeartbeats 2000000 in
set_option maxRecDepth 20000 in
theorem ct_X4_readPart (l : Launch) (D : va_G) (dA : Nat → ClassId) (hst : l.stackTraces = false) (M : jM) (t sg : Nat) (c : Nat → Int32) (L p : Nat) (lo hi : Int32) (b : Bool) (hR : jRr M t sg c L p lo hi b) : jCT l D dA yX4_readPart wsX4_readPart (24) (540) (0) (0) 1 [.ref (t)] M (jPo (oI (jb (rPt c L p lo hi b).1)) (jRS M t (rPt c L p lo hi b).2.1 (rPt c L p lo hi b).2.2.1 (rPt c L p lo hi b).2.2.2.1 (rPt c L p lo hi b).2.2.2.2)) := by
  refine jBody (cc := cX4_readPart) (nL := 5) (rt := (some .boolean)) (ini := false) (by decide) rfl hst (Nat.le_of_ble_eq_true rfl) (by simp [Value.category]) (by intro h9; first | exact absurd h9 (by decide) | rfl) ?_
  show J l D dA RX4 cX4_readPart wsX4_readPart 5 false (some .boolean) [] (24) (540) (jF D dA (jn M) (jPo (oI (jb (rPt c L p lo hi b).1)) (jRS M t (rPt c L p lo hi b).2.1 (rPt c L p lo hi b).2.2.1 (rPt c L p lo hi b).2.2.2.1 (rPt c L p lo hi b).2.2.2.2)) 1) (jn M) (0) (0) (M) 0 [.ref (t), .float 0, .float 0, .float 0, .float 0] []
  obtain ⟨⟨f1, f2, f3, f4, f5, f6, f7, f8, f9, f10, f11, f12⟩, f13, f14, f15⟩ := id hR
  refine J_mem (M' := jRS M t p lo hi b) (by exact hR.self) ?_
  refine J_aload_n (t) dX4_readPart_0 rfl rfl ?_
  refine J_bipush (x := 42) dX4_readPart_1 (by decide) ?_
  refine J_calli0 (jrunU (As := [.int (42)]) (ct_X6_takes_8 l D dA hst (jRS M t p lo hi b) t sg c L p ((hR.rs (q := p) (lo' := lo) (hi' := hi) (b' := b) f11).1) ((42))) dX4_readPart_3 yY_X6_takes gX4_readPart_X6_takes_u45X4 rfl cs8 f1 f2 rfl ⟨by omega, by omega⟩ ⟨Nat.zero_le _, Nat.zero_le _⟩ rfl (Nat.le_of_ble_eq_true rfl)) (rfl) (rfl) ?_
  refine J_mem (M' := jRS M t (tTk c L p ((42))) lo hi b) (by exact jRS_2 _ _ _ _ _ _ _) ?_
  refine J_if_eq dX4_readPart_6 (tgt := 11) (by decide) (fun c6 => ?_) (fun c6 => ?_)
  · have c6 := jb0T c6
    refine J_mem (M' := jRS M t p lo hi b) (by rw [tTk_f c6]) ?_
    refine J_aload_n (t) dX4_readPart_11 rfl rfl ?_
    refine J_calli0 (jrunV (As := []) (ct_X4_takeKind l D dA hst (jRS M t p lo hi b) t sg c L p lo hi b (hR.rs (q := p) (lo' := lo) (hi' := hi) (b' := b) f11)) dX4_readPart_12 yY_X4_takeKind gX4_readPart_X4_takeKind rfl cs8 f1 f2 rfl ⟨by omega, by omega⟩ ⟨Nat.zero_le _, Nat.zero_le _⟩ rfl (Nat.le_of_ble_eq_true rfl)) (rfl) (jn_RS _ _ _ _ _ _) ?_
    refine J_mem (M' := jRS M t ((rKind c L p).2) lo hi b) (by exact jRS_RS _ _ _ _ _ _ _ _ _ _) ?_
    refine J_istore_n (lv' := [.ref (t), .int ((rKind c L p).1), .float 0, .float 0, .float 0]) dX4_readPart_15 rfl (by decide) rfl rfl ?_
    refine J_aload_n (t) dX4_readPart_16 rfl rfl ?_
    refine J_calli0 (jrunU (As := []) (ct_X6_takeNumber_8 l D dA hst (jRS M t ((rKind c L p).2) lo hi b) t sg c L ((rKind c L p).2) ((hR.rs (q := (rKind c L p).2) (lo' := lo) (hi' := hi) (b' := b) (rKind_le f11)).1)) dX4_readPart_17 yY_X6_takeNumber gX4_readPart_X6_takeNumber_u58X4 rfl cs8 f1 f2 rfl ⟨by omega, by omega⟩ ⟨Nat.zero_le _, Nat.zero_le _⟩ rfl (Nat.le_of_ble_eq_true rfl)) (rfl) (rfl) ?_
    refine J_mem (M' := jRS M t ((tNum c L ((rKind c L p).2)).2) lo hi b) (by exact jRS_2 _ _ _ _ _ _ _) ?_
    refine J_istore_n (lv' := [.ref (t), .int ((rKind c L p).1), .int ((tNum c L ((rKind c L p).2)).1), .float 0, .float 0]) dX4_readPart_20 rfl (by decide) rfl rfl ?_
    refine J_iload_n dX4_readPart_21 rfl rfl ?_
    refine J_iconst (x := (-1)) dX4_readPart_22 (by decide) ?_
    refine J_icmp_eq dX4_readPart_23 (tgt := 35) (by decide) (fun c23 => ?_) (fun c23 => ?_)
    · refine J_iconst (x := 0) dX4_readPart_35 (by decide) ?_
      exact J_iret (ty := .boolean) dX4_readPart_36 rfl (by rfl) ⟨(by first | contradiction | (simp only [rPt, rP1, rP2, jb_t, jb_f, *, reduceIte, Bool.false_eq_true, and_self, and_false, false_and, true_and, and_true]; done) | fail "p"), (by first | contradiction | (simp only [rPt, rP1, rP2, jb_t, jb_f, *, reduceIte, Bool.false_eq_true, and_self, and_false, false_and, true_and, and_true]; done) | fail "p")⟩
    · refine J_aload_n (t) dX4_readPart_26 rfl rfl ?_
      refine J_bipush (x := 46) dX4_readPart_27 (by decide) ?_
      refine J_calli0 (jrunU (As := [.int (46)]) (ct_X6_takes_8 l D dA hst (jRS M t ((tNum c L ((rKind c L p).2)).2) lo hi b) t sg c L ((tNum c L ((rKind c L p).2)).2) ((hR.rs (q := (tNum c L ((rKind c L p).2)).2) (lo' := lo) (hi' := hi) (b' := b) (tNum_le (rKind_le f11))).1) ((46))) dX4_readPart_29 yY_X6_takes gX4_readPart_X6_takes_u45X4 rfl cs8 f1 f2 rfl ⟨by omega, by omega⟩ ⟨Nat.zero_le _, Nat.zero_le _⟩ rfl (Nat.le_of_ble_eq_true rfl)) (rfl) (rfl) ?_
      refine J_mem (M' := jRS M t (tTk c L ((tNum c L ((rKind c L p).2)).2) ((46))) lo hi b) (by exact jRS_2 _ _ _ _ _ _ _) ?_
      refine J_if_ne dX4_readPart_32 (tgt := 37) (by decide) (fun c32 => ?_) (fun c32 => ?_)
      · have c32 := jb0F c32
        refine J_mem (M' := jRS M t ((tNum c L ((rKind c L p).2)).2 + 1) lo hi b) (by rw [tTk_t c32]) ?_
        refine J_iload_n dX4_readPart_37 rfl rfl ?_
        refine J_ldc (x := 1000000) dX4_readPart_38 (List.mem_of_getElem? (i := 1) rfl) ?_
        refine J_imul dX4_readPart_40 ?_
        refine J_istore_n (lv' := [.ref (t), .int ((rKind c L p).1), .int ((tNum c L ((rKind c L p).2)).1), .int (((tNum c L ((rKind c L p).2)).1) * (1000000)), .float 0]) dX4_readPart_41 rfl (by decide) rfl rfl ?_
        refine J_iload_n dX4_readPart_42 rfl rfl ?_
        refine J_if_ne dX4_readPart_43 (tgt := 68) (by decide) (fun c43 => ?_) (fun c43 => ?_)
        · refine J_aload_n (t) dX4_readPart_68 rfl rfl ?_
          refine J_calli0 (jrunU (As := []) (ct_X6_takeNumber_8 l D dA hst (jRS M t ((tNum c L ((rKind c L p).2)).2 + 1) lo hi b) t sg c L ((tNum c L ((rKind c L p).2)).2 + 1) ((hR.rs (q := (tNum c L ((rKind c L p).2)).2 + 1) (lo' := lo) (hi' := hi) (b' := b) (tIsAt_lt c32)).1)) dX4_readPart_69 yY_X6_takeNumber gX4_readPart_X6_takeNumber_u58X4 rfl cs8 f1 f2 rfl ⟨by omega, by omega⟩ ⟨Nat.zero_le _, Nat.zero_le _⟩ rfl (Nat.le_of_ble_eq_true rfl)) (rfl) (rfl) ?_
          refine J_mem (M' := jRS M t ((tNum c L ((tNum c L ((rKind c L p).2)).2 + 1)).2) lo hi b) (by exact jRS_2 _ _ _ _ _ _ _) ?_
          refine J_istore (lv' := [.ref (t), .int ((rKind c L p).1), .int ((tNum c L ((rKind c L p).2)).1), .int (((tNum c L ((rKind c L p).2)).1) * (1000000)), .int ((tNum c L ((tNum c L ((rKind c L p).2)).2 + 1)).1)]) dX4_readPart_72 (by decide) rfl rfl ?_
          refine J_iload dX4_readPart_74 rfl ?_
          refine J_iconst (x := (-1)) dX4_readPart_76 (by decide) ?_
          refine J_icmp_eq dX4_readPart_77 (tgt := 89) (by decide) (fun c77 => ?_) (fun c77 => ?_)
          · refine J_iconst (x := 0) dX4_readPart_89 (by decide) ?_
            exact J_iret (ty := .boolean) dX4_readPart_90 rfl (by rfl) ⟨(by first | contradiction | (simp only [rPt, rP1, rP2, jb_t, jb_f, *, reduceIte, Bool.false_eq_true, and_self, and_false, false_and, true_and, and_true]; done) | fail "p"), (by first | contradiction | (simp only [rPt, rP1, rP2, jb_t, jb_f, *, reduceIte, Bool.false_eq_true, and_self, and_false, false_and, true_and, and_true]; done) | fail "p")⟩
          · refine J_aload_n (t) dX4_readPart_80 rfl rfl ?_
            refine J_bipush (x := 46) dX4_readPart_81 (by decide) ?_
            refine J_calli0 (jrunU (As := [.int (46)]) (ct_X6_takes_8 l D dA hst (jRS M t ((tNum c L ((tNum c L ((rKind c L p).2)).2 + 1)).2) lo hi b) t sg c L ((tNum c L ((tNum c L ((rKind c L p).2)).2 + 1)).2) ((hR.rs (q := (tNum c L ((tNum c L ((rKind c L p).2)).2 + 1)).2) (lo' := lo) (hi' := hi) (b' := b) (tNum_le (tIsAt_lt c32))).1) ((46))) dX4_readPart_83 yY_X6_takes gX4_readPart_X6_takes_u45X4 rfl cs8 f1 f2 rfl ⟨by omega, by omega⟩ ⟨Nat.zero_le _, Nat.zero_le _⟩ rfl (Nat.le_of_ble_eq_true rfl)) (rfl) (rfl) ?_
            refine J_mem (M' := jRS M t (tTk c L ((tNum c L ((tNum c L ((rKind c L p).2)).2 + 1)).2) ((46))) lo hi b) (by exact jRS_2 _ _ _ _ _ _ _) ?_
            refine J_if_ne dX4_readPart_86 (tgt := 91) (by decide) (fun c86 => ?_) (fun c86 => ?_)
            · have c86 := jb0F c86
              refine J_mem (M' := jRS M t ((tNum c L ((tNum c L ((rKind c L p).2)).2 + 1)).2 + 1) lo hi b) (by rw [tTk_t c86]) ?_
              refine J_iload_n dX4_readPart_91 rfl rfl ?_
              refine J_iload dX4_readPart_92 rfl ?_
              refine J_sipush (x := 10000) dX4_readPart_94 (by decide) ?_
              refine J_imul dX4_readPart_97 ?_
              refine J_iadd dX4_readPart_98 ?_
              refine J_istore_n (lv' := [.ref (t), .int ((rKind c L p).1), .int ((tNum c L ((rKind c L p).2)).1), .int ((((tNum c L ((rKind c L p).2)).1) * (1000000)) + (((tNum c L ((tNum c L ((rKind c L p).2)).2 + 1)).1) * (10000))), .int ((tNum c L ((tNum c L ((rKind c L p).2)).2 + 1)).1)]) dX4_readPart_99 rfl (by decide) rfl rfl ?_
              refine J_iload_n dX4_readPart_100 rfl rfl ?_
              refine J_if_ne dX4_readPart_101 (tgt := 127) (by decide) (fun c101 => ?_) (fun c101 => ?_)
              · refine J_aload_n (t) dX4_readPart_127 rfl rfl ?_
                refine J_iload_n dX4_readPart_128 rfl rfl ?_
                refine J_iload_n dX4_readPart_129 rfl rfl ?_
                refine J_calli0 (jrunV (As := [.int ((rKind c L p).1), .int ((((tNum c L ((rKind c L p).2)).1) * (1000000)) + (((tNum c L ((tNum c L ((rKind c L p).2)).2 + 1)).1) * (10000)))]) (ct_X4_readVersionEnd l D dA hst (jRS M t ((tNum c L ((tNum c L ((rKind c L p).2)).2 + 1)).2 + 1) lo hi b) t sg c L ((tNum c L ((tNum c L ((rKind c L p).2)).2 + 1)).2 + 1) lo hi b (hR.rs (q := (tNum c L ((tNum c L ((rKind c L p).2)).2 + 1)).2 + 1) (lo' := lo) (hi' := hi) (b' := b) (tIsAt_lt c86)) (((rKind c L p).1)) (((((tNum c L ((rKind c L p).2)).1) * (1000000)) + (((tNum c L ((tNum c L ((rKind c L p).2)).2 + 1)).1) * (10000))))) dX4_readPart_130 yY_X4_readVersionEnd gX4_readPart_X4_readVersionEnd rfl cs8 f1 f2 rfl ⟨by omega, by omega⟩ ⟨Nat.zero_le _, Nat.zero_le _⟩ rfl (Nat.le_of_ble_eq_true rfl)) (rfl) (jn_RS _ _ _ _ _ _) ?_
                refine J_mem (M' := jRS M t ((rVe c L (((rKind c L p).1)) (((((tNum c L ((rKind c L p).2)).1) * (1000000)) + (((tNum c L ((tNum c L ((rKind c L p).2)).2 + 1)).1) * (10000)))) ((tNum c L ((tNum c L ((rKind c L p).2)).2 + 1)).2 + 1) lo hi b).2.1) ((rVe c L (((rKind c L p).1)) (((((tNum c L ((rKind c L p).2)).1) * (1000000)) + (((tNum c L ((tNum c L ((rKind c L p).2)).2 + 1)).1) * (10000)))) ((tNum c L ((tNum c L ((rKind c L p).2)).2 + 1)).2 + 1) lo hi b).2.2.1) ((rVe c L (((rKind c L p).1)) (((((tNum c L ((rKind c L p).2)).1) * (1000000)) + (((tNum c L ((tNum c L ((rKind c L p).2)).2 + 1)).1) * (10000)))) ((tNum c L ((tNum c L ((rKind c L p).2)).2 + 1)).2 + 1) lo hi b).2.2.2.1) ((rVe c L (((rKind c L p).1)) (((((tNum c L ((rKind c L p).2)).1) * (1000000)) + (((tNum c L ((tNum c L ((rKind c L p).2)).2 + 1)).1) * (10000)))) ((tNum c L ((tNum c L ((rKind c L p).2)).2 + 1)).2 + 1) lo hi b).2.2.2.2)) (by exact jRS_RS _ _ _ _ _ _ _ _ _ _) ?_
                exact J_iret (ty := .boolean) dX4_readPart_133 rfl (jb_n _) ⟨(by first | contradiction | (simp only [rPt, rP1, rP2, jb_t, jb_f, *, reduceIte, Bool.false_eq_true, and_self, and_false, false_and, true_and, and_true]; done) | fail "p"), (by first | contradiction | (simp only [rPt, rP1, rP2, jb_t, jb_f, *, reduceIte, Bool.false_eq_true, and_self, and_false, false_and, true_and, and_true]; done) | fail "p")⟩
              · refine J_aload_n (t) dX4_readPart_104 rfl rfl ?_
                refine J_bipush (x := 120) dX4_readPart_105 (by decide) ?_
                refine J_calli0 (jrunU (As := [.int (120)]) (ct_X6_takes_8 l D dA hst (jRS M t ((tNum c L ((tNum c L ((rKind c L p).2)).2 + 1)).2 + 1) lo hi b) t sg c L ((tNum c L ((tNum c L ((rKind c L p).2)).2 + 1)).2 + 1) ((hR.rs (q := (tNum c L ((tNum c L ((rKind c L p).2)).2 + 1)).2 + 1) (lo' := lo) (hi' := hi) (b' := b) (tIsAt_lt c86)).1) ((120))) dX4_readPart_107 yY_X6_takes gX4_readPart_X6_takes_u45X4 rfl cs8 f1 f2 rfl ⟨by omega, by omega⟩ ⟨Nat.zero_le _, Nat.zero_le _⟩ rfl (Nat.le_of_ble_eq_true rfl)) (rfl) (rfl) ?_
                refine J_mem (M' := jRS M t (tTk c L ((tNum c L ((tNum c L ((rKind c L p).2)).2 + 1)).2 + 1) ((120))) lo hi b) (by exact jRS_2 _ _ _ _ _ _ _) ?_
                refine J_if_eq dX4_readPart_110 (tgt := 127) (by decide) (fun c110 => ?_) (fun c110 => ?_)
                · have c110 := jb0T c110
                  refine J_mem (M' := jRS M t ((tNum c L ((tNum c L ((rKind c L p).2)).2 + 1)).2 + 1) lo hi b) (by rw [tTk_f c110]) ?_
                  refine J_aload_n (t) dX4_readPart_127 rfl rfl ?_
                  refine J_iload_n dX4_readPart_128 rfl rfl ?_
                  refine J_iload_n dX4_readPart_129 rfl rfl ?_
                  refine J_calli0 (jrunV (As := [.int ((rKind c L p).1), .int ((((tNum c L ((rKind c L p).2)).1) * (1000000)) + (((tNum c L ((tNum c L ((rKind c L p).2)).2 + 1)).1) * (10000)))]) (ct_X4_readVersionEnd l D dA hst (jRS M t ((tNum c L ((tNum c L ((rKind c L p).2)).2 + 1)).2 + 1) lo hi b) t sg c L ((tNum c L ((tNum c L ((rKind c L p).2)).2 + 1)).2 + 1) lo hi b (hR.rs (q := (tNum c L ((tNum c L ((rKind c L p).2)).2 + 1)).2 + 1) (lo' := lo) (hi' := hi) (b' := b) (tIsAt_lt c86)) (((rKind c L p).1)) (((((tNum c L ((rKind c L p).2)).1) * (1000000)) + (((tNum c L ((tNum c L ((rKind c L p).2)).2 + 1)).1) * (10000))))) dX4_readPart_130 yY_X4_readVersionEnd gX4_readPart_X4_readVersionEnd rfl cs8 f1 f2 rfl ⟨by omega, by omega⟩ ⟨Nat.zero_le _, Nat.zero_le _⟩ rfl (Nat.le_of_ble_eq_true rfl)) (rfl) (jn_RS _ _ _ _ _ _) ?_
                  refine J_mem (M' := jRS M t ((rVe c L (((rKind c L p).1)) (((((tNum c L ((rKind c L p).2)).1) * (1000000)) + (((tNum c L ((tNum c L ((rKind c L p).2)).2 + 1)).1) * (10000)))) ((tNum c L ((tNum c L ((rKind c L p).2)).2 + 1)).2 + 1) lo hi b).2.1) ((rVe c L (((rKind c L p).1)) (((((tNum c L ((rKind c L p).2)).1) * (1000000)) + (((tNum c L ((tNum c L ((rKind c L p).2)).2 + 1)).1) * (10000)))) ((tNum c L ((tNum c L ((rKind c L p).2)).2 + 1)).2 + 1) lo hi b).2.2.1) ((rVe c L (((rKind c L p).1)) (((((tNum c L ((rKind c L p).2)).1) * (1000000)) + (((tNum c L ((tNum c L ((rKind c L p).2)).2 + 1)).1) * (10000)))) ((tNum c L ((tNum c L ((rKind c L p).2)).2 + 1)).2 + 1) lo hi b).2.2.2.1) ((rVe c L (((rKind c L p).1)) (((((tNum c L ((rKind c L p).2)).1) * (1000000)) + (((tNum c L ((tNum c L ((rKind c L p).2)).2 + 1)).1) * (10000)))) ((tNum c L ((tNum c L ((rKind c L p).2)).2 + 1)).2 + 1) lo hi b).2.2.2.2)) (by exact jRS_RS _ _ _ _ _ _ _ _ _ _) ?_
                  exact J_iret (ty := .boolean) dX4_readPart_133 rfl (jb_n _) ⟨(by first | contradiction | (simp only [rPt, rP1, rP2, jb_t, jb_f, *, reduceIte, Bool.false_eq_true, and_self, and_false, false_and, true_and, and_true]; done) | fail "p"), (by first | contradiction | (simp only [rPt, rP1, rP2, jb_t, jb_f, *, reduceIte, Bool.false_eq_true, and_self, and_false, false_and, true_and, and_true]; done) | fail "p")⟩
                · have c110 := jb0F c110
                  refine J_mem (M' := jRS M t ((tNum c L ((tNum c L ((rKind c L p).2)).2 + 1)).2 + 1 + 1) lo hi b) (by rw [tTk_t c110]) ?_
                  refine J_aload_n (t) dX4_readPart_113 rfl rfl ?_
                  refine J_iload_n dX4_readPart_114 rfl rfl ?_
                  refine J_iload_n dX4_readPart_115 rfl rfl ?_
                  refine J_sipush (x := 10000) dX4_readPart_116 (by decide) ?_
                  refine J_iadd dX4_readPart_119 ?_
                  refine J_iconst (x := 1) dX4_readPart_120 (by decide) ?_
                  refine J_isub dX4_readPart_121 ?_
                  refine J_callv0 (jrunV (As := [.int ((((tNum c L ((rKind c L p).2)).1) * (1000000)) + (((tNum c L ((tNum c L ((rKind c L p).2)).2 + 1)).1) * (10000))), .int ((((((tNum c L ((rKind c L p).2)).1) * (1000000)) + (((tNum c L ((tNum c L ((rKind c L p).2)).2 + 1)).1) * (10000))) + (10000)) - (1))]) (ct_X4_narrow l D dA hst (jRS M t ((tNum c L ((tNum c L ((rKind c L p).2)).2 + 1)).2 + 1 + 1) lo hi b) t sg c L ((tNum c L ((tNum c L ((rKind c L p).2)).2 + 1)).2 + 1 + 1) lo hi b (hR.rs (q := (tNum c L ((tNum c L ((rKind c L p).2)).2 + 1)).2 + 1 + 1) (lo' := lo) (hi' := hi) (b' := b) (tIsAt_lt c110)) (((((tNum c L ((rKind c L p).2)).1) * (1000000)) + (((tNum c L ((tNum c L ((rKind c L p).2)).2 + 1)).1) * (10000)))) (((((((tNum c L ((rKind c L p).2)).1) * (1000000)) + (((tNum c L ((tNum c L ((rKind c L p).2)).2 + 1)).1) * (10000))) + (10000)) - (1)))) dX4_readPart_122 yY_X4_narrow gX4_readPart_X4_narrow rfl cs8 f1 f2 rfl ⟨by omega, by omega⟩ ⟨Nat.zero_le _, Nat.zero_le _⟩ rfl (Nat.le_of_ble_eq_true rfl)) (rfl) (jn_RS _ _ _ _ _ _) ?_
                  refine J_mem (M' := jRS M t (((tNum c L ((tNum c L ((rKind c L p).2)).2 + 1)).2 + 1 + 1)) (iMx lo (((((tNum c L ((rKind c L p).2)).1) * (1000000)) + (((tNum c L ((tNum c L ((rKind c L p).2)).2 + 1)).1) * (10000))))) (rMin hi (((((((tNum c L ((rKind c L p).2)).1) * (1000000)) + (((tNum c L ((tNum c L ((rKind c L p).2)).2 + 1)).1) * (10000))) + (10000)) - (1)))) b) (by exact jRS_RS _ _ _ _ _ _ _ _ _ _) ?_
                  refine J_iconst (x := 1) dX4_readPart_125 (by decide) ?_
                  exact J_iret (ty := .boolean) dX4_readPart_126 rfl (by rfl) ⟨(by first | contradiction | (simp only [rPt, rP1, rP2, jb_t, jb_f, *, reduceIte, Bool.false_eq_true, and_self, and_false, false_and, true_and, and_true]; done) | fail "p"), (by first | contradiction | (simp only [rPt, rP1, rP2, jb_t, jb_f, *, reduceIte, Bool.false_eq_true, and_self, and_false, false_and, true_and, and_true]; done) | fail "p")⟩
            · have c86 := jb0T c86
              refine J_mem (M' := jRS M t ((tNum c L ((tNum c L ((rKind c L p).2)).2 + 1)).2) lo hi b) (by rw [tTk_f c86]) ?_
              refine J_iconst (x := 0) dX4_readPart_89 (by decide) ?_
              exact J_iret (ty := .boolean) dX4_readPart_90 rfl (by rfl) ⟨(by first | contradiction | (simp only [rPt, rP1, rP2, jb_t, jb_f, *, reduceIte, Bool.false_eq_true, and_self, and_false, false_and, true_and, and_true]; done) | fail "p"), (by first | contradiction | (simp only [rPt, rP1, rP2, jb_t, jb_f, *, reduceIte, Bool.false_eq_true, and_self, and_false, false_and, true_and, and_true]; done) | fail "p")⟩
        · refine J_aload_n (t) dX4_readPart_46 rfl rfl ?_
          refine J_bipush (x := 120) dX4_readPart_47 (by decide) ?_
          refine J_calli0 (jrunU (As := [.int (120)]) (ct_X6_takes_8 l D dA hst (jRS M t ((tNum c L ((rKind c L p).2)).2 + 1) lo hi b) t sg c L ((tNum c L ((rKind c L p).2)).2 + 1) ((hR.rs (q := (tNum c L ((rKind c L p).2)).2 + 1) (lo' := lo) (hi' := hi) (b' := b) (tIsAt_lt c32)).1) ((120))) dX4_readPart_49 yY_X6_takes gX4_readPart_X6_takes_u45X4 rfl cs8 f1 f2 rfl ⟨by omega, by omega⟩ ⟨Nat.zero_le _, Nat.zero_le _⟩ rfl (Nat.le_of_ble_eq_true rfl)) (rfl) (rfl) ?_
          refine J_mem (M' := jRS M t (tTk c L ((tNum c L ((rKind c L p).2)).2 + 1) ((120))) lo hi b) (by exact jRS_2 _ _ _ _ _ _ _) ?_
          refine J_if_eq dX4_readPart_52 (tgt := 68) (by decide) (fun c52 => ?_) (fun c52 => ?_)
          · have c52 := jb0T c52
            refine J_mem (M' := jRS M t ((tNum c L ((rKind c L p).2)).2 + 1) lo hi b) (by rw [tTk_f c52]) ?_
            refine J_aload_n (t) dX4_readPart_68 rfl rfl ?_
            refine J_calli0 (jrunU (As := []) (ct_X6_takeNumber_8 l D dA hst (jRS M t ((tNum c L ((rKind c L p).2)).2 + 1) lo hi b) t sg c L ((tNum c L ((rKind c L p).2)).2 + 1) ((hR.rs (q := (tNum c L ((rKind c L p).2)).2 + 1) (lo' := lo) (hi' := hi) (b' := b) (tIsAt_lt c32)).1)) dX4_readPart_69 yY_X6_takeNumber gX4_readPart_X6_takeNumber_u58X4 rfl cs8 f1 f2 rfl ⟨by omega, by omega⟩ ⟨Nat.zero_le _, Nat.zero_le _⟩ rfl (Nat.le_of_ble_eq_true rfl)) (rfl) (rfl) ?_
            refine J_mem (M' := jRS M t ((tNum c L ((tNum c L ((rKind c L p).2)).2 + 1)).2) lo hi b) (by exact jRS_2 _ _ _ _ _ _ _) ?_
            refine J_istore (lv' := [.ref (t), .int ((rKind c L p).1), .int ((tNum c L ((rKind c L p).2)).1), .int (((tNum c L ((rKind c L p).2)).1) * (1000000)), .int ((tNum c L ((tNum c L ((rKind c L p).2)).2 + 1)).1)]) dX4_readPart_72 (by decide) rfl rfl ?_
            refine J_iload dX4_readPart_74 rfl ?_
            refine J_iconst (x := (-1)) dX4_readPart_76 (by decide) ?_
            refine J_icmp_eq dX4_readPart_77 (tgt := 89) (by decide) (fun c77 => ?_) (fun c77 => ?_)
            · refine J_iconst (x := 0) dX4_readPart_89 (by decide) ?_
              exact J_iret (ty := .boolean) dX4_readPart_90 rfl (by rfl) ⟨(by first | contradiction | (simp only [rPt, rP1, rP2, jb_t, jb_f, *, reduceIte, Bool.false_eq_true, and_self, and_false, false_and, true_and, and_true]; done) | fail "p"), (by first | contradiction | (simp only [rPt, rP1, rP2, jb_t, jb_f, *, reduceIte, Bool.false_eq_true, and_self, and_false, false_and, true_and, and_true]; done) | fail "p")⟩
            · refine J_aload_n (t) dX4_readPart_80 rfl rfl ?_
              refine J_bipush (x := 46) dX4_readPart_81 (by decide) ?_
              refine J_calli0 (jrunU (As := [.int (46)]) (ct_X6_takes_8 l D dA hst (jRS M t ((tNum c L ((tNum c L ((rKind c L p).2)).2 + 1)).2) lo hi b) t sg c L ((tNum c L ((tNum c L ((rKind c L p).2)).2 + 1)).2) ((hR.rs (q := (tNum c L ((tNum c L ((rKind c L p).2)).2 + 1)).2) (lo' := lo) (hi' := hi) (b' := b) (tNum_le (tIsAt_lt c32))).1) ((46))) dX4_readPart_83 yY_X6_takes gX4_readPart_X6_takes_u45X4 rfl cs8 f1 f2 rfl ⟨by omega, by omega⟩ ⟨Nat.zero_le _, Nat.zero_le _⟩ rfl (Nat.le_of_ble_eq_true rfl)) (rfl) (rfl) ?_
              refine J_mem (M' := jRS M t (tTk c L ((tNum c L ((tNum c L ((rKind c L p).2)).2 + 1)).2) ((46))) lo hi b) (by exact jRS_2 _ _ _ _ _ _ _) ?_
              refine J_if_ne dX4_readPart_86 (tgt := 91) (by decide) (fun c86 => ?_) (fun c86 => ?_)
              · have c86 := jb0F c86
                refine J_mem (M' := jRS M t ((tNum c L ((tNum c L ((rKind c L p).2)).2 + 1)).2 + 1) lo hi b) (by rw [tTk_t c86]) ?_
                refine J_iload_n dX4_readPart_91 rfl rfl ?_
                refine J_iload dX4_readPart_92 rfl ?_
                refine J_sipush (x := 10000) dX4_readPart_94 (by decide) ?_
                refine J_imul dX4_readPart_97 ?_
                refine J_iadd dX4_readPart_98 ?_
                refine J_istore_n (lv' := [.ref (t), .int ((rKind c L p).1), .int ((tNum c L ((rKind c L p).2)).1), .int ((((tNum c L ((rKind c L p).2)).1) * (1000000)) + (((tNum c L ((tNum c L ((rKind c L p).2)).2 + 1)).1) * (10000))), .int ((tNum c L ((tNum c L ((rKind c L p).2)).2 + 1)).1)]) dX4_readPart_99 rfl (by decide) rfl rfl ?_
                refine J_iload_n dX4_readPart_100 rfl rfl ?_
                refine J_if_ne dX4_readPart_101 (tgt := 127) (by decide) (fun c101 => ?_) (fun c101 => ?_)
                · refine J_aload_n (t) dX4_readPart_127 rfl rfl ?_
                  refine J_iload_n dX4_readPart_128 rfl rfl ?_
                  refine J_iload_n dX4_readPart_129 rfl rfl ?_
                  refine J_calli0 (jrunV (As := [.int ((rKind c L p).1), .int ((((tNum c L ((rKind c L p).2)).1) * (1000000)) + (((tNum c L ((tNum c L ((rKind c L p).2)).2 + 1)).1) * (10000)))]) (ct_X4_readVersionEnd l D dA hst (jRS M t ((tNum c L ((tNum c L ((rKind c L p).2)).2 + 1)).2 + 1) lo hi b) t sg c L ((tNum c L ((tNum c L ((rKind c L p).2)).2 + 1)).2 + 1) lo hi b (hR.rs (q := (tNum c L ((tNum c L ((rKind c L p).2)).2 + 1)).2 + 1) (lo' := lo) (hi' := hi) (b' := b) (tIsAt_lt c86)) (((rKind c L p).1)) (((((tNum c L ((rKind c L p).2)).1) * (1000000)) + (((tNum c L ((tNum c L ((rKind c L p).2)).2 + 1)).1) * (10000))))) dX4_readPart_130 yY_X4_readVersionEnd gX4_readPart_X4_readVersionEnd rfl cs8 f1 f2 rfl ⟨by omega, by omega⟩ ⟨Nat.zero_le _, Nat.zero_le _⟩ rfl (Nat.le_of_ble_eq_true rfl)) (rfl) (jn_RS _ _ _ _ _ _) ?_
                  refine J_mem (M' := jRS M t ((rVe c L (((rKind c L p).1)) (((((tNum c L ((rKind c L p).2)).1) * (1000000)) + (((tNum c L ((tNum c L ((rKind c L p).2)).2 + 1)).1) * (10000)))) ((tNum c L ((tNum c L ((rKind c L p).2)).2 + 1)).2 + 1) lo hi b).2.1) ((rVe c L (((rKind c L p).1)) (((((tNum c L ((rKind c L p).2)).1) * (1000000)) + (((tNum c L ((tNum c L ((rKind c L p).2)).2 + 1)).1) * (10000)))) ((tNum c L ((tNum c L ((rKind c L p).2)).2 + 1)).2 + 1) lo hi b).2.2.1) ((rVe c L (((rKind c L p).1)) (((((tNum c L ((rKind c L p).2)).1) * (1000000)) + (((tNum c L ((tNum c L ((rKind c L p).2)).2 + 1)).1) * (10000)))) ((tNum c L ((tNum c L ((rKind c L p).2)).2 + 1)).2 + 1) lo hi b).2.2.2.1) ((rVe c L (((rKind c L p).1)) (((((tNum c L ((rKind c L p).2)).1) * (1000000)) + (((tNum c L ((tNum c L ((rKind c L p).2)).2 + 1)).1) * (10000)))) ((tNum c L ((tNum c L ((rKind c L p).2)).2 + 1)).2 + 1) lo hi b).2.2.2.2)) (by exact jRS_RS _ _ _ _ _ _ _ _ _ _) ?_
                  exact J_iret (ty := .boolean) dX4_readPart_133 rfl (jb_n _) ⟨(by first | contradiction | (simp only [rPt, rP1, rP2, jb_t, jb_f, *, reduceIte, Bool.false_eq_true, and_self, and_false, false_and, true_and, and_true]; done) | fail "p"), (by first | contradiction | (simp only [rPt, rP1, rP2, jb_t, jb_f, *, reduceIte, Bool.false_eq_true, and_self, and_false, false_and, true_and, and_true]; done) | fail "p")⟩
                · refine J_aload_n (t) dX4_readPart_104 rfl rfl ?_
                  refine J_bipush (x := 120) dX4_readPart_105 (by decide) ?_
                  refine J_calli0 (jrunU (As := [.int (120)]) (ct_X6_takes_8 l D dA hst (jRS M t ((tNum c L ((tNum c L ((rKind c L p).2)).2 + 1)).2 + 1) lo hi b) t sg c L ((tNum c L ((tNum c L ((rKind c L p).2)).2 + 1)).2 + 1) ((hR.rs (q := (tNum c L ((tNum c L ((rKind c L p).2)).2 + 1)).2 + 1) (lo' := lo) (hi' := hi) (b' := b) (tIsAt_lt c86)).1) ((120))) dX4_readPart_107 yY_X6_takes gX4_readPart_X6_takes_u45X4 rfl cs8 f1 f2 rfl ⟨by omega, by omega⟩ ⟨Nat.zero_le _, Nat.zero_le _⟩ rfl (Nat.le_of_ble_eq_true rfl)) (rfl) (rfl) ?_
                  refine J_mem (M' := jRS M t (tTk c L ((tNum c L ((tNum c L ((rKind c L p).2)).2 + 1)).2 + 1) ((120))) lo hi b) (by exact jRS_2 _ _ _ _ _ _ _) ?_
                  refine J_if_eq dX4_readPart_110 (tgt := 127) (by decide) (fun c110 => ?_) (fun c110 => ?_)
                  · have c110 := jb0T c110
                    refine J_mem (M' := jRS M t ((tNum c L ((tNum c L ((rKind c L p).2)).2 + 1)).2 + 1) lo hi b) (by rw [tTk_f c110]) ?_
                    refine J_aload_n (t) dX4_readPart_127 rfl rfl ?_
                    refine J_iload_n dX4_readPart_128 rfl rfl ?_
                    refine J_iload_n dX4_readPart_129 rfl rfl ?_
                    refine J_calli0 (jrunV (As := [.int ((rKind c L p).1), .int ((((tNum c L ((rKind c L p).2)).1) * (1000000)) + (((tNum c L ((tNum c L ((rKind c L p).2)).2 + 1)).1) * (10000)))]) (ct_X4_readVersionEnd l D dA hst (jRS M t ((tNum c L ((tNum c L ((rKind c L p).2)).2 + 1)).2 + 1) lo hi b) t sg c L ((tNum c L ((tNum c L ((rKind c L p).2)).2 + 1)).2 + 1) lo hi b (hR.rs (q := (tNum c L ((tNum c L ((rKind c L p).2)).2 + 1)).2 + 1) (lo' := lo) (hi' := hi) (b' := b) (tIsAt_lt c86)) (((rKind c L p).1)) (((((tNum c L ((rKind c L p).2)).1) * (1000000)) + (((tNum c L ((tNum c L ((rKind c L p).2)).2 + 1)).1) * (10000))))) dX4_readPart_130 yY_X4_readVersionEnd gX4_readPart_X4_readVersionEnd rfl cs8 f1 f2 rfl ⟨by omega, by omega⟩ ⟨Nat.zero_le _, Nat.zero_le _⟩ rfl (Nat.le_of_ble_eq_true rfl)) (rfl) (jn_RS _ _ _ _ _ _) ?_
                    refine J_mem (M' := jRS M t ((rVe c L (((rKind c L p).1)) (((((tNum c L ((rKind c L p).2)).1) * (1000000)) + (((tNum c L ((tNum c L ((rKind c L p).2)).2 + 1)).1) * (10000)))) ((tNum c L ((tNum c L ((rKind c L p).2)).2 + 1)).2 + 1) lo hi b).2.1) ((rVe c L (((rKind c L p).1)) (((((tNum c L ((rKind c L p).2)).1) * (1000000)) + (((tNum c L ((tNum c L ((rKind c L p).2)).2 + 1)).1) * (10000)))) ((tNum c L ((tNum c L ((rKind c L p).2)).2 + 1)).2 + 1) lo hi b).2.2.1) ((rVe c L (((rKind c L p).1)) (((((tNum c L ((rKind c L p).2)).1) * (1000000)) + (((tNum c L ((tNum c L ((rKind c L p).2)).2 + 1)).1) * (10000)))) ((tNum c L ((tNum c L ((rKind c L p).2)).2 + 1)).2 + 1) lo hi b).2.2.2.1) ((rVe c L (((rKind c L p).1)) (((((tNum c L ((rKind c L p).2)).1) * (1000000)) + (((tNum c L ((tNum c L ((rKind c L p).2)).2 + 1)).1) * (10000)))) ((tNum c L ((tNum c L ((rKind c L p).2)).2 + 1)).2 + 1) lo hi b).2.2.2.2)) (by exact jRS_RS _ _ _ _ _ _ _ _ _ _) ?_
                    exact J_iret (ty := .boolean) dX4_readPart_133 rfl (jb_n _) ⟨(by first | contradiction | (simp only [rPt, rP1, rP2, jb_t, jb_f, *, reduceIte, Bool.false_eq_true, and_self, and_false, false_and, true_and, and_true]; done) | fail "p"), (by first | contradiction | (simp only [rPt, rP1, rP2, jb_t, jb_f, *, reduceIte, Bool.false_eq_true, and_self, and_false, false_and, true_and, and_true]; done) | fail "p")⟩
                  · have c110 := jb0F c110
                    refine J_mem (M' := jRS M t ((tNum c L ((tNum c L ((rKind c L p).2)).2 + 1)).2 + 1 + 1) lo hi b) (by rw [tTk_t c110]) ?_
                    refine J_aload_n (t) dX4_readPart_113 rfl rfl ?_
                    refine J_iload_n dX4_readPart_114 rfl rfl ?_
                    refine J_iload_n dX4_readPart_115 rfl rfl ?_
                    refine J_sipush (x := 10000) dX4_readPart_116 (by decide) ?_
                    refine J_iadd dX4_readPart_119 ?_
                    refine J_iconst (x := 1) dX4_readPart_120 (by decide) ?_
                    refine J_isub dX4_readPart_121 ?_
                    refine J_callv0 (jrunV (As := [.int ((((tNum c L ((rKind c L p).2)).1) * (1000000)) + (((tNum c L ((tNum c L ((rKind c L p).2)).2 + 1)).1) * (10000))), .int ((((((tNum c L ((rKind c L p).2)).1) * (1000000)) + (((tNum c L ((tNum c L ((rKind c L p).2)).2 + 1)).1) * (10000))) + (10000)) - (1))]) (ct_X4_narrow l D dA hst (jRS M t ((tNum c L ((tNum c L ((rKind c L p).2)).2 + 1)).2 + 1 + 1) lo hi b) t sg c L ((tNum c L ((tNum c L ((rKind c L p).2)).2 + 1)).2 + 1 + 1) lo hi b (hR.rs (q := (tNum c L ((tNum c L ((rKind c L p).2)).2 + 1)).2 + 1 + 1) (lo' := lo) (hi' := hi) (b' := b) (tIsAt_lt c110)) (((((tNum c L ((rKind c L p).2)).1) * (1000000)) + (((tNum c L ((tNum c L ((rKind c L p).2)).2 + 1)).1) * (10000)))) (((((((tNum c L ((rKind c L p).2)).1) * (1000000)) + (((tNum c L ((tNum c L ((rKind c L p).2)).2 + 1)).1) * (10000))) + (10000)) - (1)))) dX4_readPart_122 yY_X4_narrow gX4_readPart_X4_narrow rfl cs8 f1 f2 rfl ⟨by omega, by omega⟩ ⟨Nat.zero_le _, Nat.zero_le _⟩ rfl (Nat.le_of_ble_eq_true rfl)) (rfl) (jn_RS _ _ _ _ _ _) ?_
                    refine J_mem (M' := jRS M t (((tNum c L ((tNum c L ((rKind c L p).2)).2 + 1)).2 + 1 + 1)) (iMx lo (((((tNum c L ((rKind c L p).2)).1) * (1000000)) + (((tNum c L ((tNum c L ((rKind c L p).2)).2 + 1)).1) * (10000))))) (rMin hi (((((((tNum c L ((rKind c L p).2)).1) * (1000000)) + (((tNum c L ((tNum c L ((rKind c L p).2)).2 + 1)).1) * (10000))) + (10000)) - (1)))) b) (by exact jRS_RS _ _ _ _ _ _ _ _ _ _) ?_
                    refine J_iconst (x := 1) dX4_readPart_125 (by decide) ?_
                    exact J_iret (ty := .boolean) dX4_readPart_126 rfl (by rfl) ⟨(by first | contradiction | (simp only [rPt, rP1, rP2, jb_t, jb_f, *, reduceIte, Bool.false_eq_true, and_self, and_false, false_and, true_and, and_true]; done) | fail "p"), (by first | contradiction | (simp only [rPt, rP1, rP2, jb_t, jb_f, *, reduceIte, Bool.false_eq_true, and_self, and_false, false_and, true_and, and_true]; done) | fail "p")⟩
              · have c86 := jb0T c86
                refine J_mem (M' := jRS M t ((tNum c L ((tNum c L ((rKind c L p).2)).2 + 1)).2) lo hi b) (by rw [tTk_f c86]) ?_
                refine J_iconst (x := 0) dX4_readPart_89 (by decide) ?_
                exact J_iret (ty := .boolean) dX4_readPart_90 rfl (by rfl) ⟨(by first | contradiction | (simp only [rPt, rP1, rP2, jb_t, jb_f, *, reduceIte, Bool.false_eq_true, and_self, and_false, false_and, true_and, and_true]; done) | fail "p"), (by first | contradiction | (simp only [rPt, rP1, rP2, jb_t, jb_f, *, reduceIte, Bool.false_eq_true, and_self, and_false, false_and, true_and, and_true]; done) | fail "p")⟩
          · have c52 := jb0F c52
            refine J_mem (M' := jRS M t ((tNum c L ((rKind c L p).2)).2 + 1 + 1) lo hi b) (by rw [tTk_t c52]) ?_
            refine J_aload_n (t) dX4_readPart_55 rfl rfl ?_
            refine J_iload_n dX4_readPart_56 rfl rfl ?_
            refine J_iload_n dX4_readPart_57 rfl rfl ?_
            refine J_ldc (x := 1000000) dX4_readPart_58 (List.mem_of_getElem? (i := 1) rfl) ?_
            refine J_iadd dX4_readPart_60 ?_
            refine J_iconst (x := 1) dX4_readPart_61 (by decide) ?_
            refine J_isub dX4_readPart_62 ?_
            refine J_callv0 (jrunV (As := [.int (((tNum c L ((rKind c L p).2)).1) * (1000000)), .int (((((tNum c L ((rKind c L p).2)).1) * (1000000)) + (1000000)) - (1))]) (ct_X4_narrow l D dA hst (jRS M t ((tNum c L ((rKind c L p).2)).2 + 1 + 1) lo hi b) t sg c L ((tNum c L ((rKind c L p).2)).2 + 1 + 1) lo hi b (hR.rs (q := (tNum c L ((rKind c L p).2)).2 + 1 + 1) (lo' := lo) (hi' := hi) (b' := b) (tIsAt_lt c52)) ((((tNum c L ((rKind c L p).2)).1) * (1000000))) ((((((tNum c L ((rKind c L p).2)).1) * (1000000)) + (1000000)) - (1)))) dX4_readPart_63 yY_X4_narrow gX4_readPart_X4_narrow rfl cs8 f1 f2 rfl ⟨by omega, by omega⟩ ⟨Nat.zero_le _, Nat.zero_le _⟩ rfl (Nat.le_of_ble_eq_true rfl)) (rfl) (jn_RS _ _ _ _ _ _) ?_
            refine J_mem (M' := jRS M t (((tNum c L ((rKind c L p).2)).2 + 1 + 1)) (iMx lo ((((tNum c L ((rKind c L p).2)).1) * (1000000)))) (rMin hi ((((((tNum c L ((rKind c L p).2)).1) * (1000000)) + (1000000)) - (1)))) b) (by exact jRS_RS _ _ _ _ _ _ _ _ _ _) ?_
            refine J_iconst (x := 1) dX4_readPart_66 (by decide) ?_
            exact J_iret (ty := .boolean) dX4_readPart_67 rfl (by rfl) ⟨(by first | contradiction | (simp only [rPt, rP1, rP2, jb_t, jb_f, *, reduceIte, Bool.false_eq_true, and_self, and_false, false_and, true_and, and_true]; done) | fail "p"), (by first | contradiction | (simp only [rPt, rP1, rP2, jb_t, jb_f, *, reduceIte, Bool.false_eq_true, and_self, and_false, false_and, true_and, and_true]; done) | fail "p")⟩
      · have c32 := jb0T c32
        refine J_mem (M' := jRS M t ((tNum c L ((rKind c L p).2)).2) lo hi b) (by rw [tTk_f c32]) ?_
        refine J_iconst (x := 0) dX4_readPart_35 (by decide) ?_
        exact J_iret (ty := .boolean) dX4_readPart_36 rfl (by rfl) ⟨(by first | contradiction | (simp only [rPt, rP1, rP2, jb_t, jb_f, *, reduceIte, Bool.false_eq_true, and_self, and_false, false_and, true_and, and_true]; done) | fail "p"), (by first | contradiction | (simp only [rPt, rP1, rP2, jb_t, jb_f, *, reduceIte, Bool.false_eq_true, and_self, and_false, false_and, true_and, and_true]; done) | fail "p")⟩
  · have c6 := jb0F c6
    refine J_mem (M' := jRS M t (p + 1) lo hi b) (by rw [tTk_t c6]) ?_
    refine J_iconst (x := 1) dX4_readPart_9 (by decide) ?_
    exact J_iret (ty := .boolean) dX4_readPart_10 rfl (by rfl) ⟨(by first | contradiction | (simp only [rPt, rP1, rP2, jb_t, jb_f, *, reduceIte, Bool.false_eq_true, and_self, and_false, false_and, true_and, and_true]; done) | fail "p"), (by first | contradiction | (simp only [rPt, rP1, rP2, jb_t, jb_f, *, reduceIte, Bool.false_eq_true, and_self, and_false, false_and, true_and, and_true]; done) | fail "p")⟩

