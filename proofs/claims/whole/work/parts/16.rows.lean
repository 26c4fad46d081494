section Less
variable {l : Launch} {D : va_G} {dA : Nat → ClassId} {own : String} {cc : ByteArray} {ws : List Cond} {nL : Nat} {ini : Bool} {rt : Option FieldType} {hh : List (Nat × Nat × Nat × Nat)} {fr lo : Nat} {F : jFin} {n0 bc bs : Nat} {M : jM} {pc : Nat} {lv st : List Value} {P : jP}
/-- with less to make at hand it goes as well -/
theorem J_less {bc' bs' : Nat} (h1 : bc' ≤ bc) (h2 : bs' ≤ bs) (k : J l D dA own cc ws nL ini rt hh fr lo F n0 bc' bs' M pc lv st) : J l D dA own cc ws nL ini rt hh fr lo F n0 bc bs M pc lv st := by
  intro p e R s m args below meth c H locs cells slots MC MS A ad ad0 ls G hP hD hS hl hr
  exact k p e R s m args below meth c H locs cells slots MC MS A ad ad0 ls G hP hD hS hl ⟨hr.1, hr.2.1, by have := hr.2.2.1; omega, by have := hr.2.2.2.1; omega, hr.2.2.2.2⟩
end Less
def rRwGo (c : Nat → Int32) (L : Nat) : Nat → Nat → Int32 → Int32 → Bool → rSt
  | 0, p, lo, hi, b => (false, p, lo, hi, b)
  | fu + 1, p, lo, hi, b =>
    if (rPt c L p lo hi b).1 then
      (if tIsAt c L (rPt c L p lo hi b).2.1 32 then rRwGo c L fu ((rPt c L p lo hi b).2.1 + 1) (rPt c L p lo hi b).2.2.1 (rPt c L p lo hi b).2.2.2.1 (rPt c L p lo hi b).2.2.2.2
      else (true, (rPt c L p lo hi b).2))
    else (false, (rPt c L p lo hi b).2)
def rRow (c : Nat → Int32) (L p : Nat) (b : Bool) : rSt := rRwGo c L (L + 1) p 0 99999999 b
theorem rRwGo_s {c : Nat → Int32} {L k p : Nat} {lo hi : Int32} {b : Bool} (h : k ≤ L) : rRwGo c L (L + 1 - k) p lo hi b = (if (rPt c L p lo hi b).1 then
      (if tIsAt c L (rPt c L p lo hi b).2.1 32 then rRwGo c L (L + 1 - (k + 1)) ((rPt c L p lo hi b).2.1 + 1) (rPt c L p lo hi b).2.2.1 (rPt c L p lo hi b).2.2.2.1 (rPt c L p lo hi b).2.2.2.2
      else (true, (rPt c L p lo hi b).2))
    else (false, (rPt c L p lo hi b).2)) := by
  rw [show L + 1 - k = (L + 1 - (k + 1)) + 1 from by omega]
  rfl
theorem rRwGo_0 {c : Nat → Int32} {L k p : Nat} {lo hi : Int32} {b : Bool} (h : L < k) : rRwGo c L (L + 1 - k) p lo hi b = (false, p, lo, hi, b) := by
  rw [show L + 1 - k = 0 from by omega]
  rfl
theorem rRwGo_le {c : Nat → Int32} {L : Nat} : ∀ (fu p : Nat) (lo hi : Int32) (b : Bool), p ≤ L → (rRwGo c L fu p lo hi b).2.1 ≤ L := by
  intro fu
  induction fu with
  | zero => intro p lo hi b h; exact h
  | succ fu ih =>
    intro p lo hi b h
    unfold rRwGo
    split
    · split
      · rename_i h2; exact ih _ _ _ _ (tIsAt_lt h2)
      · exact rPt_le h
    · exact rPt_le h
theorem rRow_le {c : Nat → Int32} {L p : Nat} {b : Bool} (h : p ≤ L) : (rRow c L p b).2.1 ≤ L := rRwGo_le _ _ _ _ _ h
theorem dX4_readRow_13 : decode cX4_readRow 13 = .ok (.iload_n 1, 1) := by decide +kernel
theorem dX4_readRow_14 : decode cX4_readRow 14 = .ok (.aload_n 0, 1) := by decide +kernel
theorem dX4_readRow_15 : decode cX4_readRow 15 = .ok (.invokevirtual 33, 3) := by decide +kernel
set_option maxRecDepth 20000 in
theorem ggX4_readRow_X6_textSize : GoodIn wsX4_readRow wsX6_textSize := goodIn_r _ [9, 10, 78, 79, 80, 81, 82, 83, 84, 85, 86, 87, 71, 72, 73, 74, 75, 76, 77] (by decide +kernel) (by decide +kernel)
set_option maxRecDepth 20000 in
theorem gX4_readRow_X6_textSize_u33X4 : GoodIn wsX4_readRow (va_wsU RX4 33 RX4 "VersionAlgebra$TextReader" ⟨"VersionAlgebra$RangeReader", "textSize", "()I"⟩ yX6_textSize wsX6_textSize) := goodIn_app (goodIn_of _ (by decide +kernel)) ggX4_readRow_X6_textSize
theorem yY_X6_textSize : jY yX6_textSize wsX6_textSize cX6_textSize 1 (some .int) 0 := ⟨⟨_, rfl⟩, by decide +kernel, by decide +kernel, by decide +kernel⟩
theorem dX4_readRow_18 : decode cX4_readRow 18 = .ok (.if_icmp .gt 29, 3) := by decide +kernel
theorem dX4_readRow_47 : decode cX4_readRow 47 = .ok (.iconst 0, 1) := by decide +kernel
theorem dX4_readRow_48 : decode cX4_readRow 48 = .ok (.ireturn, 1) := by decide +kernel
theorem dX4_readRow_21 : decode cX4_readRow 21 = .ok (.aload_n 0, 1) := by decide +kernel
theorem dX4_readRow_22 : decode cX4_readRow 22 = .ok (.invokevirtual 52, 3) := by decide +kernel
set_option maxRecDepth 20000 in
theorem ggX4_readRow_X4_readPart : GoodIn wsX4_readRow wsX4_readPart := goodIn_ca (goodIn_r _ [15, 16, 17, 18, 19, 20, 8, 21, 22, 23, 24, 25, 26, 27, 10, 28, 29, 30, 31, 32, 14, 33, 34, 35, 36, 37, 38, 39, 40, 41, 42, 43, 44, 45, 46, 47, 48, 1, 49, 50, 51, 52, 3, 53, 54, 55, 56, 57, 58, 59, 60, 61, 62, 63, 64, 2, 65, 66, 67, 68, 69, 70, 78, 79, 80, 81, 82, 83, 84, 85, 86, 87, 71, 72, 73, 74, 75, 76, 77] (by decide +kernel) (by decide +kernel)) (goodIn_sub (fun _ h => List.mem_cons_of_mem _ (List.mem_append_right _ h)) (by decide +kernel))
set_option maxRecDepth 20000 in
theorem gX4_readRow_X4_readPart : GoodIn wsX4_readRow (wsV RX4 52 RX4 yX4_readPart wsX4_readPart) := goodIn_app (goodIn_of _ (by decide +kernel)) ggX4_readRow_X4_readPart
theorem yY_X4_readPart : jY yX4_readPart wsX4_readPart cX4_readPart 5 (some .boolean) 0 := ⟨⟨_, rfl⟩, by decide +kernel, by decide +kernel, by decide +kernel⟩
theorem dX4_readRow_25 : decode cX4_readRow 25 = .ok (.ifCond .ne 5, 3) := by decide +kernel
theorem dX4_readRow_30 : decode cX4_readRow 30 = .ok (.aload_n 0, 1) := by decide +kernel
theorem dX4_readRow_31 : decode cX4_readRow 31 = .ok (.bipush 32, 2) := by decide +kernel
theorem dX4_readRow_33 : decode cX4_readRow 33 = .ok (.invokevirtual 45, 3) := by decide +kernel
set_option maxRecDepth 20000 in
theorem ggX4_readRow_X6_takes : GoodIn wsX4_readRow wsX6_takes := goodIn_ca (goodIn_r _ [21, 22, 23, 24, 25, 26, 8, 27, 10, 28, 29, 78, 79, 80, 81, 82, 83, 84, 85, 86, 87, 71, 72, 73, 74, 75, 76, 77] (by decide +kernel) (by decide +kernel)) (goodIn_sub (fun _ h => List.mem_cons_of_mem _ (List.mem_append_right _ h)) (by decide +kernel))
set_option maxRecDepth 20000 in
theorem gX4_readRow_X6_takes_u45X4 : GoodIn wsX4_readRow (va_wsU RX4 45 RX4 "VersionAlgebra$TextReader" ⟨"VersionAlgebra$RangeReader", "takes", "(C)Z"⟩ yX6_takes wsX6_takes) := goodIn_app (goodIn_of _ (by decide +kernel)) ggX4_readRow_X6_takes
theorem dX4_readRow_36 : decode cX4_readRow 36 = .ok (.ifCond .ne 5, 3) := by decide +kernel
theorem dX4_readRow_41 : decode cX4_readRow 41 = .ok (.iinc 1 1, 3) := by decide +kernel
theorem dX4_readRow_44 : decode cX4_readRow 44 = .ok (.goto (-31), 3) := by decide +kernel
theorem dX4_readRow_39 : decode cX4_readRow 39 = .ok (.iconst 1, 1) := by decide +kernel
theorem dX4_readRow_40 : decode cX4_readRow 40 = .ok (.ireturn, 1) := by decide +kernel
theorem dX4_readRow_28 : decode cX4_readRow 28 = .ok (.iconst 0, 1) := by decide +kernel
theorem dX4_readRow_29 : decode cX4_readRow 29 = .ok (.ireturn, 1) := by decide +kernel
theorem dX4_readRow_0 : decode cX4_readRow 0 = .ok (.aload_n 0, 1) := by decide +kernel
theorem dX4_readRow_1 : decode cX4_readRow 1 = .ok (.iconst 0, 1) := by decide +kernel
theorem dX4_readRow_2 : decode cX4_readRow 2 = .ok (.putfield 21, 3) := by decide +kernel
theorem dX4_readRow_5 : decode cX4_readRow 5 = .ok (.aload_n 0, 1) := by decide +kernel
theorem dX4_readRow_6 : decode cX4_readRow 6 = .ok (.ldc 25, 2) := by decide +kernel
theorem dX4_readRow_8 : decode cX4_readRow 8 = .ok (.putfield 26, 3) := by decide +kernel
theorem dX4_readRow_11 : decode cX4_readRow 11 = .ok (.iconst 0, 1) := by decide +kernel
theorem dX4_readRow_12 : decode cX4_readRow 12 = .ok (.istore_n 1, 1) := by decide +kernel
set_option maxHeartbeats 2000000 in
set_option maxRecDepth 20000 in
theorem ct_X4_readRow (l : Launch) (D : va_G) (dA : Nat → ClassId) (hst : l.stackTraces = false) (M : jM) (t sg : Nat) (c : Nat → Int32) (L p : Nat) (lo hi : Int32) (b : Bool) (hR : jRr M t sg c L p lo hi b) : jCT l D dA yX4_readRow wsX4_readRow (25) (600) (0) (0) 1 [.ref (t)] M (jPo (oI (jb (rRow c L p b).1)) (jRS M t (rRow c L p b).2.1 (rRow c L p b).2.2.1 (rRow c L p b).2.2.2.1 (rRow c L p b).2.2.2.2)) := by
  refine jBody (cc := cX4_readRow) (nL := 2) (rt := (some .boolean)) (ini := false) (by decide) rfl hst (Nat.le_of_ble_eq_true rfl) (by simp [Value.category]) (by intro h9; first | exact absurd h9 (by decide) | rfl) ?_
  show J l D dA RX4 cX4_readRow wsX4_readRow 2 false (some .boolean) [] (25) (600) (jF D dA (jn M) (jPo (oI (jb (rRow c L p b).1)) (jRS M t (rRow c L p b).2.1 (rRow c L p b).2.2.1 (rRow c L p b).2.2.2.1 (rRow c L p b).2.2.2.2)) 1) (jn M) (0) (0) (M) 0 [.ref (t), .float 0] []
  obtain ⟨⟨f1, f2, f3, f4, f5, f6, f7, f8, f9, f10, f11, f12⟩, f13, f14, f15⟩ := id hR
  have L13 : ∀ (fuel : Nat) (k : Nat) (q : Nat) (ql : Int32) (qh : Int32) (qb : Bool) (hk : k ≤ L + 1) (hq : q ≤ L) (hI : rRwGo c L (L + 1 - k) q ql qh qb = rRow c L p b), L + 1 - k < fuel → J l D dA RX4 cX4_readRow wsX4_readRow 2 false (some .boolean) [] (25) (600) (jF D dA (jn M) (jPo (oI (jb (rRow c L p b).1)) (jRS M t (rRow c L p b).2.1 (rRow c L p b).2.2.1 (rRow c L p b).2.2.2.1 (rRow c L p b).2.2.2.2)) 1) (jn M) (0) (0) (jRS M t q ql qh qb) 13 [.ref (t), .int (nI (k))] [] := by
    intro fuel
    induction fuel with
    | zero => intro k q ql qh qb hk hq hI hm; exact absurd hm (Nat.not_lt_zero _)
    | succ fuel ih13 =>
      intro k q ql qh qb hk hq hI hm13
      refine J_iload_n dX4_readRow_13 rfl rfl ?_
      refine J_aload_n (t) dX4_readRow_14 rfl rfl ?_
      refine J_calli0 (jrunU (As := []) (ct_X6_textSize_8 l D dA hst (jRS M t q ql qh qb) t sg c L q ((hR.rs (q := q) (lo' := ql) (hi' := qh) (b' := qb) hq).1)) dX4_readRow_15 yY_X6_textSize gX4_readRow_X6_textSize_u33X4 rfl cs8 f1 f2 rfl ⟨by omega, by omega⟩ ⟨Nat.zero_le _, Nat.zero_le _⟩ rfl (Nat.le_of_ble_eq_true rfl)) (rfl) (rfl) ?_
      refine J_icmp_gt dX4_readRow_18 (tgt := 47) (by decide) (fun c18 => ?_) (fun c18 => ?_)
      · have c18 := jltT (a := L) (b := k) (by omega) (by omega) c18
        refine J_iconst (x := 0) dX4_readRow_47 (by decide) ?_
        exact J_iret (ty := .boolean) dX4_readRow_48 rfl (by rfl) ⟨(by rw [← hI, rRwGo_0 (by omega)]; rfl), (by rw [← hI, rRwGo_0 (by omega)])⟩
      · have c18 := jltF (a := L) (b := k) (by omega) (by omega) c18
        refine J_aload_n (t) dX4_readRow_21 rfl rfl ?_
        refine J_calli0 (jrunV (As := []) (ct_X4_readPart l D dA hst (jRS M t q ql qh qb) t sg c L q ql qh qb (hR.rs (q := q) (lo' := ql) (hi' := qh) (b' := qb) hq)) dX4_readRow_22 yY_X4_readPart gX4_readRow_X4_readPart rfl cs8 f1 f2 rfl ⟨by omega, by omega⟩ ⟨Nat.zero_le _, Nat.zero_le _⟩ rfl (Nat.le_of_ble_eq_true rfl)) (rfl) (jn_RS _ _ _ _ _ _) ?_
        refine J_mem (M' := jRS M t ((rPt c L q ql qh qb).2.1) ((rPt c L q ql qh qb).2.2.1) ((rPt c L q ql qh qb).2.2.2.1) ((rPt c L q ql qh qb).2.2.2.2)) (by exact jRS_RS _ _ _ _ _ _ _ _ _ _) ?_
        refine J_if_ne dX4_readRow_25 (tgt := 30) (by decide) (fun c25 => ?_) (fun c25 => ?_)
        · have c25 := jb0F c25
          refine J_aload_n (t) dX4_readRow_30 rfl rfl ?_
          refine J_bipush (x := 32) dX4_readRow_31 (by decide) ?_
          refine J_calli0 (jrunU (As := [.int (32)]) (ct_X6_takes_8 l D dA hst (jRS M t ((rPt c L q ql qh qb).2.1) ((rPt c L q ql qh qb).2.2.1) ((rPt c L q ql qh qb).2.2.2.1) ((rPt c L q ql qh qb).2.2.2.2)) t sg c L ((rPt c L q ql qh qb).2.1) ((hR.rs (q := (rPt c L q ql qh qb).2.1) (lo' := (rPt c L q ql qh qb).2.2.1) (hi' := (rPt c L q ql qh qb).2.2.2.1) (b' := (rPt c L q ql qh qb).2.2.2.2) (rPt_le hq)).1) ((32))) dX4_readRow_33 yY_X6_takes gX4_readRow_X6_takes_u45X4 rfl cs8 f1 f2 rfl ⟨by omega, by omega⟩ ⟨Nat.zero_le _, Nat.zero_le _⟩ rfl (Nat.le_of_ble_eq_true rfl)) (rfl) (rfl) ?_
          refine J_mem (M' := jRS M t (tTk c L ((rPt c L q ql qh qb).2.1) ((32))) ((rPt c L q ql qh qb).2.2.1) ((rPt c L q ql qh qb).2.2.2.1) ((rPt c L q ql qh qb).2.2.2.2)) (by exact jRS_2 _ _ _ _ _ _ _) ?_
          refine J_if_ne dX4_readRow_36 (tgt := 41) (by decide) (fun c36 => ?_) (fun c36 => ?_)
          · have c36 := jb0F c36
            refine J_mem (M' := jRS M t ((rPt c L q ql qh qb).2.1 + 1) ((rPt c L q ql qh qb).2.2.1) ((rPt c L q ql qh qb).2.2.2.1) ((rPt c L q ql qh qb).2.2.2.2)) (by rw [tTk_t c36]) ?_
            refine J_iinc (y := nI (k + 1)) (lv' := [.ref (t), .int (nI (k + 1))]) dX4_readRow_41 rfl (jinc (k)) (by decide) rfl rfl ?_
            refine J_goto (tgt := 13) dX4_readRow_44 (by decide) ?_
            exact ih13 (k + 1) ((rPt c L q ql qh qb).2.1 + 1) ((rPt c L q ql qh qb).2.2.1) ((rPt c L q ql qh qb).2.2.2.1) ((rPt c L q ql qh qb).2.2.2.2) (by omega) (by exact (tIsAt_lt c36)) (by refine Eq.trans ?_ hI; rw [rRwGo_s (k := k) (p := q) (by omega), if_pos c25, if_pos c36]) (by omega)
          · have c36 := jb0T c36
            refine J_mem (M' := jRS M t ((rPt c L q ql qh qb).2.1) ((rPt c L q ql qh qb).2.2.1) ((rPt c L q ql qh qb).2.2.2.1) ((rPt c L q ql qh qb).2.2.2.2)) (by rw [tTk_f c36]) ?_
            refine J_iconst (x := 1) dX4_readRow_39 (by decide) ?_
            exact J_iret (ty := .boolean) dX4_readRow_40 rfl (by rfl) ⟨(by rw [← hI, rRwGo_s (by omega), if_pos c25, if_neg (by rw [c36]; decide)]; rfl), (by rw [← hI, rRwGo_s (by omega), if_pos c25, if_neg (by rw [c36]; decide)])⟩
        · have c25 := jb0T c25
          refine J_iconst (x := 0) dX4_readRow_28 (by decide) ?_
          exact J_iret (ty := .boolean) dX4_readRow_29 rfl (by rfl) ⟨(by rw [← hI, rRwGo_s (by omega), if_neg (by rw [c25]; decide)]; rfl), (by rw [← hI, rRwGo_s (by omega), if_neg (by rw [c25]; decide)])⟩
  refine J_mem (M' := jRS M t p lo hi b) (by exact hR.self) ?_
  refine J_aload_n (t) dX4_readRow_0 rfl rfl ?_
  refine J_iconst (x := 0) dX4_readRow_1 (by decide) ?_
  refine J_puti (j := 4) (x := (0)) dX4_readRow_2 (fun _ h => List.mem_cons_of_mem _ (List.mem_append_left _ (List.mem_append_left _ (List.mem_append_right _ (h))))) cs8 cty8 (by decide) rfl (List.mem_of_getElem? (i := 1) rfl) rfl rfl ⟨rfl, rfl⟩ f1 f2 ?_
  refine J_mem (M' := jRS M t p 0 hi b) (by exact jRS_4 _ _ _ _ _ _ _) ?_
  refine J_aload_n (t) dX4_readRow_5 rfl rfl ?_
  refine J_ldc (x := 99999999) dX4_readRow_6 (List.mem_of_getElem? (i := 2) rfl) ?_
  refine J_puti (j := 5) (x := (99999999)) dX4_readRow_8 (fun _ h => List.mem_cons_of_mem _ (List.mem_append_left _ (List.mem_append_left _ (List.mem_append_right _ (h))))) cs8 cty8 (by decide) rfl (List.mem_of_getElem? (i := 3) rfl) rfl rfl ⟨rfl, rfl⟩ f1 f2 ?_
  refine J_mem (M' := jRS M t p 0 99999999 b) (by exact jRS_5 _ _ _ _ _ _ _) ?_
  refine J_iconst (x := 0) dX4_readRow_11 (by decide) ?_
  refine J_istore_n (lv' := [.ref (t), .int (0)]) dX4_readRow_12 rfl (by decide) rfl rfl ?_
  exact L13 _ (0) (p) (0) (99999999) (b) (by omega) (by exact f11) (by rfl) (Nat.lt_succ_self _)

theorem jfind_congr {p p' : Nat → Bool} : ∀ f i, (∀ j, i ≤ j → j < i + f → p j = p' j) → jfind p f i = jfind p' f i := by
  intro f
  induction f with
  | zero => intro i _; rfl
  | succ f ih =>
    intro i h
    unfold jfind
    rw [h i (Nat.le_refl _) (by omega), ih (i + 1) (fun j h1 h2 => h j (by omega) (by omega))]
theorem rsf_congr {e e' : Nat → Int32} {n : Nat} (h : ∀ j, j < 2 * n → e j = e' j) (x : Int32) : rsf e n x = rsf e' n x := by
  unfold rsf
  exact jfind_congr n 0 (fun j _ h2 => by rw [h (2 * j + 1) (by omega)])
theorem rFirst_congr {e e' : Nat → Int32} {n : Nat} (h : ∀ j, j < 2 * n → e j = e' j) (s : Nat) : rFirst e n s = rFirst e' n s := by
  unfold rFirst
  split
  · exact h _ (by omega)
  · rfl
theorem rLast_congr {e e' : Nat → Int32} {n : Nat} (h : ∀ j, j < 2 * n → e j = e' j) (s : Nat) : rLast e n s = rLast e' n s := by
  unfold rLast
  split
  · exact h _ (by omega)
  · rfl
theorem rHolds_congr {e e' : Nat → Int32} {n : Nat} (h : ∀ j, j < 2 * n → e j = e' j) (x : Int32) : rHolds e n x = rHolds e' n x := by
  unfold rHolds; rw [rsf_congr h, rFirst_congr h]
theorem rNext_congr {e e' : Nat → Int32} {n : Nat} (h : ∀ j, j < 2 * n → e j = e' j) (x : Int32) : rNext e n x = rNext e' n x := by
  unfold rNext; rw [rsf_congr h, rFirst_congr h, rLast_congr h]
theorem rcS_congr {op : Int32} {e1 e1' e2 e2' : Nat → Int32} {n1 n2 cap : Nat} (h1 : ∀ j, j < 2 * n1 → e1 j = e1' j) (h2 : ∀ j, j < 2 * n2 → e2 j = e2' j) : ∀ fu x len f, rcS op e1 n1 e2 n2 cap fu x len f = rcS op e1' n1 e2' n2 cap fu x len f := by
  intro fu
  induction fu with
  | zero => intro x len f; rfl
  | succ fu ih =>
    intro x len f
    unfold rcS
    simp only [rHolds_congr h1, rHolds_congr h2, rNext_congr h1, rNext_congr h2, ih]
theorem rComb_congr {op : Int32} {e1 e1' e2 e2' : Nat → Int32} {n1 n2 : Nat} (h1 : ∀ j, j < 2 * n1 → e1 j = e1' j) (h2 : ∀ j, j < 2 * n2 → e2 j = e2' j) : rComb op e1 n1 e2 n2 = rComb op e1' n1 e2' n2 := rcS_congr h1 h2 _ _ _ _
theorem rComb_n (op : Int32) (e1 : Nat → Int32) (n1 : Nat) (e2 : Nat → Int32) (n2 : Nat) : (rComb op e1 n1 e2 n2).1 / 2 ≤ n1 + n2 + 1 := by
  have := (rcS_len op e1 n1 e2 n2 (2 * (n1 + n2 + 1)) (2 * (n1 + n2 + 1)) 0 0 (fun _ => 0) (Nat.zero_le _) rfl).1
  have h9 : (rComb op e1 n1 e2 n2).1 ≤ 2 * (n1 + n2 + 1) := this
  omega
/-- every old cell but t as it was, of t all but its ints and its third reference -/
def jXt (t : Nat) (M M1 : jM) : Prop := jn M ≤ jn M1 ∧ ∀ a, a < jn M → jk M1 a = jk M a ∧ jz M1 a = jz M a ∧ (a ≠ t → ji M1 a = ji M a ∧ jr M1 a = jr M a) ∧ (∀ j, j ≠ 3 → jr M1 a j = jr M a j) ∧ jl M1 a = jl M a ∧ jd M1 a = jd M a
theorem jXt.rf {t : Nat} {M : jM} : jXt t M M := ⟨Nat.le_refl _, fun _ _ => ⟨rfl, rfl, fun _ => ⟨rfl, rfl⟩, fun _ _ => rfl, rfl, rfl⟩⟩
theorem jXt.tr {t : Nat} {M M1 M2 : jM} (h : jXt t M M1) (h2 : jXt t M1 M2) : jXt t M M2 := by
  refine ⟨Nat.le_trans h.1 h2.1, fun a ha => ?_⟩
  obtain ⟨a1, a2, a3, a4, a5, a6⟩ := h.2 a ha
  obtain ⟨b1, b2, b3, b4, b5, b6⟩ := h2.2 a (Nat.lt_of_lt_of_le ha h.1)
  exact ⟨b1.trans a1, b2.trans a2, fun hne => ⟨(b3 hne).1.trans (a3 hne).1, (b3 hne).2.trans (a3 hne).2⟩, fun j hj => (b4 j hj).trans (a4 j hj), b5.trans a5, b6.trans a6⟩
theorem jExt.xt {t : Nat} {M M1 : jM} (h : jExt M M1) : jXt t M M1 := by
  refine ⟨h.1, fun a ha => ?_⟩
  obtain ⟨a1, a2, a3, a4, a5, a6⟩ := h.2 a ha
  exact ⟨a1, a2, fun _ => ⟨a3, a4⟩, fun j _ => by rw [a4], a5, a6⟩
theorem jXt.rs {t : Nat} {M M1 : jM} {p : Nat} {lo hi : Int32} {b : Bool} (h : jXt t M M1) : jXt t M (jRS M1 t p lo hi b) := by
  refine ⟨h.1, fun a ha => ?_⟩
  obtain ⟨a1, a2, a3, a4, a5, a6⟩ := h.2 a ha
  refine ⟨a1, a2, fun hne => ⟨?_, (a3 hne).2⟩, a4, a5, a6⟩
  rw [← (a3 hne).1]
  funext j
  unfold jRS
  rw [ji_Sv, if_neg hne]
theorem jXt.sr {t : Nat} {M M1 : jM} {x : Option Nat} (h : jXt t M M1) : jXt t M (jSr M1 t 3 x) := by
  refine ⟨h.1, fun a ha => ?_⟩
  obtain ⟨a1, a2, a3, a4, a5, a6⟩ := h.2 a ha
  refine ⟨a1, a2, fun hne => ⟨(a3 hne).1, ?_⟩, fun j hj => ?_, a5, a6⟩
  · rw [← (a3 hne).2]; funext j; rw [jr_Sr, if_neg (fun h => hne h.1)]
  · rw [jr_Sr, if_neg (fun h => hj h.2)]; exact a4 j hj
theorem jRr.ext {M M1 : jM} {t sg : Nat} {c : Nat → Int32} {L p : Nat} {lo hi : Int32} {b : Bool} (h : jRr M t sg c L p lo hi b) (e : jExt M M1) : jRr M1 t sg c L p lo hi b := by
  obtain ⟨⟨h1, h2, h3, h4, h5, h6, h7, h8, h9, h10, h11, h12⟩, h13, h14, h15⟩ := h
  obtain ⟨a1, a2, a3, a4, a5, a6⟩ := e.2 t h1
  obtain ⟨b1, b2, b3, b4, b5, b6⟩ := e.2 sg h4
  exact ⟨⟨Nat.lt_of_lt_of_le h1 e.1, a1.trans h2, by rw [a4]; exact h3, Nat.lt_of_lt_of_le h4 e.1, b1.trans h5, b2.trans h6, b3.trans h7, by rw [a3]; exact h8, h9, by rw [a3]; exact h10, h11, h12⟩, by rw [a3]; exact h13, by rw [a3]; exact h14, by rw [a3]; exact h15⟩
theorem jRr.sr {M : jM} {t sg : Nat} {c : Nat → Int32} {L p : Nat} {lo hi : Int32} {b : Bool} {x : Option Nat} (h : jRr M t sg c L p lo hi b) : jRr (jSr M t 3 x) t sg c L p lo hi b := by
  obtain ⟨⟨h1, h2, h3, h4, h5, h6, h7, h8, h9, h10, h11, h12⟩, h13, h14, h15⟩ := h
  exact ⟨⟨h1, h2, (by rw [jr_Sr, if_neg (fun h => absurd h.2 (by decide))]; exact h3), h4, h5, h6, h7, h8, h9, h10, h11, h12⟩, h13, h14, h15⟩
/-- a reader of ranges under way: its range so far at t9, of n spans with the ends e -/
def jRw (M M1 : jM) (t sg : Nat) (c : Nat → Int32) (L p : Nat) (lo hi : Int32) (b : Bool) (t9 n : Nat) (e : Nat → Int32) : Prop :=
  jXt t M M1 ∧ jCl M1 ∧ jRr M1 t sg c L p lo hi b ∧ jr M1 t 3 = some t9 ∧ jRg M1 t9 n ∧ ∀ j, j < 2 * n → ji M1 (t9 + 1) j = e j
theorem jRw.rs {M M1 : jM} {t sg : Nat} {c : Nat → Int32} {L p q : Nat} {lo hi lo' hi' : Int32} {b b' : Bool} {t9 n : Nat} {e : Nat → Int32} (h : jRw M M1 t sg c L p lo hi b t9 n e) (hq : q ≤ L) : jRw M (jRS M1 t q lo' hi' b') t sg c L q lo' hi' b' t9 n e := by
  obtain ⟨h1, h2, h3, h4, h5, h6⟩ := h
  refine ⟨h1.rs, h2, h3.rs hq, h4, h5, fun j hj => ?_⟩
  have hne : t9 + 1 ≠ t := fun hh => by
    have h8 := h5.2.2.2.1
    have h9 := h3.1.2.1
    rw [hh] at h8
    omega
  unfold jRS
  rw [ji_Sv, if_neg hne]
  exact h6 j hj
/-- the rows of a text of a range: fuel, place, prerelease, the range so far -/
def rRs (c : Nat → Int32) (L : Nat) : Nat → Nat → Int32 → Int32 → Bool → Nat → (Nat → Int32) → rSt × Nat × (Nat → Int32)
  | 0, p, lo, hi, b, n, e => ((false, p, lo, hi, b), n, e)
  | fu + 1, p, _, _, b, n, e =>
    if (rRow c L p b).1 then
      (if tIsAt c L (rRow c L p b).2.1 124 then
        rRs c L fu ((rRow c L p b).2.1 + 1) (rRow c L p b).2.2.1 (rRow c L p b).2.2.2.1 (rRow c L p b).2.2.2.2
          ((rComb 0 e n (fun j => if j = 0 then (rRow c L p b).2.2.1 else (rRow c L p b).2.2.2.1) (if (rRow c L p b).2.2.1 ≤ (rRow c L p b).2.2.2.1 then 1 else 0)).1 / 2)
          (rComb 0 e n (fun j => if j = 0 then (rRow c L p b).2.2.1 else (rRow c L p b).2.2.2.1) (if (rRow c L p b).2.2.1 ≤ (rRow c L p b).2.2.2.1 then 1 else 0)).2
      else ((decide ((rRow c L p b).2.1 = L), (rRow c L p b).2),
          ((rComb 0 e n (fun j => if j = 0 then (rRow c L p b).2.2.1 else (rRow c L p b).2.2.2.1) (if (rRow c L p b).2.2.1 ≤ (rRow c L p b).2.2.2.1 then 1 else 0)).1 / 2),
          (rComb 0 e n (fun j => if j = 0 then (rRow c L p b).2.2.1 else (rRow c L p b).2.2.2.1) (if (rRow c L p b).2.2.1 ≤ (rRow c L p b).2.2.2.1 then 1 else 0)).2))
    else ((false, (rRow c L p b).2), n, e)
/-- what reading the rows leaves -/
def jRwo (M : jM) (t sg : Nat) (c : Nat → Int32) (L : Nat) (z : rSt × Nat × (Nat → Int32)) : jP := fun o M1 => ∃ t9, o = oI (jb z.1.1) ∧ jRw M M1 t sg c L z.1.2.1 z.1.2.2.1 z.1.2.2.2.1 z.1.2.2.2.2 t9 z.2.1 z.2.2
theorem rRs_0 {c : Nat → Int32} {L k p : Nat} {lo hi : Int32} {b : Bool} {n : Nat} {e : Nat → Int32} (h : L < k) : rRs c L (L + 1 - k) p lo hi b n e = ((false, p, lo, hi, b), n, e) := by
  rw [show L + 1 - k = 0 from by omega]
  rfl
theorem rRs_n {c : Nat → Int32} {L k p : Nat} {lo hi : Int32} {b : Bool} {n : Nat} {e : Nat → Int32} (h : k ≤ L) (h1 : (rRow c L p b).1 = false) : rRs c L (L + 1 - k) p lo hi b n e = ((false, (rRow c L p b).2), n, e) := by
  rw [show L + 1 - k = (L + 1 - (k + 1)) + 1 from by omega]
  unfold rRs
  rw [if_neg (by rw [h1]; decide)]
theorem rRs_e {c : Nat → Int32} {L k p : Nat} {lo hi : Int32} {b : Bool} {n : Nat} {e : Nat → Int32} (h : k ≤ L) (h1 : (rRow c L p b).1 = true) (h2 : tIsAt c L (rRow c L p b).2.1 124 = false) : rRs c L (L + 1 - k) p lo hi b n e = ((decide ((rRow c L p b).2.1 = L), (rRow c L p b).2),
          ((rComb 0 e n (fun j => if j = 0 then (rRow c L p b).2.2.1 else (rRow c L p b).2.2.2.1) (if (rRow c L p b).2.2.1 ≤ (rRow c L p b).2.2.2.1 then 1 else 0)).1 / 2),
          (rComb 0 e n (fun j => if j = 0 then (rRow c L p b).2.2.1 else (rRow c L p b).2.2.2.1) (if (rRow c L p b).2.2.1 ≤ (rRow c L p b).2.2.2.1 then 1 else 0)).2) := by
  rw [show L + 1 - k = (L + 1 - (k + 1)) + 1 from by omega]
  unfold rRs
  rw [if_pos h1, if_neg (by rw [h2]; decide)]
theorem rRs_s {c : Nat → Int32} {L k p : Nat} {lo hi : Int32} {b : Bool} {n : Nat} {e : Nat → Int32} (h : k ≤ L) (h1 : (rRow c L p b).1 = true) (h2 : tIsAt c L (rRow c L p b).2.1 124 = true) : rRs c L (L + 1 - k) p lo hi b n e = rRs c L (L + 1 - (k + 1)) ((rRow c L p b).2.1 + 1) (rRow c L p b).2.2.1 (rRow c L p b).2.2.2.1 (rRow c L p b).2.2.2.2
          ((rComb 0 e n (fun j => if j = 0 then (rRow c L p b).2.2.1 else (rRow c L p b).2.2.2.1) (if (rRow c L p b).2.2.1 ≤ (rRow c L p b).2.2.2.1 then 1 else 0)).1 / 2)
          (rComb 0 e n (fun j => if j = 0 then (rRow c L p b).2.2.1 else (rRow c L p b).2.2.2.1) (if (rRow c L p b).2.2.1 ≤ (rRow c L p b).2.2.2.1 then 1 else 0)).2 := by
  rw [show L + 1 - k = (L + 1 - (k + 1)) + 1 from by omega]
  conv => lhs; unfold rRs
  rw [if_pos h1, if_pos h2]
