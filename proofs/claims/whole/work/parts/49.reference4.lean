/-- a row copied to a place in another, so far -/
def mCp (f : Nat → Int32) (p : Nat) (g : Nat → Int32) (k : Nat) : Nat → Int32 := fun j => if p ≤ j ∧ j < p + k then g (j - p) else f j
theorem mCp_0 {f : Nat → Int32} {p : Nat} {g : Nat → Int32} : mCp f p g 0 = f := funext fun j => by unfold mCp; rw [if_neg (by omega)]
theorem mCp_s {f : Nat → Int32} {p : Nat} {g : Nat → Int32} {k : Nat} : (fun j => if j = p + k then g k else mCp f p g k j) = mCp f p g (k + 1) := funext fun j => by
  unfold mCp
  by_cases h : j = p + k
  · subst h; rw [if_pos rfl, if_pos (by omega), show p + k - p = k from by omega]
  · rw [if_neg h]
    by_cases h2 : p ≤ j ∧ j < p + k
    · rw [if_pos h2, if_pos (by omega)]
    · rw [if_neg h2, if_neg (by omega)]
theorem mCp_in {f : Nat → Int32} {p : Nat} {g : Nat → Int32} {k j : Nat} (h : j < k) : mCp f p g k (p + j) = g j := by unfold mCp; rw [if_pos (by omega), show p + j - p = j from by omega]
theorem mCp_out {f : Nat → Int32} {p : Nat} {g : Nat → Int32} {k j : Nat} (h : j < p ∨ p + k ≤ j) : mCp f p g k j = f j := by unfold mCp; rw [if_neg (by omega)]
def mSh (f : Nat → Int32) (k : Nat) : Nat → Int32 := fun j => if j < k then f (j + 427) else f j
theorem mSh_0 {f : Nat → Int32} : mSh f 0 = f := funext fun j => by unfold mSh; rw [if_neg (by omega)]
theorem mSh_s {f : Nat → Int32} {k : Nat} : (fun j => if j = k then f (k + 427) else mSh f k j) = mSh f (k + 1) := funext fun j => by
  unfold mSh
  by_cases h : j = k
  · subst h; rw [if_pos rfl, if_pos (by omega)]
  · rw [if_neg h]
    by_cases h2 : j < k
    · rw [if_pos h2, if_pos (by omega)]
    · rw [if_neg h2, if_neg (by omega)]
theorem mSh_out {f : Nat → Int32} {k : Nat} : mSh f k (k + 427) = f (k + 427) := by unfold mSh; rw [if_neg (by omega)]
theorem mSlot.cong {r1 r2 : Nat → Int32} {p1 p2 : Nat} {x : Option rVl} (h : mSlot r2 p2 x) (e : ∀ j, j < 33 → r1 (p1 + j) = r2 (p2 + j)) : mSlot r1 p1 x := by
  cases x with
  | none => exact (e 0 (by omega)).trans h
  | some w =>
    refine ⟨(e 0 (by omega)).trans h.1, h.2.1, fun i hi => ?_⟩
    have h1 := h.2.1
    rw [Nat.add_assoc, e (1 + i) (by omega), ← Nat.add_assoc]
    exact h.2.2 i hi
theorem mSt.cong {r1 r2 : Nat → Int32} {p1 p2 : Nat} {z : cSt} (h : mSt r2 p2 z) (e : ∀ j, j < 427 → r1 (p1 + j) = r2 (p2 + j)) : mSt r1 p1 z := by
  obtain ⟨a, b, c, d⟩ := h
  refine ⟨fun j hj => (a j hj).cong (fun i hi => ?_), (e 396 (by omega)).trans b, c, fun i hi => ?_⟩
  · rw [Nat.add_assoc, e (33 * j + i) (by omega), ← Nat.add_assoc]
  · rw [Nat.add_assoc, e (397 + i) (by omega), ← Nat.add_assoc]; exact d i hi
def mCgP (M : jM) (m : Nat) (A : cA) : jP := fun o M1 => o = oV ∧ mAb M1 m (cKeep A) ∧ mFr m M M1 ∧ (∀ a, a ≠ m → a ≠ m + 2 → ji M1 a = ji M a) ∧ ∀ f, f ≠ 4 → ji M1 m f = ji M m f
def mCg0 (M : jM) (m : Nat) (A : cA) (K : jM) (c : Nat) : Prop := (K = M ∧ c = cKp A ∧ c < 8) ∨ (cKp A = 8 ∧ c = 7 ∧ K = jSi (jSv M (m + 2) (mSh (ji M (m + 2)) 2989)) m 4 (nI 7))
theorem ji_Svn {M : jM} {a b j : Nat} {g : Nat → Int32} (h : b ≠ a) : ji (jSv M a g) b j = ji M b j := by rw [ji_Sv, if_neg h]
theorem mCg0_f {M : jM} {m : Nat} {A : cA} {K : jM} {c : Nat} (hA : mAb M m A) (h : mCg0 M m A K c) : mFr m M K ∧ (∀ a, a ≠ m → a ≠ m + 2 → ji K a = ji M a) ∧ (∀ f, f ≠ 4 → ji K m f = ji M m f) ∧ ji K m 4 = nI c ∧ c < 8 ∧ mOk K m ∧ jn K = jn M := by
  rcases h with ⟨rfl, rfl, h8⟩ | ⟨h8, rfl, rfl⟩
  · exact ⟨mFr.rf, fun _ _ _ => rfl, fun _ _ => rfl, hA.2.2.1.1, h8, hA.1, rfl⟩
  · exact ⟨(mFr.rf.sv ⟨by omega, by omega⟩).si ⟨by omega, by omega⟩, fun a h1 h2 => funext fun j => by rw [ji_Sin h1, ji_Svn h2], fun f hf => by rw [ji_Si, if_neg (fun h9 => hf h9.2), ji_Svn (by omega)], by rw [ji_Si, if_pos ⟨rfl, rfl⟩], by omega, hA.1, rfl⟩
theorem chg_end {M : jM} {m : Nat} {A : cA} {K : jM} {c : Nat} (hA : mAb M m A) (hK : mCg0 M m A K c) : mCgP M m A oV (jSi (jSv K (m + 2) (mCp (ji K (m + 2)) (427 * c) (ji K (m + 1)) 427)) m 4 (nI (c + 1))) := by
  obtain ⟨f1, f2, f3, f4, f5, f6, f7⟩ := mCg0_f hA hK
  have hF : mFr m M (jSi (jSv K (m + 2) (mCp (ji K (m + 2)) (427 * c) (ji K (m + 1)) 427)) m 4 (nI (c + 1))) := (f1.sv ⟨by omega, by omega⟩).si ⟨by omega, by omega⟩
  have hR : ∀ a, a ≠ m → a ≠ m + 2 → ji (jSi (jSv K (m + 2) (mCp (ji K (m + 2)) (427 * c) (ji K (m + 1)) 427)) m 4 (nI (c + 1))) a = ji M a := fun a h1 h2 => (funext fun j => by rw [ji_Sin h1, ji_Svn h2]).trans (f2 a h1 h2)
  have hS : ∀ f, f ≠ 4 → ji (jSi (jSv K (m + 2) (mCp (ji K (m + 2)) (427 * c) (ji K (m + 1)) 427)) m 4 (nI (c + 1))) m f = ji M m f := fun f hf => by rw [ji_Si, if_neg (fun h9 => hf h9.2), ji_Svn (by omega)]; exact f3 f hf
  have hk2 : ji (jSi (jSv K (m + 2) (mCp (ji K (m + 2)) (427 * c) (ji K (m + 1)) 427)) m 4 (nI (c + 1))) (m + 2) = mCp (ji K (m + 2)) (427 * c) (ji K (m + 1)) 427 := funext fun j => by rw [ji_Sin (by omega), ji_Sv, if_pos rfl]
  have hk4 : ji (jSi (jSv K (m + 2) (mCp (ji K (m + 2)) (427 * c) (ji K (m + 1)) 427)) m 4 (nI (c + 1))) m 4 = nI (c + 1) := by rw [ji_Si, if_pos ⟨rfl, rfl⟩]
  have h1 : ji K (m + 1) = ji M (m + 1) := f2 (m + 1) (by omega) (by omega)
  generalize jSi (jSv K (m + 2) (mCp (ji K (m + 2)) (427 * c) (ji K (m + 1)) 427)) m 4 (nI (c + 1)) = N at hF hR hS hk2 hk4 ⊢
  rw [h1] at hk2
  refine ⟨rfl, ?_, hF, hR, hS⟩
  obtain ⟨a1, a2, ⟨a31, a32, a33⟩, a4, a5, a6, a7, a8⟩ := hA
  have hC : mCh N m (cCh A) := by
    cases hc : cCh A with
    | none => rw [hc] at a8; exact (hS 10 (by decide)).trans a8
    | some w => rw [hc] at a8; exact ⟨(hS 10 (by decide)).trans a8.1, a8.2.1, fun j hj => by rw [hR (m + 5) (by omega) (by omega)]; exact a8.2.2 j hj⟩
  refine ⟨hF.ok a1, ?_, ?_, ?_, ?_, ?_, ?_, hC⟩
  · rw [hR (m + 1) (by omega) (by omega)]; exact a2
  · show ji N m 4 = nI (min (cKp A + 1) 8) ∧ min (cKp A + 1) 8 ≤ 8 ∧ ∀ i, i < min (cKp A + 1) 8 → mSt (ji N (m + 2)) (427 * i) (if i + 1 = min (cKp A + 1) 8 then cNw A else cHi A (i + (cKp A + 1) - min (cKp A + 1) 8))
    rw [hk2, hk4]
    rcases hK with ⟨rfl, rfl, h8⟩ | ⟨h8, rfl, rfl⟩
    · rw [show min (cKp A + 1) 8 = cKp A + 1 from by omega]
      refine ⟨rfl, by omega, fun i hi => ?_⟩
      by_cases hic : i = cKp A
      · subst hic; rw [if_pos rfl]; exact a2.cong (fun j hj => by rw [mCp_in hj, Nat.zero_add])
      · rw [if_neg (by omega), show i + (cKp A + 1) - (cKp A + 1) = i from by omega]
        exact (a33 i (by omega)).cong (fun j hj => by rw [mCp_out (by omega)])
    · rw [h8]
      refine ⟨rfl, by omega, fun i hi => ?_⟩
      have hi8 : i < 8 := by omega
      by_cases hic : i = 7
      · subst hic; rw [if_pos (by decide)]; exact a2.cong (fun j hj => by rw [mCp_in hj, Nat.zero_add])
      · rw [if_neg (by omega), show i + (8 + 1) - min (8 + 1) 8 = i + 1 from by omega]
        refine (a33 (i + 1) (by omega)).cong (fun j hj => ?_)
        rw [mCp_out (by omega), ji_Sin (by omega), ji_Sv, if_pos rfl]
        unfold mSh
        rw [if_pos (by omega)]
        congr 1; omega
  · rw [hR (m + 3) (by omega) (by omega), hS 3 (by decide)]; exact a4
  · rw [hR (m + 4) (by omega) (by omega), hS 6 (by decide)]; exact a5
  · rw [hS 7 (by decide)]; exact a6
  · rw [hS 8 (by decide)]; exact a7
theorem dX8_changes_52 : decode cX8_changes 52 = .ok (.iload_n 1, 1) := by decide +kernel
theorem dX8_changes_53 : decode cX8_changes 53 = .ok (.sipush 427, 3) := by decide +kernel
theorem dX8_changes_56 : decode cX8_changes 56 = .ok (.if_icmp .ge 30, 3) := by decide +kernel
theorem dX8_changes_86 : decode cX8_changes 86 = .ok (.aload_n 0, 1) := by decide +kernel
theorem dX8_changes_87 : decode cX8_changes 87 = .ok (.dup, 1) := by decide +kernel
theorem dX8_changes_88 : decode cX8_changes 88 = .ok (.getfield 60, 3) := by decide +kernel
theorem dX8_changes_91 : decode cX8_changes 91 = .ok (.iconst 1, 1) := by decide +kernel
theorem dX8_changes_92 : decode cX8_changes 92 = .ok (.iadd, 1) := by decide +kernel
theorem dX8_changes_93 : decode cX8_changes 93 = .ok (.putfield 60, 3) := by decide +kernel
theorem dX8_changes_96 : decode cX8_changes 96 = .ok (.return_, 1) := by decide +kernel
theorem dX8_changes_59 : decode cX8_changes 59 = .ok (.aload_n 0, 1) := by decide +kernel
theorem dX8_changes_60 : decode cX8_changes 60 = .ok (.getfield 13, 3) := by decide +kernel
theorem dX8_changes_63 : decode cX8_changes 63 = .ok (.sipush 427, 3) := by decide +kernel
theorem dX8_changes_66 : decode cX8_changes 66 = .ok (.aload_n 0, 1) := by decide +kernel
theorem dX8_changes_67 : decode cX8_changes 67 = .ok (.getfield 60, 3) := by decide +kernel
theorem dX8_changes_70 : decode cX8_changes 70 = .ok (.imul, 1) := by decide +kernel
theorem dX8_changes_71 : decode cX8_changes 71 = .ok (.iload_n 1, 1) := by decide +kernel
theorem dX8_changes_72 : decode cX8_changes 72 = .ok (.iadd, 1) := by decide +kernel
theorem dX8_changes_73 : decode cX8_changes 73 = .ok (.aload_n 0, 1) := by decide +kernel
theorem dX8_changes_74 : decode cX8_changes 74 = .ok (.getfield 9, 3) := by decide +kernel
theorem dX8_changes_77 : decode cX8_changes 77 = .ok (.iload_n 1, 1) := by decide +kernel
theorem dX8_changes_78 : decode cX8_changes 78 = .ok (.iaload, 1) := by decide +kernel
theorem dX8_changes_79 : decode cX8_changes 79 = .ok (.iastore, 1) := by decide +kernel
theorem dX8_changes_80 : decode cX8_changes 80 = .ok (.iinc 1 1, 3) := by decide +kernel
theorem dX8_changes_83 : decode cX8_changes 83 = .ok (.goto (-31), 3) := by decide +kernel
theorem dX8_changes_0 : decode cX8_changes 0 = .ok (.aload_n 0, 1) := by decide +kernel
theorem dX8_changes_1 : decode cX8_changes 1 = .ok (.getfield 60, 3) := by decide +kernel
theorem dX8_changes_4 : decode cX8_changes 4 = .ok (.bipush 8, 2) := by decide +kernel
theorem dX8_changes_6 : decode cX8_changes 6 = .ok (.if_icmp .ne 44, 3) := by decide +kernel
theorem dX8_changes_50 : decode cX8_changes 50 = .ok (.iconst 0, 1) := by decide +kernel
theorem dX8_changes_51 : decode cX8_changes 51 = .ok (.istore_n 1, 1) := by decide +kernel
theorem dX8_changes_11 : decode cX8_changes 11 = .ok (.iload_n 1, 1) := by decide +kernel
theorem dX8_changes_12 : decode cX8_changes 12 = .ok (.sipush 2989, 3) := by decide +kernel
theorem dX8_changes_15 : decode cX8_changes 15 = .ok (.if_icmp .ge 25, 3) := by decide +kernel
theorem dX8_changes_40 : decode cX8_changes 40 = .ok (.aload_n 0, 1) := by decide +kernel
theorem dX8_changes_41 : decode cX8_changes 41 = .ok (.dup, 1) := by decide +kernel
theorem dX8_changes_42 : decode cX8_changes 42 = .ok (.getfield 60, 3) := by decide +kernel
theorem dX8_changes_45 : decode cX8_changes 45 = .ok (.iconst 1, 1) := by decide +kernel
theorem dX8_changes_46 : decode cX8_changes 46 = .ok (.isub, 1) := by decide +kernel
theorem dX8_changes_47 : decode cX8_changes 47 = .ok (.putfield 60, 3) := by decide +kernel
theorem dX8_changes_18 : decode cX8_changes 18 = .ok (.aload_n 0, 1) := by decide +kernel
theorem dX8_changes_19 : decode cX8_changes 19 = .ok (.getfield 13, 3) := by decide +kernel
theorem dX8_changes_22 : decode cX8_changes 22 = .ok (.iload_n 1, 1) := by decide +kernel
theorem dX8_changes_23 : decode cX8_changes 23 = .ok (.aload_n 0, 1) := by decide +kernel
theorem dX8_changes_24 : decode cX8_changes 24 = .ok (.getfield 13, 3) := by decide +kernel
theorem dX8_changes_27 : decode cX8_changes 27 = .ok (.iload_n 1, 1) := by decide +kernel
theorem dX8_changes_28 : decode cX8_changes 28 = .ok (.sipush 427, 3) := by decide +kernel
theorem dX8_changes_31 : decode cX8_changes 31 = .ok (.iadd, 1) := by decide +kernel
theorem dX8_changes_32 : decode cX8_changes 32 = .ok (.iaload, 1) := by decide +kernel
theorem dX8_changes_33 : decode cX8_changes 33 = .ok (.iastore, 1) := by decide +kernel
theorem dX8_changes_34 : decode cX8_changes 34 = .ok (.iinc 1 1, 3) := by decide +kernel
theorem dX8_changes_37 : decode cX8_changes 37 = .ok (.goto (-26), 3) := by decide +kernel
theorem dX8_changes_9 : decode cX8_changes 9 = .ok (.iconst 0, 1) := by decide +kernel
theorem dX8_changes_10 : decode cX8_changes 10 = .ok (.istore_n 1, 1) := by decide +kernel
set_option maxHeartbeats 400000 in
set_option maxRecDepth 20000 in
theorem ct_X8_changes (l : Launch) (D : va_G) (dA : Nat → ClassId) (hst : l.stackTraces = false) (M : jM) (m : Nat) (A : cA) (hA : mAb M m A) : jCT l D dA yX8_changes wsX8_changes (20) (300) (0) (0) 0 [.ref (m)] M (mCgP M m A) := by
  refine jBody (cc := cX8_changes) (nL := 2) (rt := none) (ini := false) (by decide) rfl hst (Nat.le_of_ble_eq_true rfl) (by simp [Value.category]) (by intro h9; first | exact absurd h9 (by decide) | rfl) ?_
  show J l D dA RX8 cX8_changes wsX8_changes 2 false none [] (20) (300) (jF D dA (jn M) (mCgP M m A) 0) (jn M) (0) (0) (M) 0 [.ref (m), .float 0] []
  obtain ⟨hM, hz, ⟨hKn, hK8, hKs⟩, ⟨hHs, hHz⟩, ⟨hLn, hL6, hLc⟩, hFl, ⟨hRs, hRp⟩, hCh⟩ := id hA
  obtain ⟨m1, m2, ⟨r1, r2, r3, r4, r5, r6, r7, r8, r9, r10, r11, r12, r13⟩, ⟨k1, k2, k3, k4, k5, k6, k7, k8, k9, k10, k11, k12, k13⟩, z1, z2, z3, z4, z5, z6, z7, z8, z9, z10, z11, z12, z13⟩ := id hM
  have L52 : ∀ (fuel : Nat) (k : Nat) (c : Nat) (K : jM) (hk : k ≤ 427) (hK : mCg0 M m A K c), 427 - k < fuel → J l D dA RX8 cX8_changes wsX8_changes 2 false none [] (20) (300) (jF D dA (jn M) (mCgP M m A) 0) (jn M) (0) (0) (jSv K (m + 2) (mCp (ji K (m + 2)) (427 * c) (ji K (m + 1)) k)) 52 [.ref (m), .int (nI (k))] [] := by
    intro fuel
    induction fuel with
    | zero => intro k c K hk hK hm; exact absurd hm (Nat.not_lt_zero _)
    | succ fuel ih52 =>
      intro k c K hk hK hm52
      obtain ⟨hF9, hR9, hS9, hc4, hc8, hKm, hKn9⟩ := mCg0_f hA hK
      obtain ⟨Km1, Km2, ⟨Kr1, Kr2, Kr3, Kr4, Kr5, Kr6, Kr7, Kr8, Kr9, Kr10, Kr11, Kr12, Kr13⟩, ⟨Kk1, Kk2, Kk3, Kk4, Kk5, Kk6, Kk7, Kk8, Kk9, Kk10, Kk11, Kk12, Kk13⟩, Kz1, Kz2, Kz3, Kz4, Kz5, Kz6, Kz7, Kz8, Kz9, Kz10, Kz11, Kz12, Kz13⟩ := id hKm
      refine J_iload_n dX8_changes_52 rfl rfl ?_
      refine J_sipush (x := 427) dX8_changes_53 (by decide) ?_
      refine J_icmp_ge dX8_changes_56 (tgt := 86) (by decide) (fun c56 => ?_) (fun c56 => ?_)
      · have c56 := jleT (a := 427) (b := k) (by omega) (by omega) c56
        refine J_aload_n (m) dX8_changes_86 rfl rfl ?_
        refine J_dup dX8_changes_87 rfl ?_
        refine J_geti (j := 4) dX8_changes_88 (fun _ h => List.mem_cons_of_mem _ (List.mem_append_left _ (List.mem_append_right _ (h)))) cs11 (by decide) rfl (List.mem_of_getElem? (i := 1) rfl) rfl (show m < jn K from by omega) Km2 ?_
        refine J_topi (y := nI (c)) ((by rw [ji_Svn (by omega)]; exact hc4)) ?_
        refine J_iconst (x := 1) dX8_changes_91 (by decide) ?_
        refine J_iadd dX8_changes_92 ?_
        refine J_topi (y := nI (c + 1)) (nI_add (c) (1)) ?_
        refine J_puti (j := 4) (x := nI (c + 1)) dX8_changes_93 (fun _ h => List.mem_cons_of_mem _ (List.mem_append_left _ (List.mem_append_right _ (h)))) cs11 cty11 (by decide) rfl (List.mem_of_getElem? (i := 1) rfl) rfl rfl ⟨rfl, rfl⟩ (show m < jn K from by omega) Km2 ?_
        exact J_vret dX8_changes_96 rfl (by rw [show k = 427 from by omega]; exact chg_end hA hK)
      · have c56 := jleF (a := 427) (b := k) (by omega) (by omega) c56
        refine J_aload_n (m) dX8_changes_59 rfl rfl ?_
        refine J_getrs (q := m + 2) Kr2 dX8_changes_60 (fun _ h => List.mem_cons_of_mem _ (List.mem_append_left _ (List.mem_append_right _ (h)))) cs11 (by decide) rfl (List.mem_of_getElem? (i := 2) rfl) rfl (show m < jn K from by omega) Km2 ?_
        refine J_sipush (x := 427) dX8_changes_63 (by decide) ?_
        refine J_aload_n (m) dX8_changes_66 rfl rfl ?_
        refine J_geti (j := 4) dX8_changes_67 (fun _ h => List.mem_cons_of_mem _ (List.mem_append_left _ (List.mem_append_right _ (h)))) cs11 (by decide) rfl (List.mem_of_getElem? (i := 1) rfl) rfl (show m < jn K from by omega) Km2 ?_
        refine J_topi (y := nI (c)) ((by rw [ji_Svn (by omega)]; exact hc4)) ?_
        refine J_imul dX8_changes_70 ?_
        refine J_topi (y := nI (427 * c)) (pk_mul (427) (c)) ?_
        refine J_iload_n dX8_changes_71 rfl rfl ?_
        refine J_iadd dX8_changes_72 ?_
        refine J_topi (y := nI (427 * c + k)) (nI_add (427 * c) (k)) ?_
        refine J_aload_n (m) dX8_changes_73 rfl rfl ?_
        refine J_getrs (q := m + 1) Kr1 dX8_changes_74 (fun _ h => List.mem_cons_of_mem _ (List.mem_append_left _ (List.mem_append_right _ (h)))) cs11 (by decide) rfl (List.mem_of_getElem? (i := 3) rfl) rfl (show m < jn K from by omega) Km2 ?_
        refine J_iload_n dX8_changes_77 rfl rfl ?_
        refine J_ialdN (k := k) dX8_changes_78 (show m + 1 < jn K from by omega) Kk1 (by exact Nat.lt_of_lt_of_eq (show _ < 427 by omega) (Eq.symm Kz1)) (by exact Nat.lt_of_le_of_lt (Nat.le_of_eq Kz1) (show 427 < 2 ^ 31 by omega)) ?_
        refine J_topi (y := (ji K (m + 1) k)) (by exact ji_Svn (by omega)) ?_
        refine J_iastN (k := 427 * c + k) dX8_changes_79 (show m + 2 < jn K from by omega) Kk2 (by exact Nat.lt_of_lt_of_eq (show _ < 3416 by omega) (Eq.symm Kz2)) (by exact Nat.lt_of_le_of_lt (Nat.le_of_eq Kz2) (show 3416 < 2 ^ 31 by omega)) ?_
        refine J_mem (M' := jSv K (m + 2) (mCp (ji K (m + 2)) (427 * c) (ji K (m + 1)) (k + 1))) (by exact ((jSi_Sv _ _ _ _ _).trans (congrArg (jSv K (m + 2)) mCp_s))) ?_
        refine J_iinc (y := nI (k + 1)) (lv' := [.ref (m), .int (nI (k + 1))]) dX8_changes_80 rfl (jinc (k)) (by decide) rfl rfl ?_
        refine J_goto (tgt := 52) dX8_changes_83 (by decide) ?_
        exact ih52 (k + 1) (c) (K) (by omega) (by exact hK) (by omega)
  refine J_aload_n (m) dX8_changes_0 rfl rfl ?_
  refine J_geti (j := 4) dX8_changes_1 (fun _ h => List.mem_cons_of_mem _ (List.mem_append_left _ (List.mem_append_right _ (h)))) cs11 (by decide) rfl (List.mem_of_getElem? (i := 1) rfl) rfl (show m < jn M from by omega) m2 ?_
  refine J_topi (y := nI (cKp A)) (hKn) ?_
  refine J_bipush (x := 8) dX8_changes_4 (by decide) ?_
  refine J_icmp_ne dX8_changes_6 (tgt := 50) (by decide) (fun c6 => ?_) (fun c6 => ?_)
  · have c6 := jeqF (a := cKp A) (b := 8) (by omega) (by omega) c6
    refine J_mem (M' := jSv M (m + 2) (mCp (ji M (m + 2)) (427 * (cKp A)) (ji M (m + 1)) 0)) (by rw [mCp_0]; exact (jSv_self _ _).symm) ?_
    refine J_iconst (x := 0) dX8_changes_50 (by decide) ?_
    refine J_istore_n (lv' := [.ref (m), .int (0)]) dX8_changes_51 rfl (by decide) rfl rfl ?_
    exact L52 _ (0) (cKp A) (M) (by omega) (by exact Or.inl ⟨rfl, rfl, by omega⟩) (Nat.lt_succ_self _)
  · have c6 := jeqT (a := cKp A) (b := 8) (by omega) (by omega) c6
    refine J_mem (M' := jSv M (m + 2) (mSh (ji M (m + 2)) 0)) (by rw [mSh_0]; exact (jSv_self _ _).symm) ?_
    have L11 : ∀ (fuel : Nat) (k : Nat) (hk : k ≤ 2989), 2989 - k < fuel → J l D dA RX8 cX8_changes wsX8_changes 2 false none [] (20) (300) (jF D dA (jn M) (mCgP M m A) 0) (jn M) (0) (0) (jSv M (m + 2) (mSh (ji M (m + 2)) k)) 11 [.ref (m), .int (nI (k))] [] := by
      intro fuel
      induction fuel with
      | zero => intro k hk hm; exact absurd hm (Nat.not_lt_zero _)
      | succ fuel ih11 =>
        intro k hk hm11
        refine J_iload_n dX8_changes_11 rfl rfl ?_
        refine J_sipush (x := 2989) dX8_changes_12 (by decide) ?_
        refine J_icmp_ge dX8_changes_15 (tgt := 40) (by decide) (fun c15 => ?_) (fun c15 => ?_)
        · have c15 := jleT (a := 2989) (b := k) (by omega) (by omega) c15
          refine J_aload_n (m) dX8_changes_40 rfl rfl ?_
          refine J_dup dX8_changes_41 rfl ?_
          refine J_geti (j := 4) dX8_changes_42 (fun _ h => List.mem_cons_of_mem _ (List.mem_append_left _ (List.mem_append_right _ (h)))) cs11 (by decide) rfl (List.mem_of_getElem? (i := 1) rfl) rfl (show m < jn M from by omega) m2 ?_
          refine J_topi (y := nI (cKp A)) ((by rw [ji_Svn (by omega)]; exact hKn)) ?_
          refine J_iconst (x := 1) dX8_changes_45 (by decide) ?_
          refine J_isub dX8_changes_46 ?_
          refine J_topi (y := nI (cKp A - 1)) (pk_sub (a := cKp A) (b := 1) (by omega)) ?_
          refine J_puti (j := 4) (x := nI (cKp A - 1)) dX8_changes_47 (fun _ h => List.mem_cons_of_mem _ (List.mem_append_left _ (List.mem_append_right _ (h)))) cs11 cty11 (by decide) rfl (List.mem_of_getElem? (i := 1) rfl) rfl rfl ⟨rfl, rfl⟩ (show m < jn M from by omega) m2 ?_
          obtain ⟨K1, hK1⟩ : ∃ Kz, Kz = jSi (jSv M (m + 2) (mSh (ji M (m + 2)) k)) m 4 (nI (cKp A - 1)) := ⟨_, rfl⟩
          refine J_mem (M' := K1) hK1.symm ?_
          refine J_mem (M' := jSv K1 (m + 2) (mCp (ji K1 (m + 2)) (427 * (7)) (ji K1 (m + 1)) 0)) (by rw [mCp_0]; exact (jSv_self _ _).symm) ?_
          refine J_iconst (x := 0) dX8_changes_50 (by decide) ?_
          refine J_istore_n (lv' := [.ref (m), .int (0)]) dX8_changes_51 rfl (by decide) rfl rfl ?_
          exact L52 _ (0) (7) (K1) (by omega) (by exact Or.inr ⟨c6, rfl, by rw [hK1]; first | (rw [show k = 2989 from by omega, show cKp A - 1 = 7 from by omega]; done) | (rw [show k = 2989 from by omega, c6]; done) | (rw [show k = 2989 from by omega, c6]; rfl) | (rw [show k = 2989 from by omega]; rfl)⟩) (Nat.lt_succ_self _)
        · have c15 := jleF (a := 2989) (b := k) (by omega) (by omega) c15
          refine J_aload_n (m) dX8_changes_18 rfl rfl ?_
          refine J_getrs (q := m + 2) r2 dX8_changes_19 (fun _ h => List.mem_cons_of_mem _ (List.mem_append_left _ (List.mem_append_right _ (h)))) cs11 (by decide) rfl (List.mem_of_getElem? (i := 2) rfl) rfl (show m < jn M from by omega) m2 ?_
          refine J_iload_n dX8_changes_22 rfl rfl ?_
          refine J_aload_n (m) dX8_changes_23 rfl rfl ?_
          refine J_getrs (q := m + 2) r2 dX8_changes_24 (fun _ h => List.mem_cons_of_mem _ (List.mem_append_left _ (List.mem_append_right _ (h)))) cs11 (by decide) rfl (List.mem_of_getElem? (i := 2) rfl) rfl (show m < jn M from by omega) m2 ?_
          refine J_iload_n dX8_changes_27 rfl rfl ?_
          refine J_sipush (x := 427) dX8_changes_28 (by decide) ?_
          refine J_iadd dX8_changes_31 ?_
          refine J_topi (y := nI (k + 427)) (nI_add (k) (427)) ?_
          refine J_ialdN (k := k + 427) dX8_changes_32 (show m + 2 < jn M from by omega) k2 (by exact Nat.lt_of_lt_of_eq (show _ < 3416 by omega) (Eq.symm z2)) (by exact Nat.lt_of_le_of_lt (Nat.le_of_eq z2) (show 3416 < 2 ^ 31 by omega)) ?_
          refine J_topi (y := (ji M (m + 2) (k + 427))) (by rw [ji_Sv, if_pos rfl]; exact mSh_out) ?_
          refine J_iastN (k := k) dX8_changes_33 (show m + 2 < jn M from by omega) k2 (by exact Nat.lt_of_lt_of_eq (show _ < 3416 by omega) (Eq.symm z2)) (by exact Nat.lt_of_le_of_lt (Nat.le_of_eq z2) (show 3416 < 2 ^ 31 by omega)) ?_
          refine J_mem (M' := jSv M (m + 2) (mSh (ji M (m + 2)) (k + 1))) (by exact ((jSi_Sv _ _ _ _ _).trans (congrArg (jSv M (m + 2)) mSh_s))) ?_
          refine J_iinc (y := nI (k + 1)) (lv' := [.ref (m), .int (nI (k + 1))]) dX8_changes_34 rfl (jinc (k)) (by decide) rfl rfl ?_
          refine J_goto (tgt := 11) dX8_changes_37 (by decide) ?_
          exact ih11 (k + 1) (by omega) (by omega)
    refine J_iconst (x := 0) dX8_changes_9 (by decide) ?_
    refine J_istore_n (lv' := [.ref (m), .int (0)]) dX8_changes_10 rfl (by decide) rfl rfl ?_
    exact L11 _ (0) (by omega) (Nat.lt_succ_self _)

