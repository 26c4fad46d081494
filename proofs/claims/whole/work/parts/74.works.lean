theorem mSlot.sh {r1 r2 : Nat → Int32} {p : Nat} {w : rVl} (h : mSlot r2 p (some w)) (e : ∀ j, j < p + 33 → r1 j = r2 j) : mSlot r1 p (some w) := h.cong (fun j hj => e (p + j) (by omega))
theorem cAt_no {z : cSt} {x : Int32} (h : okSlot x = false) : cAt z x = none := by unfold cAt; rw [if_neg (by rw [h]; decide)]
theorem mWr_tk {M : jM} {m k to nn : Nat} {s : eSt} {w : rVl} (hx : mSlot (ji M (m + 1)) (33 * k) (some w)) (hw : rWf w) (h28 : ji M m 28 = 0) : mWr M (jSv M (m + 6) (mCp (ji M (m + 6)) to (mTk (fun i => ji M (m + 1) (33 * k + i)) w.1) 33)) m s to nn (.inr w) := by
  have e6 : ji (jSv M (m + 6) (mCp (ji M (m + 6)) to (mTk (fun i => ji M (m + 1) (33 * k + i)) w.1) 33)) (m + 6) = mCp (ji M (m + 6)) to (mTk (fun i => ji M (m + 1) (33 * k + i)) w.1) 33 := funext fun j => by rw [ji_Sv, if_pos rfl]
  refine ⟨(ji_Svn (by omega)).trans h28, ji_Svn (by omega), funext fun j => ji_Svn (by omega), ?_, hw, fun j hj => ?_⟩
  · rw [e6]; exact (mTk_sl hx.row).cong (fun j hj => by rw [mCp_in hj, Nat.zero_add])
  · rw [e6]; exact mCp_out (by omega)
/-- an operation joined: its range, or that it has too many spans -/
theorem mWr_jt {M N : jM} {m : Nat} {s : eSt} {to nn : Nat} {w : rVl} {H : Nat → Int32} (h28 : ji N m 28 = 0) (h10 : ji N m 10 = ji M m 10) (h5 : ji N (m + 5) = ji M (m + 5)) (h6 : ji N (m + 6) = H) (hs : mSlot H to (some w)) (hw : rWf w) (hl : ∀ j, j < to → H j = ji M (m + 6) j) : mWr M N m s to nn (.inr w) :=
  ⟨h28, h10, h5, by rw [h6]; exact hs, hw, fun j hj => by rw [h6]; exact hl j hj⟩
theorem mWC.use {l : Launch} {D : va_G} {dA : Nat → ClassId} {m : Nat} {z : cSt} {s : eSt} {f : Nat} (h : mWC l D dA m z s f) (M : jM) (a t to nn : Nat) (h1 : mOk M m) (h2 : mSt (ji M (m + 1)) 0 z) (h3 : mNd M m s) (h4 : tTr s f a t) (h5 : t < s.2.1) (h6 : to + 33 * (f + 1) ≤ 2112) (h7 : nn + f ≤ 60) (h8 : ji M m 28 = 0) : jCT l D dA yX8_works wsX8_works (30 + f) (700 + 60 * f) 0 0 0 [.ref m, .int (nI t), .int (nI to), .int (nI nn)] M (mWk M m z s f t to nn) := h M a t to nn h1 h2 h3 h4 h5 h6 h7 h8
theorem dX8_works_0 : decode cX8_works 0 = .ok (.aload_n 0, 1) := by decide +kernel
theorem dX8_works_1 : decode cX8_works 1 = .ok (.getfield 38, 3) := by decide +kernel
theorem dX8_works_4 : decode cX8_works 4 = .ok (.iload_n 1, 1) := by decide +kernel
theorem dX8_works_5 : decode cX8_works 5 = .ok (.iaload, 1) := by decide +kernel
theorem dX8_works_6 : decode cX8_works 6 = .ok (.bipush 115, 2) := by decide +kernel
theorem dX8_works_8 : decode cX8_works 8 = .ok (.if_icmp .ne 55, 3) := by decide +kernel
theorem dX8_works_11 : decode cX8_works 11 = .ok (.aload_n 0, 1) := by decide +kernel
theorem dX8_works_12 : decode cX8_works 12 = .ok (.getfield 41, 3) := by decide +kernel
theorem dX8_works_15 : decode cX8_works 15 = .ok (.iload_n 1, 1) := by decide +kernel
theorem dX8_works_16 : decode cX8_works 16 = .ok (.iaload, 1) := by decide +kernel
theorem dX8_works_17 : decode cX8_works 17 = .ok (.invokestatic 151, 3) := by decide +kernel
set_option maxRecDepth 20000 in
theorem ggX8_works_X8_isSlot : GoodIn wsX8_works wsX8_isSlot := goodIn_r _ [11] (by decide +kernel) (by decide +kernel)
set_option maxRecDepth 20000 in
theorem gX8_works_X8_isSlot : GoodIn wsX8_works (va_wsS RX8 151 yX8_isSlot wsX8_isSlot) := goodIn_app (goodIn_of _ (by decide +kernel)) ggX8_works_X8_isSlot
theorem dX8_works_20 : decode cX8_works 20 = .ok (.ifCond .eq 16, 3) := by decide +kernel
theorem dX8_works_36 : decode cX8_works 36 = .ok (.aload_n 0, 1) := by decide +kernel
theorem dX8_works_37 : decode cX8_works 37 = .ok (.iconst 1, 1) := by decide +kernel
theorem dX8_works_38 : decode cX8_works 38 = .ok (.iload_n 3, 1) := by decide +kernel
theorem dX8_works_39 : decode cX8_works 39 = .ok (.aload_n 0, 1) := by decide +kernel
theorem dX8_works_40 : decode cX8_works 40 = .ok (.getfield 47, 3) := by decide +kernel
theorem dX8_works_43 : decode cX8_works 43 = .ok (.iload_n 1, 1) := by decide +kernel
theorem dX8_works_44 : decode cX8_works 44 = .ok (.iaload, 1) := by decide +kernel
theorem dX8_works_45 : decode cX8_works 45 = .ok (.invokevirtual 191, 3) := by decide +kernel
set_option maxRecDepth 20000 in
theorem ggX8_works_X8_notes : GoodIn wsX8_works wsX8_notes := goodIn_ca (goodIn_r _ [20, 5, 21, 22, 4, 48, 49, 50, 51, 52, 53, 54, 55, 56, 57, 58, 59, 60, 61, 62, 63, 64, 65, 66, 67, 68, 69, 70, 71, 72, 73, 74, 75, 76, 77, 78] (by decide +kernel) (by decide +kernel)) (goodIn_sub (fun _ h => List.mem_cons_of_mem _ (List.mem_append_right _ h)) (by decide +kernel))
set_option maxRecDepth 20000 in
theorem gX8_works_X8_notes : GoodIn wsX8_works (wsV RX8 191 RX8 yX8_notes wsX8_notes) := goodIn_app (goodIn_of _ (by decide +kernel)) ggX8_works_X8_notes
theorem yY_X8_notes : jY yX8_notes wsX8_notes cX8_notes 5 none 3 := ⟨⟨_, rfl⟩, by decide +kernel, by decide +kernel, by decide +kernel⟩
theorem dX8_works_48 : decode cX8_works 48 = .ok (.goto 14, 3) := by decide +kernel
theorem dX8_works_62 : decode cX8_works 62 = .ok (.return_, 1) := by decide +kernel
theorem dX8_works_23 : decode cX8_works 23 = .ok (.aload_n 0, 1) := by decide +kernel
theorem dX8_works_24 : decode cX8_works 24 = .ok (.aload_n 0, 1) := by decide +kernel
theorem dX8_works_25 : decode cX8_works 25 = .ok (.getfield 41, 3) := by decide +kernel
theorem dX8_works_28 : decode cX8_works 28 = .ok (.iload_n 1, 1) := by decide +kernel
theorem dX8_works_29 : decode cX8_works 29 = .ok (.iaload, 1) := by decide +kernel
theorem dX8_works_30 : decode cX8_works 30 = .ok (.invokevirtual 188, 3) := by decide +kernel
set_option maxRecDepth 20000 in
theorem ggX8_works_X8_isEmpty : GoodIn wsX8_works wsX8_isEmpty := goodIn_ca (goodIn_r _ [15, 16, 48, 49, 50, 51, 52, 53, 54, 55, 56, 57, 58, 59, 60, 61, 62, 63, 64, 65, 66, 67, 68, 69, 70, 71, 72, 73, 74, 75, 76, 77, 78] (by decide +kernel) (by decide +kernel)) (goodIn_sub (fun _ h => List.mem_cons_of_mem _ (List.mem_append_right _ h)) (by decide +kernel))
set_option maxRecDepth 20000 in
theorem gX8_works_X8_isEmpty : GoodIn wsX8_works (wsV RX8 188 RX8 yX8_isEmpty wsX8_isEmpty) := goodIn_app (goodIn_of _ (by decide +kernel)) ggX8_works_X8_isEmpty
theorem dX8_works_33 : decode cX8_works 33 = .ok (.ifCond .eq 18, 3) := by decide +kernel
theorem dX8_works_51 : decode cX8_works 51 = .ok (.aload_n 0, 1) := by decide +kernel
theorem dX8_works_52 : decode cX8_works 52 = .ok (.aload_n 0, 1) := by decide +kernel
theorem dX8_works_53 : decode cX8_works 53 = .ok (.getfield 41, 3) := by decide +kernel
theorem dX8_works_56 : decode cX8_works 56 = .ok (.iload_n 1, 1) := by decide +kernel
theorem dX8_works_57 : decode cX8_works 57 = .ok (.iaload, 1) := by decide +kernel
theorem dX8_works_58 : decode cX8_works 58 = .ok (.iload_n 2, 1) := by decide +kernel
theorem dX8_works_59 : decode cX8_works 59 = .ok (.invokevirtual 195, 3) := by decide +kernel
set_option maxRecDepth 20000 in
theorem ggX8_works_X8_takes : GoodIn wsX8_works wsX8_takes := goodIn_ca (goodIn_r _ [26, 6, 16, 48, 49, 50, 51, 52, 53, 54, 55, 56, 57, 58, 59, 60, 61, 62, 63, 64, 65, 66, 67, 68, 69, 70, 71, 72, 73, 74, 75, 76, 77, 78] (by decide +kernel) (by decide +kernel)) (goodIn_sub (fun _ h => List.mem_cons_of_mem _ (List.mem_append_right _ h)) (by decide +kernel))
set_option maxRecDepth 20000 in
theorem gX8_works_X8_takes : GoodIn wsX8_works (wsV RX8 195 RX8 yX8_takes wsX8_takes) := goodIn_app (goodIn_of _ (by decide +kernel)) ggX8_works_X8_takes
theorem yY_X8_takes : jY yX8_takes wsX8_takes cX8_takes 4 none 2 := ⟨⟨_, rfl⟩, by decide +kernel, by decide +kernel, by decide +kernel⟩
theorem dX8_works_63 : decode cX8_works 63 = .ok (.aload_n 0, 1) := by decide +kernel
theorem dX8_works_64 : decode cX8_works 64 = .ok (.getfield 50, 3) := by decide +kernel
theorem dX8_works_67 : decode cX8_works 67 = .ok (.iload_n 3, 1) := by decide +kernel
theorem dX8_works_68 : decode cX8_works 68 = .ok (.aload_n 0, 1) := by decide +kernel
theorem dX8_works_69 : decode cX8_works 69 = .ok (.getfield 47, 3) := by decide +kernel
theorem dX8_works_72 : decode cX8_works 72 = .ok (.iload_n 1, 1) := by decide +kernel
theorem dX8_works_73 : decode cX8_works 73 = .ok (.iaload, 1) := by decide +kernel
theorem dX8_works_74 : decode cX8_works 74 = .ok (.iastore, 1) := by decide +kernel
theorem dX8_works_75 : decode cX8_works 75 = .ok (.aload_n 0, 1) := by decide +kernel
theorem dX8_works_76 : decode cX8_works 76 = .ok (.aload_n 0, 1) := by decide +kernel
theorem dX8_works_77 : decode cX8_works 77 = .ok (.getfield 41, 3) := by decide +kernel
theorem dX8_works_80 : decode cX8_works 80 = .ok (.iload_n 1, 1) := by decide +kernel
theorem dX8_works_81 : decode cX8_works 81 = .ok (.iaload, 1) := by decide +kernel
theorem dX8_works_82 : decode cX8_works 82 = .ok (.iload_n 2, 1) := by decide +kernel
theorem dX8_works_83 : decode cX8_works 83 = .ok (.iload_n 3, 1) := by decide +kernel
theorem dX8_works_84 : decode cX8_works 84 = .ok (.iconst 1, 1) := by decide +kernel
theorem dX8_works_85 : decode cX8_works 85 = .ok (.iadd, 1) := by decide +kernel
theorem dX8_works_86 : decode cX8_works 86 = .ok (.invokevirtual 199, 3) := by decide +kernel
set_option maxRecDepth 20000 in
theorem ggX8_works_X8_works : GoodIn wsX8_works wsX8_works := goodIn_ca (goodIn_r _ [0, 1, 2, 3, 4, 5, 6, 7, 8, 9, 10, 11, 12, 13, 14, 15, 16, 17, 18, 19, 20, 21, 22, 23, 24, 25, 26, 27, 28, 29, 30, 31, 32, 33, 34, 35, 36, 37, 38, 39, 40, 41, 42, 43, 44, 45, 46, 47, 48, 49, 50, 51, 52, 53, 54, 55, 56, 57, 58, 59, 60, 61, 62, 63, 64, 65, 66, 67, 68, 69, 70, 71, 72, 73, 74, 75, 76, 77, 78] (by decide +kernel) (by decide +kernel)) (goodIn_sub (fun _ h => List.mem_cons_of_mem _ (List.mem_append_right _ h)) (by decide +kernel))
set_option maxRecDepth 20000 in
theorem gX8_works_X8_works : GoodIn wsX8_works (wsV RX8 199 RX8 yX8_works wsX8_works) := goodIn_app (goodIn_of _ (by decide +kernel)) ggX8_works_X8_works
theorem yY_X8_works : jY yX8_works wsX8_works cX8_works 4 none 3 := ⟨⟨_, rfl⟩, by decide +kernel, by decide +kernel, by decide +kernel⟩
theorem dX8_works_89 : decode cX8_works 89 = .ok (.aload_n 0, 1) := by decide +kernel
theorem dX8_works_90 : decode cX8_works 90 = .ok (.getfield 185, 3) := by decide +kernel
theorem dX8_works_93 : decode cX8_works 93 = .ok (.ifCond .le 4, 3) := by decide +kernel
theorem dX8_works_96 : decode cX8_works 96 = .ok (.return_, 1) := by decide +kernel
theorem dX8_works_97 : decode cX8_works 97 = .ok (.aload_n 0, 1) := by decide +kernel
theorem dX8_works_98 : decode cX8_works 98 = .ok (.getfield 38, 3) := by decide +kernel
theorem dX8_works_101 : decode cX8_works 101 = .ok (.iload_n 1, 1) := by decide +kernel
theorem dX8_works_102 : decode cX8_works 102 = .ok (.iaload, 1) := by decide +kernel
theorem dX8_works_103 : decode cX8_works 103 = .ok (.bipush 33, 2) := by decide +kernel
theorem dX8_works_105 : decode cX8_works 105 = .ok (.if_icmp .ne 16, 3) := by decide +kernel
theorem dX8_works_108 : decode cX8_works 108 = .ok (.aload_n 0, 1) := by decide +kernel
theorem dX8_works_109 : decode cX8_works 109 = .ok (.getfield 32, 3) := by decide +kernel
theorem dX8_works_112 : decode cX8_works 112 = .ok (.iload_n 2, 1) := by decide +kernel
theorem dX8_works_113 : decode cX8_works 113 = .ok (.bipush 33, 2) := by decide +kernel
theorem dX8_works_115 : decode cX8_works 115 = .ok (.iadd, 1) := by decide +kernel
theorem dX8_works_116 : decode cX8_works 116 = .ok (.iconst 0, 1) := by decide +kernel
theorem dX8_works_117 : decode cX8_works 117 = .ok (.iastore, 1) := by decide +kernel
theorem dX8_works_118 : decode cX8_works 118 = .ok (.goto 20, 3) := by decide +kernel
theorem dX8_works_138 : decode cX8_works 138 = .ok (.aload_n 0, 1) := by decide +kernel
theorem dX8_works_139 : decode cX8_works 139 = .ok (.getfield 185, 3) := by decide +kernel
theorem dX8_works_142 : decode cX8_works 142 = .ok (.ifCond .le 4, 3) := by decide +kernel
theorem dX8_works_146 : decode cX8_works 146 = .ok (.aload_n 0, 1) := by decide +kernel
theorem dX8_works_147 : decode cX8_works 147 = .ok (.aload_n 0, 1) := by decide +kernel
theorem dX8_works_148 : decode cX8_works 148 = .ok (.getfield 38, 3) := by decide +kernel
theorem dX8_works_151 : decode cX8_works 151 = .ok (.iload_n 1, 1) := by decide +kernel
theorem dX8_works_152 : decode cX8_works 152 = .ok (.iaload, 1) := by decide +kernel
theorem dX8_works_153 : decode cX8_works 153 = .ok (.iload_n 2, 1) := by decide +kernel
theorem dX8_works_154 : decode cX8_works 154 = .ok (.iload_n 2, 1) := by decide +kernel
theorem dX8_works_155 : decode cX8_works 155 = .ok (.bipush 33, 2) := by decide +kernel
theorem dX8_works_157 : decode cX8_works 157 = .ok (.iadd, 1) := by decide +kernel
theorem dX8_works_158 : decode cX8_works 158 = .ok (.iload_n 2, 1) := by decide +kernel
theorem dX8_works_159 : decode cX8_works 159 = .ok (.invokevirtual 144, 3) := by decide +kernel
set_option maxRecDepth 20000 in
theorem ggX8_works_X8_joins : GoodIn wsX8_works wsX8_joins := goodIn_ca (goodIn_r _ [33, 34, 6, 35, 36, 37, 10, 38, 39, 40, 41, 42, 43, 44, 45, 46, 47, 48, 49, 50, 51, 52, 53, 54, 55, 56, 57, 58, 59, 60, 61, 62, 63, 64, 65, 66, 67, 68, 69, 70, 71, 72, 73, 74, 75, 76, 77, 78] (by decide +kernel) (by decide +kernel)) (goodIn_sub (fun _ h => List.mem_cons_of_mem _ (List.mem_append_right _ h)) (by decide +kernel))
set_option maxRecDepth 20000 in
theorem gX8_works_X8_joins : GoodIn wsX8_works (wsV RX8 144 RX8 yX8_joins wsX8_joins) := goodIn_app (goodIn_of _ (by decide +kernel)) ggX8_works_X8_joins
theorem dX8_works_162 : decode cX8_works 162 = .ok (.ifCond .ne 15, 3) := by decide +kernel
theorem dX8_works_165 : decode cX8_works 165 = .ok (.aload_n 0, 1) := by decide +kernel
theorem dX8_works_166 : decode cX8_works 166 = .ok (.iconst 3, 1) := by decide +kernel
theorem dX8_works_167 : decode cX8_works 167 = .ok (.iload_n 3, 1) := by decide +kernel
theorem dX8_works_168 : decode cX8_works 168 = .ok (.aload_n 0, 1) := by decide +kernel
theorem dX8_works_169 : decode cX8_works 169 = .ok (.getfield 47, 3) := by decide +kernel
theorem dX8_works_172 : decode cX8_works 172 = .ok (.iload_n 1, 1) := by decide +kernel
theorem dX8_works_173 : decode cX8_works 173 = .ok (.iaload, 1) := by decide +kernel
theorem dX8_works_174 : decode cX8_works 174 = .ok (.invokevirtual 191, 3) := by decide +kernel
theorem dX8_works_177 : decode cX8_works 177 = .ok (.return_, 1) := by decide +kernel
theorem dX8_works_121 : decode cX8_works 121 = .ok (.aload_n 0, 1) := by decide +kernel
theorem dX8_works_122 : decode cX8_works 122 = .ok (.aload_n 0, 1) := by decide +kernel
theorem dX8_works_123 : decode cX8_works 123 = .ok (.getfield 44, 3) := by decide +kernel
theorem dX8_works_126 : decode cX8_works 126 = .ok (.iload_n 1, 1) := by decide +kernel
theorem dX8_works_127 : decode cX8_works 127 = .ok (.iaload, 1) := by decide +kernel
theorem dX8_works_128 : decode cX8_works 128 = .ok (.iload_n 2, 1) := by decide +kernel
theorem dX8_works_129 : decode cX8_works 129 = .ok (.bipush 33, 2) := by decide +kernel
theorem dX8_works_131 : decode cX8_works 131 = .ok (.iadd, 1) := by decide +kernel
theorem dX8_works_132 : decode cX8_works 132 = .ok (.iload_n 3, 1) := by decide +kernel
theorem dX8_works_133 : decode cX8_works 133 = .ok (.iconst 1, 1) := by decide +kernel
theorem dX8_works_134 : decode cX8_works 134 = .ok (.iadd, 1) := by decide +kernel
theorem dX8_works_135 : decode cX8_works 135 = .ok (.invokevirtual 199, 3) := by decide +kernel
theorem dX8_works_145 : decode cX8_works 145 = .ok (.return_, 1) := by decide +kernel
set_option maxHeartbeats 800000 in
set_option maxRecDepth 20000 in
theorem ct_X8_works_s (l : Launch) (D : va_G) (dA : Nat → ClassId) (hst : l.stackTraces = false) (M : jM) (m : Nat) (z : cSt) (s : eSt) (f : Nat) (hW : ∀ j w, z.1 j = some w → rWf w) (hs60 : s.2.1 ≤ 60) (hI : mWC l D dA m z s f) (a t to nn : Nat) (hM : mOk M m) (hz : mSt (ji M (m + 1)) 0 z) (hN : mNd M m s) (hT : tTr s (f + 1) a t) (ht : t < s.2.1) (hto : to + 33 * (f + 1 + 1) ≤ 2112) (hnn : nn + (f + 1) ≤ 60) (h28 : ji M m 28 = 0) : jCT l D dA yX8_works wsX8_works (30 + (f + 1)) (700 + 60 * (f + 1)) (0) (0) 0 [.ref (m), .int (nI (t)), .int (nI (to)), .int (nI (nn))] M (mWk M m z s (f + 1) t to nn) := by
  refine jBody (cc := cX8_works) (nL := 4) (rt := none) (ini := false) (by decide) rfl hst (Nat.le_of_ble_eq_true rfl) (by simp [Value.category]) (by intro h9; first | exact absurd h9 (by decide) | rfl) ?_
  show J l D dA RX8 cX8_works wsX8_works 4 false none [] (30 + (f + 1)) (700 + 60 * (f + 1)) (jF D dA (jn M) (mWk M m z s (f + 1) t to nn) 0) (jn M) (0) (0) (M) 0 [.ref (m), .int (nI (t)), .int (nI (to)), .int (nI (nn))] []
  obtain ⟨m1, m2, ⟨r1, r2, r3, r4, r5, r6, r7, r8, r9, r10, r11, r12, r13⟩, ⟨k1, k2, k3, k4, k5, k6, k7, k8, k9, k10, k11, k12, k13⟩, z1, z2, z3, z4, z5, z6, z7, z8, z9, z10, z11, z12, z13⟩ := id hM
  obtain ⟨n1, n2, n3, n4⟩ := hN t ht
  rcases hT with ⟨hk, hat⟩ | ⟨hk, lN, e1, e2, e3, e4, hTl⟩ | ⟨hk, lN, rN, e1, e2, e3, e4, e5, e6, e7, hTl, hTr⟩
  · have g1 : ji M (m + 8) t = 115 := by rw [n1, hk]; decide
    refine J_aload_n (m) dX8_works_0 rfl rfl ?_
    refine J_getrs (q := m + 8) r8 dX8_works_1 (fun _ h => List.mem_cons_of_mem _ (List.mem_append_left _ (List.mem_append_right _ (h)))) cs11 (by decide) rfl (List.mem_of_getElem? (i := 1) rfl) rfl (show m < jn M from by omega) m2 ?_
    refine J_iload_n dX8_works_4 rfl rfl ?_
    refine J_ialdN (k := t) dX8_works_5 (show m + 8 < jn M from by omega) k8 (by exact Nat.lt_of_lt_of_eq (show _ < 60 by omega) (Eq.symm z8)) (by exact Nat.lt_of_le_of_lt (Nat.le_of_eq z8) (show 60 < 2 ^ 31 by omega)) ?_
    refine J_topi (y := (115)) (by exact g1) ?_
    refine J_bipush (x := 115) dX8_works_6 (by decide) ?_
    refine J_icmp_ne dX8_works_8 (tgt := 63) (by decide) (fun c8 => ?_) (fun c8 => ?_)
    · exact absurd c8 (by decide)
    · have c8 := jeqT (a := 115) (b := 115) (by omega) (by omega) c8
      refine J_aload_n (m) dX8_works_11 rfl rfl ?_
      refine J_getrs (q := m + 9) r9 dX8_works_12 (fun _ h => List.mem_cons_of_mem _ (List.mem_append_left _ (List.mem_append_right _ (h)))) cs11 (by decide) rfl (List.mem_of_getElem? (i := 2) rfl) rfl (show m < jn M from by omega) m2 ?_
      refine J_iload_n dX8_works_15 rfl rfl ?_
      refine J_ialdN (k := t) dX8_works_16 (show m + 9 < jn M from by omega) k9 (by exact Nat.lt_of_lt_of_eq (show _ < 60 by omega) (Eq.symm z9)) (by exact Nat.lt_of_le_of_lt (Nat.le_of_eq z9) (show 60 < 2 ^ 31 by omega)) ?_
      refine J_topi (y := (s.2.2.2.2.1 t)) (by exact n2) ?_
      refine J_calli0 (jrunS (As := [.int (s.2.2.2.2.1 t)]) (ct_X8_isSlot l D dA hst M ((s.2.2.2.2.1 t))) dX8_works_17 yY_X8_isSlot gX8_works_X8_isSlot rfl ⟨by omega, by omega⟩ ⟨Nat.zero_le _, Nat.zero_le _⟩ rfl (Nat.le_of_ble_eq_true rfl)) (rfl) (rfl) ?_
      refine J_if_eq dX8_works_20 (tgt := 36) (by decide) (fun c20 => ?_) (fun c20 => ?_)
      · have c20 := jb0T c20
        refine J_aload_n (m) dX8_works_36 rfl rfl ?_
        refine J_iconst (x := 1) dX8_works_37 (by decide) ?_
        refine J_iload_n dX8_works_38 rfl rfl ?_
        refine J_aload_n (m) dX8_works_39 rfl rfl ?_
        refine J_getrs (q := m + 11) r11 dX8_works_40 (fun _ h => List.mem_cons_of_mem _ (List.mem_append_left _ (List.mem_append_right _ (h)))) cs11 (by decide) rfl (List.mem_of_getElem? (i := 3) rfl) rfl (show m < jn M from by omega) m2 ?_
        refine J_iload_n dX8_works_43 rfl rfl ?_
        refine J_ialdN (k := t) dX8_works_44 (show m + 11 < jn M from by omega) k11 (by exact Nat.lt_of_lt_of_eq (show _ < 60 by omega) (Eq.symm z11)) (by exact Nat.lt_of_le_of_lt (Nat.le_of_eq z11) (show 60 < 2 ^ 31 by omega)) ?_
        refine J_topi (y := (s.2.2.2.1 t)) (by exact n4) ?_
        refine J_callv0 (jrunV (As := [.int (1), .int (nI (nn)), .int (s.2.2.2.1 t)]) (ct_X8_notes l D dA hst M m hM 1 nn (by omega) (s.2.2.2.1 t)) dX8_works_45 yY_X8_notes gX8_works_X8_notes rfl cs11 (show m < jn M from by omega) m2 rfl ⟨by omega, by omega⟩ ⟨Nat.zero_le _, Nat.zero_le _⟩ rfl (Nat.le_of_ble_eq_true rfl)) (rfl) (rfl) ?_
        refine J_goto (tgt := 62) dX8_works_48 (by decide) ?_
        exact J_vret dX8_works_62 rfl (by first | (rw [mWk, evT_4n hk (cAt_no c20)]; exact ⟨rfl, nM_f, nM_r (by omega) (fun _ _ => rfl) (by unfold eWhy; rw [if_pos hk])⟩) | (rw [mWk, evT_4n hk (by rw [hke, cAt_n hk9]; exact none_of c33)]; exact ⟨rfl, nM_f, nM_r (by omega) (fun _ _ => rfl) (by unfold eWhy; rw [if_pos hk])⟩))
      · have c20 := jb0F c20
        obtain ⟨k, hk9, hke⟩ := okSlot_of c20
        refine J_aload_n (m) dX8_works_23 rfl rfl ?_
        refine J_aload_n (m) dX8_works_24 rfl rfl ?_
        refine J_getrs (q := m + 9) r9 dX8_works_25 (fun _ h => List.mem_cons_of_mem _ (List.mem_append_left _ (List.mem_append_right _ (h)))) cs11 (by decide) rfl (List.mem_of_getElem? (i := 2) rfl) rfl (show m < jn M from by omega) m2 ?_
        refine J_iload_n dX8_works_28 rfl rfl ?_
        refine J_ialdN (k := t) dX8_works_29 (show m + 9 < jn M from by omega) k9 (by exact Nat.lt_of_lt_of_eq (show _ < 60 by omega) (Eq.symm z9)) (by exact Nat.lt_of_le_of_lt (Nat.le_of_eq z9) (show 60 < 2 ^ 31 by omega)) ?_
        refine J_topi (y := nI (k)) (by rw [n2]; exact hke) ?_
        refine J_calli0 (jrunV (As := [.int (nI (k))]) (ct_X8_isEmpty l D dA hst M m hM k hk9 (z.1 k) (hz.at0 hk9)) dX8_works_30 yY_X8_isEmpty gX8_works_X8_isEmpty rfl cs11 (show m < jn M from by omega) m2 rfl ⟨by omega, by omega⟩ ⟨Nat.zero_le _, Nat.zero_le _⟩ rfl (Nat.le_of_ble_eq_true rfl)) (rfl) (rfl) ?_
        refine J_if_eq dX8_works_33 (tgt := 51) (by decide) (fun c33 => ?_) (fun c33 => ?_)
        · have c33 := jb0T c33
          obtain ⟨w9, hw9⟩ := some_of c33
          have hx9 := hz.at0 hk9
          rw [hw9] at hx9
          refine J_aload_n (m) dX8_works_51 rfl rfl ?_
          refine J_aload_n (m) dX8_works_52 rfl rfl ?_
          refine J_getrs (q := m + 9) r9 dX8_works_53 (fun _ h => List.mem_cons_of_mem _ (List.mem_append_left _ (List.mem_append_right _ (h)))) cs11 (by decide) rfl (List.mem_of_getElem? (i := 2) rfl) rfl (show m < jn M from by omega) m2 ?_
          refine J_iload_n dX8_works_56 rfl rfl ?_
          refine J_ialdN (k := t) dX8_works_57 (show m + 9 < jn M from by omega) k9 (by exact Nat.lt_of_lt_of_eq (show _ < 60 by omega) (Eq.symm z9)) (by exact Nat.lt_of_le_of_lt (Nat.le_of_eq z9) (show 60 < 2 ^ 31 by omega)) ?_
          refine J_topi (y := nI (k)) (by rw [n2]; exact hke) ?_
          refine J_iload_n dX8_works_58 rfl rfl ?_
          refine J_callv0 (jrunV (As := [.int (nI (k)), .int (nI (to))]) (ct_X8_takes l D dA hst M m hM k hk9 to (by omega) w9 hx9) dX8_works_59 yY_X8_takes gX8_works_X8_takes rfl cs11 (show m < jn M from by omega) m2 rfl ⟨by omega, by omega⟩ ⟨Nat.zero_le _, Nat.zero_le _⟩ rfl (Nat.le_of_ble_eq_true rfl)) (rfl) (rfl) ?_
          exact J_vret dX8_works_62 rfl (by rw [mWk, evT_4s hk (by rw [hke, cAt_n hk9]; exact hw9)]; exact ⟨rfl, mWfr.rf.sv (by omega), mWr_tk hx9 (hW _ _ hw9) h28⟩)
        · have c33 := jb0F c33
          refine J_aload_n (m) dX8_works_36 rfl rfl ?_
          refine J_iconst (x := 1) dX8_works_37 (by decide) ?_
          refine J_iload_n dX8_works_38 rfl rfl ?_
          refine J_aload_n (m) dX8_works_39 rfl rfl ?_
          refine J_getrs (q := m + 11) r11 dX8_works_40 (fun _ h => List.mem_cons_of_mem _ (List.mem_append_left _ (List.mem_append_right _ (h)))) cs11 (by decide) rfl (List.mem_of_getElem? (i := 3) rfl) rfl (show m < jn M from by omega) m2 ?_
          refine J_iload_n dX8_works_43 rfl rfl ?_
          refine J_ialdN (k := t) dX8_works_44 (show m + 11 < jn M from by omega) k11 (by exact Nat.lt_of_lt_of_eq (show _ < 60 by omega) (Eq.symm z11)) (by exact Nat.lt_of_le_of_lt (Nat.le_of_eq z11) (show 60 < 2 ^ 31 by omega)) ?_
          refine J_topi (y := (s.2.2.2.1 t)) (by exact n4) ?_
          refine J_callv0 (jrunV (As := [.int (1), .int (nI (nn)), .int (s.2.2.2.1 t)]) (ct_X8_notes l D dA hst M m hM 1 nn (by omega) (s.2.2.2.1 t)) dX8_works_45 yY_X8_notes gX8_works_X8_notes rfl cs11 (show m < jn M from by omega) m2 rfl ⟨by omega, by omega⟩ ⟨Nat.zero_le _, Nat.zero_le _⟩ rfl (Nat.le_of_ble_eq_true rfl)) (rfl) (rfl) ?_
          refine J_goto (tgt := 62) dX8_works_48 (by decide) ?_
          exact J_vret dX8_works_62 rfl (by first | (rw [mWk, evT_4n hk (cAt_no c20)]; exact ⟨rfl, nM_f, nM_r (by omega) (fun _ _ => rfl) (by unfold eWhy; rw [if_pos hk])⟩) | (rw [mWk, evT_4n hk (by rw [hke, cAt_n hk9]; exact none_of c33)]; exact ⟨rfl, nM_f, nM_r (by omega) (fun _ _ => rfl) (by unfold eWhy; rw [if_pos hk])⟩))
  · have g1 : ji M (m + 8) t = 33 := by rw [n1, hk]; decide
    refine J_aload_n (m) dX8_works_0 rfl rfl ?_
    refine J_getrs (q := m + 8) r8 dX8_works_1 (fun _ h => List.mem_cons_of_mem _ (List.mem_append_left _ (List.mem_append_right _ (h)))) cs11 (by decide) rfl (List.mem_of_getElem? (i := 1) rfl) rfl (show m < jn M from by omega) m2 ?_
    refine J_iload_n dX8_works_4 rfl rfl ?_
    refine J_ialdN (k := t) dX8_works_5 (show m + 8 < jn M from by omega) k8 (by exact Nat.lt_of_lt_of_eq (show _ < 60 by omega) (Eq.symm z8)) (by exact Nat.lt_of_le_of_lt (Nat.le_of_eq z8) (show 60 < 2 ^ 31 by omega)) ?_
    refine J_topi (y := (33)) (by exact g1) ?_
    refine J_bipush (x := 115) dX8_works_6 (by decide) ?_
    refine J_icmp_ne dX8_works_8 (tgt := 63) (by decide) (fun c8 => ?_) (fun c8 => ?_)
    · have c8 := jeqF (a := 33) (b := 115) (by omega) (by omega) c8
      refine J_aload_n (m) dX8_works_63 rfl rfl ?_
      refine J_getrs (q := m + 12) r12 dX8_works_64 (fun _ h => List.mem_cons_of_mem _ (List.mem_append_left _ (List.mem_append_right _ (h)))) cs11 (by decide) rfl (List.mem_of_getElem? (i := 4) rfl) rfl (show m < jn M from by omega) m2 ?_
      refine J_iload_n dX8_works_67 rfl rfl ?_
      refine J_aload_n (m) dX8_works_68 rfl rfl ?_
      refine J_getrs (q := m + 11) r11 dX8_works_69 (fun _ h => List.mem_cons_of_mem _ (List.mem_append_left _ (List.mem_append_right _ (h)))) cs11 (by decide) rfl (List.mem_of_getElem? (i := 3) rfl) rfl (show m < jn M from by omega) m2 ?_
      refine J_iload_n dX8_works_72 rfl rfl ?_
      refine J_ialdN (k := t) dX8_works_73 (show m + 11 < jn M from by omega) k11 (by exact Nat.lt_of_lt_of_eq (show _ < 60 by omega) (Eq.symm z11)) (by exact Nat.lt_of_le_of_lt (Nat.le_of_eq z11) (show 60 < 2 ^ 31 by omega)) ?_
      refine J_topi (y := (s.2.2.2.1 t)) (by exact n4) ?_
      refine J_iastN (k := nn) dX8_works_74 (show m + 12 < jn M from by omega) k12 (by exact Nat.lt_of_lt_of_eq (show _ < 60 by omega) (Eq.symm z12)) (by exact Nat.lt_of_le_of_lt (Nat.le_of_eq z12) (show 60 < 2 ^ 31 by omega)) ?_
      obtain ⟨M0, hM0⟩ : ∃ M0, M0 = jSi M (m + 12) nn ((s.2.2.2.1 t)) := ⟨_, rfl⟩
      refine J_mem (M' := M0) hM0.symm ?_
      have hf0 : mWfr m nn M M0 := by rw [hM0]; exact mWfr.rf.go (Nat.le_refl _)
      have hg0 : ji M0 (m + 12) nn = s.2.2.2.1 t := by rw [hM0]; exact ji_Sis
      have h280 : ji M0 m 28 = 0 := by rw [hM0, ji_Sin (by omega)]; exact h28
      have h100 : ji M0 m 10 = ji M m 10 := by rw [hM0, ji_Sin (by omega)]
      have h50 : ji M0 (m + 5) = ji M (m + 5) := funext fun j => by rw [hM0, ji_Sin (by omega)]
      have h60 : ji M0 (m + 6) = ji M (m + 6) := funext fun j => by rw [hM0, ji_Sin (by omega)]
      have hO0 := hf0.1.ok hM
      have hz0 := hf0.st hz
      have hN0 := hf0.nd hN
      obtain ⟨Bm1, Bm2, ⟨Br1, Br2, Br3, Br4, Br5, Br6, Br7, Br8, Br9, Br10, Br11, Br12, Br13⟩, ⟨Bk1, Bk2, Bk3, Bk4, Bk5, Bk6, Bk7, Bk8, Bk9, Bk10, Bk11, Bk12, Bk13⟩, Bz1, Bz2, Bz3, Bz4, Bz5, Bz6, Bz7, Bz8, Bz9, Bz10, Bz11, Bz12, Bz13⟩ := id hO0
      refine J_aload_n (m) dX8_works_75 rfl rfl ?_
      refine J_aload_n (m) dX8_works_76 rfl rfl ?_
      refine J_getrs (q := m + 9) Br9 dX8_works_77 (fun _ h => List.mem_cons_of_mem _ (List.mem_append_left _ (List.mem_append_right _ (h)))) cs11 (by decide) rfl (List.mem_of_getElem? (i := 2) rfl) rfl (show m < jn M0 from by omega) Bm2 ?_
      refine J_iload_n dX8_works_80 rfl rfl ?_
      refine J_ialdN (k := t) dX8_works_81 (show m + 9 < jn M0 from by omega) Bk9 (by exact Nat.lt_of_lt_of_eq (show _ < 60 by omega) (Eq.symm Bz9)) (by exact Nat.lt_of_le_of_lt (Nat.le_of_eq Bz9) (show 60 < 2 ^ 31 by omega)) ?_
      refine J_topi (y := nI (lN)) (by exact (hN0 t ht).2.1.trans e3) ?_
      refine J_iload_n dX8_works_82 rfl rfl ?_
      refine J_iload_n dX8_works_83 rfl rfl ?_
      refine J_iconst (x := 1) dX8_works_84 (by decide) ?_
      refine J_iadd dX8_works_85 ?_
      refine J_topi (y := nI (nn + 1)) (nI_add (nn) (1)) ?_
      refine J_callv (jrunV (As := [.int (nI (lN)), .int (nI (to)), .int (nI (nn + 1))]) (mWC.use hI M0 a lN to (nn + 1) hO0 hz0 hN0 hTl (by omega) (by omega) (by omega) h280) dX8_works_86 yY_X8_works gX8_works_X8_works rfl cs11 (show m < jn M0 from by omega) Bm2 rfl ⟨by omega, by omega⟩ ⟨Nat.zero_le _, Nat.zero_le _⟩ rfl (Nat.le_of_ble_eq_true rfl)) ⟨Nat.zero_le _, Nat.zero_le _⟩ (Or.inr ⟨(jOk.ref (show m < jn M0 from by omega) (jOk.int (jOk.int (jOk.int jOk.nil)))), jOk.nil⟩) (fun E M9 hp _ => by cases hp.1) (fun K1 hp86 hle86 => ?_)
      obtain ⟨_, hf1, hr1⟩ := hp86
      have hO1 := hf1.1.ok hO0
      obtain ⟨Cm1, Cm2, ⟨Cr1, Cr2, Cr3, Cr4, Cr5, Cr6, Cr7, Cr8, Cr9, Cr10, Cr11, Cr12, Cr13⟩, ⟨Ck1, Ck2, Ck3, Ck4, Ck5, Ck6, Ck7, Ck8, Ck9, Ck10, Ck11, Ck12, Ck13⟩, Cz1, Cz2, Cz3, Cz4, Cz5, Cz6, Cz7, Cz8, Cz9, Cz10, Cz11, Cz12, Cz13⟩ := id hO1
      have hz1 := hf1.st hz0
      have hN1 := hf1.nd hN0
      have hfa : mWfr m nn M K1 := hf0.tr hf1 (by omega)
      rcases hev : evT (cAt z) s f lN with p | a1
      · rw [hev] at hr1
        refine J_aload_n (m) dX8_works_89 rfl rfl ?_
        refine J_geti (j := 28) dX8_works_90 (fun _ h => List.mem_cons_of_mem _ (List.mem_append_left _ (List.mem_append_right _ (h)))) cs11 (by decide) rfl (List.mem_of_getElem? (i := 5) rfl) rfl (show m < jn K1 from by omega) Cm2 ?_
        refine J_topi (y := (eWhy s (lst p))) (hr1.2.2.1) ?_
        refine J_if_le dX8_works_93 (tgt := 97) (by decide) (fun c93 => ?_) (fun c93 => ?_)
        · exact absurd eWhy_p (Int32.not_lt.mpr c93)
        · exact J_vret dX8_works_96 rfl (by rw [mWk, evT_3i hk e3 (by omega) hev]; exact ⟨rfl, hfa, mWr_up hf0.2.2.2 hg0 hr1⟩)
      · rw [hev] at hr1
        obtain ⟨u1, u2, u3, u4, u5, u6⟩ := hr1
        refine J_aload_n (m) dX8_works_89 rfl rfl ?_
        refine J_geti (j := 28) dX8_works_90 (fun _ h => List.mem_cons_of_mem _ (List.mem_append_left _ (List.mem_append_right _ (h)))) cs11 (by decide) rfl (List.mem_of_getElem? (i := 5) rfl) rfl (show m < jn K1 from by omega) Cm2 ?_
        refine J_topi (y := (0)) (u1) ?_
        refine J_if_le dX8_works_93 (tgt := 97) (by decide) (fun c93 => ?_) (fun c93 => ?_)
        · have c93 := jleT (a := 0) (b := 0) (by omega) (by omega) c93
          refine J_aload_n (m) dX8_works_97 rfl rfl ?_
          refine J_getrs (q := m + 8) Cr8 dX8_works_98 (fun _ h => List.mem_cons_of_mem _ (List.mem_append_left _ (List.mem_append_right _ (h)))) cs11 (by decide) rfl (List.mem_of_getElem? (i := 1) rfl) rfl (show m < jn K1 from by omega) Cm2 ?_
          refine J_iload_n dX8_works_101 rfl rfl ?_
          refine J_ialdN (k := t) dX8_works_102 (show m + 8 < jn K1 from by omega) Ck8 (by exact Nat.lt_of_lt_of_eq (show _ < 60 by omega) (Eq.symm Cz8)) (by exact Nat.lt_of_le_of_lt (Nat.le_of_eq Cz8) (show 60 < 2 ^ 31 by omega)) ?_
          refine J_topi (y := (33)) (by exact ((hN1 t ht).1.trans (by rw [hk]; decide))) ?_
          refine J_bipush (x := 33) dX8_works_103 (by decide) ?_
          refine J_icmp_ne dX8_works_105 (tgt := 121) (by decide) (fun c105 => ?_) (fun c105 => ?_)
          · exact absurd c105 (by decide)
          · have c105 := jeqT (a := 33) (b := 33) (by omega) (by omega) c105
            refine J_aload_n (m) dX8_works_108 rfl rfl ?_
            refine J_getrs (q := m + 6) Cr6 dX8_works_109 (fun _ h => List.mem_cons_of_mem _ (List.mem_append_left _ (List.mem_append_right _ (h)))) cs11 (by decide) rfl (List.mem_of_getElem? (i := 6) rfl) rfl (show m < jn K1 from by omega) Cm2 ?_
            refine J_iload_n dX8_works_112 rfl rfl ?_
            refine J_bipush (x := 33) dX8_works_113 (by decide) ?_
            refine J_iadd dX8_works_115 ?_
            refine J_topi (y := nI (to + 33)) (nI_add (to) (33)) ?_
            refine J_iconst (x := 0) dX8_works_116 (by decide) ?_
            refine J_iastN (k := to + 33) dX8_works_117 (show m + 6 < jn K1 from by omega) Ck6 (by exact Nat.lt_of_lt_of_eq (show _ < 2112 by omega) (Eq.symm Cz6)) (by exact Nat.lt_of_le_of_lt (Nat.le_of_eq Cz6) (show 2112 < 2 ^ 31 by omega)) ?_
            obtain ⟨K2, hK2⟩ : ∃ K2, K2 = jSi K1 (m + 6) (to + 33) ((0)) := ⟨_, rfl⟩
            refine J_mem (M' := K2) hK2.symm ?_
            have hf2 : mWfr m nn M K2 := by rw [hK2]; exact hfa.si (by omega)
            have hO2 := hf2.1.ok hM
            have hN2 := hf2.nd hN
            have w1 : ji K2 m 28 = 0 := by rw [hK2, ji_Sin (by omega)]; exact u1
            have w2 : ji K2 m 10 = ji M m 10 := by rw [hK2, ji_Sin (by omega)]; exact u2.trans h100
            have w3 : ji K2 (m + 5) = ji M (m + 5) := (funext fun j => by rw [hK2, ji_Sin (by omega)]).trans (u3.trans h50)
            have w4 : mSlot (ji K2 (m + 6)) to (some a1) := u4.sh (fun j hj => by rw [hK2, ji_Sik (by omega)])
            have w5 : mSlot (ji K2 (m + 6)) (to + 33) (some (0, fun _ => 0)) := by rw [hK2]; exact ⟨ji_Sis, Nat.zero_le _, fun i hi => absurd hi (by show ¬ i < 2 * 0; omega)⟩
            have w6 : ∀ j, j < to → ji K2 (m + 6) j = ji M (m + 6) j := fun j hj => by rw [hK2, ji_Sik (by omega), u6 j hj, h60]
            obtain ⟨Em1, Em2, ⟨Er1, Er2, Er3, Er4, Er5, Er6, Er7, Er8, Er9, Er10, Er11, Er12, Er13⟩, ⟨Ek1, Ek2, Ek3, Ek4, Ek5, Ek6, Ek7, Ek8, Ek9, Ek10, Ek11, Ek12, Ek13⟩, Ez1, Ez2, Ez3, Ez4, Ez5, Ez6, Ez7, Ez8, Ez9, Ez10, Ez11, Ez12, Ez13⟩ := id hO2
            refine J_goto (tgt := 138) dX8_works_118 (by decide) ?_
            refine J_aload_n (m) dX8_works_138 rfl rfl ?_
            refine J_geti (j := 28) dX8_works_139 (fun _ h => List.mem_cons_of_mem _ (List.mem_append_left _ (List.mem_append_right _ (h)))) cs11 (by decide) rfl (List.mem_of_getElem? (i := 5) rfl) rfl (show m < jn K2 from by omega) Em2 ?_
            refine J_topi (y := (0)) (w1) ?_
            refine J_if_le dX8_works_142 (tgt := 146) (by decide) (fun c142 => ?_) (fun c142 => ?_)
            · have c142 := jleT (a := 0) (b := 0) (by omega) (by omega) c142
              refine J_aload_n (m) dX8_works_146 rfl rfl ?_
              refine J_aload_n (m) dX8_works_147 rfl rfl ?_
              refine J_getrs (q := m + 8) Er8 dX8_works_148 (fun _ h => List.mem_cons_of_mem _ (List.mem_append_left _ (List.mem_append_right _ (h)))) cs11 (by decide) rfl (List.mem_of_getElem? (i := 1) rfl) rfl (show m < jn K2 from by omega) Em2 ?_
              refine J_iload_n dX8_works_151 rfl rfl ?_
              refine J_ialdN (k := t) dX8_works_152 (show m + 8 < jn K2 from by omega) Ek8 (by exact Nat.lt_of_lt_of_eq (show _ < 60 by omega) (Eq.symm Ez8)) (by exact Nat.lt_of_le_of_lt (Nat.le_of_eq Ez8) (show 60 < 2 ^ 31 by omega)) ?_
              refine J_topi (y := (33)) (by exact ((hN2 t ht).1.trans (by rw [hk]; decide))) ?_
              refine J_iload_n dX8_works_153 rfl rfl ?_
              refine J_iload_n dX8_works_154 rfl rfl ?_
              refine J_bipush (x := 33) dX8_works_155 (by decide) ?_
              refine J_iadd dX8_works_157 ?_
              refine J_topi (y := nI (to + 33)) (nI_add (to) (33)) ?_
              refine J_iload_n dX8_works_158 rfl rfl ?_
              refine J_calli (jrunV (As := [.int (33), .int (nI (to)), .int (nI (to + 33)), .int (nI (to))]) (ct_X8_joins l D dA hst K2 m hO2 33 to (to + 33) to a1 (0, fun _ => 0) u5 rE_wf w4 w5 (by omega) (by omega) (by omega)) dX8_works_159 yY_X8_joins gX8_works_X8_joins rfl cs11 (show m < jn K2 from by omega) Em2 rfl ⟨by omega, by omega⟩ ⟨Nat.zero_le _, Nat.zero_le _⟩ rfl (Nat.le_of_ble_eq_true rfl)) ⟨Nat.zero_le _, Nat.zero_le _⟩ (Or.inr ⟨(jOk.ref (show m < jn K2 from by omega) (jOk.int (jOk.int (jOk.int jOk.nil)))), jOk.nil⟩) (fun E M9 hp _ => by obtain ⟨_, _, _, _, _, _, _, h1⟩ := hp; rcases h1 with ⟨_, h1⟩ | ⟨_, h1, _⟩ <;> cases h1) (fun x9 K4 hp159 hle159 => ?_)
              obtain ⟨D9, y9, H9, eM9, hH9, hJ9⟩ := mJn_not hp159 u5
              obtain ⟨r1, r2, r3, r4, r5⟩ := mJ_fr (nn := nn) (t := to) eM9
              have hf4 : mWfr m nn M K4 := hf2.tr r1 (Nat.le_refl _)
              have hO4 := hf4.1.ok hM
              obtain ⟨Gm1, Gm2, ⟨Gr1, Gr2, Gr3, Gr4, Gr5, Gr6, Gr7, Gr8, Gr9, Gr10, Gr11, Gr12, Gr13⟩, ⟨Gk1, Gk2, Gk3, Gk4, Gk5, Gk6, Gk7, Gk8, Gk9, Gk10, Gk11, Gk12, Gk13⟩, Gz1, Gz2, Gz3, Gz4, Gz5, Gz6, Gz7, Gz8, Gz9, Gz10, Gz11, Gz12, Gz13⟩ := id hO4
              have hN4 := hf4.nd hN
              have hl4 : ∀ j, j < to → H9 j = ji M (m + 6) j := fun j hj => (hH9 j (Or.inl hj)).trans (w6 j hj)
              rcases hJ9 with ⟨g16, go⟩ | ⟨g16, go, gs⟩
              · have go := jI_inj go
                subst go
                refine J_if_ne dX8_works_162 (tgt := 177) (by decide) (fun c162 => ?_) (fun c162 => ?_)
                · exact absurd c162 (by decide)
                · have c162 := jb0T c162
                  refine J_aload_n (m) dX8_works_165 rfl rfl ?_
                  refine J_iconst (x := 3) dX8_works_166 (by decide) ?_
                  refine J_iload_n dX8_works_167 rfl rfl ?_
                  refine J_aload_n (m) dX8_works_168 rfl rfl ?_
                  refine J_getrs (q := m + 11) Gr11 dX8_works_169 (fun _ h => List.mem_cons_of_mem _ (List.mem_append_left _ (List.mem_append_right _ (h)))) cs11 (by decide) rfl (List.mem_of_getElem? (i := 3) rfl) rfl (show m < jn K4 from by omega) Gm2 ?_
                  refine J_iload_n dX8_works_172 rfl rfl ?_
                  refine J_ialdN (k := t) dX8_works_173 (show m + 11 < jn K4 from by omega) Gk11 (by exact Nat.lt_of_lt_of_eq (show _ < 60 by omega) (Eq.symm Gz11)) (by exact Nat.lt_of_le_of_lt (Nat.le_of_eq Gz11) (show 60 < 2 ^ 31 by omega)) ?_
                  refine J_topi (y := (s.2.2.2.1 t)) (by exact (hN4 t ht).2.2.2) ?_
                  refine J_callv0 (jrunV (As := [.int (3), .int (nI (nn)), .int (s.2.2.2.1 t)]) (ct_X8_notes l D dA hst K4 m hO4 3 nn (by omega) (s.2.2.2.1 t)) dX8_works_174 yY_X8_notes gX8_works_X8_notes rfl cs11 (show m < jn K4 from by omega) Gm2 rfl ⟨by omega, by omega⟩ ⟨Nat.zero_le _, Nat.zero_le _⟩ rfl (Nat.le_of_ble_eq_true rfl)) (rfl) (rfl) ?_
                  exact J_vret dX8_works_177 rfl (by rw [mWk, evT_3x hk e3 (by omega) hev g16]; exact ⟨rfl, hf4.tr nM_f (Nat.le_refl _), nM_r (by omega) hf4.2.2.2 (by unfold eWhy; rw [if_neg (by rw [hk]; decide)])⟩)
              · have go := jI_inj go
                subst go
                refine J_if_ne dX8_works_162 (tgt := 177) (by decide) (fun c162 => ?_) (fun c162 => ?_)
                · have c162 := jb0F c162
                  exact J_vret dX8_works_177 rfl (by rw [mWk, evT_3r hk e3 (by omega) hev (by omega)]; exact ⟨rfl, hf4, mWr_jt (r2.trans w1) (r3.trans w2) (r4.trans w3) r5 gs (comb_wf r9_wf u5) hl4⟩)
                · exact absurd c162 (by decide)
            · exact absurd c142 (by decide)
        · exact absurd c93 (by decide)
    · exact absurd c8 (by decide)
  · obtain ⟨v1, v2, v3⟩ := vGv_kd hk
    refine J_aload_n (m) dX8_works_0 rfl rfl ?_
    refine J_getrs (q := m + 8) r8 dX8_works_1 (fun _ h => List.mem_cons_of_mem _ (List.mem_append_left _ (List.mem_append_right _ (h)))) cs11 (by decide) rfl (List.mem_of_getElem? (i := 1) rfl) rfl (show m < jn M from by omega) m2 ?_
    refine J_iload_n dX8_works_4 rfl rfl ?_
    refine J_ialdN (k := t) dX8_works_5 (show m + 8 < jn M from by omega) k8 (by exact Nat.lt_of_lt_of_eq (show _ < 60 by omega) (Eq.symm z8)) (by exact Nat.lt_of_le_of_lt (Nat.le_of_eq z8) (show 60 < 2 ^ 31 by omega)) ?_
    refine J_topi (y := (sgK (s.2.2.1 t))) (by exact n1) ?_
    refine J_bipush (x := 115) dX8_works_6 (by decide) ?_
    refine J_icmp_ne dX8_works_8 (tgt := 63) (by decide) (fun c8 => ?_) (fun c8 => ?_)
    · refine J_aload_n (m) dX8_works_63 rfl rfl ?_
      refine J_getrs (q := m + 12) r12 dX8_works_64 (fun _ h => List.mem_cons_of_mem _ (List.mem_append_left _ (List.mem_append_right _ (h)))) cs11 (by decide) rfl (List.mem_of_getElem? (i := 4) rfl) rfl (show m < jn M from by omega) m2 ?_
      refine J_iload_n dX8_works_67 rfl rfl ?_
      refine J_aload_n (m) dX8_works_68 rfl rfl ?_
      refine J_getrs (q := m + 11) r11 dX8_works_69 (fun _ h => List.mem_cons_of_mem _ (List.mem_append_left _ (List.mem_append_right _ (h)))) cs11 (by decide) rfl (List.mem_of_getElem? (i := 3) rfl) rfl (show m < jn M from by omega) m2 ?_
      refine J_iload_n dX8_works_72 rfl rfl ?_
      refine J_ialdN (k := t) dX8_works_73 (show m + 11 < jn M from by omega) k11 (by exact Nat.lt_of_lt_of_eq (show _ < 60 by omega) (Eq.symm z11)) (by exact Nat.lt_of_le_of_lt (Nat.le_of_eq z11) (show 60 < 2 ^ 31 by omega)) ?_
      refine J_topi (y := (s.2.2.2.1 t)) (by exact n4) ?_
      refine J_iastN (k := nn) dX8_works_74 (show m + 12 < jn M from by omega) k12 (by exact Nat.lt_of_lt_of_eq (show _ < 60 by omega) (Eq.symm z12)) (by exact Nat.lt_of_le_of_lt (Nat.le_of_eq z12) (show 60 < 2 ^ 31 by omega)) ?_
      obtain ⟨M0, hM0⟩ : ∃ M0, M0 = jSi M (m + 12) nn ((s.2.2.2.1 t)) := ⟨_, rfl⟩
      refine J_mem (M' := M0) hM0.symm ?_
      have hf0 : mWfr m nn M M0 := by rw [hM0]; exact mWfr.rf.go (Nat.le_refl _)
      have hg0 : ji M0 (m + 12) nn = s.2.2.2.1 t := by rw [hM0]; exact ji_Sis
      have h280 : ji M0 m 28 = 0 := by rw [hM0, ji_Sin (by omega)]; exact h28
      have h100 : ji M0 m 10 = ji M m 10 := by rw [hM0, ji_Sin (by omega)]
      have h50 : ji M0 (m + 5) = ji M (m + 5) := funext fun j => by rw [hM0, ji_Sin (by omega)]
      have h60 : ji M0 (m + 6) = ji M (m + 6) := funext fun j => by rw [hM0, ji_Sin (by omega)]
      have hO0 := hf0.1.ok hM
      have hz0 := hf0.st hz
      have hN0 := hf0.nd hN
      obtain ⟨Bm1, Bm2, ⟨Br1, Br2, Br3, Br4, Br5, Br6, Br7, Br8, Br9, Br10, Br11, Br12, Br13⟩, ⟨Bk1, Bk2, Bk3, Bk4, Bk5, Bk6, Bk7, Bk8, Bk9, Bk10, Bk11, Bk12, Bk13⟩, Bz1, Bz2, Bz3, Bz4, Bz5, Bz6, Bz7, Bz8, Bz9, Bz10, Bz11, Bz12, Bz13⟩ := id hO0
      refine J_aload_n (m) dX8_works_75 rfl rfl ?_
      refine J_aload_n (m) dX8_works_76 rfl rfl ?_
      refine J_getrs (q := m + 9) Br9 dX8_works_77 (fun _ h => List.mem_cons_of_mem _ (List.mem_append_left _ (List.mem_append_right _ (h)))) cs11 (by decide) rfl (List.mem_of_getElem? (i := 2) rfl) rfl (show m < jn M0 from by omega) Bm2 ?_
      refine J_iload_n dX8_works_80 rfl rfl ?_
      refine J_ialdN (k := t) dX8_works_81 (show m + 9 < jn M0 from by omega) Bk9 (by exact Nat.lt_of_lt_of_eq (show _ < 60 by omega) (Eq.symm Bz9)) (by exact Nat.lt_of_le_of_lt (Nat.le_of_eq Bz9) (show 60 < 2 ^ 31 by omega)) ?_
      refine J_topi (y := nI (lN)) (by exact (hN0 t ht).2.1.trans e4) ?_
      refine J_iload_n dX8_works_82 rfl rfl ?_
      refine J_iload_n dX8_works_83 rfl rfl ?_
      refine J_iconst (x := 1) dX8_works_84 (by decide) ?_
      refine J_iadd dX8_works_85 ?_
      refine J_topi (y := nI (nn + 1)) (nI_add (nn) (1)) ?_
      refine J_callv (jrunV (As := [.int (nI (lN)), .int (nI (to)), .int (nI (nn + 1))]) (mWC.use hI M0 a lN to (nn + 1) hO0 hz0 hN0 hTl (by omega) (by omega) (by omega) h280) dX8_works_86 yY_X8_works gX8_works_X8_works rfl cs11 (show m < jn M0 from by omega) Bm2 rfl ⟨by omega, by omega⟩ ⟨Nat.zero_le _, Nat.zero_le _⟩ rfl (Nat.le_of_ble_eq_true rfl)) ⟨Nat.zero_le _, Nat.zero_le _⟩ (Or.inr ⟨(jOk.ref (show m < jn M0 from by omega) (jOk.int (jOk.int (jOk.int jOk.nil)))), jOk.nil⟩) (fun E M9 hp _ => by cases hp.1) (fun K1 hp86 hle86 => ?_)
      obtain ⟨_, hf1, hr1⟩ := hp86
      have hO1 := hf1.1.ok hO0
      obtain ⟨Cm1, Cm2, ⟨Cr1, Cr2, Cr3, Cr4, Cr5, Cr6, Cr7, Cr8, Cr9, Cr10, Cr11, Cr12, Cr13⟩, ⟨Ck1, Ck2, Ck3, Ck4, Ck5, Ck6, Ck7, Ck8, Ck9, Ck10, Ck11, Ck12, Ck13⟩, Cz1, Cz2, Cz3, Cz4, Cz5, Cz6, Cz7, Cz8, Cz9, Cz10, Cz11, Cz12, Cz13⟩ := id hO1
      have hz1 := hf1.st hz0
      have hN1 := hf1.nd hN0
      have hfa : mWfr m nn M K1 := hf0.tr hf1 (by omega)
      rcases hev : evT (cAt z) s f lN with p | a1
      · rw [hev] at hr1
        refine J_aload_n (m) dX8_works_89 rfl rfl ?_
        refine J_geti (j := 28) dX8_works_90 (fun _ h => List.mem_cons_of_mem _ (List.mem_append_left _ (List.mem_append_right _ (h)))) cs11 (by decide) rfl (List.mem_of_getElem? (i := 5) rfl) rfl (show m < jn K1 from by omega) Cm2 ?_
        refine J_topi (y := (eWhy s (lst p))) (hr1.2.2.1) ?_
        refine J_if_le dX8_works_93 (tgt := 97) (by decide) (fun c93 => ?_) (fun c93 => ?_)
        · exact absurd eWhy_p (Int32.not_lt.mpr c93)
        · exact J_vret dX8_works_96 rfl (by rw [mWk, evT_2a hk e4 (by omega) hev]; exact ⟨rfl, hfa, mWr_up hf0.2.2.2 hg0 hr1⟩)
      · rw [hev] at hr1
        obtain ⟨u1, u2, u3, u4, u5, u6⟩ := hr1
        refine J_aload_n (m) dX8_works_89 rfl rfl ?_
        refine J_geti (j := 28) dX8_works_90 (fun _ h => List.mem_cons_of_mem _ (List.mem_append_left _ (List.mem_append_right _ (h)))) cs11 (by decide) rfl (List.mem_of_getElem? (i := 5) rfl) rfl (show m < jn K1 from by omega) Cm2 ?_
        refine J_topi (y := (0)) (u1) ?_
        refine J_if_le dX8_works_93 (tgt := 97) (by decide) (fun c93 => ?_) (fun c93 => ?_)
        · have c93 := jleT (a := 0) (b := 0) (by omega) (by omega) c93
          refine J_aload_n (m) dX8_works_97 rfl rfl ?_
          refine J_getrs (q := m + 8) Cr8 dX8_works_98 (fun _ h => List.mem_cons_of_mem _ (List.mem_append_left _ (List.mem_append_right _ (h)))) cs11 (by decide) rfl (List.mem_of_getElem? (i := 1) rfl) rfl (show m < jn K1 from by omega) Cm2 ?_
          refine J_iload_n dX8_works_101 rfl rfl ?_
          refine J_ialdN (k := t) dX8_works_102 (show m + 8 < jn K1 from by omega) Ck8 (by exact Nat.lt_of_lt_of_eq (show _ < 60 by omega) (Eq.symm Cz8)) (by exact Nat.lt_of_le_of_lt (Nat.le_of_eq Cz8) (show 60 < 2 ^ 31 by omega)) ?_
          refine J_topi (y := (sgK (s.2.2.1 t))) (by exact (hN1 t ht).1) ?_
          refine J_bipush (x := 33) dX8_works_103 (by decide) ?_
          refine J_icmp_ne dX8_works_105 (tgt := 121) (by decide) (fun c105 => ?_) (fun c105 => ?_)
          · refine J_aload_n (m) dX8_works_121 rfl rfl ?_
            refine J_aload_n (m) dX8_works_122 rfl rfl ?_
            refine J_getrs (q := m + 10) Cr10 dX8_works_123 (fun _ h => List.mem_cons_of_mem _ (List.mem_append_left _ (List.mem_append_right _ (h)))) cs11 (by decide) rfl (List.mem_of_getElem? (i := 7) rfl) rfl (show m < jn K1 from by omega) Cm2 ?_
            refine J_iload_n dX8_works_126 rfl rfl ?_
            refine J_ialdN (k := t) dX8_works_127 (show m + 10 < jn K1 from by omega) Ck10 (by exact Nat.lt_of_lt_of_eq (show _ < 60 by omega) (Eq.symm Cz10)) (by exact Nat.lt_of_le_of_lt (Nat.le_of_eq Cz10) (show 60 < 2 ^ 31 by omega)) ?_
            refine J_topi (y := nI (rN)) (by exact (((hN1 t ht).2.2.1.resolve_left (kd_n hk).1).resolve_left (kd_n hk).2).trans e5) ?_
            refine J_iload_n dX8_works_128 rfl rfl ?_
            refine J_bipush (x := 33) dX8_works_129 (by decide) ?_
            refine J_iadd dX8_works_131 ?_
            refine J_topi (y := nI (to + 33)) (nI_add (to) (33)) ?_
            refine J_iload_n dX8_works_132 rfl rfl ?_
            refine J_iconst (x := 1) dX8_works_133 (by decide) ?_
            refine J_iadd dX8_works_134 ?_
            refine J_topi (y := nI (nn + 1)) (nI_add (nn) (1)) ?_
            refine J_callv (jrunV (As := [.int (nI (rN)), .int (nI (to + 33)), .int (nI (nn + 1))]) (mWC.use hI K1 (lN + 1) rN (to + 33) (nn + 1) hO1 hz1 hN1 hTr (by omega) (by omega) (by omega) u1) dX8_works_135 yY_X8_works gX8_works_X8_works rfl cs11 (show m < jn K1 from by omega) Cm2 rfl ⟨by omega, by omega⟩ ⟨Nat.zero_le _, Nat.zero_le _⟩ rfl (Nat.le_of_ble_eq_true rfl)) ⟨Nat.zero_le _, Nat.zero_le _⟩ (Or.inr ⟨(jOk.ref (show m < jn K1 from by omega) (jOk.int (jOk.int (jOk.int jOk.nil)))), jOk.nil⟩) (fun E M9 hp _ => by cases hp.1) (fun K2 hp135 hle135 => ?_)
            obtain ⟨_, hf3, hr3⟩ := hp135
            have hO2 := hf3.1.ok hO1
            obtain ⟨Em1, Em2, ⟨Er1, Er2, Er3, Er4, Er5, Er6, Er7, Er8, Er9, Er10, Er11, Er12, Er13⟩, ⟨Ek1, Ek2, Ek3, Ek4, Ek5, Ek6, Ek7, Ek8, Ek9, Ek10, Ek11, Ek12, Ek13⟩, Ez1, Ez2, Ez3, Ez4, Ez5, Ez6, Ez7, Ez8, Ez9, Ez10, Ez11, Ez12, Ez13⟩ := id hO2
            have hf2 : mWfr m nn M K2 := hfa.tr hf3 (by omega)
            have hN2 := hf2.nd hN
            rcases hew : evT (cAt z) s f rN with p | b1
            · rw [hew] at hr3
              refine J_aload_n (m) dX8_works_138 rfl rfl ?_
              refine J_geti (j := 28) dX8_works_139 (fun _ h => List.mem_cons_of_mem _ (List.mem_append_left _ (List.mem_append_right _ (h)))) cs11 (by decide) rfl (List.mem_of_getElem? (i := 5) rfl) rfl (show m < jn K2 from by omega) Em2 ?_
              refine J_topi (y := (eWhy s (lst p))) (hr3.2.2.1) ?_
              refine J_if_le dX8_works_142 (tgt := 146) (by decide) (fun c142 => ?_) (fun c142 => ?_)
              · exact absurd eWhy_p (Int32.not_lt.mpr c142)
              · exact J_vret dX8_works_145 rfl (by rw [mWk, evT_2b hk e4 e5 (by omega) (by omega) hev hew]; exact ⟨rfl, hf2, mWr_up hfa.2.2.2 ((hf1.2.2.2 nn (by omega)).trans hg0) hr3⟩)
            · rw [hew] at hr3
              obtain ⟨y1, y2, y3, y4, y5, y6⟩ := hr3
              have w1 : ji K2 m 28 = 0 := y1
              have w2 : ji K2 m 10 = ji M m 10 := y2.trans (u2.trans h100)
              have w3 : ji K2 (m + 5) = ji M (m + 5) := y3.trans (u3.trans h50)
              have w4 : mSlot (ji K2 (m + 6)) to (some a1) := u4.sh (fun j hj => y6 j hj)
              have w6 : ∀ j, j < to → ji K2 (m + 6) j = ji M (m + 6) j := fun j hj => by rw [y6 j (by omega), u6 j hj, h60]
              refine J_aload_n (m) dX8_works_138 rfl rfl ?_
              refine J_geti (j := 28) dX8_works_139 (fun _ h => List.mem_cons_of_mem _ (List.mem_append_left _ (List.mem_append_right _ (h)))) cs11 (by decide) rfl (List.mem_of_getElem? (i := 5) rfl) rfl (show m < jn K2 from by omega) Em2 ?_
              refine J_topi (y := (0)) (w1) ?_
              refine J_if_le dX8_works_142 (tgt := 146) (by decide) (fun c142 => ?_) (fun c142 => ?_)
              · have c142 := jleT (a := 0) (b := 0) (by omega) (by omega) c142
                refine J_aload_n (m) dX8_works_146 rfl rfl ?_
                refine J_aload_n (m) dX8_works_147 rfl rfl ?_
                refine J_getrs (q := m + 8) Er8 dX8_works_148 (fun _ h => List.mem_cons_of_mem _ (List.mem_append_left _ (List.mem_append_right _ (h)))) cs11 (by decide) rfl (List.mem_of_getElem? (i := 1) rfl) rfl (show m < jn K2 from by omega) Em2 ?_
                refine J_iload_n dX8_works_151 rfl rfl ?_
                refine J_ialdN (k := t) dX8_works_152 (show m + 8 < jn K2 from by omega) Ek8 (by exact Nat.lt_of_lt_of_eq (show _ < 60 by omega) (Eq.symm Ez8)) (by exact Nat.lt_of_le_of_lt (Nat.le_of_eq Ez8) (show 60 < 2 ^ 31 by omega)) ?_
                refine J_topi (y := (sgK (s.2.2.1 t))) (by exact (hN2 t ht).1) ?_
                refine J_iload_n dX8_works_153 rfl rfl ?_
                refine J_iload_n dX8_works_154 rfl rfl ?_
                refine J_bipush (x := 33) dX8_works_155 (by decide) ?_
                refine J_iadd dX8_works_157 ?_
                refine J_topi (y := nI (to + 33)) (nI_add (to) (33)) ?_
                refine J_iload_n dX8_works_158 rfl rfl ?_
                refine J_calli (jrunV (As := [.int (sgK (s.2.2.1 t)), .int (nI (to)), .int (nI (to + 33)), .int (nI (to))]) (ct_X8_joins l D dA hst K2 m hO2 (sgK (s.2.2.1 t)) to (to + 33) to a1 b1 u5 y5 w4 y4 (by omega) (by omega) (by omega)) dX8_works_159 yY_X8_joins gX8_works_X8_joins rfl cs11 (show m < jn K2 from by omega) Em2 rfl ⟨by omega, by omega⟩ ⟨Nat.zero_le _, Nat.zero_le _⟩ rfl (Nat.le_of_ble_eq_true rfl)) ⟨Nat.zero_le _, Nat.zero_le _⟩ (Or.inr ⟨(jOk.ref (show m < jn K2 from by omega) (jOk.int (jOk.int (jOk.int jOk.nil)))), jOk.nil⟩) (fun E M9 hp _ => by obtain ⟨_, _, _, _, _, _, _, h1⟩ := hp; rcases h1 with ⟨_, h1⟩ | ⟨_, h1, _⟩ <;> cases h1) (fun x9 K4 hp159 hle159 => ?_)
                obtain ⟨D9, y9, H9, eM9, hH9, hJ9⟩ := mJn_comb (op := s.2.2.1 t) hp159 v1 u5 y5
                obtain ⟨r1, r2, r3, r4, r5⟩ := mJ_fr (nn := nn) (t := to) eM9
                have hf4 : mWfr m nn M K4 := hf2.tr r1 (Nat.le_refl _)
                have hO4 := hf4.1.ok hM
                obtain ⟨Gm1, Gm2, ⟨Gr1, Gr2, Gr3, Gr4, Gr5, Gr6, Gr7, Gr8, Gr9, Gr10, Gr11, Gr12, Gr13⟩, ⟨Gk1, Gk2, Gk3, Gk4, Gk5, Gk6, Gk7, Gk8, Gk9, Gk10, Gk11, Gk12, Gk13⟩, Gz1, Gz2, Gz3, Gz4, Gz5, Gz6, Gz7, Gz8, Gz9, Gz10, Gz11, Gz12, Gz13⟩ := id hO4
                have hN4 := hf4.nd hN
                have hl4 : ∀ j, j < to → H9 j = ji M (m + 6) j := fun j hj => (hH9 j (Or.inl hj)).trans (w6 j hj)
                rcases hJ9 with ⟨g16, go⟩ | ⟨g16, go, gs⟩
                · have go := jI_inj go
                  subst go
                  refine J_if_ne dX8_works_162 (tgt := 177) (by decide) (fun c162 => ?_) (fun c162 => ?_)
                  · exact absurd c162 (by decide)
                  · have c162 := jb0T c162
                    refine J_aload_n (m) dX8_works_165 rfl rfl ?_
                    refine J_iconst (x := 3) dX8_works_166 (by decide) ?_
                    refine J_iload_n dX8_works_167 rfl rfl ?_
                    refine J_aload_n (m) dX8_works_168 rfl rfl ?_
                    refine J_getrs (q := m + 11) Gr11 dX8_works_169 (fun _ h => List.mem_cons_of_mem _ (List.mem_append_left _ (List.mem_append_right _ (h)))) cs11 (by decide) rfl (List.mem_of_getElem? (i := 3) rfl) rfl (show m < jn K4 from by omega) Gm2 ?_
                    refine J_iload_n dX8_works_172 rfl rfl ?_
                    refine J_ialdN (k := t) dX8_works_173 (show m + 11 < jn K4 from by omega) Gk11 (by exact Nat.lt_of_lt_of_eq (show _ < 60 by omega) (Eq.symm Gz11)) (by exact Nat.lt_of_le_of_lt (Nat.le_of_eq Gz11) (show 60 < 2 ^ 31 by omega)) ?_
                    refine J_topi (y := (s.2.2.2.1 t)) (by exact (hN4 t ht).2.2.2) ?_
                    refine J_callv0 (jrunV (As := [.int (3), .int (nI (nn)), .int (s.2.2.2.1 t)]) (ct_X8_notes l D dA hst K4 m hO4 3 nn (by omega) (s.2.2.2.1 t)) dX8_works_174 yY_X8_notes gX8_works_X8_notes rfl cs11 (show m < jn K4 from by omega) Gm2 rfl ⟨by omega, by omega⟩ ⟨Nat.zero_le _, Nat.zero_le _⟩ rfl (Nat.le_of_ble_eq_true rfl)) (rfl) (rfl) ?_
                    exact J_vret dX8_works_177 rfl (by rw [mWk, evT_2x hk e4 e5 (by omega) (by omega) hev hew g16]; exact ⟨rfl, hf4.tr nM_f (Nat.le_refl _), nM_r (by omega) hf4.2.2.2 (by unfold eWhy; rw [if_neg (kd_n hk).1])⟩)
                · have go := jI_inj go
                  subst go
                  refine J_if_ne dX8_works_162 (tgt := 177) (by decide) (fun c162 => ?_) (fun c162 => ?_)
                  · have c162 := jb0F c162
                    exact J_vret dX8_works_177 rfl (by rw [mWk, evT_2r hk e4 e5 (by omega) (by omega) hev hew (by omega)]; exact ⟨rfl, hf4, mWr_jt (r2.trans w1) (r3.trans w2) (r4.trans w3) r5 gs (comb_wf u5 y5) hl4⟩)
                  · exact absurd c162 (by decide)
              · exact absurd c142 (by decide)
          · exact absurd c105 v3
        · exact absurd c93 (by decide)
    · exact absurd c8 v2

theorem mWC_all (l : Launch) (D : va_G) (dA : Nat → ClassId) (hst : l.stackTraces = false) (m : Nat) (z : cSt) (s : eSt) (hW : ∀ j w, z.1 j = some w → rWf w) (hs60 : s.2.1 ≤ 60) : ∀ f, mWC l D dA m z s f := by
  intro f
  induction f with
  | zero => intro M a t to nn _ _ _ hT; exact absurd hT id
  | succ f ih => exact fun M a t to nn h1 h2 h3 h4 h5 h6 h7 h8 => ct_X8_works_s l D dA hst M m z s f hW hs60 ih a t to nn h1 h2 h3 h4 h5 h6 h7 h8
