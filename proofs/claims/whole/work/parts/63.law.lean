/-! the law: its eleven calls -/
def zz (h : Hp) (I : Nat → Int → Int) : Nat → Int → Int := fun a j => if a = hX h then 0 else I a j
theorem wN_sD {h : Hp} {I L : Nat → Int → Int} {q n : Nat} : wN (sD h I L) q n = sD (wN h q n) (zz h I) (zz h L) := rfl
theorem zz_ne {h : Hp} {I : Nat → Int → Int} {a : Nat} {j : Int} (S : Shp h) (ha : a < 269) : zz h I a j = I a j := if_neg (fun e => by have := S.2.2.2; omega)
theorem wN_11 {h : Hp} {q n : Nat} (S : Shp h) : hN (wN h q n) 11 = hN h 11 := if_neg (fun e => by have := S.2.2.2; omega)
theorem lc0 {x y : Int} (h : x = y) : a_lcmp x y = 0 := by
  unfold a_lcmp
  rw [h, if_neg (by omega), if_pos rfl]
theorem frC.ref {I L I1 L1 : Nat → Int → Int} (h : frC I L I1 L1) : Ref0 I I1 := ⟨fun a j x y => h.1 a j (by omega), h.1 175 3 (by omega)⟩
theorem FC.ref {p : Nat → Prop} {I L I1 L1 : Nat → Int → Int} (h : FC p I L I1 L1) (hp : ∀ a, 175 ≤ a → ¬ p a) : Ref0 I I1 := ⟨fun a j x y => h.1 a j (hp a (by omega)), h.1 175 3 (hp 175 (by omega))⟩
theorem Ref0.zz {h : Hp} {I I1 : Nat → Int → Int} (S : Shp h) (e : Ref0 I I1) : Ref0 I (zz h I1) := ⟨fun a j x y => (zz_ne S (by omega)).trans (e.1 a j x y), (zz_ne S (by omega)).trans e.2⟩
theorem bb_ne {I : Nat → Int → Int} {b r r2 a : Nat} {n j : Int} (p : a ≠ b) (q : a ≠ r) : byBecome I b r r2 n a j = I a j := by
  unfold byBecome byCopy
  rw [a_up_ne (Or.inl p), if_neg (fun e => q e.1)]
theorem bs_ne {I : Nat → Int → Int} {b r a : Nat} {n j : Int} (p : a ≠ b) (q : a ≠ r) : byStretch I b r n a j = I a j := by
  unfold byStretch byZero
  rw [a_up_ne (Or.inl p), if_neg (fun e => q e.1)]
theorem cEnd_0 {t s n : Int} (h : cEnd t s n = 0) : (0 ≤ s ∧ s < 8) ∧ (0 ≤ n ∧ n ≤ 8192) ∧ n ≤ t := by
  unfold cEnd at h
  split at h
  · rename_i c
    split at h
    · rename_i d; exact ⟨c.1, c.2, d⟩
    · exact absurd h (by decide)
  · exact absurd h (by decide)
theorem cTwo_0 {s u : Int} (h : cTwo s u = 0) : (0 ≤ s ∧ s < 8) ∧ (0 ≤ u ∧ u < 8) := by
  unfold cTwo at h
  split at h
  · assumption
  · exact absurd h (by decide)
theorem cResize_0 {s n : Int} (h : cResize s n = 0) : (0 ≤ s ∧ s < 8) ∧ (0 ≤ n ∧ n ≤ 8192) := by
  unfold cResize at h
  split at h
  · assumption
  · exact absurd h (by decide)
theorem cLen_0 {s : Int} (h : cLen s = 0) : 0 ≤ s ∧ s < 8 := by
  unfold cLen at h
  split at h
  · assumption
  · exact absurd h (by decide)
theorem cAlter_0 {c s i v : Int} (h : cAlter c s i v = 0) : (0 ≤ s ∧ s < 8) ∧ (0 ≤ v ∧ v ≤ 255) ∧ (0 ≤ i ∧ i < c) := by
  unfold cAlter at h
  split at h
  · rename_i p
    split at h
    · rename_i d; exact ⟨p.1, p.2, d⟩
    · exact absurd h (by decide)
  · exact absurd h (by decide)
theorem cWord_0 {c s i : Int} (h : cWord c s i = 0) : 0 ≤ s ∧ s < 8 := by
  unfold cWord at h
  split at h
  · assumption
  · exact absurd h (by decide)
theorem cAlter_e {c c' s i v : Int} (h : 0 ≤ s ∧ s < 8 → c = c') : cAlter c s i v = cAlter c' s i v := by
  unfold cAlter
  by_cases p : (0 ≤ s ∧ s < 8) ∧ (0 ≤ v ∧ v ≤ 255)
  · rw [if_pos p, if_pos p, h p.1]
  · rw [if_neg p, if_neg p]
theorem cWord_e {c c' s i : Int} (h : 0 ≤ s ∧ s < 8 → c = c') : cWord c s i = cWord c' s i := by
  unfold cWord
  by_cases p : 0 ≤ s ∧ s < 8
  · rw [if_pos p, if_pos p, h p]
  · rw [if_neg p, if_neg p]
theorem cKeys_z {s n : Int} {g : Int → Int} (h : cKeys s n g = 0) : (0 ≤ s ∧ s < 3) ∧ n = 32 := by
  by_cases a : 0 ≤ s ∧ s < 3
  · by_cases b : n = 32
    · exact ⟨a, b⟩
    · rw [cKeys_2 a b] at h; exact absurd h (by decide)
  · rw [cKeys_1 a] at h; exact absurd h (by decide)
theorem c4_z {a b c d : Prop} (h : c4 a b c d = 0) : a ∧ b ∧ c ∧ d := by
  by_cases xa : a
  · by_cases xb : b
    · by_cases xc : c
      · by_cases xd : d
        · exact ⟨xa, xb, xc, xd⟩
        · rw [c4_4 xa xb xc xd] at h; exact absurd h (by decide)
      · rw [c4_3 xa xb xc] at h; exact absurd h (by decide)
    · rw [c4_2 xa xb] at h; exact absurd h (by decide)
  · rw [c4_1 xa] at h; exact absurd h (by decide)
theorem cnt {I L : Nat → Int → Int} (h : Rel I L) {s : Int} (hs : 0 ≤ s ∧ s < 8) : I (14 + 2 * s.toNat) 1 = I 186 s := by
  have z := (h.2.2.1 s.toNat (by omega)).2.1
  rwa [Int.toNat_of_nonneg hs.1] at z
theorem sign_code {I L I1 : Nat → Int → Int} {s how : Int} (h : Rel I L) (e : Ref0 I I1) : c4 ((0 ≤ s ∧ s < 3) ∧ (how = 0 ∨ how = -1)) ((how ≠ 0 ∨ I1 186 4 ≤ 255) ∧ (I1 186 0 = 32 ∨ I1 186 0 = 0)) (I1 186 2 = sSec s) (sgOk s (rkR I1) ∧ sgRun s (rkR I1) (rhR I1 how) (muR I1 (fun k => I1 180 (64 + k)) how) 814 0 ≠ none) = c4 ((0 ≤ s ∧ s < 3) ∧ (how = 0 ∨ how = -1)) ((how ≠ 0 ∨ I 22 1 ≤ 255) ∧ (I 14 1 = 32 ∨ I 14 1 = 0)) (I 18 1 = sSec s) (sgOk s (byAt I 18 19) ∧ sgRun s (byAt I 18 19) (rhC I (how)) (muC I (fun k => byAt I 18 19 (64 + k)) (how)) 814 0 ≠ none) := by
  have n0 : I 14 1 = I 186 0 := cnt h (s := 0) (by decide)
  have n2 : I 18 1 = I 186 2 := cnt h (s := 2) (by decide)
  have n4 : I 22 1 = I 186 4 := cnt h (s := 4) (by decide)
  refine c4_congr Iff.rfl (by rw [e.1 186 4 (by omega) (by omega), e.1 186 0 (by omega) (by omega), n4, n0]) (by rw [e.1 186 2 (by omega) (by omega), n2]) (fun ha hb hc => ?_)
  obtain ⟨f1, f2, f3⟩ := sign_f (how := how) h e (by rw [n0, ← e.1 186 0 (by omega) (by omega)]; exact hb.2) (by rw [n2, ← e.1 186 2 (by omega) (by omega), hc]; exact (sz_b s).2.2.1)
  rw [f2, f3, f1]
theorem ver_code {I L I1 : Nat → Int → Int} {s how : Int} (h : Rel I L) (e : Ref0 I I1) : c4 ((0 ≤ s ∧ s < 3) ∧ (how = 0 ∨ how = -1)) (how ≠ 0 ∨ I1 186 4 ≤ 255) (I1 186 1 = 32 + 320 * pK s) (vfPre s (rgR I1) (I1 186 5) → vfOk s (rpR I1) (rgR I1)) = c4 ((0 ≤ s ∧ s < 3) ∧ (how = 0 ∨ how = -1)) (how ≠ 0 ∨ I 22 1 ≤ 255) (I 16 1 = 32 + 320 * pK s) (vfPre s (byAt I 24 25) (I 24 1) → vfOk s (byAt I 16 17) (byAt I 24 25)) := by
  have n1 : I 16 1 = I 186 1 := cnt h (s := 1) (by decide)
  have n4 : I 22 1 = I 186 4 := cnt h (s := 4) (by decide)
  have n5 : I 24 1 = I 186 5 := cnt h (s := 5) (by decide)
  refine c4_congr Iff.rfl (by rw [e.1 186 4 (by omega) (by omega), n4]) (by rw [e.1 186 1 (by omega) (by omega), n1]) (fun ha hb hc => ?_)
  obtain ⟨f1, f2, f3⟩ := ver_f (how := how) h e
  rw [f1, f2, n5, e.1 186 5 (by omega) (by omega)]
theorem rel_sign {I L I1 L1 I2 L2 : Nat → Int → Int} {s how x y : Int} (h : Rel I L) (c0 : c4 ((0 ≤ s ∧ s < 3) ∧ (how = 0 ∨ how = -1)) ((how ≠ 0 ∨ I 22 1 ≤ 255) ∧ (I 14 1 = 32 ∨ I 14 1 = 0)) (I 18 1 = sSec s) (sgOk s (byAt I 18 19) ∧ sgRun s (byAt I 18 19) (rhC I (how)) (muC I (fun k => byAt I 18 19 (64 + k)) (how)) 814 0 ≠ none) = 0) (q2 : (fun v I' L' => FC (fun a => a = 24 ∨ a = 25 ∨ 36 ≤ a ∧ a ≤ 174 ∧ a ≠ 43) I L I' L' ∧ ∃ t, sgRun s (byAt I 18 19) (rhC I (how)) (muC I (fun k => byAt I 18 19 (64 + k)) (how)) 814 0 = some t ∧ v = t + 1 ∧ HB I' 24 25 (sPkt s) (sgPk s (byAt I 18 19) (rhC I (how)) (muC I (fun k => byAt I 18 19 (64 + k)) (how)) t)) x I1 L1) (R : fR0 (fun a => a = 183 ∨ a = 186) I1 (a_up L1 268 0 x) I2 L2) (Q : (fun v I' _ => ∃ t, sgRun s (rkR I1) (rhR I1 how) (muR I1 (fun k => I1 180 (64 + k)) how) 814 0 = some t ∧ v = t + 1 ∧ ((∀ j, j ≠ 5 → I' 186 j = I1 186 j) ∧ I' 186 5 = sPkt s) ∧ HR I' 183 0 (sPkt s) (sgPk s (rkR I1) (rhR I1 how) (muR I1 (fun k => I1 180 (64 + k)) how) t) ∧ rng (I1 183) (I' 183)) y I2 L2) : Rel I2 L2 ∧ x = y := by
  obtain ⟨F, t, r1, x1, P1⟩ := q2
  obtain ⟨u, r2, y1, ⟨l0, l1⟩, hr, rg⟩ := Q
  have e : Ref0 I I1 := F.ref (by intro a x; omega)
  have z := c4_z c0
  obtain ⟨f1, f2, f3⟩ := sign_f (how := how) h e z.2.1.2 (by rw [z.2.2.1]; exact (sz_b s).2.2.1)
  rw [f2, f3, f1] at r1 P1
  rw [r2] at r1
  cases r1
  refine ⟨rel_new h 5 (by decide) (n := sPkt s) ⟨(sz_b s).2.2.2.2.1, (sz_b s).2.2.2.2.2⟩ (fun a j y p q => F.1 a j (by omega)) F.2 P1 R (fun j hj => l0 j hj) l1 (fun k x y => ?_) rg, by omega⟩
  have w_ := hr k x y
  rw [Int.zero_add] at w_
  exact w_
theorem rel_ver {I L I1 L1 I2 L2 : Nat → Int → Int} {s how x y : Int} (h : Rel I L) (hs : 0 ≤ s ∧ s < 3) (q2 : (fun v I' L' => (¬ vfPre s (byAt I 24 25) (I 24 1) ∧ v = 0 ∧ FC (fun a => 36 ≤ a ∧ a ≤ 174 ∧ a ≠ 43) I L I' L') ∨ (vfPre s (byAt I 24 25) (I 24 1) ∧ FC (fun a => a = 26 ∨ a = 27 ∨ 36 ≤ a ∧ a ≤ 174 ∧ a ≠ 43) I L I' L' ∧ HB I' 26 27 (pC s) (vfC s (byAt I 16 17) (byAt I 24 25) (muV I (how))) ∧ (v = 0 ∨ v = 1) ∧ (v = 1 ↔ ∀ j, 0 ≤ j → j < pC s → vfC s (byAt I 16 17) (byAt I 24 25) (muV I (how)) j = byAt I 24 25 j))) x I1 L1) (R : fR0 (fun a => a = 184 ∨ a = 186) I1 (a_up L1 268 0 x) I2 L2) (Q : (fun v I' L' => (¬ vfPre s (rgR I1) (I1 186 5) ∧ v = 0 ∧ fR0 qN I1 (a_up L1 268 0 x) I' L') ∨ (vfPre s (rgR I1) (I1 186 5) ∧ ((∀ j, j ≠ 6 → I' 186 j = I1 186 j) ∧ I' 186 6 = pC s) ∧ (HR I' 184 0 (pC s) (vfC s (rpR I1) (rgR I1) (muW I1 how)) ∧ rng (I1 184) (I' 184)) ∧ (v = 0 ∨ v = 1) ∧ (v = 1 ↔ ∀ j, 0 ≤ j → j < pC s → vfC s (rpR I1) (rgR I1) (muW I1 how) j = rgR I1 j))) y I2 L2) : Rel I2 L2 ∧ x = y ∧ (x = 0 ∨ x = 1) := by
  have e : Ref0 I I1 := by
    rcases q2 with z | z
    · exact z.2.2.ref (by intro a x; omega)
    · exact z.2.1.ref (by intro a x; omega)
  obtain ⟨f1, f2, f3⟩ := ver_f (how := how) h e
  have n5 : I 24 1 = I1 186 5 := by rw [e.1 186 5 (by omega) (by omega)]; exact cnt h (s := 5) (by decide)
  have cb : 0 ≤ pC s ∧ pC s ≤ 8192 := by unfold pC; omega
  rw [f2, n5] at q2
  rcases q2 with z | z
  · rcases Q with w_ | w_
    · refine ⟨h.scr (fun a j v => (w_.2.2.1 a j (by omega) (fun z => z)).trans (z.2.2.1 a j (by omega))) (w_.2.2.2.1.trans (z.2.2.1 175 3 (by omega))) (fun j => by rw [w_.2.2.2.2 8 j (by omega), a_up_ne (Or.inl (by decide))]; exact z.2.2.2 8 j (by decide) (by decide) (by decide)) (fun j => by rw [w_.2.2.2.2 194 j (by omega), a_up_ne (Or.inl (by decide))]; exact z.2.2.2 194 j (by decide) (by decide) (by decide)), by rw [z.2.1, w_.2.1], Or.inl z.2.1⟩
    · exact absurd w_.1 z.1
  · rcases Q with w_ | w_
    · exact absurd z.1 w_.1
    · obtain ⟨zp, F, P1, xo, xm⟩ := z
      obtain ⟨wp, ⟨l0, l1⟩, ⟨hr, rg⟩, yo, ym⟩ := w_
      rw [f1, f3] at P1 xm
      refine ⟨rel_new h 6 (by decide) (n := pC s) cb (fun a j y p q => F.1 a j (by omega)) F.2 P1 R (fun j hj => l0 j hj) l1 (fun k x y => ?_) rg, ?_, xo⟩
      · have q := hr k x y
        rw [Int.zero_add] at q
        exact q
      · have b := xm.trans ym.symm
        omega
set_option maxHeartbeats 2000000 in
set_option maxRecDepth 100000 in
theorem law_feed {l : Launch} {G : a_G} {P : a_R → Hp → Prop} {h : Hp} {I L : Nat → Int → Int} {i N : Int} (S : Shp h) (hfl : l.flags = flags0) (rel : Rel I L) (rm : hX h + 1 ≤ a_NX ∧ hU h + 6 ≤ a_US) (hl : hN h 11 = N) (hi : 0 ≤ i ∧ i + 6 ≤ N ∧ N ≤ 3072) (hC : ∀ (h' : Hp) (I' L' : Nat → Int → Int), Shp h' → Rel I' L' → (∀ j, I' 11 j = I 11 j) → hN h' 11 = N → hX h' ≤ hX h + 1 → hU h' ≤ hU h + 6 → AW l G M_law P 885 [(4, vi i), (3, vr 268), (2, vr 175), (1, vr 12), (0, vr 11)] [] (sD h' I' L')) : AW l G M_law P 100 [(4, vi i), (3, vr 268), (2, vr 175), (1, vr 12), (0, vr 11)] [] (sD h I L) := by
  refine aw_aload_n d_La_law_100 rfl rfl ?_
  refine aw_aload_n d_La_law_101 rfl rfl ?_
  refine aw_iload d_La_law_102 rfl ?_
  refine aw_iconst d_La_law_104 ⟨by decide, by decide⟩ ?_
  refine ax_iadd d_La_law_105 ⟨(by omega), (by omega)⟩ ?_
  refine ax_ialde (x := I 11 (i + 1)) d_La_law_106 (k_11 S) (by omega) (by rw [hl]; omega) (rfl) ?_
  refine aw_aload_n d_La_law_107 rfl rfl ?_
  refine aw_iload d_La_law_108 rfl ?_
  refine aw_iconst d_La_law_110 ⟨by decide, by decide⟩ ?_
  refine ax_iadd d_La_law_111 ⟨(by omega), (by omega)⟩ ?_
  refine ax_ialde (x := I 11 (i + 2)) d_La_law_112 (k_11 S) (by omega) (by rw [hl]; omega) (rfl) ?_
  refine aw_aload_n d_La_law_113 rfl rfl ?_
  refine aw_iload d_La_law_114 rfl ?_
  refine aw_iconst d_La_law_116 ⟨by decide, by decide⟩ ?_
  refine ax_iadd d_La_law_117 ⟨(by omega), (by omega)⟩ ?_
  refine ax_ialde (x := I 11 (i + 3)) d_La_law_118 (k_11 S) (by omega) (by rw [hl]; omega) (rfl) ?_
  refine aw_aload_n d_La_law_119 rfl rfl ?_
  refine aw_iload d_La_law_120 rfl ?_
  refine aw_iconst d_La_law_122 ⟨by decide, by decide⟩ ?_
  refine ax_iadd d_La_law_123 ⟨(by omega), (by omega)⟩ ?_
  refine ax_ialde (x := I 11 (i + 4)) d_La_law_124 (k_11 S) (by omega) (by rw [hl]; omega) (rfl) ?_
  refine aw_aload_n d_La_law_125 rfl rfl ?_
  refine aw_iload d_La_law_126 rfl ?_
  refine aw_iconst d_La_law_128 ⟨by decide, by decide⟩ ?_
  refine ax_iadd d_La_law_129 ⟨(by omega), (by omega)⟩ ?_
  refine ax_ialde (x := I 11 (i + 5)) d_La_law_130 (k_11 S) (by omega) (by rw [hl]; omega) (rfl) ?_
  refine aw_aload_n d_La_law_131 rfl rfl ?_
  refine ax_St (st := []) (as := [vr 12, vi (I 11 (i + 1)), vi (I 11 (i + 2)), vi (I 11 (i + 3)), vi (I 11 (i + 4)), vi (I 11 (i + 5)), vr 268]) d_La_law_132 cs_La_law_132 (c_La_feed S hfl rm rel.cb) rfl rfl rfl (fun v_ h_ q_ => ?_) (fun x_ h_ q_ => ?_)
  · rcases q_ with ⟨q1, x, q2, q3, q4⟩ | ⟨q1, q3, q4⟩
    · cases q3; subst q4
      have er : Ref0 I (jFeed I (I 11 (i + 1)) (I 11 (i + 2)) (I 11 (i + 3)) (I 11 (i + 4)) (I 11 (i + 5))) := ⟨fun a j x y => by unfold jFeed; rw [byPut_ne (by omega) (by omega), byPut_ne (by omega) (by omega), byPut_ne (by omega) (by omega), byPut_ne (by omega) (by omega), byPut_ne (by omega) (by omega)], by unfold jFeed; rw [byPut_ne (by omega) (by omega), byPut_ne (by omega) (by omega), byPut_ne (by omega) (by omega), byPut_ne (by omega) (by omega), byPut_ne (by omega) (by omega)]⟩
      have h11 : ∀ j, (jFeed I (I 11 (i + 1)) (I 11 (i + 2)) (I 11 (i + 3)) (I 11 (i + 4)) (I 11 (i + 5))) 11 j = I 11 j := fun j => by unfold jFeed; rw [byPut_ne (by omega) (by omega), byPut_ne (by omega) (by omega), byPut_ne (by omega) (by omega), byPut_ne (by omega) (by omega), byPut_ne (by omega) (by omega)]
      show AW l G M_law P 135 [(4, vi i), (3, vr 268), (2, vr 175), (1, vr 12), (0, vr 11)] [vi 0] (sD h (jFeed I (I 11 (i + 1)) (I 11 (i + 2)) (I 11 (i + 3)) (I 11 (i + 4)) (I 11 (i + 5))) (a_up L 268 0 x))
      refine aw_istore (lv' := [(5, vi 0), (4, vi i), (3, vr 268), (2, vr 175), (1, vr 12), (0, vr 11)]) d_La_law_135 (by decide) rfl ?_
      refine aw_aload_n d_La_law_137 rfl rfl ?_
      refine aw_aload_n d_La_law_138 rfl rfl ?_
      refine aw_iload d_La_law_139 rfl ?_
      refine aw_iconst d_La_law_141 ⟨by decide, by decide⟩ ?_
      refine ax_iadd d_La_law_142 ⟨(by omega), (by omega)⟩ ?_
      refine ax_ialde (x := I 11 (i + 1)) d_La_law_143 (k_11 S) (by omega) (by rw [hl]; omega) (Eq.trans (h11 (i + 1)) (rfl)) ?_
      refine aw_aload_n d_La_law_144 rfl rfl ?_
      refine aw_iload d_La_law_145 rfl ?_
      refine aw_iconst d_La_law_147 ⟨by decide, by decide⟩ ?_
      refine ax_iadd d_La_law_148 ⟨(by omega), (by omega)⟩ ?_
      refine ax_ialde (x := I 11 (i + 2)) d_La_law_149 (k_11 S) (by omega) (by rw [hl]; omega) (Eq.trans (h11 (i + 2)) (rfl)) ?_
      refine aw_aload_n d_La_law_150 rfl rfl ?_
      refine aw_iload d_La_law_151 rfl ?_
      refine aw_iconst d_La_law_153 ⟨by decide, by decide⟩ ?_
      refine ax_iadd d_La_law_154 ⟨(by omega), (by omega)⟩ ?_
      refine ax_ialde (x := I 11 (i + 3)) d_La_law_155 (k_11 S) (by omega) (by rw [hl]; omega) (Eq.trans (h11 (i + 3)) (rfl)) ?_
      refine aw_aload_n d_La_law_156 rfl rfl ?_
      refine aw_iload d_La_law_157 rfl ?_
      refine aw_iconst d_La_law_159 ⟨by decide, by decide⟩ ?_
      refine ax_iadd d_La_law_160 ⟨(by omega), (by omega)⟩ ?_
      refine ax_ialde (x := I 11 (i + 4)) d_La_law_161 (k_11 S) (by omega) (by rw [hl]; omega) (Eq.trans (h11 (i + 4)) (rfl)) ?_
      refine aw_aload_n d_La_law_162 rfl rfl ?_
      refine aw_iload d_La_law_163 rfl ?_
      refine aw_iconst d_La_law_165 ⟨by decide, by decide⟩ ?_
      refine ax_iadd d_La_law_166 ⟨(by omega), (by omega)⟩ ?_
      refine ax_ialde (x := I 11 (i + 5)) d_La_law_167 (k_11 S) (by omega) (by rw [hl]; omega) (Eq.trans (h11 (i + 5)) (rfl)) ?_
      refine ax_Vt (st := []) (as := [vi (I 11 (i + 1)), vi (I 11 (i + 2)), vi (I 11 (i + 3)), vi (I 11 (i + 4)), vi (I 11 (i + 5))]) (b := 175) d_La_law_168 cs_La_law_168 (k_175 S) (cT_Mo_feed S (rel.rb1 er)) rfl rfl rfl (fun v_ h_ p_ => ?_) (fun x_ h_ p_ => ?_)
      · rcases p_ with ⟨p1, y, p2, p3, p4⟩ | ⟨p1, y, p2, p3, p4⟩
        · cases p3; subst p4
          subst p2
          have c0 : cFeed (I 30 1) = 0 := q1
          show AW l G M_law P 171 [(5, vi 0), (4, vi i), (3, vr 268), (2, vr 175), (1, vr 12), (0, vr 11)] [vi ((jFeed I (I 11 (i + 1)) (I 11 (i + 2)) (I 11 (i + 3)) (I 11 (i + 4)) (I 11 (i + 5))) 175 3 + 20)] (sD h (fW (fW (fW (fW (fW (a_up (jFeed I (I 11 (i + 1)) (I 11 (i + 2)) (I 11 (i + 3)) (I 11 (i + 4)) (I 11 (i + 5))) 175 4 0) (I 11 (i + 1))) (I 11 (i + 2))) (I 11 (i + 3))) (I 11 (i + 4))) (I 11 (i + 5))) (a_up L 268 0 x))
          refine aw_istore (lv' := [(6, vi ((jFeed I (I 11 (i + 1)) (I 11 (i + 2)) (I 11 (i + 3)) (I 11 (i + 4)) (I 11 (i + 5))) 175 3 + 20)), (5, vi 0), (4, vi i), (3, vr 268), (2, vr 175), (1, vr 12), (0, vr 11)]) d_La_law_171 (by decide) rfl ?_
          refine aw_aload_n d_La_law_173 rfl rfl ?_
          refine ax_V (st := []) (as := []) (b := 175) (v := some (vi 0)) (h' := sD h (fW (fW (fW (fW (fW (a_up (jFeed I (I 11 (i + 1)) (I 11 (i + 2)) (I 11 (i + 3)) (I 11 (i + 4)) (I 11 (i + 5))) 175 4 0) (I 11 (i + 1))) (I 11 (i + 2))) (I 11 (i + 3))) (I 11 (i + 4))) (I 11 (i + 5))) (a_up L 268 0 x)) d_La_law_174 cs_La_law_174 (k_175 S) (by have z := c_Mo_thrown (l := l) (G := G) (h := h) (I := fW (fW (fW (fW (fW (a_up (jFeed I (I 11 (i + 1)) (I 11 (i + 2)) (I 11 (i + 3)) (I 11 (i + 4)) (I 11 (i + 5))) 175 4 0) (I 11 (i + 1))) (I 11 (i + 2))) (I 11 (i + 3))) (I 11 (i + 4))) (I 11 (i + 5))) (L := a_up L 268 0 x) S; rw [fW_4, fW_4, fW_4, fW_4, fW_4, a_up_at] at z; exact z) rfl rfl rfl ?_
          show AW l G M_law P 177 [(6, vi ((jFeed I (I 11 (i + 1)) (I 11 (i + 2)) (I 11 (i + 3)) (I 11 (i + 4)) (I 11 (i + 5))) 175 3 + 20)), (5, vi 0), (4, vi i), (3, vr 268), (2, vr 175), (1, vr 12), (0, vr 11)] [vi 0] (sD h (fW (fW (fW (fW (fW (a_up (jFeed I (I 11 (i + 1)) (I 11 (i + 2)) (I 11 (i + 3)) (I 11 (i + 4)) (I 11 (i + 5))) 175 4 0) (I 11 (i + 1))) (I 11 (i + 2))) (I 11 (i + 3))) (I 11 (i + 4))) (I 11 (i + 5))) (a_up L 268 0 x))
          refine aw_iload d_La_law_177 rfl ?_
          refine aw_icmp_eq (tgt := 184) d_La_law_179 (by decide) (fun c_179 => ?_) (fun c_179 => False.elim (by omega))
          refine aw_iload d_La_law_184 rfl ?_
          refine aw_if_ne (tgt := 201) d_La_law_186 (by decide) (fun c_186 => False.elim (by omega)) (fun c_186 => ?_)
          refine aw_aload_n d_La_law_189 rfl rfl ?_
          refine aw_iconst d_La_law_190 ⟨by decide, by decide⟩ ?_
          refine ax_lalde (x := x) d_La_law_191 (k_268 S) (by omega) (by rw [n_268 S]; omega) (a_up_at) ?_
          refine aw_iload d_La_law_192 rfl ?_
          refine aw_i2l d_La_law_194 ?_
          refine aw_lcmp d_La_law_195 ?_
          refine aw_if_eq (tgt := 201) d_La_law_196 (by decide) (fun c_196 => ?_) (fun c_196 => False.elim (c_196 (lc0 (by rw [show x = I 30 1 + 20 from q2, er.2, rel.2.2.2.2.1]))))
          refine aw_goto (tgt := 885) d_La_law_201 (by decide) ?_
          refine aw_sub (lv' := [(4, vi i), (3, vr 268), (2, vr 175), (1, vr 12), (0, vr 11)]) (by simp) ?_
          exact hC h (fW (fW (fW (fW (fW (a_up (jFeed I (I 11 (i + 1)) (I 11 (i + 2)) (I 11 (i + 3)) (I 11 (i + 4)) (I 11 (i + 5))) 175 4 0) (I 11 (i + 1))) (I 11 (i + 2))) (I 11 (i + 3))) (I 11 (i + 4))) (I 11 (i + 5))) (a_up L 268 0 x) S (rel_feed rel (by have z := c0; unfold cFeed at z; split at z; (rename_i c_; rw [rel.2.2.2.2.1] at c_; exact c_); exact absurd z (by decide)) (fun j => a_up_ne (Or.inl (by decide))) (fun j => a_up_ne (Or.inl (by decide)))) (fun j => by rw [fW_ne (by decide) (by decide), fW_ne (by decide) (by decide), fW_ne (by decide) (by decide), fW_ne (by decide) (by decide), fW_ne (by decide) (by decide), a_up_ne (Or.inl (by decide))]; exact h11 j) hl (by omega) (by omega)
        · exact absurd ((congrArg cFeed (er.2.trans rel.2.2.2.2.1.symm)).trans q1) p1
      · rcases p_ with ⟨p1, y, p2, p3, p4⟩ | ⟨p1, y, p2, p3, p4⟩
        · cases p3
        · cases p3
    · cases q3; subst q4
      refine ax_hp (h' := sD (wN h (40 + ceF (cFeed (I 30 1))) 6) (zz h I) (zz h L)) rfl ?_
      have er : Ref0 I (zz h I) := Ref0.zz S ⟨fun _ _ _ _ => rfl, rfl⟩
      have h11 : ∀ j, (zz h I) 11 j = I 11 j := fun j => zz_ne S (by decide)
      have S0 := S
      have S := Shp_wN (q := 40 + ceF (cFeed (I 30 1))) (n := 6) S0
      have hl0 := hl
      have hl : hN (wN h (40 + ceF (cFeed (I 30 1))) 6) 11 = N := (wN_11 S0).trans hl0
      show AW l G M_law P 135 [(4, vi i), (3, vr 268), (2, vr 175), (1, vr 12), (0, vr 11)] [vi (cFeed (I 30 1))] (sD (wN h (40 + ceF (cFeed (I 30 1))) 6) (zz h I) (zz h L))
      refine aw_istore (lv' := [(5, vi (cFeed (I 30 1))), (4, vi i), (3, vr 268), (2, vr 175), (1, vr 12), (0, vr 11)]) d_La_law_135 (by decide) rfl ?_
      refine aw_aload_n d_La_law_137 rfl rfl ?_
      refine aw_aload_n d_La_law_138 rfl rfl ?_
      refine aw_iload d_La_law_139 rfl ?_
      refine aw_iconst d_La_law_141 ⟨by decide, by decide⟩ ?_
      refine ax_iadd d_La_law_142 ⟨(by omega), (by omega)⟩ ?_
      refine ax_ialde (x := I 11 (i + 1)) d_La_law_143 (k_11 S) (by omega) (by rw [hl]; omega) (Eq.trans (h11 (i + 1)) (rfl)) ?_
      refine aw_aload_n d_La_law_144 rfl rfl ?_
      refine aw_iload d_La_law_145 rfl ?_
      refine aw_iconst d_La_law_147 ⟨by decide, by decide⟩ ?_
      refine ax_iadd d_La_law_148 ⟨(by omega), (by omega)⟩ ?_
      refine ax_ialde (x := I 11 (i + 2)) d_La_law_149 (k_11 S) (by omega) (by rw [hl]; omega) (Eq.trans (h11 (i + 2)) (rfl)) ?_
      refine aw_aload_n d_La_law_150 rfl rfl ?_
      refine aw_iload d_La_law_151 rfl ?_
      refine aw_iconst d_La_law_153 ⟨by decide, by decide⟩ ?_
      refine ax_iadd d_La_law_154 ⟨(by omega), (by omega)⟩ ?_
      refine ax_ialde (x := I 11 (i + 3)) d_La_law_155 (k_11 S) (by omega) (by rw [hl]; omega) (Eq.trans (h11 (i + 3)) (rfl)) ?_
      refine aw_aload_n d_La_law_156 rfl rfl ?_
      refine aw_iload d_La_law_157 rfl ?_
      refine aw_iconst d_La_law_159 ⟨by decide, by decide⟩ ?_
      refine ax_iadd d_La_law_160 ⟨(by omega), (by omega)⟩ ?_
      refine ax_ialde (x := I 11 (i + 4)) d_La_law_161 (k_11 S) (by omega) (by rw [hl]; omega) (Eq.trans (h11 (i + 4)) (rfl)) ?_
      refine aw_aload_n d_La_law_162 rfl rfl ?_
      refine aw_iload d_La_law_163 rfl ?_
      refine aw_iconst d_La_law_165 ⟨by decide, by decide⟩ ?_
      refine ax_iadd d_La_law_166 ⟨(by omega), (by omega)⟩ ?_
      refine ax_ialde (x := I 11 (i + 5)) d_La_law_167 (k_11 S) (by omega) (by rw [hl]; omega) (Eq.trans (h11 (i + 5)) (rfl)) ?_
      refine ax_Vt (st := []) (as := [vi (I 11 (i + 1)), vi (I 11 (i + 2)), vi (I 11 (i + 3)), vi (I 11 (i + 4)), vi (I 11 (i + 5))]) (b := 175) d_La_law_168 cs_La_law_168 (k_175 S) (cT_Mo_feed S (rel.rb1 er)) rfl rfl rfl (fun v_ h_ p_ => ?_) (fun x_ h_ p_ => ?_)
      · rcases p_ with ⟨p1, y, p2, p3, p4⟩ | ⟨p1, y, p2, p3, p4⟩
        · exact absurd ((congrArg cFeed (er.2.trans rel.2.2.2.2.1.symm)).symm.trans p1) q1
        · cases p3; subst p4
          obtain ⟨y, rfl⟩ := p2
          show AW l G M_law P 171 [(5, vi (cFeed (I 30 1))), (4, vi i), (3, vr 268), (2, vr 175), (1, vr 12), (0, vr 11)] [vi y] (sD (wN h (40 + ceF (cFeed (I 30 1))) 6) (a_up (zz h I) 175 4 (cFeed ((zz h I) 175 3))) (zz h L))
          refine aw_istore (lv' := [(6, vi y), (5, vi (cFeed (I 30 1))), (4, vi i), (3, vr 268), (2, vr 175), (1, vr 12), (0, vr 11)]) d_La_law_171 (by decide) rfl ?_
          refine aw_aload_n d_La_law_173 rfl rfl ?_
          refine ax_V (st := []) (as := []) (b := 175) (v := some (vi (cFeed ((zz h I) 175 3)))) (h' := sD (wN h (40 + ceF (cFeed (I 30 1))) 6) (a_up (zz h I) 175 4 (cFeed ((zz h I) 175 3))) (zz h L)) d_La_law_174 cs_La_law_174 (k_175 S) (by have z := c_Mo_thrown (l := l) (G := G) (h := (wN h (40 + ceF (cFeed (I 30 1))) 6)) (I := a_up (zz h I) 175 4 (cFeed ((zz h I) 175 3))) (L := zz h L) S; rw [a_up_at] at z; exact z) rfl rfl rfl ?_
          show AW l G M_law P 177 [(6, vi y), (5, vi (cFeed (I 30 1))), (4, vi i), (3, vr 268), (2, vr 175), (1, vr 12), (0, vr 11)] [vi (cFeed ((zz h I) 175 3))] (sD (wN h (40 + ceF (cFeed (I 30 1))) 6) (a_up (zz h I) 175 4 (cFeed ((zz h I) 175 3))) (zz h L))
          refine ax_ti (x := cFeed (I 30 1)) (congrArg cFeed (er.2.trans rel.2.2.2.2.1.symm)) ?_
          refine aw_iload d_La_law_177 rfl ?_
          refine aw_icmp_eq (tgt := 184) d_La_law_179 (by decide) (fun c_179 => ?_) (fun c_179 => False.elim (by omega))
          refine aw_iload d_La_law_184 rfl ?_
          refine aw_if_ne (tgt := 201) d_La_law_186 (by decide) (fun c_186 => ?_) (fun c_186 => False.elim (by omega))
          refine aw_goto (tgt := 885) d_La_law_201 (by decide) ?_
          refine aw_sub (lv' := [(4, vi i), (3, vr 268), (2, vr 175), (1, vr 12), (0, vr 11)]) (by simp) ?_
          exact hC _ (a_up (zz h I) 175 4 (cFeed ((zz h I) 175 3))) (zz h L) S (rel_len (rel.scr (fun a j y => (zz_ne S0 (by omega)).trans rfl) (zz_ne S0 (by decide)) (fun j => zz_ne S0 (by decide)) (fun j => zz_ne S0 (by decide))) (fun _ => rfl) (fun _ => rfl)) (fun j => (a_up_ne (Or.inl (by decide))).trans (h11 j)) hl (by show hX h + 1 ≤ hX h + 1; omega) (by show hU h + 6 ≤ hU h + 6; omega)
      · rcases p_ with ⟨p1, y, p2, p3, p4⟩ | ⟨p1, y, p2, p3, p4⟩
        · cases p3
        · cases p3
  · rcases q_ with ⟨q1, x, q2, q3, q4⟩ | ⟨q1, q3, q4⟩
    · cases q3
    · cases q3
set_option maxHeartbeats 2000000 in
set_option maxRecDepth 100000 in
theorem law_end {l : Launch} {G : a_G} {P : a_R → Hp → Prop} {h : Hp} {I L : Nat → Int → Int} {i N : Int} (S : Shp h) (hfl : l.flags = flags0) (rel : Rel I L) (rm : hX h + 1 ≤ a_NX ∧ hU h + 6 ≤ a_US) (hl : hN h 11 = N) (hi : 0 ≤ i ∧ i + 6 ≤ N ∧ N ≤ 3072) (hC : ∀ (h' : Hp) (I' L' : Nat → Int → Int), Shp h' → Rel I' L' → (∀ j, I' 11 j = I 11 j) → hN h' 11 = N → hX h' ≤ hX h + 1 → hU h' ≤ hU h + 6 → AW l G M_law P 885 [(4, vi i), (3, vr 268), (2, vr 175), (1, vr 12), (0, vr 11)] [] (sD h' I' L')) : AW l G M_law P 204 [(4, vi i), (3, vr 268), (2, vr 175), (1, vr 12), (0, vr 11)] [] (sD h I L) := by
  refine aw_aload_n d_La_law_204 rfl rfl ?_
  refine aw_aload_n d_La_law_205 rfl rfl ?_
  refine aw_iload d_La_law_206 rfl ?_
  refine aw_iconst d_La_law_208 ⟨by decide, by decide⟩ ?_
  refine ax_iadd d_La_law_209 ⟨(by omega), (by omega)⟩ ?_
  refine ax_ialde (x := I 11 (i + 1)) d_La_law_210 (k_11 S) (by omega) (by rw [hl]; omega) (rfl) ?_
  refine aw_aload_n d_La_law_211 rfl rfl ?_
  refine aw_iload d_La_law_212 rfl ?_
  refine aw_iconst d_La_law_214 ⟨by decide, by decide⟩ ?_
  refine ax_iadd d_La_law_215 ⟨(by omega), (by omega)⟩ ?_
  refine ax_ialde (x := I 11 (i + 2)) d_La_law_216 (k_11 S) (by omega) (by rw [hl]; omega) (rfl) ?_
  refine aw_aload_n d_La_law_217 rfl rfl ?_
  refine ax_St (st := []) (as := [vr 12, vi (I 11 (i + 1)), vi (I 11 (i + 2)), vr 268]) d_La_law_218 cs_La_law_218 (c_La_end S hfl rm rel.cb) rfl rfl rfl (fun v_ h_ q_ => ?_) (fun x_ h_ q_ => ?_)
  · rcases q_ with ⟨q1, x, q2, q3, q4⟩ | ⟨q1, q3, q4⟩
    · cases q3; subst q4
      have cc := cEnd_0 q1
      have er : Ref0 I (a_up (byBecome I (14 + 2 * (I 11 (i + 1)).toNat) (15 + 2 * (I 11 (i + 1)).toNat) 31 (I 11 (i + 2))) 30 1 0) := ⟨fun a j x y => (by rw [a_up_ne (Or.inl (by omega)), bb_ne (by omega) (by omega)]), (by rw [a_up_ne (Or.inl (by omega)), bb_ne (by omega) (by omega)])⟩
      have h11 : ∀ j, (a_up (byBecome I (14 + 2 * (I 11 (i + 1)).toNat) (15 + 2 * (I 11 (i + 1)).toNat) 31 (I 11 (i + 2))) 30 1 0) 11 j = I 11 j := fun j => (by rw [a_up_ne (Or.inl (by omega)), bb_ne (by omega) (by omega)])
      show AW l G M_law P 221 [(4, vi i), (3, vr 268), (2, vr 175), (1, vr 12), (0, vr 11)] [vi 0] (sD h (a_up (byBecome I (14 + 2 * (I 11 (i + 1)).toNat) (15 + 2 * (I 11 (i + 1)).toNat) 31 (I 11 (i + 2))) 30 1 0) (a_up L 268 0 x))
      refine aw_istore (lv' := [(5, vi 0), (4, vi i), (3, vr 268), (2, vr 175), (1, vr 12), (0, vr 11)]) d_La_law_221 (by decide) rfl ?_
      refine aw_aload_n d_La_law_223 rfl rfl ?_
      refine aw_aload_n d_La_law_224 rfl rfl ?_
      refine aw_iload d_La_law_225 rfl ?_
      refine aw_iconst d_La_law_227 ⟨by decide, by decide⟩ ?_
      refine ax_iadd d_La_law_228 ⟨(by omega), (by omega)⟩ ?_
      refine ax_ialde (x := I 11 (i + 1)) d_La_law_229 (k_11 S) (by omega) (by rw [hl]; omega) (Eq.trans (h11 (i + 1)) (rfl)) ?_
      refine aw_aload_n d_La_law_230 rfl rfl ?_
      refine aw_iload d_La_law_231 rfl ?_
      refine aw_iconst d_La_law_233 ⟨by decide, by decide⟩ ?_
      refine ax_iadd d_La_law_234 ⟨(by omega), (by omega)⟩ ?_
      refine ax_ialde (x := I 11 (i + 2)) d_La_law_235 (k_11 S) (by omega) (by rw [hl]; omega) (Eq.trans (h11 (i + 2)) (rfl)) ?_
      refine ax_Vt (st := []) (as := [vi (I 11 (i + 1)), vi (I 11 (i + 2))]) (b := 175) d_La_law_236 cs_La_law_236 (k_175 S) (cT_Mo_end S (rel.rb1 er)) rfl rfl rfl (fun v_ h_ p_ => ?_) (fun x_ h_ p_ => ?_)
      · rcases p_ with ⟨p1, y, p2, p3, p4⟩ | ⟨p1, y, p2, p3, p4⟩
        · cases p3; subst p4
          subst p2
          have c0 : cEnd (I 30 1) (I 11 (i + 1)) (I 11 (i + 2)) = 0 := q1
          show AW l G M_law P 239 [(5, vi 0), (4, vi i), (3, vr 268), (2, vr 175), (1, vr 12), (0, vr 11)] [vi (I 11 (i + 2))] (sD h (a_up (a_up (rowTo (a_up (a_up (byBecome I (14 + 2 * (I 11 (i + 1)).toNat) (15 + 2 * (I 11 (i + 1)).toNat) 31 (I 11 (i + 2))) 30 1 0) 175 4 0) (178 + (I 11 (i + 1)).toNat) (I 11 (i + 2)) (fun j => a_w8 ((a_up (byBecome I (14 + 2 * (I 11 (i + 1)).toNat) (15 + 2 * (I 11 (i + 1)).toNat) 31 (I 11 (i + 2))) 30 1 0) 176 j))) 186 (I 11 (i + 1)) (I 11 (i + 2))) 175 3 0) (a_up L 268 0 x))
          refine aw_istore (lv' := [(6, vi (I 11 (i + 2))), (5, vi 0), (4, vi i), (3, vr 268), (2, vr 175), (1, vr 12), (0, vr 11)]) d_La_law_239 (by decide) rfl ?_
          refine aw_aload_n d_La_law_241 rfl rfl ?_
          refine ax_V (st := []) (as := []) (b := 175) (v := some (vi 0)) (h' := sD h (a_up (a_up (rowTo (a_up (a_up (byBecome I (14 + 2 * (I 11 (i + 1)).toNat) (15 + 2 * (I 11 (i + 1)).toNat) 31 (I 11 (i + 2))) 30 1 0) 175 4 0) (178 + (I 11 (i + 1)).toNat) (I 11 (i + 2)) (fun j => a_w8 ((a_up (byBecome I (14 + 2 * (I 11 (i + 1)).toNat) (15 + 2 * (I 11 (i + 1)).toNat) 31 (I 11 (i + 2))) 30 1 0) 176 j))) 186 (I 11 (i + 1)) (I 11 (i + 2))) 175 3 0) (a_up L 268 0 x)) d_La_law_242 cs_La_law_242 (k_175 S) (by have z := c_Mo_thrown (l := l) (G := G) (h := h) (I := a_up (a_up (rowTo (a_up (a_up (byBecome I (14 + 2 * (I 11 (i + 1)).toNat) (15 + 2 * (I 11 (i + 1)).toNat) 31 (I 11 (i + 2))) 30 1 0) 175 4 0) (178 + (I 11 (i + 1)).toNat) (I 11 (i + 2)) (fun j => a_w8 ((a_up (byBecome I (14 + 2 * (I 11 (i + 1)).toNat) (15 + 2 * (I 11 (i + 1)).toNat) 31 (I 11 (i + 2))) 30 1 0) 176 j))) 186 (I 11 (i + 1)) (I 11 (i + 2))) 175 3 0) (L := a_up L 268 0 x) S; rw [a_up_ne (Or.inr (by decide)), a_up_ne (Or.inl (by decide)), rowTo_ne (by omega), a_up_at] at z; exact z) rfl rfl rfl ?_
          show AW l G M_law P 245 [(6, vi (I 11 (i + 2))), (5, vi 0), (4, vi i), (3, vr 268), (2, vr 175), (1, vr 12), (0, vr 11)] [vi 0] (sD h (a_up (a_up (rowTo (a_up (a_up (byBecome I (14 + 2 * (I 11 (i + 1)).toNat) (15 + 2 * (I 11 (i + 1)).toNat) 31 (I 11 (i + 2))) 30 1 0) 175 4 0) (178 + (I 11 (i + 1)).toNat) (I 11 (i + 2)) (fun j => a_w8 ((a_up (byBecome I (14 + 2 * (I 11 (i + 1)).toNat) (15 + 2 * (I 11 (i + 1)).toNat) 31 (I 11 (i + 2))) 30 1 0) 176 j))) 186 (I 11 (i + 1)) (I 11 (i + 2))) 175 3 0) (a_up L 268 0 x))
          refine aw_iload d_La_law_245 rfl ?_
          refine aw_icmp_eq (tgt := 252) d_La_law_247 (by decide) (fun c_247 => ?_) (fun c_247 => False.elim (by omega))
          refine aw_iload d_La_law_252 rfl ?_
          refine aw_if_ne (tgt := 269) d_La_law_254 (by decide) (fun c_254 => False.elim (by omega)) (fun c_254 => ?_)
          refine aw_aload_n d_La_law_257 rfl rfl ?_
          refine aw_iconst d_La_law_258 ⟨by decide, by decide⟩ ?_
          refine ax_lalde (x := x) d_La_law_259 (k_268 S) (by omega) (by rw [n_268 S]; omega) (a_up_at) ?_
          refine aw_iload d_La_law_260 rfl ?_
          refine aw_i2l d_La_law_262 ?_
          refine aw_lcmp d_La_law_263 ?_
          refine aw_if_eq (tgt := 269) d_La_law_264 (by decide) (fun c_264 => ?_) (fun c_264 => False.elim (c_264 (lc0 q2)))
          refine aw_goto (tgt := 885) d_La_law_269 (by decide) ?_
          refine aw_sub (lv' := [(4, vi i), (3, vr 268), (2, vr 175), (1, vr 12), (0, vr 11)]) (by simp) ?_
          exact hC h (a_up (a_up (rowTo (a_up (a_up (byBecome I (14 + 2 * (I 11 (i + 1)).toNat) (15 + 2 * (I 11 (i + 1)).toNat) 31 (I 11 (i + 2))) 30 1 0) 175 4 0) (178 + (I 11 (i + 1)).toNat) (I 11 (i + 2)) (fun j => a_w8 ((a_up (byBecome I (14 + 2 * (I 11 (i + 1)).toNat) (15 + 2 * (I 11 (i + 1)).toNat) 31 (I 11 (i + 2))) 30 1 0) 176 j))) 186 (I 11 (i + 1)) (I 11 (i + 2))) 175 3 0) (a_up L 268 0 x) S (rel_end rel cc.1 ⟨cc.2.1.1, by rw [← rel.2.2.2.2.1]; exact cc.2.2⟩ (fun j => a_up_ne (Or.inl (by decide))) (fun j => a_up_ne (Or.inl (by decide)))) (fun j => by rw [a_up_ne (Or.inl (by decide)), a_up_ne (Or.inl (by decide)), rowTo_ne (by omega), a_up_ne (Or.inl (by decide))]; exact h11 j) hl (by omega) (by omega)
        · exact absurd ((congrArg (fun t => cEnd t (I 11 (i + 1)) (I 11 (i + 2))) (er.2.trans rel.2.2.2.2.1.symm)).trans q1) p1
      · rcases p_ with ⟨p1, y, p2, p3, p4⟩ | ⟨p1, y, p2, p3, p4⟩
        · cases p3
        · cases p3
    · cases q3; subst q4
      refine ax_hp (h' := sD (wN h (40 + ceA (cEnd (I 30 1) (I 11 (i + 1)) (I 11 (i + 2)))) 6) (zz h I) (zz h L)) rfl ?_
      have er : Ref0 I (zz h I) := Ref0.zz S ⟨fun _ _ _ _ => rfl, rfl⟩
      have h11 : ∀ j, (zz h I) 11 j = I 11 j := fun j => zz_ne S (by decide)
      have S0 := S
      have S := Shp_wN (q := 40 + ceA (cEnd (I 30 1) (I 11 (i + 1)) (I 11 (i + 2)))) (n := 6) S0
      have hl0 := hl
      have hl : hN (wN h (40 + ceA (cEnd (I 30 1) (I 11 (i + 1)) (I 11 (i + 2)))) 6) 11 = N := (wN_11 S0).trans hl0
      show AW l G M_law P 221 [(4, vi i), (3, vr 268), (2, vr 175), (1, vr 12), (0, vr 11)] [vi (cEnd (I 30 1) (I 11 (i + 1)) (I 11 (i + 2)))] (sD (wN h (40 + ceA (cEnd (I 30 1) (I 11 (i + 1)) (I 11 (i + 2)))) 6) (zz h I) (zz h L))
      refine aw_istore (lv' := [(5, vi (cEnd (I 30 1) (I 11 (i + 1)) (I 11 (i + 2)))), (4, vi i), (3, vr 268), (2, vr 175), (1, vr 12), (0, vr 11)]) d_La_law_221 (by decide) rfl ?_
      refine aw_aload_n d_La_law_223 rfl rfl ?_
      refine aw_aload_n d_La_law_224 rfl rfl ?_
      refine aw_iload d_La_law_225 rfl ?_
      refine aw_iconst d_La_law_227 ⟨by decide, by decide⟩ ?_
      refine ax_iadd d_La_law_228 ⟨(by omega), (by omega)⟩ ?_
      refine ax_ialde (x := I 11 (i + 1)) d_La_law_229 (k_11 S) (by omega) (by rw [hl]; omega) (Eq.trans (h11 (i + 1)) (rfl)) ?_
      refine aw_aload_n d_La_law_230 rfl rfl ?_
      refine aw_iload d_La_law_231 rfl ?_
      refine aw_iconst d_La_law_233 ⟨by decide, by decide⟩ ?_
      refine ax_iadd d_La_law_234 ⟨(by omega), (by omega)⟩ ?_
      refine ax_ialde (x := I 11 (i + 2)) d_La_law_235 (k_11 S) (by omega) (by rw [hl]; omega) (Eq.trans (h11 (i + 2)) (rfl)) ?_
      refine ax_Vt (st := []) (as := [vi (I 11 (i + 1)), vi (I 11 (i + 2))]) (b := 175) d_La_law_236 cs_La_law_236 (k_175 S) (cT_Mo_end S (rel.rb1 er)) rfl rfl rfl (fun v_ h_ p_ => ?_) (fun x_ h_ p_ => ?_)
      · rcases p_ with ⟨p1, y, p2, p3, p4⟩ | ⟨p1, y, p2, p3, p4⟩
        · exact absurd ((congrArg (fun t => cEnd t (I 11 (i + 1)) (I 11 (i + 2))) (er.2.trans rel.2.2.2.2.1.symm)).symm.trans p1) q1
        · cases p3; subst p4
          obtain ⟨y, rfl⟩ := p2
          show AW l G M_law P 239 [(5, vi (cEnd (I 30 1) (I 11 (i + 1)) (I 11 (i + 2)))), (4, vi i), (3, vr 268), (2, vr 175), (1, vr 12), (0, vr 11)] [vi y] (sD (wN h (40 + ceA (cEnd (I 30 1) (I 11 (i + 1)) (I 11 (i + 2)))) 6) (a_up (zz h I) 175 4 (cEnd ((zz h I) 175 3) (I 11 (i + 1)) (I 11 (i + 2)))) (zz h L))
          refine aw_istore (lv' := [(6, vi y), (5, vi (cEnd (I 30 1) (I 11 (i + 1)) (I 11 (i + 2)))), (4, vi i), (3, vr 268), (2, vr 175), (1, vr 12), (0, vr 11)]) d_La_law_239 (by decide) rfl ?_
          refine aw_aload_n d_La_law_241 rfl rfl ?_
          refine ax_V (st := []) (as := []) (b := 175) (v := some (vi (cEnd ((zz h I) 175 3) (I 11 (i + 1)) (I 11 (i + 2))))) (h' := sD (wN h (40 + ceA (cEnd (I 30 1) (I 11 (i + 1)) (I 11 (i + 2)))) 6) (a_up (zz h I) 175 4 (cEnd ((zz h I) 175 3) (I 11 (i + 1)) (I 11 (i + 2)))) (zz h L)) d_La_law_242 cs_La_law_242 (k_175 S) (by have z := c_Mo_thrown (l := l) (G := G) (h := (wN h (40 + ceA (cEnd (I 30 1) (I 11 (i + 1)) (I 11 (i + 2)))) 6)) (I := a_up (zz h I) 175 4 (cEnd ((zz h I) 175 3) (I 11 (i + 1)) (I 11 (i + 2)))) (L := zz h L) S; rw [a_up_at] at z; exact z) rfl rfl rfl ?_
          show AW l G M_law P 245 [(6, vi y), (5, vi (cEnd (I 30 1) (I 11 (i + 1)) (I 11 (i + 2)))), (4, vi i), (3, vr 268), (2, vr 175), (1, vr 12), (0, vr 11)] [vi (cEnd ((zz h I) 175 3) (I 11 (i + 1)) (I 11 (i + 2)))] (sD (wN h (40 + ceA (cEnd (I 30 1) (I 11 (i + 1)) (I 11 (i + 2)))) 6) (a_up (zz h I) 175 4 (cEnd ((zz h I) 175 3) (I 11 (i + 1)) (I 11 (i + 2)))) (zz h L))
          refine ax_ti (x := cEnd (I 30 1) (I 11 (i + 1)) (I 11 (i + 2))) (congrArg (fun t => cEnd t (I 11 (i + 1)) (I 11 (i + 2))) (er.2.trans rel.2.2.2.2.1.symm)) ?_
          refine aw_iload d_La_law_245 rfl ?_
          refine aw_icmp_eq (tgt := 252) d_La_law_247 (by decide) (fun c_247 => ?_) (fun c_247 => False.elim (by omega))
          refine aw_iload d_La_law_252 rfl ?_
          refine aw_if_ne (tgt := 269) d_La_law_254 (by decide) (fun c_254 => ?_) (fun c_254 => False.elim (by omega))
          refine aw_goto (tgt := 885) d_La_law_269 (by decide) ?_
          refine aw_sub (lv' := [(4, vi i), (3, vr 268), (2, vr 175), (1, vr 12), (0, vr 11)]) (by simp) ?_
          exact hC _ (a_up (zz h I) 175 4 (cEnd ((zz h I) 175 3) (I 11 (i + 1)) (I 11 (i + 2)))) (zz h L) S (rel_len (rel.scr (fun a j y => (zz_ne S0 (by omega)).trans rfl) (zz_ne S0 (by decide)) (fun j => zz_ne S0 (by decide)) (fun j => zz_ne S0 (by decide))) (fun _ => rfl) (fun _ => rfl)) (fun j => (a_up_ne (Or.inl (by decide))).trans (h11 j)) hl (by show hX h + 1 ≤ hX h + 1; omega) (by show hU h + 6 ≤ hU h + 6; omega)
      · rcases p_ with ⟨p1, y, p2, p3, p4⟩ | ⟨p1, y, p2, p3, p4⟩
        · cases p3
        · cases p3
  · rcases q_ with ⟨q1, x, q2, q3, q4⟩ | ⟨q1, q3, q4⟩
    · cases q3
    · cases q3
set_option maxHeartbeats 2000000 in
set_option maxRecDepth 100000 in
theorem law_copy {l : Launch} {G : a_G} {P : a_R → Hp → Prop} {h : Hp} {I L : Nat → Int → Int} {i N : Int} (S : Shp h) (hfl : l.flags = flags0) (rel : Rel I L) (rm : hX h + 1 ≤ a_NX ∧ hU h + 6 ≤ a_US) (hl : hN h 11 = N) (hi : 0 ≤ i ∧ i + 6 ≤ N ∧ N ≤ 3072) (hC : ∀ (h' : Hp) (I' L' : Nat → Int → Int), Shp h' → Rel I' L' → (∀ j, I' 11 j = I 11 j) → hN h' 11 = N → hX h' ≤ hX h + 1 → hU h' ≤ hU h + 6 → AW l G M_law P 885 [(4, vi i), (3, vr 268), (2, vr 175), (1, vr 12), (0, vr 11)] [] (sD h' I' L')) : AW l G M_law P 272 [(4, vi i), (3, vr 268), (2, vr 175), (1, vr 12), (0, vr 11)] [] (sD h I L) := by
  refine aw_aload_n d_La_law_272 rfl rfl ?_
  refine aw_aload_n d_La_law_273 rfl rfl ?_
  refine aw_iload d_La_law_274 rfl ?_
  refine aw_iconst d_La_law_276 ⟨by decide, by decide⟩ ?_
  refine ax_iadd d_La_law_277 ⟨(by omega), (by omega)⟩ ?_
  refine ax_ialde (x := I 11 (i + 1)) d_La_law_278 (k_11 S) (by omega) (by rw [hl]; omega) (rfl) ?_
  refine aw_aload_n d_La_law_279 rfl rfl ?_
  refine aw_iload d_La_law_280 rfl ?_
  refine aw_iconst d_La_law_282 ⟨by decide, by decide⟩ ?_
  refine ax_iadd d_La_law_283 ⟨(by omega), (by omega)⟩ ?_
  refine ax_ialde (x := I 11 (i + 2)) d_La_law_284 (k_11 S) (by omega) (by rw [hl]; omega) (rfl) ?_
  refine aw_aload_n d_La_law_285 rfl rfl ?_
  refine ax_St (st := []) (as := [vr 12, vi (I 11 (i + 1)), vi (I 11 (i + 2)), vr 268]) d_La_law_286 cs_La_law_286 (c_La_copy S hfl rm rel.cb) rfl rfl rfl (fun v_ h_ q_ => ?_) (fun x_ h_ q_ => ?_)
  · rcases q_ with ⟨q1, x, q2, q3, q4⟩ | ⟨q1, q3, q4⟩
    · cases q3; subst q4
      have cc := cTwo_0 q1
      have er : Ref0 I (byBecome I (14 + 2 * (I 11 (i + 2)).toNat) (15 + 2 * (I 11 (i + 2)).toNat) (15 + 2 * (I 11 (i + 1)).toNat) (I (14 + 2 * (I 11 (i + 1)).toNat) 1)) := ⟨fun a j x y => (bb_ne (by omega) (by omega)), (bb_ne (by omega) (by omega))⟩
      have h11 : ∀ j, (byBecome I (14 + 2 * (I 11 (i + 2)).toNat) (15 + 2 * (I 11 (i + 2)).toNat) (15 + 2 * (I 11 (i + 1)).toNat) (I (14 + 2 * (I 11 (i + 1)).toNat) 1)) 11 j = I 11 j := fun j => (bb_ne (by omega) (by omega))
      show AW l G M_law P 289 [(4, vi i), (3, vr 268), (2, vr 175), (1, vr 12), (0, vr 11)] [vi 0] (sD h (byBecome I (14 + 2 * (I 11 (i + 2)).toNat) (15 + 2 * (I 11 (i + 2)).toNat) (15 + 2 * (I 11 (i + 1)).toNat) (I (14 + 2 * (I 11 (i + 1)).toNat) 1)) (a_up L 268 0 x))
      refine aw_istore (lv' := [(5, vi 0), (4, vi i), (3, vr 268), (2, vr 175), (1, vr 12), (0, vr 11)]) d_La_law_289 (by decide) rfl ?_
      refine aw_aload_n d_La_law_291 rfl rfl ?_
      refine aw_aload_n d_La_law_292 rfl rfl ?_
      refine aw_iload d_La_law_293 rfl ?_
      refine aw_iconst d_La_law_295 ⟨by decide, by decide⟩ ?_
      refine ax_iadd d_La_law_296 ⟨(by omega), (by omega)⟩ ?_
      refine ax_ialde (x := I 11 (i + 1)) d_La_law_297 (k_11 S) (by omega) (by rw [hl]; omega) (Eq.trans (h11 (i + 1)) (rfl)) ?_
      refine aw_aload_n d_La_law_298 rfl rfl ?_
      refine aw_iload d_La_law_299 rfl ?_
      refine aw_iconst d_La_law_301 ⟨by decide, by decide⟩ ?_
      refine ax_iadd d_La_law_302 ⟨(by omega), (by omega)⟩ ?_
      refine ax_ialde (x := I 11 (i + 2)) d_La_law_303 (k_11 S) (by omega) (by rw [hl]; omega) (Eq.trans (h11 (i + 2)) (rfl)) ?_
      refine ax_Vt (st := []) (as := [vi (I 11 (i + 1)), vi (I 11 (i + 2))]) (b := 175) d_La_law_304 cs_La_law_304 (k_175 S) (cT_Mo_copy S (rel.rb1 er)) rfl rfl rfl (fun v_ h_ p_ => ?_) (fun x_ h_ p_ => ?_)
      · rcases p_ with ⟨p1, y, p2, p3, p4⟩ | ⟨p1, y, p2, p3, p4⟩
        · cases p3; subst p4
          subst p2
          have c0 : cTwo (I 11 (i + 1)) (I 11 (i + 2)) = 0 := q1
          show AW l G M_law P 307 [(5, vi 0), (4, vi i), (3, vr 268), (2, vr 175), (1, vr 12), (0, vr 11)] [vi ((byBecome I (14 + 2 * (I 11 (i + 2)).toNat) (15 + 2 * (I 11 (i + 2)).toNat) (15 + 2 * (I 11 (i + 1)).toNat) (I (14 + 2 * (I 11 (i + 1)).toNat) 1)) 186 (I 11 (i + 1)))] (sD h (a_up (rowTo (a_up (byBecome I (14 + 2 * (I 11 (i + 2)).toNat) (15 + 2 * (I 11 (i + 2)).toNat) (15 + 2 * (I 11 (i + 1)).toNat) (I (14 + 2 * (I 11 (i + 1)).toNat) 1)) 175 4 0) (178 + (I 11 (i + 2)).toNat) ((byBecome I (14 + 2 * (I 11 (i + 2)).toNat) (15 + 2 * (I 11 (i + 2)).toNat) (15 + 2 * (I 11 (i + 1)).toNat) (I (14 + 2 * (I 11 (i + 1)).toNat) 1)) 186 (I 11 (i + 1))) (fun j => a_w8 ((byBecome I (14 + 2 * (I 11 (i + 2)).toNat) (15 + 2 * (I 11 (i + 2)).toNat) (15 + 2 * (I 11 (i + 1)).toNat) (I (14 + 2 * (I 11 (i + 1)).toNat) 1)) (178 + (I 11 (i + 1)).toNat) j))) 186 (I 11 (i + 2)) ((byBecome I (14 + 2 * (I 11 (i + 2)).toNat) (15 + 2 * (I 11 (i + 2)).toNat) (15 + 2 * (I 11 (i + 1)).toNat) (I (14 + 2 * (I 11 (i + 1)).toNat) 1)) 186 (I 11 (i + 1)))) (a_up L 268 0 x))
          refine aw_istore (lv' := [(6, vi ((byBecome I (14 + 2 * (I 11 (i + 2)).toNat) (15 + 2 * (I 11 (i + 2)).toNat) (15 + 2 * (I 11 (i + 1)).toNat) (I (14 + 2 * (I 11 (i + 1)).toNat) 1)) 186 (I 11 (i + 1)))), (5, vi 0), (4, vi i), (3, vr 268), (2, vr 175), (1, vr 12), (0, vr 11)]) d_La_law_307 (by decide) rfl ?_
          refine aw_aload_n d_La_law_309 rfl rfl ?_
          refine ax_V (st := []) (as := []) (b := 175) (v := some (vi 0)) (h' := sD h (a_up (rowTo (a_up (byBecome I (14 + 2 * (I 11 (i + 2)).toNat) (15 + 2 * (I 11 (i + 2)).toNat) (15 + 2 * (I 11 (i + 1)).toNat) (I (14 + 2 * (I 11 (i + 1)).toNat) 1)) 175 4 0) (178 + (I 11 (i + 2)).toNat) ((byBecome I (14 + 2 * (I 11 (i + 2)).toNat) (15 + 2 * (I 11 (i + 2)).toNat) (15 + 2 * (I 11 (i + 1)).toNat) (I (14 + 2 * (I 11 (i + 1)).toNat) 1)) 186 (I 11 (i + 1))) (fun j => a_w8 ((byBecome I (14 + 2 * (I 11 (i + 2)).toNat) (15 + 2 * (I 11 (i + 2)).toNat) (15 + 2 * (I 11 (i + 1)).toNat) (I (14 + 2 * (I 11 (i + 1)).toNat) 1)) (178 + (I 11 (i + 1)).toNat) j))) 186 (I 11 (i + 2)) ((byBecome I (14 + 2 * (I 11 (i + 2)).toNat) (15 + 2 * (I 11 (i + 2)).toNat) (15 + 2 * (I 11 (i + 1)).toNat) (I (14 + 2 * (I 11 (i + 1)).toNat) 1)) 186 (I 11 (i + 1)))) (a_up L 268 0 x)) d_La_law_310 cs_La_law_310 (k_175 S) (by have z := c_Mo_thrown (l := l) (G := G) (h := h) (I := a_up (rowTo (a_up (byBecome I (14 + 2 * (I 11 (i + 2)).toNat) (15 + 2 * (I 11 (i + 2)).toNat) (15 + 2 * (I 11 (i + 1)).toNat) (I (14 + 2 * (I 11 (i + 1)).toNat) 1)) 175 4 0) (178 + (I 11 (i + 2)).toNat) ((byBecome I (14 + 2 * (I 11 (i + 2)).toNat) (15 + 2 * (I 11 (i + 2)).toNat) (15 + 2 * (I 11 (i + 1)).toNat) (I (14 + 2 * (I 11 (i + 1)).toNat) 1)) 186 (I 11 (i + 1))) (fun j => a_w8 ((byBecome I (14 + 2 * (I 11 (i + 2)).toNat) (15 + 2 * (I 11 (i + 2)).toNat) (15 + 2 * (I 11 (i + 1)).toNat) (I (14 + 2 * (I 11 (i + 1)).toNat) 1)) (178 + (I 11 (i + 1)).toNat) j))) 186 (I 11 (i + 2)) ((byBecome I (14 + 2 * (I 11 (i + 2)).toNat) (15 + 2 * (I 11 (i + 2)).toNat) (15 + 2 * (I 11 (i + 1)).toNat) (I (14 + 2 * (I 11 (i + 1)).toNat) 1)) 186 (I 11 (i + 1)))) (L := a_up L 268 0 x) S; rw [a_up_ne (Or.inl (by decide)), rowTo_ne (by omega), a_up_at] at z; exact z) rfl rfl rfl ?_
          show AW l G M_law P 313 [(6, vi ((byBecome I (14 + 2 * (I 11 (i + 2)).toNat) (15 + 2 * (I 11 (i + 2)).toNat) (15 + 2 * (I 11 (i + 1)).toNat) (I (14 + 2 * (I 11 (i + 1)).toNat) 1)) 186 (I 11 (i + 1)))), (5, vi 0), (4, vi i), (3, vr 268), (2, vr 175), (1, vr 12), (0, vr 11)] [vi 0] (sD h (a_up (rowTo (a_up (byBecome I (14 + 2 * (I 11 (i + 2)).toNat) (15 + 2 * (I 11 (i + 2)).toNat) (15 + 2 * (I 11 (i + 1)).toNat) (I (14 + 2 * (I 11 (i + 1)).toNat) 1)) 175 4 0) (178 + (I 11 (i + 2)).toNat) ((byBecome I (14 + 2 * (I 11 (i + 2)).toNat) (15 + 2 * (I 11 (i + 2)).toNat) (15 + 2 * (I 11 (i + 1)).toNat) (I (14 + 2 * (I 11 (i + 1)).toNat) 1)) 186 (I 11 (i + 1))) (fun j => a_w8 ((byBecome I (14 + 2 * (I 11 (i + 2)).toNat) (15 + 2 * (I 11 (i + 2)).toNat) (15 + 2 * (I 11 (i + 1)).toNat) (I (14 + 2 * (I 11 (i + 1)).toNat) 1)) (178 + (I 11 (i + 1)).toNat) j))) 186 (I 11 (i + 2)) ((byBecome I (14 + 2 * (I 11 (i + 2)).toNat) (15 + 2 * (I 11 (i + 2)).toNat) (15 + 2 * (I 11 (i + 1)).toNat) (I (14 + 2 * (I 11 (i + 1)).toNat) 1)) 186 (I 11 (i + 1)))) (a_up L 268 0 x))
          refine aw_iload d_La_law_313 rfl ?_
          refine aw_icmp_eq (tgt := 320) d_La_law_315 (by decide) (fun c_315 => ?_) (fun c_315 => False.elim (by omega))
          refine aw_iload d_La_law_320 rfl ?_
          refine aw_if_ne (tgt := 337) d_La_law_322 (by decide) (fun c_322 => False.elim (by omega)) (fun c_322 => ?_)
          refine aw_aload_n d_La_law_325 rfl rfl ?_
          refine aw_iconst d_La_law_326 ⟨by decide, by decide⟩ ?_
          refine ax_lalde (x := x) d_La_law_327 (k_268 S) (by omega) (by rw [n_268 S]; omega) (a_up_at) ?_
          refine aw_iload d_La_law_328 rfl ?_
          refine aw_i2l d_La_law_330 ?_
          refine aw_lcmp d_La_law_331 ?_
          refine aw_if_eq (tgt := 337) d_La_law_332 (by decide) (fun c_332 => ?_) (fun c_332 => False.elim (c_332 (lc0 (q2.trans ((cnt rel cc.1).trans (er.1 186 _ (by omega) (by omega)).symm)))))
          refine aw_goto (tgt := 885) d_La_law_337 (by decide) ?_
          refine aw_sub (lv' := [(4, vi i), (3, vr 268), (2, vr 175), (1, vr 12), (0, vr 11)]) (by simp) ?_
          exact hC h (a_up (rowTo (a_up (byBecome I (14 + 2 * (I 11 (i + 2)).toNat) (15 + 2 * (I 11 (i + 2)).toNat) (15 + 2 * (I 11 (i + 1)).toNat) (I (14 + 2 * (I 11 (i + 1)).toNat) 1)) 175 4 0) (178 + (I 11 (i + 2)).toNat) ((byBecome I (14 + 2 * (I 11 (i + 2)).toNat) (15 + 2 * (I 11 (i + 2)).toNat) (15 + 2 * (I 11 (i + 1)).toNat) (I (14 + 2 * (I 11 (i + 1)).toNat) 1)) 186 (I 11 (i + 1))) (fun j => a_w8 ((byBecome I (14 + 2 * (I 11 (i + 2)).toNat) (15 + 2 * (I 11 (i + 2)).toNat) (15 + 2 * (I 11 (i + 1)).toNat) (I (14 + 2 * (I 11 (i + 1)).toNat) 1)) (178 + (I 11 (i + 1)).toNat) j))) 186 (I 11 (i + 2)) ((byBecome I (14 + 2 * (I 11 (i + 2)).toNat) (15 + 2 * (I 11 (i + 2)).toNat) (15 + 2 * (I 11 (i + 1)).toNat) (I (14 + 2 * (I 11 (i + 1)).toNat) 1)) 186 (I 11 (i + 1)))) (a_up L 268 0 x) S (rel_copy rel cc.1 cc.2 (fun j => a_up_ne (Or.inl (by decide))) (fun j => a_up_ne (Or.inl (by decide))) _ rfl) (fun j => by rw [a_up_ne (Or.inl (by decide)), rowTo_ne (by omega), a_up_ne (Or.inl (by decide))]; exact h11 j) hl (by omega) (by omega)
        · exact absurd (((rfl : cTwo (I 11 (i + 1)) (I 11 (i + 2)) = _)).trans q1) p1
      · rcases p_ with ⟨p1, y, p2, p3, p4⟩ | ⟨p1, y, p2, p3, p4⟩
        · cases p3
        · cases p3
    · cases q3; subst q4
      refine ax_hp (h' := sD (wN h (40 + ceA (cTwo (I 11 (i + 1)) (I 11 (i + 2)))) 6) (zz h I) (zz h L)) rfl ?_
      have er : Ref0 I (zz h I) := Ref0.zz S ⟨fun _ _ _ _ => rfl, rfl⟩
      have h11 : ∀ j, (zz h I) 11 j = I 11 j := fun j => zz_ne S (by decide)
      have S0 := S
      have S := Shp_wN (q := 40 + ceA (cTwo (I 11 (i + 1)) (I 11 (i + 2)))) (n := 6) S0
      have hl0 := hl
      have hl : hN (wN h (40 + ceA (cTwo (I 11 (i + 1)) (I 11 (i + 2)))) 6) 11 = N := (wN_11 S0).trans hl0
      show AW l G M_law P 289 [(4, vi i), (3, vr 268), (2, vr 175), (1, vr 12), (0, vr 11)] [vi (cTwo (I 11 (i + 1)) (I 11 (i + 2)))] (sD (wN h (40 + ceA (cTwo (I 11 (i + 1)) (I 11 (i + 2)))) 6) (zz h I) (zz h L))
      refine aw_istore (lv' := [(5, vi (cTwo (I 11 (i + 1)) (I 11 (i + 2)))), (4, vi i), (3, vr 268), (2, vr 175), (1, vr 12), (0, vr 11)]) d_La_law_289 (by decide) rfl ?_
      refine aw_aload_n d_La_law_291 rfl rfl ?_
      refine aw_aload_n d_La_law_292 rfl rfl ?_
      refine aw_iload d_La_law_293 rfl ?_
      refine aw_iconst d_La_law_295 ⟨by decide, by decide⟩ ?_
      refine ax_iadd d_La_law_296 ⟨(by omega), (by omega)⟩ ?_
      refine ax_ialde (x := I 11 (i + 1)) d_La_law_297 (k_11 S) (by omega) (by rw [hl]; omega) (Eq.trans (h11 (i + 1)) (rfl)) ?_
      refine aw_aload_n d_La_law_298 rfl rfl ?_
      refine aw_iload d_La_law_299 rfl ?_
      refine aw_iconst d_La_law_301 ⟨by decide, by decide⟩ ?_
      refine ax_iadd d_La_law_302 ⟨(by omega), (by omega)⟩ ?_
      refine ax_ialde (x := I 11 (i + 2)) d_La_law_303 (k_11 S) (by omega) (by rw [hl]; omega) (Eq.trans (h11 (i + 2)) (rfl)) ?_
      refine ax_Vt (st := []) (as := [vi (I 11 (i + 1)), vi (I 11 (i + 2))]) (b := 175) d_La_law_304 cs_La_law_304 (k_175 S) (cT_Mo_copy S (rel.rb1 er)) rfl rfl rfl (fun v_ h_ p_ => ?_) (fun x_ h_ p_ => ?_)
      · rcases p_ with ⟨p1, y, p2, p3, p4⟩ | ⟨p1, y, p2, p3, p4⟩
        · exact absurd (((rfl : cTwo (I 11 (i + 1)) (I 11 (i + 2)) = _)).symm.trans p1) q1
        · cases p3; subst p4
          obtain ⟨y, rfl⟩ := p2
          show AW l G M_law P 307 [(5, vi (cTwo (I 11 (i + 1)) (I 11 (i + 2)))), (4, vi i), (3, vr 268), (2, vr 175), (1, vr 12), (0, vr 11)] [vi y] (sD (wN h (40 + ceA (cTwo (I 11 (i + 1)) (I 11 (i + 2)))) 6) (a_up (zz h I) 175 4 (cTwo (I 11 (i + 1)) (I 11 (i + 2)))) (zz h L))
          refine aw_istore (lv' := [(6, vi y), (5, vi (cTwo (I 11 (i + 1)) (I 11 (i + 2)))), (4, vi i), (3, vr 268), (2, vr 175), (1, vr 12), (0, vr 11)]) d_La_law_307 (by decide) rfl ?_
          refine aw_aload_n d_La_law_309 rfl rfl ?_
          refine ax_V (st := []) (as := []) (b := 175) (v := some (vi (cTwo (I 11 (i + 1)) (I 11 (i + 2))))) (h' := sD (wN h (40 + ceA (cTwo (I 11 (i + 1)) (I 11 (i + 2)))) 6) (a_up (zz h I) 175 4 (cTwo (I 11 (i + 1)) (I 11 (i + 2)))) (zz h L)) d_La_law_310 cs_La_law_310 (k_175 S) (by have z := c_Mo_thrown (l := l) (G := G) (h := (wN h (40 + ceA (cTwo (I 11 (i + 1)) (I 11 (i + 2)))) 6)) (I := a_up (zz h I) 175 4 (cTwo (I 11 (i + 1)) (I 11 (i + 2)))) (L := zz h L) S; rw [a_up_at] at z; exact z) rfl rfl rfl ?_
          show AW l G M_law P 313 [(6, vi y), (5, vi (cTwo (I 11 (i + 1)) (I 11 (i + 2)))), (4, vi i), (3, vr 268), (2, vr 175), (1, vr 12), (0, vr 11)] [vi (cTwo (I 11 (i + 1)) (I 11 (i + 2)))] (sD (wN h (40 + ceA (cTwo (I 11 (i + 1)) (I 11 (i + 2)))) 6) (a_up (zz h I) 175 4 (cTwo (I 11 (i + 1)) (I 11 (i + 2)))) (zz h L))
          refine ax_ti (x := cTwo (I 11 (i + 1)) (I 11 (i + 2))) ((rfl : cTwo (I 11 (i + 1)) (I 11 (i + 2)) = _)) ?_
          refine aw_iload d_La_law_313 rfl ?_
          refine aw_icmp_eq (tgt := 320) d_La_law_315 (by decide) (fun c_315 => ?_) (fun c_315 => False.elim (by omega))
          refine aw_iload d_La_law_320 rfl ?_
          refine aw_if_ne (tgt := 337) d_La_law_322 (by decide) (fun c_322 => ?_) (fun c_322 => False.elim (by omega))
          refine aw_goto (tgt := 885) d_La_law_337 (by decide) ?_
          refine aw_sub (lv' := [(4, vi i), (3, vr 268), (2, vr 175), (1, vr 12), (0, vr 11)]) (by simp) ?_
          exact hC _ (a_up (zz h I) 175 4 (cTwo (I 11 (i + 1)) (I 11 (i + 2)))) (zz h L) S (rel_len (rel.scr (fun a j y => (zz_ne S0 (by omega)).trans rfl) (zz_ne S0 (by decide)) (fun j => zz_ne S0 (by decide)) (fun j => zz_ne S0 (by decide))) (fun _ => rfl) (fun _ => rfl)) (fun j => (a_up_ne (Or.inl (by decide))).trans (h11 j)) hl (by show hX h + 1 ≤ hX h + 1; omega) (by show hU h + 6 ≤ hU h + 6; omega)
      · rcases p_ with ⟨p1, y, p2, p3, p4⟩ | ⟨p1, y, p2, p3, p4⟩
        · cases p3
        · cases p3
  · rcases q_ with ⟨q1, x, q2, q3, q4⟩ | ⟨q1, q3, q4⟩
    · cases q3
    · cases q3
set_option maxHeartbeats 2000000 in
set_option maxRecDepth 100000 in
theorem law_resize {l : Launch} {G : a_G} {P : a_R → Hp → Prop} {h : Hp} {I L : Nat → Int → Int} {i N : Int} (S : Shp h) (hfl : l.flags = flags0) (rel : Rel I L) (rm : hX h + 1 ≤ a_NX ∧ hU h + 6 ≤ a_US) (hl : hN h 11 = N) (hi : 0 ≤ i ∧ i + 6 ≤ N ∧ N ≤ 3072) (hC : ∀ (h' : Hp) (I' L' : Nat → Int → Int), Shp h' → Rel I' L' → (∀ j, I' 11 j = I 11 j) → hN h' 11 = N → hX h' ≤ hX h + 1 → hU h' ≤ hU h + 6 → AW l G M_law P 885 [(4, vi i), (3, vr 268), (2, vr 175), (1, vr 12), (0, vr 11)] [] (sD h' I' L')) : AW l G M_law P 340 [(4, vi i), (3, vr 268), (2, vr 175), (1, vr 12), (0, vr 11)] [] (sD h I L) := by
  refine aw_aload_n d_La_law_340 rfl rfl ?_
  refine aw_aload_n d_La_law_341 rfl rfl ?_
  refine aw_iload d_La_law_342 rfl ?_
  refine aw_iconst d_La_law_344 ⟨by decide, by decide⟩ ?_
  refine ax_iadd d_La_law_345 ⟨(by omega), (by omega)⟩ ?_
  refine ax_ialde (x := I 11 (i + 1)) d_La_law_346 (k_11 S) (by omega) (by rw [hl]; omega) (rfl) ?_
  refine aw_aload_n d_La_law_347 rfl rfl ?_
  refine aw_iload d_La_law_348 rfl ?_
  refine aw_iconst d_La_law_350 ⟨by decide, by decide⟩ ?_
  refine ax_iadd d_La_law_351 ⟨(by omega), (by omega)⟩ ?_
  refine ax_ialde (x := I 11 (i + 2)) d_La_law_352 (k_11 S) (by omega) (by rw [hl]; omega) (rfl) ?_
  refine aw_aload_n d_La_law_353 rfl rfl ?_
  refine ax_St (st := []) (as := [vr 12, vi (I 11 (i + 1)), vi (I 11 (i + 2)), vr 268]) d_La_law_354 cs_La_law_354 (c_La_resize S hfl rm rel.cb) rfl rfl rfl (fun v_ h_ q_ => ?_) (fun x_ h_ q_ => ?_)
  · rcases q_ with ⟨q1, x, q2, q3, q4⟩ | ⟨q1, q3, q4⟩
    · cases q3; subst q4
      have cc := cResize_0 q1
      have er : Ref0 I (byStretch I (14 + 2 * (I 11 (i + 1)).toNat) (15 + 2 * (I 11 (i + 1)).toNat) (I 11 (i + 2))) := ⟨fun a j x y => (bs_ne (by omega) (by omega)), (bs_ne (by omega) (by omega))⟩
      have h11 : ∀ j, (byStretch I (14 + 2 * (I 11 (i + 1)).toNat) (15 + 2 * (I 11 (i + 1)).toNat) (I 11 (i + 2))) 11 j = I 11 j := fun j => (bs_ne (by omega) (by omega))
      show AW l G M_law P 357 [(4, vi i), (3, vr 268), (2, vr 175), (1, vr 12), (0, vr 11)] [vi 0] (sD h (byStretch I (14 + 2 * (I 11 (i + 1)).toNat) (15 + 2 * (I 11 (i + 1)).toNat) (I 11 (i + 2))) (a_up L 268 0 x))
      refine aw_istore (lv' := [(5, vi 0), (4, vi i), (3, vr 268), (2, vr 175), (1, vr 12), (0, vr 11)]) d_La_law_357 (by decide) rfl ?_
      refine aw_aload_n d_La_law_359 rfl rfl ?_
      refine aw_aload_n d_La_law_360 rfl rfl ?_
      refine aw_iload d_La_law_361 rfl ?_
      refine aw_iconst d_La_law_363 ⟨by decide, by decide⟩ ?_
      refine ax_iadd d_La_law_364 ⟨(by omega), (by omega)⟩ ?_
      refine ax_ialde (x := I 11 (i + 1)) d_La_law_365 (k_11 S) (by omega) (by rw [hl]; omega) (Eq.trans (h11 (i + 1)) (rfl)) ?_
      refine aw_aload_n d_La_law_366 rfl rfl ?_
      refine aw_iload d_La_law_367 rfl ?_
      refine aw_iconst d_La_law_369 ⟨by decide, by decide⟩ ?_
      refine ax_iadd d_La_law_370 ⟨(by omega), (by omega)⟩ ?_
      refine ax_ialde (x := I 11 (i + 2)) d_La_law_371 (k_11 S) (by omega) (by rw [hl]; omega) (Eq.trans (h11 (i + 2)) (rfl)) ?_
      refine ax_Vt (st := []) (as := [vi (I 11 (i + 1)), vi (I 11 (i + 2))]) (b := 175) d_La_law_372 cs_La_law_372 (k_175 S) (cT_Mo_resize S (rel.rb1 er)) rfl rfl rfl (fun v_ h_ p_ => ?_) (fun x_ h_ p_ => ?_)
      · rcases p_ with ⟨p1, y, p2, p3, p4⟩ | ⟨p1, y, p2, p3, p4⟩
        · cases p3; subst p4
          subst p2
          have c0 : cResize (I 11 (i + 1)) (I 11 (i + 2)) = 0 := q1
          show AW l G M_law P 375 [(5, vi 0), (4, vi i), (3, vr 268), (2, vr 175), (1, vr 12), (0, vr 11)] [vi ((byStretch I (14 + 2 * (I 11 (i + 1)).toNat) (15 + 2 * (I 11 (i + 1)).toNat) (I 11 (i + 2))) 186 (I 11 (i + 1)))] (sD h (a_up (byZero (a_up (byStretch I (14 + 2 * (I 11 (i + 1)).toNat) (15 + 2 * (I 11 (i + 1)).toNat) (I 11 (i + 2))) 175 4 0) (178 + (I 11 (i + 1)).toNat) ((byStretch I (14 + 2 * (I 11 (i + 1)).toNat) (15 + 2 * (I 11 (i + 1)).toNat) (I 11 (i + 2))) 186 (I 11 (i + 1))) (I 11 (i + 2))) 186 (I 11 (i + 1)) (I 11 (i + 2))) (a_up L 268 0 x))
          refine aw_istore (lv' := [(6, vi ((byStretch I (14 + 2 * (I 11 (i + 1)).toNat) (15 + 2 * (I 11 (i + 1)).toNat) (I 11 (i + 2))) 186 (I 11 (i + 1)))), (5, vi 0), (4, vi i), (3, vr 268), (2, vr 175), (1, vr 12), (0, vr 11)]) d_La_law_375 (by decide) rfl ?_
          refine aw_aload_n d_La_law_377 rfl rfl ?_
          refine ax_V (st := []) (as := []) (b := 175) (v := some (vi 0)) (h' := sD h (a_up (byZero (a_up (byStretch I (14 + 2 * (I 11 (i + 1)).toNat) (15 + 2 * (I 11 (i + 1)).toNat) (I 11 (i + 2))) 175 4 0) (178 + (I 11 (i + 1)).toNat) ((byStretch I (14 + 2 * (I 11 (i + 1)).toNat) (15 + 2 * (I 11 (i + 1)).toNat) (I 11 (i + 2))) 186 (I 11 (i + 1))) (I 11 (i + 2))) 186 (I 11 (i + 1)) (I 11 (i + 2))) (a_up L 268 0 x)) d_La_law_378 cs_La_law_378 (k_175 S) (by have z := c_Mo_thrown (l := l) (G := G) (h := h) (I := a_up (byZero (a_up (byStretch I (14 + 2 * (I 11 (i + 1)).toNat) (15 + 2 * (I 11 (i + 1)).toNat) (I 11 (i + 2))) 175 4 0) (178 + (I 11 (i + 1)).toNat) ((byStretch I (14 + 2 * (I 11 (i + 1)).toNat) (15 + 2 * (I 11 (i + 1)).toNat) (I 11 (i + 2))) 186 (I 11 (i + 1))) (I 11 (i + 2))) 186 (I 11 (i + 1)) (I 11 (i + 2))) (L := a_up L 268 0 x) S; rw [a_up_ne (Or.inl (by decide)), byZero_ne (by omega), a_up_at] at z; exact z) rfl rfl rfl ?_
          show AW l G M_law P 381 [(6, vi ((byStretch I (14 + 2 * (I 11 (i + 1)).toNat) (15 + 2 * (I 11 (i + 1)).toNat) (I 11 (i + 2))) 186 (I 11 (i + 1)))), (5, vi 0), (4, vi i), (3, vr 268), (2, vr 175), (1, vr 12), (0, vr 11)] [vi 0] (sD h (a_up (byZero (a_up (byStretch I (14 + 2 * (I 11 (i + 1)).toNat) (15 + 2 * (I 11 (i + 1)).toNat) (I 11 (i + 2))) 175 4 0) (178 + (I 11 (i + 1)).toNat) ((byStretch I (14 + 2 * (I 11 (i + 1)).toNat) (15 + 2 * (I 11 (i + 1)).toNat) (I 11 (i + 2))) 186 (I 11 (i + 1))) (I 11 (i + 2))) 186 (I 11 (i + 1)) (I 11 (i + 2))) (a_up L 268 0 x))
          refine aw_iload d_La_law_381 rfl ?_
          refine aw_icmp_eq (tgt := 388) d_La_law_383 (by decide) (fun c_383 => ?_) (fun c_383 => False.elim (by omega))
          refine aw_iload d_La_law_388 rfl ?_
          refine aw_if_ne (tgt := 405) d_La_law_390 (by decide) (fun c_390 => False.elim (by omega)) (fun c_390 => ?_)
          refine aw_aload_n d_La_law_393 rfl rfl ?_
          refine aw_iconst d_La_law_394 ⟨by decide, by decide⟩ ?_
          refine ax_lalde (x := x) d_La_law_395 (k_268 S) (by omega) (by rw [n_268 S]; omega) (a_up_at) ?_
          refine aw_iload d_La_law_396 rfl ?_
          refine aw_i2l d_La_law_398 ?_
          refine aw_lcmp d_La_law_399 ?_
          refine aw_if_eq (tgt := 405) d_La_law_400 (by decide) (fun c_400 => ?_) (fun c_400 => False.elim (c_400 (lc0 (q2.trans ((cnt rel cc.1).trans (er.1 186 _ (by omega) (by omega)).symm)))))
          refine aw_goto (tgt := 885) d_La_law_405 (by decide) ?_
          refine aw_sub (lv' := [(4, vi i), (3, vr 268), (2, vr 175), (1, vr 12), (0, vr 11)]) (by simp) ?_
          exact hC h (a_up (byZero (a_up (byStretch I (14 + 2 * (I 11 (i + 1)).toNat) (15 + 2 * (I 11 (i + 1)).toNat) (I 11 (i + 2))) 175 4 0) (178 + (I 11 (i + 1)).toNat) ((byStretch I (14 + 2 * (I 11 (i + 1)).toNat) (15 + 2 * (I 11 (i + 1)).toNat) (I 11 (i + 2))) 186 (I 11 (i + 1))) (I 11 (i + 2))) 186 (I 11 (i + 1)) (I 11 (i + 2))) (a_up L 268 0 x) S (rel_resize rel cc.1 cc.2 (fun j => a_up_ne (Or.inl (by decide))) (fun j => a_up_ne (Or.inl (by decide))) _ rfl) (fun j => by rw [a_up_ne (Or.inl (by decide)), byZero_ne (by omega), a_up_ne (Or.inl (by decide))]; exact h11 j) hl (by omega) (by omega)
        · exact absurd (((rfl : cResize (I 11 (i + 1)) (I 11 (i + 2)) = _)).trans q1) p1
      · rcases p_ with ⟨p1, y, p2, p3, p4⟩ | ⟨p1, y, p2, p3, p4⟩
        · cases p3
        · cases p3
    · cases q3; subst q4
      refine ax_hp (h' := sD (wN h (40 + ceA (cResize (I 11 (i + 1)) (I 11 (i + 2)))) 6) (zz h I) (zz h L)) rfl ?_
      have er : Ref0 I (zz h I) := Ref0.zz S ⟨fun _ _ _ _ => rfl, rfl⟩
      have h11 : ∀ j, (zz h I) 11 j = I 11 j := fun j => zz_ne S (by decide)
      have S0 := S
      have S := Shp_wN (q := 40 + ceA (cResize (I 11 (i + 1)) (I 11 (i + 2)))) (n := 6) S0
      have hl0 := hl
      have hl : hN (wN h (40 + ceA (cResize (I 11 (i + 1)) (I 11 (i + 2)))) 6) 11 = N := (wN_11 S0).trans hl0
      show AW l G M_law P 357 [(4, vi i), (3, vr 268), (2, vr 175), (1, vr 12), (0, vr 11)] [vi (cResize (I 11 (i + 1)) (I 11 (i + 2)))] (sD (wN h (40 + ceA (cResize (I 11 (i + 1)) (I 11 (i + 2)))) 6) (zz h I) (zz h L))
      refine aw_istore (lv' := [(5, vi (cResize (I 11 (i + 1)) (I 11 (i + 2)))), (4, vi i), (3, vr 268), (2, vr 175), (1, vr 12), (0, vr 11)]) d_La_law_357 (by decide) rfl ?_
      refine aw_aload_n d_La_law_359 rfl rfl ?_
      refine aw_aload_n d_La_law_360 rfl rfl ?_
      refine aw_iload d_La_law_361 rfl ?_
      refine aw_iconst d_La_law_363 ⟨by decide, by decide⟩ ?_
      refine ax_iadd d_La_law_364 ⟨(by omega), (by omega)⟩ ?_
      refine ax_ialde (x := I 11 (i + 1)) d_La_law_365 (k_11 S) (by omega) (by rw [hl]; omega) (Eq.trans (h11 (i + 1)) (rfl)) ?_
      refine aw_aload_n d_La_law_366 rfl rfl ?_
      refine aw_iload d_La_law_367 rfl ?_
      refine aw_iconst d_La_law_369 ⟨by decide, by decide⟩ ?_
      refine ax_iadd d_La_law_370 ⟨(by omega), (by omega)⟩ ?_
      refine ax_ialde (x := I 11 (i + 2)) d_La_law_371 (k_11 S) (by omega) (by rw [hl]; omega) (Eq.trans (h11 (i + 2)) (rfl)) ?_
      refine ax_Vt (st := []) (as := [vi (I 11 (i + 1)), vi (I 11 (i + 2))]) (b := 175) d_La_law_372 cs_La_law_372 (k_175 S) (cT_Mo_resize S (rel.rb1 er)) rfl rfl rfl (fun v_ h_ p_ => ?_) (fun x_ h_ p_ => ?_)
      · rcases p_ with ⟨p1, y, p2, p3, p4⟩ | ⟨p1, y, p2, p3, p4⟩
        · exact absurd (((rfl : cResize (I 11 (i + 1)) (I 11 (i + 2)) = _)).symm.trans p1) q1
        · cases p3; subst p4
          obtain ⟨y, rfl⟩ := p2
          show AW l G M_law P 375 [(5, vi (cResize (I 11 (i + 1)) (I 11 (i + 2)))), (4, vi i), (3, vr 268), (2, vr 175), (1, vr 12), (0, vr 11)] [vi y] (sD (wN h (40 + ceA (cResize (I 11 (i + 1)) (I 11 (i + 2)))) 6) (a_up (zz h I) 175 4 (cResize (I 11 (i + 1)) (I 11 (i + 2)))) (zz h L))
          refine aw_istore (lv' := [(6, vi y), (5, vi (cResize (I 11 (i + 1)) (I 11 (i + 2)))), (4, vi i), (3, vr 268), (2, vr 175), (1, vr 12), (0, vr 11)]) d_La_law_375 (by decide) rfl ?_
          refine aw_aload_n d_La_law_377 rfl rfl ?_
          refine ax_V (st := []) (as := []) (b := 175) (v := some (vi (cResize (I 11 (i + 1)) (I 11 (i + 2))))) (h' := sD (wN h (40 + ceA (cResize (I 11 (i + 1)) (I 11 (i + 2)))) 6) (a_up (zz h I) 175 4 (cResize (I 11 (i + 1)) (I 11 (i + 2)))) (zz h L)) d_La_law_378 cs_La_law_378 (k_175 S) (by have z := c_Mo_thrown (l := l) (G := G) (h := (wN h (40 + ceA (cResize (I 11 (i + 1)) (I 11 (i + 2)))) 6)) (I := a_up (zz h I) 175 4 (cResize (I 11 (i + 1)) (I 11 (i + 2)))) (L := zz h L) S; rw [a_up_at] at z; exact z) rfl rfl rfl ?_
          show AW l G M_law P 381 [(6, vi y), (5, vi (cResize (I 11 (i + 1)) (I 11 (i + 2)))), (4, vi i), (3, vr 268), (2, vr 175), (1, vr 12), (0, vr 11)] [vi (cResize (I 11 (i + 1)) (I 11 (i + 2)))] (sD (wN h (40 + ceA (cResize (I 11 (i + 1)) (I 11 (i + 2)))) 6) (a_up (zz h I) 175 4 (cResize (I 11 (i + 1)) (I 11 (i + 2)))) (zz h L))
          refine ax_ti (x := cResize (I 11 (i + 1)) (I 11 (i + 2))) ((rfl : cResize (I 11 (i + 1)) (I 11 (i + 2)) = _)) ?_
          refine aw_iload d_La_law_381 rfl ?_
          refine aw_icmp_eq (tgt := 388) d_La_law_383 (by decide) (fun c_383 => ?_) (fun c_383 => False.elim (by omega))
          refine aw_iload d_La_law_388 rfl ?_
          refine aw_if_ne (tgt := 405) d_La_law_390 (by decide) (fun c_390 => ?_) (fun c_390 => False.elim (by omega))
          refine aw_goto (tgt := 885) d_La_law_405 (by decide) ?_
          refine aw_sub (lv' := [(4, vi i), (3, vr 268), (2, vr 175), (1, vr 12), (0, vr 11)]) (by simp) ?_
          exact hC _ (a_up (zz h I) 175 4 (cResize (I 11 (i + 1)) (I 11 (i + 2)))) (zz h L) S (rel_len (rel.scr (fun a j y => (zz_ne S0 (by omega)).trans rfl) (zz_ne S0 (by decide)) (fun j => zz_ne S0 (by decide)) (fun j => zz_ne S0 (by decide))) (fun _ => rfl) (fun _ => rfl)) (fun j => (a_up_ne (Or.inl (by decide))).trans (h11 j)) hl (by show hX h + 1 ≤ hX h + 1; omega) (by show hU h + 6 ≤ hU h + 6; omega)
      · rcases p_ with ⟨p1, y, p2, p3, p4⟩ | ⟨p1, y, p2, p3, p4⟩
        · cases p3
        · cases p3
  · rcases q_ with ⟨q1, x, q2, q3, q4⟩ | ⟨q1, q3, q4⟩
    · cases q3
    · cases q3
set_option maxHeartbeats 2000000 in
set_option maxRecDepth 100000 in
theorem law_alter {l : Launch} {G : a_G} {P : a_R → Hp → Prop} {h : Hp} {I L : Nat → Int → Int} {i N : Int} (S : Shp h) (hfl : l.flags = flags0) (rel : Rel I L) (rm : hX h + 1 ≤ a_NX ∧ hU h + 6 ≤ a_US) (hl : hN h 11 = N) (hi : 0 ≤ i ∧ i + 6 ≤ N ∧ N ≤ 3072) (hC : ∀ (h' : Hp) (I' L' : Nat → Int → Int), Shp h' → Rel I' L' → (∀ j, I' 11 j = I 11 j) → hN h' 11 = N → hX h' ≤ hX h + 1 → hU h' ≤ hU h + 6 → AW l G M_law P 885 [(4, vi i), (3, vr 268), (2, vr 175), (1, vr 12), (0, vr 11)] [] (sD h' I' L')) : AW l G M_law P 408 [(4, vi i), (3, vr 268), (2, vr 175), (1, vr 12), (0, vr 11)] [] (sD h I L) := by
  refine aw_aload_n d_La_law_408 rfl rfl ?_
  refine aw_aload_n d_La_law_409 rfl rfl ?_
  refine aw_iload d_La_law_410 rfl ?_
  refine aw_iconst d_La_law_412 ⟨by decide, by decide⟩ ?_
  refine ax_iadd d_La_law_413 ⟨(by omega), (by omega)⟩ ?_
  refine ax_ialde (x := I 11 (i + 1)) d_La_law_414 (k_11 S) (by omega) (by rw [hl]; omega) (rfl) ?_
  refine aw_aload_n d_La_law_415 rfl rfl ?_
  refine aw_iload d_La_law_416 rfl ?_
  refine aw_iconst d_La_law_418 ⟨by decide, by decide⟩ ?_
  refine ax_iadd d_La_law_419 ⟨(by omega), (by omega)⟩ ?_
  refine ax_ialde (x := I 11 (i + 2)) d_La_law_420 (k_11 S) (by omega) (by rw [hl]; omega) (rfl) ?_
  refine aw_aload_n d_La_law_421 rfl rfl ?_
  refine aw_iload d_La_law_422 rfl ?_
  refine aw_iconst d_La_law_424 ⟨by decide, by decide⟩ ?_
  refine ax_iadd d_La_law_425 ⟨(by omega), (by omega)⟩ ?_
  refine ax_ialde (x := I 11 (i + 3)) d_La_law_426 (k_11 S) (by omega) (by rw [hl]; omega) (rfl) ?_
  refine aw_aload_n d_La_law_427 rfl rfl ?_
  refine ax_St (st := []) (as := [vr 12, vi (I 11 (i + 1)), vi (I 11 (i + 2)), vi (I 11 (i + 3)), vr 268]) d_La_law_428 cs_La_law_428 (c_La_alter S hfl rm rel.cb) rfl rfl rfl (fun v_ h_ q_ => ?_) (fun x_ h_ q_ => ?_)
  · rcases q_ with ⟨q1, x, q2, q3, q4⟩ | ⟨q1, q3, q4⟩
    · cases q3; subst q4
      have cc := cAlter_0 q1
      have er : Ref0 I (a_up I (15 + 2 * (I 11 (i + 1)).toNat) (I 11 (i + 2)) (a_w8 (a_w8 (a_xor (byAt I (14 + 2 * (I 11 (i + 1)).toNat) (15 + 2 * (I 11 (i + 1)).toNat) (I 11 (i + 2))) (I 11 (i + 3)))))) := ⟨fun a j x y => (a_up_ne (Or.inl (by omega))), (a_up_ne (Or.inl (by omega)))⟩
      have h11 : ∀ j, (a_up I (15 + 2 * (I 11 (i + 1)).toNat) (I 11 (i + 2)) (a_w8 (a_w8 (a_xor (byAt I (14 + 2 * (I 11 (i + 1)).toNat) (15 + 2 * (I 11 (i + 1)).toNat) (I 11 (i + 2))) (I 11 (i + 3)))))) 11 j = I 11 j := fun j => (a_up_ne (Or.inl (by omega)))
      show AW l G M_law P 431 [(4, vi i), (3, vr 268), (2, vr 175), (1, vr 12), (0, vr 11)] [vi 0] (sD h (a_up I (15 + 2 * (I 11 (i + 1)).toNat) (I 11 (i + 2)) (a_w8 (a_w8 (a_xor (byAt I (14 + 2 * (I 11 (i + 1)).toNat) (15 + 2 * (I 11 (i + 1)).toNat) (I 11 (i + 2))) (I 11 (i + 3)))))) (a_up L 268 0 x))
      refine aw_istore (lv' := [(5, vi 0), (4, vi i), (3, vr 268), (2, vr 175), (1, vr 12), (0, vr 11)]) d_La_law_431 (by decide) rfl ?_
      refine aw_aload_n d_La_law_433 rfl rfl ?_
      refine aw_aload_n d_La_law_434 rfl rfl ?_
      refine aw_iload d_La_law_435 rfl ?_
      refine aw_iconst d_La_law_437 ⟨by decide, by decide⟩ ?_
      refine ax_iadd d_La_law_438 ⟨(by omega), (by omega)⟩ ?_
      refine ax_ialde (x := I 11 (i + 1)) d_La_law_439 (k_11 S) (by omega) (by rw [hl]; omega) (Eq.trans (h11 (i + 1)) (rfl)) ?_
      refine aw_aload_n d_La_law_440 rfl rfl ?_
      refine aw_iload d_La_law_441 rfl ?_
      refine aw_iconst d_La_law_443 ⟨by decide, by decide⟩ ?_
      refine ax_iadd d_La_law_444 ⟨(by omega), (by omega)⟩ ?_
      refine ax_ialde (x := I 11 (i + 2)) d_La_law_445 (k_11 S) (by omega) (by rw [hl]; omega) (Eq.trans (h11 (i + 2)) (rfl)) ?_
      refine aw_aload_n d_La_law_446 rfl rfl ?_
      refine aw_iload d_La_law_447 rfl ?_
      refine aw_iconst d_La_law_449 ⟨by decide, by decide⟩ ?_
      refine ax_iadd d_La_law_450 ⟨(by omega), (by omega)⟩ ?_
      refine ax_ialde (x := I 11 (i + 3)) d_La_law_451 (k_11 S) (by omega) (by rw [hl]; omega) (Eq.trans (h11 (i + 3)) (rfl)) ?_
      refine ax_Vt (st := []) (as := [vi (I 11 (i + 1)), vi (I 11 (i + 2)), vi (I 11 (i + 3))]) (b := 175) d_La_law_452 cs_La_law_452 (k_175 S) (cT_Mo_alter S (rel.rb1 er)) rfl rfl rfl (fun v_ h_ p_ => ?_) (fun x_ h_ p_ => ?_)
      · rcases p_ with ⟨p1, y, p2, p3, p4⟩ | ⟨p1, y, p2, p3, p4⟩
        · cases p3; subst p4
          subst p2
          have c0 : cAlter (I (14 + 2 * (I 11 (i + 1)).toNat) 1) (I 11 (i + 1)) (I 11 (i + 2)) (I 11 (i + 3)) = 0 := q1
          show AW l G M_law P 455 [(5, vi 0), (4, vi i), (3, vr 268), (2, vr 175), (1, vr 12), (0, vr 11)] [vi (a_w8 (a_w8 (a_xor ((a_up I (15 + 2 * (I 11 (i + 1)).toNat) (I 11 (i + 2)) (a_w8 (a_w8 (a_xor (byAt I (14 + 2 * (I 11 (i + 1)).toNat) (15 + 2 * (I 11 (i + 1)).toNat) (I 11 (i + 2))) (I 11 (i + 3)))))) (178 + (I 11 (i + 1)).toNat) (I 11 (i + 2))) (a_w8 (I 11 (i + 3))))) % 256)] (sD h (a_up (a_up (a_up I (15 + 2 * (I 11 (i + 1)).toNat) (I 11 (i + 2)) (a_w8 (a_w8 (a_xor (byAt I (14 + 2 * (I 11 (i + 1)).toNat) (15 + 2 * (I 11 (i + 1)).toNat) (I 11 (i + 2))) (I 11 (i + 3)))))) 175 4 0) (178 + (I 11 (i + 1)).toNat) (I 11 (i + 2)) (a_w8 (a_w8 (a_xor ((a_up I (15 + 2 * (I 11 (i + 1)).toNat) (I 11 (i + 2)) (a_w8 (a_w8 (a_xor (byAt I (14 + 2 * (I 11 (i + 1)).toNat) (15 + 2 * (I 11 (i + 1)).toNat) (I 11 (i + 2))) (I 11 (i + 3)))))) (178 + (I 11 (i + 1)).toNat) (I 11 (i + 2))) (a_w8 (I 11 (i + 3))))))) (a_up L 268 0 x))
          refine aw_istore (lv' := [(6, vi (a_w8 (a_w8 (a_xor ((a_up I (15 + 2 * (I 11 (i + 1)).toNat) (I 11 (i + 2)) (a_w8 (a_w8 (a_xor (byAt I (14 + 2 * (I 11 (i + 1)).toNat) (15 + 2 * (I 11 (i + 1)).toNat) (I 11 (i + 2))) (I 11 (i + 3)))))) (178 + (I 11 (i + 1)).toNat) (I 11 (i + 2))) (a_w8 (I 11 (i + 3))))) % 256)), (5, vi 0), (4, vi i), (3, vr 268), (2, vr 175), (1, vr 12), (0, vr 11)]) d_La_law_455 (by decide) rfl ?_
          refine aw_aload_n d_La_law_457 rfl rfl ?_
          refine ax_V (st := []) (as := []) (b := 175) (v := some (vi 0)) (h' := sD h (a_up (a_up (a_up I (15 + 2 * (I 11 (i + 1)).toNat) (I 11 (i + 2)) (a_w8 (a_w8 (a_xor (byAt I (14 + 2 * (I 11 (i + 1)).toNat) (15 + 2 * (I 11 (i + 1)).toNat) (I 11 (i + 2))) (I 11 (i + 3)))))) 175 4 0) (178 + (I 11 (i + 1)).toNat) (I 11 (i + 2)) (a_w8 (a_w8 (a_xor ((a_up I (15 + 2 * (I 11 (i + 1)).toNat) (I 11 (i + 2)) (a_w8 (a_w8 (a_xor (byAt I (14 + 2 * (I 11 (i + 1)).toNat) (15 + 2 * (I 11 (i + 1)).toNat) (I 11 (i + 2))) (I 11 (i + 3)))))) (178 + (I 11 (i + 1)).toNat) (I 11 (i + 2))) (a_w8 (I 11 (i + 3))))))) (a_up L 268 0 x)) d_La_law_458 cs_La_law_458 (k_175 S) (by have z := c_Mo_thrown (l := l) (G := G) (h := h) (I := a_up (a_up (a_up I (15 + 2 * (I 11 (i + 1)).toNat) (I 11 (i + 2)) (a_w8 (a_w8 (a_xor (byAt I (14 + 2 * (I 11 (i + 1)).toNat) (15 + 2 * (I 11 (i + 1)).toNat) (I 11 (i + 2))) (I 11 (i + 3)))))) 175 4 0) (178 + (I 11 (i + 1)).toNat) (I 11 (i + 2)) (a_w8 (a_w8 (a_xor ((a_up I (15 + 2 * (I 11 (i + 1)).toNat) (I 11 (i + 2)) (a_w8 (a_w8 (a_xor (byAt I (14 + 2 * (I 11 (i + 1)).toNat) (15 + 2 * (I 11 (i + 1)).toNat) (I 11 (i + 2))) (I 11 (i + 3)))))) (178 + (I 11 (i + 1)).toNat) (I 11 (i + 2))) (a_w8 (I 11 (i + 3))))))) (L := a_up L 268 0 x) S; rw [a_up_ne (Or.inl (by omega)), a_up_at] at z; exact z) rfl rfl rfl ?_
          show AW l G M_law P 461 [(6, vi (a_w8 (a_w8 (a_xor ((a_up I (15 + 2 * (I 11 (i + 1)).toNat) (I 11 (i + 2)) (a_w8 (a_w8 (a_xor (byAt I (14 + 2 * (I 11 (i + 1)).toNat) (15 + 2 * (I 11 (i + 1)).toNat) (I 11 (i + 2))) (I 11 (i + 3)))))) (178 + (I 11 (i + 1)).toNat) (I 11 (i + 2))) (a_w8 (I 11 (i + 3))))) % 256)), (5, vi 0), (4, vi i), (3, vr 268), (2, vr 175), (1, vr 12), (0, vr 11)] [vi 0] (sD h (a_up (a_up (a_up I (15 + 2 * (I 11 (i + 1)).toNat) (I 11 (i + 2)) (a_w8 (a_w8 (a_xor (byAt I (14 + 2 * (I 11 (i + 1)).toNat) (15 + 2 * (I 11 (i + 1)).toNat) (I 11 (i + 2))) (I 11 (i + 3)))))) 175 4 0) (178 + (I 11 (i + 1)).toNat) (I 11 (i + 2)) (a_w8 (a_w8 (a_xor ((a_up I (15 + 2 * (I 11 (i + 1)).toNat) (I 11 (i + 2)) (a_w8 (a_w8 (a_xor (byAt I (14 + 2 * (I 11 (i + 1)).toNat) (15 + 2 * (I 11 (i + 1)).toNat) (I 11 (i + 2))) (I 11 (i + 3)))))) (178 + (I 11 (i + 1)).toNat) (I 11 (i + 2))) (a_w8 (I 11 (i + 3))))))) (a_up L 268 0 x))
          refine aw_iload d_La_law_461 rfl ?_
          refine aw_icmp_eq (tgt := 468) d_La_law_463 (by decide) (fun c_463 => ?_) (fun c_463 => False.elim (by omega))
          refine aw_iload d_La_law_468 rfl ?_
          refine aw_if_ne (tgt := 485) d_La_law_470 (by decide) (fun c_470 => False.elim (by omega)) (fun c_470 => ?_)
          refine aw_aload_n d_La_law_473 rfl rfl ?_
          refine aw_iconst d_La_law_474 ⟨by decide, by decide⟩ ?_
          refine ax_lalde (x := x) d_La_law_475 (k_268 S) (by omega) (by rw [n_268 S]; omega) (a_up_at) ?_
          refine aw_iload d_La_law_476 rfl ?_
          refine aw_i2l d_La_law_478 ?_
          refine aw_lcmp d_La_law_479 ?_
          refine aw_if_eq (tgt := 485) d_La_law_480 (by decide) (fun c_480 => ?_) (fun c_480 => False.elim (c_480 (lc0 (q2.trans (rel_alter (L2 := a_up L 268 0 x) rel cc.1 cc.2.1 ⟨cc.2.2.1, by rw [← cnt rel cc.1]; exact cc.2.2.2⟩ (fun j => a_up_ne (Or.inl (by decide))) (fun j => a_up_ne (Or.inl (by decide))) _ rfl).2))))
          refine aw_goto (tgt := 885) d_La_law_485 (by decide) ?_
          refine aw_sub (lv' := [(4, vi i), (3, vr 268), (2, vr 175), (1, vr 12), (0, vr 11)]) (by simp) ?_
          exact hC h (a_up (a_up (a_up I (15 + 2 * (I 11 (i + 1)).toNat) (I 11 (i + 2)) (a_w8 (a_w8 (a_xor (byAt I (14 + 2 * (I 11 (i + 1)).toNat) (15 + 2 * (I 11 (i + 1)).toNat) (I 11 (i + 2))) (I 11 (i + 3)))))) 175 4 0) (178 + (I 11 (i + 1)).toNat) (I 11 (i + 2)) (a_w8 (a_w8 (a_xor ((a_up I (15 + 2 * (I 11 (i + 1)).toNat) (I 11 (i + 2)) (a_w8 (a_w8 (a_xor (byAt I (14 + 2 * (I 11 (i + 1)).toNat) (15 + 2 * (I 11 (i + 1)).toNat) (I 11 (i + 2))) (I 11 (i + 3)))))) (178 + (I 11 (i + 1)).toNat) (I 11 (i + 2))) (a_w8 (I 11 (i + 3))))))) (a_up L 268 0 x) S ((rel_alter rel cc.1 cc.2.1 ⟨cc.2.2.1, by rw [← cnt rel cc.1]; exact cc.2.2.2⟩ (fun j => a_up_ne (Or.inl (by decide))) (fun j => a_up_ne (Or.inl (by decide))) _ rfl).1) (fun j => by rw [a_up_ne (Or.inl (by omega)), a_up_ne (Or.inl (by decide))]; exact h11 j) hl (by omega) (by omega)
        · exact absurd ((cAlter_e (fun z => (er.1 186 _ (by omega) (by omega)).trans (cnt rel z).symm)).trans q1) p1
      · rcases p_ with ⟨p1, y, p2, p3, p4⟩ | ⟨p1, y, p2, p3, p4⟩
        · cases p3
        · cases p3
    · cases q3; subst q4
      refine ax_hp (h' := sD (wN h (40 + ceA (cAlter (I (14 + 2 * (I 11 (i + 1)).toNat) 1) (I 11 (i + 1)) (I 11 (i + 2)) (I 11 (i + 3)))) 6) (zz h I) (zz h L)) rfl ?_
      have er : Ref0 I (zz h I) := Ref0.zz S ⟨fun _ _ _ _ => rfl, rfl⟩
      have h11 : ∀ j, (zz h I) 11 j = I 11 j := fun j => zz_ne S (by decide)
      have S0 := S
      have S := Shp_wN (q := 40 + ceA (cAlter (I (14 + 2 * (I 11 (i + 1)).toNat) 1) (I 11 (i + 1)) (I 11 (i + 2)) (I 11 (i + 3)))) (n := 6) S0
      have hl0 := hl
      have hl : hN (wN h (40 + ceA (cAlter (I (14 + 2 * (I 11 (i + 1)).toNat) 1) (I 11 (i + 1)) (I 11 (i + 2)) (I 11 (i + 3)))) 6) 11 = N := (wN_11 S0).trans hl0
      show AW l G M_law P 431 [(4, vi i), (3, vr 268), (2, vr 175), (1, vr 12), (0, vr 11)] [vi (cAlter (I (14 + 2 * (I 11 (i + 1)).toNat) 1) (I 11 (i + 1)) (I 11 (i + 2)) (I 11 (i + 3)))] (sD (wN h (40 + ceA (cAlter (I (14 + 2 * (I 11 (i + 1)).toNat) 1) (I 11 (i + 1)) (I 11 (i + 2)) (I 11 (i + 3)))) 6) (zz h I) (zz h L))
      refine aw_istore (lv' := [(5, vi (cAlter (I (14 + 2 * (I 11 (i + 1)).toNat) 1) (I 11 (i + 1)) (I 11 (i + 2)) (I 11 (i + 3)))), (4, vi i), (3, vr 268), (2, vr 175), (1, vr 12), (0, vr 11)]) d_La_law_431 (by decide) rfl ?_
      refine aw_aload_n d_La_law_433 rfl rfl ?_
      refine aw_aload_n d_La_law_434 rfl rfl ?_
      refine aw_iload d_La_law_435 rfl ?_
      refine aw_iconst d_La_law_437 ⟨by decide, by decide⟩ ?_
      refine ax_iadd d_La_law_438 ⟨(by omega), (by omega)⟩ ?_
      refine ax_ialde (x := I 11 (i + 1)) d_La_law_439 (k_11 S) (by omega) (by rw [hl]; omega) (Eq.trans (h11 (i + 1)) (rfl)) ?_
      refine aw_aload_n d_La_law_440 rfl rfl ?_
      refine aw_iload d_La_law_441 rfl ?_
      refine aw_iconst d_La_law_443 ⟨by decide, by decide⟩ ?_
      refine ax_iadd d_La_law_444 ⟨(by omega), (by omega)⟩ ?_
      refine ax_ialde (x := I 11 (i + 2)) d_La_law_445 (k_11 S) (by omega) (by rw [hl]; omega) (Eq.trans (h11 (i + 2)) (rfl)) ?_
      refine aw_aload_n d_La_law_446 rfl rfl ?_
      refine aw_iload d_La_law_447 rfl ?_
      refine aw_iconst d_La_law_449 ⟨by decide, by decide⟩ ?_
      refine ax_iadd d_La_law_450 ⟨(by omega), (by omega)⟩ ?_
      refine ax_ialde (x := I 11 (i + 3)) d_La_law_451 (k_11 S) (by omega) (by rw [hl]; omega) (Eq.trans (h11 (i + 3)) (rfl)) ?_
      refine ax_Vt (st := []) (as := [vi (I 11 (i + 1)), vi (I 11 (i + 2)), vi (I 11 (i + 3))]) (b := 175) d_La_law_452 cs_La_law_452 (k_175 S) (cT_Mo_alter S (rel.rb1 er)) rfl rfl rfl (fun v_ h_ p_ => ?_) (fun x_ h_ p_ => ?_)
      · rcases p_ with ⟨p1, y, p2, p3, p4⟩ | ⟨p1, y, p2, p3, p4⟩
        · exact absurd ((cAlter_e (fun z => (er.1 186 _ (by omega) (by omega)).trans (cnt rel z).symm)).symm.trans p1) q1
        · cases p3; subst p4
          obtain ⟨y, rfl⟩ := p2
          show AW l G M_law P 455 [(5, vi (cAlter (I (14 + 2 * (I 11 (i + 1)).toNat) 1) (I 11 (i + 1)) (I 11 (i + 2)) (I 11 (i + 3)))), (4, vi i), (3, vr 268), (2, vr 175), (1, vr 12), (0, vr 11)] [vi y] (sD (wN h (40 + ceA (cAlter (I (14 + 2 * (I 11 (i + 1)).toNat) 1) (I 11 (i + 1)) (I 11 (i + 2)) (I 11 (i + 3)))) 6) (a_up (zz h I) 175 4 (cAlter ((zz h I) 186 (I 11 (i + 1))) (I 11 (i + 1)) (I 11 (i + 2)) (I 11 (i + 3)))) (zz h L))
          refine aw_istore (lv' := [(6, vi y), (5, vi (cAlter (I (14 + 2 * (I 11 (i + 1)).toNat) 1) (I 11 (i + 1)) (I 11 (i + 2)) (I 11 (i + 3)))), (4, vi i), (3, vr 268), (2, vr 175), (1, vr 12), (0, vr 11)]) d_La_law_455 (by decide) rfl ?_
          refine aw_aload_n d_La_law_457 rfl rfl ?_
          refine ax_V (st := []) (as := []) (b := 175) (v := some (vi (cAlter ((zz h I) 186 (I 11 (i + 1))) (I 11 (i + 1)) (I 11 (i + 2)) (I 11 (i + 3))))) (h' := sD (wN h (40 + ceA (cAlter (I (14 + 2 * (I 11 (i + 1)).toNat) 1) (I 11 (i + 1)) (I 11 (i + 2)) (I 11 (i + 3)))) 6) (a_up (zz h I) 175 4 (cAlter ((zz h I) 186 (I 11 (i + 1))) (I 11 (i + 1)) (I 11 (i + 2)) (I 11 (i + 3)))) (zz h L)) d_La_law_458 cs_La_law_458 (k_175 S) (by have z := c_Mo_thrown (l := l) (G := G) (h := (wN h (40 + ceA (cAlter (I (14 + 2 * (I 11 (i + 1)).toNat) 1) (I 11 (i + 1)) (I 11 (i + 2)) (I 11 (i + 3)))) 6)) (I := a_up (zz h I) 175 4 (cAlter ((zz h I) 186 (I 11 (i + 1))) (I 11 (i + 1)) (I 11 (i + 2)) (I 11 (i + 3)))) (L := zz h L) S; rw [a_up_at] at z; exact z) rfl rfl rfl ?_
          show AW l G M_law P 461 [(6, vi y), (5, vi (cAlter (I (14 + 2 * (I 11 (i + 1)).toNat) 1) (I 11 (i + 1)) (I 11 (i + 2)) (I 11 (i + 3)))), (4, vi i), (3, vr 268), (2, vr 175), (1, vr 12), (0, vr 11)] [vi (cAlter ((zz h I) 186 (I 11 (i + 1))) (I 11 (i + 1)) (I 11 (i + 2)) (I 11 (i + 3)))] (sD (wN h (40 + ceA (cAlter (I (14 + 2 * (I 11 (i + 1)).toNat) 1) (I 11 (i + 1)) (I 11 (i + 2)) (I 11 (i + 3)))) 6) (a_up (zz h I) 175 4 (cAlter ((zz h I) 186 (I 11 (i + 1))) (I 11 (i + 1)) (I 11 (i + 2)) (I 11 (i + 3)))) (zz h L))
          refine ax_ti (x := cAlter (I (14 + 2 * (I 11 (i + 1)).toNat) 1) (I 11 (i + 1)) (I 11 (i + 2)) (I 11 (i + 3))) (cAlter_e (fun z => (er.1 186 _ (by omega) (by omega)).trans (cnt rel z).symm)) ?_
          refine aw_iload d_La_law_461 rfl ?_
          refine aw_icmp_eq (tgt := 468) d_La_law_463 (by decide) (fun c_463 => ?_) (fun c_463 => False.elim (by omega))
          refine aw_iload d_La_law_468 rfl ?_
          refine aw_if_ne (tgt := 485) d_La_law_470 (by decide) (fun c_470 => ?_) (fun c_470 => False.elim (by omega))
          refine aw_goto (tgt := 885) d_La_law_485 (by decide) ?_
          refine aw_sub (lv' := [(4, vi i), (3, vr 268), (2, vr 175), (1, vr 12), (0, vr 11)]) (by simp) ?_
          exact hC _ (a_up (zz h I) 175 4 (cAlter ((zz h I) 186 (I 11 (i + 1))) (I 11 (i + 1)) (I 11 (i + 2)) (I 11 (i + 3)))) (zz h L) S (rel_len (rel.scr (fun a j y => (zz_ne S0 (by omega)).trans rfl) (zz_ne S0 (by decide)) (fun j => zz_ne S0 (by decide)) (fun j => zz_ne S0 (by decide))) (fun _ => rfl) (fun _ => rfl)) (fun j => (a_up_ne (Or.inl (by decide))).trans (h11 j)) hl (by show hX h + 1 ≤ hX h + 1; omega) (by show hU h + 6 ≤ hU h + 6; omega)
      · rcases p_ with ⟨p1, y, p2, p3, p4⟩ | ⟨p1, y, p2, p3, p4⟩
        · cases p3
        · cases p3
  · rcases q_ with ⟨q1, x, q2, q3, q4⟩ | ⟨q1, q3, q4⟩
    · cases q3
    · cases q3
set_option maxHeartbeats 2000000 in
set_option maxRecDepth 100000 in
theorem law_length {l : Launch} {G : a_G} {P : a_R → Hp → Prop} {h : Hp} {I L : Nat → Int → Int} {i N : Int} (S : Shp h) (hfl : l.flags = flags0) (rel : Rel I L) (rm : hX h + 1 ≤ a_NX ∧ hU h + 6 ≤ a_US) (hl : hN h 11 = N) (hi : 0 ≤ i ∧ i + 6 ≤ N ∧ N ≤ 3072) (hC : ∀ (h' : Hp) (I' L' : Nat → Int → Int), Shp h' → Rel I' L' → (∀ j, I' 11 j = I 11 j) → hN h' 11 = N → hX h' ≤ hX h + 1 → hU h' ≤ hU h + 6 → AW l G M_law P 885 [(4, vi i), (3, vr 268), (2, vr 175), (1, vr 12), (0, vr 11)] [] (sD h' I' L')) : AW l G M_law P 488 [(4, vi i), (3, vr 268), (2, vr 175), (1, vr 12), (0, vr 11)] [] (sD h I L) := by
  refine aw_aload_n d_La_law_488 rfl rfl ?_
  refine aw_aload_n d_La_law_489 rfl rfl ?_
  refine aw_iload d_La_law_490 rfl ?_
  refine aw_iconst d_La_law_492 ⟨by decide, by decide⟩ ?_
  refine ax_iadd d_La_law_493 ⟨(by omega), (by omega)⟩ ?_
  refine ax_ialde (x := I 11 (i + 1)) d_La_law_494 (k_11 S) (by omega) (by rw [hl]; omega) (rfl) ?_
  refine aw_aload_n d_La_law_495 rfl rfl ?_
  refine ax_St (st := []) (as := [vr 12, vi (I 11 (i + 1)), vr 268]) d_La_law_496 cs_La_law_496 (c_La_length S hfl rm rel.cb) rfl rfl rfl (fun v_ h_ q_ => ?_) (fun x_ h_ q_ => ?_)
  · rcases q_ with ⟨q1, x, q2, q3, q4⟩ | ⟨q1, q3, q4⟩
    · cases q3; subst q4
      have cc := cLen_0 q1
      have er : Ref0 I (I) := ⟨fun a j x y => rfl, rfl⟩
      have h11 : ∀ j, (I) 11 j = I 11 j := fun j => rfl
      show AW l G M_law P 499 [(4, vi i), (3, vr 268), (2, vr 175), (1, vr 12), (0, vr 11)] [vi 0] (sD h I (a_up L 268 0 x))
      refine aw_istore (lv' := [(5, vi 0), (4, vi i), (3, vr 268), (2, vr 175), (1, vr 12), (0, vr 11)]) d_La_law_499 (by decide) rfl ?_
      refine aw_aload_n d_La_law_501 rfl rfl ?_
      refine aw_aload_n d_La_law_502 rfl rfl ?_
      refine aw_iload d_La_law_503 rfl ?_
      refine aw_iconst d_La_law_505 ⟨by decide, by decide⟩ ?_
      refine ax_iadd d_La_law_506 ⟨(by omega), (by omega)⟩ ?_
      refine ax_ialde (x := I 11 (i + 1)) d_La_law_507 (k_11 S) (by omega) (by rw [hl]; omega) (rfl) ?_
      refine ax_Vt (st := []) (as := [vi (I 11 (i + 1))]) (b := 175) d_La_law_508 cs_La_law_508 (k_175 S) (cT_Mo_length S (rel.rb1 er)) rfl rfl rfl (fun v_ h_ p_ => ?_) (fun x_ h_ p_ => ?_)
      · rcases p_ with ⟨p1, y, p2, p3, p4⟩ | ⟨p1, y, p2, p3, p4⟩
        · cases p3; subst p4
          subst p2
          have c0 : cLen (I 11 (i + 1)) = 0 := q1
          show AW l G M_law P 511 [(5, vi 0), (4, vi i), (3, vr 268), (2, vr 175), (1, vr 12), (0, vr 11)] [vi (I 186 (I 11 (i + 1)))] (sD h (a_up (I) 175 4 0) (a_up L 268 0 x))
          refine aw_istore (lv' := [(6, vi (I 186 (I 11 (i + 1)))), (5, vi 0), (4, vi i), (3, vr 268), (2, vr 175), (1, vr 12), (0, vr 11)]) d_La_law_511 (by decide) rfl ?_
          refine aw_aload_n d_La_law_513 rfl rfl ?_
          refine ax_V (st := []) (as := []) (b := 175) (v := some (vi 0)) (h' := sD h (a_up (I) 175 4 0) (a_up L 268 0 x)) d_La_law_514 cs_La_law_514 (k_175 S) (by have z := c_Mo_thrown (l := l) (G := G) (h := h) (I := a_up (I) 175 4 0) (L := a_up L 268 0 x) S; rw [a_up_at] at z; exact z) rfl rfl rfl ?_
          show AW l G M_law P 517 [(6, vi (I 186 (I 11 (i + 1)))), (5, vi 0), (4, vi i), (3, vr 268), (2, vr 175), (1, vr 12), (0, vr 11)] [vi 0] (sD h (a_up (I) 175 4 0) (a_up L 268 0 x))
          refine aw_iload d_La_law_517 rfl ?_
          refine aw_icmp_eq (tgt := 524) d_La_law_519 (by decide) (fun c_519 => ?_) (fun c_519 => False.elim (by omega))
          refine aw_iload d_La_law_524 rfl ?_
          refine aw_if_ne (tgt := 541) d_La_law_526 (by decide) (fun c_526 => False.elim (by omega)) (fun c_526 => ?_)
          refine aw_aload_n d_La_law_529 rfl rfl ?_
          refine aw_iconst d_La_law_530 ⟨by decide, by decide⟩ ?_
          refine ax_lalde (x := x) d_La_law_531 (k_268 S) (by omega) (by rw [n_268 S]; omega) (a_up_at) ?_
          refine aw_iload d_La_law_532 rfl ?_
          refine aw_i2l d_La_law_534 ?_
          refine aw_lcmp d_La_law_535 ?_
          refine aw_if_eq (tgt := 541) d_La_law_536 (by decide) (fun c_536 => ?_) (fun c_536 => False.elim (c_536 (lc0 (q2.trans (cnt rel cc)))))
          refine aw_goto (tgt := 885) d_La_law_541 (by decide) ?_
          refine aw_sub (lv' := [(4, vi i), (3, vr 268), (2, vr 175), (1, vr 12), (0, vr 11)]) (by simp) ?_
          exact hC h (a_up (I) 175 4 0) (a_up L 268 0 x) S (rel_len rel (fun j => a_up_ne (Or.inl (by decide))) (fun j => a_up_ne (Or.inl (by decide)))) (fun j => a_up_ne (Or.inl (by decide))) hl (by omega) (by omega)
        · exact absurd (((rfl : cLen (I 11 (i + 1)) = _)).trans q1) p1
      · rcases p_ with ⟨p1, y, p2, p3, p4⟩ | ⟨p1, y, p2, p3, p4⟩
        · cases p3
        · cases p3
    · cases q3; subst q4
      refine ax_hp (h' := sD (wN h (40 + ceA (cLen (I 11 (i + 1)))) 6) (zz h I) (zz h L)) rfl ?_
      have er : Ref0 I (zz h I) := Ref0.zz S ⟨fun _ _ _ _ => rfl, rfl⟩
      have h11 : ∀ j, (zz h I) 11 j = I 11 j := fun j => zz_ne S (by decide)
      have S0 := S
      have S := Shp_wN (q := 40 + ceA (cLen (I 11 (i + 1)))) (n := 6) S0
      have hl0 := hl
      have hl : hN (wN h (40 + ceA (cLen (I 11 (i + 1)))) 6) 11 = N := (wN_11 S0).trans hl0
      show AW l G M_law P 499 [(4, vi i), (3, vr 268), (2, vr 175), (1, vr 12), (0, vr 11)] [vi (cLen (I 11 (i + 1)))] (sD (wN h (40 + ceA (cLen (I 11 (i + 1)))) 6) (zz h I) (zz h L))
      refine aw_istore (lv' := [(5, vi (cLen (I 11 (i + 1)))), (4, vi i), (3, vr 268), (2, vr 175), (1, vr 12), (0, vr 11)]) d_La_law_499 (by decide) rfl ?_
      refine aw_aload_n d_La_law_501 rfl rfl ?_
      refine aw_aload_n d_La_law_502 rfl rfl ?_
      refine aw_iload d_La_law_503 rfl ?_
      refine aw_iconst d_La_law_505 ⟨by decide, by decide⟩ ?_
      refine ax_iadd d_La_law_506 ⟨(by omega), (by omega)⟩ ?_
      refine ax_ialde (x := I 11 (i + 1)) d_La_law_507 (k_11 S) (by omega) (by rw [hl]; omega) (Eq.trans (h11 (i + 1)) (rfl)) ?_
      refine ax_Vt (st := []) (as := [vi (I 11 (i + 1))]) (b := 175) d_La_law_508 cs_La_law_508 (k_175 S) (cT_Mo_length S (rel.rb1 er)) rfl rfl rfl (fun v_ h_ p_ => ?_) (fun x_ h_ p_ => ?_)
      · rcases p_ with ⟨p1, y, p2, p3, p4⟩ | ⟨p1, y, p2, p3, p4⟩
        · exact absurd (((rfl : cLen (I 11 (i + 1)) = _)).symm.trans p1) q1
        · cases p3; subst p4
          obtain ⟨y, rfl⟩ := p2
          show AW l G M_law P 511 [(5, vi (cLen (I 11 (i + 1)))), (4, vi i), (3, vr 268), (2, vr 175), (1, vr 12), (0, vr 11)] [vi y] (sD (wN h (40 + ceA (cLen (I 11 (i + 1)))) 6) (a_up (zz h I) 175 4 (cLen (I 11 (i + 1)))) (zz h L))
          refine aw_istore (lv' := [(6, vi y), (5, vi (cLen (I 11 (i + 1)))), (4, vi i), (3, vr 268), (2, vr 175), (1, vr 12), (0, vr 11)]) d_La_law_511 (by decide) rfl ?_
          refine aw_aload_n d_La_law_513 rfl rfl ?_
          refine ax_V (st := []) (as := []) (b := 175) (v := some (vi (cLen (I 11 (i + 1))))) (h' := sD (wN h (40 + ceA (cLen (I 11 (i + 1)))) 6) (a_up (zz h I) 175 4 (cLen (I 11 (i + 1)))) (zz h L)) d_La_law_514 cs_La_law_514 (k_175 S) (by have z := c_Mo_thrown (l := l) (G := G) (h := (wN h (40 + ceA (cLen (I 11 (i + 1)))) 6)) (I := a_up (zz h I) 175 4 (cLen (I 11 (i + 1)))) (L := zz h L) S; rw [a_up_at] at z; exact z) rfl rfl rfl ?_
          show AW l G M_law P 517 [(6, vi y), (5, vi (cLen (I 11 (i + 1)))), (4, vi i), (3, vr 268), (2, vr 175), (1, vr 12), (0, vr 11)] [vi (cLen (I 11 (i + 1)))] (sD (wN h (40 + ceA (cLen (I 11 (i + 1)))) 6) (a_up (zz h I) 175 4 (cLen (I 11 (i + 1)))) (zz h L))
          refine ax_ti (x := cLen (I 11 (i + 1))) ((rfl : cLen (I 11 (i + 1)) = _)) ?_
          refine aw_iload d_La_law_517 rfl ?_
          refine aw_icmp_eq (tgt := 524) d_La_law_519 (by decide) (fun c_519 => ?_) (fun c_519 => False.elim (by omega))
          refine aw_iload d_La_law_524 rfl ?_
          refine aw_if_ne (tgt := 541) d_La_law_526 (by decide) (fun c_526 => ?_) (fun c_526 => False.elim (by omega))
          refine aw_goto (tgt := 885) d_La_law_541 (by decide) ?_
          refine aw_sub (lv' := [(4, vi i), (3, vr 268), (2, vr 175), (1, vr 12), (0, vr 11)]) (by simp) ?_
          exact hC _ (a_up (zz h I) 175 4 (cLen (I 11 (i + 1)))) (zz h L) S (rel_len (rel.scr (fun a j y => (zz_ne S0 (by omega)).trans rfl) (zz_ne S0 (by decide)) (fun j => zz_ne S0 (by decide)) (fun j => zz_ne S0 (by decide))) (fun _ => rfl) (fun _ => rfl)) (fun j => (a_up_ne (Or.inl (by decide))).trans (h11 j)) hl (by show hX h + 1 ≤ hX h + 1; omega) (by show hU h + 6 ≤ hU h + 6; omega)
      · rcases p_ with ⟨p1, y, p2, p3, p4⟩ | ⟨p1, y, p2, p3, p4⟩
        · cases p3
        · cases p3
  · rcases q_ with ⟨q1, x, q2, q3, q4⟩ | ⟨q1, q3, q4⟩
    · cases q3
    · cases q3
set_option maxHeartbeats 2000000 in
set_option maxRecDepth 100000 in
theorem law_word {l : Launch} {G : a_G} {P : a_R → Hp → Prop} {h : Hp} {I L : Nat → Int → Int} {i N : Int} (S : Shp h) (hfl : l.flags = flags0) (rel : Rel I L) (rm : hX h + 1 ≤ a_NX ∧ hU h + 6 ≤ a_US) (hl : hN h 11 = N) (hi : 0 ≤ i ∧ i + 6 ≤ N ∧ N ≤ 3072) (hC : ∀ (h' : Hp) (I' L' : Nat → Int → Int), Shp h' → Rel I' L' → (∀ j, I' 11 j = I 11 j) → hN h' 11 = N → hX h' ≤ hX h + 1 → hU h' ≤ hU h + 6 → AW l G M_law P 885 [(4, vi i), (3, vr 268), (2, vr 175), (1, vr 12), (0, vr 11)] [] (sD h' I' L')) : AW l G M_law P 544 [(4, vi i), (3, vr 268), (2, vr 175), (1, vr 12), (0, vr 11)] [] (sD h I L) := by
  refine aw_aload_n d_La_law_544 rfl rfl ?_
  refine aw_aload_n d_La_law_545 rfl rfl ?_
  refine aw_iload d_La_law_546 rfl ?_
  refine aw_iconst d_La_law_548 ⟨by decide, by decide⟩ ?_
  refine ax_iadd d_La_law_549 ⟨(by omega), (by omega)⟩ ?_
  refine ax_ialde (x := I 11 (i + 1)) d_La_law_550 (k_11 S) (by omega) (by rw [hl]; omega) (rfl) ?_
  refine aw_aload_n d_La_law_551 rfl rfl ?_
  refine aw_iload d_La_law_552 rfl ?_
  refine aw_iconst d_La_law_554 ⟨by decide, by decide⟩ ?_
  refine ax_iadd d_La_law_555 ⟨(by omega), (by omega)⟩ ?_
  refine ax_ialde (x := I 11 (i + 2)) d_La_law_556 (k_11 S) (by omega) (by rw [hl]; omega) (rfl) ?_
  refine aw_aload_n d_La_law_557 rfl rfl ?_
  refine ax_St (st := []) (as := [vr 12, vi (I 11 (i + 1)), vi (I 11 (i + 2)), vr 268]) d_La_law_558 cs_La_law_558 (c_La_word S hfl rm rel.cb) rfl rfl rfl (fun v_ h_ q_ => ?_) (fun x_ h_ q_ => ?_)
  · rcases q_ with ⟨q1, x, q2, q3, q4⟩ | ⟨q1, q3, q4⟩
    · cases q3; subst q4
      have cc := cWord_0 q1
      have er : Ref0 I (I) := ⟨fun a j x y => rfl, rfl⟩
      have h11 : ∀ j, (I) 11 j = I 11 j := fun j => rfl
      show AW l G M_law P 561 [(4, vi i), (3, vr 268), (2, vr 175), (1, vr 12), (0, vr 11)] [vi 0] (sD h I (a_up L 268 0 x))
      refine aw_istore (lv' := [(5, vi 0), (4, vi i), (3, vr 268), (2, vr 175), (1, vr 12), (0, vr 11)]) d_La_law_561 (by decide) rfl ?_
      refine aw_aload_n d_La_law_563 rfl rfl ?_
      refine aw_aload_n d_La_law_564 rfl rfl ?_
      refine aw_iload d_La_law_565 rfl ?_
      refine aw_iconst d_La_law_567 ⟨by decide, by decide⟩ ?_
      refine ax_iadd d_La_law_568 ⟨(by omega), (by omega)⟩ ?_
      refine ax_ialde (x := I 11 (i + 1)) d_La_law_569 (k_11 S) (by omega) (by rw [hl]; omega) (rfl) ?_
      refine aw_aload_n d_La_law_570 rfl rfl ?_
      refine aw_iload d_La_law_571 rfl ?_
      refine aw_iconst d_La_law_573 ⟨by decide, by decide⟩ ?_
      refine ax_iadd d_La_law_574 ⟨(by omega), (by omega)⟩ ?_
      refine ax_ialde (x := I 11 (i + 2)) d_La_law_575 (k_11 S) (by omega) (by rw [hl]; omega) (rfl) ?_
      refine ax_Vt (st := []) (as := [vi (I 11 (i + 1)), vi (I 11 (i + 2))]) (b := 175) d_La_law_576 cs_La_law_576 (k_175 S) (cT_Mo_word2 S (rel.rb1 er)) rfl rfl rfl (fun v_ h_ p_ => ?_) (fun x_ h_ p_ => ?_)
      · rcases p_ with ⟨p1, y, p2, p3, p4⟩ | ⟨p1, y, p2, p3, p4⟩
        · cases p3; subst p4
          subst p2
          have c0 : cWord (I (14 + 2 * (I 11 (i + 1)).toNat) 1) (I 11 (i + 1)) (I 11 (i + 2)) = 0 := q1
          show AW l G M_law P 579 [(5, vi 0), (4, vi i), (3, vr 268), (2, vr 175), (1, vr 12), (0, vr 11)] [vl (wdP (gW I (I 11 (i + 1))) (I 11 (i + 2)) 8)] (sD h (a_up (I) 175 4 0) (a_up L 268 0 x))
          refine aw_lstore (lv' := [(6, vl (wdP (gW I (I 11 (i + 1))) (I 11 (i + 2)) 8)), (5, vi 0), (4, vi i), (3, vr 268), (2, vr 175), (1, vr 12), (0, vr 11)]) d_La_law_579 (by decide) rfl ?_
          refine aw_aload_n d_La_law_581 rfl rfl ?_
          refine ax_V (st := []) (as := []) (b := 175) (v := some (vi 0)) (h' := sD h (a_up (I) 175 4 0) (a_up L 268 0 x)) d_La_law_582 cs_La_law_582 (k_175 S) (by have z := c_Mo_thrown (l := l) (G := G) (h := h) (I := a_up (I) 175 4 0) (L := a_up L 268 0 x) S; rw [a_up_at] at z; exact z) rfl rfl rfl ?_
          show AW l G M_law P 585 [(6, vl (wdP (gW I (I 11 (i + 1))) (I 11 (i + 2)) 8)), (5, vi 0), (4, vi i), (3, vr 268), (2, vr 175), (1, vr 12), (0, vr 11)] [vi 0] (sD h (a_up (I) 175 4 0) (a_up L 268 0 x))
          refine aw_iload d_La_law_585 rfl ?_
          refine aw_icmp_eq (tgt := 592) d_La_law_587 (by decide) (fun c_587 => ?_) (fun c_587 => False.elim (by omega))
          refine aw_iload d_La_law_592 rfl ?_
          refine aw_if_ne (tgt := 608) d_La_law_594 (by decide) (fun c_594 => False.elim (by omega)) (fun c_594 => ?_)
          refine aw_aload_n d_La_law_597 rfl rfl ?_
          refine aw_iconst d_La_law_598 ⟨by decide, by decide⟩ ?_
          refine ax_lalde (x := x) d_La_law_599 (k_268 S) (by omega) (by rw [n_268 S]; omega) (a_up_at) ?_
          refine aw_lload d_La_law_600 rfl ?_
          refine aw_lcmp d_La_law_602 ?_
          refine aw_if_eq (tgt := 608) d_La_law_603 (by decide) (fun c_603 => ?_) (fun c_603 => False.elim (c_603 (lc0 (q2.trans (by rw [(rel.2.2.1 (I 11 (i + 1)).toNat (by omega)).by, Int.toNat_of_nonneg cc.1])))))
          refine aw_goto (tgt := 885) d_La_law_608 (by decide) ?_
          refine aw_sub (lv' := [(4, vi i), (3, vr 268), (2, vr 175), (1, vr 12), (0, vr 11)]) (by simp) ?_
          exact hC h (a_up (I) 175 4 0) (a_up L 268 0 x) S (rel_len rel (fun j => a_up_ne (Or.inl (by decide))) (fun j => a_up_ne (Or.inl (by decide)))) (fun j => a_up_ne (Or.inl (by decide))) hl (by omega) (by omega)
        · exact absurd ((cWord_e (fun z => (er.1 186 _ (by omega) (by omega)).trans (cnt rel z).symm)).trans q1) p1
      · rcases p_ with ⟨p1, y, p2, p3, p4⟩ | ⟨p1, y, p2, p3, p4⟩
        · cases p3
        · cases p3
    · cases q3; subst q4
      refine ax_hp (h' := sD (wN h (40 + ceA (cWord (I (14 + 2 * (I 11 (i + 1)).toNat) 1) (I 11 (i + 1)) (I 11 (i + 2)))) 6) (zz h I) (zz h L)) rfl ?_
      have er : Ref0 I (zz h I) := Ref0.zz S ⟨fun _ _ _ _ => rfl, rfl⟩
      have h11 : ∀ j, (zz h I) 11 j = I 11 j := fun j => zz_ne S (by decide)
      have S0 := S
      have S := Shp_wN (q := 40 + ceA (cWord (I (14 + 2 * (I 11 (i + 1)).toNat) 1) (I 11 (i + 1)) (I 11 (i + 2)))) (n := 6) S0
      have hl0 := hl
      have hl : hN (wN h (40 + ceA (cWord (I (14 + 2 * (I 11 (i + 1)).toNat) 1) (I 11 (i + 1)) (I 11 (i + 2)))) 6) 11 = N := (wN_11 S0).trans hl0
      show AW l G M_law P 561 [(4, vi i), (3, vr 268), (2, vr 175), (1, vr 12), (0, vr 11)] [vi (cWord (I (14 + 2 * (I 11 (i + 1)).toNat) 1) (I 11 (i + 1)) (I 11 (i + 2)))] (sD (wN h (40 + ceA (cWord (I (14 + 2 * (I 11 (i + 1)).toNat) 1) (I 11 (i + 1)) (I 11 (i + 2)))) 6) (zz h I) (zz h L))
      refine aw_istore (lv' := [(5, vi (cWord (I (14 + 2 * (I 11 (i + 1)).toNat) 1) (I 11 (i + 1)) (I 11 (i + 2)))), (4, vi i), (3, vr 268), (2, vr 175), (1, vr 12), (0, vr 11)]) d_La_law_561 (by decide) rfl ?_
      refine aw_aload_n d_La_law_563 rfl rfl ?_
      refine aw_aload_n d_La_law_564 rfl rfl ?_
      refine aw_iload d_La_law_565 rfl ?_
      refine aw_iconst d_La_law_567 ⟨by decide, by decide⟩ ?_
      refine ax_iadd d_La_law_568 ⟨(by omega), (by omega)⟩ ?_
      refine ax_ialde (x := I 11 (i + 1)) d_La_law_569 (k_11 S) (by omega) (by rw [hl]; omega) (Eq.trans (h11 (i + 1)) (rfl)) ?_
      refine aw_aload_n d_La_law_570 rfl rfl ?_
      refine aw_iload d_La_law_571 rfl ?_
      refine aw_iconst d_La_law_573 ⟨by decide, by decide⟩ ?_
      refine ax_iadd d_La_law_574 ⟨(by omega), (by omega)⟩ ?_
      refine ax_ialde (x := I 11 (i + 2)) d_La_law_575 (k_11 S) (by omega) (by rw [hl]; omega) (Eq.trans (h11 (i + 2)) (rfl)) ?_
      refine ax_Vt (st := []) (as := [vi (I 11 (i + 1)), vi (I 11 (i + 2))]) (b := 175) d_La_law_576 cs_La_law_576 (k_175 S) (cT_Mo_word2 S (rel.rb1 er)) rfl rfl rfl (fun v_ h_ p_ => ?_) (fun x_ h_ p_ => ?_)
      · rcases p_ with ⟨p1, y, p2, p3, p4⟩ | ⟨p1, y, p2, p3, p4⟩
        · exact absurd ((cWord_e (fun z => (er.1 186 _ (by omega) (by omega)).trans (cnt rel z).symm)).symm.trans p1) q1
        · cases p3; subst p4
          obtain ⟨y, rfl⟩ := p2
          show AW l G M_law P 579 [(5, vi (cWord (I (14 + 2 * (I 11 (i + 1)).toNat) 1) (I 11 (i + 1)) (I 11 (i + 2)))), (4, vi i), (3, vr 268), (2, vr 175), (1, vr 12), (0, vr 11)] [vl y] (sD (wN h (40 + ceA (cWord (I (14 + 2 * (I 11 (i + 1)).toNat) 1) (I 11 (i + 1)) (I 11 (i + 2)))) 6) (a_up (zz h I) 175 4 (cWord ((zz h I) 186 (I 11 (i + 1))) (I 11 (i + 1)) (I 11 (i + 2)))) (zz h L))
          refine aw_lstore (lv' := [(6, vl y), (5, vi (cWord (I (14 + 2 * (I 11 (i + 1)).toNat) 1) (I 11 (i + 1)) (I 11 (i + 2)))), (4, vi i), (3, vr 268), (2, vr 175), (1, vr 12), (0, vr 11)]) d_La_law_579 (by decide) rfl ?_
          refine aw_aload_n d_La_law_581 rfl rfl ?_
          refine ax_V (st := []) (as := []) (b := 175) (v := some (vi (cWord ((zz h I) 186 (I 11 (i + 1))) (I 11 (i + 1)) (I 11 (i + 2))))) (h' := sD (wN h (40 + ceA (cWord (I (14 + 2 * (I 11 (i + 1)).toNat) 1) (I 11 (i + 1)) (I 11 (i + 2)))) 6) (a_up (zz h I) 175 4 (cWord ((zz h I) 186 (I 11 (i + 1))) (I 11 (i + 1)) (I 11 (i + 2)))) (zz h L)) d_La_law_582 cs_La_law_582 (k_175 S) (by have z := c_Mo_thrown (l := l) (G := G) (h := (wN h (40 + ceA (cWord (I (14 + 2 * (I 11 (i + 1)).toNat) 1) (I 11 (i + 1)) (I 11 (i + 2)))) 6)) (I := a_up (zz h I) 175 4 (cWord ((zz h I) 186 (I 11 (i + 1))) (I 11 (i + 1)) (I 11 (i + 2)))) (L := zz h L) S; rw [a_up_at] at z; exact z) rfl rfl rfl ?_
          show AW l G M_law P 585 [(6, vl y), (5, vi (cWord (I (14 + 2 * (I 11 (i + 1)).toNat) 1) (I 11 (i + 1)) (I 11 (i + 2)))), (4, vi i), (3, vr 268), (2, vr 175), (1, vr 12), (0, vr 11)] [vi (cWord ((zz h I) 186 (I 11 (i + 1))) (I 11 (i + 1)) (I 11 (i + 2)))] (sD (wN h (40 + ceA (cWord (I (14 + 2 * (I 11 (i + 1)).toNat) 1) (I 11 (i + 1)) (I 11 (i + 2)))) 6) (a_up (zz h I) 175 4 (cWord ((zz h I) 186 (I 11 (i + 1))) (I 11 (i + 1)) (I 11 (i + 2)))) (zz h L))
          refine ax_ti (x := cWord (I (14 + 2 * (I 11 (i + 1)).toNat) 1) (I 11 (i + 1)) (I 11 (i + 2))) (cWord_e (fun z => (er.1 186 _ (by omega) (by omega)).trans (cnt rel z).symm)) ?_
          refine aw_iload d_La_law_585 rfl ?_
          refine aw_icmp_eq (tgt := 592) d_La_law_587 (by decide) (fun c_587 => ?_) (fun c_587 => False.elim (by omega))
          refine aw_iload d_La_law_592 rfl ?_
          refine aw_if_ne (tgt := 608) d_La_law_594 (by decide) (fun c_594 => ?_) (fun c_594 => False.elim (by omega))
          refine aw_goto (tgt := 885) d_La_law_608 (by decide) ?_
          refine aw_sub (lv' := [(4, vi i), (3, vr 268), (2, vr 175), (1, vr 12), (0, vr 11)]) (by simp) ?_
          exact hC _ (a_up (zz h I) 175 4 (cWord ((zz h I) 186 (I 11 (i + 1))) (I 11 (i + 1)) (I 11 (i + 2)))) (zz h L) S (rel_len (rel.scr (fun a j y => (zz_ne S0 (by omega)).trans rfl) (zz_ne S0 (by decide)) (fun j => zz_ne S0 (by decide)) (fun j => zz_ne S0 (by decide))) (fun _ => rfl) (fun _ => rfl)) (fun j => (a_up_ne (Or.inl (by decide))).trans (h11 j)) hl (by show hX h + 1 ≤ hX h + 1; omega) (by show hU h + 6 ≤ hU h + 6; omega)
      · rcases p_ with ⟨p1, y, p2, p3, p4⟩ | ⟨p1, y, p2, p3, p4⟩
        · cases p3
        · cases p3
  · rcases q_ with ⟨q1, x, q2, q3, q4⟩ | ⟨q1, q3, q4⟩
    · cases q3
    · cases q3
set_option maxHeartbeats 2000000 in
set_option maxRecDepth 100000 in
theorem law_same {l : Launch} {G : a_G} {P : a_R → Hp → Prop} {h : Hp} {I L : Nat → Int → Int} {i N : Int} (S : Shp h) (hfl : l.flags = flags0) (rel : Rel I L) (rm : hX h + 1 ≤ a_NX ∧ hU h + 6 ≤ a_US) (hl : hN h 11 = N) (hi : 0 ≤ i ∧ i + 6 ≤ N ∧ N ≤ 3072) (hC : ∀ (h' : Hp) (I' L' : Nat → Int → Int), Shp h' → Rel I' L' → (∀ j, I' 11 j = I 11 j) → hN h' 11 = N → hX h' ≤ hX h + 1 → hU h' ≤ hU h + 6 → AW l G M_law P 885 [(4, vi i), (3, vr 268), (2, vr 175), (1, vr 12), (0, vr 11)] [] (sD h' I' L')) : AW l G M_law P 611 [(4, vi i), (3, vr 268), (2, vr 175), (1, vr 12), (0, vr 11)] [] (sD h I L) := by
  refine aw_aload_n d_La_law_611 rfl rfl ?_
  refine aw_aload_n d_La_law_612 rfl rfl ?_
  refine aw_iload d_La_law_613 rfl ?_
  refine aw_iconst d_La_law_615 ⟨by decide, by decide⟩ ?_
  refine ax_iadd d_La_law_616 ⟨(by omega), (by omega)⟩ ?_
  refine ax_ialde (x := I 11 (i + 1)) d_La_law_617 (k_11 S) (by omega) (by rw [hl]; omega) (rfl) ?_
  refine aw_aload_n d_La_law_618 rfl rfl ?_
  refine aw_iload d_La_law_619 rfl ?_
  refine aw_iconst d_La_law_621 ⟨by decide, by decide⟩ ?_
  refine ax_iadd d_La_law_622 ⟨(by omega), (by omega)⟩ ?_
  refine ax_ialde (x := I 11 (i + 2)) d_La_law_623 (k_11 S) (by omega) (by rw [hl]; omega) (rfl) ?_
  refine aw_aload_n d_La_law_624 rfl rfl ?_
  refine ax_St (st := []) (as := [vr 12, vi (I 11 (i + 1)), vi (I 11 (i + 2)), vr 268]) d_La_law_625 cs_La_law_625 (c_La_same S hfl rm rel.cb) rfl rfl rfl (fun v_ h_ q_ => ?_) (fun x_ h_ q_ => ?_)
  · rcases q_ with ⟨q1, x, q2, q3, q4⟩ | ⟨q1, q3, q4⟩
    · cases q3; subst q4
      have cc := cTwo_0 q1
      have er : Ref0 I (I) := ⟨fun a j x y => rfl, rfl⟩
      have h11 : ∀ j, (I) 11 j = I 11 j := fun j => rfl
      show AW l G M_law P 628 [(4, vi i), (3, vr 268), (2, vr 175), (1, vr 12), (0, vr 11)] [vi 0] (sD h I (a_up L 268 0 x))
      refine aw_istore (lv' := [(5, vi 0), (4, vi i), (3, vr 268), (2, vr 175), (1, vr 12), (0, vr 11)]) d_La_law_628 (by decide) rfl ?_
      refine aw_aload_n d_La_law_630 rfl rfl ?_
      refine aw_aload_n d_La_law_631 rfl rfl ?_
      refine aw_iload d_La_law_632 rfl ?_
      refine aw_iconst d_La_law_634 ⟨by decide, by decide⟩ ?_
      refine ax_iadd d_La_law_635 ⟨(by omega), (by omega)⟩ ?_
      refine ax_ialde (x := I 11 (i + 1)) d_La_law_636 (k_11 S) (by omega) (by rw [hl]; omega) (rfl) ?_
      refine aw_aload_n d_La_law_637 rfl rfl ?_
      refine aw_iload d_La_law_638 rfl ?_
      refine aw_iconst d_La_law_640 ⟨by decide, by decide⟩ ?_
      refine ax_iadd d_La_law_641 ⟨(by omega), (by omega)⟩ ?_
      refine ax_ialde (x := I 11 (i + 2)) d_La_law_642 (k_11 S) (by omega) (by rw [hl]; omega) (rfl) ?_
      refine ax_Vt (st := []) (as := [vi (I 11 (i + 1)), vi (I 11 (i + 2))]) (b := 175) d_La_law_643 cs_La_law_643 (k_175 S) (cT_Mo_same S (rel.rb1 er)) rfl rfl rfl (fun v_ h_ p_ => ?_) (fun x_ h_ p_ => ?_)
      · rcases p_ with ⟨p1, y, p2, p3, p4⟩ | ⟨p1, y, p2, p3, p4⟩
        · cases p3; subst p4
          obtain ⟨z, rfl, z1, z2⟩ := p2
          have c0 : cTwo (I 11 (i + 1)) (I 11 (i + 2)) = 0 := q1
          show AW l G M_law P 646 [(5, vi 0), (4, vi i), (3, vr 268), (2, vr 175), (1, vr 12), (0, vr 11)] [vi z] (sD h (a_up (I) 175 4 0) (a_up L 268 0 x))
          refine aw_istore (lv' := [(6, vi z), (5, vi 0), (4, vi i), (3, vr 268), (2, vr 175), (1, vr 12), (0, vr 11)]) d_La_law_646 (by decide) rfl ?_
          refine aw_aload_n d_La_law_648 rfl rfl ?_
          refine ax_V (st := []) (as := []) (b := 175) (v := some (vi 0)) (h' := sD h (a_up (I) 175 4 0) (a_up L 268 0 x)) d_La_law_649 cs_La_law_649 (k_175 S) (by have z := c_Mo_thrown (l := l) (G := G) (h := h) (I := a_up (I) 175 4 0) (L := a_up L 268 0 x) S; rw [a_up_at] at z; exact z) rfl rfl rfl ?_
          show AW l G M_law P 652 [(6, vi z), (5, vi 0), (4, vi i), (3, vr 268), (2, vr 175), (1, vr 12), (0, vr 11)] [vi 0] (sD h (a_up (I) 175 4 0) (a_up L 268 0 x))
          refine aw_iload d_La_law_652 rfl ?_
          refine aw_icmp_eq (tgt := 659) d_La_law_654 (by decide) (fun c_654 => ?_) (fun c_654 => False.elim (by omega))
          refine aw_iload d_La_law_659 rfl ?_
          refine aw_if_ne (tgt := 683) d_La_law_661 (by decide) (fun c_661 => False.elim (by omega)) (fun c_661 => ?_)
          refine aw_aload_n d_La_law_664 rfl rfl ?_
          refine aw_iconst d_La_law_665 ⟨by decide, by decide⟩ ?_
          refine ax_lalde (x := x) d_La_law_666 (k_268 S) (by omega) (by rw [n_268 S]; omega) (a_up_at) ?_
          refine aw_iload d_La_law_667 rfl ?_
          refine aw_if_eq (tgt := 676) d_La_law_669 (by decide) (fun c_669 => ?_) (fun c_669 => ?_)
          · skip
            refine aw_lconst (x := 0) d_La_law_676 ⟨by decide, by decide⟩ (by decide) ?_
            refine aw_lcmp d_La_law_677 ?_
            refine aw_if_eq (tgt := 683) d_La_law_678 (by decide) (fun c_678 => ?_) (fun c_678 => False.elim (c_678 (lc0 (by have rs := rel_same rel cc.1 cc.2; have zx := q2.2.trans (rs.trans z2.symm); have q21 := q2.1; omega))))
            refine aw_goto (tgt := 885) d_La_law_683 (by decide) ?_
            refine aw_sub (lv' := [(4, vi i), (3, vr 268), (2, vr 175), (1, vr 12), (0, vr 11)]) (by simp) ?_
            exact hC h (a_up (I) 175 4 0) (a_up L 268 0 x) S (rel_len rel (fun j => a_up_ne (Or.inl (by decide))) (fun j => a_up_ne (Or.inl (by decide)))) (fun j => a_up_ne (Or.inl (by decide))) hl (by omega) (by omega)
          · skip
            refine aw_lconst (x := 1) d_La_law_672 ⟨by decide, by decide⟩ (by decide) ?_
            refine aw_goto (tgt := 677) d_La_law_673 (by decide) ?_
            refine aw_lcmp d_La_law_677 ?_
            refine aw_if_eq (tgt := 683) d_La_law_678 (by decide) (fun c_678 => ?_) (fun c_678 => False.elim (c_678 (lc0 (by have rs := rel_same rel cc.1 cc.2; have zx := q2.2.trans (rs.trans z2.symm); have q21 := q2.1; omega))))
            refine aw_goto (tgt := 885) d_La_law_683 (by decide) ?_
            refine aw_sub (lv' := [(4, vi i), (3, vr 268), (2, vr 175), (1, vr 12), (0, vr 11)]) (by simp) ?_
            exact hC h (a_up (I) 175 4 0) (a_up L 268 0 x) S (rel_len rel (fun j => a_up_ne (Or.inl (by decide))) (fun j => a_up_ne (Or.inl (by decide)))) (fun j => a_up_ne (Or.inl (by decide))) hl (by omega) (by omega)
        · exact absurd (((rfl : cTwo (I 11 (i + 1)) (I 11 (i + 2)) = _)).trans q1) p1
      · rcases p_ with ⟨p1, y, p2, p3, p4⟩ | ⟨p1, y, p2, p3, p4⟩
        · cases p3
        · cases p3
    · cases q3; subst q4
      refine ax_hp (h' := sD (wN h (40 + ceA (cTwo (I 11 (i + 1)) (I 11 (i + 2)))) 6) (zz h I) (zz h L)) rfl ?_
      have er : Ref0 I (zz h I) := Ref0.zz S ⟨fun _ _ _ _ => rfl, rfl⟩
      have h11 : ∀ j, (zz h I) 11 j = I 11 j := fun j => zz_ne S (by decide)
      have S0 := S
      have S := Shp_wN (q := 40 + ceA (cTwo (I 11 (i + 1)) (I 11 (i + 2)))) (n := 6) S0
      have hl0 := hl
      have hl : hN (wN h (40 + ceA (cTwo (I 11 (i + 1)) (I 11 (i + 2)))) 6) 11 = N := (wN_11 S0).trans hl0
      show AW l G M_law P 628 [(4, vi i), (3, vr 268), (2, vr 175), (1, vr 12), (0, vr 11)] [vi (cTwo (I 11 (i + 1)) (I 11 (i + 2)))] (sD (wN h (40 + ceA (cTwo (I 11 (i + 1)) (I 11 (i + 2)))) 6) (zz h I) (zz h L))
      refine aw_istore (lv' := [(5, vi (cTwo (I 11 (i + 1)) (I 11 (i + 2)))), (4, vi i), (3, vr 268), (2, vr 175), (1, vr 12), (0, vr 11)]) d_La_law_628 (by decide) rfl ?_
      refine aw_aload_n d_La_law_630 rfl rfl ?_
      refine aw_aload_n d_La_law_631 rfl rfl ?_
      refine aw_iload d_La_law_632 rfl ?_
      refine aw_iconst d_La_law_634 ⟨by decide, by decide⟩ ?_
      refine ax_iadd d_La_law_635 ⟨(by omega), (by omega)⟩ ?_
      refine ax_ialde (x := I 11 (i + 1)) d_La_law_636 (k_11 S) (by omega) (by rw [hl]; omega) (Eq.trans (h11 (i + 1)) (rfl)) ?_
      refine aw_aload_n d_La_law_637 rfl rfl ?_
      refine aw_iload d_La_law_638 rfl ?_
      refine aw_iconst d_La_law_640 ⟨by decide, by decide⟩ ?_
      refine ax_iadd d_La_law_641 ⟨(by omega), (by omega)⟩ ?_
      refine ax_ialde (x := I 11 (i + 2)) d_La_law_642 (k_11 S) (by omega) (by rw [hl]; omega) (Eq.trans (h11 (i + 2)) (rfl)) ?_
      refine ax_Vt (st := []) (as := [vi (I 11 (i + 1)), vi (I 11 (i + 2))]) (b := 175) d_La_law_643 cs_La_law_643 (k_175 S) (cT_Mo_same S (rel.rb1 er)) rfl rfl rfl (fun v_ h_ p_ => ?_) (fun x_ h_ p_ => ?_)
      · rcases p_ with ⟨p1, y, p2, p3, p4⟩ | ⟨p1, y, p2, p3, p4⟩
        · exact absurd (((rfl : cTwo (I 11 (i + 1)) (I 11 (i + 2)) = _)).symm.trans p1) q1
        · cases p3; subst p4
          obtain ⟨y, rfl⟩ := p2
          show AW l G M_law P 646 [(5, vi (cTwo (I 11 (i + 1)) (I 11 (i + 2)))), (4, vi i), (3, vr 268), (2, vr 175), (1, vr 12), (0, vr 11)] [vi y] (sD (wN h (40 + ceA (cTwo (I 11 (i + 1)) (I 11 (i + 2)))) 6) (a_up (zz h I) 175 4 (cTwo (I 11 (i + 1)) (I 11 (i + 2)))) (zz h L))
          refine aw_istore (lv' := [(6, vi y), (5, vi (cTwo (I 11 (i + 1)) (I 11 (i + 2)))), (4, vi i), (3, vr 268), (2, vr 175), (1, vr 12), (0, vr 11)]) d_La_law_646 (by decide) rfl ?_
          refine aw_aload_n d_La_law_648 rfl rfl ?_
          refine ax_V (st := []) (as := []) (b := 175) (v := some (vi (cTwo (I 11 (i + 1)) (I 11 (i + 2))))) (h' := sD (wN h (40 + ceA (cTwo (I 11 (i + 1)) (I 11 (i + 2)))) 6) (a_up (zz h I) 175 4 (cTwo (I 11 (i + 1)) (I 11 (i + 2)))) (zz h L)) d_La_law_649 cs_La_law_649 (k_175 S) (by have z := c_Mo_thrown (l := l) (G := G) (h := (wN h (40 + ceA (cTwo (I 11 (i + 1)) (I 11 (i + 2)))) 6)) (I := a_up (zz h I) 175 4 (cTwo (I 11 (i + 1)) (I 11 (i + 2)))) (L := zz h L) S; rw [a_up_at] at z; exact z) rfl rfl rfl ?_
          show AW l G M_law P 652 [(6, vi y), (5, vi (cTwo (I 11 (i + 1)) (I 11 (i + 2)))), (4, vi i), (3, vr 268), (2, vr 175), (1, vr 12), (0, vr 11)] [vi (cTwo (I 11 (i + 1)) (I 11 (i + 2)))] (sD (wN h (40 + ceA (cTwo (I 11 (i + 1)) (I 11 (i + 2)))) 6) (a_up (zz h I) 175 4 (cTwo (I 11 (i + 1)) (I 11 (i + 2)))) (zz h L))
          refine ax_ti (x := cTwo (I 11 (i + 1)) (I 11 (i + 2))) ((rfl : cTwo (I 11 (i + 1)) (I 11 (i + 2)) = _)) ?_
          refine aw_iload d_La_law_652 rfl ?_
          refine aw_icmp_eq (tgt := 659) d_La_law_654 (by decide) (fun c_654 => ?_) (fun c_654 => False.elim (by omega))
          refine aw_iload d_La_law_659 rfl ?_
          refine aw_if_ne (tgt := 683) d_La_law_661 (by decide) (fun c_661 => ?_) (fun c_661 => False.elim (by omega))
          refine aw_goto (tgt := 885) d_La_law_683 (by decide) ?_
          refine aw_sub (lv' := [(4, vi i), (3, vr 268), (2, vr 175), (1, vr 12), (0, vr 11)]) (by simp) ?_
          exact hC _ (a_up (zz h I) 175 4 (cTwo (I 11 (i + 1)) (I 11 (i + 2)))) (zz h L) S (rel_len (rel.scr (fun a j y => (zz_ne S0 (by omega)).trans rfl) (zz_ne S0 (by decide)) (fun j => zz_ne S0 (by decide)) (fun j => zz_ne S0 (by decide))) (fun _ => rfl) (fun _ => rfl)) (fun j => (a_up_ne (Or.inl (by decide))).trans (h11 j)) hl (by show hX h + 1 ≤ hX h + 1; omega) (by show hU h + 6 ≤ hU h + 6; omega)
      · rcases p_ with ⟨p1, y, p2, p3, p4⟩ | ⟨p1, y, p2, p3, p4⟩
        · cases p3
        · cases p3
  · rcases q_ with ⟨q1, x, q2, q3, q4⟩ | ⟨q1, q3, q4⟩
    · cases q3
    · cases q3
set_option maxHeartbeats 2000000 in
set_option maxRecDepth 100000 in
theorem law_dsaKeys {l : Launch} {G : a_G} {P : a_R → Hp → Prop} {h : Hp} {I L : Nat → Int → Int} {i N : Int} (S : Shp h) (hfl : l.flags = flags0) (rel : Rel I L) (rm : hX h + 1 ≤ a_NX ∧ hU h + 6 ≤ a_US) (hl : hN h 11 = N) (hi : 0 ≤ i ∧ i + 6 ≤ N ∧ N ≤ 3072) (hC : ∀ (h' : Hp) (I' L' : Nat → Int → Int), Shp h' → Rel I' L' → (∀ j, I' 11 j = I 11 j) → hN h' 11 = N → hX h' ≤ hX h + 1 → hU h' ≤ hU h + 6 → AW l G M_law P 885 [(4, vi i), (3, vr 268), (2, vr 175), (1, vr 12), (0, vr 11)] [] (sD h' I' L')) : AW l G M_law P 686 [(4, vi i), (3, vr 268), (2, vr 175), (1, vr 12), (0, vr 11)] [] (sD h I L) := by
  refine aw_aload_n d_La_law_686 rfl rfl ?_
  refine aw_aload_n d_La_law_687 rfl rfl ?_
  refine aw_iload d_La_law_688 rfl ?_
  refine aw_iconst d_La_law_690 ⟨by decide, by decide⟩ ?_
  refine ax_iadd d_La_law_691 ⟨(by omega), (by omega)⟩ ?_
  refine ax_ialde (x := I 11 (i + 1)) d_La_law_692 (k_11 S) (by omega) (by rw [hl]; omega) (rfl) ?_
  refine aw_aload_n d_La_law_693 rfl rfl ?_
  refine ax_St (st := []) (as := [vr 12, vi (I 11 (i + 1)), vr 268]) d_La_law_694 cs_La_law_694 (c_La_dsaKeys S hfl rm rel.1 rel.cb) rfl rfl rfl (fun v_ h_ q_ => ?_) (fun x_ h_ q_ => ?_)
  · rcases q_ with ⟨q1, x, I1, L1, q2, q3, q4⟩ | ⟨q1, I1, L1, q2, q3, q4⟩
    · cases q3; subst q4
      have cc := cKeys_z q1
      have er : Ref0 I (I1) := q2.1.ref (by intro a x; omega)
      have h11 : ∀ j, (I1) 11 j = I 11 j := fun j => q2.1.1 11 j (by omega)
      show AW l G M_law P 697 [(4, vi i), (3, vr 268), (2, vr 175), (1, vr 12), (0, vr 11)] [vi 0] (sD h I1 (a_up L1 268 0 x))
      refine aw_istore (lv' := [(5, vi 0), (4, vi i), (3, vr 268), (2, vr 175), (1, vr 12), (0, vr 11)]) d_La_law_697 (by decide) rfl ?_
      refine aw_aload_n d_La_law_699 rfl rfl ?_
      refine aw_aload_n d_La_law_700 rfl rfl ?_
      refine aw_iload d_La_law_701 rfl ?_
      refine aw_iconst d_La_law_703 ⟨by decide, by decide⟩ ?_
      refine ax_iadd d_La_law_704 ⟨(by omega), (by omega)⟩ ?_
      refine ax_ialde (x := I 11 (i + 1)) d_La_law_705 (k_11 S) (by omega) (by rw [hl]; omega) (Eq.trans (h11 (i + 1)) (rfl)) ?_
      refine ax_Vt (st := []) (as := [vi (I 11 (i + 1))]) (b := 175) d_La_law_706 cs_La_law_706 (k_175 S) (c_Mo_dsaKeys S (rel.rs1 er (fun j => (a_up_ne (Or.inl (by decide))).trans (q2.1.2 194 j (by decide) (by decide) (by decide))))) rfl rfl rfl (fun v_ h_ p_ => ?_) (fun x_ h_ p_ => ?_)
      · obtain ⟨y, I2, L2, p3, p4, p5, p6⟩ := p_
        cases p3; subst p4
        have pk := (p6.resolve_right (fun z => z.1 ((keys_code rel er).trans q1)))
        have p5 : I2 175 4 = 0 := p5.trans ((keys_code rel er).trans q1)
        have l268 : L2 268 0 = x := (pk.2.1.2.2 268 0 (by omega)).trans a_up_at
        show AW l G M_law P 709 [(5, vi 0), (4, vi i), (3, vr 268), (2, vr 175), (1, vr 12), (0, vr 11)] [vi y] (sD h I2 L2)
        refine aw_istore (lv' := [(6, vi y), (5, vi 0), (4, vi i), (3, vr 268), (2, vr 175), (1, vr 12), (0, vr 11)]) d_La_law_709 (by decide) rfl ?_
        refine aw_aload_n d_La_law_711 rfl rfl ?_
        refine ax_V (st := []) (as := []) (b := 175) (v := some (vi 0)) (h' := sD h I2 L2) d_La_law_712 cs_La_law_712 (k_175 S) (by have z := c_Mo_thrown (l := l) (G := G) (h := h) (I := I2) (L := L2) S; rw [p5] at z; exact z) rfl rfl rfl ?_
        show AW l G M_law P 715 [(6, vi y), (5, vi 0), (4, vi i), (3, vr 268), (2, vr 175), (1, vr 12), (0, vr 11)] [vi 0] (sD h I2 L2)
        refine aw_iload d_La_law_715 rfl ?_
        refine aw_icmp_eq (tgt := 722) d_La_law_717 (by decide) (fun c_717 => ?_) (fun c_717 => False.elim (by omega))
        refine aw_iload d_La_law_722 rfl ?_
        refine aw_if_ne (tgt := 739) d_La_law_724 (by decide) (fun c_724 => False.elim (by omega)) (fun c_724 => ?_)
        refine aw_aload_n d_La_law_727 rfl rfl ?_
        refine aw_iconst d_La_law_728 ⟨by decide, by decide⟩ ?_
        refine ax_lalde (x := x) d_La_law_729 (k_268 S) (by omega) (by rw [n_268 S]; omega) (l268) ?_
        refine aw_iload d_La_law_730 rfl ?_
        refine aw_i2l d_La_law_732 ?_
        refine aw_lcmp d_La_law_733 ?_
        refine aw_if_eq (tgt := 739) d_La_law_734 (by decide) (fun c_734 => ?_) (fun c_734 => False.elim (c_734 (lc0 (q2.2.1.trans pk.2.2.1.symm))))
        refine aw_goto (tgt := 885) d_La_law_739 (by decide) ?_
        refine aw_sub (lv' := [(4, vi i), (3, vr 268), (2, vr 175), (1, vr 12), (0, vr 11)]) (by simp) ?_
        exact hC h (I2) (L2) S (rel_keys rel cc.2 q2.1 q2.2.2.1 q2.2.2.2 pk.2.1 pk.2.2.2) (fun j => (pk.2.1.1 11 j (by omega) (by omega)).trans (h11 j)) hl (by omega) (by omega)
      · obtain ⟨y, I2, L2, p3, p4, p5, p6⟩ := p_
        cases p3
    · cases q3; subst q4
      refine ax_hp (h' := sD (wN h (40 + ceK (cKeys (I 11 (i + 1)) (I 14 1) (fun x => byAt I 14 15 (0 + x)))) 6) (zz h I1) (zz h L1)) rfl ?_
      have er : Ref0 I (zz h I1) := Ref0.zz S q2.ref
      have h11 : ∀ j, (zz h I1) 11 j = I 11 j := fun j => (zz_ne S (by decide)).trans (q2.1 11 j (by omega))
      have S0 := S
      have S := Shp_wN (q := 40 + ceK (cKeys (I 11 (i + 1)) (I 14 1) (fun x => byAt I 14 15 (0 + x)))) (n := 6) S0
      have hl0 := hl
      have hl : hN (wN h (40 + ceK (cKeys (I 11 (i + 1)) (I 14 1) (fun x => byAt I 14 15 (0 + x)))) 6) 11 = N := (wN_11 S0).trans hl0
      show AW l G M_law P 697 [(4, vi i), (3, vr 268), (2, vr 175), (1, vr 12), (0, vr 11)] [vi (cKeys (I 11 (i + 1)) (I 14 1) (fun x => byAt I 14 15 (0 + x)))] (sD (wN h (40 + ceK (cKeys (I 11 (i + 1)) (I 14 1) (fun x => byAt I 14 15 (0 + x)))) 6) (zz h I1) (zz h L1))
      refine aw_istore (lv' := [(5, vi (cKeys (I 11 (i + 1)) (I 14 1) (fun x => byAt I 14 15 (0 + x)))), (4, vi i), (3, vr 268), (2, vr 175), (1, vr 12), (0, vr 11)]) d_La_law_697 (by decide) rfl ?_
      refine aw_aload_n d_La_law_699 rfl rfl ?_
      refine aw_aload_n d_La_law_700 rfl rfl ?_
      refine aw_iload d_La_law_701 rfl ?_
      refine aw_iconst d_La_law_703 ⟨by decide, by decide⟩ ?_
      refine ax_iadd d_La_law_704 ⟨(by omega), (by omega)⟩ ?_
      refine ax_ialde (x := I 11 (i + 1)) d_La_law_705 (k_11 S) (by omega) (by rw [hl]; omega) (Eq.trans (h11 (i + 1)) (rfl)) ?_
      refine ax_Vt (st := []) (as := [vi (I 11 (i + 1))]) (b := 175) d_La_law_706 cs_La_law_706 (k_175 S) (c_Mo_dsaKeys S (rel.rs1 er (fun j => (zz_ne S0 (by decide)).trans (q2.2 194 j (by decide) (by decide) (by decide))))) rfl rfl rfl (fun v_ h_ p_ => ?_) (fun x_ h_ p_ => ?_)
      · obtain ⟨y, I2, L2, p3, p4, p5, p6⟩ := p_
        cases p3; subst p4
        have pk := (p6.resolve_left (fun z => q1 ((keys_code rel er).symm.trans z.1))).2
        show AW l G M_law P 709 [(5, vi (cKeys (I 11 (i + 1)) (I 14 1) (fun x => byAt I 14 15 (0 + x)))), (4, vi i), (3, vr 268), (2, vr 175), (1, vr 12), (0, vr 11)] [vi y] (sD (wN h (40 + ceK (cKeys (I 11 (i + 1)) (I 14 1) (fun x => byAt I 14 15 (0 + x)))) 6) I2 L2)
        refine aw_istore (lv' := [(6, vi y), (5, vi (cKeys (I 11 (i + 1)) (I 14 1) (fun x => byAt I 14 15 (0 + x)))), (4, vi i), (3, vr 268), (2, vr 175), (1, vr 12), (0, vr 11)]) d_La_law_709 (by decide) rfl ?_
        refine aw_aload_n d_La_law_711 rfl rfl ?_
        refine ax_V (st := []) (as := []) (b := 175) (v := some (vi (cKeys (I 11 (i + 1)) ((zz h I1) 186 0) (fun k => (zz h I1) 178 (0 + k))))) (h' := sD (wN h (40 + ceK (cKeys (I 11 (i + 1)) (I 14 1) (fun x => byAt I 14 15 (0 + x)))) 6) I2 L2) d_La_law_712 cs_La_law_712 (k_175 S) (by have z := c_Mo_thrown (l := l) (G := G) (h := (wN h (40 + ceK (cKeys (I 11 (i + 1)) (I 14 1) (fun x => byAt I 14 15 (0 + x)))) 6)) (I := I2) (L := L2) S; rw [p5] at z; exact z) rfl rfl rfl ?_
        show AW l G M_law P 715 [(6, vi y), (5, vi (cKeys (I 11 (i + 1)) (I 14 1) (fun x => byAt I 14 15 (0 + x)))), (4, vi i), (3, vr 268), (2, vr 175), (1, vr 12), (0, vr 11)] [vi (cKeys (I 11 (i + 1)) ((zz h I1) 186 0) (fun k => (zz h I1) 178 (0 + k)))] (sD (wN h (40 + ceK (cKeys (I 11 (i + 1)) (I 14 1) (fun x => byAt I 14 15 (0 + x)))) 6) I2 L2)
        refine ax_ti (x := cKeys (I 11 (i + 1)) (I 14 1) (fun x => byAt I 14 15 (0 + x))) (keys_code rel er) ?_
        refine aw_iload d_La_law_715 rfl ?_
        refine aw_icmp_eq (tgt := 722) d_La_law_717 (by decide) (fun c_717 => ?_) (fun c_717 => False.elim (by omega))
        refine aw_iload d_La_law_722 rfl ?_
        refine aw_if_ne (tgt := 739) d_La_law_724 (by decide) (fun c_724 => ?_) (fun c_724 => False.elim (by omega))
        refine aw_goto (tgt := 885) d_La_law_739 (by decide) ?_
        refine aw_sub (lv' := [(4, vi i), (3, vr 268), (2, vr 175), (1, vr 12), (0, vr 11)]) (by simp) ?_
        exact hC _ (I2) (L2) S (rel.scr (fun a j y => (pk.1 a j (by omega) (fun z => z)).trans ((zz_ne S0 (by omega)).trans (q2.1 a j (by omega)))) (pk.2.1.trans ((zz_ne S0 (by decide)).trans (q2.1 175 3 (by omega)))) (fun j => (pk.2.2 8 j (by omega)).trans ((zz_ne S0 (by decide)).trans (q2.2 8 j (by decide) (by decide) (by decide)))) (fun j => (pk.2.2 194 j (by omega)).trans ((zz_ne S0 (by decide)).trans (q2.2 194 j (by decide) (by decide) (by decide))))) (fun j => (pk.1 11 j (by omega) (fun z => z)).trans (h11 j)) hl (by show hX h + 1 ≤ hX h + 1; omega) (by show hU h + 6 ≤ hU h + 6; omega)
      · obtain ⟨y, I2, L2, p3, p4, p5, p6⟩ := p_
        cases p3
  · rcases q_ with ⟨q1, x, I1, L1, q2, q3, q4⟩ | ⟨q1, I1, L1, q2, q3, q4⟩
    · cases q3
    · cases q3
set_option maxHeartbeats 2000000 in
set_option maxRecDepth 100000 in
theorem law_dsaSign {l : Launch} {G : a_G} {P : a_R → Hp → Prop} {h : Hp} {I L : Nat → Int → Int} {i N : Int} (S : Shp h) (hfl : l.flags = flags0) (rel : Rel I L) (rm : hX h + 1 ≤ a_NX ∧ hU h + 6 ≤ a_US) (hl : hN h 11 = N) (hi : 0 ≤ i ∧ i + 6 ≤ N ∧ N ≤ 3072) (hC : ∀ (h' : Hp) (I' L' : Nat → Int → Int), Shp h' → Rel I' L' → (∀ j, I' 11 j = I 11 j) → hN h' 11 = N → hX h' ≤ hX h + 1 → hU h' ≤ hU h + 6 → AW l G M_law P 885 [(4, vi i), (3, vr 268), (2, vr 175), (1, vr 12), (0, vr 11)] [] (sD h' I' L')) : AW l G M_law P 742 [(4, vi i), (3, vr 268), (2, vr 175), (1, vr 12), (0, vr 11)] [] (sD h I L) := by
  refine aw_aload_n d_La_law_742 rfl rfl ?_
  refine aw_aload_n d_La_law_743 rfl rfl ?_
  refine aw_iload d_La_law_744 rfl ?_
  refine aw_iconst d_La_law_746 ⟨by decide, by decide⟩ ?_
  refine ax_iadd d_La_law_747 ⟨(by omega), (by omega)⟩ ?_
  refine ax_ialde (x := I 11 (i + 1)) d_La_law_748 (k_11 S) (by omega) (by rw [hl]; omega) (rfl) ?_
  refine aw_aload_n d_La_law_749 rfl rfl ?_
  refine aw_iload d_La_law_750 rfl ?_
  refine aw_iconst d_La_law_752 ⟨by decide, by decide⟩ ?_
  refine ax_iadd d_La_law_753 ⟨(by omega), (by omega)⟩ ?_
  refine ax_ialde (x := I 11 (i + 2)) d_La_law_754 (k_11 S) (by omega) (by rw [hl]; omega) (rfl) ?_
  refine aw_aload_n d_La_law_755 rfl rfl ?_
  refine ax_St (st := []) (as := [vr 12, vi (I 11 (i + 1)), vi (I 11 (i + 2)), vr 268]) d_La_law_756 cs_La_law_756 (c_La_dsaSign S hfl rm rel.1 rel.cb) rfl rfl rfl (fun v_ h_ q_ => ?_) (fun x_ h_ q_ => ?_)
  · rcases q_ with ⟨q1, x, I1, L1, q2, q3, q4⟩ | ⟨q1, I1, L1, q2, q3, q4⟩
    · cases q3; subst q4
      have er : Ref0 I (I1) := q2.1.ref (by intro a x; omega)
      have h11 : ∀ j, (I1) 11 j = I 11 j := fun j => q2.1.1 11 j (by omega)
      show AW l G M_law P 759 [(4, vi i), (3, vr 268), (2, vr 175), (1, vr 12), (0, vr 11)] [vi 0] (sD h I1 (a_up L1 268 0 x))
      refine aw_istore (lv' := [(5, vi 0), (4, vi i), (3, vr 268), (2, vr 175), (1, vr 12), (0, vr 11)]) d_La_law_759 (by decide) rfl ?_
      refine aw_aload_n d_La_law_761 rfl rfl ?_
      refine aw_aload_n d_La_law_762 rfl rfl ?_
      refine aw_iload d_La_law_763 rfl ?_
      refine aw_iconst d_La_law_765 ⟨by decide, by decide⟩ ?_
      refine ax_iadd d_La_law_766 ⟨(by omega), (by omega)⟩ ?_
      refine ax_ialde (x := I 11 (i + 1)) d_La_law_767 (k_11 S) (by omega) (by rw [hl]; omega) (Eq.trans (h11 (i + 1)) (rfl)) ?_
      refine aw_aload_n d_La_law_768 rfl rfl ?_
      refine aw_iload d_La_law_769 rfl ?_
      refine aw_iconst d_La_law_771 ⟨by decide, by decide⟩ ?_
      refine ax_iadd d_La_law_772 ⟨(by omega), (by omega)⟩ ?_
      refine ax_ialde (x := I 11 (i + 2)) d_La_law_773 (k_11 S) (by omega) (by rw [hl]; omega) (Eq.trans (h11 (i + 2)) (rfl)) ?_
      refine ax_Vt (st := []) (as := [vi (I 11 (i + 1)), vi (I 11 (i + 2))]) (b := 175) d_La_law_774 cs_La_law_774 (k_175 S) (c_Mo_dsaSign S (rel.rs1 er (fun j => (a_up_ne (Or.inl (by decide))).trans (q2.1.2 194 j (by decide) (by decide) (by decide)))) (rel.rb1 er)) rfl rfl rfl (fun v_ h_ p_ => ?_) (fun x_ h_ p_ => ?_)
      · obtain ⟨y, I2, L2, p3, p4, p5, p6⟩ := p_
        cases p3; subst p4
        have pk := (p6.resolve_right (fun z => z.1 ((sign_code rel er).trans q1)))
        have p5 : I2 175 4 = 0 := p5.trans ((sign_code rel er).trans q1)
        have l268 : L2 268 0 = x := (pk.2.1.2.2 268 0 (by omega)).trans a_up_at
        have rx := rel_sign rel q1 q2 pk.2.1 pk.2.2
        show AW l G M_law P 777 [(5, vi 0), (4, vi i), (3, vr 268), (2, vr 175), (1, vr 12), (0, vr 11)] [vi y] (sD h I2 L2)
        refine aw_istore (lv' := [(6, vi y), (5, vi 0), (4, vi i), (3, vr 268), (2, vr 175), (1, vr 12), (0, vr 11)]) d_La_law_777 (by decide) rfl ?_
        refine aw_aload_n d_La_law_779 rfl rfl ?_
        refine ax_V (st := []) (as := []) (b := 175) (v := some (vi 0)) (h' := sD h I2 L2) d_La_law_780 cs_La_law_780 (k_175 S) (by have z := c_Mo_thrown (l := l) (G := G) (h := h) (I := I2) (L := L2) S; rw [p5] at z; exact z) rfl rfl rfl ?_
        show AW l G M_law P 783 [(6, vi y), (5, vi 0), (4, vi i), (3, vr 268), (2, vr 175), (1, vr 12), (0, vr 11)] [vi 0] (sD h I2 L2)
        refine aw_iload d_La_law_783 rfl ?_
        refine aw_icmp_eq (tgt := 790) d_La_law_785 (by decide) (fun c_785 => ?_) (fun c_785 => False.elim (by omega))
        refine aw_iload d_La_law_790 rfl ?_
        refine aw_if_ne (tgt := 807) d_La_law_792 (by decide) (fun c_792 => False.elim (by omega)) (fun c_792 => ?_)
        refine aw_aload_n d_La_law_795 rfl rfl ?_
        refine aw_iconst d_La_law_796 ⟨by decide, by decide⟩ ?_
        refine ax_lalde (x := x) d_La_law_797 (k_268 S) (by omega) (by rw [n_268 S]; omega) (l268) ?_
        refine aw_iload d_La_law_798 rfl ?_
        refine aw_i2l d_La_law_800 ?_
        refine aw_lcmp d_La_law_801 ?_
        refine aw_if_eq (tgt := 807) d_La_law_802 (by decide) (fun c_802 => ?_) (fun c_802 => False.elim (c_802 (lc0 rx.2)))
        refine aw_goto (tgt := 885) d_La_law_807 (by decide) ?_
        refine aw_sub (lv' := [(4, vi i), (3, vr 268), (2, vr 175), (1, vr 12), (0, vr 11)]) (by simp) ?_
        exact hC h (I2) (L2) S (rx.1) (fun j => (pk.2.1.1 11 j (by omega) (by omega)).trans (h11 j)) hl (by omega) (by omega)
      · obtain ⟨y, I2, L2, p3, p4, p5, p6⟩ := p_
        cases p3
    · cases q3; subst q4
      refine ax_hp (h' := sD (wN h (40 + ce4 (c4 ((0 ≤ (I 11 (i + 1)) ∧ (I 11 (i + 1)) < 3) ∧ ((I 11 (i + 2)) = 0 ∨ (I 11 (i + 2)) = -1)) (((I 11 (i + 2)) ≠ 0 ∨ I 22 1 ≤ 255) ∧ (I 14 1 = 32 ∨ I 14 1 = 0)) (I 18 1 = sSec (I 11 (i + 1))) (sgOk (I 11 (i + 1)) (byAt I 18 19) ∧ sgRun (I 11 (i + 1)) (byAt I 18 19) (rhC I ((I 11 (i + 2)))) (muC I (fun k => byAt I 18 19 (64 + k)) ((I 11 (i + 2)))) 814 0 ≠ none))) 6) (zz h I1) (zz h L1)) rfl ?_
      have er : Ref0 I (zz h I1) := Ref0.zz S q2.ref
      have h11 : ∀ j, (zz h I1) 11 j = I 11 j := fun j => (zz_ne S (by decide)).trans (q2.1 11 j (by omega))
      have S0 := S
      have S := Shp_wN (q := 40 + ce4 (c4 ((0 ≤ (I 11 (i + 1)) ∧ (I 11 (i + 1)) < 3) ∧ ((I 11 (i + 2)) = 0 ∨ (I 11 (i + 2)) = -1)) (((I 11 (i + 2)) ≠ 0 ∨ I 22 1 ≤ 255) ∧ (I 14 1 = 32 ∨ I 14 1 = 0)) (I 18 1 = sSec (I 11 (i + 1))) (sgOk (I 11 (i + 1)) (byAt I 18 19) ∧ sgRun (I 11 (i + 1)) (byAt I 18 19) (rhC I ((I 11 (i + 2)))) (muC I (fun k => byAt I 18 19 (64 + k)) ((I 11 (i + 2)))) 814 0 ≠ none))) (n := 6) S0
      have hl0 := hl
      have hl : hN (wN h (40 + ce4 (c4 ((0 ≤ (I 11 (i + 1)) ∧ (I 11 (i + 1)) < 3) ∧ ((I 11 (i + 2)) = 0 ∨ (I 11 (i + 2)) = -1)) (((I 11 (i + 2)) ≠ 0 ∨ I 22 1 ≤ 255) ∧ (I 14 1 = 32 ∨ I 14 1 = 0)) (I 18 1 = sSec (I 11 (i + 1))) (sgOk (I 11 (i + 1)) (byAt I 18 19) ∧ sgRun (I 11 (i + 1)) (byAt I 18 19) (rhC I ((I 11 (i + 2)))) (muC I (fun k => byAt I 18 19 (64 + k)) ((I 11 (i + 2)))) 814 0 ≠ none))) 6) 11 = N := (wN_11 S0).trans hl0
      show AW l G M_law P 759 [(4, vi i), (3, vr 268), (2, vr 175), (1, vr 12), (0, vr 11)] [vi (c4 ((0 ≤ (I 11 (i + 1)) ∧ (I 11 (i + 1)) < 3) ∧ ((I 11 (i + 2)) = 0 ∨ (I 11 (i + 2)) = -1)) (((I 11 (i + 2)) ≠ 0 ∨ I 22 1 ≤ 255) ∧ (I 14 1 = 32 ∨ I 14 1 = 0)) (I 18 1 = sSec (I 11 (i + 1))) (sgOk (I 11 (i + 1)) (byAt I 18 19) ∧ sgRun (I 11 (i + 1)) (byAt I 18 19) (rhC I ((I 11 (i + 2)))) (muC I (fun k => byAt I 18 19 (64 + k)) ((I 11 (i + 2)))) 814 0 ≠ none))] (sD (wN h (40 + ce4 (c4 ((0 ≤ (I 11 (i + 1)) ∧ (I 11 (i + 1)) < 3) ∧ ((I 11 (i + 2)) = 0 ∨ (I 11 (i + 2)) = -1)) (((I 11 (i + 2)) ≠ 0 ∨ I 22 1 ≤ 255) ∧ (I 14 1 = 32 ∨ I 14 1 = 0)) (I 18 1 = sSec (I 11 (i + 1))) (sgOk (I 11 (i + 1)) (byAt I 18 19) ∧ sgRun (I 11 (i + 1)) (byAt I 18 19) (rhC I ((I 11 (i + 2)))) (muC I (fun k => byAt I 18 19 (64 + k)) ((I 11 (i + 2)))) 814 0 ≠ none))) 6) (zz h I1) (zz h L1))
      refine aw_istore (lv' := [(5, vi (c4 ((0 ≤ (I 11 (i + 1)) ∧ (I 11 (i + 1)) < 3) ∧ ((I 11 (i + 2)) = 0 ∨ (I 11 (i + 2)) = -1)) (((I 11 (i + 2)) ≠ 0 ∨ I 22 1 ≤ 255) ∧ (I 14 1 = 32 ∨ I 14 1 = 0)) (I 18 1 = sSec (I 11 (i + 1))) (sgOk (I 11 (i + 1)) (byAt I 18 19) ∧ sgRun (I 11 (i + 1)) (byAt I 18 19) (rhC I ((I 11 (i + 2)))) (muC I (fun k => byAt I 18 19 (64 + k)) ((I 11 (i + 2)))) 814 0 ≠ none))), (4, vi i), (3, vr 268), (2, vr 175), (1, vr 12), (0, vr 11)]) d_La_law_759 (by decide) rfl ?_
      refine aw_aload_n d_La_law_761 rfl rfl ?_
      refine aw_aload_n d_La_law_762 rfl rfl ?_
      refine aw_iload d_La_law_763 rfl ?_
      refine aw_iconst d_La_law_765 ⟨by decide, by decide⟩ ?_
      refine ax_iadd d_La_law_766 ⟨(by omega), (by omega)⟩ ?_
      refine ax_ialde (x := I 11 (i + 1)) d_La_law_767 (k_11 S) (by omega) (by rw [hl]; omega) (Eq.trans (h11 (i + 1)) (rfl)) ?_
      refine aw_aload_n d_La_law_768 rfl rfl ?_
      refine aw_iload d_La_law_769 rfl ?_
      refine aw_iconst d_La_law_771 ⟨by decide, by decide⟩ ?_
      refine ax_iadd d_La_law_772 ⟨(by omega), (by omega)⟩ ?_
      refine ax_ialde (x := I 11 (i + 2)) d_La_law_773 (k_11 S) (by omega) (by rw [hl]; omega) (Eq.trans (h11 (i + 2)) (rfl)) ?_
      refine ax_Vt (st := []) (as := [vi (I 11 (i + 1)), vi (I 11 (i + 2))]) (b := 175) d_La_law_774 cs_La_law_774 (k_175 S) (c_Mo_dsaSign S (rel.rs1 er (fun j => (zz_ne S0 (by decide)).trans (q2.2 194 j (by decide) (by decide) (by decide)))) (rel.rb1 er)) rfl rfl rfl (fun v_ h_ p_ => ?_) (fun x_ h_ p_ => ?_)
      · obtain ⟨y, I2, L2, p3, p4, p5, p6⟩ := p_
        cases p3; subst p4
        have pk := (p6.resolve_left (fun z => q1 ((sign_code rel er).symm.trans z.1))).2
        show AW l G M_law P 777 [(5, vi (c4 ((0 ≤ (I 11 (i + 1)) ∧ (I 11 (i + 1)) < 3) ∧ ((I 11 (i + 2)) = 0 ∨ (I 11 (i + 2)) = -1)) (((I 11 (i + 2)) ≠ 0 ∨ I 22 1 ≤ 255) ∧ (I 14 1 = 32 ∨ I 14 1 = 0)) (I 18 1 = sSec (I 11 (i + 1))) (sgOk (I 11 (i + 1)) (byAt I 18 19) ∧ sgRun (I 11 (i + 1)) (byAt I 18 19) (rhC I ((I 11 (i + 2)))) (muC I (fun k => byAt I 18 19 (64 + k)) ((I 11 (i + 2)))) 814 0 ≠ none))), (4, vi i), (3, vr 268), (2, vr 175), (1, vr 12), (0, vr 11)] [vi y] (sD (wN h (40 + ce4 (c4 ((0 ≤ (I 11 (i + 1)) ∧ (I 11 (i + 1)) < 3) ∧ ((I 11 (i + 2)) = 0 ∨ (I 11 (i + 2)) = -1)) (((I 11 (i + 2)) ≠ 0 ∨ I 22 1 ≤ 255) ∧ (I 14 1 = 32 ∨ I 14 1 = 0)) (I 18 1 = sSec (I 11 (i + 1))) (sgOk (I 11 (i + 1)) (byAt I 18 19) ∧ sgRun (I 11 (i + 1)) (byAt I 18 19) (rhC I ((I 11 (i + 2)))) (muC I (fun k => byAt I 18 19 (64 + k)) ((I 11 (i + 2)))) 814 0 ≠ none))) 6) I2 L2)
        refine aw_istore (lv' := [(6, vi y), (5, vi (c4 ((0 ≤ (I 11 (i + 1)) ∧ (I 11 (i + 1)) < 3) ∧ ((I 11 (i + 2)) = 0 ∨ (I 11 (i + 2)) = -1)) (((I 11 (i + 2)) ≠ 0 ∨ I 22 1 ≤ 255) ∧ (I 14 1 = 32 ∨ I 14 1 = 0)) (I 18 1 = sSec (I 11 (i + 1))) (sgOk (I 11 (i + 1)) (byAt I 18 19) ∧ sgRun (I 11 (i + 1)) (byAt I 18 19) (rhC I ((I 11 (i + 2)))) (muC I (fun k => byAt I 18 19 (64 + k)) ((I 11 (i + 2)))) 814 0 ≠ none))), (4, vi i), (3, vr 268), (2, vr 175), (1, vr 12), (0, vr 11)]) d_La_law_777 (by decide) rfl ?_
        refine aw_aload_n d_La_law_779 rfl rfl ?_
        refine ax_V (st := []) (as := []) (b := 175) (v := some (vi (c4 ((0 ≤ (I 11 (i + 1)) ∧ (I 11 (i + 1)) < 3) ∧ ((I 11 (i + 2)) = 0 ∨ (I 11 (i + 2)) = -1)) (((I 11 (i + 2)) ≠ 0 ∨ (zz h I1) 186 4 ≤ 255) ∧ ((zz h I1) 186 0 = 32 ∨ (zz h I1) 186 0 = 0)) ((zz h I1) 186 2 = sSec (I 11 (i + 1))) (sgOk (I 11 (i + 1)) (rkR (zz h I1)) ∧ sgRun (I 11 (i + 1)) (rkR (zz h I1)) (rhR (zz h I1) (I 11 (i + 2))) (muR (zz h I1) (fun k => (zz h I1) 180 (64 + k)) (I 11 (i + 2))) 814 0 ≠ none)))) (h' := sD (wN h (40 + ce4 (c4 ((0 ≤ (I 11 (i + 1)) ∧ (I 11 (i + 1)) < 3) ∧ ((I 11 (i + 2)) = 0 ∨ (I 11 (i + 2)) = -1)) (((I 11 (i + 2)) ≠ 0 ∨ I 22 1 ≤ 255) ∧ (I 14 1 = 32 ∨ I 14 1 = 0)) (I 18 1 = sSec (I 11 (i + 1))) (sgOk (I 11 (i + 1)) (byAt I 18 19) ∧ sgRun (I 11 (i + 1)) (byAt I 18 19) (rhC I ((I 11 (i + 2)))) (muC I (fun k => byAt I 18 19 (64 + k)) ((I 11 (i + 2)))) 814 0 ≠ none))) 6) I2 L2) d_La_law_780 cs_La_law_780 (k_175 S) (by have z := c_Mo_thrown (l := l) (G := G) (h := (wN h (40 + ce4 (c4 ((0 ≤ (I 11 (i + 1)) ∧ (I 11 (i + 1)) < 3) ∧ ((I 11 (i + 2)) = 0 ∨ (I 11 (i + 2)) = -1)) (((I 11 (i + 2)) ≠ 0 ∨ I 22 1 ≤ 255) ∧ (I 14 1 = 32 ∨ I 14 1 = 0)) (I 18 1 = sSec (I 11 (i + 1))) (sgOk (I 11 (i + 1)) (byAt I 18 19) ∧ sgRun (I 11 (i + 1)) (byAt I 18 19) (rhC I ((I 11 (i + 2)))) (muC I (fun k => byAt I 18 19 (64 + k)) ((I 11 (i + 2)))) 814 0 ≠ none))) 6)) (I := I2) (L := L2) S; rw [p5] at z; exact z) rfl rfl rfl ?_
        show AW l G M_law P 783 [(6, vi y), (5, vi (c4 ((0 ≤ (I 11 (i + 1)) ∧ (I 11 (i + 1)) < 3) ∧ ((I 11 (i + 2)) = 0 ∨ (I 11 (i + 2)) = -1)) (((I 11 (i + 2)) ≠ 0 ∨ I 22 1 ≤ 255) ∧ (I 14 1 = 32 ∨ I 14 1 = 0)) (I 18 1 = sSec (I 11 (i + 1))) (sgOk (I 11 (i + 1)) (byAt I 18 19) ∧ sgRun (I 11 (i + 1)) (byAt I 18 19) (rhC I ((I 11 (i + 2)))) (muC I (fun k => byAt I 18 19 (64 + k)) ((I 11 (i + 2)))) 814 0 ≠ none))), (4, vi i), (3, vr 268), (2, vr 175), (1, vr 12), (0, vr 11)] [vi (c4 ((0 ≤ (I 11 (i + 1)) ∧ (I 11 (i + 1)) < 3) ∧ ((I 11 (i + 2)) = 0 ∨ (I 11 (i + 2)) = -1)) (((I 11 (i + 2)) ≠ 0 ∨ (zz h I1) 186 4 ≤ 255) ∧ ((zz h I1) 186 0 = 32 ∨ (zz h I1) 186 0 = 0)) ((zz h I1) 186 2 = sSec (I 11 (i + 1))) (sgOk (I 11 (i + 1)) (rkR (zz h I1)) ∧ sgRun (I 11 (i + 1)) (rkR (zz h I1)) (rhR (zz h I1) (I 11 (i + 2))) (muR (zz h I1) (fun k => (zz h I1) 180 (64 + k)) (I 11 (i + 2))) 814 0 ≠ none))] (sD (wN h (40 + ce4 (c4 ((0 ≤ (I 11 (i + 1)) ∧ (I 11 (i + 1)) < 3) ∧ ((I 11 (i + 2)) = 0 ∨ (I 11 (i + 2)) = -1)) (((I 11 (i + 2)) ≠ 0 ∨ I 22 1 ≤ 255) ∧ (I 14 1 = 32 ∨ I 14 1 = 0)) (I 18 1 = sSec (I 11 (i + 1))) (sgOk (I 11 (i + 1)) (byAt I 18 19) ∧ sgRun (I 11 (i + 1)) (byAt I 18 19) (rhC I ((I 11 (i + 2)))) (muC I (fun k => byAt I 18 19 (64 + k)) ((I 11 (i + 2)))) 814 0 ≠ none))) 6) I2 L2)
        refine ax_ti (x := c4 ((0 ≤ (I 11 (i + 1)) ∧ (I 11 (i + 1)) < 3) ∧ ((I 11 (i + 2)) = 0 ∨ (I 11 (i + 2)) = -1)) (((I 11 (i + 2)) ≠ 0 ∨ I 22 1 ≤ 255) ∧ (I 14 1 = 32 ∨ I 14 1 = 0)) (I 18 1 = sSec (I 11 (i + 1))) (sgOk (I 11 (i + 1)) (byAt I 18 19) ∧ sgRun (I 11 (i + 1)) (byAt I 18 19) (rhC I ((I 11 (i + 2)))) (muC I (fun k => byAt I 18 19 (64 + k)) ((I 11 (i + 2)))) 814 0 ≠ none)) (sign_code rel er) ?_
        refine aw_iload d_La_law_783 rfl ?_
        refine aw_icmp_eq (tgt := 790) d_La_law_785 (by decide) (fun c_785 => ?_) (fun c_785 => False.elim (by omega))
        refine aw_iload d_La_law_790 rfl ?_
        refine aw_if_ne (tgt := 807) d_La_law_792 (by decide) (fun c_792 => ?_) (fun c_792 => False.elim (by omega))
        refine aw_goto (tgt := 885) d_La_law_807 (by decide) ?_
        refine aw_sub (lv' := [(4, vi i), (3, vr 268), (2, vr 175), (1, vr 12), (0, vr 11)]) (by simp) ?_
        exact hC _ (I2) (L2) S (rel.scr (fun a j y => (pk.1 a j (by omega) (fun z => z)).trans ((zz_ne S0 (by omega)).trans (q2.1 a j (by omega)))) (pk.2.1.trans ((zz_ne S0 (by decide)).trans (q2.1 175 3 (by omega)))) (fun j => (pk.2.2 8 j (by omega)).trans ((zz_ne S0 (by decide)).trans (q2.2 8 j (by decide) (by decide) (by decide)))) (fun j => (pk.2.2 194 j (by omega)).trans ((zz_ne S0 (by decide)).trans (q2.2 194 j (by decide) (by decide) (by decide))))) (fun j => (pk.1 11 j (by omega) (fun z => z)).trans (h11 j)) hl (by show hX h + 1 ≤ hX h + 1; omega) (by show hU h + 6 ≤ hU h + 6; omega)
      · obtain ⟨y, I2, L2, p3, p4, p5, p6⟩ := p_
        cases p3
  · rcases q_ with ⟨q1, x, I1, L1, q2, q3, q4⟩ | ⟨q1, I1, L1, q2, q3, q4⟩
    · cases q3
    · cases q3
set_option maxHeartbeats 2000000 in
set_option maxRecDepth 100000 in
theorem law_dsaVerify {l : Launch} {G : a_G} {P : a_R → Hp → Prop} {h : Hp} {I L : Nat → Int → Int} {i N : Int} (S : Shp h) (hfl : l.flags = flags0) (rel : Rel I L) (rm : hX h + 1 ≤ a_NX ∧ hU h + 6 ≤ a_US) (hl : hN h 11 = N) (hi : 0 ≤ i ∧ i + 6 ≤ N ∧ N ≤ 3072) (hC : ∀ (h' : Hp) (I' L' : Nat → Int → Int), Shp h' → Rel I' L' → (∀ j, I' 11 j = I 11 j) → hN h' 11 = N → hX h' ≤ hX h + 1 → hU h' ≤ hU h + 6 → AW l G M_law P 885 [(4, vi i), (3, vr 268), (2, vr 175), (1, vr 12), (0, vr 11)] [] (sD h' I' L')) : AW l G M_law P 810 [(4, vi i), (3, vr 268), (2, vr 175), (1, vr 12), (0, vr 11)] [] (sD h I L) := by
  refine aw_aload_n d_La_law_810 rfl rfl ?_
  refine aw_aload_n d_La_law_811 rfl rfl ?_
  refine aw_iload d_La_law_812 rfl ?_
  refine aw_iconst d_La_law_814 ⟨by decide, by decide⟩ ?_
  refine ax_iadd d_La_law_815 ⟨(by omega), (by omega)⟩ ?_
  refine ax_ialde (x := I 11 (i + 1)) d_La_law_816 (k_11 S) (by omega) (by rw [hl]; omega) (rfl) ?_
  refine aw_aload_n d_La_law_817 rfl rfl ?_
  refine aw_iload d_La_law_818 rfl ?_
  refine aw_iconst d_La_law_820 ⟨by decide, by decide⟩ ?_
  refine ax_iadd d_La_law_821 ⟨(by omega), (by omega)⟩ ?_
  refine ax_ialde (x := I 11 (i + 2)) d_La_law_822 (k_11 S) (by omega) (by rw [hl]; omega) (rfl) ?_
  refine aw_aload_n d_La_law_823 rfl rfl ?_
  refine ax_St (st := []) (as := [vr 12, vi (I 11 (i + 1)), vi (I 11 (i + 2)), vr 268]) d_La_law_824 cs_La_law_824 (c_La_dsaVerify S hfl rm rel.1 rel.cb) rfl rfl rfl (fun v_ h_ q_ => ?_) (fun x_ h_ q_ => ?_)
  · rcases q_ with ⟨q1, x, I1, L1, q2, q3, q4⟩ | ⟨q1, I1, L1, q2, q3, q4⟩
    · cases q3; subst q4
      have fcx : FC (fun a => a = 26 ∨ a = 27 ∨ 36 ≤ a ∧ a ≤ 174 ∧ a ≠ 43) I L I1 L1 := by rcases q2 with y | y; exact y.2.2.mono (by intro a x; omega); exact y.2.1
      have er : Ref0 I (I1) := fcx.ref (by intro a x; omega)
      have h11 : ∀ j, (I1) 11 j = I 11 j := fun j => fcx.1 11 j (by omega)
      show AW l G M_law P 827 [(4, vi i), (3, vr 268), (2, vr 175), (1, vr 12), (0, vr 11)] [vi 0] (sD h I1 (a_up L1 268 0 x))
      refine aw_istore (lv' := [(5, vi 0), (4, vi i), (3, vr 268), (2, vr 175), (1, vr 12), (0, vr 11)]) d_La_law_827 (by decide) rfl ?_
      refine aw_aload_n d_La_law_829 rfl rfl ?_
      refine aw_aload_n d_La_law_830 rfl rfl ?_
      refine aw_iload d_La_law_831 rfl ?_
      refine aw_iconst d_La_law_833 ⟨by decide, by decide⟩ ?_
      refine ax_iadd d_La_law_834 ⟨(by omega), (by omega)⟩ ?_
      refine ax_ialde (x := I 11 (i + 1)) d_La_law_835 (k_11 S) (by omega) (by rw [hl]; omega) (Eq.trans (h11 (i + 1)) (rfl)) ?_
      refine aw_aload_n d_La_law_836 rfl rfl ?_
      refine aw_iload d_La_law_837 rfl ?_
      refine aw_iconst d_La_law_839 ⟨by decide, by decide⟩ ?_
      refine ax_iadd d_La_law_840 ⟨(by omega), (by omega)⟩ ?_
      refine ax_ialde (x := I 11 (i + 2)) d_La_law_841 (k_11 S) (by omega) (by rw [hl]; omega) (Eq.trans (h11 (i + 2)) (rfl)) ?_
      refine ax_Vt (st := []) (as := [vi (I 11 (i + 1)), vi (I 11 (i + 2))]) (b := 175) d_La_law_842 cs_La_law_842 (k_175 S) (c_Mo_dsaVerify S (rel.rs1 er (fun j => (a_up_ne (Or.inl (by decide))).trans (fcx.2 194 j (by decide) (by decide) (by decide)))) (rel.rb1 er) (fun j => by rw [er.1 183 j (by omega) (by omega)]; exact (rel.2.2.1 5 (by decide)).2.2.2 j)) rfl rfl rfl (fun v_ h_ p_ => ?_) (fun x_ h_ p_ => ?_)
      · obtain ⟨y, I2, L2, p3, p4, p5, p6⟩ := p_
        cases p3; subst p4
        have pk := (p6.resolve_right (fun z => z.1 ((ver_code rel er).trans q1)))
        have p5 : I2 175 4 = 0 := p5.trans ((ver_code rel er).trans q1)
        have l268 : L2 268 0 = x := (pk.2.1.2.2 268 0 (by omega)).trans a_up_at
        have rx := rel_ver rel (c4_z q1).1.1 q2 pk.2.1 pk.2.2
        show AW l G M_law P 845 [(5, vi 0), (4, vi i), (3, vr 268), (2, vr 175), (1, vr 12), (0, vr 11)] [vi y] (sD h I2 L2)
        refine aw_istore (lv' := [(6, vi y), (5, vi 0), (4, vi i), (3, vr 268), (2, vr 175), (1, vr 12), (0, vr 11)]) d_La_law_845 (by decide) rfl ?_
        refine aw_aload_n d_La_law_847 rfl rfl ?_
        refine ax_V (st := []) (as := []) (b := 175) (v := some (vi 0)) (h' := sD h I2 L2) d_La_law_848 cs_La_law_848 (k_175 S) (by have z := c_Mo_thrown (l := l) (G := G) (h := h) (I := I2) (L := L2) S; rw [p5] at z; exact z) rfl rfl rfl ?_
        show AW l G M_law P 851 [(6, vi y), (5, vi 0), (4, vi i), (3, vr 268), (2, vr 175), (1, vr 12), (0, vr 11)] [vi 0] (sD h I2 L2)
        refine aw_iload d_La_law_851 rfl ?_
        refine aw_icmp_eq (tgt := 858) d_La_law_853 (by decide) (fun c_853 => ?_) (fun c_853 => False.elim (by omega))
        refine aw_iload d_La_law_858 rfl ?_
        refine aw_if_ne (tgt := 882) d_La_law_860 (by decide) (fun c_860 => False.elim (by omega)) (fun c_860 => ?_)
        refine aw_aload_n d_La_law_863 rfl rfl ?_
        refine aw_iconst d_La_law_864 ⟨by decide, by decide⟩ ?_
        refine ax_lalde (x := x) d_La_law_865 (k_268 S) (by omega) (by rw [n_268 S]; omega) (l268) ?_
        refine aw_iload d_La_law_866 rfl ?_
        refine aw_if_eq (tgt := 875) d_La_law_868 (by decide) (fun c_868 => ?_) (fun c_868 => ?_)
        · skip
          refine aw_lconst (x := 0) d_La_law_875 ⟨by decide, by decide⟩ (by decide) ?_
          refine aw_lcmp d_La_law_876 ?_
          refine aw_if_eq (tgt := 882) d_La_law_877 (by decide) (fun c_877 => ?_) (fun c_877 => False.elim (c_877 (lc0 (by have r1 := rx.2.1; have r2 := rx.2.2; omega))))
          refine aw_goto (tgt := 885) d_La_law_882 (by decide) ?_
          refine aw_sub (lv' := [(4, vi i), (3, vr 268), (2, vr 175), (1, vr 12), (0, vr 11)]) (by simp) ?_
          exact hC h (I2) (L2) S (rx.1) (fun j => (pk.2.1.1 11 j (by omega) (by omega)).trans (h11 j)) hl (by omega) (by omega)
        · skip
          refine aw_lconst (x := 1) d_La_law_871 ⟨by decide, by decide⟩ (by decide) ?_
          refine aw_goto (tgt := 876) d_La_law_872 (by decide) ?_
          refine aw_lcmp d_La_law_876 ?_
          refine aw_if_eq (tgt := 882) d_La_law_877 (by decide) (fun c_877 => ?_) (fun c_877 => False.elim (c_877 (lc0 (by have r1 := rx.2.1; have r2 := rx.2.2; omega))))
          refine aw_goto (tgt := 885) d_La_law_882 (by decide) ?_
          refine aw_sub (lv' := [(4, vi i), (3, vr 268), (2, vr 175), (1, vr 12), (0, vr 11)]) (by simp) ?_
          exact hC h (I2) (L2) S (rx.1) (fun j => (pk.2.1.1 11 j (by omega) (by omega)).trans (h11 j)) hl (by omega) (by omega)
      · obtain ⟨y, I2, L2, p3, p4, p5, p6⟩ := p_
        cases p3
    · cases q3; subst q4
      refine ax_hp (h' := sD (wN h (40 + ce4 (c4 ((0 ≤ (I 11 (i + 1)) ∧ (I 11 (i + 1)) < 3) ∧ ((I 11 (i + 2)) = 0 ∨ (I 11 (i + 2)) = -1)) ((I 11 (i + 2)) ≠ 0 ∨ I 22 1 ≤ 255) (I 16 1 = 32 + 320 * pK (I 11 (i + 1))) (vfPre (I 11 (i + 1)) (byAt I 24 25) (I 24 1) → vfOk (I 11 (i + 1)) (byAt I 16 17) (byAt I 24 25)))) 6) (zz h I1) (zz h L1)) rfl ?_
      have er : Ref0 I (zz h I1) := Ref0.zz S q2.ref
      have h11 : ∀ j, (zz h I1) 11 j = I 11 j := fun j => (zz_ne S (by decide)).trans (q2.1 11 j (by omega))
      have S0 := S
      have S := Shp_wN (q := 40 + ce4 (c4 ((0 ≤ (I 11 (i + 1)) ∧ (I 11 (i + 1)) < 3) ∧ ((I 11 (i + 2)) = 0 ∨ (I 11 (i + 2)) = -1)) ((I 11 (i + 2)) ≠ 0 ∨ I 22 1 ≤ 255) (I 16 1 = 32 + 320 * pK (I 11 (i + 1))) (vfPre (I 11 (i + 1)) (byAt I 24 25) (I 24 1) → vfOk (I 11 (i + 1)) (byAt I 16 17) (byAt I 24 25)))) (n := 6) S0
      have hl0 := hl
      have hl : hN (wN h (40 + ce4 (c4 ((0 ≤ (I 11 (i + 1)) ∧ (I 11 (i + 1)) < 3) ∧ ((I 11 (i + 2)) = 0 ∨ (I 11 (i + 2)) = -1)) ((I 11 (i + 2)) ≠ 0 ∨ I 22 1 ≤ 255) (I 16 1 = 32 + 320 * pK (I 11 (i + 1))) (vfPre (I 11 (i + 1)) (byAt I 24 25) (I 24 1) → vfOk (I 11 (i + 1)) (byAt I 16 17) (byAt I 24 25)))) 6) 11 = N := (wN_11 S0).trans hl0
      show AW l G M_law P 827 [(4, vi i), (3, vr 268), (2, vr 175), (1, vr 12), (0, vr 11)] [vi (c4 ((0 ≤ (I 11 (i + 1)) ∧ (I 11 (i + 1)) < 3) ∧ ((I 11 (i + 2)) = 0 ∨ (I 11 (i + 2)) = -1)) ((I 11 (i + 2)) ≠ 0 ∨ I 22 1 ≤ 255) (I 16 1 = 32 + 320 * pK (I 11 (i + 1))) (vfPre (I 11 (i + 1)) (byAt I 24 25) (I 24 1) → vfOk (I 11 (i + 1)) (byAt I 16 17) (byAt I 24 25)))] (sD (wN h (40 + ce4 (c4 ((0 ≤ (I 11 (i + 1)) ∧ (I 11 (i + 1)) < 3) ∧ ((I 11 (i + 2)) = 0 ∨ (I 11 (i + 2)) = -1)) ((I 11 (i + 2)) ≠ 0 ∨ I 22 1 ≤ 255) (I 16 1 = 32 + 320 * pK (I 11 (i + 1))) (vfPre (I 11 (i + 1)) (byAt I 24 25) (I 24 1) → vfOk (I 11 (i + 1)) (byAt I 16 17) (byAt I 24 25)))) 6) (zz h I1) (zz h L1))
      refine aw_istore (lv' := [(5, vi (c4 ((0 ≤ (I 11 (i + 1)) ∧ (I 11 (i + 1)) < 3) ∧ ((I 11 (i + 2)) = 0 ∨ (I 11 (i + 2)) = -1)) ((I 11 (i + 2)) ≠ 0 ∨ I 22 1 ≤ 255) (I 16 1 = 32 + 320 * pK (I 11 (i + 1))) (vfPre (I 11 (i + 1)) (byAt I 24 25) (I 24 1) → vfOk (I 11 (i + 1)) (byAt I 16 17) (byAt I 24 25)))), (4, vi i), (3, vr 268), (2, vr 175), (1, vr 12), (0, vr 11)]) d_La_law_827 (by decide) rfl ?_
      refine aw_aload_n d_La_law_829 rfl rfl ?_
      refine aw_aload_n d_La_law_830 rfl rfl ?_
      refine aw_iload d_La_law_831 rfl ?_
      refine aw_iconst d_La_law_833 ⟨by decide, by decide⟩ ?_
      refine ax_iadd d_La_law_834 ⟨(by omega), (by omega)⟩ ?_
      refine ax_ialde (x := I 11 (i + 1)) d_La_law_835 (k_11 S) (by omega) (by rw [hl]; omega) (Eq.trans (h11 (i + 1)) (rfl)) ?_
      refine aw_aload_n d_La_law_836 rfl rfl ?_
      refine aw_iload d_La_law_837 rfl ?_
      refine aw_iconst d_La_law_839 ⟨by decide, by decide⟩ ?_
      refine ax_iadd d_La_law_840 ⟨(by omega), (by omega)⟩ ?_
      refine ax_ialde (x := I 11 (i + 2)) d_La_law_841 (k_11 S) (by omega) (by rw [hl]; omega) (Eq.trans (h11 (i + 2)) (rfl)) ?_
      refine ax_Vt (st := []) (as := [vi (I 11 (i + 1)), vi (I 11 (i + 2))]) (b := 175) d_La_law_842 cs_La_law_842 (k_175 S) (c_Mo_dsaVerify S (rel.rs1 er (fun j => (zz_ne S0 (by decide)).trans (q2.2 194 j (by decide) (by decide) (by decide)))) (rel.rb1 er) (fun j => by rw [er.1 183 j (by omega) (by omega)]; exact (rel.2.2.1 5 (by decide)).2.2.2 j)) rfl rfl rfl (fun v_ h_ p_ => ?_) (fun x_ h_ p_ => ?_)
      · obtain ⟨y, I2, L2, p3, p4, p5, p6⟩ := p_
        cases p3; subst p4
        have pk := (p6.resolve_left (fun z => q1 ((ver_code rel er).symm.trans z.1))).2
        show AW l G M_law P 845 [(5, vi (c4 ((0 ≤ (I 11 (i + 1)) ∧ (I 11 (i + 1)) < 3) ∧ ((I 11 (i + 2)) = 0 ∨ (I 11 (i + 2)) = -1)) ((I 11 (i + 2)) ≠ 0 ∨ I 22 1 ≤ 255) (I 16 1 = 32 + 320 * pK (I 11 (i + 1))) (vfPre (I 11 (i + 1)) (byAt I 24 25) (I 24 1) → vfOk (I 11 (i + 1)) (byAt I 16 17) (byAt I 24 25)))), (4, vi i), (3, vr 268), (2, vr 175), (1, vr 12), (0, vr 11)] [vi y] (sD (wN h (40 + ce4 (c4 ((0 ≤ (I 11 (i + 1)) ∧ (I 11 (i + 1)) < 3) ∧ ((I 11 (i + 2)) = 0 ∨ (I 11 (i + 2)) = -1)) ((I 11 (i + 2)) ≠ 0 ∨ I 22 1 ≤ 255) (I 16 1 = 32 + 320 * pK (I 11 (i + 1))) (vfPre (I 11 (i + 1)) (byAt I 24 25) (I 24 1) → vfOk (I 11 (i + 1)) (byAt I 16 17) (byAt I 24 25)))) 6) I2 L2)
        refine aw_istore (lv' := [(6, vi y), (5, vi (c4 ((0 ≤ (I 11 (i + 1)) ∧ (I 11 (i + 1)) < 3) ∧ ((I 11 (i + 2)) = 0 ∨ (I 11 (i + 2)) = -1)) ((I 11 (i + 2)) ≠ 0 ∨ I 22 1 ≤ 255) (I 16 1 = 32 + 320 * pK (I 11 (i + 1))) (vfPre (I 11 (i + 1)) (byAt I 24 25) (I 24 1) → vfOk (I 11 (i + 1)) (byAt I 16 17) (byAt I 24 25)))), (4, vi i), (3, vr 268), (2, vr 175), (1, vr 12), (0, vr 11)]) d_La_law_845 (by decide) rfl ?_
        refine aw_aload_n d_La_law_847 rfl rfl ?_
        refine ax_V (st := []) (as := []) (b := 175) (v := some (vi (c4 ((0 ≤ (I 11 (i + 1)) ∧ (I 11 (i + 1)) < 3) ∧ ((I 11 (i + 2)) = 0 ∨ (I 11 (i + 2)) = -1)) ((I 11 (i + 2)) ≠ 0 ∨ (zz h I1) 186 4 ≤ 255) ((zz h I1) 186 1 = 32 + 320 * pK (I 11 (i + 1))) (vfPre (I 11 (i + 1)) (rgR (zz h I1)) ((zz h I1) 186 5) → vfOk (I 11 (i + 1)) (rpR (zz h I1)) (rgR (zz h I1)))))) (h' := sD (wN h (40 + ce4 (c4 ((0 ≤ (I 11 (i + 1)) ∧ (I 11 (i + 1)) < 3) ∧ ((I 11 (i + 2)) = 0 ∨ (I 11 (i + 2)) = -1)) ((I 11 (i + 2)) ≠ 0 ∨ I 22 1 ≤ 255) (I 16 1 = 32 + 320 * pK (I 11 (i + 1))) (vfPre (I 11 (i + 1)) (byAt I 24 25) (I 24 1) → vfOk (I 11 (i + 1)) (byAt I 16 17) (byAt I 24 25)))) 6) I2 L2) d_La_law_848 cs_La_law_848 (k_175 S) (by have z := c_Mo_thrown (l := l) (G := G) (h := (wN h (40 + ce4 (c4 ((0 ≤ (I 11 (i + 1)) ∧ (I 11 (i + 1)) < 3) ∧ ((I 11 (i + 2)) = 0 ∨ (I 11 (i + 2)) = -1)) ((I 11 (i + 2)) ≠ 0 ∨ I 22 1 ≤ 255) (I 16 1 = 32 + 320 * pK (I 11 (i + 1))) (vfPre (I 11 (i + 1)) (byAt I 24 25) (I 24 1) → vfOk (I 11 (i + 1)) (byAt I 16 17) (byAt I 24 25)))) 6)) (I := I2) (L := L2) S; rw [p5] at z; exact z) rfl rfl rfl ?_
        show AW l G M_law P 851 [(6, vi y), (5, vi (c4 ((0 ≤ (I 11 (i + 1)) ∧ (I 11 (i + 1)) < 3) ∧ ((I 11 (i + 2)) = 0 ∨ (I 11 (i + 2)) = -1)) ((I 11 (i + 2)) ≠ 0 ∨ I 22 1 ≤ 255) (I 16 1 = 32 + 320 * pK (I 11 (i + 1))) (vfPre (I 11 (i + 1)) (byAt I 24 25) (I 24 1) → vfOk (I 11 (i + 1)) (byAt I 16 17) (byAt I 24 25)))), (4, vi i), (3, vr 268), (2, vr 175), (1, vr 12), (0, vr 11)] [vi (c4 ((0 ≤ (I 11 (i + 1)) ∧ (I 11 (i + 1)) < 3) ∧ ((I 11 (i + 2)) = 0 ∨ (I 11 (i + 2)) = -1)) ((I 11 (i + 2)) ≠ 0 ∨ (zz h I1) 186 4 ≤ 255) ((zz h I1) 186 1 = 32 + 320 * pK (I 11 (i + 1))) (vfPre (I 11 (i + 1)) (rgR (zz h I1)) ((zz h I1) 186 5) → vfOk (I 11 (i + 1)) (rpR (zz h I1)) (rgR (zz h I1))))] (sD (wN h (40 + ce4 (c4 ((0 ≤ (I 11 (i + 1)) ∧ (I 11 (i + 1)) < 3) ∧ ((I 11 (i + 2)) = 0 ∨ (I 11 (i + 2)) = -1)) ((I 11 (i + 2)) ≠ 0 ∨ I 22 1 ≤ 255) (I 16 1 = 32 + 320 * pK (I 11 (i + 1))) (vfPre (I 11 (i + 1)) (byAt I 24 25) (I 24 1) → vfOk (I 11 (i + 1)) (byAt I 16 17) (byAt I 24 25)))) 6) I2 L2)
        refine ax_ti (x := c4 ((0 ≤ (I 11 (i + 1)) ∧ (I 11 (i + 1)) < 3) ∧ ((I 11 (i + 2)) = 0 ∨ (I 11 (i + 2)) = -1)) ((I 11 (i + 2)) ≠ 0 ∨ I 22 1 ≤ 255) (I 16 1 = 32 + 320 * pK (I 11 (i + 1))) (vfPre (I 11 (i + 1)) (byAt I 24 25) (I 24 1) → vfOk (I 11 (i + 1)) (byAt I 16 17) (byAt I 24 25))) (ver_code rel er) ?_
        refine aw_iload d_La_law_851 rfl ?_
        refine aw_icmp_eq (tgt := 858) d_La_law_853 (by decide) (fun c_853 => ?_) (fun c_853 => False.elim (by omega))
        refine aw_iload d_La_law_858 rfl ?_
        refine aw_if_ne (tgt := 882) d_La_law_860 (by decide) (fun c_860 => ?_) (fun c_860 => False.elim (by omega))
        refine aw_goto (tgt := 885) d_La_law_882 (by decide) ?_
        refine aw_sub (lv' := [(4, vi i), (3, vr 268), (2, vr 175), (1, vr 12), (0, vr 11)]) (by simp) ?_
        exact hC _ (I2) (L2) S (rel.scr (fun a j y => (pk.1 a j (by omega) (fun z => z)).trans ((zz_ne S0 (by omega)).trans (q2.1 a j (by omega)))) (pk.2.1.trans ((zz_ne S0 (by decide)).trans (q2.1 175 3 (by omega)))) (fun j => (pk.2.2 8 j (by omega)).trans ((zz_ne S0 (by decide)).trans (q2.2 8 j (by decide) (by decide) (by decide)))) (fun j => (pk.2.2 194 j (by omega)).trans ((zz_ne S0 (by decide)).trans (q2.2 194 j (by decide) (by decide) (by decide))))) (fun j => (pk.1 11 j (by omega) (fun z => z)).trans (h11 j)) hl (by show hX h + 1 ≤ hX h + 1; omega) (by show hU h + 6 ≤ hU h + 6; omega)
      · obtain ⟨y, I2, L2, p3, p4, p5, p6⟩ := p_
        cases p3
  · rcases q_ with ⟨q1, x, I1, L1, q2, q3, q4⟩ | ⟨q1, I1, L1, q2, q3, q4⟩
    · cases q3
    · cases q3
