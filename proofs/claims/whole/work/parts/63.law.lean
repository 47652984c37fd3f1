/-! the law: its eleven calls -/
def zz (h : Hp) (I : Nat → Int → Int) : Nat → Int → Int := fun a j => if a = hX h then 0 else I a j
theorem wN_sD {h : Hp} {I L : Nat → Int → Int} {q n : Nat} : wN (sD h I L) q n = sD (wN h q n) (zz h I) (zz h L) := rfl
theorem zz_ne {h : Hp} {I : Nat → Int → Int} {a : Nat} {j : Int} (S : Shp h) (ha : a < 269) : zz h I a j = I a j := if_neg (fun e => by have := S.2.2.2; omega)
theorem wN_11 {h : Hp} {q n : Nat} (S : Shp h) : hN (wN h q n) 11 = hN h 11 := if_neg (fun e => by have := S.2.2.2; omega)
theorem lc0 {x y : Int} (h : x = y) : a_lcmp x y = 0 := by
  unfold a_lcmp
  rw [h, if_neg (by omega), if_pos rfl]
theorem frC.ref {I L I1 L1 : Nat → Int → Int} (h : frC I L I1 L1) : Ref0 I I1 := ⟨fun a j x y => h.1 a j (by omega), h.1 175 3 (by omega)⟩
theorem FC.ref {p : Nat → Prop} {I L I1 L1 : Nat → Int → Int} (h : FC p I L I1 L1) (hp : ∀ a, 175 ≤ a → ¬ p a) : Ref0 I I1 := ⟨fun a j x y => h.1 a j (hp a (by omega)), h.1 175 3 (hp 175 (by omega))⟩
theorem Ref0.zz {h : Hp} {I I1 : Nat → Int → Int} (S : Shp h) (e : Ref0 I I1) : Ref0 I (zz h I1) := ⟨fun a j x y => (zz_ne S (by omega)).trans (e.1 a j x y), (zz_ne S (by omega)).trans e.2⟩
set_option maxHeartbeats 2000000 in
set_option maxRecDepth 100000 in
theorem law_feed {l : Launch} {G : a_G} {P : a_R → Hp → Prop} {h : Hp} {I L : Nat → Int → Int} {i N : Int} (S : Shp h) (hfl : l.flags = flags0) (rel : Rel I L) (rm : hX h + 1 ≤ a_NX ∧ hU h + 6 ≤ a_US) (hl : hN h 11 = N) (hi : 0 ≤ i ∧ i + 6 ≤ N ∧ N ≤ 3072) (hC : ∀ (h' : Hp) (I' L' : Nat → Int → Int), Shp h' → Rel I' L' → (∀ j, I' 11 j = I 11 j) → hN h' 11 = N → hX h' ≤ hX h + 1 → hU h' ≤ hU h + 6 → AW l G M_law P 885 [(4, vi i), (3, vr 268), (2, vr 175), (1, vr 12), (0, vr 11)] [] (sD h' I' L')) : AW l G M_law P 100 [(4, vi i), (3, vr 268), (2, vr 175), (1, vr 12), (0, vr 11)] [] (sD h I L) := by
  refine aw_aload_n d_La_law_100 rfl rfl ?_
  refine aw_aload_n d_La_law_101 rfl rfl ?_
  refine aw_iload d_La_law_102 rfl ?_
  refine aw_iconst d_La_law_104 ⟨by decide, by decide⟩ ?_
  refine ax_iadd d_La_law_105 ⟨(by omega), (by omega)⟩ ?_
  refine ax_ialde (x := I 11 (i + 1)) d_La_law_106 (k_11 S) (by omega) (by rw [hl]; omega) (rfl) ?_
  refine aw_aload_n d_La_law_107 rfl rfl ?_
  refine aw_iload d_La_law_108 rfl ?_
  refine aw_iconst d_La_law_110 ⟨by decide, by decide⟩ ?_
  refine ax_iadd d_La_law_111 ⟨(by omega), (by omega)⟩ ?_
  refine ax_ialde (x := I 11 (i + 2)) d_La_law_112 (k_11 S) (by omega) (by rw [hl]; omega) (rfl) ?_
  refine aw_aload_n d_La_law_113 rfl rfl ?_
  refine aw_iload d_La_law_114 rfl ?_
  refine aw_iconst d_La_law_116 ⟨by decide, by decide⟩ ?_
  refine ax_iadd d_La_law_117 ⟨(by omega), (by omega)⟩ ?_
  refine ax_ialde (x := I 11 (i + 3)) d_La_law_118 (k_11 S) (by omega) (by rw [hl]; omega) (rfl) ?_
  refine aw_aload_n d_La_law_119 rfl rfl ?_
  refine aw_iload d_La_law_120 rfl ?_
  refine aw_iconst d_La_law_122 ⟨by decide, by decide⟩ ?_
  refine ax_iadd d_La_law_123 ⟨(by omega), (by omega)⟩ ?_
  refine ax_ialde (x := I 11 (i + 4)) d_La_law_124 (k_11 S) (by omega) (by rw [hl]; omega) (rfl) ?_
  refine aw_aload_n d_La_law_125 rfl rfl ?_
  refine aw_iload d_La_law_126 rfl ?_
  refine aw_iconst d_La_law_128 ⟨by decide, by decide⟩ ?_
  refine ax_iadd d_La_law_129 ⟨(by omega), (by omega)⟩ ?_
  refine ax_ialde (x := I 11 (i + 5)) d_La_law_130 (k_11 S) (by omega) (by rw [hl]; omega) (rfl) ?_
  refine aw_aload_n d_La_law_131 rfl rfl ?_
  refine ax_St (st := []) (as := [vr 12, vi (I 11 (i + 1)), vi (I 11 (i + 2)), vi (I 11 (i + 3)), vi (I 11 (i + 4)), vi (I 11 (i + 5)), vr 268]) d_La_law_132 cs_La_law_132 (c_La_feed S hfl rm rel.cb) rfl rfl rfl (fun v_ h_ q_ => ?_) (fun x_ h_ q_ => ?_)
  · rcases q_ with ⟨q1, x, q2, q3, q4⟩ | ⟨q1, q3, q4⟩
    · cases q3; subst q4
      have er : Ref0 I (jFeed I (I 11 (i + 1)) (I 11 (i + 2)) (I 11 (i + 3)) (I 11 (i + 4)) (I 11 (i + 5))) := ⟨fun a j x y => by unfold jFeed; rw [byPut_ne (by omega) (by omega), byPut_ne (by omega) (by omega), byPut_ne (by omega) (by omega), byPut_ne (by omega) (by omega), byPut_ne (by omega) (by omega)], by unfold jFeed; rw [byPut_ne (by omega) (by omega), byPut_ne (by omega) (by omega), byPut_ne (by omega) (by omega), byPut_ne (by omega) (by omega), byPut_ne (by omega) (by omega)]⟩
      have h11 : ∀ j, (jFeed I (I 11 (i + 1)) (I 11 (i + 2)) (I 11 (i + 3)) (I 11 (i + 4)) (I 11 (i + 5))) 11 j = I 11 j := fun j => by unfold jFeed; rw [byPut_ne (by omega) (by omega), byPut_ne (by omega) (by omega), byPut_ne (by omega) (by omega), byPut_ne (by omega) (by omega), byPut_ne (by omega) (by omega)]
      show AW l G M_law P 135 [(4, vi i), (3, vr 268), (2, vr 175), (1, vr 12), (0, vr 11)] [vi 0] (sD h (jFeed I (I 11 (i + 1)) (I 11 (i + 2)) (I 11 (i + 3)) (I 11 (i + 4)) (I 11 (i + 5))) (a_up L 268 0 x))
      refine aw_istore (lv' := [(5, vi 0), (4, vi i), (3, vr 268), (2, vr 175), (1, vr 12), (0, vr 11)]) d_La_law_135 (by decide) rfl ?_
      refine aw_aload_n d_La_law_137 rfl rfl ?_
      refine aw_aload_n d_La_law_138 rfl rfl ?_
      refine aw_iload d_La_law_139 rfl ?_
      refine aw_iconst d_La_law_141 ⟨by decide, by decide⟩ ?_
      refine ax_iadd d_La_law_142 ⟨(by omega), (by omega)⟩ ?_
      refine ax_ialde (x := I 11 (i + 1)) d_La_law_143 (k_11 S) (by omega) (by rw [hl]; omega) (Eq.trans (h11 (i + 1)) (rfl)) ?_
      refine aw_aload_n d_La_law_144 rfl rfl ?_
      refine aw_iload d_La_law_145 rfl ?_
      refine aw_iconst d_La_law_147 ⟨by decide, by decide⟩ ?_
      refine ax_iadd d_La_law_148 ⟨(by omega), (by omega)⟩ ?_
      refine ax_ialde (x := I 11 (i + 2)) d_La_law_149 (k_11 S) (by omega) (by rw [hl]; omega) (Eq.trans (h11 (i + 2)) (rfl)) ?_
      refine aw_aload_n d_La_law_150 rfl rfl ?_
      refine aw_iload d_La_law_151 rfl ?_
      refine aw_iconst d_La_law_153 ⟨by decide, by decide⟩ ?_
      refine ax_iadd d_La_law_154 ⟨(by omega), (by omega)⟩ ?_
      refine ax_ialde (x := I 11 (i + 3)) d_La_law_155 (k_11 S) (by omega) (by rw [hl]; omega) (Eq.trans (h11 (i + 3)) (rfl)) ?_
      refine aw_aload_n d_La_law_156 rfl rfl ?_
      refine aw_iload d_La_law_157 rfl ?_
      refine aw_iconst d_La_law_159 ⟨by decide, by decide⟩ ?_
      refine ax_iadd d_La_law_160 ⟨(by omega), (by omega)⟩ ?_
      refine ax_ialde (x := I 11 (i + 4)) d_La_law_161 (k_11 S) (by omega) (by rw [hl]; omega) (Eq.trans (h11 (i + 4)) (rfl)) ?_
      refine aw_aload_n d_La_law_162 rfl rfl ?_
      refine aw_iload d_La_law_163 rfl ?_
      refine aw_iconst d_La_law_165 ⟨by decide, by decide⟩ ?_
      refine ax_iadd d_La_law_166 ⟨(by omega), (by omega)⟩ ?_
      refine ax_ialde (x := I 11 (i + 5)) d_La_law_167 (k_11 S) (by omega) (by rw [hl]; omega) (Eq.trans (h11 (i + 5)) (rfl)) ?_
      refine ax_Vt (st := []) (as := [vi (I 11 (i + 1)), vi (I 11 (i + 2)), vi (I 11 (i + 3)), vi (I 11 (i + 4)), vi (I 11 (i + 5))]) (b := 175) d_La_law_168 cs_La_law_168 (k_175 S) (cT_Mo_feed S (rel.rb1 er)) rfl rfl rfl (fun v_ h_ p_ => ?_) (fun x_ h_ p_ => ?_)
      · rcases p_ with ⟨p1, y, p2, p3, p4⟩ | ⟨p1, y, p2, p3, p4⟩
        · cases p3; subst p4
          subst p2
          have c0 : cFeed (I 30 1) = 0 := q1
          show AW l G M_law P 171 [(5, vi 0), (4, vi i), (3, vr 268), (2, vr 175), (1, vr 12), (0, vr 11)] [vi ((jFeed I (I 11 (i + 1)) (I 11 (i + 2)) (I 11 (i + 3)) (I 11 (i + 4)) (I 11 (i + 5))) 175 3 + 20)] (sD h (fW (fW (fW (fW (fW (a_up (jFeed I (I 11 (i + 1)) (I 11 (i + 2)) (I 11 (i + 3)) (I 11 (i + 4)) (I 11 (i + 5))) 175 4 0) (I 11 (i + 1))) (I 11 (i + 2))) (I 11 (i + 3))) (I 11 (i + 4))) (I 11 (i + 5))) (a_up L 268 0 x))
          refine aw_istore (lv' := [(6, vi ((jFeed I (I 11 (i + 1)) (I 11 (i + 2)) (I 11 (i + 3)) (I 11 (i + 4)) (I 11 (i + 5))) 175 3 + 20)), (5, vi 0), (4, vi i), (3, vr 268), (2, vr 175), (1, vr 12), (0, vr 11)]) d_La_law_171 (by decide) rfl ?_
          refine aw_aload_n d_La_law_173 rfl rfl ?_
          refine ax_V (st := []) (as := []) (b := 175) (v := some (vi 0)) (h' := sD h (fW (fW (fW (fW (fW (a_up (jFeed I (I 11 (i + 1)) (I 11 (i + 2)) (I 11 (i + 3)) (I 11 (i + 4)) (I 11 (i + 5))) 175 4 0) (I 11 (i + 1))) (I 11 (i + 2))) (I 11 (i + 3))) (I 11 (i + 4))) (I 11 (i + 5))) (a_up L 268 0 x)) d_La_law_174 cs_La_law_174 (k_175 S) (by have z := c_Mo_thrown (l := l) (G := G) (h := h) (I := fW (fW (fW (fW (fW (a_up (jFeed I (I 11 (i + 1)) (I 11 (i + 2)) (I 11 (i + 3)) (I 11 (i + 4)) (I 11 (i + 5))) 175 4 0) (I 11 (i + 1))) (I 11 (i + 2))) (I 11 (i + 3))) (I 11 (i + 4))) (I 11 (i + 5))) (L := a_up L 268 0 x) S; rw [fW_4, fW_4, fW_4, fW_4, fW_4, a_up_at] at z; exact z) rfl rfl rfl ?_
          show AW l G M_law P 177 [(6, vi ((jFeed I (I 11 (i + 1)) (I 11 (i + 2)) (I 11 (i + 3)) (I 11 (i + 4)) (I 11 (i + 5))) 175 3 + 20)), (5, vi 0), (4, vi i), (3, vr 268), (2, vr 175), (1, vr 12), (0, vr 11)] [vi 0] (sD h (fW (fW (fW (fW (fW (a_up (jFeed I (I 11 (i + 1)) (I 11 (i + 2)) (I 11 (i + 3)) (I 11 (i + 4)) (I 11 (i + 5))) 175 4 0) (I 11 (i + 1))) (I 11 (i + 2))) (I 11 (i + 3))) (I 11 (i + 4))) (I 11 (i + 5))) (a_up L 268 0 x))
          refine aw_iload d_La_law_177 rfl ?_
          refine aw_icmp_eq (tgt := 184) d_La_law_179 (by decide) (fun c_179 => ?_) (fun c_179 => False.elim (by omega))
          refine aw_iload d_La_law_184 rfl ?_
          refine aw_if_ne (tgt := 201) d_La_law_186 (by decide) (fun c_186 => False.elim (by omega)) (fun c_186 => ?_)
          refine aw_aload_n d_La_law_189 rfl rfl ?_
          refine aw_iconst d_La_law_190 ⟨by decide, by decide⟩ ?_
          refine ax_lalde (x := x) d_La_law_191 (k_268 S) (by omega) (by rw [n_268 S]; omega) (a_up_at) ?_
          refine aw_iload d_La_law_192 rfl ?_
          refine aw_i2l d_La_law_194 ?_
          refine aw_lcmp d_La_law_195 ?_
          refine aw_if_eq (tgt := 201) d_La_law_196 (by decide) (fun c_196 => ?_) (fun c_196 => False.elim (c_196 (lc0 (by rw [show x = I 30 1 + 20 from q2, er.2, rel.2.2.2.2.1]))))
          refine aw_goto (tgt := 885) d_La_law_201 (by decide) ?_
          refine aw_sub (lv' := [(4, vi i), (3, vr 268), (2, vr 175), (1, vr 12), (0, vr 11)]) (by simp) ?_
          exact hC h (fW (fW (fW (fW (fW (a_up (jFeed I (I 11 (i + 1)) (I 11 (i + 2)) (I 11 (i + 3)) (I 11 (i + 4)) (I 11 (i + 5))) 175 4 0) (I 11 (i + 1))) (I 11 (i + 2))) (I 11 (i + 3))) (I 11 (i + 4))) (I 11 (i + 5))) (a_up L 268 0 x) S (rel_feed rel (by have z := c0; unfold cFeed at z; split at z; (rename_i c_; rw [rel.2.2.2.2.1] at c_; exact c_); exact absurd z (by decide)) (fun j => a_up_ne (Or.inl (by decide))) (fun j => a_up_ne (Or.inl (by decide)))) (fun j => by rw [fW_ne (by decide) (by decide), fW_ne (by decide) (by decide), fW_ne (by decide) (by decide), fW_ne (by decide) (by decide), fW_ne (by decide) (by decide), a_up_ne (Or.inl (by decide))]; exact h11 j) hl (by omega) (by omega)
        · exact absurd ((congrArg cFeed (er.2.trans rel.2.2.2.2.1.symm)).trans q1) p1
      · rcases p_ with ⟨p1, y, p2, p3, p4⟩ | ⟨p1, y, p2, p3, p4⟩
        · cases p3
        · cases p3
    · cases q3; subst q4
      refine ax_hp (h' := sD (wN h (40 + ceF (cFeed (I 30 1))) 6) (zz h I) (zz h L)) rfl ?_
      have er : Ref0 I (zz h I) := Ref0.zz S ⟨fun _ _ _ _ => rfl, rfl⟩
      have h11 : ∀ j, (zz h I) 11 j = I 11 j := fun j => zz_ne S (by decide)
      have S0 := S
      have S := Shp_wN (q := 40 + ceF (cFeed (I 30 1))) (n := 6) S0
      have hl0 := hl
      have hl : hN (wN h (40 + ceF (cFeed (I 30 1))) 6) 11 = N := (wN_11 S0).trans hl0
      show AW l G M_law P 135 [(4, vi i), (3, vr 268), (2, vr 175), (1, vr 12), (0, vr 11)] [vi (cFeed (I 30 1))] (sD (wN h (40 + ceF (cFeed (I 30 1))) 6) (zz h I) (zz h L))
      refine aw_istore (lv' := [(5, vi (cFeed (I 30 1))), (4, vi i), (3, vr 268), (2, vr 175), (1, vr 12), (0, vr 11)]) d_La_law_135 (by decide) rfl ?_
      refine aw_aload_n d_La_law_137 rfl rfl ?_
      refine aw_aload_n d_La_law_138 rfl rfl ?_
      refine aw_iload d_La_law_139 rfl ?_
      refine aw_iconst d_La_law_141 ⟨by decide, by decide⟩ ?_
      refine ax_iadd d_La_law_142 ⟨(by omega), (by omega)⟩ ?_
      refine ax_ialde (x := I 11 (i + 1)) d_La_law_143 (k_11 S) (by omega) (by rw [hl]; omega) (Eq.trans (h11 (i + 1)) (rfl)) ?_
      refine aw_aload_n d_La_law_144 rfl rfl ?_
      refine aw_iload d_La_law_145 rfl ?_
      refine aw_iconst d_La_law_147 ⟨by decide, by decide⟩ ?_
      refine ax_iadd d_La_law_148 ⟨(by omega), (by omega)⟩ ?_
      refine ax_ialde (x := I 11 (i + 2)) d_La_law_149 (k_11 S) (by omega) (by rw [hl]; omega) (Eq.trans (h11 (i + 2)) (rfl)) ?_
      refine aw_aload_n d_La_law_150 rfl rfl ?_
      refine aw_iload d_La_law_151 rfl ?_
      refine aw_iconst d_La_law_153 ⟨by decide, by decide⟩ ?_
      refine ax_iadd d_La_law_154 ⟨(by omega), (by omega)⟩ ?_
      refine ax_ialde (x := I 11 (i + 3)) d_La_law_155 (k_11 S) (by omega) (by rw [hl]; omega) (Eq.trans (h11 (i + 3)) (rfl)) ?_
      refine aw_aload_n d_La_law_156 rfl rfl ?_
      refine aw_iload d_La_law_157 rfl ?_
      refine aw_iconst d_La_law_159 ⟨by decide, by decide⟩ ?_
      refine ax_iadd d_La_law_160 ⟨(by omega), (by omega)⟩ ?_
      refine ax_ialde (x := I 11 (i + 4)) d_La_law_161 (k_11 S) (by omega) (by rw [hl]; omega) (Eq.trans (h11 (i + 4)) (rfl)) ?_
      refine aw_aload_n d_La_law_162 rfl rfl ?_
      refine aw_iload d_La_law_163 rfl ?_
      refine aw_iconst d_La_law_165 ⟨by decide, by decide⟩ ?_
      refine ax_iadd d_La_law_166 ⟨(by omega), (by omega)⟩ ?_
      refine ax_ialde (x := I 11 (i + 5)) d_La_law_167 (k_11 S) (by omega) (by rw [hl]; omega) (Eq.trans (h11 (i + 5)) (rfl)) ?_
      refine ax_Vt (st := []) (as := [vi (I 11 (i + 1)), vi (I 11 (i + 2)), vi (I 11 (i + 3)), vi (I 11 (i + 4)), vi (I 11 (i + 5))]) (b := 175) d_La_law_168 cs_La_law_168 (k_175 S) (cT_Mo_feed S (rel.rb1 er)) rfl rfl rfl (fun v_ h_ p_ => ?_) (fun x_ h_ p_ => ?_)
      · rcases p_ with ⟨p1, y, p2, p3, p4⟩ | ⟨p1, y, p2, p3, p4⟩
        · exact absurd ((congrArg cFeed (er.2.trans rel.2.2.2.2.1.symm)).symm.trans p1) q1
        · cases p3; subst p4
          obtain ⟨y, rfl⟩ := p2
          show AW l G M_law P 171 [(5, vi (cFeed (I 30 1))), (4, vi i), (3, vr 268), (2, vr 175), (1, vr 12), (0, vr 11)] [vi y] (sD (wN h (40 + ceF (cFeed (I 30 1))) 6) (a_up (zz h I) 175 4 (cFeed ((zz h I) 175 3))) (zz h L))
          refine aw_istore (lv' := [(6, vi y), (5, vi (cFeed (I 30 1))), (4, vi i), (3, vr 268), (2, vr 175), (1, vr 12), (0, vr 11)]) d_La_law_171 (by decide) rfl ?_
          refine aw_aload_n d_La_law_173 rfl rfl ?_
          refine ax_V (st := []) (as := []) (b := 175) (v := some (vi (cFeed (I 30 1)))) (h' := sD (wN h (40 + ceF (cFeed (I 30 1))) 6) (a_up (zz h I) 175 4 (cFeed ((zz h I) 175 3))) (zz h L)) d_La_law_174 cs_La_law_174 (k_175 S) (by have z := c_Mo_thrown (l := l) (G := G) (h := (wN h (40 + ceF (cFeed (I 30 1))) 6)) (I := a_up (zz h I) 175 4 (cFeed ((zz h I) 175 3))) (L := zz h L) S; rw [a_up_at, congrArg cFeed (er.2.trans rel.2.2.2.2.1.symm)] at z; exact z) rfl rfl rfl ?_
          show AW l G M_law P 177 [(6, vi y), (5, vi (cFeed (I 30 1))), (4, vi i), (3, vr 268), (2, vr 175), (1, vr 12), (0, vr 11)] [vi (cFeed (I 30 1))] (sD (wN h (40 + ceF (cFeed (I 30 1))) 6) (a_up (zz h I) 175 4 (cFeed ((zz h I) 175 3))) (zz h L))
          refine aw_iload d_La_law_177 rfl ?_
          refine aw_icmp_eq (tgt := 184) d_La_law_179 (by decide) (fun c_179 => ?_) (fun c_179 => False.elim (by omega))
          refine aw_iload d_La_law_184 rfl ?_
          refine aw_if_ne (tgt := 201) d_La_law_186 (by decide) (fun c_186 => ?_) (fun c_186 => False.elim (by omega))
          refine aw_goto (tgt := 885) d_La_law_201 (by decide) ?_
          refine aw_sub (lv' := [(4, vi i), (3, vr 268), (2, vr 175), (1, vr 12), (0, vr 11)]) (by simp) ?_
          exact hC _ (a_up (zz h I) 175 4 (cFeed ((zz h I) 175 3))) (zz h L) S (rel_len (rel.scr (fun a j y => (zz_ne S0 (by omega)).trans rfl) (zz_ne S0 (by decide)) (fun j => zz_ne S0 (by decide)) (fun j => zz_ne S0 (by decide))) (fun _ => rfl) (fun _ => rfl)) (fun j => (a_up_ne (Or.inl (by decide))).trans (h11 j)) hl (by show hX h + 1 ≤ hX h + 1; omega) (by show hU h + 6 ≤ hU h + 6; omega)
      · rcases p_ with ⟨p1, y, p2, p3, p4⟩ | ⟨p1, y, p2, p3, p4⟩
        · cases p3
        · cases p3
  · rcases q_ with ⟨q1, x, q2, q3, q4⟩ | ⟨q1, q3, q4⟩
    · cases q3
    · cases q3
