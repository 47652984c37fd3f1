/-! the law's wrappers -/
theorem cl_13 : Cond.classLink "ModuleSignerLaw" 13 (a_en 1) ∈ lw_tbl := List.mem_append_right _ (List.mem_of_getElem? (i := 377) (by decide +kernel))
theorem cl_19 : Cond.classLink "ModuleSignerLaw" 19 (a_en 0) ∈ lw_tbl := List.mem_append_right _ (List.mem_of_getElem? (i := 462) (by decide +kernel))
theorem cl_46 : Cond.classLink "ModuleSignerLaw" 46 (a_en 2) ∈ lw_tbl := List.mem_append_right _ (List.mem_of_getElem? (i := 569) (by decide +kernel))
theorem cl_48 : Cond.classLink "ModuleSignerLaw" 48 (a_en 4) ∈ lw_tbl := List.mem_append_right _ (List.mem_of_getElem? (i := 570) (by decide +kernel))
theorem cl_53 : Cond.classLink "ModuleSignerLaw" 53 (a_en 3) ∈ lw_tbl := List.mem_append_right _ (List.mem_of_getElem? (i := 777) (by decide +kernel))
theorem ca_0 : Cond.castable (a_en 0) (a_en 0) ∈ lw_tbl := List.mem_append_right _ (List.mem_of_getElem? (i := 472) (by decide +kernel))
theorem ca_1 : Cond.castable (a_en 1) (a_en 1) ∈ lw_tbl := List.mem_append_right _ (List.mem_of_getElem? (i := 384) (by decide +kernel))
theorem ca_2 : Cond.castable (a_en 2) (a_en 2) ∈ lw_tbl := List.mem_append_right _ (List.mem_of_getElem? (i := 581) (by decide +kernel))
theorem ca_3 : Cond.castable (a_en 3) (a_en 3) ∈ lw_tbl := List.mem_append_right _ (List.mem_of_getElem? (i := 794) (by decide +kernel))
theorem ca_4 : Cond.castable (a_en 4) (a_en 4) ∈ lw_tbl := List.mem_append_right _ (List.mem_of_getElem? (i := 674) (by decide +kernel))
theorem nc_1_0 : Cond.not (.castable (a_en 1) (a_en 0)) ∈ flatC (Jvm.Cond.and given_1 narrow_1) := by decide +kernel
theorem nc_2_0 : Cond.not (.castable (a_en 2) (a_en 0)) ∈ flatC (Jvm.Cond.and given_1 narrow_1) := by decide +kernel
theorem nc_4_0 : Cond.not (.castable (a_en 4) (a_en 0)) ∈ flatC (Jvm.Cond.and given_1 narrow_1) := by decide +kernel
theorem nc_4_2 : Cond.not (.castable (a_en 4) (a_en 2)) ∈ flatC (Jvm.Cond.and given_1 narrow_1) := by decide +kernel
theorem nc_3_0 : Cond.not (.castable (a_en 3) (a_en 0)) ∈ flatC (Jvm.Cond.and given_1 narrow_1) := by decide +kernel
theorem nc_3_2 : Cond.not (.castable (a_en 3) (a_en 2)) ∈ flatC (Jvm.Cond.and given_1 narrow_1) := by decide +kernel
theorem nc_4_3 : Cond.not (.castable (a_en 4) (a_en 3)) ∈ flatC (Jvm.Cond.and given_1 narrow_1) := by decide +kernel
def WrR (h : Hp) (I L : Nat → Int → Int) (ce : Int → Nat) (code : Int) (Qv : Int → Prop) (J : Nat → Int → Int) : a_R → Hp → Prop := fun r h2 => (code = 0 ∧ ∃ x, Qv x ∧ r = .inl (some (vi 0)) ∧ h2 = sD h J (a_up L 268 0 x)) ∨ (code ≠ 0 ∧ r = .inl (some (vi code)) ∧ h2 = wN (sD h I L) (40 + ce code) 6)
theorem wN_k {h : Hp} {q n : Nat} : hK (wN h q n) (hX h) = q := if_pos rfl
set_option maxHeartbeats 800000 in
set_option maxRecDepth 100000 in
theorem c_La_feed {l : Launch} {G : a_G} {h : Hp} {I L : Nat → Int → Int} {a b c d e : Int} (S : Shp h) (hfl : l.flags = flags0) (rm : hX h + 1 ≤ a_NX ∧ hU h + 6 ≤ a_US) (cb : CB I) : AW l G M_La_feed (WrR h I L ceF (cFeed (I 30 1)) (fun x => x = I 30 1 + 20) (jFeed I a b c d e)) 0 (a_ar 0 [vr 12, vi a, vi b, vi c, vi d, vi e, vr 268]) [] (sD h I L) := by
  suffices key : ∀ P : a_R → Hp → Prop, (∀ r h2, WrR h I L ceF (cFeed (I 30 1)) (fun x => x = I 30 1 + 20) (jFeed I a b c d e) r h2 → P r h2) → AW l G M_La_feed P 0 [(0, vr 12), (1, vi a), (2, vi b), (3, vi c), (4, vi d), (5, vi e), (6, vr 268)] [] (sD h I L) from key _ (fun _ _ q => q)
  intro P hP
  refine aw_aload d_La_feed_0 rfl ?_
  refine aw_iconst d_La_feed_2 ⟨by decide, by decide⟩ ?_
  refine aw_aload_n d_La_feed_3 rfl rfl ?_
  refine aw_iload_n d_La_feed_4 rfl rfl ?_
  refine aw_iload_n d_La_feed_5 rfl rfl ?_
  refine aw_iload_n d_La_feed_6 rfl rfl ?_
  refine aw_iload d_La_feed_7 rfl ?_
  refine aw_iload d_La_feed_9 rfl ?_
  refine ax_Vt (st := [vi 0, vr 268]) (as := [vi a, vi b, vi c, vi d, vi e]) (b := 12) d_La_feed_11 cs_La_feed_11 (k_12 S) (c_MS_feed S hfl rm cb) rfl rfl rfl (fun v_ h_ q_ => ?_) (fun x_ h_ q_ => ?_)
  · rcases q_ with ⟨q1, v, q2, q3, q4⟩ | ⟨q1, q3, q4⟩
    · cases q3; subst q4
      subst q2
      show AW l G M_La_feed P 14 [(0, vr 12), (1, vi a), (2, vi b), (3, vi c), (4, vi d), (5, vi e), (6, vr 268)] [vi (I 30 1 + 20), vi 0, vr 268] (sD h (jFeed I a b c d e) L)
      refine aw_i2l d_La_feed_14 ?_
      refine ax_last d_La_feed_15 (k_268 S) (by decide) (by omega) (by rw [n_268 S]; omega) ?_
      refine aw_goto (tgt := 23) d_La_feed_16 (by decide) ?_
      refine aw_iconst d_La_feed_23 ⟨by decide, by decide⟩ ?_
      exact aw_iret d_La_feed_24 rfl (hP _ _ (Or.inl ⟨q1, _, rfl, rfl, rfl⟩))
    · cases q3
  · rcases q_ with ⟨q1, v, q2, q3, q4⟩ | ⟨q1, q3, q4⟩
    · cases q3
    · cases q3; subst q4
      have cc : cFeed (I 30 1) = 0 ∨ cFeed (I 30 1) = 1 := by unfold cFeed; (repeat (first | omega | split))
      rcases cc with cc | cc
      · exact absurd cc q1
      · rw [cc, show ceF 1 = 1 from rfl]
        refine at_catch (e := 1) (tgt := 19) (i := 13) (pre := []) (rest := []) (a := 0) (b := 16) wN_k rfl ⟨by decide, by decide⟩ (by decide) cl_13 ca_1 (fun q hq => by cases hq) ?_
        refine aw_astore (lv' := [(7, vr (hX h)), (0, vr 12), (1, vi a), (2, vi b), (3, vi c), (4, vi d), (5, vi e), (6, vr 268)]) d_La_feed_19 (by decide) rfl ?_
        refine aw_iconst d_La_feed_21 ⟨by decide, by decide⟩ ?_
        exact aw_iret d_La_feed_22 rfl (hP _ _ (Or.inr ⟨q1, by rw [cc], by rw [cc]; rfl⟩))
set_option maxHeartbeats 800000 in
set_option maxRecDepth 100000 in
theorem c_La_end {l : Launch} {G : a_G} {h : Hp} {I L : Nat → Int → Int} {s n : Int} (S : Shp h) (hfl : l.flags = flags0) (rm : hX h + 1 ≤ a_NX ∧ hU h + 6 ≤ a_US) (cb : CB I) : AW l G M_La_end (WrR h I L ceA (cEnd (I 30 1) s n) (fun x => x = n) (a_up (byBecome I (14 + 2 * s.toNat) (15 + 2 * s.toNat) 31 n) 30 1 0)) 0 (a_ar 0 [vr 12, vi s, vi n, vr 268]) [] (sD h I L) := by
  suffices key : ∀ P : a_R → Hp → Prop, (∀ r h2, WrR h I L ceA (cEnd (I 30 1) s n) (fun x => x = n) (a_up (byBecome I (14 + 2 * s.toNat) (15 + 2 * s.toNat) 31 n) 30 1 0) r h2 → P r h2) → AW l G M_La_end P 0 [(0, vr 12), (1, vi s), (2, vi n), (3, vr 268)] [] (sD h I L) from key _ (fun _ _ q => q)
  intro P hP
  refine aw_aload_n d_La_end_0 rfl rfl ?_
  refine aw_iconst d_La_end_1 ⟨by decide, by decide⟩ ?_
  refine aw_aload_n d_La_end_2 rfl rfl ?_
  refine aw_iload_n d_La_end_3 rfl rfl ?_
  refine aw_iload_n d_La_end_4 rfl rfl ?_
  refine ax_Vt (st := [vi 0, vr 268]) (as := [vi s, vi n]) (b := 12) d_La_end_5 cs_La_end_5 (k_12 S) (c_MS_end S hfl rm cb) rfl rfl rfl (fun v_ h_ q_ => ?_) (fun x_ h_ q_ => ?_)
  · rcases q_ with ⟨q1, v, q2, q3, q4⟩ | ⟨q1, q3, q4⟩
    · cases q3; subst q4
      subst q2
      show AW l G M_La_end P 8 [(0, vr 12), (1, vi s), (2, vi n), (3, vr 268)] [vi n, vi 0, vr 268] (sD h (a_up (byBecome I (14 + 2 * s.toNat) (15 + 2 * s.toNat) 31 n) 30 1 0) L)
      refine aw_i2l d_La_end_8 ?_
      refine ax_last d_La_end_9 (k_268 S) (by decide) (by omega) (by rw [n_268 S]; omega) ?_
      refine aw_goto (tgt := 21) d_La_end_10 (by decide) ?_
      refine aw_iconst d_La_end_21 ⟨by decide, by decide⟩ ?_
      exact aw_iret d_La_end_22 rfl (hP _ _ (Or.inl ⟨q1, _, rfl, rfl, rfl⟩))
    · cases q3
  · rcases q_ with ⟨q1, v, q2, q3, q4⟩ | ⟨q1, q3, q4⟩
    · cases q3
    · cases q3; subst q4
      have cc : cEnd (I 30 1) s n = 0 ∨ cEnd (I 30 1) s n = 1 ∨ cEnd (I 30 1) s n = 2 := by unfold cEnd; (repeat (first | omega | split))
      rcases cc with cc | cc | cc
      · exact absurd cc q1
      · rw [cc, show ceA 1 = 0 from rfl]
        refine at_catch (e := 0) (tgt := 13) (i := 19) (pre := []) (rest := [(0, 10, 17, 13)]) (a := 0) (b := 10) wN_k rfl ⟨by decide, by decide⟩ (by decide) cl_19 ca_0 (fun q hq => by cases hq) ?_
        refine aw_astore (lv' := [(4, vr (hX h)), (0, vr 12), (1, vi s), (2, vi n), (3, vr 268)]) d_La_end_13 (by decide) rfl ?_
        refine aw_iconst d_La_end_15 ⟨by decide, by decide⟩ ?_
        exact aw_iret d_La_end_16 rfl (hP _ _ (Or.inr ⟨q1, by rw [cc], by rw [cc]; rfl⟩))
      · rw [cc, show ceA 2 = 1 from rfl]
        refine at_catch (e := 1) (tgt := 17) (i := 13) (pre := [(0, 10, 13, 19)]) (rest := []) (a := 0) (b := 10) wN_k rfl ⟨by decide, by decide⟩ (by decide) cl_13 ca_1 (fun q hq => by simp only [List.mem_cons, List.not_mem_nil, or_false] at hq; subst hq; (first | exact ⟨by decide, 0, cl_19, nc_1_0⟩)) ?_
        refine aw_astore (lv' := [(4, vr (hX h)), (0, vr 12), (1, vi s), (2, vi n), (3, vr 268)]) d_La_end_17 (by decide) rfl ?_
        refine aw_iconst d_La_end_19 ⟨by decide, by decide⟩ ?_
        exact aw_iret d_La_end_20 rfl (hP _ _ (Or.inr ⟨q1, by rw [cc], by rw [cc]; rfl⟩))
set_option maxHeartbeats 800000 in
set_option maxRecDepth 100000 in
theorem c_La_copy {l : Launch} {G : a_G} {h : Hp} {I L : Nat → Int → Int} {s u : Int} (S : Shp h) (hfl : l.flags = flags0) (rm : hX h + 1 ≤ a_NX ∧ hU h + 6 ≤ a_US) (cb : CB I) : AW l G M_La_copy (WrR h I L ceA (cTwo s u) (fun x => x = I (14 + 2 * s.toNat) 1) (byBecome I (14 + 2 * u.toNat) (15 + 2 * u.toNat) (15 + 2 * s.toNat) (I (14 + 2 * s.toNat) 1))) 0 (a_ar 0 [vr 12, vi s, vi u, vr 268]) [] (sD h I L) := by
  suffices key : ∀ P : a_R → Hp → Prop, (∀ r h2, WrR h I L ceA (cTwo s u) (fun x => x = I (14 + 2 * s.toNat) 1) (byBecome I (14 + 2 * u.toNat) (15 + 2 * u.toNat) (15 + 2 * s.toNat) (I (14 + 2 * s.toNat) 1)) r h2 → P r h2) → AW l G M_La_copy P 0 [(0, vr 12), (1, vi s), (2, vi u), (3, vr 268)] [] (sD h I L) from key _ (fun _ _ q => q)
  intro P hP
  refine aw_aload_n d_La_copy_0 rfl rfl ?_
  refine aw_iconst d_La_copy_1 ⟨by decide, by decide⟩ ?_
  refine aw_aload_n d_La_copy_2 rfl rfl ?_
  refine aw_iload_n d_La_copy_3 rfl rfl ?_
  refine aw_iload_n d_La_copy_4 rfl rfl ?_
  refine ax_Vt (st := [vi 0, vr 268]) (as := [vi s, vi u]) (b := 12) d_La_copy_5 cs_La_copy_5 (k_12 S) (c_MS_copy S hfl rm cb) rfl rfl rfl (fun v_ h_ q_ => ?_) (fun x_ h_ q_ => ?_)
  · rcases q_ with ⟨q1, v, q2, q3, q4⟩ | ⟨q1, q3, q4⟩
    · cases q3; subst q4
      subst q2
      show AW l G M_La_copy P 8 [(0, vr 12), (1, vi s), (2, vi u), (3, vr 268)] [vi (I (14 + 2 * s.toNat) 1), vi 0, vr 268] (sD h (byBecome I (14 + 2 * u.toNat) (15 + 2 * u.toNat) (15 + 2 * s.toNat) (I (14 + 2 * s.toNat) 1)) L)
      refine aw_i2l d_La_copy_8 ?_
      refine ax_last d_La_copy_9 (k_268 S) (by decide) (by omega) (by rw [n_268 S]; omega) ?_
      refine aw_goto (tgt := 17) d_La_copy_10 (by decide) ?_
      refine aw_iconst d_La_copy_17 ⟨by decide, by decide⟩ ?_
      exact aw_iret d_La_copy_18 rfl (hP _ _ (Or.inl ⟨q1, _, rfl, rfl, rfl⟩))
    · cases q3
  · rcases q_ with ⟨q1, v, q2, q3, q4⟩ | ⟨q1, q3, q4⟩
    · cases q3
    · cases q3; subst q4
      have cc : cTwo s u = 0 ∨ cTwo s u = 1 := by unfold cTwo; (repeat (first | omega | split))
      rcases cc with cc | cc
      · exact absurd cc q1
      · rw [cc, show ceA 1 = 0 from rfl]
        refine at_catch (e := 0) (tgt := 13) (i := 19) (pre := []) (rest := []) (a := 0) (b := 10) wN_k rfl ⟨by decide, by decide⟩ (by decide) cl_19 ca_0 (fun q hq => by cases hq) ?_
        refine aw_astore (lv' := [(4, vr (hX h)), (0, vr 12), (1, vi s), (2, vi u), (3, vr 268)]) d_La_copy_13 (by decide) rfl ?_
        refine aw_iconst d_La_copy_15 ⟨by decide, by decide⟩ ?_
        exact aw_iret d_La_copy_16 rfl (hP _ _ (Or.inr ⟨q1, by rw [cc], by rw [cc]; rfl⟩))
set_option maxHeartbeats 800000 in
set_option maxRecDepth 100000 in
theorem c_La_resize {l : Launch} {G : a_G} {h : Hp} {I L : Nat → Int → Int} {s n : Int} (S : Shp h) (hfl : l.flags = flags0) (rm : hX h + 1 ≤ a_NX ∧ hU h + 6 ≤ a_US) (cb : CB I) : AW l G M_La_resize (WrR h I L ceA (cResize s n) (fun x => x = I (14 + 2 * s.toNat) 1) (byStretch I (14 + 2 * s.toNat) (15 + 2 * s.toNat) n)) 0 (a_ar 0 [vr 12, vi s, vi n, vr 268]) [] (sD h I L) := by
  suffices key : ∀ P : a_R → Hp → Prop, (∀ r h2, WrR h I L ceA (cResize s n) (fun x => x = I (14 + 2 * s.toNat) 1) (byStretch I (14 + 2 * s.toNat) (15 + 2 * s.toNat) n) r h2 → P r h2) → AW l G M_La_resize P 0 [(0, vr 12), (1, vi s), (2, vi n), (3, vr 268)] [] (sD h I L) from key _ (fun _ _ q => q)
  intro P hP
  refine aw_aload_n d_La_resize_0 rfl rfl ?_
  refine aw_iconst d_La_resize_1 ⟨by decide, by decide⟩ ?_
  refine aw_aload_n d_La_resize_2 rfl rfl ?_
  refine aw_iload_n d_La_resize_3 rfl rfl ?_
  refine aw_iload_n d_La_resize_4 rfl rfl ?_
  refine ax_Vt (st := [vi 0, vr 268]) (as := [vi s, vi n]) (b := 12) d_La_resize_5 cs_La_resize_5 (k_12 S) (c_MS_resize S hfl rm cb) rfl rfl rfl (fun v_ h_ q_ => ?_) (fun x_ h_ q_ => ?_)
  · rcases q_ with ⟨q1, v, q2, q3, q4⟩ | ⟨q1, q3, q4⟩
    · cases q3; subst q4
      subst q2
      show AW l G M_La_resize P 8 [(0, vr 12), (1, vi s), (2, vi n), (3, vr 268)] [vi (I (14 + 2 * s.toNat) 1), vi 0, vr 268] (sD h (byStretch I (14 + 2 * s.toNat) (15 + 2 * s.toNat) n) L)
      refine aw_i2l d_La_resize_8 ?_
      refine ax_last d_La_resize_9 (k_268 S) (by decide) (by omega) (by rw [n_268 S]; omega) ?_
      refine aw_goto (tgt := 17) d_La_resize_10 (by decide) ?_
      refine aw_iconst d_La_resize_17 ⟨by decide, by decide⟩ ?_
      exact aw_iret d_La_resize_18 rfl (hP _ _ (Or.inl ⟨q1, _, rfl, rfl, rfl⟩))
    · cases q3
  · rcases q_ with ⟨q1, v, q2, q3, q4⟩ | ⟨q1, q3, q4⟩
    · cases q3
    · cases q3; subst q4
      have cc : cResize s n = 0 ∨ cResize s n = 1 := by unfold cResize; (repeat (first | omega | split))
      rcases cc with cc | cc
      · exact absurd cc q1
      · rw [cc, show ceA 1 = 0 from rfl]
        refine at_catch (e := 0) (tgt := 13) (i := 19) (pre := []) (rest := []) (a := 0) (b := 10) wN_k rfl ⟨by decide, by decide⟩ (by decide) cl_19 ca_0 (fun q hq => by cases hq) ?_
        refine aw_astore (lv' := [(4, vr (hX h)), (0, vr 12), (1, vi s), (2, vi n), (3, vr 268)]) d_La_resize_13 (by decide) rfl ?_
        refine aw_iconst d_La_resize_15 ⟨by decide, by decide⟩ ?_
        exact aw_iret d_La_resize_16 rfl (hP _ _ (Or.inr ⟨q1, by rw [cc], by rw [cc]; rfl⟩))
set_option maxHeartbeats 800000 in
set_option maxRecDepth 100000 in
theorem c_La_alter {l : Launch} {G : a_G} {h : Hp} {I L : Nat → Int → Int} {s i v : Int} (S : Shp h) (hfl : l.flags = flags0) (rm : hX h + 1 ≤ a_NX ∧ hU h + 6 ≤ a_US) (cb : CB I) : AW l G M_La_alter (WrR h I L ceA (cAlter (I (14 + 2 * s.toNat) 1) s i v) (fun x => x = a_xor (byAt I (14 + 2 * s.toNat) (15 + 2 * s.toNat) i) v) (a_up I (15 + 2 * s.toNat) i (a_w8 (a_w8 (a_xor (byAt I (14 + 2 * s.toNat) (15 + 2 * s.toNat) i) v))))) 0 (a_ar 0 [vr 12, vi s, vi i, vi v, vr 268]) [] (sD h I L) := by
  suffices key : ∀ P : a_R → Hp → Prop, (∀ r h2, WrR h I L ceA (cAlter (I (14 + 2 * s.toNat) 1) s i v) (fun x => x = a_xor (byAt I (14 + 2 * s.toNat) (15 + 2 * s.toNat) i) v) (a_up I (15 + 2 * s.toNat) i (a_w8 (a_w8 (a_xor (byAt I (14 + 2 * s.toNat) (15 + 2 * s.toNat) i) v)))) r h2 → P r h2) → AW l G M_La_alter P 0 [(0, vr 12), (1, vi s), (2, vi i), (3, vi v), (4, vr 268)] [] (sD h I L) from key _ (fun _ _ q => q)
  intro P hP
  refine aw_aload d_La_alter_0 rfl ?_
  refine aw_iconst d_La_alter_2 ⟨by decide, by decide⟩ ?_
  refine aw_aload_n d_La_alter_3 rfl rfl ?_
  refine aw_iload_n d_La_alter_4 rfl rfl ?_
  refine aw_iload_n d_La_alter_5 rfl rfl ?_
  refine aw_iload_n d_La_alter_6 rfl rfl ?_
  refine ax_Vt (st := [vi 0, vr 268]) (as := [vi s, vi i, vi v]) (b := 12) d_La_alter_7 cs_La_alter_7 (k_12 S) (c_MS_alter S hfl rm cb) rfl rfl rfl (fun v_ h_ q_ => ?_) (fun x_ h_ q_ => ?_)
  · rcases q_ with ⟨q1, v, q2, q3, q4⟩ | ⟨q1, q3, q4⟩
    · cases q3; subst q4
      subst q2
      show AW l G M_La_alter P 10 [(0, vr 12), (1, vi s), (2, vi i), (3, vi v), (4, vr 268)] [vi (a_xor (byAt I (14 + 2 * s.toNat) (15 + 2 * s.toNat) i) v), vi 0, vr 268] (sD h (a_up I (15 + 2 * s.toNat) i (a_w8 (a_w8 (a_xor (byAt I (14 + 2 * s.toNat) (15 + 2 * s.toNat) i) v)))) L)
      refine aw_i2l d_La_alter_10 ?_
      refine ax_last d_La_alter_11 (k_268 S) (by decide) (by omega) (by rw [n_268 S]; omega) ?_
      refine aw_goto (tgt := 23) d_La_alter_12 (by decide) ?_
      refine aw_iconst d_La_alter_23 ⟨by decide, by decide⟩ ?_
      exact aw_iret d_La_alter_24 rfl (hP _ _ (Or.inl ⟨q1, _, rfl, rfl, rfl⟩))
    · cases q3
  · rcases q_ with ⟨q1, v, q2, q3, q4⟩ | ⟨q1, q3, q4⟩
    · cases q3
    · cases q3; subst q4
      have cc : cAlter (I (14 + 2 * s.toNat) 1) s i v = 0 ∨ cAlter (I (14 + 2 * s.toNat) 1) s i v = 1 ∨ cAlter (I (14 + 2 * s.toNat) 1) s i v = 2 := by unfold cAlter; (repeat (first | omega | split))
      rcases cc with cc | cc | cc
      · exact absurd cc q1
      · rw [cc, show ceA 1 = 0 from rfl]
        refine at_catch (e := 0) (tgt := 15) (i := 19) (pre := []) (rest := [(0, 12, 19, 13)]) (a := 0) (b := 12) wN_k rfl ⟨by decide, by decide⟩ (by decide) cl_19 ca_0 (fun q hq => by cases hq) ?_
        refine aw_astore (lv' := [(5, vr (hX h)), (0, vr 12), (1, vi s), (2, vi i), (3, vi v), (4, vr 268)]) d_La_alter_15 (by decide) rfl ?_
        refine aw_iconst d_La_alter_17 ⟨by decide, by decide⟩ ?_
        exact aw_iret d_La_alter_18 rfl (hP _ _ (Or.inr ⟨q1, by rw [cc], by rw [cc]; rfl⟩))
      · rw [cc, show ceA 2 = 1 from rfl]
        refine at_catch (e := 1) (tgt := 19) (i := 13) (pre := [(0, 12, 15, 19)]) (rest := []) (a := 0) (b := 12) wN_k rfl ⟨by decide, by decide⟩ (by decide) cl_13 ca_1 (fun q hq => by simp only [List.mem_cons, List.not_mem_nil, or_false] at hq; subst hq; (first | exact ⟨by decide, 0, cl_19, nc_1_0⟩)) ?_
        refine aw_astore (lv' := [(5, vr (hX h)), (0, vr 12), (1, vi s), (2, vi i), (3, vi v), (4, vr 268)]) d_La_alter_19 (by decide) rfl ?_
        refine aw_iconst d_La_alter_21 ⟨by decide, by decide⟩ ?_
        exact aw_iret d_La_alter_22 rfl (hP _ _ (Or.inr ⟨q1, by rw [cc], by rw [cc]; rfl⟩))
set_option maxHeartbeats 800000 in
set_option maxRecDepth 100000 in
theorem c_La_length {l : Launch} {G : a_G} {h : Hp} {I L : Nat → Int → Int} {s : Int} (S : Shp h) (hfl : l.flags = flags0) (rm : hX h + 1 ≤ a_NX ∧ hU h + 6 ≤ a_US) (cb : CB I) : AW l G M_La_length (WrR h I L ceA (cLen s) (fun x => x = I (14 + 2 * s.toNat) 1) (I)) 0 (a_ar 0 [vr 12, vi s, vr 268]) [] (sD h I L) := by
  suffices key : ∀ P : a_R → Hp → Prop, (∀ r h2, WrR h I L ceA (cLen s) (fun x => x = I (14 + 2 * s.toNat) 1) (I) r h2 → P r h2) → AW l G M_La_length P 0 [(0, vr 12), (1, vi s), (2, vr 268)] [] (sD h I L) from key _ (fun _ _ q => q)
  intro P hP
  refine aw_aload_n d_La_length_0 rfl rfl ?_
  refine aw_iconst d_La_length_1 ⟨by decide, by decide⟩ ?_
  refine aw_aload_n d_La_length_2 rfl rfl ?_
  refine aw_iload_n d_La_length_3 rfl rfl ?_
  refine ax_Vt (st := [vi 0, vr 268]) (as := [vi s]) (b := 12) d_La_length_4 cs_La_length_4 (k_12 S) (c_MS_length S hfl rm cb) rfl rfl rfl (fun v_ h_ q_ => ?_) (fun x_ h_ q_ => ?_)
  · rcases q_ with ⟨q1, v, q2, q3, q4⟩ | ⟨q1, q3, q4⟩
    · cases q3; subst q4
      subst q2
      show AW l G M_La_length P 7 [(0, vr 12), (1, vi s), (2, vr 268)] [vi (I (14 + 2 * s.toNat) 1), vi 0, vr 268] (sD h I L)
      refine aw_i2l d_La_length_7 ?_
      refine ax_last d_La_length_8 (k_268 S) (by decide) (by omega) (by rw [n_268 S]; omega) ?_
      refine aw_goto (tgt := 15) d_La_length_9 (by decide) ?_
      refine aw_iconst d_La_length_15 ⟨by decide, by decide⟩ ?_
      exact aw_iret d_La_length_16 rfl (hP _ _ (Or.inl ⟨q1, _, rfl, rfl, rfl⟩))
    · cases q3
  · rcases q_ with ⟨q1, v, q2, q3, q4⟩ | ⟨q1, q3, q4⟩
    · cases q3
    · cases q3; subst q4
      have cc : cLen s = 0 ∨ cLen s = 1 := by unfold cLen; (repeat (first | omega | split))
      rcases cc with cc | cc
      · exact absurd cc q1
      · rw [cc, show ceA 1 = 0 from rfl]
        refine at_catch (e := 0) (tgt := 12) (i := 19) (pre := []) (rest := []) (a := 0) (b := 9) wN_k rfl ⟨by decide, by decide⟩ (by decide) cl_19 ca_0 (fun q hq => by cases hq) ?_
        refine aw_astore_n (lv' := [(3, vr (hX h)), (0, vr 12), (1, vi s), (2, vr 268)]) d_La_length_12 rfl (by decide) rfl ?_
        refine aw_iconst d_La_length_13 ⟨by decide, by decide⟩ ?_
        exact aw_iret d_La_length_14 rfl (hP _ _ (Or.inr ⟨q1, by rw [cc], by rw [cc]; rfl⟩))
set_option maxHeartbeats 800000 in
set_option maxRecDepth 100000 in
theorem c_La_word {l : Launch} {G : a_G} {h : Hp} {I L : Nat → Int → Int} {s i : Int} (S : Shp h) (hfl : l.flags = flags0) (rm : hX h + 1 ≤ a_NX ∧ hU h + 6 ≤ a_US) (cb : CB I) : AW l G M_La_word (WrR h I L ceA (cWord (I (14 + 2 * s.toNat) 1) s i) (fun x => x = wdP (byAt I (14 + 2 * s.toNat) (15 + 2 * s.toNat)) i 8) (I)) 0 (a_ar 0 [vr 12, vi s, vi i, vr 268]) [] (sD h I L) := by
  suffices key : ∀ P : a_R → Hp → Prop, (∀ r h2, WrR h I L ceA (cWord (I (14 + 2 * s.toNat) 1) s i) (fun x => x = wdP (byAt I (14 + 2 * s.toNat) (15 + 2 * s.toNat)) i 8) (I) r h2 → P r h2) → AW l G M_La_word P 0 [(0, vr 12), (1, vi s), (2, vi i), (3, vr 268)] [] (sD h I L) from key _ (fun _ _ q => q)
  intro P hP
  refine aw_aload_n d_La_word_0 rfl rfl ?_
  refine aw_iconst d_La_word_1 ⟨by decide, by decide⟩ ?_
  refine aw_aload_n d_La_word_2 rfl rfl ?_
  refine aw_iload_n d_La_word_3 rfl rfl ?_
  refine aw_iload_n d_La_word_4 rfl rfl ?_
  refine ax_Vt (st := [vi 0, vr 268]) (as := [vi s, vi i]) (b := 12) d_La_word_5 cs_La_word_5 (k_12 S) (c_MS_word S hfl rm cb) rfl rfl rfl (fun v_ h_ q_ => ?_) (fun x_ h_ q_ => ?_)
  · rcases q_ with ⟨q1, v, q2, q3, q4⟩ | ⟨q1, q3, q4⟩
    · cases q3; subst q4
      subst q2
      show AW l G M_La_word P 8 [(0, vr 12), (1, vi s), (2, vi i), (3, vr 268)] [vl (wdP (byAt I (14 + 2 * s.toNat) (15 + 2 * s.toNat)) i 8), vi 0, vr 268] (sD h I L)
      refine ax_last d_La_word_8 (k_268 S) (by decide) (by omega) (by rw [n_268 S]; omega) ?_
      refine aw_goto (tgt := 20) d_La_word_9 (by decide) ?_
      refine aw_iconst d_La_word_20 ⟨by decide, by decide⟩ ?_
      exact aw_iret d_La_word_21 rfl (hP _ _ (Or.inl ⟨q1, _, rfl, rfl, rfl⟩))
    · cases q3
  · rcases q_ with ⟨q1, v, q2, q3, q4⟩ | ⟨q1, q3, q4⟩
    · cases q3
    · cases q3; subst q4
      have cc : cWord (I (14 + 2 * s.toNat) 1) s i = 0 ∨ cWord (I (14 + 2 * s.toNat) 1) s i = 1 ∨ cWord (I (14 + 2 * s.toNat) 1) s i = 2 := by unfold cWord; (repeat (first | omega | split))
      rcases cc with cc | cc | cc
      · exact absurd cc q1
      · rw [cc, show ceA 1 = 0 from rfl]
        refine at_catch (e := 0) (tgt := 12) (i := 19) (pre := []) (rest := [(0, 9, 16, 13)]) (a := 0) (b := 9) wN_k rfl ⟨by decide, by decide⟩ (by decide) cl_19 ca_0 (fun q hq => by cases hq) ?_
        refine aw_astore (lv' := [(4, vr (hX h)), (0, vr 12), (1, vi s), (2, vi i), (3, vr 268)]) d_La_word_12 (by decide) rfl ?_
        refine aw_iconst d_La_word_14 ⟨by decide, by decide⟩ ?_
        exact aw_iret d_La_word_15 rfl (hP _ _ (Or.inr ⟨q1, by rw [cc], by rw [cc]; rfl⟩))
      · rw [cc, show ceA 2 = 1 from rfl]
        refine at_catch (e := 1) (tgt := 16) (i := 13) (pre := [(0, 9, 12, 19)]) (rest := []) (a := 0) (b := 9) wN_k rfl ⟨by decide, by decide⟩ (by decide) cl_13 ca_1 (fun q hq => by simp only [List.mem_cons, List.not_mem_nil, or_false] at hq; subst hq; (first | exact ⟨by decide, 0, cl_19, nc_1_0⟩)) ?_
        refine aw_astore (lv' := [(4, vr (hX h)), (0, vr 12), (1, vi s), (2, vi i), (3, vr 268)]) d_La_word_16 (by decide) rfl ?_
        refine aw_iconst d_La_word_18 ⟨by decide, by decide⟩ ?_
        exact aw_iret d_La_word_19 rfl (hP _ _ (Or.inr ⟨q1, by rw [cc], by rw [cc]; rfl⟩))
set_option maxHeartbeats 800000 in
set_option maxRecDepth 100000 in
theorem c_La_same {l : Launch} {G : a_G} {h : Hp} {I L : Nat → Int → Int} {s u : Int} (S : Shp h) (hfl : l.flags = flags0) (rm : hX h + 1 ≤ a_NX ∧ hU h + 6 ≤ a_US) (cb : CB I) : AW l G M_La_same (WrR h I L ceA (cTwo s u) (fun z => (z = 0 ∨ z = 1) ∧ (z = 1 ↔ I (14 + 2 * s.toNat) 1 = I (14 + 2 * u.toNat) 1 ∧ ∀ j, 0 ≤ j → j < I (14 + 2 * u.toNat) 1 → byAt I (14 + 2 * s.toNat) (15 + 2 * s.toNat) j = byAt I (14 + 2 * u.toNat) (15 + 2 * u.toNat) j)) (I)) 0 (a_ar 0 [vr 12, vi s, vi u, vr 268]) [] (sD h I L) := by
  suffices key : ∀ P : a_R → Hp → Prop, (∀ r h2, WrR h I L ceA (cTwo s u) (fun z => (z = 0 ∨ z = 1) ∧ (z = 1 ↔ I (14 + 2 * s.toNat) 1 = I (14 + 2 * u.toNat) 1 ∧ ∀ j, 0 ≤ j → j < I (14 + 2 * u.toNat) 1 → byAt I (14 + 2 * s.toNat) (15 + 2 * s.toNat) j = byAt I (14 + 2 * u.toNat) (15 + 2 * u.toNat) j)) (I) r h2 → P r h2) → AW l G M_La_same P 0 [(0, vr 12), (1, vi s), (2, vi u), (3, vr 268)] [] (sD h I L) from key _ (fun _ _ q => q)
  intro P hP
  refine aw_aload_n d_La_same_0 rfl rfl ?_
  refine aw_iconst d_La_same_1 ⟨by decide, by decide⟩ ?_
  refine aw_aload_n d_La_same_2 rfl rfl ?_
  refine aw_iload_n d_La_same_3 rfl rfl ?_
  refine aw_iload_n d_La_same_4 rfl rfl ?_
  refine ax_Vt (st := [vi 0, vr 268]) (as := [vi s, vi u]) (b := 12) d_La_same_5 cs_La_same_5 (k_12 S) (c_MS_same S hfl rm cb) rfl rfl rfl (fun v_ h_ q_ => ?_) (fun x_ h_ q_ => ?_)
  · rcases q_ with ⟨q1, v, q2, q3, q4⟩ | ⟨q1, q3, q4⟩
    · cases q3; subst q4
      obtain ⟨z, z1, z2, z3⟩ := q2
      subst z1
      show AW l G M_La_same P 8 [(0, vr 12), (1, vi s), (2, vi u), (3, vr 268)] [vi z, vi 0, vr 268] (sD h I L)
      refine aw_if_eq (tgt := 15) d_La_same_8 (by decide) (fun c_8 => ?_) (fun c_8 => ?_)
      · skip
        refine aw_lconst (x := 0) d_La_same_15 ⟨by decide, by decide⟩ (by decide) ?_
        refine ax_last d_La_same_16 (k_268 S) (by decide) (by omega) (by rw [n_268 S]; omega) ?_
        refine aw_goto (tgt := 24) d_La_same_17 (by decide) ?_
        refine aw_iconst d_La_same_24 ⟨by decide, by decide⟩ ?_
        exact aw_iret d_La_same_25 rfl (hP _ _ (Or.inl ⟨q1, _, (by first | (obtain rfl : z = 1 := (by omega); exact ⟨z2, z3⟩) | (obtain rfl : z = 0 := (by omega); exact ⟨z2, z3⟩)), rfl, rfl⟩))
      · skip
        refine aw_lconst (x := 1) d_La_same_11 ⟨by decide, by decide⟩ (by decide) ?_
        refine aw_goto (tgt := 16) d_La_same_12 (by decide) ?_
        refine ax_last d_La_same_16 (k_268 S) (by decide) (by omega) (by rw [n_268 S]; omega) ?_
        refine aw_goto (tgt := 24) d_La_same_17 (by decide) ?_
        refine aw_iconst d_La_same_24 ⟨by decide, by decide⟩ ?_
        exact aw_iret d_La_same_25 rfl (hP _ _ (Or.inl ⟨q1, _, (by first | (obtain rfl : z = 1 := (by omega); exact ⟨z2, z3⟩) | (obtain rfl : z = 0 := (by omega); exact ⟨z2, z3⟩)), rfl, rfl⟩))
    · cases q3
  · rcases q_ with ⟨q1, v, q2, q3, q4⟩ | ⟨q1, q3, q4⟩
    · cases q3
    · cases q3; subst q4
      have cc : cTwo s u = 0 ∨ cTwo s u = 1 := by unfold cTwo; (repeat (first | omega | split))
      rcases cc with cc | cc
      · exact absurd cc q1
      · rw [cc, show ceA 1 = 0 from rfl]
        refine at_catch (e := 0) (tgt := 20) (i := 19) (pre := []) (rest := []) (a := 0) (b := 17) wN_k rfl ⟨by decide, by decide⟩ (by decide) cl_19 ca_0 (fun q hq => by cases hq) ?_
        refine aw_astore (lv' := [(4, vr (hX h)), (0, vr 12), (1, vi s), (2, vi u), (3, vr 268)]) d_La_same_20 (by decide) rfl ?_
        refine aw_iconst d_La_same_22 ⟨by decide, by decide⟩ ?_
        exact aw_iret d_La_same_23 rfl (hP _ _ (Or.inr ⟨q1, by rw [cc], by rw [cc]; rfl⟩))
