/-! the reference's slots' calls, typed -/
def TI (v : AV) : Prop := ∃ x : Int, v = vi x
def TL (v : AV) : Prop := ∃ x : Int, v = vl x
def RefT (T : AV → Prop) (h : Hp) (I L : Nat → Int → Int) (code : Int) (Qv : AV → Prop) (J : Nat → Int → Int) : a_R → Hp → Prop := fun r h2 => (code = 0 ∧ ∃ v, Qv v ∧ r = .inl (some v) ∧ h2 = sD h J L) ∨ (code ≠ 0 ∧ ∃ v, T v ∧ r = .inl (some v) ∧ h2 = sD h (a_up I 175 4 code) L)
theorem tOk {T : AV → Prop} {h : Hp} {I L J : Nat → Int → Int} {code : Int} {Qv : AV → Prop} (v : AV) (hv : Qv v) (hc : code = 0) : RefT T h I L code Qv J (.inl (some v)) (sD h J L) := Or.inl ⟨hc, v, hv, rfl, rfl⟩
theorem tNo {T : AV → Prop} {h : Hp} {I L J : Nat → Int → Int} {code : Int} {Qv : AV → Prop} (v : AV) (c : Int) (hc : code = c) (h0 : c ≠ 0) (hT : T v) : RefT T h I L code Qv J (.inl (some v)) (sD h (a_up I 175 4 c) L) := by
  subst hc
  exact Or.inr ⟨h0, v, hT, rfl, rfl⟩
theorem tOkE {T : AV → Prop} {h : Hp} {I L J J' : Nat → Int → Int} {code : Int} {Qv : AV → Prop} (v : AV) (hv : Qv v) (hc : code = 0) (e : J' = J) : RefT T h I L code Qv J (.inl (some v)) (sD h J' L) := by
  subst e
  exact Or.inl ⟨hc, v, hv, rfl, rfl⟩
set_option maxHeartbeats 800000 in
set_option maxRecDepth 100000 in
theorem cT_Mo_feed {l : Launch} {G : a_G} {h : Hp} {I L : Nat → Int → Int} {a b c d e : Int} (S : Shp h) (rb : RB I) : AW l G M_Mo_feed (RefT TI h I L (cFeed (I 175 3)) (fun v => v = vi (I 175 3 + 20)) (fW (fW (fW (fW (fW (a_up I 175 4 0) a) b) c) d) e)) 0 (a_ar 0 [vr 175, vi a, vi b, vi c, vi d, vi e]) [] (sD h I L) := by
  suffices key : ∀ P : a_R → Hp → Prop, (∀ r h2, RefT TI h I L (cFeed (I 175 3)) (fun v => v = vi (I 175 3 + 20)) (fW (fW (fW (fW (fW (a_up I 175 4 0) a) b) c) d) e) r h2 → P r h2) → AW l G M_Mo_feed P 0 [(0, vr 175), (1, vi a), (2, vi b), (3, vi c), (4, vi d), (5, vi e)] [] (sD h I L) from key _ (fun _ _ q => q)
  intro P hP
  refine ax_ok (fun _ _ _ okl => ?_)
  have rb2 := rb.2
  refine aw_aload_n d_Mo_feed_0 rfl rfl ?_
  refine aw_aload_n d_Mo_feed_1 rfl rfl ?_
  refine ax_getIe (x := I 175 3) d_Mo_feed_2 fd_Mo_109 (k_175 S) (rfl) ?_
  refine aw_bipush d_Mo_feed_5 ⟨by decide, by decide⟩ (by decide) ?_
  refine ax_iadd d_Mo_feed_7 ⟨(by omega), (by omega)⟩ ?_
  refine aw_sipush d_Mo_feed_8 ⟨by decide, by decide⟩ (by decide) ?_
  refine aw_icmp_gt (tgt := 18) d_Mo_feed_11 (by decide) (fun c_11 => ?_) (fun c_11 => ?_)
  · skip
    refine aw_iconst d_Mo_feed_18 ⟨by decide, by decide⟩ ?_
    refine aw_iconst d_Mo_feed_19 ⟨by decide, by decide⟩ ?_
    refine ax_V (st := []) (as := [vi 0, vi 1]) (b := 175) (v := some (vi 0)) (h' := sD h (a_up I 175 4 1) L) d_Mo_feed_20 cs_Mo_feed_20 (k_175 S) (c_good0 S (rfl)) rfl rfl rfl ?_
    show AW l G M_Mo_feed P 23 [(0, vr 175), (1, vi a), (2, vi b), (3, vi c), (4, vi d), (5, vi e)] [vi 0] (sD h (a_up I 175 4 1) L)
    refine aw_if_ne (tgt := 28) d_Mo_feed_23 (by decide) (fun c_23 => False.elim (by omega)) (fun c_23 => ?_)
    refine aw_iconst d_Mo_feed_26 ⟨by decide, by decide⟩ ?_
    exact aw_iret d_Mo_feed_27 rfl (hP _ _ (tNo _ 1 (by unfold cFeed; rw [if_neg (by omega)]) (by decide) ⟨_, rfl⟩))
  · skip
    refine aw_iconst d_Mo_feed_14 ⟨by decide, by decide⟩ ?_
    refine aw_goto (tgt := 19) d_Mo_feed_15 (by decide) ?_
    refine aw_iconst d_Mo_feed_19 ⟨by decide, by decide⟩ ?_
    refine ax_V (st := []) (as := [vi 1, vi 1]) (b := 175) (v := some (vi 1)) (h' := sD h (a_up I 175 4 0) L) d_Mo_feed_20 cs_Mo_feed_20 (k_175 S) (c_good1 S (rfl)) rfl rfl rfl ?_
    show AW l G M_Mo_feed P 23 [(0, vr 175), (1, vi a), (2, vi b), (3, vi c), (4, vi d), (5, vi e)] [vi 1] (sD h (a_up I 175 4 0) L)
    refine aw_if_ne (tgt := 28) d_Mo_feed_23 (by decide) (fun c_23 => ?_) (fun c_23 => False.elim (by omega))
    refine aw_aload_n d_Mo_feed_28 rfl rfl ?_
    refine aw_iload_n d_Mo_feed_29 rfl rfl ?_
    refine ax_V (st := []) (as := [vi a]) (b := 175) (v := none) (h' := sD h (fW (a_up I 175 4 0) a) L) d_Mo_feed_30 cs_Mo_feed_30 (k_175 S) (c_Mo_word1 S (okl (1, vi a) (by simp)) (by rw [a_up_ne (Or.inr (by decide))]; omega)) rfl rfl rfl ?_
    show AW l G M_Mo_feed P 33 [(0, vr 175), (1, vi a), (2, vi b), (3, vi c), (4, vi d), (5, vi e)] [] (sD h (fW (a_up I 175 4 0) a) L)
    refine aw_aload_n d_Mo_feed_33 rfl rfl ?_
    refine aw_iload_n d_Mo_feed_34 rfl rfl ?_
    refine ax_V (st := []) (as := [vi b]) (b := 175) (v := none) (h' := sD h (fW (fW (a_up I 175 4 0) a) b) L) d_Mo_feed_35 cs_Mo_feed_35 (k_175 S) (c_Mo_word1 S (okl (2, vi b) (by simp)) (by rw [fW_t, a_up_ne (Or.inr (by decide))]; omega)) rfl rfl rfl ?_
    show AW l G M_Mo_feed P 38 [(0, vr 175), (1, vi a), (2, vi b), (3, vi c), (4, vi d), (5, vi e)] [] (sD h (fW (fW (a_up I 175 4 0) a) b) L)
    refine aw_aload_n d_Mo_feed_38 rfl rfl ?_
    refine aw_iload_n d_Mo_feed_39 rfl rfl ?_
    refine ax_V (st := []) (as := [vi c]) (b := 175) (v := none) (h' := sD h (fW (fW (fW (a_up I 175 4 0) a) b) c) L) d_Mo_feed_40 cs_Mo_feed_40 (k_175 S) (c_Mo_word1 S (okl (3, vi c) (by simp)) (by rw [fW_t, fW_t, a_up_ne (Or.inr (by decide))]; omega)) rfl rfl rfl ?_
    show AW l G M_Mo_feed P 43 [(0, vr 175), (1, vi a), (2, vi b), (3, vi c), (4, vi d), (5, vi e)] [] (sD h (fW (fW (fW (a_up I 175 4 0) a) b) c) L)
    refine aw_aload_n d_Mo_feed_43 rfl rfl ?_
    refine aw_iload d_Mo_feed_44 rfl ?_
    refine ax_V (st := []) (as := [vi d]) (b := 175) (v := none) (h' := sD h (fW (fW (fW (fW (a_up I 175 4 0) a) b) c) d) L) d_Mo_feed_46 cs_Mo_feed_46 (k_175 S) (c_Mo_word1 S (okl (4, vi d) (by simp)) (by rw [fW_t, fW_t, fW_t, a_up_ne (Or.inr (by decide))]; omega)) rfl rfl rfl ?_
    show AW l G M_Mo_feed P 49 [(0, vr 175), (1, vi a), (2, vi b), (3, vi c), (4, vi d), (5, vi e)] [] (sD h (fW (fW (fW (fW (a_up I 175 4 0) a) b) c) d) L)
    refine aw_aload_n d_Mo_feed_49 rfl rfl ?_
    refine aw_iload d_Mo_feed_50 rfl ?_
    refine ax_V (st := []) (as := [vi e]) (b := 175) (v := none) (h' := sD h (fW (fW (fW (fW (fW (a_up I 175 4 0) a) b) c) d) e) L) d_Mo_feed_52 cs_Mo_feed_52 (k_175 S) (c_Mo_word1 S (okl (5, vi e) (by simp)) (by rw [fW_t, fW_t, fW_t, fW_t, a_up_ne (Or.inr (by decide))]; omega)) rfl rfl rfl ?_
    show AW l G M_Mo_feed P 55 [(0, vr 175), (1, vi a), (2, vi b), (3, vi c), (4, vi d), (5, vi e)] [] (sD h (fW (fW (fW (fW (fW (a_up I 175 4 0) a) b) c) d) e) L)
    refine aw_aload_n d_Mo_feed_55 rfl rfl ?_
    refine ax_getIe (x := I 175 3 + 20) d_Mo_feed_56 fd_Mo_109 (k_175 S) ((show (fW (fW (fW (fW (fW (a_up I 175 4 0) a) b) c) d) e) 175 3 = I 175 3 + 20 by rw [fW_t, fW_t, fW_t, fW_t, fW_t, a_up_ne (Or.inr (by decide))]; omega)) ?_
    exact aw_iret d_Mo_feed_59 rfl (hP _ _ (tOk _ rfl (by unfold cFeed; rw [if_pos (by omega)])))
set_option maxHeartbeats 800000 in
set_option maxRecDepth 100000 in
theorem cT_Mo_end {l : Launch} {G : a_G} {h : Hp} {I L : Nat → Int → Int} {s n : Int} (S : Shp h) (rb : RB I) : AW l G M_Mo_end (RefT TI h I L (cEnd (I 175 3) s n) (fun v => v = vi n) (a_up (a_up (rowTo (a_up I 175 4 0) (178 + s.toNat) n (fun j => a_w8 (I 176 j))) 186 s n) 175 3 0)) 0 (a_ar 0 [vr 175, vi s, vi n]) [] (sD h I L) := by
  suffices key : ∀ P : a_R → Hp → Prop, (∀ r h2, RefT TI h I L (cEnd (I 175 3) s n) (fun v => v = vi n) (a_up (a_up (rowTo (a_up I 175 4 0) (178 + s.toNat) n (fun j => a_w8 (I 176 j))) 186 s n) 175 3 0) r h2 → P r h2) → AW l G M_Mo_end P 0 [(0, vr 175), (1, vi s), (2, vi n)] [] (sD h I L) from key _ (fun _ _ q => q)
  intro P hP
  have rb2 := rb.2
  refine aw_aload_n d_Mo_end_0 rfl rfl ?_
  refine aw_iload_n d_Mo_end_1 rfl rfl ?_
  refine aw_iconst d_Mo_end_2 ⟨by decide, by decide⟩ ?_
  refine aw_bipush d_Mo_end_3 ⟨by decide, by decide⟩ (by decide) ?_
  by_cases in_5 : 0 ≤ s ∧ s ≤ 7
  · skip
    refine ax_S (st := [vr 175]) (as := [vi s, vi 0, vi 7]) (v := some (vi 1)) (h' := sD h I L) d_Mo_end_5 cs_Mo_end_5 (c_in1 in_5) rfl rfl rfl ?_
    show AW l G M_Mo_end P 8 [(0, vr 175), (1, vi s), (2, vi n)] [vi 1, vr 175] (sD h I L)
    refine aw_if_eq (tgt := 26) d_Mo_end_8 (by decide) (fun c_8 => False.elim (by omega)) (fun c_8 => ?_)
    refine aw_iload_n d_Mo_end_11 rfl rfl ?_
    refine aw_iconst d_Mo_end_12 ⟨by decide, by decide⟩ ?_
    refine aw_sipush d_Mo_end_13 ⟨by decide, by decide⟩ (by decide) ?_
    by_cases in_16 : 0 ≤ n ∧ n ≤ 8192
    · skip
      refine ax_S (st := [vr 175]) (as := [vi n, vi 0, vi 8192]) (v := some (vi 1)) (h' := sD h I L) d_Mo_end_16 cs_Mo_end_16 (c_in1 in_16) rfl rfl rfl ?_
      show AW l G M_Mo_end P 19 [(0, vr 175), (1, vi s), (2, vi n)] [vi 1, vr 175] (sD h I L)
      refine aw_if_eq (tgt := 26) d_Mo_end_19 (by decide) (fun c_19 => False.elim (by omega)) (fun c_19 => ?_)
      refine aw_iconst d_Mo_end_22 ⟨by decide, by decide⟩ ?_
      refine aw_goto (tgt := 27) d_Mo_end_23 (by decide) ?_
      refine aw_iconst d_Mo_end_27 ⟨by decide, by decide⟩ ?_
      refine ax_V (st := []) (as := [vi 1, vi 1]) (b := 175) (v := some (vi 1)) (h' := sD h (a_up I 175 4 0) L) d_Mo_end_28 cs_Mo_end_28 (k_175 S) (c_good1 S (rfl)) rfl rfl rfl ?_
      show AW l G M_Mo_end P 31 [(0, vr 175), (1, vi s), (2, vi n)] [vi 1] (sD h (a_up I 175 4 0) L)
      refine aw_if_eq (tgt := 55) d_Mo_end_31 (by decide) (fun c_31 => False.elim (by omega)) (fun c_31 => ?_)
      refine aw_aload_n d_Mo_end_34 rfl rfl ?_
      refine aw_iload_n d_Mo_end_35 rfl rfl ?_
      refine aw_aload_n d_Mo_end_36 rfl rfl ?_
      refine ax_getIe (x := I 175 3) d_Mo_end_37 fd_Mo_109 (k_175 S) (Eq.trans (a_up_ne (Or.inr (by decide))) (rfl)) ?_
      refine aw_icmp_gt (tgt := 47) d_Mo_end_40 (by decide) (fun c_40 => ?_) (fun c_40 => ?_)
      · skip
        refine aw_iconst d_Mo_end_47 ⟨by decide, by decide⟩ ?_
        refine aw_iconst d_Mo_end_48 ⟨by decide, by decide⟩ ?_
        refine ax_V (st := []) (as := [vi 0, vi 2]) (b := 175) (v := some (vi 0)) (h' := sD h (a_up I 175 4 2) L) d_Mo_end_49 cs_Mo_end_49 (k_175 S) (c_good0 S (by rw [a_up_up])) rfl rfl rfl ?_
        show AW l G M_Mo_end P 52 [(0, vr 175), (1, vi s), (2, vi n)] [vi 0] (sD h (a_up I 175 4 2) L)
        refine aw_if_ne (tgt := 57) d_Mo_end_52 (by decide) (fun c_52 => False.elim (by omega)) (fun c_52 => ?_)
        refine aw_iconst d_Mo_end_55 ⟨by decide, by decide⟩ ?_
        exact aw_iret d_Mo_end_56 rfl (hP _ _ (tNo _ 2 (by unfold cEnd; rw [if_pos (by omega), if_neg (by omega)]) (by decide) ⟨_, rfl⟩))
      · skip
        refine aw_iconst d_Mo_end_43 ⟨by decide, by decide⟩ ?_
        refine aw_goto (tgt := 48) d_Mo_end_44 (by decide) ?_
        refine aw_iconst d_Mo_end_48 ⟨by decide, by decide⟩ ?_
        refine ax_V (st := []) (as := [vi 1, vi 2]) (b := 175) (v := some (vi 1)) (h' := sD h (a_up I 175 4 0) L) d_Mo_end_49 cs_Mo_end_49 (k_175 S) (c_good1 S (by rw [a_up_up])) rfl rfl rfl ?_
        show AW l G M_Mo_end P 52 [(0, vr 175), (1, vi s), (2, vi n)] [vi 1] (sD h (a_up I 175 4 0) L)
        refine aw_if_ne (tgt := 57) d_Mo_end_52 (by decide) (fun c_52 => ?_) (fun c_52 => False.elim (by omega))
        refine aw_iconst d_Mo_end_57 ⟨by decide, by decide⟩ ?_
        refine aw_istore_n (lv' := [(3, vi 0), (0, vr 175), (1, vi s), (2, vi n)]) d_Mo_end_58 rfl (by decide) rfl ?_
        have lp_59 : ∀ (n_ : Nat) (i : Int), (0 ≤ i ∧ i ≤ n) → ((n - i).toNat) = n_ → AW l G M_Mo_end P 59 [(3, vi i), (2, vi n), (1, vi s), (0, vr 175)] [] (sD h (rowTo (a_up I 175 4 0) (178 + s.toNat) i (fun j => a_w8 (I 176 j))) L) := by
          intro n_
          induction n_ using Nat.strongRecOn with
          | _ n_ ih_59 =>
          intro i hi hm_59
          refine aw_iload_n d_Mo_end_59 rfl rfl ?_
          refine aw_iload_n d_Mo_end_60 rfl rfl ?_
          refine aw_icmp_ge (tgt := 84) d_Mo_end_61 (by decide) (fun c_61 => ?_) (fun c_61 => ?_)
          · skip
            refine aw_aload_n d_Mo_end_84 rfl rfl ?_
            refine ax_getR (b := 186) d_Mo_end_85 fd_Mo_18 (k_175 S) (r_175_2 S) ?_
            refine aw_iload_n d_Mo_end_88 rfl rfl ?_
            refine aw_iload_n d_Mo_end_89 rfl rfl ?_
            refine ax_iast d_Mo_end_90 (k_186 S) (by decide) (by omega) (by rw [n_186 S]; omega) ?_
            refine aw_aload_n d_Mo_end_91 rfl rfl ?_
            refine aw_iconst d_Mo_end_92 ⟨by decide, by decide⟩ ?_
            refine ax_putI d_Mo_end_93 fd_Mo_109 (k_175 S) (by decide) rfl ?_
            refine aw_iload_n d_Mo_end_96 rfl rfl ?_
            exact aw_iret d_Mo_end_97 rfl (hP _ _ (tOkE _ rfl (by unfold cEnd; rw [if_pos (by omega), if_pos (by omega)]) (by rw [show i = n by omega]; rfl)))
          · skip
            refine aw_aload_n d_Mo_end_64 rfl rfl ?_
            refine ax_getR (b := 177) d_Mo_end_65 fd_Mo_15 (k_175 S) (r_175_1 S) ?_
            refine aw_iload_n d_Mo_end_68 rfl rfl ?_
            refine ax_aald (b := 178 + s.toNat) d_Mo_end_69 ⟨by rw [(k_177 S)]; decide, by rw [(k_177 S)]; decide⟩ (by omega) (by rw [n_177 S]; omega) (g_177 S (by omega) (by omega)) ?_
            refine aw_iload_n d_Mo_end_70 rfl rfl ?_
            refine aw_aload_n d_Mo_end_71 rfl rfl ?_
            refine ax_getR (b := 176) d_Mo_end_72 fd_Mo_9 (k_175 S) (r_175_0 S) ?_
            refine aw_iload_n d_Mo_end_75 rfl rfl ?_
            refine ax_balde (x := I 176 i) d_Mo_end_76 (k_176 S) (by omega) (by rw [n_176 S]; omega) (rowTo_cur.trans (a_up_ne (Or.inl (by decide)))) ?_
            refine ax_bast d_Mo_end_77 (kr_177 S (by omega)) (by omega) (by omega) (by rw [nr_177 S (by omega)]; omega) ?_
            rw [rowTo_1 (by omega) rfl]
            refine ax_iinc (lv' := [(3, vi (i + 1)), (2, vi n), (1, vi s), (0, vr 175)]) d_Mo_end_78 rfl (by decide) ⟨(by omega), (by omega)⟩ rfl ?_
            refine aw_goto (tgt := 59) d_Mo_end_81 (by decide) ?_
            exact ih_59 _ (by omega) (i + 1) (by omega) rfl
        refine ax_hp (h' := sD h (rowTo (a_up I 175 4 0) (178 + s.toNat) 0 (fun j => a_w8 (I 176 j))) L) (by rw [rowTo_0]) ?_
        refine aw_sub (lv' := [(3, vi 0), (2, vi n), (1, vi s), (0, vr 175)]) (by simp) ?_
        exact lp_59 _ 0 (by omega) rfl
    · skip
      refine ax_S (st := [vr 175]) (as := [vi n, vi 0, vi 8192]) (v := some (vi 0)) (h' := sD h I L) d_Mo_end_16 cs_Mo_end_16 (c_in0 in_16) rfl rfl rfl ?_
      show AW l G M_Mo_end P 19 [(0, vr 175), (1, vi s), (2, vi n)] [vi 0, vr 175] (sD h I L)
      refine aw_if_eq (tgt := 26) d_Mo_end_19 (by decide) (fun c_19 => ?_) (fun c_19 => False.elim (by omega))
      refine aw_iconst d_Mo_end_26 ⟨by decide, by decide⟩ ?_
      refine aw_iconst d_Mo_end_27 ⟨by decide, by decide⟩ ?_
      refine ax_V (st := []) (as := [vi 0, vi 1]) (b := 175) (v := some (vi 0)) (h' := sD h (a_up I 175 4 1) L) d_Mo_end_28 cs_Mo_end_28 (k_175 S) (c_good0 S (rfl)) rfl rfl rfl ?_
      show AW l G M_Mo_end P 31 [(0, vr 175), (1, vi s), (2, vi n)] [vi 0] (sD h (a_up I 175 4 1) L)
      refine aw_if_eq (tgt := 55) d_Mo_end_31 (by decide) (fun c_31 => ?_) (fun c_31 => False.elim (by omega))
      refine aw_iconst d_Mo_end_55 ⟨by decide, by decide⟩ ?_
      exact aw_iret d_Mo_end_56 rfl (hP _ _ (tNo _ 1 (by unfold cEnd; rw [if_neg (by omega)]) (by decide) ⟨_, rfl⟩))
  · skip
    refine ax_S (st := [vr 175]) (as := [vi s, vi 0, vi 7]) (v := some (vi 0)) (h' := sD h I L) d_Mo_end_5 cs_Mo_end_5 (c_in0 in_5) rfl rfl rfl ?_
    show AW l G M_Mo_end P 8 [(0, vr 175), (1, vi s), (2, vi n)] [vi 0, vr 175] (sD h I L)
    refine aw_if_eq (tgt := 26) d_Mo_end_8 (by decide) (fun c_8 => ?_) (fun c_8 => False.elim (by omega))
    refine aw_iconst d_Mo_end_26 ⟨by decide, by decide⟩ ?_
    refine aw_iconst d_Mo_end_27 ⟨by decide, by decide⟩ ?_
    refine ax_V (st := []) (as := [vi 0, vi 1]) (b := 175) (v := some (vi 0)) (h' := sD h (a_up I 175 4 1) L) d_Mo_end_28 cs_Mo_end_28 (k_175 S) (c_good0 S (rfl)) rfl rfl rfl ?_
    show AW l G M_Mo_end P 31 [(0, vr 175), (1, vi s), (2, vi n)] [vi 0] (sD h (a_up I 175 4 1) L)
    refine aw_if_eq (tgt := 55) d_Mo_end_31 (by decide) (fun c_31 => ?_) (fun c_31 => False.elim (by omega))
    refine aw_iconst d_Mo_end_55 ⟨by decide, by decide⟩ ?_
    exact aw_iret d_Mo_end_56 rfl (hP _ _ (tNo _ 1 (by unfold cEnd; rw [if_neg (by omega)]) (by decide) ⟨_, rfl⟩))
set_option maxHeartbeats 800000 in
set_option maxRecDepth 100000 in
theorem cT_Mo_copy {l : Launch} {G : a_G} {h : Hp} {I L : Nat → Int → Int} {s u : Int} (S : Shp h) (rb : RB I) : AW l G M_Mo_copy (RefT TI h I L (cTwo s u) (fun v => v = vi (I 186 s)) (a_up (rowTo (a_up I 175 4 0) (178 + u.toNat) (I 186 s) (fun j => a_w8 (I (178 + s.toNat) j))) 186 u (I 186 s))) 0 (a_ar 0 [vr 175, vi s, vi u]) [] (sD h I L) := by
  suffices key : ∀ P : a_R → Hp → Prop, (∀ r h2, RefT TI h I L (cTwo s u) (fun v => v = vi (I 186 s)) (a_up (rowTo (a_up I 175 4 0) (178 + u.toNat) (I 186 s) (fun j => a_w8 (I (178 + s.toNat) j))) 186 u (I 186 s)) r h2 → P r h2) → AW l G M_Mo_copy P 0 [(0, vr 175), (1, vi s), (2, vi u)] [] (sD h I L) from key _ (fun _ _ q => q)
  intro P hP
  refine aw_aload_n d_Mo_copy_0 rfl rfl ?_
  refine aw_iload_n d_Mo_copy_1 rfl rfl ?_
  refine aw_iconst d_Mo_copy_2 ⟨by decide, by decide⟩ ?_
  refine aw_bipush d_Mo_copy_3 ⟨by decide, by decide⟩ (by decide) ?_
  by_cases in_5 : 0 ≤ s ∧ s ≤ 7
  · skip
    refine ax_S (st := [vr 175]) (as := [vi s, vi 0, vi 7]) (v := some (vi 1)) (h' := sD h I L) d_Mo_copy_5 cs_Mo_copy_5 (c_in1 in_5) rfl rfl rfl ?_
    show AW l G M_Mo_copy P 8 [(0, vr 175), (1, vi s), (2, vi u)] [vi 1, vr 175] (sD h I L)
    refine aw_if_eq (tgt := 25) d_Mo_copy_8 (by decide) (fun c_8 => False.elim (by omega)) (fun c_8 => ?_)
    refine aw_iload_n d_Mo_copy_11 rfl rfl ?_
    refine aw_iconst d_Mo_copy_12 ⟨by decide, by decide⟩ ?_
    refine aw_bipush d_Mo_copy_13 ⟨by decide, by decide⟩ (by decide) ?_
    by_cases in_15 : 0 ≤ u ∧ u ≤ 7
    · skip
      refine ax_S (st := [vr 175]) (as := [vi u, vi 0, vi 7]) (v := some (vi 1)) (h' := sD h I L) d_Mo_copy_15 cs_Mo_copy_15 (c_in1 in_15) rfl rfl rfl ?_
      show AW l G M_Mo_copy P 18 [(0, vr 175), (1, vi s), (2, vi u)] [vi 1, vr 175] (sD h I L)
      refine aw_if_eq (tgt := 25) d_Mo_copy_18 (by decide) (fun c_18 => False.elim (by omega)) (fun c_18 => ?_)
      refine aw_iconst d_Mo_copy_21 ⟨by decide, by decide⟩ ?_
      refine aw_goto (tgt := 26) d_Mo_copy_22 (by decide) ?_
      refine aw_iconst d_Mo_copy_26 ⟨by decide, by decide⟩ ?_
      refine ax_V (st := []) (as := [vi 1, vi 1]) (b := 175) (v := some (vi 1)) (h' := sD h (a_up I 175 4 0) L) d_Mo_copy_27 cs_Mo_copy_27 (k_175 S) (c_good1 S (rfl)) rfl rfl rfl ?_
      show AW l G M_Mo_copy P 30 [(0, vr 175), (1, vi s), (2, vi u)] [vi 1] (sD h (a_up I 175 4 0) L)
      refine aw_if_ne (tgt := 35) d_Mo_copy_30 (by decide) (fun c_30 => ?_) (fun c_30 => False.elim (by omega))
      have rb1 := rb.1 s (by omega) (by omega)
      refine aw_iconst d_Mo_copy_35 ⟨by decide, by decide⟩ ?_
      refine aw_istore_n (lv' := [(3, vi 0), (0, vr 175), (1, vi s), (2, vi u)]) d_Mo_copy_36 rfl (by decide) rfl ?_
      have lp_37 : ∀ (n_ : Nat) (i : Int), (0 ≤ i ∧ i ≤ I 186 s) → ((I 186 s - i).toNat) = n_ → AW l G M_Mo_copy P 37 [(3, vi i), (2, vi u), (1, vi s), (0, vr 175)] [] (sD h (rowTo (a_up I 175 4 0) (178 + u.toNat) i (fun j => a_w8 (I (178 + s.toNat) j))) L) := by
        intro n_
        induction n_ using Nat.strongRecOn with
        | _ n_ ih_37 =>
        intro i hi hm_37
        refine aw_iload_n d_Mo_copy_37 rfl rfl ?_
        refine aw_aload_n d_Mo_copy_38 rfl rfl ?_
        refine ax_getR (b := 186) d_Mo_copy_39 fd_Mo_18 (k_175 S) (r_175_2 S) ?_
        refine aw_iload_n d_Mo_copy_42 rfl rfl ?_
        refine ax_ialde (x := I 186 s) d_Mo_copy_43 (k_186 S) (by omega) (by rw [n_186 S]; omega) ((rowTo_ne (by omega)).trans (a_up_ne (Or.inl (by decide)))) ?_
        refine aw_icmp_ge (tgt := 69) d_Mo_copy_44 (by decide) (fun c_44 => ?_) (fun c_44 => ?_)
        · skip
          refine aw_aload_n d_Mo_copy_69 rfl rfl ?_
          refine ax_getR (b := 186) d_Mo_copy_70 fd_Mo_18 (k_175 S) (r_175_2 S) ?_
          refine aw_iload_n d_Mo_copy_73 rfl rfl ?_
          refine aw_aload_n d_Mo_copy_74 rfl rfl ?_
          refine ax_getR (b := 186) d_Mo_copy_75 fd_Mo_18 (k_175 S) (r_175_2 S) ?_
          refine aw_iload_n d_Mo_copy_78 rfl rfl ?_
          refine ax_ialde (x := I 186 s) d_Mo_copy_79 (k_186 S) (by omega) (by rw [n_186 S]; omega) ((rowTo_ne (by omega)).trans (a_up_ne (Or.inl (by decide)))) ?_
          refine ax_iast d_Mo_copy_80 (k_186 S) (by decide) (by omega) (by rw [n_186 S]; omega) ?_
          refine aw_aload_n d_Mo_copy_81 rfl rfl ?_
          refine ax_getR (b := 186) d_Mo_copy_82 fd_Mo_18 (k_175 S) (r_175_2 S) ?_
          refine aw_iload_n d_Mo_copy_85 rfl rfl ?_
          refine ax_ialde (x := I 186 s) d_Mo_copy_86 (k_186 S) (by omega) (by rw [n_186 S]; omega) (a_up_at) ?_
          exact aw_iret d_Mo_copy_87 rfl (hP _ _ (tOkE _ rfl (by unfold cTwo; rw [if_pos (by omega)]) (by rw [show i = I 186 s by omega])))
        · skip
          refine aw_aload_n d_Mo_copy_47 rfl rfl ?_
          refine ax_getR (b := 177) d_Mo_copy_48 fd_Mo_15 (k_175 S) (r_175_1 S) ?_
          refine aw_iload_n d_Mo_copy_51 rfl rfl ?_
          refine ax_aald (b := 178 + u.toNat) d_Mo_copy_52 ⟨by rw [(k_177 S)]; decide, by rw [(k_177 S)]; decide⟩ (by omega) (by rw [n_177 S]; omega) (g_177 S (by omega) (by omega)) ?_
          refine aw_iload_n d_Mo_copy_53 rfl rfl ?_
          refine aw_aload_n d_Mo_copy_54 rfl rfl ?_
          refine ax_getR (b := 177) d_Mo_copy_55 fd_Mo_15 (k_175 S) (r_175_1 S) ?_
          refine aw_iload_n d_Mo_copy_58 rfl rfl ?_
          refine ax_aald (b := 178 + s.toNat) d_Mo_copy_59 ⟨by rw [(k_177 S)]; decide, by rw [(k_177 S)]; decide⟩ (by omega) (by rw [n_177 S]; omega) (g_177 S (by omega) (by omega)) ?_
          refine aw_iload_n d_Mo_copy_60 rfl rfl ?_
          refine ax_balde (x := I (178 + s.toNat) i) d_Mo_copy_61 (kr_177 S (by omega)) (by omega) (by rw [nr_177 S (by omega)]; omega) (rowTo_cur.trans (a_up_ne (Or.inl (by omega)))) ?_
          refine ax_bast d_Mo_copy_62 (kr_177 S (by omega)) (by omega) (by omega) (by rw [nr_177 S (by omega)]; omega) ?_
          rw [rowTo_1 (by omega) rfl]
          refine ax_iinc (lv' := [(3, vi (i + 1)), (2, vi u), (1, vi s), (0, vr 175)]) d_Mo_copy_63 rfl (by decide) ⟨(by omega), (by omega)⟩ rfl ?_
          refine aw_goto (tgt := 37) d_Mo_copy_66 (by decide) ?_
          exact ih_37 _ (by omega) (i + 1) (by omega) rfl
      refine ax_hp (h' := sD h (rowTo (a_up I 175 4 0) (178 + u.toNat) 0 (fun j => a_w8 (I (178 + s.toNat) j))) L) (by rw [rowTo_0]) ?_
      refine aw_sub (lv' := [(3, vi 0), (2, vi u), (1, vi s), (0, vr 175)]) (by simp) ?_
      exact lp_37 _ 0 (by omega) rfl
    · skip
      refine ax_S (st := [vr 175]) (as := [vi u, vi 0, vi 7]) (v := some (vi 0)) (h' := sD h I L) d_Mo_copy_15 cs_Mo_copy_15 (c_in0 in_15) rfl rfl rfl ?_
      show AW l G M_Mo_copy P 18 [(0, vr 175), (1, vi s), (2, vi u)] [vi 0, vr 175] (sD h I L)
      refine aw_if_eq (tgt := 25) d_Mo_copy_18 (by decide) (fun c_18 => ?_) (fun c_18 => False.elim (by omega))
      refine aw_iconst d_Mo_copy_25 ⟨by decide, by decide⟩ ?_
      refine aw_iconst d_Mo_copy_26 ⟨by decide, by decide⟩ ?_
      refine ax_V (st := []) (as := [vi 0, vi 1]) (b := 175) (v := some (vi 0)) (h' := sD h (a_up I 175 4 1) L) d_Mo_copy_27 cs_Mo_copy_27 (k_175 S) (c_good0 S (rfl)) rfl rfl rfl ?_
      show AW l G M_Mo_copy P 30 [(0, vr 175), (1, vi s), (2, vi u)] [vi 0] (sD h (a_up I 175 4 1) L)
      refine aw_if_ne (tgt := 35) d_Mo_copy_30 (by decide) (fun c_30 => False.elim (by omega)) (fun c_30 => ?_)
      refine aw_iconst d_Mo_copy_33 ⟨by decide, by decide⟩ ?_
      exact aw_iret d_Mo_copy_34 rfl (hP _ _ (tNo _ 1 (by unfold cTwo; rw [if_neg (by omega)]) (by decide) ⟨_, rfl⟩))
  · skip
    refine ax_S (st := [vr 175]) (as := [vi s, vi 0, vi 7]) (v := some (vi 0)) (h' := sD h I L) d_Mo_copy_5 cs_Mo_copy_5 (c_in0 in_5) rfl rfl rfl ?_
    show AW l G M_Mo_copy P 8 [(0, vr 175), (1, vi s), (2, vi u)] [vi 0, vr 175] (sD h I L)
    refine aw_if_eq (tgt := 25) d_Mo_copy_8 (by decide) (fun c_8 => ?_) (fun c_8 => False.elim (by omega))
    refine aw_iconst d_Mo_copy_25 ⟨by decide, by decide⟩ ?_
    refine aw_iconst d_Mo_copy_26 ⟨by decide, by decide⟩ ?_
    refine ax_V (st := []) (as := [vi 0, vi 1]) (b := 175) (v := some (vi 0)) (h' := sD h (a_up I 175 4 1) L) d_Mo_copy_27 cs_Mo_copy_27 (k_175 S) (c_good0 S (rfl)) rfl rfl rfl ?_
    show AW l G M_Mo_copy P 30 [(0, vr 175), (1, vi s), (2, vi u)] [vi 0] (sD h (a_up I 175 4 1) L)
    refine aw_if_ne (tgt := 35) d_Mo_copy_30 (by decide) (fun c_30 => False.elim (by omega)) (fun c_30 => ?_)
    refine aw_iconst d_Mo_copy_33 ⟨by decide, by decide⟩ ?_
    exact aw_iret d_Mo_copy_34 rfl (hP _ _ (tNo _ 1 (by unfold cTwo; rw [if_neg (by omega)]) (by decide) ⟨_, rfl⟩))
set_option maxHeartbeats 800000 in
set_option maxRecDepth 100000 in
theorem cT_Mo_resize {l : Launch} {G : a_G} {h : Hp} {I L : Nat → Int → Int} {s n : Int} (S : Shp h) (rb : RB I) : AW l G M_Mo_resize (RefT TI h I L (cResize s n) (fun v => v = vi (I 186 s)) (a_up (byZero (a_up I 175 4 0) (178 + s.toNat) (I 186 s) n) 186 s n)) 0 (a_ar 0 [vr 175, vi s, vi n]) [] (sD h I L) := by
  suffices key : ∀ P : a_R → Hp → Prop, (∀ r h2, RefT TI h I L (cResize s n) (fun v => v = vi (I 186 s)) (a_up (byZero (a_up I 175 4 0) (178 + s.toNat) (I 186 s) n) 186 s n) r h2 → P r h2) → AW l G M_Mo_resize P 0 [(0, vr 175), (1, vi s), (2, vi n)] [] (sD h I L) from key _ (fun _ _ q => q)
  intro P hP
  refine aw_aload_n d_Mo_resize_0 rfl rfl ?_
  refine aw_iload_n d_Mo_resize_1 rfl rfl ?_
  refine aw_iconst d_Mo_resize_2 ⟨by decide, by decide⟩ ?_
  refine aw_bipush d_Mo_resize_3 ⟨by decide, by decide⟩ (by decide) ?_
  by_cases in_5 : 0 ≤ s ∧ s ≤ 7
  · skip
    refine ax_S (st := [vr 175]) (as := [vi s, vi 0, vi 7]) (v := some (vi 1)) (h' := sD h I L) d_Mo_resize_5 cs_Mo_resize_5 (c_in1 in_5) rfl rfl rfl ?_
    show AW l G M_Mo_resize P 8 [(0, vr 175), (1, vi s), (2, vi n)] [vi 1, vr 175] (sD h I L)
    refine aw_if_eq (tgt := 26) d_Mo_resize_8 (by decide) (fun c_8 => False.elim (by omega)) (fun c_8 => ?_)
    refine aw_iload_n d_Mo_resize_11 rfl rfl ?_
    refine aw_iconst d_Mo_resize_12 ⟨by decide, by decide⟩ ?_
    refine aw_sipush d_Mo_resize_13 ⟨by decide, by decide⟩ (by decide) ?_
    by_cases in_16 : 0 ≤ n ∧ n ≤ 8192
    · skip
      refine ax_S (st := [vr 175]) (as := [vi n, vi 0, vi 8192]) (v := some (vi 1)) (h' := sD h I L) d_Mo_resize_16 cs_Mo_resize_16 (c_in1 in_16) rfl rfl rfl ?_
      show AW l G M_Mo_resize P 19 [(0, vr 175), (1, vi s), (2, vi n)] [vi 1, vr 175] (sD h I L)
      refine aw_if_eq (tgt := 26) d_Mo_resize_19 (by decide) (fun c_19 => False.elim (by omega)) (fun c_19 => ?_)
      refine aw_iconst d_Mo_resize_22 ⟨by decide, by decide⟩ ?_
      refine aw_goto (tgt := 27) d_Mo_resize_23 (by decide) ?_
      refine aw_iconst d_Mo_resize_27 ⟨by decide, by decide⟩ ?_
      refine ax_V (st := []) (as := [vi 1, vi 1]) (b := 175) (v := some (vi 1)) (h' := sD h (a_up I 175 4 0) L) d_Mo_resize_28 cs_Mo_resize_28 (k_175 S) (c_good1 S (rfl)) rfl rfl rfl ?_
      show AW l G M_Mo_resize P 31 [(0, vr 175), (1, vi s), (2, vi n)] [vi 1] (sD h (a_up I 175 4 0) L)
      refine aw_if_ne (tgt := 36) d_Mo_resize_31 (by decide) (fun c_31 => ?_) (fun c_31 => False.elim (by omega))
      have rb1 := rb.1 s (by omega) (by omega)
      refine aw_aload_n d_Mo_resize_36 rfl rfl ?_
      refine ax_getR (b := 186) d_Mo_resize_37 fd_Mo_18 (k_175 S) (r_175_2 S) ?_
      refine aw_iload_n d_Mo_resize_40 rfl rfl ?_
      refine ax_ialde (x := I 186 s) d_Mo_resize_41 (k_186 S) (by omega) (by rw [n_186 S]; omega) (Eq.trans (a_up_ne (Or.inl (by decide))) (rfl)) ?_
      refine aw_istore_n (lv' := [(3, vi (I 186 s)), (0, vr 175), (1, vi s), (2, vi n)]) d_Mo_resize_42 rfl (by decide) rfl ?_
      refine aw_iload_n d_Mo_resize_43 rfl rfl ?_
      refine aw_istore (lv' := [(4, vi (I 186 s)), (3, vi (I 186 s)), (0, vr 175), (1, vi s), (2, vi n)]) d_Mo_resize_44 (by decide) rfl ?_
      have lp_46 : ∀ (n_ : Nat) (i : Int), (I 186 s ≤ i ∧ (i ≤ n ∨ i = I 186 s)) → ((n - i).toNat) = n_ → AW l G M_Mo_resize P 46 [(4, vi i), (3, vi (I 186 s)), (2, vi n), (1, vi s), (0, vr 175)] [] (sD h (byZero (a_up I 175 4 0) (178 + s.toNat) (I 186 s) i) L) := by
        intro n_
        induction n_ using Nat.strongRecOn with
        | _ n_ ih_46 =>
        intro i hi hm_46
        refine aw_iload d_Mo_resize_46 rfl ?_
        refine aw_iload_n d_Mo_resize_48 rfl rfl ?_
        refine aw_icmp_ge (tgt := 68) d_Mo_resize_49 (by decide) (fun c_49 => ?_) (fun c_49 => ?_)
        · skip
          refine aw_aload_n d_Mo_resize_68 rfl rfl ?_
          refine ax_getR (b := 186) d_Mo_resize_69 fd_Mo_18 (k_175 S) (r_175_2 S) ?_
          refine aw_iload_n d_Mo_resize_72 rfl rfl ?_
          refine aw_iload_n d_Mo_resize_73 rfl rfl ?_
          refine ax_iast d_Mo_resize_74 (k_186 S) (by decide) (by omega) (by rw [n_186 S]; omega) ?_
          refine aw_iload_n d_Mo_resize_75 rfl rfl ?_
          exact aw_iret d_Mo_resize_76 rfl (hP _ _ (tOkE _ rfl (by unfold cResize; rw [if_pos (by omega)]) (by rw [byZero_end (n := n) (by omega) (by omega)])))
        · skip
          refine aw_aload_n d_Mo_resize_52 rfl rfl ?_
          refine ax_getR (b := 177) d_Mo_resize_53 fd_Mo_15 (k_175 S) (r_175_1 S) ?_
          refine aw_iload_n d_Mo_resize_56 rfl rfl ?_
          refine ax_aald (b := 178 + s.toNat) d_Mo_resize_57 ⟨by rw [(k_177 S)]; decide, by rw [(k_177 S)]; decide⟩ (by omega) (by rw [n_177 S]; omega) (g_177 S (by omega) (by omega)) ?_
          refine aw_iload d_Mo_resize_58 rfl ?_
          refine aw_iconst d_Mo_resize_60 ⟨by decide, by decide⟩ ?_
          refine ax_bast d_Mo_resize_61 (kr_177 S (by omega)) (by omega) (by omega) (by rw [nr_177 S (by omega)]; omega) ?_
          rw [byZero_1 (by omega)]
          refine ax_iinc (lv' := [(4, vi (i + 1)), (3, vi (I 186 s)), (2, vi n), (1, vi s), (0, vr 175)]) d_Mo_resize_62 rfl (by decide) ⟨(by omega), (by omega)⟩ rfl ?_
          refine aw_goto (tgt := 46) d_Mo_resize_65 (by decide) ?_
          exact ih_46 _ (by omega) (i + 1) (by omega) rfl
      refine ax_hp (h' := sD h (byZero (a_up I 175 4 0) (178 + s.toNat) (I 186 s) (I 186 s)) L) (by rw [byZero_0]) ?_
      refine aw_sub (lv' := [(4, vi (I 186 s)), (3, vi (I 186 s)), (2, vi n), (1, vi s), (0, vr 175)]) (by simp) ?_
      exact lp_46 _ (I 186 s) (by omega) rfl
    · skip
      refine ax_S (st := [vr 175]) (as := [vi n, vi 0, vi 8192]) (v := some (vi 0)) (h' := sD h I L) d_Mo_resize_16 cs_Mo_resize_16 (c_in0 in_16) rfl rfl rfl ?_
      show AW l G M_Mo_resize P 19 [(0, vr 175), (1, vi s), (2, vi n)] [vi 0, vr 175] (sD h I L)
      refine aw_if_eq (tgt := 26) d_Mo_resize_19 (by decide) (fun c_19 => ?_) (fun c_19 => False.elim (by omega))
      refine aw_iconst d_Mo_resize_26 ⟨by decide, by decide⟩ ?_
      refine aw_iconst d_Mo_resize_27 ⟨by decide, by decide⟩ ?_
      refine ax_V (st := []) (as := [vi 0, vi 1]) (b := 175) (v := some (vi 0)) (h' := sD h (a_up I 175 4 1) L) d_Mo_resize_28 cs_Mo_resize_28 (k_175 S) (c_good0 S (rfl)) rfl rfl rfl ?_
      show AW l G M_Mo_resize P 31 [(0, vr 175), (1, vi s), (2, vi n)] [vi 0] (sD h (a_up I 175 4 1) L)
      refine aw_if_ne (tgt := 36) d_Mo_resize_31 (by decide) (fun c_31 => False.elim (by omega)) (fun c_31 => ?_)
      refine aw_iconst d_Mo_resize_34 ⟨by decide, by decide⟩ ?_
      exact aw_iret d_Mo_resize_35 rfl (hP _ _ (tNo _ 1 (by unfold cResize; rw [if_neg (by omega)]) (by decide) ⟨_, rfl⟩))
  · skip
    refine ax_S (st := [vr 175]) (as := [vi s, vi 0, vi 7]) (v := some (vi 0)) (h' := sD h I L) d_Mo_resize_5 cs_Mo_resize_5 (c_in0 in_5) rfl rfl rfl ?_
    show AW l G M_Mo_resize P 8 [(0, vr 175), (1, vi s), (2, vi n)] [vi 0, vr 175] (sD h I L)
    refine aw_if_eq (tgt := 26) d_Mo_resize_8 (by decide) (fun c_8 => ?_) (fun c_8 => False.elim (by omega))
    refine aw_iconst d_Mo_resize_26 ⟨by decide, by decide⟩ ?_
    refine aw_iconst d_Mo_resize_27 ⟨by decide, by decide⟩ ?_
    refine ax_V (st := []) (as := [vi 0, vi 1]) (b := 175) (v := some (vi 0)) (h' := sD h (a_up I 175 4 1) L) d_Mo_resize_28 cs_Mo_resize_28 (k_175 S) (c_good0 S (rfl)) rfl rfl rfl ?_
    show AW l G M_Mo_resize P 31 [(0, vr 175), (1, vi s), (2, vi n)] [vi 0] (sD h (a_up I 175 4 1) L)
    refine aw_if_ne (tgt := 36) d_Mo_resize_31 (by decide) (fun c_31 => False.elim (by omega)) (fun c_31 => ?_)
    refine aw_iconst d_Mo_resize_34 ⟨by decide, by decide⟩ ?_
    exact aw_iret d_Mo_resize_35 rfl (hP _ _ (tNo _ 1 (by unfold cResize; rw [if_neg (by omega)]) (by decide) ⟨_, rfl⟩))
set_option maxHeartbeats 800000 in
set_option maxRecDepth 100000 in
theorem cT_Mo_alter {l : Launch} {G : a_G} {h : Hp} {I L : Nat → Int → Int} {s i v : Int} (S : Shp h) (rb : RB I) : AW l G M_Mo_alter (RefT TI h I L (cAlter (I 186 s) s i v) (fun w => w = vi (a_w8 (a_w8 (a_xor (I (178 + s.toNat) i) (a_w8 v))) % 256)) (a_up (a_up I 175 4 0) (178 + s.toNat) i (a_w8 (a_w8 (a_xor (I (178 + s.toNat) i) (a_w8 v)))))) 0 (a_ar 0 [vr 175, vi s, vi i, vi v]) [] (sD h I L) := by
  suffices key : ∀ P : a_R → Hp → Prop, (∀ r h2, RefT TI h I L (cAlter (I 186 s) s i v) (fun w => w = vi (a_w8 (a_w8 (a_xor (I (178 + s.toNat) i) (a_w8 v))) % 256)) (a_up (a_up I 175 4 0) (178 + s.toNat) i (a_w8 (a_w8 (a_xor (I (178 + s.toNat) i) (a_w8 v))))) r h2 → P r h2) → AW l G M_Mo_alter P 0 [(0, vr 175), (1, vi s), (2, vi i), (3, vi v)] [] (sD h I L) from key _ (fun _ _ q => q)
  intro P hP
  refine aw_aload_n d_Mo_alter_0 rfl rfl ?_
  refine aw_iload_n d_Mo_alter_1 rfl rfl ?_
  refine aw_iconst d_Mo_alter_2 ⟨by decide, by decide⟩ ?_
  refine aw_bipush d_Mo_alter_3 ⟨by decide, by decide⟩ (by decide) ?_
  by_cases in_5 : 0 ≤ s ∧ s ≤ 7
  · skip
    refine ax_S (st := [vr 175]) (as := [vi s, vi 0, vi 7]) (v := some (vi 1)) (h' := sD h I L) d_Mo_alter_5 cs_Mo_alter_5 (c_in1 in_5) rfl rfl rfl ?_
    show AW l G M_Mo_alter P 8 [(0, vr 175), (1, vi s), (2, vi i), (3, vi v)] [vi 1, vr 175] (sD h I L)
    refine aw_if_eq (tgt := 26) d_Mo_alter_8 (by decide) (fun c_8 => False.elim (by omega)) (fun c_8 => ?_)
    refine aw_iload_n d_Mo_alter_11 rfl rfl ?_
    refine aw_iconst d_Mo_alter_12 ⟨by decide, by decide⟩ ?_
    refine aw_sipush d_Mo_alter_13 ⟨by decide, by decide⟩ (by decide) ?_
    by_cases in_16 : 0 ≤ v ∧ v ≤ 255
    · skip
      refine ax_S (st := [vr 175]) (as := [vi v, vi 0, vi 255]) (v := some (vi 1)) (h' := sD h I L) d_Mo_alter_16 cs_Mo_alter_16 (c_in1 in_16) rfl rfl rfl ?_
      show AW l G M_Mo_alter P 19 [(0, vr 175), (1, vi s), (2, vi i), (3, vi v)] [vi 1, vr 175] (sD h I L)
      refine aw_if_eq (tgt := 26) d_Mo_alter_19 (by decide) (fun c_19 => False.elim (by omega)) (fun c_19 => ?_)
      refine aw_iconst d_Mo_alter_22 ⟨by decide, by decide⟩ ?_
      refine aw_goto (tgt := 27) d_Mo_alter_23 (by decide) ?_
      refine aw_iconst d_Mo_alter_27 ⟨by decide, by decide⟩ ?_
      refine ax_V (st := []) (as := [vi 1, vi 1]) (b := 175) (v := some (vi 1)) (h' := sD h (a_up I 175 4 0) L) d_Mo_alter_28 cs_Mo_alter_28 (k_175 S) (c_good1 S (rfl)) rfl rfl rfl ?_
      show AW l G M_Mo_alter P 31 [(0, vr 175), (1, vi s), (2, vi i), (3, vi v)] [vi 1] (sD h (a_up I 175 4 0) L)
      refine aw_if_eq (tgt := 55) d_Mo_alter_31 (by decide) (fun c_31 => False.elim (by omega)) (fun c_31 => ?_)
      have rb1 := rb.1 s (by omega) (by omega)
      refine aw_aload_n d_Mo_alter_34 rfl rfl ?_
      refine aw_iload_n d_Mo_alter_35 rfl rfl ?_
      refine aw_iconst d_Mo_alter_36 ⟨by decide, by decide⟩ ?_
      refine aw_aload_n d_Mo_alter_37 rfl rfl ?_
      refine ax_getR (b := 186) d_Mo_alter_38 fd_Mo_18 (k_175 S) (r_175_2 S) ?_
      refine aw_iload_n d_Mo_alter_41 rfl rfl ?_
      refine ax_ialde (x := I 186 s) d_Mo_alter_42 (k_186 S) (by omega) (by rw [n_186 S]; omega) (Eq.trans (a_up_ne (Or.inl (by decide))) (rfl)) ?_
      refine aw_iconst d_Mo_alter_43 ⟨by decide, by decide⟩ ?_
      refine ax_isub d_Mo_alter_44 ⟨(by omega), (by omega)⟩ ?_
      by_cases in_45 : 0 ≤ i ∧ i ≤ (I 186 s) - 1
      · skip
        refine ax_S (st := [vr 175]) (as := [vi i, vi 0, vi ((I 186 s) - 1)]) (v := some (vi 1)) (h' := sD h (a_up I 175 4 0) L) d_Mo_alter_45 cs_Mo_alter_45 (c_in1 in_45) rfl rfl rfl ?_
        show AW l G M_Mo_alter P 48 [(0, vr 175), (1, vi s), (2, vi i), (3, vi v)] [vi 1, vr 175] (sD h (a_up I 175 4 0) L)
        refine aw_iconst d_Mo_alter_48 ⟨by decide, by decide⟩ ?_
        refine ax_V (st := []) (as := [vi 1, vi 2]) (b := 175) (v := some (vi 1)) (h' := sD h (a_up I 175 4 0) L) d_Mo_alter_49 cs_Mo_alter_49 (k_175 S) (c_good1 S (by rw [a_up_up])) rfl rfl rfl ?_
        show AW l G M_Mo_alter P 52 [(0, vr 175), (1, vi s), (2, vi i), (3, vi v)] [vi 1] (sD h (a_up I 175 4 0) L)
        refine aw_if_ne (tgt := 57) d_Mo_alter_52 (by decide) (fun c_52 => ?_) (fun c_52 => False.elim (by omega))
        refine aw_aload_n d_Mo_alter_57 rfl rfl ?_
        refine ax_getR (b := 177) d_Mo_alter_58 fd_Mo_15 (k_175 S) (r_175_1 S) ?_
        refine aw_iload_n d_Mo_alter_61 rfl rfl ?_
        refine ax_aald (b := 178 + s.toNat) d_Mo_alter_62 ⟨by rw [(k_177 S)]; decide, by rw [(k_177 S)]; decide⟩ (by omega) (by rw [n_177 S]; omega) (g_177 S (by omega) (by omega)) ?_
        refine aw_iload_n d_Mo_alter_63 rfl rfl ?_
        refine aw_dup2 d_Mo_alter_64 rfl rfl ?_
        refine ax_balde (x := I (178 + s.toNat) i) d_Mo_alter_65 (kr_177 S (by omega)) (by omega) (by rw [nr_177 S (by omega)]; omega) (Eq.trans (a_up_ne (Or.inl (by omega))) (rfl)) ?_
        refine aw_iload_n d_Mo_alter_66 rfl rfl ?_
        refine aw_i2b d_Mo_alter_67 ?_
        refine aw_ixor d_Mo_alter_68 ?_
        refine aw_i2b d_Mo_alter_69 ?_
        refine ax_bast d_Mo_alter_70 (kr_177 S (by omega)) (by omega) (by omega) (by rw [nr_177 S (by omega)]; omega) ?_
        refine aw_aload_n d_Mo_alter_71 rfl rfl ?_
        refine ax_getR (b := 177) d_Mo_alter_72 fd_Mo_15 (k_175 S) (r_175_1 S) ?_
        refine aw_iload_n d_Mo_alter_75 rfl rfl ?_
        refine ax_aald (b := 178 + s.toNat) d_Mo_alter_76 ⟨by rw [(k_177 S)]; decide, by rw [(k_177 S)]; decide⟩ (by omega) (by rw [n_177 S]; omega) (g_177 S (by omega) (by omega)) ?_
        refine aw_iload_n d_Mo_alter_77 rfl rfl ?_
        refine ax_balde (x := a_w8 (a_w8 (a_xor (I (178 + s.toNat) i) (a_w8 v)))) d_Mo_alter_78 (kr_177 S (by omega)) (by omega) (by rw [nr_177 S (by omega)]; omega) (a_up_at) ?_
        refine aw_sipush d_Mo_alter_79 ⟨by decide, by decide⟩ (by decide) ?_
        refine aw_iand d_Mo_alter_82 ?_
        refine ax_ti (x := (a_w8 (a_w8 (a_xor (I (178 + s.toNat) i) (a_w8 v)))) % 256) (a_and' 8 (by decide) (by decide) (by decide)) ?_
        exact aw_iret d_Mo_alter_83 rfl (hP _ _ (tOk _ rfl (by unfold cAlter; rw [if_pos (by omega), if_pos (by omega)])))
      · skip
        refine ax_S (st := [vr 175]) (as := [vi i, vi 0, vi ((I 186 s) - 1)]) (v := some (vi 0)) (h' := sD h (a_up I 175 4 0) L) d_Mo_alter_45 cs_Mo_alter_45 (c_in0 in_45) rfl rfl rfl ?_
        show AW l G M_Mo_alter P 48 [(0, vr 175), (1, vi s), (2, vi i), (3, vi v)] [vi 0, vr 175] (sD h (a_up I 175 4 0) L)
        refine aw_iconst d_Mo_alter_48 ⟨by decide, by decide⟩ ?_
        refine ax_V (st := []) (as := [vi 0, vi 2]) (b := 175) (v := some (vi 0)) (h' := sD h (a_up I 175 4 2) L) d_Mo_alter_49 cs_Mo_alter_49 (k_175 S) (c_good0 S (by rw [a_up_up])) rfl rfl rfl ?_
        show AW l G M_Mo_alter P 52 [(0, vr 175), (1, vi s), (2, vi i), (3, vi v)] [vi 0] (sD h (a_up I 175 4 2) L)
        refine aw_if_ne (tgt := 57) d_Mo_alter_52 (by decide) (fun c_52 => False.elim (by omega)) (fun c_52 => ?_)
        refine aw_iconst d_Mo_alter_55 ⟨by decide, by decide⟩ ?_
        exact aw_iret d_Mo_alter_56 rfl (hP _ _ (tNo _ 2 (by unfold cAlter; rw [if_pos (by omega), if_neg (by omega)]) (by decide) ⟨_, rfl⟩))
    · skip
      refine ax_S (st := [vr 175]) (as := [vi v, vi 0, vi 255]) (v := some (vi 0)) (h' := sD h I L) d_Mo_alter_16 cs_Mo_alter_16 (c_in0 in_16) rfl rfl rfl ?_
      show AW l G M_Mo_alter P 19 [(0, vr 175), (1, vi s), (2, vi i), (3, vi v)] [vi 0, vr 175] (sD h I L)
      refine aw_if_eq (tgt := 26) d_Mo_alter_19 (by decide) (fun c_19 => ?_) (fun c_19 => False.elim (by omega))
      refine aw_iconst d_Mo_alter_26 ⟨by decide, by decide⟩ ?_
      refine aw_iconst d_Mo_alter_27 ⟨by decide, by decide⟩ ?_
      refine ax_V (st := []) (as := [vi 0, vi 1]) (b := 175) (v := some (vi 0)) (h' := sD h (a_up I 175 4 1) L) d_Mo_alter_28 cs_Mo_alter_28 (k_175 S) (c_good0 S (rfl)) rfl rfl rfl ?_
      show AW l G M_Mo_alter P 31 [(0, vr 175), (1, vi s), (2, vi i), (3, vi v)] [vi 0] (sD h (a_up I 175 4 1) L)
      refine aw_if_eq (tgt := 55) d_Mo_alter_31 (by decide) (fun c_31 => ?_) (fun c_31 => False.elim (by omega))
      refine aw_iconst d_Mo_alter_55 ⟨by decide, by decide⟩ ?_
      exact aw_iret d_Mo_alter_56 rfl (hP _ _ (tNo _ 1 (by unfold cAlter; rw [if_neg (by omega)]) (by decide) ⟨_, rfl⟩))
  · skip
    refine ax_S (st := [vr 175]) (as := [vi s, vi 0, vi 7]) (v := some (vi 0)) (h' := sD h I L) d_Mo_alter_5 cs_Mo_alter_5 (c_in0 in_5) rfl rfl rfl ?_
    show AW l G M_Mo_alter P 8 [(0, vr 175), (1, vi s), (2, vi i), (3, vi v)] [vi 0, vr 175] (sD h I L)
    refine aw_if_eq (tgt := 26) d_Mo_alter_8 (by decide) (fun c_8 => ?_) (fun c_8 => False.elim (by omega))
    refine aw_iconst d_Mo_alter_26 ⟨by decide, by decide⟩ ?_
    refine aw_iconst d_Mo_alter_27 ⟨by decide, by decide⟩ ?_
    refine ax_V (st := []) (as := [vi 0, vi 1]) (b := 175) (v := some (vi 0)) (h' := sD h (a_up I 175 4 1) L) d_Mo_alter_28 cs_Mo_alter_28 (k_175 S) (c_good0 S (rfl)) rfl rfl rfl ?_
    show AW l G M_Mo_alter P 31 [(0, vr 175), (1, vi s), (2, vi i), (3, vi v)] [vi 0] (sD h (a_up I 175 4 1) L)
    refine aw_if_eq (tgt := 55) d_Mo_alter_31 (by decide) (fun c_31 => ?_) (fun c_31 => False.elim (by omega))
    refine aw_iconst d_Mo_alter_55 ⟨by decide, by decide⟩ ?_
    exact aw_iret d_Mo_alter_56 rfl (hP _ _ (tNo _ 1 (by unfold cAlter; rw [if_neg (by omega)]) (by decide) ⟨_, rfl⟩))
set_option maxHeartbeats 800000 in
set_option maxRecDepth 100000 in
theorem cT_Mo_length {l : Launch} {G : a_G} {h : Hp} {I L : Nat → Int → Int} {s : Int} (S : Shp h) (rb : RB I) : AW l G M_Mo_length (RefT TI h I L (cLen s) (fun v => v = vi (I 186 s)) (a_up I 175 4 0)) 0 (a_ar 0 [vr 175, vi s]) [] (sD h I L) := by
  suffices key : ∀ P : a_R → Hp → Prop, (∀ r h2, RefT TI h I L (cLen s) (fun v => v = vi (I 186 s)) (a_up I 175 4 0) r h2 → P r h2) → AW l G M_Mo_length P 0 [(0, vr 175), (1, vi s)] [] (sD h I L) from key _ (fun _ _ q => q)
  intro P hP
  refine aw_aload_n d_Mo_length_0 rfl rfl ?_
  refine aw_iload_n d_Mo_length_1 rfl rfl ?_
  refine aw_iconst d_Mo_length_2 ⟨by decide, by decide⟩ ?_
  refine aw_bipush d_Mo_length_3 ⟨by decide, by decide⟩ (by decide) ?_
  by_cases in_5 : 0 ≤ s ∧ s ≤ 7
  · skip
    refine ax_S (st := [vr 175]) (as := [vi s, vi 0, vi 7]) (v := some (vi 1)) (h' := sD h I L) d_Mo_length_5 cs_Mo_length_5 (c_in1 in_5) rfl rfl rfl ?_
    show AW l G M_Mo_length P 8 [(0, vr 175), (1, vi s)] [vi 1, vr 175] (sD h I L)
    refine aw_iconst d_Mo_length_8 ⟨by decide, by decide⟩ ?_
    refine ax_V (st := []) (as := [vi 1, vi 1]) (b := 175) (v := some (vi 1)) (h' := sD h (a_up I 175 4 0) L) d_Mo_length_9 cs_Mo_length_9 (k_175 S) (c_good1 S (rfl)) rfl rfl rfl ?_
    show AW l G M_Mo_length P 12 [(0, vr 175), (1, vi s)] [vi 1] (sD h (a_up I 175 4 0) L)
    refine aw_if_ne (tgt := 17) d_Mo_length_12 (by decide) (fun c_12 => ?_) (fun c_12 => False.elim (by omega))
    refine aw_aload_n d_Mo_length_17 rfl rfl ?_
    refine ax_getR (b := 186) d_Mo_length_18 fd_Mo_18 (k_175 S) (r_175_2 S) ?_
    refine aw_iload_n d_Mo_length_21 rfl rfl ?_
    refine ax_ialde (x := I 186 s) d_Mo_length_22 (k_186 S) (by omega) (by rw [n_186 S]; omega) (Eq.trans (a_up_ne (Or.inl (by decide))) (rfl)) ?_
    exact aw_iret d_Mo_length_23 rfl (hP _ _ (tOk _ rfl (by unfold cLen; rw [if_pos (by omega)])))
  · skip
    refine ax_S (st := [vr 175]) (as := [vi s, vi 0, vi 7]) (v := some (vi 0)) (h' := sD h I L) d_Mo_length_5 cs_Mo_length_5 (c_in0 in_5) rfl rfl rfl ?_
    show AW l G M_Mo_length P 8 [(0, vr 175), (1, vi s)] [vi 0, vr 175] (sD h I L)
    refine aw_iconst d_Mo_length_8 ⟨by decide, by decide⟩ ?_
    refine ax_V (st := []) (as := [vi 0, vi 1]) (b := 175) (v := some (vi 0)) (h' := sD h (a_up I 175 4 1) L) d_Mo_length_9 cs_Mo_length_9 (k_175 S) (c_good0 S (rfl)) rfl rfl rfl ?_
    show AW l G M_Mo_length P 12 [(0, vr 175), (1, vi s)] [vi 0] (sD h (a_up I 175 4 1) L)
    refine aw_if_ne (tgt := 17) d_Mo_length_12 (by decide) (fun c_12 => False.elim (by omega)) (fun c_12 => ?_)
    refine aw_iconst d_Mo_length_15 ⟨by decide, by decide⟩ ?_
    exact aw_iret d_Mo_length_16 rfl (hP _ _ (tNo _ 1 (by unfold cLen; rw [if_neg (by omega)]) (by decide) ⟨_, rfl⟩))
set_option maxHeartbeats 800000 in
set_option maxRecDepth 100000 in
theorem cT_Mo_word2 {l : Launch} {G : a_G} {h : Hp} {I L : Nat → Int → Int} {s i : Int} (S : Shp h) (rb : RB I) : AW l G M_Mo_word2 (RefT TL h I L (cWord (I 186 s) s i) (fun v => v = vl (wdP (gW I s) i 8)) (a_up I 175 4 0)) 0 (a_ar 0 [vr 175, vi s, vi i]) [] (sD h I L) := by
  suffices key : ∀ P : a_R → Hp → Prop, (∀ r h2, RefT TL h I L (cWord (I 186 s) s i) (fun v => v = vl (wdP (gW I s) i 8)) (a_up I 175 4 0) r h2 → P r h2) → AW l G M_Mo_word2 P 0 [(0, vr 175), (1, vi s), (2, vi i)] [] (sD h I L) from key _ (fun _ _ q => q)
  intro P hP
  refine aw_aload_n d_Mo_word2_0 rfl rfl ?_
  refine aw_iload_n d_Mo_word2_1 rfl rfl ?_
  refine aw_iconst d_Mo_word2_2 ⟨by decide, by decide⟩ ?_
  refine aw_bipush d_Mo_word2_3 ⟨by decide, by decide⟩ (by decide) ?_
  by_cases in_5 : 0 ≤ s ∧ s ≤ 7
  · skip
    refine ax_S (st := [vr 175]) (as := [vi s, vi 0, vi 7]) (v := some (vi 1)) (h' := sD h I L) d_Mo_word2_5 cs_Mo_word2_5 (c_in1 in_5) rfl rfl rfl ?_
    show AW l G M_Mo_word2 P 8 [(0, vr 175), (1, vi s), (2, vi i)] [vi 1, vr 175] (sD h I L)
    refine aw_iconst d_Mo_word2_8 ⟨by decide, by decide⟩ ?_
    refine ax_V (st := []) (as := [vi 1, vi 1]) (b := 175) (v := some (vi 1)) (h' := sD h (a_up I 175 4 0) L) d_Mo_word2_9 cs_Mo_word2_9 (k_175 S) (c_good1 S (rfl)) rfl rfl rfl ?_
    show AW l G M_Mo_word2 P 12 [(0, vr 175), (1, vi s), (2, vi i)] [vi 1] (sD h (a_up I 175 4 0) L)
    refine aw_if_eq (tgt := 36) d_Mo_word2_12 (by decide) (fun c_12 => False.elim (by omega)) (fun c_12 => ?_)
    have rb1 := rb.1 s (by omega) (by omega)
    refine aw_aload_n d_Mo_word2_15 rfl rfl ?_
    refine aw_iload_n d_Mo_word2_16 rfl rfl ?_
    refine aw_iconst d_Mo_word2_17 ⟨by decide, by decide⟩ ?_
    refine aw_aload_n d_Mo_word2_18 rfl rfl ?_
    refine ax_getR (b := 186) d_Mo_word2_19 fd_Mo_18 (k_175 S) (r_175_2 S) ?_
    refine aw_iload_n d_Mo_word2_22 rfl rfl ?_
    refine ax_ialde (x := I 186 s) d_Mo_word2_23 (k_186 S) (by omega) (by rw [n_186 S]; omega) (Eq.trans (a_up_ne (Or.inl (by decide))) (rfl)) ?_
    refine aw_iconst d_Mo_word2_24 ⟨by decide, by decide⟩ ?_
    refine ax_isub d_Mo_word2_25 ⟨(by omega), (by omega)⟩ ?_
    by_cases in_26 : 0 ≤ i ∧ i ≤ (I 186 s) - 1
    · skip
      refine ax_S (st := [vr 175]) (as := [vi i, vi 0, vi ((I 186 s) - 1)]) (v := some (vi 1)) (h' := sD h (a_up I 175 4 0) L) d_Mo_word2_26 cs_Mo_word2_26 (c_in1 in_26) rfl rfl rfl ?_
      show AW l G M_Mo_word2 P 29 [(0, vr 175), (1, vi s), (2, vi i)] [vi 1, vr 175] (sD h (a_up I 175 4 0) L)
      refine aw_iconst d_Mo_word2_29 ⟨by decide, by decide⟩ ?_
      refine ax_V (st := []) (as := [vi 1, vi 2]) (b := 175) (v := some (vi 1)) (h' := sD h (a_up I 175 4 0) L) d_Mo_word2_30 cs_Mo_word2_30 (k_175 S) (c_good1 S (by rw [a_up_up])) rfl rfl rfl ?_
      show AW l G M_Mo_word2 P 33 [(0, vr 175), (1, vi s), (2, vi i)] [vi 1] (sD h (a_up I 175 4 0) L)
      refine aw_if_ne (tgt := 38) d_Mo_word2_33 (by decide) (fun c_33 => ?_) (fun c_33 => False.elim (by omega))
      refine aw_lconst (x := 0) d_Mo_word2_38 ⟨by decide, by decide⟩ (by decide) ?_
      refine aw_lstore_n (lv' := [(3, vl 0), (0, vr 175), (1, vi s), (2, vi i)]) d_Mo_word2_39 rfl (by decide) rfl ?_
      refine aw_iload_n d_Mo_word2_40 rfl rfl ?_
      refine aw_istore (lv' := [(5, vi i), (3, vl 0), (0, vr 175), (1, vi s), (2, vi i)]) d_Mo_word2_41 (by decide) rfl ?_
      have lp_43 : ∀ (n_ : Nat) (k : Int) (x : Int), (i ≤ k ∧ k ≤ i + 8) → (x = wdP (gW I s) i (k - i).toNat) → ((i + 8 - k).toNat) = n_ → AW l G M_Mo_word2 P 43 [(5, vi k), (3, vl x), (2, vi i), (1, vi s), (0, vr 175)] [] (sD h (a_up I 175 4 0) L) := by
        intro n_
        induction n_ using Nat.strongRecOn with
        | _ n_ ih_43 =>
        intro k x hk hx hm_43
        refine aw_iload d_Mo_word2_43 rfl ?_
        refine aw_iload_n d_Mo_word2_45 rfl rfl ?_
        refine aw_bipush d_Mo_word2_46 ⟨by decide, by decide⟩ (by decide) ?_
        refine ax_iadd d_Mo_word2_48 ⟨(by omega), (by omega)⟩ ?_
        refine aw_icmp_ge (tgt := 93) d_Mo_word2_49 (by decide) (fun c_49 => ?_) (fun c_49 => ?_)
        · skip
          refine aw_lload_n d_Mo_word2_93 rfl rfl ?_
          exact aw_lret d_Mo_word2_94 rfl (hP _ _ (tOk _ (by rw [hx, show (k - i).toNat = 8 by omega]) (by unfold cWord; rw [if_pos (by omega), if_pos (by omega)])))
        · skip
          refine aw_lload_n d_Mo_word2_52 rfl rfl ?_
          refine aw_bipush d_Mo_word2_53 ⟨by decide, by decide⟩ (by decide) ?_
          refine aw_lshl d_Mo_word2_55 ?_
          refine aw_iload d_Mo_word2_56 rfl ?_
          refine aw_aload_n d_Mo_word2_58 rfl rfl ?_
          refine ax_getR (b := 186) d_Mo_word2_59 fd_Mo_18 (k_175 S) (r_175_2 S) ?_
          refine aw_iload_n d_Mo_word2_62 rfl rfl ?_
          refine ax_ialde (x := I 186 s) d_Mo_word2_63 (k_186 S) (by omega) (by rw [n_186 S]; omega) (Eq.trans (a_up_ne (Or.inl (by decide))) (rfl)) ?_
          refine aw_icmp_ge (tgt := 84) d_Mo_word2_64 (by decide) (fun c_64 => ?_) (fun c_64 => ?_)
          · skip
            refine aw_lconst (x := 0) d_Mo_word2_84 ⟨by decide, by decide⟩ (by decide) ?_
            refine aw_lor d_Mo_word2_85 ?_
            refine aw_lstore_n (lv' := [(3, vl (a_lor (a_lshl x 8) 0)), (5, vi k), (2, vi i), (1, vi s), (0, vr 175)]) d_Mo_word2_86 rfl (by decide) rfl ?_
            refine ax_iinc (lv' := [(5, vi (k + 1)), (3, vl (a_lor (a_lshl x 8) 0)), (2, vi i), (1, vi s), (0, vr 175)]) d_Mo_word2_87 rfl (by decide) ⟨(by omega), (by omega)⟩ rfl ?_
            refine aw_goto (tgt := 43) d_Mo_word2_90 (by decide) ?_
            exact ih_43 _ (by omega) (k + 1) (a_lor (a_lshl x 8) 0) (by omega) (by rw [hx, show (k + 1 - i).toNat = (k - i).toNat + 1 by omega]; show _ = a_lor _ (gW I s (i + ((k - i).toNat : Int))); rw [show i + ((k - i).toNat : Int) = k by omega]; unfold gW; rw [if_neg (by omega)]) rfl
          · skip
            refine aw_aload_n d_Mo_word2_67 rfl rfl ?_
            refine ax_getR (b := 177) d_Mo_word2_68 fd_Mo_15 (k_175 S) (r_175_1 S) ?_
            refine aw_iload_n d_Mo_word2_71 rfl rfl ?_
            refine ax_aald (b := 178 + s.toNat) d_Mo_word2_72 ⟨by rw [(k_177 S)]; decide, by rw [(k_177 S)]; decide⟩ (by omega) (by rw [n_177 S]; omega) (g_177 S (by omega) (by omega)) ?_
            refine aw_iload d_Mo_word2_73 rfl ?_
            refine ax_balde (x := I (178 + s.toNat) k) d_Mo_word2_75 (kr_177 S (by omega)) (by omega) (by rw [nr_177 S (by omega)]; omega) (Eq.trans (a_up_ne (Or.inl (by omega))) (rfl)) ?_
            refine aw_i2l d_Mo_word2_76 ?_
            refine aw_ldc2 (n := 255) d_Mo_word2_77 lc_Mo_124 ⟨by decide, by decide⟩ ?_
            refine aw_land d_Mo_word2_80 ?_
            refine ax_tl (x := (I (178 + s.toNat) k) % 256) (a_land' 8 (by decide) (by decide) (by decide)) ?_
            refine aw_goto (tgt := 85) d_Mo_word2_81 (by decide) ?_
            refine aw_lor d_Mo_word2_85 ?_
            refine aw_lstore_n (lv' := [(3, vl (a_lor (a_lshl x 8) ((I (178 + s.toNat) k) % 256))), (5, vi k), (2, vi i), (1, vi s), (0, vr 175)]) d_Mo_word2_86 rfl (by decide) rfl ?_
            refine ax_iinc (lv' := [(5, vi (k + 1)), (3, vl (a_lor (a_lshl x 8) ((I (178 + s.toNat) k) % 256))), (2, vi i), (1, vi s), (0, vr 175)]) d_Mo_word2_87 rfl (by decide) ⟨(by omega), (by omega)⟩ rfl ?_
            refine aw_goto (tgt := 43) d_Mo_word2_90 (by decide) ?_
            exact ih_43 _ (by omega) (k + 1) (a_lor (a_lshl x 8) ((I (178 + s.toNat) k) % 256)) (by omega) (by rw [hx, show (k + 1 - i).toNat = (k - i).toNat + 1 by omega]; show _ = a_lor _ (gW I s (i + ((k - i).toNat : Int))); rw [show i + ((k - i).toNat : Int) = k by omega]; unfold gW; rw [if_pos (by omega)]) rfl
      refine aw_sub (lv' := [(5, vi i), (3, vl 0), (2, vi i), (1, vi s), (0, vr 175)]) (by simp) ?_
      exact lp_43 _ i 0 (by omega) (by rw [show (i - i).toNat = 0 by omega]; rfl) rfl
    · skip
      refine ax_S (st := [vr 175]) (as := [vi i, vi 0, vi ((I 186 s) - 1)]) (v := some (vi 0)) (h' := sD h (a_up I 175 4 0) L) d_Mo_word2_26 cs_Mo_word2_26 (c_in0 in_26) rfl rfl rfl ?_
      show AW l G M_Mo_word2 P 29 [(0, vr 175), (1, vi s), (2, vi i)] [vi 0, vr 175] (sD h (a_up I 175 4 0) L)
      refine aw_iconst d_Mo_word2_29 ⟨by decide, by decide⟩ ?_
      refine ax_V (st := []) (as := [vi 0, vi 2]) (b := 175) (v := some (vi 0)) (h' := sD h (a_up I 175 4 2) L) d_Mo_word2_30 cs_Mo_word2_30 (k_175 S) (c_good0 S (by rw [a_up_up])) rfl rfl rfl ?_
      show AW l G M_Mo_word2 P 33 [(0, vr 175), (1, vi s), (2, vi i)] [vi 0] (sD h (a_up I 175 4 2) L)
      refine aw_if_ne (tgt := 38) d_Mo_word2_33 (by decide) (fun c_33 => False.elim (by omega)) (fun c_33 => ?_)
      refine aw_lconst (x := 0) d_Mo_word2_36 ⟨by decide, by decide⟩ (by decide) ?_
      exact aw_lret d_Mo_word2_37 rfl (hP _ _ (tNo _ 2 (by unfold cWord; rw [if_pos (by omega), if_neg (by omega)]) (by decide) ⟨_, rfl⟩))
  · skip
    refine ax_S (st := [vr 175]) (as := [vi s, vi 0, vi 7]) (v := some (vi 0)) (h' := sD h I L) d_Mo_word2_5 cs_Mo_word2_5 (c_in0 in_5) rfl rfl rfl ?_
    show AW l G M_Mo_word2 P 8 [(0, vr 175), (1, vi s), (2, vi i)] [vi 0, vr 175] (sD h I L)
    refine aw_iconst d_Mo_word2_8 ⟨by decide, by decide⟩ ?_
    refine ax_V (st := []) (as := [vi 0, vi 1]) (b := 175) (v := some (vi 0)) (h' := sD h (a_up I 175 4 1) L) d_Mo_word2_9 cs_Mo_word2_9 (k_175 S) (c_good0 S (rfl)) rfl rfl rfl ?_
    show AW l G M_Mo_word2 P 12 [(0, vr 175), (1, vi s), (2, vi i)] [vi 0] (sD h (a_up I 175 4 1) L)
    refine aw_if_eq (tgt := 36) d_Mo_word2_12 (by decide) (fun c_12 => ?_) (fun c_12 => False.elim (by omega))
    refine aw_lconst (x := 0) d_Mo_word2_36 ⟨by decide, by decide⟩ (by decide) ?_
    exact aw_lret d_Mo_word2_37 rfl (hP _ _ (tNo _ 1 (by unfold cWord; rw [if_neg (by omega)]) (by decide) ⟨_, rfl⟩))
set_option maxHeartbeats 800000 in
set_option maxRecDepth 100000 in
theorem cT_Mo_same {l : Launch} {G : a_G} {h : Hp} {I L : Nat → Int → Int} {s u : Int} (S : Shp h) (rb : RB I) : AW l G M_Mo_same (RefT TI h I L (cTwo s u) (fun w => ∃ z : Int, w = vi z ∧ (z = 0 ∨ z = 1) ∧ (z = 1 ↔ I 186 s = I 186 u ∧ ∀ j, 0 ≤ j → j < I 186 s → I (178 + s.toNat) j = I (178 + u.toNat) j)) (a_up I 175 4 0)) 0 (a_ar 0 [vr 175, vi s, vi u]) [] (sD h I L) := by
  suffices key : ∀ P : a_R → Hp → Prop, (∀ r h2, RefT TI h I L (cTwo s u) (fun w => ∃ z : Int, w = vi z ∧ (z = 0 ∨ z = 1) ∧ (z = 1 ↔ I 186 s = I 186 u ∧ ∀ j, 0 ≤ j → j < I 186 s → I (178 + s.toNat) j = I (178 + u.toNat) j)) (a_up I 175 4 0) r h2 → P r h2) → AW l G M_Mo_same P 0 [(0, vr 175), (1, vi s), (2, vi u)] [] (sD h I L) from key _ (fun _ _ q => q)
  intro P hP
  refine aw_aload_n d_Mo_same_0 rfl rfl ?_
  refine aw_iload_n d_Mo_same_1 rfl rfl ?_
  refine aw_iconst d_Mo_same_2 ⟨by decide, by decide⟩ ?_
  refine aw_bipush d_Mo_same_3 ⟨by decide, by decide⟩ (by decide) ?_
  by_cases in_5 : 0 ≤ s ∧ s ≤ 7
  · skip
    refine ax_S (st := [vr 175]) (as := [vi s, vi 0, vi 7]) (v := some (vi 1)) (h' := sD h I L) d_Mo_same_5 cs_Mo_same_5 (c_in1 in_5) rfl rfl rfl ?_
    show AW l G M_Mo_same P 8 [(0, vr 175), (1, vi s), (2, vi u)] [vi 1, vr 175] (sD h I L)
    refine aw_if_eq (tgt := 25) d_Mo_same_8 (by decide) (fun c_8 => False.elim (by omega)) (fun c_8 => ?_)
    refine aw_iload_n d_Mo_same_11 rfl rfl ?_
    refine aw_iconst d_Mo_same_12 ⟨by decide, by decide⟩ ?_
    refine aw_bipush d_Mo_same_13 ⟨by decide, by decide⟩ (by decide) ?_
    by_cases in_15 : 0 ≤ u ∧ u ≤ 7
    · skip
      refine ax_S (st := [vr 175]) (as := [vi u, vi 0, vi 7]) (v := some (vi 1)) (h' := sD h I L) d_Mo_same_15 cs_Mo_same_15 (c_in1 in_15) rfl rfl rfl ?_
      show AW l G M_Mo_same P 18 [(0, vr 175), (1, vi s), (2, vi u)] [vi 1, vr 175] (sD h I L)
      refine aw_if_eq (tgt := 25) d_Mo_same_18 (by decide) (fun c_18 => False.elim (by omega)) (fun c_18 => ?_)
      refine aw_iconst d_Mo_same_21 ⟨by decide, by decide⟩ ?_
      refine aw_goto (tgt := 26) d_Mo_same_22 (by decide) ?_
      refine aw_iconst d_Mo_same_26 ⟨by decide, by decide⟩ ?_
      refine ax_V (st := []) (as := [vi 1, vi 1]) (b := 175) (v := some (vi 1)) (h' := sD h (a_up I 175 4 0) L) d_Mo_same_27 cs_Mo_same_27 (k_175 S) (c_good1 S (rfl)) rfl rfl rfl ?_
      show AW l G M_Mo_same P 30 [(0, vr 175), (1, vi s), (2, vi u)] [vi 1] (sD h (a_up I 175 4 0) L)
      refine aw_if_ne (tgt := 35) d_Mo_same_30 (by decide) (fun c_30 => ?_) (fun c_30 => False.elim (by omega))
      have rb1 := rb.1 s (by omega) (by omega)
      have rb2 := rb.1 u (by omega) (by omega)
      refine aw_aload_n d_Mo_same_35 rfl rfl ?_
      refine ax_getR (b := 186) d_Mo_same_36 fd_Mo_18 (k_175 S) (r_175_2 S) ?_
      refine aw_iload_n d_Mo_same_39 rfl rfl ?_
      refine ax_ialde (x := I 186 s) d_Mo_same_40 (k_186 S) (by omega) (by rw [n_186 S]; omega) (Eq.trans (a_up_ne (Or.inl (by decide))) (rfl)) ?_
      refine aw_aload_n d_Mo_same_41 rfl rfl ?_
      refine ax_getR (b := 186) d_Mo_same_42 fd_Mo_18 (k_175 S) (r_175_2 S) ?_
      refine aw_iload_n d_Mo_same_45 rfl rfl ?_
      refine ax_ialde (x := I 186 u) d_Mo_same_46 (k_186 S) (by omega) (by rw [n_186 S]; omega) (Eq.trans (a_up_ne (Or.inl (by decide))) (rfl)) ?_
      refine aw_icmp_eq (tgt := 52) d_Mo_same_47 (by decide) (fun c_47 => ?_) (fun c_47 => ?_)
      · skip
        refine aw_iconst d_Mo_same_52 ⟨by decide, by decide⟩ ?_
        refine aw_istore_n (lv' := [(3, vi 1), (0, vr 175), (1, vi s), (2, vi u)]) d_Mo_same_53 rfl (by decide) rfl ?_
        refine aw_iconst d_Mo_same_54 ⟨by decide, by decide⟩ ?_
        refine aw_istore (lv' := [(4, vi 0), (3, vi 1), (0, vr 175), (1, vi s), (2, vi u)]) d_Mo_same_55 (by decide) rfl ?_
        have lp_57 : ∀ (n_ : Nat) (i : Int) (v : Int), (0 ≤ i ∧ i ≤ I 186 s ∧ (v = 0 ∨ v = 1)) → (v = 1 ↔ ∀ j, 0 ≤ j → j < i → I (178 + s.toNat) j = I (178 + u.toNat) j) → ((I 186 s - i).toNat) = n_ → AW l G M_Mo_same P 57 [(4, vi i), (3, vi v), (2, vi u), (1, vi s), (0, vr 175)] [] (sD h (a_up I 175 4 0) L) := by
          intro n_
          induction n_ using Nat.strongRecOn with
          | _ n_ ih_57 =>
          intro i v hi hv hm_57
          refine aw_iload d_Mo_same_57 rfl ?_
          refine aw_aload_n d_Mo_same_59 rfl rfl ?_
          refine ax_getR (b := 186) d_Mo_same_60 fd_Mo_18 (k_175 S) (r_175_2 S) ?_
          refine aw_iload_n d_Mo_same_63 rfl rfl ?_
          refine ax_ialde (x := I 186 s) d_Mo_same_64 (k_186 S) (by omega) (by rw [n_186 S]; omega) (Eq.trans (a_up_ne (Or.inl (by decide))) (rfl)) ?_
          refine aw_icmp_ge (tgt := 97) d_Mo_same_65 (by decide) (fun c_65 => ?_) (fun c_65 => ?_)
          · skip
            refine aw_iload_n d_Mo_same_97 rfl rfl ?_
            exact aw_zret d_Mo_same_98 rfl ⟨by omega, by omega⟩ (hP _ _ (tOk _ ⟨_, rfl, hi.2.2, ⟨fun z => ⟨by omega, fun j a b => hv.1 z j a (by omega)⟩, fun z => hv.2 (fun j a b => z.2 j a (by omega))⟩⟩ (by unfold cTwo; rw [if_pos (by omega)])))
          · skip
            refine aw_aload_n d_Mo_same_68 rfl rfl ?_
            refine ax_getR (b := 177) d_Mo_same_69 fd_Mo_15 (k_175 S) (r_175_1 S) ?_
            refine aw_iload_n d_Mo_same_72 rfl rfl ?_
            refine ax_aald (b := 178 + s.toNat) d_Mo_same_73 ⟨by rw [(k_177 S)]; decide, by rw [(k_177 S)]; decide⟩ (by omega) (by rw [n_177 S]; omega) (g_177 S (by omega) (by omega)) ?_
            refine aw_iload d_Mo_same_74 rfl ?_
            refine ax_balde (x := I (178 + s.toNat) i) d_Mo_same_76 (kr_177 S (by omega)) (by omega) (by rw [nr_177 S (by omega)]; omega) (Eq.trans (a_up_ne (Or.inl (by omega))) (rfl)) ?_
            refine aw_aload_n d_Mo_same_77 rfl rfl ?_
            refine ax_getR (b := 177) d_Mo_same_78 fd_Mo_15 (k_175 S) (r_175_1 S) ?_
            refine aw_iload_n d_Mo_same_81 rfl rfl ?_
            refine ax_aald (b := 178 + u.toNat) d_Mo_same_82 ⟨by rw [(k_177 S)]; decide, by rw [(k_177 S)]; decide⟩ (by omega) (by rw [n_177 S]; omega) (g_177 S (by omega) (by omega)) ?_
            refine aw_iload d_Mo_same_83 rfl ?_
            refine ax_balde (x := I (178 + u.toNat) i) d_Mo_same_85 (kr_177 S (by omega)) (by omega) (by rw [nr_177 S (by omega)]; omega) (Eq.trans (a_up_ne (Or.inl (by omega))) (rfl)) ?_
            refine aw_icmp_eq (tgt := 91) d_Mo_same_86 (by decide) (fun c_86 => ?_) (fun c_86 => ?_)
            · skip
              refine ax_iinc (lv' := [(4, vi (i + 1)), (3, vi v), (2, vi u), (1, vi s), (0, vr 175)]) d_Mo_same_91 rfl (by decide) ⟨(by omega), (by omega)⟩ rfl ?_
              refine aw_goto (tgt := 57) d_Mo_same_94 (by decide) ?_
              exact ih_57 _ (by omega) (i + 1) v (by omega) (⟨fun z => a_upto (hv.1 z) (by omega), fun z => hv.2 (fun j a b => z j a (by omega))⟩) rfl
            · skip
              refine aw_iconst d_Mo_same_89 ⟨by decide, by decide⟩ ?_
              refine aw_istore_n (lv' := [(3, vi 0), (4, vi i), (2, vi u), (1, vi s), (0, vr 175)]) d_Mo_same_90 rfl (by decide) rfl ?_
              refine ax_iinc (lv' := [(4, vi (i + 1)), (3, vi 0), (2, vi u), (1, vi s), (0, vr 175)]) d_Mo_same_91 rfl (by decide) ⟨(by omega), (by omega)⟩ rfl ?_
              refine aw_goto (tgt := 57) d_Mo_same_94 (by decide) ?_
              exact ih_57 _ (by omega) (i + 1) 0 (by omega) (⟨fun z => absurd z (by decide), fun z => absurd (z i hi.1 (by omega)) (by omega)⟩) rfl
        refine aw_sub (lv' := [(4, vi 0), (3, vi 1), (2, vi u), (1, vi s), (0, vr 175)]) (by simp) ?_
        exact lp_57 _ 0 1 (by omega) (⟨fun _ j a b => by omega, fun _ => rfl⟩) rfl
      · skip
        refine aw_iconst d_Mo_same_50 ⟨by decide, by decide⟩ ?_
        exact aw_zret d_Mo_same_51 rfl ⟨by decide, by decide⟩ (hP _ _ (tOk _ ⟨_, rfl, Or.inl rfl, ⟨fun z => absurd z (by decide), fun z => absurd z.1 (by omega)⟩⟩ (by unfold cTwo; rw [if_pos (by omega)])))
    · skip
      refine ax_S (st := [vr 175]) (as := [vi u, vi 0, vi 7]) (v := some (vi 0)) (h' := sD h I L) d_Mo_same_15 cs_Mo_same_15 (c_in0 in_15) rfl rfl rfl ?_
      show AW l G M_Mo_same P 18 [(0, vr 175), (1, vi s), (2, vi u)] [vi 0, vr 175] (sD h I L)
      refine aw_if_eq (tgt := 25) d_Mo_same_18 (by decide) (fun c_18 => ?_) (fun c_18 => False.elim (by omega))
      refine aw_iconst d_Mo_same_25 ⟨by decide, by decide⟩ ?_
      refine aw_iconst d_Mo_same_26 ⟨by decide, by decide⟩ ?_
      refine ax_V (st := []) (as := [vi 0, vi 1]) (b := 175) (v := some (vi 0)) (h' := sD h (a_up I 175 4 1) L) d_Mo_same_27 cs_Mo_same_27 (k_175 S) (c_good0 S (rfl)) rfl rfl rfl ?_
      show AW l G M_Mo_same P 30 [(0, vr 175), (1, vi s), (2, vi u)] [vi 0] (sD h (a_up I 175 4 1) L)
      refine aw_if_ne (tgt := 35) d_Mo_same_30 (by decide) (fun c_30 => False.elim (by omega)) (fun c_30 => ?_)
      refine aw_iconst d_Mo_same_33 ⟨by decide, by decide⟩ ?_
      exact aw_zret d_Mo_same_34 rfl ⟨by decide, by decide⟩ (hP _ _ (tNo _ 1 (by unfold cTwo; rw [if_neg (by omega)]) (by decide) ⟨_, rfl⟩))
  · skip
    refine ax_S (st := [vr 175]) (as := [vi s, vi 0, vi 7]) (v := some (vi 0)) (h' := sD h I L) d_Mo_same_5 cs_Mo_same_5 (c_in0 in_5) rfl rfl rfl ?_
    show AW l G M_Mo_same P 8 [(0, vr 175), (1, vi s), (2, vi u)] [vi 0, vr 175] (sD h I L)
    refine aw_if_eq (tgt := 25) d_Mo_same_8 (by decide) (fun c_8 => ?_) (fun c_8 => False.elim (by omega))
    refine aw_iconst d_Mo_same_25 ⟨by decide, by decide⟩ ?_
    refine aw_iconst d_Mo_same_26 ⟨by decide, by decide⟩ ?_
    refine ax_V (st := []) (as := [vi 0, vi 1]) (b := 175) (v := some (vi 0)) (h' := sD h (a_up I 175 4 1) L) d_Mo_same_27 cs_Mo_same_27 (k_175 S) (c_good0 S (rfl)) rfl rfl rfl ?_
    show AW l G M_Mo_same P 30 [(0, vr 175), (1, vi s), (2, vi u)] [vi 0] (sD h (a_up I 175 4 1) L)
    refine aw_if_ne (tgt := 35) d_Mo_same_30 (by decide) (fun c_30 => False.elim (by omega)) (fun c_30 => ?_)
    refine aw_iconst d_Mo_same_33 ⟨by decide, by decide⟩ ?_
    exact aw_zret d_Mo_same_34 rfl ⟨by decide, by decide⟩ (hP _ _ (tNo _ 1 (by unfold cTwo; rw [if_neg (by omega)]) (by decide) ⟨_, rfl⟩))
