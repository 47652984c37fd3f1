/-! the reference's root -/
set_option maxHeartbeats 800000 in
set_option maxRecDepth 100000 in
theorem c_Mo_root {l : Launch} {G : a_G} {h : Hp} {I L : Nat → Int → Int} {nu po : Int} (S : Shq h) (hpo : po = 2 ∨ po = 3) (hn : 0 ≤ nu ∧ nu ≤ 420) : AW l G M_Mo_root (Ret (fun u : Int × (Nat → Int → Int) => some (vl u.1)) (fun u => sD h I u.2) (fun u => ∀ a j, a ≠ 191 → a ≠ 192 → u.2 a j = L a j)) 0 (a_ar 0 [vr 175, vi nu, vi po]) [] (sD h I L) := by
  suffices key : ∀ P : a_R → Hp → Prop, (∀ (v : Int) (K : Nat → Int → Int), (∀ a j, a ≠ 191 → a ≠ 192 → K a j = L a j) → P (.inl (some (vl v))) (sD h I K)) → AW l G M_Mo_root P 0 [(0, vr 175), (1, vi nu), (2, vi po)] [] (sD h I L) from key _ (fun v K q => ⟨(v, K), rfl, rfl, q⟩)
  intro P hP
  refine aw_iconst d_Mo_root_0 ⟨by decide, by decide⟩ ?_
  refine aw_istore_n (lv' := [(3, vi 1), (0, vr 175), (1, vi nu), (2, vi po)]) d_Mo_root_1 rfl (by decide) rfl ?_
  have lp_2 : ∀ (n_ : Nat) (w_ : Int) (K : Nat → Int → Int), (1 ≤ w_ ∧ w_ ≤ 20) → (∀ a j, a ≠ 191 → a ≠ 192 → K a j = L a j) → ((21 - w_).toNat) = n_ → AW l G M_Mo_root P 2 [(3, vi w_), (2, vi po), (1, vi nu), (0, vr 175)] [] (sD h I K) := by
    intro n_
    induction n_ using Nat.strongRecOn with
    | _ n_ ih_2 =>
    intro w_ K hw f1 hm_2
    refine aw_aload_n d_Mo_root_2 rfl rfl ?_
    refine aw_iload_n d_Mo_root_3 rfl rfl ?_
    refine aw_iconst d_Mo_root_4 ⟨by decide, by decide⟩ ?_
    refine ax_iadd d_Mo_root_5 ⟨(by omega), (by omega)⟩ ?_
    refine aw_lconst (x := 0) d_Mo_root_6 ⟨by decide, by decide⟩ (by decide) ?_
    refine aw_iload_n d_Mo_root_7 rfl rfl ?_
    refine aw_iload_n d_Mo_root_8 rfl rfl ?_
    refine ax_Vr (st := []) (as := [vi (w_ + 1), vl 0, vi po, vi nu]) (b := 175) d_Mo_root_9 cs_Mo_root_9 (kq_175 S) (c_Mo_above S hpo (by omega)) rfl rfl rfl (fun u_9 q_9 => ?_)
    obtain ⟨v_9, M_9⟩ := u_9
    obtain ⟨a_9, b_9, d_9⟩ := q_9
    dsimp only at a_9 b_9 d_9
    have g_9 : ∀ a j, a ≠ 191 → a ≠ 192 → M_9 a j = L a j := fun a j x y => (b_9 a j x y).trans (f1 a j x y)
    show AW l G M_Mo_root P 12 [(3, vi w_), (2, vi po), (1, vi nu), (0, vr 175)] [vi v_9] (sD h I M_9)
    refine aw_if_ne (tgt := 21) d_Mo_root_12 (by decide) (fun c_12 => ?_) (fun c_12 => ?_)
    · skip
      refine aw_lconst (x := 0) d_Mo_root_21 ⟨by decide, by decide⟩ (by decide) ?_
      refine aw_lstore (lv' := [(4, vl 0), (3, vi w_), (2, vi po), (1, vi nu), (0, vr 175)]) d_Mo_root_22 (by decide) rfl ?_
      refine aw_bipush d_Mo_root_24 ⟨by decide, by decide⟩ (by decide) ?_
      refine aw_istore (lv' := [(6, vi 63), (4, vl 0), (3, vi w_), (2, vi po), (1, vi nu), (0, vr 175)]) d_Mo_root_26 (by decide) rfl ?_
      have lp_28 : ∀ (n_ : Nat) (b : Int) (x : Int) (K2 : Nat → Int → Int), (-1 ≤ b ∧ b ≤ 63) → (∀ a j, a ≠ 191 → a ≠ 192 → K2 a j = L a j) → ((b + 1).toNat) = n_ → AW l G M_Mo_root P 28 [(6, vi b), (4, vl x), (3, vi w_), (2, vi po), (1, vi nu), (0, vr 175)] [] (sD h I K2) := by
        intro n_
        induction n_ using Nat.strongRecOn with
        | _ n_ ih_28 =>
        intro b x K2 hb f2 hm_28
        refine aw_iload d_Mo_root_28 rfl ?_
        refine aw_if_lt (tgt := 65) d_Mo_root_30 (by decide) (fun c_30 => ?_) (fun c_30 => ?_)
        · skip
          refine aw_lload d_Mo_root_65 rfl ?_
          exact aw_lret d_Mo_root_67 rfl (hP x K2 f2)
        · skip
          refine aw_aload_n d_Mo_root_33 rfl rfl ?_
          refine aw_iload_n d_Mo_root_34 rfl rfl ?_
          refine aw_lload d_Mo_root_35 rfl ?_
          refine aw_lconst (x := 1) d_Mo_root_37 ⟨by decide, by decide⟩ (by decide) ?_
          refine aw_iload d_Mo_root_38 rfl ?_
          refine aw_lshl d_Mo_root_40 ?_
          refine aw_lor d_Mo_root_41 ?_
          refine aw_iload_n d_Mo_root_42 rfl rfl ?_
          refine aw_iload_n d_Mo_root_43 rfl rfl ?_
          refine ax_Vr (st := []) (as := [vi w_, vl (a_lor x (a_lshl 1 b)), vi po, vi nu]) (b := 175) d_Mo_root_44 cs_Mo_root_44 (kq_175 S) (c_Mo_above S hpo (by omega)) rfl rfl rfl (fun u_44 q_44 => ?_)
          obtain ⟨v_44, M_44⟩ := u_44
          obtain ⟨a_44, b_44, d_44⟩ := q_44
          dsimp only at a_44 b_44 d_44
          have g_44 : ∀ a j, a ≠ 191 → a ≠ 192 → M_44 a j = L a j := fun a j x y => (b_44 a j x y).trans (f2 a j x y)
          show AW l G M_Mo_root P 47 [(6, vi b), (4, vl x), (3, vi w_), (2, vi po), (1, vi nu), (0, vr 175)] [vi v_44] (sD h I M_44)
          refine aw_if_ne (tgt := 59) d_Mo_root_47 (by decide) (fun c_47 => ?_) (fun c_47 => ?_)
          · skip
            refine ax_iinc (lv' := [(6, vi (b + (-1))), (4, vl x), (3, vi w_), (2, vi po), (1, vi nu), (0, vr 175)]) d_Mo_root_59 rfl (by decide) ⟨(by omega), (by omega)⟩ rfl ?_
            refine aw_goto (tgt := 28) d_Mo_root_62 (by decide) ?_
            exact ih_28 _ (by omega) (b + (-1)) x M_44 (by omega) (g_44) rfl
          · skip
            refine aw_lload d_Mo_root_50 rfl ?_
            refine aw_lconst (x := 1) d_Mo_root_52 ⟨by decide, by decide⟩ (by decide) ?_
            refine aw_iload d_Mo_root_53 rfl ?_
            refine aw_lshl d_Mo_root_55 ?_
            refine aw_lor d_Mo_root_56 ?_
            refine aw_lstore (lv' := [(4, vl (a_lor x (a_lshl 1 b))), (6, vi b), (3, vi w_), (2, vi po), (1, vi nu), (0, vr 175)]) d_Mo_root_57 (by decide) rfl ?_
            refine ax_iinc (lv' := [(6, vi (b + (-1))), (4, vl (a_lor x (a_lshl 1 b))), (3, vi w_), (2, vi po), (1, vi nu), (0, vr 175)]) d_Mo_root_59 rfl (by decide) ⟨(by omega), (by omega)⟩ rfl ?_
            refine aw_goto (tgt := 28) d_Mo_root_62 (by decide) ?_
            exact ih_28 _ (by omega) (b + (-1)) (a_lor x (a_lshl 1 b)) M_44 (by omega) (g_44) rfl
      exact lp_28 _ 63 0 M_9 (by omega) (g_9) rfl
    · skip
      refine ax_iinc (lv' := [(3, vi (w_ + 1)), (2, vi po), (1, vi nu), (0, vr 175)]) d_Mo_root_15 rfl (by decide) ⟨(by omega), (by omega)⟩ rfl ?_
      refine aw_goto (tgt := 2) d_Mo_root_18 (by decide) ?_
      exact ih_2 _ (by omega) (w_ + 1) M_9 (by have y := d_9 ⟨rfl, by omega, by omega⟩; by_cases e : w_ = 20; exact (by rw [e] at y; have y2 := y.2 (by rcases hpo with q | q; exact (by rw [q]; show nu < (20 + 1) ^ 2; rw [show ((20 + 1 : Int) ^ 2) = 441 by decide]; omega); exact (by rw [q]; show nu < (20 + 1) ^ 3; rw [show ((20 + 1 : Int) ^ 3) = 9261 by decide]; omega)); omega); omega) (g_9) rfl
  refine aw_sub (lv' := [(3, vi 1), (2, vi po), (1, vi nu), (0, vr 175)]) (by simp) ?_
  exact lp_2 _ 1 L (by omega) (fun _ _ _ _ => rfl) rfl
