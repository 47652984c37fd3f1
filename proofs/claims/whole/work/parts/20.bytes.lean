/-! Bytes: contracts -/
def ByO (h : Hp) (b r : Nat) : Prop := hK h b = 21 ∧ hR h b 0 = some r ∧ hK h r = 2 ∧ 12 ≤ b ∧ 12 ≤ r ∧ b ≠ r
def byAt (I : Nat → Int → Int) (b r : Nat) (i : Int) : Int := if 0 ≤ i ∧ i < I b 1 then I r i % 256 else 0
def byAdd (I : Nat → Int → Int) (b r : Nat) (v : Int) : Nat → Int → Int := a_up (a_up I r (I b 1) (a_w8 v)) b 1 (I b 1 + 1)
theorem a_w8w8 (x : Int) : a_w8 (a_w8 x) = a_w8 x := by unfold a_w8; omega
set_option maxHeartbeats 4000000 in
set_option maxRecDepth 100000 in
theorem c_By_at {l : Launch} {G : a_G} {h : Hp} {I L : Nat → Int → Int} {b r : Nat} {i : Int} (S : ByO h b r) (hc : I b 1 ≤ hN h r) : AW l G M_By_at (Rx (some (vi (byAt I b r i))) (sD h I L)) 0 (a_ar 0 [vr b, vi i]) [] (sD h I L) := by
  suffices key : ∀ P : a_R → Hp → Prop, (∀ x, x = byAt I b r i → P (.inl (some (vi x))) (sD h I L)) → AW l G M_By_at P 0 [(0, vr b), (1, vi i)] [] (sD h I L) from key _ (fun x hx => ⟨by rw [hx], rfl⟩)
  intro P hP
  refine aw_iload_n d_By_at_0 rfl rfl ?_
  refine aw_if_lt (tgt := 25) d_By_at_1 (by decide) (fun c_1 => ?_) (fun c_1 => ?_)
  · skip
    refine aw_iconst d_By_at_25 ⟨by decide, by decide⟩ ?_
    exact aw_iret d_By_at_26 rfl (hP _ ((if_neg (by omega)).symm))
  · skip
    refine aw_iload_n d_By_at_4 rfl rfl ?_
    refine aw_aload_n d_By_at_5 rfl rfl ?_
    refine ax_getIe (x := I b 1) d_By_at_6 fd_By_13 S.1 rfl ?_
    refine aw_icmp_ge (tgt := 25) d_By_at_9 (by decide) (fun c_9 => ?_) (fun c_9 => ?_)
    · skip
      refine aw_iconst d_By_at_25 ⟨by decide, by decide⟩ ?_
      exact aw_iret d_By_at_26 rfl (hP _ ((if_neg (by omega)).symm))
    · skip
      refine aw_aload_n d_By_at_12 rfl rfl ?_
      refine ax_getR (b := r) d_By_at_13 fd_By_7 S.1 S.2.1 ?_
      refine aw_iload_n d_By_at_16 rfl rfl ?_
      refine ax_balde (x := I r i) d_By_at_17 S.2.2.1 (by omega) (by omega) rfl ?_
      refine aw_sipush d_By_at_18 ⟨by decide, by decide⟩ (by decide) ?_
      refine aw_iand d_By_at_21 ?_
      refine aw_goto (tgt := 26) d_By_at_22 (by decide) ?_
      exact aw_iret d_By_at_26 rfl (hP _ ((a_and_255 _).trans (if_pos ⟨by omega, by omega⟩).symm))
set_option maxHeartbeats 4000000 in
set_option maxRecDepth 100000 in
theorem c_By_clear {l : Launch} {G : a_G} {h : Hp} {I L : Nat → Int → Int} {b r : Nat} (S : ByO h b r) : AW l G M_By_clear (Rx none (sD h (a_up I b 1 0) L)) 0 (a_ar 0 [vr b]) [] (sD h I L) := by
  suffices key : ∀ P : a_R → Hp → Prop, (P (.inl none) (sD h (a_up I b 1 0) L)) → AW l G M_By_clear P 0 [(0, vr b)] [] (sD h I L) from key _ (⟨rfl, rfl⟩)
  intro P hP
  refine aw_aload_n d_By_clear_0 rfl rfl ?_
  refine aw_iconst d_By_clear_1 ⟨by decide, by decide⟩ ?_
  refine ax_putI d_By_clear_2 fd_By_13 S.1 S.2.2.2.1 rfl ?_
  exact aw_vret d_By_clear_5 rfl hP
set_option maxHeartbeats 4000000 in
set_option maxRecDepth 100000 in
theorem c_By_add {l : Launch} {G : a_G} {h : Hp} {I L : Nat → Int → Int} {b r : Nat} {v : Int} (S : ByO h b r) (hc : 0 ≤ I b 1 ∧ I b 1 < hN h r ∧ hN h r < 2147483648) : AW l G M_By_add (Rx none (sD h (byAdd I b r v) L)) 0 (a_ar 0 [vr b, vi v]) [] (sD h I L) := by
  suffices key : ∀ P : a_R → Hp → Prop, (∀ J, J = byAdd I b r v → P (.inl none) (sD h J L)) → AW l G M_By_add P 0 [(0, vr b), (1, vi v)] [] (sD h I L) from key _ (fun J hJ => ⟨rfl, by rw [hJ]⟩)
  intro P hP
  refine aw_aload_n d_By_add_0 rfl rfl ?_
  refine ax_getIe (x := I b 1) d_By_add_1 fd_By_13 S.1 rfl ?_
  refine aw_aload_n d_By_add_4 rfl rfl ?_
  refine ax_getR (b := r) d_By_add_5 fd_By_7 S.1 S.2.1 ?_
  refine ax_alen (n := hN h r) d_By_add_8 ⟨by rw [S.2.2.1]; decide, by rw [S.2.2.1]; decide⟩ (rfl) ?_
  refine aw_icmp_ge (tgt := 33) d_By_add_9 (by decide) (fun c_9 => False.elim (by omega)) (fun c_9 => ?_)
  refine aw_aload_n d_By_add_12 rfl rfl ?_
  refine ax_getR (b := r) d_By_add_13 fd_By_7 S.1 S.2.1 ?_
  refine aw_aload_n d_By_add_16 rfl rfl ?_
  refine ax_getIe (x := I b 1) d_By_add_17 fd_By_13 S.1 rfl ?_
  refine aw_iload_n d_By_add_20 rfl rfl ?_
  refine aw_i2b d_By_add_21 ?_
  refine ax_bast d_By_add_22 S.2.2.1 S.2.2.2.2.1 (by omega) (by omega) ?_
  refine aw_aload_n d_By_add_23 rfl rfl ?_
  refine aw_dup d_By_add_24 rfl ?_
  refine ax_getIe (x := I b 1) d_By_add_25 fd_By_13 S.1 (Eq.trans (a_up_ne (Or.inl (S.2.2.2.2.2))) (rfl)) ?_
  refine aw_iconst d_By_add_28 ⟨by decide, by decide⟩ ?_
  refine ax_iadd d_By_add_29 ⟨(by omega), (by omega)⟩ ?_
  refine ax_putI d_By_add_30 fd_By_13 S.1 S.2.2.2.1 rfl ?_
  exact aw_vret d_By_add_33 rfl (hP _ (by rw [a_w8w8]; rfl))
