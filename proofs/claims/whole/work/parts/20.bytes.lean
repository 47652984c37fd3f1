/-! Bytes: contracts -/
def ByO (h : Hp) (b r : Nat) : Prop := hK h b = 21 ∧ hR h b 0 = some r ∧ hK h r = 2 ∧ 12 ≤ b ∧ 12 ≤ r ∧ b ≠ r
def byAt (I : Nat → Int → Int) (b r : Nat) (i : Int) : Int := if 0 ≤ i ∧ i < I b 1 then I r i % 256 else 0
def byAdd (I : Nat → Int → Int) (b r : Nat) (v : Int) : Nat → Int → Int := a_up (a_up I r (I b 1) (a_w8 v)) b 1 (I b 1 + 1)
def byPut (I : Nat → Int → Int) (b r : Nat) (n : Int) (g : Int → Int) : Nat → Int → Int := fun a j => if a = b ∧ j = 1 then I b 1 + n else if a = r ∧ I b 1 ≤ j ∧ j < I b 1 + n then a_w8 (g (j - I b 1)) else I a j
def byCopy (I : Nat → Int → Int) (a b : Nat) (n : Int) : Nat → Int → Int := fun k i => if k = b ∧ 0 ≤ i ∧ i < n then I a i else I k i
def byBecome (I : Nat → Int → Int) (b r r2 : Nat) (n : Int) : Nat → Int → Int := a_up (byCopy I r2 r n) b 1 n
def byZero (I : Nat → Int → Int) (r : Nat) (m n : Int) : Nat → Int → Int := fun a j => if a = r ∧ m ≤ j ∧ j < n then 0 else I a j
def byStretch (I : Nat → Int → Int) (b r : Nat) (n : Int) : Nat → Int → Int := a_up (byZero I r (I b 1) n) b 1 n
theorem byAt_lt (I : Nat → Int → Int) (b r : Nat) (i : Int) : 0 ≤ byAt I b r i ∧ byAt I b r i < 256 := by unfold byAt; split <;> omega
theorem byPut_0 {I : Nat → Int → Int} {b r : Nat} {g : Int → Int} : byPut I b r 0 g = I := by
  funext a j
  unfold byPut
  split
  · rename_i e
    rw [e.1, e.2, Int.add_zero]
  · rw [if_neg (by omega)]
theorem byPut_cnt {I : Nat → Int → Int} {b r : Nat} {n : Int} {g : Int → Int} : byPut I b r n g b 1 = I b 1 + n := if_pos ⟨rfl, rfl⟩
theorem byPut_ne {I : Nat → Int → Int} {b r a : Nat} {n j : Int} {g : Int → Int} (h1 : a ≠ b) (h2 : a ≠ r) : byPut I b r n g a j = I a j := by
  unfold byPut
  rw [if_neg (fun e => h1 e.1), if_neg (fun e => h2 e.1)]
theorem byPut_row {I : Nat → Int → Int} {b r : Nat} {n j : Int} {g : Int → Int} (h1 : b ≠ r) : byPut I b r n g r j = if I b 1 ≤ j ∧ j < I b 1 + n then a_w8 (g (j - I b 1)) else I r j := by
  unfold byPut
  rw [if_neg (fun e => h1 e.1.symm)]
  by_cases c : I b 1 ≤ j ∧ j < I b 1 + n
  · rw [if_pos ⟨rfl, c⟩, if_pos c]
  · rw [if_neg (fun e => c e.2), if_neg c]
theorem byPut_1 {I : Nat → Int → Int} {b r : Nat} {n : Int} {g : Int → Int} {v : Int} (h1 : b ≠ r) (h0 : 0 ≤ n) (hv : a_w8 v = a_w8 (g n)) : byAdd (byPut I b r n g) b r v = byPut I b r (n + 1) g := by
  funext a j
  unfold byAdd
  rw [byPut_cnt]
  by_cases c1 : a = b ∧ j = 1
  · rw [c1.1, c1.2, a_up_at, byPut_cnt, Int.add_assoc]
  · unfold a_up
    rw [if_neg c1]
    by_cases c2 : a = r ∧ j = I b 1 + n
    · rw [if_pos c2, c2.1, c2.2, byPut_row h1, if_pos (by omega), hv, show I b 1 + n - I b 1 = n by omega]
    · rw [if_neg c2]
      unfold byPut
      rw [if_neg c1, if_neg c1]
      by_cases c3 : a = r ∧ I b 1 ≤ j ∧ j < I b 1 + n
      · rw [if_pos c3, if_pos (by omega)]
      · rw [if_neg c3, if_neg (by omega)]
theorem byPut_congr {I : Nat → Int → Int} {b r : Nat} {n : Int} {g g' : Int → Int} (h : ∀ k, 0 ≤ k → k < n → a_w8 (g k) = a_w8 (g' k)) : byPut I b r n g = byPut I b r n g' := by
  funext a j
  unfold byPut
  split
  · rfl
  · split
    · rename_i e
      exact h _ (by omega) (by omega)
    · rfl
theorem byPut_put {I : Nat → Int → Int} {b r : Nat} {n m : Int} {g g' : Int → Int} (h1 : b ≠ r) (h0 : 0 ≤ n) (h2 : 0 ≤ m) : byPut (byPut I b r n g) b r m g' = byPut I b r (n + m) (fun k => if k < n then g k else g' (k - n)) := by
  funext a j
  by_cases c1 : a = b ∧ j = 1
  · rw [c1.1, c1.2, byPut_cnt, byPut_cnt, byPut_cnt]; omega
  · by_cases c2 : a = r
    · rw [c2, byPut_row h1, byPut_row h1, byPut_row h1, byPut_cnt]
      by_cases c3 : j < I b 1 + n
      · rw [if_neg (by omega)]
        by_cases c4 : I b 1 ≤ j
        · rw [if_pos ⟨c4, c3⟩, if_pos ⟨c4, by omega⟩, if_pos (by omega)]
        · rw [if_neg (by omega), if_neg (by omega)]
      · by_cases c4 : j < I b 1 + n + m
        · rw [if_pos ⟨by omega, c4⟩, if_pos ⟨by omega, by omega⟩, if_neg (by omega)]
          congr 2
          omega
        · rw [if_neg (by omega), if_neg (by omega), if_neg (by omega)]
    · unfold byPut
      rw [if_neg c1, if_neg (fun e => c2 e.1), if_neg c1, if_neg (fun e => c2 e.1), if_neg c1, if_neg (fun e => c2 e.1)]
theorem byAdd_put {I : Nat → Int → Int} {b r : Nat} {v : Int} (h1 : b ≠ r) : byAdd I b r v = byPut I b r 1 (fun _ => v) := by
  have := byPut_1 (I := I) (b := b) (r := r) (n := 0) (g := fun _ => v) (v := v) h1 (by decide) rfl
  rw [byPut_0] at this
  exact this
theorem byAt_put {I : Nat → Int → Int} {b r b2 r2 : Nat} {n i : Int} {g : Int → Int} (h1 : b2 ≠ b) (h2 : b2 ≠ r) (h3 : r2 ≠ b) (h4 : r2 ≠ r) : byAt (byPut I b r n g) b2 r2 i = byAt I b2 r2 i := by
  unfold byAt
  rw [byPut_ne h1 h2, byPut_ne h3 h4]
theorem byZero_0 {I : Nat → Int → Int} {r : Nat} {m : Int} : byZero I r m m = I := by
  funext a j
  unfold byZero
  rw [if_neg (by omega)]
theorem byZero_1 {I : Nat → Int → Int} {r : Nat} {m n : Int} (h : m ≤ n) : a_up (byZero I r m n) r n (a_w8 0) = byZero I r m (n + 1) := by
  funext a j
  unfold a_up byZero
  by_cases c : a = r ∧ j = n
  · rw [if_pos c, if_pos (by omega)]; rfl
  · rw [if_neg c]
    by_cases c2 : a = r ∧ m ≤ j ∧ j < n
    · rw [if_pos c2, if_pos (by omega)]
    · rw [if_neg c2, if_neg (by omega)]
theorem byStretch_end {I : Nat → Int → Int} {b r : Nat} {i n : Int} (h : i = n ∨ i = I b 1) (h2 : n ≤ i) : a_up (byZero I r (I b 1) i) b 1 n = byStretch I b r n := by
  unfold byStretch
  congr 1
  rcases h with h | h
  · rw [h]
  · rw [h, byZero_0]
    funext a j
    unfold byZero
    rw [if_neg (by omega)]
theorem a_upto {p : Int → Prop} {i : Int} (h : ∀ j, 0 ≤ j → j < i → p j) (hi : p i) : ∀ j, 0 ≤ j → j < i + 1 → p j := by
  intro j h0 h1
  by_cases q : j = i
  · rw [q]; exact hi
  · exact h j h0 (by omega)
theorem ax_copy {l : Launch} {G : a_G} {M : a_M} {P : a_R → Hp → Prop} {pc : Nat} {lv : List (Nat × AV)} {st : List AV} {h : Hp} {I L : Nat → Int → Int} {i a b q : Nat} {n : Int} (hd : decode (a_cc M) pc = .ok (.invokestatic i, 3)) (hw : Cond.methodLink (a_ow M) i arraycopyName ∈ lw_tbl) (hq : q = 1 ∨ q = 2) (hka : hK h a = q) (hkb : hK h b = q) (ho : 12 ≤ b) (h0 : 0 ≤ n) (h1 : n ≤ hN h a) (h2 : n ≤ hN h b) (hfr : 1 ≤ a_fr M) (hlo : a_aw st + 18 ≤ a_lo M) (k : AW l G M P (pc + 3) lv st (sD h (byCopy I a b n) L)) : AW l G M P pc lv (vi n :: vi 0 :: vr b :: vi 0 :: vr a :: st) (sD h I L) := aw_copy hd hw hq hka hkb ho h0 h1 h2 hfr hlo k
set_option maxHeartbeats 4000000 in
set_option maxRecDepth 100000 in
theorem c_Jm_min {l : Launch} {G : a_G} {h : Hp} {x y z : Int} (hz : min x y = z) : AW l G M_Jm_min (Rx (some (vi z)) h) 0 (a_ar 0 [vi x, vi y]) [] (h) := by
  suffices key : ∀ P : a_R → Hp → Prop, (∀ u, u = z → P (.inl (some (vi u))) h) → AW l G M_Jm_min P 0 [(0, vi x), (1, vi y)] [] (h) from key _ (fun u e => ⟨by rw [e], rfl⟩)
  intro P hP
  refine aw_iload_n d_Jm_min_0 rfl rfl ?_
  refine aw_iload_n d_Jm_min_1 rfl rfl ?_
  refine aw_icmp_gt (tgt := 9) d_Jm_min_2 (by decide) (fun c_2 => ?_) (fun c_2 => ?_)
  · skip
    refine aw_iload_n d_Jm_min_9 rfl rfl ?_
    exact aw_iret d_Jm_min_10 rfl (hP _ (by omega))
  · skip
    refine aw_iload_n d_Jm_min_5 rfl rfl ?_
    refine aw_goto (tgt := 10) d_Jm_min_6 (by decide) ?_
    exact aw_iret d_Jm_min_10 rfl (hP _ (by omega))
set_option maxHeartbeats 4000000 in
set_option maxRecDepth 100000 in
theorem c_By_at {l : Launch} {G : a_G} {h : Hp} {I L : Nat → Int → Int} {b r : Nat} {i z : Int} (S : ByO h b r) (hc : I b 1 ≤ hN h r) (hz : byAt I b r i = z) : AW l G M_By_at (Rx (some (vi z)) (sD h I L)) 0 (a_ar 0 [vr b, vi i]) [] (sD h I L) := by
  suffices key : ∀ P : a_R → Hp → Prop, (∀ x, x = byAt I b r i → P (.inl (some (vi x))) (sD h I L)) → AW l G M_By_at P 0 [(0, vr b), (1, vi i)] [] (sD h I L) from key _ (fun x hx => ⟨by rw [hx, hz], rfl⟩)
  intro P hP
  refine aw_iload_n d_By_at_0 rfl rfl ?_
  refine aw_if_lt (tgt := 25) d_By_at_1 (by decide) (fun c_1 => ?_) (fun c_1 => ?_)
  · skip
    refine aw_iconst d_By_at_25 ⟨by decide, by decide⟩ ?_
    exact aw_iret d_By_at_26 rfl (hP _ ((if_neg (by omega)).symm))
  · skip
    refine aw_iload_n d_By_at_4 rfl rfl ?_
    refine aw_aload_n d_By_at_5 rfl rfl ?_
    refine ax_getIe (x := I b 1) d_By_at_6 fd_By_13 S.1 (rfl) ?_
    refine aw_icmp_ge (tgt := 25) d_By_at_9 (by decide) (fun c_9 => ?_) (fun c_9 => ?_)
    · skip
      refine aw_iconst d_By_at_25 ⟨by decide, by decide⟩ ?_
      exact aw_iret d_By_at_26 rfl (hP _ ((if_neg (by omega)).symm))
    · skip
      refine aw_aload_n d_By_at_12 rfl rfl ?_
      refine ax_getR (b := r) d_By_at_13 fd_By_7 S.1 S.2.1 ?_
      refine aw_iload_n d_By_at_16 rfl rfl ?_
      refine ax_balde (x := I r i) d_By_at_17 S.2.2.1 (by omega) (by omega) (rfl) ?_
      refine aw_sipush d_By_at_18 ⟨by decide, by decide⟩ (by decide) ?_
      refine aw_iand d_By_at_21 ?_
      refine ax_ti (x := (I r i) % 256) (a_and' 8 (by decide) (by decide) (by decide)) ?_
      refine aw_goto (tgt := 26) d_By_at_22 (by decide) ?_
      exact aw_iret d_By_at_26 rfl (hP _ ((if_pos ⟨by omega, by omega⟩).symm))
set_option maxHeartbeats 4000000 in
set_option maxRecDepth 100000 in
theorem c_By_clear {l : Launch} {G : a_G} {h : Hp} {I L : Nat → Int → Int} {b r : Nat} (S : ByO h b r) : AW l G M_By_clear (Rx none (sD h (a_up I b 1 0) L)) 0 (a_ar 0 [vr b]) [] (sD h I L) := by
  suffices key : ∀ P : a_R → Hp → Prop, (P (.inl none) (sD h (a_up I b 1 0) L)) → AW l G M_By_clear P 0 [(0, vr b)] [] (sD h I L) from key _ (⟨rfl, rfl⟩)
  intro P hP
  refine aw_aload_n d_By_clear_0 rfl rfl ?_
  refine aw_iconst d_By_clear_1 ⟨by decide, by decide⟩ ?_
  refine ax_putI d_By_clear_2 fd_By_13 S.1 S.2.2.2.1 rfl ?_
  exact aw_vret d_By_clear_5 rfl hP
set_option maxHeartbeats 4000000 in
set_option maxRecDepth 100000 in
theorem c_By_add {l : Launch} {G : a_G} {h : Hp} {I L : Nat → Int → Int} {b r : Nat} {v : Int} {J : Nat → Int → Int} (S : ByO h b r) (hc : 0 ≤ I b 1 ∧ I b 1 < hN h r ∧ hN h r < 2147483648) (hJ : byAdd I b r v = J) : AW l G M_By_add (Rx none (sD h J L)) 0 (a_ar 0 [vr b, vi v]) [] (sD h I L) := by
  suffices key : ∀ P : a_R → Hp → Prop, (∀ J, J = byAdd I b r v → P (.inl none) (sD h J L)) → AW l G M_By_add P 0 [(0, vr b), (1, vi v)] [] (sD h I L) from key _ (fun J e => ⟨rfl, by rw [e, hJ]⟩)
  intro P hP
  refine aw_aload_n d_By_add_0 rfl rfl ?_
  refine ax_getIe (x := I b 1) d_By_add_1 fd_By_13 S.1 (rfl) ?_
  refine aw_aload_n d_By_add_4 rfl rfl ?_
  refine ax_getR (b := r) d_By_add_5 fd_By_7 S.1 S.2.1 ?_
  refine ax_alen (n := hN h r) d_By_add_8 ⟨by rw [S.2.2.1]; decide, by rw [S.2.2.1]; decide⟩ (rfl) ?_
  refine aw_icmp_ge (tgt := 33) d_By_add_9 (by decide) (fun c_9 => False.elim (by omega)) (fun c_9 => ?_)
  refine aw_aload_n d_By_add_12 rfl rfl ?_
  refine ax_getR (b := r) d_By_add_13 fd_By_7 S.1 S.2.1 ?_
  refine aw_aload_n d_By_add_16 rfl rfl ?_
  refine ax_getIe (x := I b 1) d_By_add_17 fd_By_13 S.1 (rfl) ?_
  refine aw_iload_n d_By_add_20 rfl rfl ?_
  refine aw_i2b d_By_add_21 ?_
  refine ax_bast d_By_add_22 S.2.2.1 S.2.2.2.2.1 (by omega) (by omega) ?_
  refine aw_aload_n d_By_add_23 rfl rfl ?_
  refine aw_dup d_By_add_24 rfl ?_
  refine ax_getIe (x := I b 1) d_By_add_25 fd_By_13 S.1 (Eq.trans (a_up_ne (Or.inl (S.2.2.2.2.2))) (rfl)) ?_
  refine aw_iconst d_By_add_28 ⟨by decide, by decide⟩ ?_
  refine ax_iadd d_By_add_29 ⟨(by omega), (by omega)⟩ ?_
  refine ax_putI d_By_add_30 fd_By_13 S.1 S.2.2.2.1 rfl ?_
  exact aw_vret d_By_add_33 rfl (hP _ (by rw [a_w8w8]; rfl))
set_option maxHeartbeats 4000000 in
set_option maxRecDepth 100000 in
theorem c_By_addInt {l : Launch} {G : a_G} {h : Hp} {I L : Nat → Int → Int} {b r : Nat} {v : Int} (S : ByO h b r) (hc : 0 ≤ I b 1 ∧ I b 1 + 4 ≤ hN h r ∧ hN h r < 2147483648) (hv : okI v) : AW l G M_By_addInt (Rx none (sD h (byPut I b r 4 (fun k => v / 2 ^ (24 - 8 * k.toNat))) L)) 0 (a_ar 0 [vr b, vi v]) [] (sD h I L) := by
  suffices key : ∀ P : a_R → Hp → Prop, (P (.inl none) (sD h (byPut I b r 4 (fun k => v / 2 ^ (24 - 8 * k.toNat))) L)) → AW l G M_By_addInt P 0 [(0, vr b), (1, vi v)] [] (sD h I L) from key _ (⟨rfl, rfl⟩)
  intro P hP
  refine aw_bipush d_By_addInt_0 ⟨by decide, by decide⟩ (by decide) ?_
  refine aw_istore_n (lv' := [(2, vi 24), (0, vr b), (1, vi v)]) d_By_addInt_2 rfl (by decide) rfl ?_
  have lp_3 : ∀ (n_ : Nat) (s : Int) (m : Int), (s = 24 - 8 * m ∧ 0 ≤ m ∧ m ≤ 4) → ((4 - m).toNat) = n_ → AW l G M_By_addInt P 3 [(2, vi s), (1, vi v), (0, vr b)] [] (sD h (byPut I b r m (fun k => v / 2 ^ (24 - 8 * k.toNat))) L) := by
    intro n_
    induction n_ using Nat.strongRecOn with
    | _ n_ ih_3 =>
    intro s m hs hm_3
    refine aw_iload_n d_By_addInt_3 rfl rfl ?_
    refine aw_if_lt (tgt := 20) d_By_addInt_4 (by decide) (fun c_4 => ?_) (fun c_4 => ?_)
    · skip
      exact aw_vret d_By_addInt_20 rfl (by rw [show m = 4 by omega]; exact hP)
    · skip
      refine aw_aload_n d_By_addInt_7 rfl rfl ?_
      refine aw_iload_n d_By_addInt_8 rfl rfl ?_
      refine aw_iload_n d_By_addInt_9 rfl rfl ?_
      refine aw_ishr d_By_addInt_10 ?_
      refine ax_ti (x := v / 2 ^ (24 - 8 * m.toNat)) (a_shr' (24 - 8 * m.toNat) (by omega) rfl (by omega) hv) ?_
      refine ax_V (st := []) (as := [vi (v / 2 ^ (24 - 8 * m.toNat))]) (b := b) (v := none) (h' := sD h (byPut I b r (m + 1) (fun k => v / 2 ^ (24 - 8 * k.toNat))) L) d_By_addInt_11 cs_By_addInt_11 S.1 (c_By_add S (by rw [byPut_cnt]; omega) (byPut_1 (g := (fun k => v / 2 ^ (24 - 8 * k.toNat))) S.2.2.2.2.2 (by omega) rfl)) rfl rfl rfl ?_
      show AW l G M_By_addInt P 14 [(2, vi s), (1, vi v), (0, vr b)] [] (sD h (byPut I b r (m + 1) (fun k => v / 2 ^ (24 - 8 * k.toNat))) L)
      refine ax_iinc (lv' := [(2, vi (s + (-8))), (1, vi v), (0, vr b)]) d_By_addInt_14 rfl (by decide) ⟨(by omega), (by omega)⟩ rfl ?_
      refine aw_goto (tgt := 3) d_By_addInt_17 (by decide) ?_
      exact ih_3 _ (by omega) (s + (-8)) (m + 1) (by omega) rfl
  refine ax_hp (h' := sD h (byPut I b r 0 (fun k => v / 2 ^ (24 - 8 * k.toNat))) L) (by rw [byPut_0]) ?_
  refine aw_sub (lv' := [(2, vi 24), (1, vi v), (0, vr b)]) (by simp) ?_
  exact lp_3 _ 24 0 (by omega) rfl
set_option maxHeartbeats 4000000 in
set_option maxRecDepth 100000 in
theorem c_By_addAll {l : Launch} {G : a_G} {h : Hp} {I L : Nat → Int → Int} {b r : Nat} {b2 r2 : Nat} (S : ByO h b r) (S2 : ByO h b2 r2) (N : b2 ≠ b ∧ b2 ≠ r ∧ r2 ≠ b ∧ r2 ≠ r) (hc : 0 ≤ I b 1 ∧ I b 1 + I b2 1 ≤ hN h r ∧ hN h r < 2147483648 ∧ 0 ≤ I b2 1 ∧ I b2 1 ≤ hN h r2) : AW l G M_By_addAll (Rx none (sD h (byPut I b r (I b2 1) (byAt I b2 r2)) L)) 0 (a_ar 0 [vr b, vr b2]) [] (sD h I L) := by
  suffices key : ∀ P : a_R → Hp → Prop, (P (.inl none) (sD h (byPut I b r (I b2 1) (byAt I b2 r2)) L)) → AW l G M_By_addAll P 0 [(0, vr b), (1, vr b2)] [] (sD h I L) from key _ (⟨rfl, rfl⟩)
  intro P hP
  refine aw_iconst d_By_addAll_0 ⟨by decide, by decide⟩ ?_
  refine aw_istore_n (lv' := [(2, vi 0), (0, vr b), (1, vr b2)]) d_By_addAll_1 rfl (by decide) rfl ?_
  have lp_2 : ∀ (n_ : Nat) (i : Int), (0 ≤ i ∧ i ≤ I b2 1) → ((I b2 1 - i).toNat) = n_ → AW l G M_By_addAll P 2 [(2, vi i), (1, vr b2), (0, vr b)] [] (sD h (byPut I b r i (byAt I b2 r2)) L) := by
    intro n_
    induction n_ using Nat.strongRecOn with
    | _ n_ ih_2 =>
    intro i hi hm_2
    refine aw_iload_n d_By_addAll_2 rfl rfl ?_
    refine aw_aload_n d_By_addAll_3 rfl rfl ?_
    refine ax_getIe (x := I b2 1) d_By_addAll_4 fd_By_13 S2.1 (byPut_ne N.1 N.2.1) ?_
    refine aw_icmp_ge (tgt := 25) d_By_addAll_7 (by decide) (fun c_7 => ?_) (fun c_7 => ?_)
    · skip
      exact aw_vret d_By_addAll_25 rfl (by rw [show i = I b2 1 by omega]; exact hP)
    · skip
      refine aw_aload_n d_By_addAll_10 rfl rfl ?_
      refine aw_aload_n d_By_addAll_11 rfl rfl ?_
      refine aw_iload_n d_By_addAll_12 rfl rfl ?_
      refine ax_V (st := [vr b]) (as := [vi i]) (b := b2) (v := some (vi (byAt I b2 r2 i))) (h' := sD h (byPut I b r i (byAt I b2 r2)) L) d_By_addAll_13 cs_By_addAll_13 S2.1 (c_By_at S2 (by rw [byPut_ne N.1 N.2.1]; omega) (byAt_put N.1 N.2.1 N.2.2.1 N.2.2.2)) rfl rfl rfl ?_
      show AW l G M_By_addAll P 16 [(2, vi i), (1, vr b2), (0, vr b)] [vi (byAt I b2 r2 i), vr b] (sD h (byPut I b r i (byAt I b2 r2)) L)
      refine ax_V (st := []) (as := [vi (byAt I b2 r2 i)]) (b := b) (v := none) (h' := sD h (byPut I b r (i + 1) (byAt I b2 r2)) L) d_By_addAll_16 cs_By_addAll_16 S.1 (c_By_add S (by rw [byPut_cnt]; omega) (byPut_1 (g := byAt I b2 r2) S.2.2.2.2.2 (by omega) rfl)) rfl rfl rfl ?_
      show AW l G M_By_addAll P 19 [(2, vi i), (1, vr b2), (0, vr b)] [] (sD h (byPut I b r (i + 1) (byAt I b2 r2)) L)
      refine ax_iinc (lv' := [(2, vi (i + 1)), (1, vr b2), (0, vr b)]) d_By_addAll_19 rfl (by decide) ⟨(by omega), (by omega)⟩ rfl ?_
      refine aw_goto (tgt := 2) d_By_addAll_22 (by decide) ?_
      exact ih_2 _ (by omega) (i + 1) (by omega) rfl
  refine ax_hp (h' := sD h (byPut I b r 0 (byAt I b2 r2)) L) (by rw [byPut_0]) ?_
  refine aw_sub (lv' := [(2, vi 0), (1, vr b2), (0, vr b)]) (by simp) ?_
  exact lp_2 _ 0 (by omega) rfl
set_option maxHeartbeats 4000000 in
set_option maxRecDepth 100000 in
theorem c_By_become {l : Launch} {G : a_G} {h : Hp} {I L : Nat → Int → Int} {b r : Nat} {b2 r2 : Nat} {n : Int} (S : ByO h b r) (S2 : ByO h b2 r2) (hc : 0 ≤ n ∧ n ≤ I b2 1 ∧ I b2 1 ≤ hN h r2 ∧ n ≤ hN h r) : AW l G M_By_become (Rx none (sD h (byBecome I b r r2 n) L)) 0 (a_ar 0 [vr b, vr b2, vi n]) [] (sD h I L) := by
  suffices key : ∀ P : a_R → Hp → Prop, (P (.inl none) (sD h (byBecome I b r r2 n) L)) → AW l G M_By_become P 0 [(0, vr b), (1, vr b2), (2, vi n)] [] (sD h I L) from key _ (⟨rfl, rfl⟩)
  intro P hP
  refine aw_iload_n d_By_become_0 rfl rfl ?_
  refine aw_aload_n d_By_become_1 rfl rfl ?_
  refine ax_getIe (x := I b2 1) d_By_become_2 fd_By_13 S2.1 (rfl) ?_
  refine ax_S (st := []) (as := [vi n, vi (I b2 1)]) (v := some (vi n)) (h' := sD h I L) d_By_become_5 cs_By_become_5 (c_Jm_min (z := n) (by omega)) rfl rfl rfl ?_
  show AW l G M_By_become P 8 [(0, vr b), (1, vr b2), (2, vi n)] [vi n] (sD h I L)
  refine aw_aload_n d_By_become_8 rfl rfl ?_
  refine ax_getR (b := r) d_By_become_9 fd_By_7 S.1 S.2.1 ?_
  refine ax_alen (n := hN h r) d_By_become_12 ⟨by rw [S.2.2.1]; decide, by rw [S.2.2.1]; decide⟩ (rfl) ?_
  refine ax_S (st := []) (as := [vi n, vi (hN h r)]) (v := some (vi n)) (h' := sD h I L) d_By_become_13 cs_By_become_13 (c_Jm_min (z := n) (by omega)) rfl rfl rfl ?_
  show AW l G M_By_become P 16 [(0, vr b), (1, vr b2), (2, vi n)] [vi n] (sD h I L)
  refine aw_istore_n (lv' := [(3, vi n), (0, vr b), (1, vr b2), (2, vi n)]) d_By_become_16 rfl (by decide) rfl ?_
  refine aw_aload_n d_By_become_17 rfl rfl ?_
  refine ax_getR (b := r2) d_By_become_18 fd_By_7 S2.1 S2.2.1 ?_
  refine aw_iconst d_By_become_21 ⟨by decide, by decide⟩ ?_
  refine aw_aload_n d_By_become_22 rfl rfl ?_
  refine ax_getR (b := r) d_By_become_23 fd_By_7 S.1 S.2.1 ?_
  refine aw_iconst d_By_become_26 ⟨by decide, by decide⟩ ?_
  refine aw_iload_n d_By_become_27 rfl rfl ?_
  refine ax_copy d_By_become_28 ml_By_31 (Or.inr rfl) S2.2.2.1 S.2.2.1 S.2.2.2.2.1 (by omega) (by omega) (by omega) (by decide) (by decide) ?_
  show AW l G M_By_become P 31 [(3, vi n), (0, vr b), (1, vr b2), (2, vi n)] [] (sD h (byCopy I r2 r n) L)
  refine aw_aload_n d_By_become_31 rfl rfl ?_
  refine aw_iload_n d_By_become_32 rfl rfl ?_
  refine ax_putI d_By_become_33 fd_By_13 S.1 S.2.2.2.1 rfl ?_
  exact aw_vret d_By_become_36 rfl hP
set_option maxHeartbeats 4000000 in
set_option maxRecDepth 100000 in
theorem c_By_stretch {l : Launch} {G : a_G} {h : Hp} {I L : Nat → Int → Int} {b r : Nat} {n : Int} (S : ByO h b r) (hc : 0 ≤ I b 1 ∧ 0 ≤ n ∧ n ≤ hN h r ∧ hN h r < 2147483648) : AW l G M_By_stretch (Rx none (sD h (byStretch I b r n) L)) 0 (a_ar 0 [vr b, vi n]) [] (sD h I L) := by
  suffices key : ∀ P : a_R → Hp → Prop, (∀ J, J = byStretch I b r n → P (.inl none) (sD h J L)) → AW l G M_By_stretch P 0 [(0, vr b), (1, vi n)] [] (sD h I L) from key _ (fun J e => ⟨rfl, by rw [e]⟩)
  intro P hP
  refine aw_iload_n d_By_stretch_0 rfl rfl ?_
  refine aw_aload_n d_By_stretch_1 rfl rfl ?_
  refine ax_getR (b := r) d_By_stretch_2 fd_By_7 S.1 S.2.1 ?_
  refine ax_alen (n := hN h r) d_By_stretch_5 ⟨by rw [S.2.2.1]; decide, by rw [S.2.2.1]; decide⟩ (rfl) ?_
  refine ax_S (st := []) (as := [vi n, vi (hN h r)]) (v := some (vi n)) (h' := sD h I L) d_By_stretch_6 cs_By_stretch_6 (c_Jm_min (z := n) (by omega)) rfl rfl rfl ?_
  show AW l G M_By_stretch P 9 [(0, vr b), (1, vi n)] [vi n] (sD h I L)
  refine aw_istore_n (lv' := [(2, vi n), (0, vr b), (1, vi n)]) d_By_stretch_9 rfl (by decide) rfl ?_
  refine aw_aload_n d_By_stretch_10 rfl rfl ?_
  refine ax_getIe (x := I b 1) d_By_stretch_11 fd_By_13 S.1 (rfl) ?_
  refine aw_istore_n (lv' := [(3, vi (I b 1)), (2, vi n), (0, vr b), (1, vi n)]) d_By_stretch_14 rfl (by decide) rfl ?_
  have lp_15 : ∀ (n_ : Nat) (i : Int), (I b 1 ≤ i ∧ (i ≤ n ∨ i = I b 1)) → ((n - i).toNat) = n_ → AW l G M_By_stretch P 15 [(3, vi i), (2, vi n), (1, vi n), (0, vr b)] [] (sD h (byZero I r (I b 1) i) L) := by
    intro n_
    induction n_ using Nat.strongRecOn with
    | _ n_ ih_15 =>
    intro i hi hm_15
    refine aw_iload_n d_By_stretch_15 rfl rfl ?_
    refine aw_iload_n d_By_stretch_16 rfl rfl ?_
    refine aw_icmp_ge (tgt := 33) d_By_stretch_17 (by decide) (fun c_17 => ?_) (fun c_17 => ?_)
    · skip
      refine aw_aload_n d_By_stretch_33 rfl rfl ?_
      refine aw_iload_n d_By_stretch_34 rfl rfl ?_
      refine ax_putI d_By_stretch_35 fd_By_13 S.1 S.2.2.2.1 rfl ?_
      exact aw_vret d_By_stretch_38 rfl (hP _ (byStretch_end (by omega) (by omega)))
    · skip
      refine aw_aload_n d_By_stretch_20 rfl rfl ?_
      refine ax_getR (b := r) d_By_stretch_21 fd_By_7 S.1 S.2.1 ?_
      refine aw_iload_n d_By_stretch_24 rfl rfl ?_
      refine aw_iconst d_By_stretch_25 ⟨by decide, by decide⟩ ?_
      refine ax_bast d_By_stretch_26 S.2.2.1 S.2.2.2.2.1 (by omega) (by omega) ?_
      rw [byZero_1 (by omega)]
      refine ax_iinc (lv' := [(3, vi (i + 1)), (2, vi n), (1, vi n), (0, vr b)]) d_By_stretch_27 rfl (by decide) ⟨(by omega), (by omega)⟩ rfl ?_
      refine aw_goto (tgt := 15) d_By_stretch_30 (by decide) ?_
      exact ih_15 _ (by omega) (i + 1) (by omega) rfl
  refine ax_hp (h' := sD h (byZero I r (I b 1) (I b 1)) L) (by rw [byZero_0]) ?_
  refine aw_sub (lv' := [(3, vi (I b 1)), (2, vi n), (1, vi n), (0, vr b)]) (by simp) ?_
  exact lp_15 _ (I b 1) (by omega) rfl
set_option maxHeartbeats 4000000 in
set_option maxRecDepth 100000 in
theorem c_By_matches {l : Launch} {G : a_G} {h : Hp} {I L : Nat → Int → Int} {b r : Nat} {b2 r2 : Nat} {n : Int} (S : ByO h b r) (S2 : ByO h b2 r2) (hc : I b 1 ≤ hN h r ∧ I b2 1 ≤ hN h r2) (hn : n < 2147483648) : AW l G M_By_matches (Ret (fun u : Int => some (vi u)) (fun _ => sD h I L) (fun u => (u = 0 ∨ u = 1) ∧ (u = 1 ↔ ∀ j, 0 ≤ j → j < n → byAt I b r j = byAt I b2 r2 j))) 0 (a_ar 0 [vr b, vr b2, vi n]) [] (sD h I L) := by
  suffices key : ∀ P : a_R → Hp → Prop, (∀ u : Int, (u = 0 ∨ u = 1) → (u = 1 ↔ ∀ j, 0 ≤ j → j < n → byAt I b r j = byAt I b2 r2 j) → P (.inl (some (vi u))) (sD h I L)) → AW l G M_By_matches P 0 [(0, vr b), (1, vr b2), (2, vi n)] [] (sD h I L) from key _ (fun u q1 q2 => ⟨u, rfl, rfl, q1, q2⟩)
  intro P hP
  refine aw_iconst d_By_matches_0 ⟨by decide, by decide⟩ ?_
  refine aw_istore_n (lv' := [(3, vi 0), (0, vr b), (1, vr b2), (2, vi n)]) d_By_matches_1 rfl (by decide) rfl ?_
  have lp_2 : ∀ (n_ : Nat) (i : Int), (0 ≤ i) → (∀ j, 0 ≤ j → j < i → byAt I b r j = byAt I b2 r2 j) → ((n - i).toNat) = n_ → AW l G M_By_matches P 2 [(3, vi i), (2, vi n), (1, vr b2), (0, vr b)] [] (sD h I L) := by
    intro n_
    induction n_ using Nat.strongRecOn with
    | _ n_ ih_2 =>
    intro i hi ha hm_2
    refine aw_iload_n d_By_matches_2 rfl rfl ?_
    refine aw_iload_n d_By_matches_3 rfl rfl ?_
    refine aw_icmp_ge (tgt := 28) d_By_matches_4 (by decide) (fun c_4 => ?_) (fun c_4 => ?_)
    · skip
      refine aw_iconst d_By_matches_28 ⟨by decide, by decide⟩ ?_
      exact aw_zret d_By_matches_29 rfl ⟨by decide, by decide⟩ (hP _ (Or.inr rfl) ⟨fun _ j a b => ha j a (by omega), fun _ => rfl⟩)
    · skip
      refine aw_aload_n d_By_matches_7 rfl rfl ?_
      refine aw_iload_n d_By_matches_8 rfl rfl ?_
      refine ax_V (st := []) (as := [vi i]) (b := b) (v := some (vi (byAt I b r i))) (h' := sD h I L) d_By_matches_9 cs_By_matches_9 S.1 (c_By_at S hc.1 rfl) rfl rfl rfl ?_
      show AW l G M_By_matches P 12 [(3, vi i), (2, vi n), (1, vr b2), (0, vr b)] [vi (byAt I b r i)] (sD h I L)
      refine aw_aload_n d_By_matches_12 rfl rfl ?_
      refine aw_iload_n d_By_matches_13 rfl rfl ?_
      refine ax_V (st := [vi (byAt I b r i)]) (as := [vi i]) (b := b2) (v := some (vi (byAt I b2 r2 i))) (h' := sD h I L) d_By_matches_14 cs_By_matches_14 S2.1 (c_By_at S2 hc.2 rfl) rfl rfl rfl ?_
      show AW l G M_By_matches P 17 [(3, vi i), (2, vi n), (1, vr b2), (0, vr b)] [vi (byAt I b2 r2 i), vi (byAt I b r i)] (sD h I L)
      refine aw_icmp_eq (tgt := 22) d_By_matches_17 (by decide) (fun c_17 => ?_) (fun c_17 => ?_)
      · skip
        refine ax_iinc (lv' := [(3, vi (i + 1)), (2, vi n), (1, vr b2), (0, vr b)]) d_By_matches_22 rfl (by decide) ⟨(by omega), (by omega)⟩ rfl ?_
        refine aw_goto (tgt := 2) d_By_matches_25 (by decide) ?_
        exact ih_2 _ (by omega) (i + 1) (by omega) (a_upto ha c_17) rfl
      · skip
        refine aw_iconst d_By_matches_20 ⟨by decide, by decide⟩ ?_
        exact aw_zret d_By_matches_21 rfl ⟨by decide, by decide⟩ (hP _ (Or.inl rfl) ⟨fun q => absurd q (by decide), fun q => absurd (q i hi (by omega)) c_17⟩)
  refine aw_sub (lv' := [(3, vi 0), (2, vi n), (1, vr b2), (0, vr b)]) (by simp) ?_
  exact lp_2 _ 0 (by omega) (fun j a b => by omega) rfl
