/-! the class's bench: products, hashes, masks -/
theorem mS_congr {I K : Nat → Int → Int} {s i : Int} : ∀ n : Nat, (∀ k : Nat, k < n → K (45 + (s + k).toNat) i = I (45 + (s + k).toNat) i) → (∀ k : Nat, k < n → K (119 + k) i = I (119 + k) i) → mS K s i n = mS I s i n
  | 0, _, _ => rfl
  | n + 1, h1, h2 => by
    show mS K s i n + _ = mS I s i n + _
    rw [mS_congr n (fun k hk => h1 k (by omega)) (fun k hk => h2 k (by omega)), h1 n (by omega), h2 n (by omega)]
theorem gv_at {I I' : Nat → Int → Int} {b r : Nat} {n : Int} {s : Sp} (h : ∀ a j, a ≠ 38 → I' a j = byPut (a_up I b 1 0) b r n (spOut s) a j) (hb : b ≠ 38) (hr : r ≠ 38) (hbr : b ≠ r) : I' b 1 = n ∧ ∀ k, 0 ≤ k → k < n → byAt I' b r k = spOut s k := by
  have e1 : I' b 1 = n := by rw [h b 1 hb, byPut_cnt, a_up_at]; omega
  refine ⟨e1, fun k k0 k1 => ?_⟩
  unfold byAt
  rw [e1, if_pos ⟨k0, k1⟩, h r k hr, byPut_row hbr, a_up_at, if_pos (by omega), a_m8w, show k - 0 = k by omega]
  exact Int.emod_eq_of_lt (spGet_lt _).1 (spGet_lt _).2
theorem gv_fc {I L I' L' : Nat → Int → Int} {b r : Nat} {n : Int} {s : Sp} (h : ∀ a j, a ≠ 38 → I' a j = byPut (a_up I b 1 0) b r n (spOut s) a j) (h2 : ∀ a j, a ≠ 39 → a ≠ 40 → a ≠ 41 → L' a j = L a j) : FC (fun a => a = 38 ∨ a = b ∨ a = r) I L I' L' := ⟨fun a j x => by rw [h a j (fun e => x (Or.inl e)), byPut_ne (fun e => x (Or.inr (Or.inl e))) (fun e => x (Or.inr (Or.inr e))), a_up_ne (Or.inl (fun e => x (Or.inr (Or.inl e))))], h2⟩
theorem gR_congr {g g' : Int → Int} {w : Nat} {j : Int} (h : ∀ k, 0 ≤ k → k < 32 * (w : Int) → g k = g' k) : gR g w j = gR g' w j := by
  unfold gR
  rw [bV_congr (fun i hi => h i (by omega) (by omega))]
theorem gR_b {g : Int → Int} {w : Nat} {j : Int} (hw : w ≤ 20) : 0 ≤ gR g w j ∧ gR g w j < 1048576 := by
  have := p2le (a := w) (b := 20) hw
  have h1 := Int.emod_nonneg (bV g 8 (32 * w) / 2 ^ (w * j.toNat)) (Int.ne_of_gt (p2pos w))
  have h2 := Int.emod_lt_of_pos (bV g 8 (32 * w) / 2 ^ (w * j.toNat)) (p2pos w)
  unfold gR
  omega
def dgS (gk : Int → Int) (how : Int) (gc : Int → Int) (nc : Int) (gm : Int → Int) (nm : Int) : Sp := spTurn (spPart (if how = 0 then spPart (spTake (spTake (spPart (spStart 136) gk 64) 0) nc) gc nc.toNat else spPart (spStart 136) gk 64) gm nm.toNat)
theorem dgS_0 {gk gc gm : Int → Int} {nc nm : Int} : dgS gk 0 gc nc gm nm = spTurn (spPart (spPart (spTake (spTake (spPart (spStart 136) gk 64) 0) nc) gc nc.toNat) gm nm.toNat) := by
  unfold dgS
  rw [if_pos rfl]
theorem dgS_n {gk gc gm : Int → Int} {nc nm : Int} : dgS gk (-1) gc nc gm nm = spTurn (spPart (spPart (spStart 136) gk 64) gm nm.toNat) := by
  unfold dgS
  rw [if_neg (by decide)]
def hhS (gd gp : Int → Int) (n : Int) : Sp := spTurn (spPart (spPart (spStart 136) gd 64) gp n.toNat)
set_option maxHeartbeats 800000 in
set_option maxRecDepth 100000 in
theorem c_Be_multiplyMatrix0 {l : Launch} {G : a_G} {h : Hp} {I L : Nat → Int → Int} (S : Shp h) (SD : Std I L) (q1 : ∀ m : Nat, m < 16 → inQ (I (45 + m))) (q2 : ∀ m : Nat, m < 4 → inQ (I (119 + m))) : AW l G M_Be_multiplyMatrix (Ret (fun _ : Nat → Int → Int => none) (fun K => sD h K L) (fun K => FC (fun a => 127 ≤ a ∧ a ≤ 134) I L K L ∧ ∀ m, 0 ≤ m → m < 4 → ∀ c, 0 ≤ c → c < 256 → K (127 + m.toNat) c = mS I (m * 4) c 4 % 8380417)) 0 (a_ar 0 [vr 36, vr 33]) [] (sD h I L) := by
  suffices key : ∀ P : a_R → Hp → Prop, (∀ K : Nat → Int → Int, FC (fun a => 127 ≤ a ∧ a ≤ 134) I L K L → (∀ m, 0 ≤ m → m < 4 → ∀ c, 0 ≤ c → c < 256 → K (127 + m.toNat) c = mS I (m * 4) c 4 % 8380417) → P (.inl none) (sD h K L)) → AW l G M_Be_multiplyMatrix P 0 [(0, vr 36), (1, vr 33)] [] (sD h I L) from key _ (fun K q1 q2 => ⟨K, rfl, rfl, q1, q2⟩)
  intro P hP
  refine aw_iconst d_Be_multiplyMatrix_0 ⟨by decide, by decide⟩ ?_
  refine aw_istore_n (lv' := [(2, vi 0), (0, vr 36), (1, vr 33)]) d_Be_multiplyMatrix_1 rfl (by decide) rfl ?_
  have lp_2 : ∀ (n_ : Nat) (i : Int) (K : Nat → Int → Int), (0 ≤ i ∧ i ≤ 4) → (FC (fun a => 127 ≤ a ∧ a ≤ 134) I L K L) → (∀ m, 0 ≤ m → m < i → ∀ c, 0 ≤ c → c < 256 → K (127 + m.toNat) c = mS I (m * 4) c 4 % 8380417) → ((4 - i).toNat) = n_ → AW l G M_Be_multiplyMatrix P 2 [(2, vi i), (1, vr 33), (0, vr 36)] [] (sD h K L) := by
    intro n_
    induction n_ using Nat.strongRecOn with
    | _ n_ ih_2 =>
    intro i K hi F gg hm_2
    refine aw_iload_n d_Be_multiplyMatrix_2 rfl rfl ?_
    refine aw_aload_n d_Be_multiplyMatrix_3 rfl rfl ?_
    refine ax_getIe (x := 4) d_Be_multiplyMatrix_4 fd_Be_69 (k_33 S) (Eq.trans (F.1 33 0 (by omega)) (pc_33_0 SD.2.1)) ?_
    refine aw_icmp_ge (tgt := 43) d_Be_multiplyMatrix_7 (by decide) (fun c_7 => ?_) (fun c_7 => ?_)
    · skip
      exact aw_vret d_Be_multiplyMatrix_43 rfl (hP K F (fun m a b => gg m a (by omega)))
    · skip
      refine aw_aload_n d_Be_multiplyMatrix_10 rfl rfl ?_
      refine ax_getR (b := 44) d_Be_multiplyMatrix_11 fd_Be_32 (k_36 S) (r_36_3 S) ?_
      refine aw_iload_n d_Be_multiplyMatrix_14 rfl rfl ?_
      refine aw_aload_n d_Be_multiplyMatrix_15 rfl rfl ?_
      refine ax_getIe (x := 4) d_Be_multiplyMatrix_16 fd_Be_75 (k_33 S) (Eq.trans (F.1 33 1 (by omega)) (pc_33_1 SD.2.1)) ?_
      refine ax_imul d_Be_multiplyMatrix_19 ⟨(by omega), (by omega)⟩ ?_
      refine aw_aload_n d_Be_multiplyMatrix_20 rfl rfl ?_
      refine ax_getR (b := 118) d_Be_multiplyMatrix_21 fd_Be_41 (k_36 S) (r_36_6 S) ?_
      refine aw_aload_n d_Be_multiplyMatrix_24 rfl rfl ?_
      refine ax_getIe (x := 4) d_Be_multiplyMatrix_25 fd_Be_75 (k_33 S) (Eq.trans (F.1 33 1 (by omega)) (pc_33_1 SD.2.1)) ?_
      refine aw_aload_n d_Be_multiplyMatrix_28 rfl rfl ?_
      refine ax_getR (b := 126) d_Be_multiplyMatrix_29 fd_Be_44 (k_36 S) (r_36_7 S) ?_
      refine aw_iload_n d_Be_multiplyMatrix_32 rfl rfl ?_
      refine ax_aald (b := 127 + i.toNat) d_Be_multiplyMatrix_33 ⟨by rw [(k_126 S)]; decide, by rw [(k_126 S)]; decide⟩ (by omega) (by rw [n_126 S]; omega) (g_126 S (by omega) (by omega)) ?_
      refine ax_S (st := []) (as := [vr 44, vi (i * 4), vr 118, vi 4, vr (127 + i.toNat)]) (v := none) (h' := sD h (rowTo K (127 + i.toNat) 256 (fun j => mS K (i * 4) j 4 % 8380417)) L) d_Be_multiplyMatrix_34 cs_Be_multiplyMatrix_34 (c_Ri_multiplyRows (n := 4) S ⟨kr_126 S (by omega), by omega, nr_126 S (by omega)⟩ (by omega) (fun n hn j x y => by rw [F.1 _ _ (by omega)]; exact q1 _ (by omega) j x y) (fun n hn j x y => by rw [F.1 _ _ (by omega)]; exact q2 n hn j x y)) rfl rfl rfl ?_
      show AW l G M_Be_multiplyMatrix P 37 [(2, vi i), (1, vr 33), (0, vr 36)] [] (sD h (rowTo K (127 + i.toNat) 256 (fun j => mS K (i * 4) j 4 % 8380417)) L)
      refine ax_iinc (lv' := [(2, vi (i + 1)), (1, vr 33), (0, vr 36)]) d_Be_multiplyMatrix_37 rfl (by decide) ⟨(by omega), (by omega)⟩ rfl ?_
      refine aw_goto (tgt := 2) d_Be_multiplyMatrix_40 (by decide) ?_
      exact ih_2 _ (by omega) (i + 1) (rowTo K (127 + i.toNat) 256 (fun j => mS K (i * 4) j 4 % 8380417)) (by omega) (F.tr (FC.row (p := fun a => 127 ≤ a ∧ a ≤ 134) (by omega)) (fun a x => ⟨x, x⟩)) (fun m a b c x y => by by_cases z : m = i; exact (by rw [z, rowTo_in x y, mS_congr 4 (fun n hn => F.1 _ _ (by omega)) (fun n hn => F.1 _ _ (by omega))]); exact (by rw [rowTo_ne (by omega)]; exact gg m a (by omega) c x y)) rfl
  skip
  refine aw_sub (lv' := [(2, vi 0), (1, vr 33), (0, vr 36)]) (by simp) ?_
  exact lp_2 _ 0 I (by omega) (FC.rfl') (fun m a b => by omega) rfl
set_option maxHeartbeats 800000 in
set_option maxRecDepth 100000 in
theorem c_Be_multiplyMatrix1 {l : Launch} {G : a_G} {h : Hp} {I L : Nat → Int → Int} (S : Shp h) (SD : Std I L) (q1 : ∀ m : Nat, m < 30 → inQ (I (45 + m))) (q2 : ∀ m : Nat, m < 5 → inQ (I (119 + m))) : AW l G M_Be_multiplyMatrix (Ret (fun _ : Nat → Int → Int => none) (fun K => sD h K L) (fun K => FC (fun a => 127 ≤ a ∧ a ≤ 134) I L K L ∧ ∀ m, 0 ≤ m → m < 6 → ∀ c, 0 ≤ c → c < 256 → K (127 + m.toNat) c = mS I (m * 5) c 5 % 8380417)) 0 (a_ar 0 [vr 36, vr 34]) [] (sD h I L) := by
  suffices key : ∀ P : a_R → Hp → Prop, (∀ K : Nat → Int → Int, FC (fun a => 127 ≤ a ∧ a ≤ 134) I L K L → (∀ m, 0 ≤ m → m < 6 → ∀ c, 0 ≤ c → c < 256 → K (127 + m.toNat) c = mS I (m * 5) c 5 % 8380417) → P (.inl none) (sD h K L)) → AW l G M_Be_multiplyMatrix P 0 [(0, vr 36), (1, vr 34)] [] (sD h I L) from key _ (fun K q1 q2 => ⟨K, rfl, rfl, q1, q2⟩)
  intro P hP
  refine aw_iconst d_Be_multiplyMatrix_0 ⟨by decide, by decide⟩ ?_
  refine aw_istore_n (lv' := [(2, vi 0), (0, vr 36), (1, vr 34)]) d_Be_multiplyMatrix_1 rfl (by decide) rfl ?_
  have lp_2 : ∀ (n_ : Nat) (i : Int) (K : Nat → Int → Int), (0 ≤ i ∧ i ≤ 6) → (FC (fun a => 127 ≤ a ∧ a ≤ 134) I L K L) → (∀ m, 0 ≤ m → m < i → ∀ c, 0 ≤ c → c < 256 → K (127 + m.toNat) c = mS I (m * 5) c 5 % 8380417) → ((6 - i).toNat) = n_ → AW l G M_Be_multiplyMatrix P 2 [(2, vi i), (1, vr 34), (0, vr 36)] [] (sD h K L) := by
    intro n_
    induction n_ using Nat.strongRecOn with
    | _ n_ ih_2 =>
    intro i K hi F gg hm_2
    refine aw_iload_n d_Be_multiplyMatrix_2 rfl rfl ?_
    refine aw_aload_n d_Be_multiplyMatrix_3 rfl rfl ?_
    refine ax_getIe (x := 6) d_Be_multiplyMatrix_4 fd_Be_69 (k_34 S) (Eq.trans (F.1 34 0 (by omega)) (pc_34_0 SD.2.1)) ?_
    refine aw_icmp_ge (tgt := 43) d_Be_multiplyMatrix_7 (by decide) (fun c_7 => ?_) (fun c_7 => ?_)
    · skip
      exact aw_vret d_Be_multiplyMatrix_43 rfl (hP K F (fun m a b => gg m a (by omega)))
    · skip
      refine aw_aload_n d_Be_multiplyMatrix_10 rfl rfl ?_
      refine ax_getR (b := 44) d_Be_multiplyMatrix_11 fd_Be_32 (k_36 S) (r_36_3 S) ?_
      refine aw_iload_n d_Be_multiplyMatrix_14 rfl rfl ?_
      refine aw_aload_n d_Be_multiplyMatrix_15 rfl rfl ?_
      refine ax_getIe (x := 5) d_Be_multiplyMatrix_16 fd_Be_75 (k_34 S) (Eq.trans (F.1 34 1 (by omega)) (pc_34_1 SD.2.1)) ?_
      refine ax_imul d_Be_multiplyMatrix_19 ⟨(by omega), (by omega)⟩ ?_
      refine aw_aload_n d_Be_multiplyMatrix_20 rfl rfl ?_
      refine ax_getR (b := 118) d_Be_multiplyMatrix_21 fd_Be_41 (k_36 S) (r_36_6 S) ?_
      refine aw_aload_n d_Be_multiplyMatrix_24 rfl rfl ?_
      refine ax_getIe (x := 5) d_Be_multiplyMatrix_25 fd_Be_75 (k_34 S) (Eq.trans (F.1 34 1 (by omega)) (pc_34_1 SD.2.1)) ?_
      refine aw_aload_n d_Be_multiplyMatrix_28 rfl rfl ?_
      refine ax_getR (b := 126) d_Be_multiplyMatrix_29 fd_Be_44 (k_36 S) (r_36_7 S) ?_
      refine aw_iload_n d_Be_multiplyMatrix_32 rfl rfl ?_
      refine ax_aald (b := 127 + i.toNat) d_Be_multiplyMatrix_33 ⟨by rw [(k_126 S)]; decide, by rw [(k_126 S)]; decide⟩ (by omega) (by rw [n_126 S]; omega) (g_126 S (by omega) (by omega)) ?_
      refine ax_S (st := []) (as := [vr 44, vi (i * 5), vr 118, vi 5, vr (127 + i.toNat)]) (v := none) (h' := sD h (rowTo K (127 + i.toNat) 256 (fun j => mS K (i * 5) j 5 % 8380417)) L) d_Be_multiplyMatrix_34 cs_Be_multiplyMatrix_34 (c_Ri_multiplyRows (n := 5) S ⟨kr_126 S (by omega), by omega, nr_126 S (by omega)⟩ (by omega) (fun n hn j x y => by rw [F.1 _ _ (by omega)]; exact q1 _ (by omega) j x y) (fun n hn j x y => by rw [F.1 _ _ (by omega)]; exact q2 n hn j x y)) rfl rfl rfl ?_
      show AW l G M_Be_multiplyMatrix P 37 [(2, vi i), (1, vr 34), (0, vr 36)] [] (sD h (rowTo K (127 + i.toNat) 256 (fun j => mS K (i * 5) j 5 % 8380417)) L)
      refine ax_iinc (lv' := [(2, vi (i + 1)), (1, vr 34), (0, vr 36)]) d_Be_multiplyMatrix_37 rfl (by decide) ⟨(by omega), (by omega)⟩ rfl ?_
      refine aw_goto (tgt := 2) d_Be_multiplyMatrix_40 (by decide) ?_
      exact ih_2 _ (by omega) (i + 1) (rowTo K (127 + i.toNat) 256 (fun j => mS K (i * 5) j 5 % 8380417)) (by omega) (F.tr (FC.row (p := fun a => 127 ≤ a ∧ a ≤ 134) (by omega)) (fun a x => ⟨x, x⟩)) (fun m a b c x y => by by_cases z : m = i; exact (by rw [z, rowTo_in x y, mS_congr 5 (fun n hn => F.1 _ _ (by omega)) (fun n hn => F.1 _ _ (by omega))]); exact (by rw [rowTo_ne (by omega)]; exact gg m a (by omega) c x y)) rfl
  skip
  refine aw_sub (lv' := [(2, vi 0), (1, vr 34), (0, vr 36)]) (by simp) ?_
  exact lp_2 _ 0 I (by omega) (FC.rfl') (fun m a b => by omega) rfl
set_option maxHeartbeats 800000 in
set_option maxRecDepth 100000 in
theorem c_Be_multiplyMatrix2 {l : Launch} {G : a_G} {h : Hp} {I L : Nat → Int → Int} (S : Shp h) (SD : Std I L) (q1 : ∀ m : Nat, m < 56 → inQ (I (45 + m))) (q2 : ∀ m : Nat, m < 7 → inQ (I (119 + m))) : AW l G M_Be_multiplyMatrix (Ret (fun _ : Nat → Int → Int => none) (fun K => sD h K L) (fun K => FC (fun a => 127 ≤ a ∧ a ≤ 134) I L K L ∧ ∀ m, 0 ≤ m → m < 8 → ∀ c, 0 ≤ c → c < 256 → K (127 + m.toNat) c = mS I (m * 7) c 7 % 8380417)) 0 (a_ar 0 [vr 36, vr 35]) [] (sD h I L) := by
  suffices key : ∀ P : a_R → Hp → Prop, (∀ K : Nat → Int → Int, FC (fun a => 127 ≤ a ∧ a ≤ 134) I L K L → (∀ m, 0 ≤ m → m < 8 → ∀ c, 0 ≤ c → c < 256 → K (127 + m.toNat) c = mS I (m * 7) c 7 % 8380417) → P (.inl none) (sD h K L)) → AW l G M_Be_multiplyMatrix P 0 [(0, vr 36), (1, vr 35)] [] (sD h I L) from key _ (fun K q1 q2 => ⟨K, rfl, rfl, q1, q2⟩)
  intro P hP
  refine aw_iconst d_Be_multiplyMatrix_0 ⟨by decide, by decide⟩ ?_
  refine aw_istore_n (lv' := [(2, vi 0), (0, vr 36), (1, vr 35)]) d_Be_multiplyMatrix_1 rfl (by decide) rfl ?_
  have lp_2 : ∀ (n_ : Nat) (i : Int) (K : Nat → Int → Int), (0 ≤ i ∧ i ≤ 8) → (FC (fun a => 127 ≤ a ∧ a ≤ 134) I L K L) → (∀ m, 0 ≤ m → m < i → ∀ c, 0 ≤ c → c < 256 → K (127 + m.toNat) c = mS I (m * 7) c 7 % 8380417) → ((8 - i).toNat) = n_ → AW l G M_Be_multiplyMatrix P 2 [(2, vi i), (1, vr 35), (0, vr 36)] [] (sD h K L) := by
    intro n_
    induction n_ using Nat.strongRecOn with
    | _ n_ ih_2 =>
    intro i K hi F gg hm_2
    refine aw_iload_n d_Be_multiplyMatrix_2 rfl rfl ?_
    refine aw_aload_n d_Be_multiplyMatrix_3 rfl rfl ?_
    refine ax_getIe (x := 8) d_Be_multiplyMatrix_4 fd_Be_69 (k_35 S) (Eq.trans (F.1 35 0 (by omega)) (pc_35_0 SD.2.1)) ?_
    refine aw_icmp_ge (tgt := 43) d_Be_multiplyMatrix_7 (by decide) (fun c_7 => ?_) (fun c_7 => ?_)
    · skip
      exact aw_vret d_Be_multiplyMatrix_43 rfl (hP K F (fun m a b => gg m a (by omega)))
    · skip
      refine aw_aload_n d_Be_multiplyMatrix_10 rfl rfl ?_
      refine ax_getR (b := 44) d_Be_multiplyMatrix_11 fd_Be_32 (k_36 S) (r_36_3 S) ?_
      refine aw_iload_n d_Be_multiplyMatrix_14 rfl rfl ?_
      refine aw_aload_n d_Be_multiplyMatrix_15 rfl rfl ?_
      refine ax_getIe (x := 7) d_Be_multiplyMatrix_16 fd_Be_75 (k_35 S) (Eq.trans (F.1 35 1 (by omega)) (pc_35_1 SD.2.1)) ?_
      refine ax_imul d_Be_multiplyMatrix_19 ⟨(by omega), (by omega)⟩ ?_
      refine aw_aload_n d_Be_multiplyMatrix_20 rfl rfl ?_
      refine ax_getR (b := 118) d_Be_multiplyMatrix_21 fd_Be_41 (k_36 S) (r_36_6 S) ?_
      refine aw_aload_n d_Be_multiplyMatrix_24 rfl rfl ?_
      refine ax_getIe (x := 7) d_Be_multiplyMatrix_25 fd_Be_75 (k_35 S) (Eq.trans (F.1 35 1 (by omega)) (pc_35_1 SD.2.1)) ?_
      refine aw_aload_n d_Be_multiplyMatrix_28 rfl rfl ?_
      refine ax_getR (b := 126) d_Be_multiplyMatrix_29 fd_Be_44 (k_36 S) (r_36_7 S) ?_
      refine aw_iload_n d_Be_multiplyMatrix_32 rfl rfl ?_
      refine ax_aald (b := 127 + i.toNat) d_Be_multiplyMatrix_33 ⟨by rw [(k_126 S)]; decide, by rw [(k_126 S)]; decide⟩ (by omega) (by rw [n_126 S]; omega) (g_126 S (by omega) (by omega)) ?_
      refine ax_S (st := []) (as := [vr 44, vi (i * 7), vr 118, vi 7, vr (127 + i.toNat)]) (v := none) (h' := sD h (rowTo K (127 + i.toNat) 256 (fun j => mS K (i * 7) j 7 % 8380417)) L) d_Be_multiplyMatrix_34 cs_Be_multiplyMatrix_34 (c_Ri_multiplyRows (n := 7) S ⟨kr_126 S (by omega), by omega, nr_126 S (by omega)⟩ (by omega) (fun n hn j x y => by rw [F.1 _ _ (by omega)]; exact q1 _ (by omega) j x y) (fun n hn j x y => by rw [F.1 _ _ (by omega)]; exact q2 n hn j x y)) rfl rfl rfl ?_
      show AW l G M_Be_multiplyMatrix P 37 [(2, vi i), (1, vr 35), (0, vr 36)] [] (sD h (rowTo K (127 + i.toNat) 256 (fun j => mS K (i * 7) j 7 % 8380417)) L)
      refine ax_iinc (lv' := [(2, vi (i + 1)), (1, vr 35), (0, vr 36)]) d_Be_multiplyMatrix_37 rfl (by decide) ⟨(by omega), (by omega)⟩ rfl ?_
      refine aw_goto (tgt := 2) d_Be_multiplyMatrix_40 (by decide) ?_
      exact ih_2 _ (by omega) (i + 1) (rowTo K (127 + i.toNat) 256 (fun j => mS K (i * 7) j 7 % 8380417)) (by omega) (F.tr (FC.row (p := fun a => 127 ≤ a ∧ a ≤ 134) (by omega)) (fun a x => ⟨x, x⟩)) (fun m a b c x y => by by_cases z : m = i; exact (by rw [z, rowTo_in x y, mS_congr 7 (fun n hn => F.1 _ _ (by omega)) (fun n hn => F.1 _ _ (by omega))]); exact (by rw [rowTo_ne (by omega)]; exact gg m a (by omega) c x y)) rfl
  skip
  refine aw_sub (lv' := [(2, vi 0), (1, vr 35), (0, vr 36)]) (by simp) ?_
  exact lp_2 _ 0 I (by omega) (FC.rfl') (fun m a b => by omega) rfl
set_option maxHeartbeats 800000 in
set_option maxRecDepth 100000 in
theorem c_Be_multiplyBall {l : Launch} {G : a_G} {h : Hp} {I L : Nat → Int → Int} {f : Nat} (S : Shp h) (SD : Std I L) (Zf : RwO h f) (q1 : inQ (I 135)) (q2 : inQ (I f)) : AW l G M_Be_multiplyBall (Ret (fun _ : Nat → Int → Int => none) (fun K => sD h K L) (fun K => FC (fun a => a = 136) I L K L ∧ eqQ (K 136) (bck rt (fun j => I 135 j * I f j % 8380417)))) 0 (a_ar 0 [vr 36, vr f]) [] (sD h I L) := by
  suffices key : ∀ P : a_R → Hp → Prop, (∀ K : Nat → Int → Int, FC (fun a => a = 136) I L K L → eqQ (K 136) (bck rt (fun j => I 135 j * I f j % 8380417)) → P (.inl none) (sD h K L)) → AW l G M_Be_multiplyBall P 0 [(0, vr 36), (1, vr f)] [] (sD h I L) from key _ (fun K q1 q2 => ⟨K, rfl, rfl, q1, q2⟩)
  intro P hP
  refine aw_aload_n d_Be_multiplyBall_0 rfl rfl ?_
  refine ax_getR (b := 135) d_Be_multiplyBall_1 fd_Be_47 (k_36 S) (r_36_8 S) ?_
  refine aw_aload_n d_Be_multiplyBall_4 rfl rfl ?_
  refine aw_aload_n d_Be_multiplyBall_5 rfl rfl ?_
  refine ax_getR (b := 136) d_Be_multiplyBall_6 fd_Be_51 (k_36 S) (r_36_9 S) ?_
  refine ax_S (st := []) (as := [vr 135, vr f, vr 136]) (v := none) (h' := sD h (rowTo I 136 256 (fun j => I 135 j * I f j % 8380417)) L) d_Be_multiplyBall_9 cs_Be_multiplyBall_9 (c_Ri_multiply ⟨k_135 S, by decide, n_135 S⟩ Zf ⟨k_136 S, by decide, n_136 S⟩ q1 q2) rfl rfl rfl ?_
  show AW l G M_Be_multiplyBall P 12 [(0, vr 36), (1, vr f)] [] (sD h (rowTo I 136 256 (fun j => I 135 j * I f j % 8380417)) L)
  refine aw_aload_n d_Be_multiplyBall_12 rfl rfl ?_
  refine ax_getR (b := 42) d_Be_multiplyBall_13 fd_Be_26 (k_36 S) (r_36_2 S) ?_
  refine aw_aload_n d_Be_multiplyBall_16 rfl rfl ?_
  refine ax_getR (b := 136) d_Be_multiplyBall_17 fd_Be_51 (k_36 S) (r_36_9 S) ?_
  refine ax_V (st := []) (as := [vr 136]) (b := 42) (v := none) (h' := sD h (cset (rowTo I 136 256 (fun j => I 135 j * I f j % 8380417)) 136 (bck ((rowTo I 136 256 (fun j => I 135 j * I f j % 8380417)) 43) ((rowTo I 136 256 (fun j => I 135 j * I f j % 8380417)) 136))) L) d_Be_multiplyBall_20 cs_Be_multiplyBall_20 (k_42 S) (c_Ri_back S ⟨k_136 S, by decide, n_136 S⟩ (by decide) (fun j x y => by rw [rowTo_in x y]; omega) (fun j x y => by rw [rowTo_ne (by decide)]; exact SD.R j x y)) rfl rfl rfl ?_
  show AW l G M_Be_multiplyBall P 23 [(0, vr 36), (1, vr f)] [] (sD h (cset (rowTo I 136 256 (fun j => I 135 j * I f j % 8380417)) 136 (bck ((rowTo I 136 256 (fun j => I 135 j * I f j % 8380417)) 43) ((rowTo I 136 256 (fun j => I 135 j * I f j % 8380417)) 136))) L)
  exact aw_vret d_Be_multiplyBall_23 rfl (hP _ ((FC.row (p := fun a => a = 136) rfl).tr (FC.cs (p := fun a => a = 136) rfl) (fun a x => ⟨x, x⟩)) (fun j x y => by rw [cset_at, show (rowTo I 136 256 (fun j => I 135 j * I f j % 8380417)) 43 = rt from by rw [← SD.2.2]; funext z; exact rowTo_ne (by decide)]; exact bck_eq (fun z u v => rowTo_in u v) j x y))
set_option maxHeartbeats 800000 in
set_option maxRecDepth 100000 in
theorem c_Sa_mask0 {l : Launch} {G : a_G} {h : Hp} {I L : Nat → Int → Int} {f : Nat} (S : Shp h) (SD : Std I L) (Zf : RwO h f) (hf : 143 ≤ f ∧ f < 175) (ok : spOk (spOf I L)) : AW l G M_Sa_mask (Ret (fun _ : (Nat → Int → Int) × (Nat → Int → Int) => none) (fun u => sD h u.1 u.2) (fun u => FC (fun a => a = 38 ∨ a = 141 ∨ a = 142 ∨ a = f) I L u.1 u.2 ∧ ∀ j, 0 ≤ j → j < 256 → u.1 f j = (131072 - gR (spOut (spOf I L)) 18 j) % 8380417)) 0 (a_ar 0 [vr 37, vr 33, vr 141, vr f]) [] (sD h I L) := by
  suffices key : ∀ P : a_R → Hp → Prop, (∀ I2 L2, FC (fun a => a = 38 ∨ a = 141 ∨ a = 142 ∨ a = f) I L I2 L2 → (∀ j, 0 ≤ j → j < 256 → I2 f j = (131072 - gR (spOut (spOf I L)) 18 j) % 8380417) → P (.inl none) (sD h I2 L2)) → AW l G M_Sa_mask P 0 [(0, vr 37), (1, vr 33), (2, vr 141), (3, vr f)] [] (sD h I L) from key _ (fun I2 L2 q1 q2 => ⟨(I2, L2), rfl, rfl, q1, q2⟩)
  intro P hP
  refine aw_aload_n d_Sa_mask_0 rfl rfl ?_
  refine ax_getR (b := 38) d_Sa_mask_1 fd_Sa_12 (k_37 S) (r_37_0 S) ?_
  refine aw_aload_n d_Sa_mask_4 rfl rfl ?_
  refine aw_aload_n d_Sa_mask_5 rfl rfl ?_
  refine ax_getIe (x := 18) d_Sa_mask_6 fd_Sa_80 (k_33 S) (pc_33_11 SD.2.1) ?_
  refine ax_S (st := [vr 141, vr 38]) (as := [vi 18]) (v := some (vi (32 * 18))) (h' := sD h I L) d_Sa_mask_9 cs_Sa_mask_9 (c_Ri_packedSize (by omega)) rfl rfl rfl ?_
  show AW l G M_Sa_mask P 12 [(0, vr 37), (1, vr 33), (2, vr 141), (3, vr f)] [vi (32 * 18), vr 141, vr 38] (sD h I L)
  refine ax_Vr (st := []) (as := [vr 141, vi (32 * 18)]) (b := 38) d_Sa_mask_12 cs_Sa_mask_12 (k_38 S) (c_Sp_giveTo S SD.1 ok ⟨k_141 S, r_141_0 S, k_142 S, by decide, by decide, by decide⟩ ⟨by decide, by decide⟩ (by rw [n_142 S]; omega)) rfl rfl rfl (fun u_12 q_12 => ?_)
  obtain ⟨I1, L1⟩ := u_12
  obtain ⟨F1, f1, e1⟩ := q_12
  dsimp only at F1 f1 e1
  have GF := gv_fc F1 f1
  have GA := gv_at F1 (by decide) (by decide) (by decide)
  show AW l G M_Sa_mask P 15 [(0, vr 37), (1, vr 33), (2, vr 141), (3, vr f)] [] (sD h I1 L1)
  refine aw_aload_n d_Sa_mask_15 rfl rfl ?_
  refine aw_iconst d_Sa_mask_16 ⟨by decide, by decide⟩ ?_
  refine aw_aload_n d_Sa_mask_17 rfl rfl ?_
  refine ax_getIe (x := 18) d_Sa_mask_18 fd_Sa_80 (k_33 S) (Eq.trans (GF.1 33 11 (by omega)) (pc_33_11 SD.2.1)) ?_
  refine aw_aload_n d_Sa_mask_21 rfl rfl ?_
  refine ax_V (st := []) (as := [vi 0, vi 18, vr f]) (b := 141) (v := none) (h' := sD h (rowTo I1 f 256 (gR (fun k => byAt I1 141 142 (0 + k)) 18)) L1) d_Sa_mask_22 cs_Sa_mask_22 (k_141 S) (c_By_readBits (w := 18) ⟨k_141 S, r_141_0 S, k_142 S, by decide, by decide, by decide⟩ ⟨Zf.1, Zf.2.1, Zf.2.2, by omega, by omega⟩ (by omega) (by rw [GA.1, n_142 S]; omega)) rfl rfl rfl ?_
  show AW l G M_Sa_mask P 25 [(0, vr 37), (1, vr 33), (2, vr 141), (3, vr f)] [] (sD h (rowTo I1 f 256 (gR (fun k => byAt I1 141 142 (0 + k)) 18)) L1)
  refine aw_aload_n d_Sa_mask_25 rfl rfl ?_
  refine aw_aload_n d_Sa_mask_26 rfl rfl ?_
  refine ax_getIe (x := 131072) d_Sa_mask_27 fd_Sa_95 (k_33 S) (Eq.trans (rowTo_ne (by omega)) (Eq.trans (GF.1 33 4 (by omega)) (pc_33_4 SD.2.1))) ?_
  refine ax_S (st := []) (as := [vr f, vi 131072]) (v := none) (h' := sD h (rowTo (rowTo I1 f 256 (gR (fun k => byAt I1 141 142 (0 + k)) 18)) f 256 (fun j => (131072 - (rowTo I1 f 256 (gR (fun k => byAt I1 141 142 (0 + k)) 18)) f j) % 8380417)) L1) d_Sa_mask_30 cs_Sa_mask_30 (c_Ri_mirror Zf (by omega) (fun j x y => by rw [rowTo_in x y]; have := gR_b (g := fun k => byAt I1 141 142 (0 + k)) (w := 18) (j := j) (by decide); omega)) rfl rfl rfl ?_
  show AW l G M_Sa_mask P 33 [(0, vr 37), (1, vr 33), (2, vr 141), (3, vr f)] [] (sD h (rowTo (rowTo I1 f 256 (gR (fun k => byAt I1 141 142 (0 + k)) 18)) f 256 (fun j => (131072 - (rowTo I1 f 256 (gR (fun k => byAt I1 141 142 (0 + k)) 18)) f j) % 8380417)) L1)
  exact aw_vret d_Sa_mask_33 rfl (hP _ _ ((GF.tr (FC.row (p := fun a => a = f) rfl) (r := fun a => a = 38 ∨ a = 141 ∨ a = 142 ∨ a = f) (by intro a x; omega)).tr (FC.row (p := fun a => a = f) rfl) (by intro a x; omega)) (fun j x y => by rw [rowTo_in x y, rowTo_in x y, gR_congr (g' := spOut (spOf I L)) (fun k u v => by rw [Int.zero_add]; exact GA.2 k u (by omega))]))
set_option maxHeartbeats 800000 in
set_option maxRecDepth 100000 in
theorem c_Sa_mask1 {l : Launch} {G : a_G} {h : Hp} {I L : Nat → Int → Int} {f : Nat} (S : Shp h) (SD : Std I L) (Zf : RwO h f) (hf : 143 ≤ f ∧ f < 175) (ok : spOk (spOf I L)) : AW l G M_Sa_mask (Ret (fun _ : (Nat → Int → Int) × (Nat → Int → Int) => none) (fun u => sD h u.1 u.2) (fun u => FC (fun a => a = 38 ∨ a = 141 ∨ a = 142 ∨ a = f) I L u.1 u.2 ∧ ∀ j, 0 ≤ j → j < 256 → u.1 f j = (524288 - gR (spOut (spOf I L)) 20 j) % 8380417)) 0 (a_ar 0 [vr 37, vr 34, vr 141, vr f]) [] (sD h I L) := by
  suffices key : ∀ P : a_R → Hp → Prop, (∀ I2 L2, FC (fun a => a = 38 ∨ a = 141 ∨ a = 142 ∨ a = f) I L I2 L2 → (∀ j, 0 ≤ j → j < 256 → I2 f j = (524288 - gR (spOut (spOf I L)) 20 j) % 8380417) → P (.inl none) (sD h I2 L2)) → AW l G M_Sa_mask P 0 [(0, vr 37), (1, vr 34), (2, vr 141), (3, vr f)] [] (sD h I L) from key _ (fun I2 L2 q1 q2 => ⟨(I2, L2), rfl, rfl, q1, q2⟩)
  intro P hP
  refine aw_aload_n d_Sa_mask_0 rfl rfl ?_
  refine ax_getR (b := 38) d_Sa_mask_1 fd_Sa_12 (k_37 S) (r_37_0 S) ?_
  refine aw_aload_n d_Sa_mask_4 rfl rfl ?_
  refine aw_aload_n d_Sa_mask_5 rfl rfl ?_
  refine ax_getIe (x := 20) d_Sa_mask_6 fd_Sa_80 (k_34 S) (pc_34_11 SD.2.1) ?_
  refine ax_S (st := [vr 141, vr 38]) (as := [vi 20]) (v := some (vi (32 * 20))) (h' := sD h I L) d_Sa_mask_9 cs_Sa_mask_9 (c_Ri_packedSize (by omega)) rfl rfl rfl ?_
  show AW l G M_Sa_mask P 12 [(0, vr 37), (1, vr 34), (2, vr 141), (3, vr f)] [vi (32 * 20), vr 141, vr 38] (sD h I L)
  refine ax_Vr (st := []) (as := [vr 141, vi (32 * 20)]) (b := 38) d_Sa_mask_12 cs_Sa_mask_12 (k_38 S) (c_Sp_giveTo S SD.1 ok ⟨k_141 S, r_141_0 S, k_142 S, by decide, by decide, by decide⟩ ⟨by decide, by decide⟩ (by rw [n_142 S]; omega)) rfl rfl rfl (fun u_12 q_12 => ?_)
  obtain ⟨I1, L1⟩ := u_12
  obtain ⟨F1, f1, e1⟩ := q_12
  dsimp only at F1 f1 e1
  have GF := gv_fc F1 f1
  have GA := gv_at F1 (by decide) (by decide) (by decide)
  show AW l G M_Sa_mask P 15 [(0, vr 37), (1, vr 34), (2, vr 141), (3, vr f)] [] (sD h I1 L1)
  refine aw_aload_n d_Sa_mask_15 rfl rfl ?_
  refine aw_iconst d_Sa_mask_16 ⟨by decide, by decide⟩ ?_
  refine aw_aload_n d_Sa_mask_17 rfl rfl ?_
  refine ax_getIe (x := 20) d_Sa_mask_18 fd_Sa_80 (k_34 S) (Eq.trans (GF.1 34 11 (by omega)) (pc_34_11 SD.2.1)) ?_
  refine aw_aload_n d_Sa_mask_21 rfl rfl ?_
  refine ax_V (st := []) (as := [vi 0, vi 20, vr f]) (b := 141) (v := none) (h' := sD h (rowTo I1 f 256 (gR (fun k => byAt I1 141 142 (0 + k)) 20)) L1) d_Sa_mask_22 cs_Sa_mask_22 (k_141 S) (c_By_readBits (w := 20) ⟨k_141 S, r_141_0 S, k_142 S, by decide, by decide, by decide⟩ ⟨Zf.1, Zf.2.1, Zf.2.2, by omega, by omega⟩ (by omega) (by rw [GA.1, n_142 S]; omega)) rfl rfl rfl ?_
  show AW l G M_Sa_mask P 25 [(0, vr 37), (1, vr 34), (2, vr 141), (3, vr f)] [] (sD h (rowTo I1 f 256 (gR (fun k => byAt I1 141 142 (0 + k)) 20)) L1)
  refine aw_aload_n d_Sa_mask_25 rfl rfl ?_
  refine aw_aload_n d_Sa_mask_26 rfl rfl ?_
  refine ax_getIe (x := 524288) d_Sa_mask_27 fd_Sa_95 (k_34 S) (Eq.trans (rowTo_ne (by omega)) (Eq.trans (GF.1 34 4 (by omega)) (pc_34_4 SD.2.1))) ?_
  refine ax_S (st := []) (as := [vr f, vi 524288]) (v := none) (h' := sD h (rowTo (rowTo I1 f 256 (gR (fun k => byAt I1 141 142 (0 + k)) 20)) f 256 (fun j => (524288 - (rowTo I1 f 256 (gR (fun k => byAt I1 141 142 (0 + k)) 20)) f j) % 8380417)) L1) d_Sa_mask_30 cs_Sa_mask_30 (c_Ri_mirror Zf (by omega) (fun j x y => by rw [rowTo_in x y]; have := gR_b (g := fun k => byAt I1 141 142 (0 + k)) (w := 20) (j := j) (by decide); omega)) rfl rfl rfl ?_
  show AW l G M_Sa_mask P 33 [(0, vr 37), (1, vr 34), (2, vr 141), (3, vr f)] [] (sD h (rowTo (rowTo I1 f 256 (gR (fun k => byAt I1 141 142 (0 + k)) 20)) f 256 (fun j => (524288 - (rowTo I1 f 256 (gR (fun k => byAt I1 141 142 (0 + k)) 20)) f j) % 8380417)) L1)
  exact aw_vret d_Sa_mask_33 rfl (hP _ _ ((GF.tr (FC.row (p := fun a => a = f) rfl) (r := fun a => a = 38 ∨ a = 141 ∨ a = 142 ∨ a = f) (by intro a x; omega)).tr (FC.row (p := fun a => a = f) rfl) (by intro a x; omega)) (fun j x y => by rw [rowTo_in x y, rowTo_in x y, gR_congr (g' := spOut (spOf I L)) (fun k u v => by rw [Int.zero_add]; exact GA.2 k u (by omega))]))
set_option maxHeartbeats 800000 in
set_option maxRecDepth 100000 in
theorem c_Sa_mask2 {l : Launch} {G : a_G} {h : Hp} {I L : Nat → Int → Int} {f : Nat} (S : Shp h) (SD : Std I L) (Zf : RwO h f) (hf : 143 ≤ f ∧ f < 175) (ok : spOk (spOf I L)) : AW l G M_Sa_mask (Ret (fun _ : (Nat → Int → Int) × (Nat → Int → Int) => none) (fun u => sD h u.1 u.2) (fun u => FC (fun a => a = 38 ∨ a = 141 ∨ a = 142 ∨ a = f) I L u.1 u.2 ∧ ∀ j, 0 ≤ j → j < 256 → u.1 f j = (524288 - gR (spOut (spOf I L)) 20 j) % 8380417)) 0 (a_ar 0 [vr 37, vr 35, vr 141, vr f]) [] (sD h I L) := by
  suffices key : ∀ P : a_R → Hp → Prop, (∀ I2 L2, FC (fun a => a = 38 ∨ a = 141 ∨ a = 142 ∨ a = f) I L I2 L2 → (∀ j, 0 ≤ j → j < 256 → I2 f j = (524288 - gR (spOut (spOf I L)) 20 j) % 8380417) → P (.inl none) (sD h I2 L2)) → AW l G M_Sa_mask P 0 [(0, vr 37), (1, vr 35), (2, vr 141), (3, vr f)] [] (sD h I L) from key _ (fun I2 L2 q1 q2 => ⟨(I2, L2), rfl, rfl, q1, q2⟩)
  intro P hP
  refine aw_aload_n d_Sa_mask_0 rfl rfl ?_
  refine ax_getR (b := 38) d_Sa_mask_1 fd_Sa_12 (k_37 S) (r_37_0 S) ?_
  refine aw_aload_n d_Sa_mask_4 rfl rfl ?_
  refine aw_aload_n d_Sa_mask_5 rfl rfl ?_
  refine ax_getIe (x := 20) d_Sa_mask_6 fd_Sa_80 (k_35 S) (pc_35_11 SD.2.1) ?_
  refine ax_S (st := [vr 141, vr 38]) (as := [vi 20]) (v := some (vi (32 * 20))) (h' := sD h I L) d_Sa_mask_9 cs_Sa_mask_9 (c_Ri_packedSize (by omega)) rfl rfl rfl ?_
  show AW l G M_Sa_mask P 12 [(0, vr 37), (1, vr 35), (2, vr 141), (3, vr f)] [vi (32 * 20), vr 141, vr 38] (sD h I L)
  refine ax_Vr (st := []) (as := [vr 141, vi (32 * 20)]) (b := 38) d_Sa_mask_12 cs_Sa_mask_12 (k_38 S) (c_Sp_giveTo S SD.1 ok ⟨k_141 S, r_141_0 S, k_142 S, by decide, by decide, by decide⟩ ⟨by decide, by decide⟩ (by rw [n_142 S]; omega)) rfl rfl rfl (fun u_12 q_12 => ?_)
  obtain ⟨I1, L1⟩ := u_12
  obtain ⟨F1, f1, e1⟩ := q_12
  dsimp only at F1 f1 e1
  have GF := gv_fc F1 f1
  have GA := gv_at F1 (by decide) (by decide) (by decide)
  show AW l G M_Sa_mask P 15 [(0, vr 37), (1, vr 35), (2, vr 141), (3, vr f)] [] (sD h I1 L1)
  refine aw_aload_n d_Sa_mask_15 rfl rfl ?_
  refine aw_iconst d_Sa_mask_16 ⟨by decide, by decide⟩ ?_
  refine aw_aload_n d_Sa_mask_17 rfl rfl ?_
  refine ax_getIe (x := 20) d_Sa_mask_18 fd_Sa_80 (k_35 S) (Eq.trans (GF.1 35 11 (by omega)) (pc_35_11 SD.2.1)) ?_
  refine aw_aload_n d_Sa_mask_21 rfl rfl ?_
  refine ax_V (st := []) (as := [vi 0, vi 20, vr f]) (b := 141) (v := none) (h' := sD h (rowTo I1 f 256 (gR (fun k => byAt I1 141 142 (0 + k)) 20)) L1) d_Sa_mask_22 cs_Sa_mask_22 (k_141 S) (c_By_readBits (w := 20) ⟨k_141 S, r_141_0 S, k_142 S, by decide, by decide, by decide⟩ ⟨Zf.1, Zf.2.1, Zf.2.2, by omega, by omega⟩ (by omega) (by rw [GA.1, n_142 S]; omega)) rfl rfl rfl ?_
  show AW l G M_Sa_mask P 25 [(0, vr 37), (1, vr 35), (2, vr 141), (3, vr f)] [] (sD h (rowTo I1 f 256 (gR (fun k => byAt I1 141 142 (0 + k)) 20)) L1)
  refine aw_aload_n d_Sa_mask_25 rfl rfl ?_
  refine aw_aload_n d_Sa_mask_26 rfl rfl ?_
  refine ax_getIe (x := 524288) d_Sa_mask_27 fd_Sa_95 (k_35 S) (Eq.trans (rowTo_ne (by omega)) (Eq.trans (GF.1 35 4 (by omega)) (pc_35_4 SD.2.1))) ?_
  refine ax_S (st := []) (as := [vr f, vi 524288]) (v := none) (h' := sD h (rowTo (rowTo I1 f 256 (gR (fun k => byAt I1 141 142 (0 + k)) 20)) f 256 (fun j => (524288 - (rowTo I1 f 256 (gR (fun k => byAt I1 141 142 (0 + k)) 20)) f j) % 8380417)) L1) d_Sa_mask_30 cs_Sa_mask_30 (c_Ri_mirror Zf (by omega) (fun j x y => by rw [rowTo_in x y]; have := gR_b (g := fun k => byAt I1 141 142 (0 + k)) (w := 20) (j := j) (by decide); omega)) rfl rfl rfl ?_
  show AW l G M_Sa_mask P 33 [(0, vr 37), (1, vr 35), (2, vr 141), (3, vr f)] [] (sD h (rowTo (rowTo I1 f 256 (gR (fun k => byAt I1 141 142 (0 + k)) 20)) f 256 (fun j => (524288 - (rowTo I1 f 256 (gR (fun k => byAt I1 141 142 (0 + k)) 20)) f j) % 8380417)) L1)
  exact aw_vret d_Sa_mask_33 rfl (hP _ _ ((GF.tr (FC.row (p := fun a => a = f) rfl) (r := fun a => a = 38 ∨ a = 141 ∨ a = 142 ∨ a = f) (by intro a x; omega)).tr (FC.row (p := fun a => a = f) rfl) (by intro a x; omega)) (fun j x y => by rw [rowTo_in x y, rowTo_in x y, gR_congr (g' := spOut (spOf I L)) (fun k u v => by rw [Int.zero_add]; exact GA.2 k u (by omega))]))
set_option maxHeartbeats 800000 in
set_option maxRecDepth 100000 in
theorem c_Be_digestSigned0 {l : Launch} {G : a_G} {h : Hp} {I L : Nat → Int → Int} {b r : Nat} {fr : Int} (S : Shp h) (SD : Std I L) (SB : ByO h b r) (hb : b ≠ 38 ∧ r ≠ 38) (hc : I b 1 ≤ hN h r ∧ 0 ≤ fr ∧ fr < 100000) (cb : CB I) : AW l G M_Be_digestSigned (Ret (fun _ : (Nat → Int → Int) × (Nat → Int → Int) => none) (fun u => sD h u.1 u.2) (fun u => FC (fun a => a = 38 ∨ a = 137 ∨ a = 138) I L u.1 u.2 ∧ u.1 137 1 = 64 ∧ ∀ k, 0 ≤ k → k < 64 → byAt u.1 137 138 k = spOut (dgS (fun k => byAt I b r (fr + k)) (0) (fun k => byAt I 22 23 (0 + k)) (I 22 1) (fun k => byAt I 20 21 (0 + k)) (I 20 1)) k)) 0 (a_ar 0 [vr 36, vr b, vi fr, vr 13, vi 0]) [] (sD h I L) := by
  suffices key : ∀ P : a_R → Hp → Prop, (∀ I2 L2, FC (fun a => a = 38 ∨ a = 137 ∨ a = 138) I L I2 L2 → I2 137 1 = 64 → (∀ k, 0 ≤ k → k < 64 → byAt I2 137 138 k = spOut (dgS (fun k => byAt I b r (fr + k)) (0) (fun k => byAt I 22 23 (0 + k)) (I 22 1) (fun k => byAt I 20 21 (0 + k)) (I 20 1)) k) → P (.inl none) (sD h I2 L2)) → AW l G M_Be_digestSigned P 0 [(0, vr 36), (1, vr b), (2, vi fr), (3, vr 13), (4, vi 0)] [] (sD h I L) from key _ (fun I2 L2 q1 q2 q3 => ⟨(I2, L2), rfl, rfl, q1, q2, q3⟩)
  intro P hP
  have cb3 : 0 ≤ I 20 1 ∧ I 20 1 ≤ 8192 := cb.1 3 (by decide)
  have cb4 : 0 ≤ I 22 1 ∧ I 22 1 ≤ 8192 := cb.1 4 (by decide)
  refine aw_aload_n d_Be_digestSigned_0 rfl rfl ?_
  refine ax_getR (b := 38) d_Be_digestSigned_1 fd_Be_22 (k_36 S) (r_36_1 S) ?_
  refine ax_Vr (st := []) (as := []) (b := 38) d_Be_digestSigned_4 cs_Be_digestSigned_4 (k_38 S) (c_Sp_start256 S) rfl rfl rfl (fun u_4 q_4 => ?_)
  obtain ⟨I1, L1⟩ := u_4
  obtain ⟨F1, e1⟩ := q_4
  dsimp only at F1 e1
  show AW l G M_Be_digestSigned P 7 [(0, vr 36), (1, vr b), (2, vi fr), (3, vr 13), (4, vi 0)] [] (sD h I1 L1)
  refine aw_aload_n d_Be_digestSigned_7 rfl rfl ?_
  refine ax_getR (b := 38) d_Be_digestSigned_8 fd_Be_22 (k_36 S) (r_36_1 S) ?_
  refine aw_aload_n d_Be_digestSigned_11 rfl rfl ?_
  refine aw_iload_n d_Be_digestSigned_12 rfl rfl ?_
  refine aw_bipush d_Be_digestSigned_13 ⟨by decide, by decide⟩ (by decide) ?_
  refine ax_Vr (st := []) (as := [vr b, vi fr, vi 64]) (b := 38) d_Be_digestSigned_15 cs_Be_digestSigned_15 (k_38 S) (c_Sp_takePart S (SD.1.sp F1) (by rw [e1]; exact (spStart_lt (by decide) (by decide)).1) SB ⟨by omega, by omega⟩ (by rw [F1.1 b 1 (by omega)]; omega)) rfl rfl rfl (fun u_15 q_15 => ?_)
  obtain ⟨I2, L2⟩ := u_15
  obtain ⟨F2, e2⟩ := q_15
  dsimp only at F2 e2
  show AW l G M_Be_digestSigned P 18 [(0, vr 36), (1, vr b), (2, vi fr), (3, vr 13), (4, vi 0)] [] (sD h I2 L2)
  refine aw_iload d_Be_digestSigned_18 rfl ?_
  refine aw_if_ne (tgt := 61) d_Be_digestSigned_20 (by decide) (fun c_20 => False.elim (by omega)) (fun c_20 => ?_)
  refine aw_aload_n d_Be_digestSigned_23 rfl rfl ?_
  refine ax_getR (b := 38) d_Be_digestSigned_24 fd_Be_22 (k_36 S) (r_36_1 S) ?_
  refine aw_iconst d_Be_digestSigned_27 ⟨by decide, by decide⟩ ?_
  refine ax_Vr (st := []) (as := [vi 0]) (b := 38) d_Be_digestSigned_28 cs_Be_digestSigned_28 (k_38 S) (c_Sp_take S ((SD.1.sp F1).sp F2) (by rw [e2, e1]; exact spPart_ok ((spStart_lt (by decide) (by decide)).1) _ _)) rfl rfl rfl (fun u_28 q_28 => ?_)
  obtain ⟨I3, L3⟩ := u_28
  obtain ⟨F3, e3⟩ := q_28
  dsimp only at F3 e3
  show AW l G M_Be_digestSigned P 31 [(0, vr 36), (1, vr b), (2, vi fr), (3, vr 13), (4, vi 0)] [] (sD h I3 L3)
  refine aw_aload_n d_Be_digestSigned_31 rfl rfl ?_
  refine ax_getR (b := 38) d_Be_digestSigned_32 fd_Be_22 (k_36 S) (r_36_1 S) ?_
  refine aw_aload_n d_Be_digestSigned_35 rfl rfl ?_
  refine aw_iconst d_Be_digestSigned_36 ⟨by decide, by decide⟩ ?_
  refine ax_aald (b := 22) d_Be_digestSigned_37 ⟨by rw [(k_13 S)]; decide, by rw [(k_13 S)]; decide⟩ (by omega) (by rw [n_13 S]; omega) (r_13_4 S) ?_
  refine ax_getIe (x := I 22 1) d_Be_digestSigned_38 fd_Be_102 (k_22 S) (Eq.trans (((F1.tr F2).tr F3).1 22 1 (by decide)) (rfl)) ?_
  refine ax_Vr (st := []) (as := [vi (I 22 1)]) (b := 38) d_Be_digestSigned_41 cs_Be_digestSigned_41 (k_38 S) (c_Sp_take S (((SD.1.sp F1).sp F2).sp F3) (by rw [e3, e2, e1]; exact spTake_ok (spPart_ok ((spStart_lt (by decide) (by decide)).1) _ _) _)) rfl rfl rfl (fun u_41 q_41 => ?_)
  obtain ⟨I4, L4⟩ := u_41
  obtain ⟨F4, e4⟩ := q_41
  dsimp only at F4 e4
  show AW l G M_Be_digestSigned P 44 [(0, vr 36), (1, vr b), (2, vi fr), (3, vr 13), (4, vi 0)] [] (sD h I4 L4)
  refine aw_aload_n d_Be_digestSigned_44 rfl rfl ?_
  refine ax_getR (b := 38) d_Be_digestSigned_45 fd_Be_22 (k_36 S) (r_36_1 S) ?_
  refine aw_aload_n d_Be_digestSigned_48 rfl rfl ?_
  refine aw_iconst d_Be_digestSigned_49 ⟨by decide, by decide⟩ ?_
  refine ax_aald (b := 22) d_Be_digestSigned_50 ⟨by rw [(k_13 S)]; decide, by rw [(k_13 S)]; decide⟩ (by omega) (by rw [n_13 S]; omega) (r_13_4 S) ?_
  refine aw_iconst d_Be_digestSigned_51 ⟨by decide, by decide⟩ ?_
  refine aw_aload_n d_Be_digestSigned_52 rfl rfl ?_
  refine aw_iconst d_Be_digestSigned_53 ⟨by decide, by decide⟩ ?_
  refine ax_aald (b := 22) d_Be_digestSigned_54 ⟨by rw [(k_13 S)]; decide, by rw [(k_13 S)]; decide⟩ (by omega) (by rw [n_13 S]; omega) (r_13_4 S) ?_
  refine ax_getIe (x := I 22 1) d_Be_digestSigned_55 fd_Be_102 (k_22 S) (Eq.trans ((((F1.tr F2).tr F3).tr F4).1 22 1 (by decide)) (rfl)) ?_
  refine ax_Vr (st := []) (as := [vr 22, vi 0, vi (I 22 1)]) (b := 38) d_Be_digestSigned_58 cs_Be_digestSigned_58 (k_38 S) (c_Sp_takePart S ((((SD.1.sp F1).sp F2).sp F3).sp F4) (by rw [e4, e3, e2, e1]; exact spTake_ok (spTake_ok (spPart_ok ((spStart_lt (by decide) (by decide)).1) _ _) _) _) (ks S (i := 4) (by decide)) ⟨by decide, by decide⟩ (by rw [(((F1.tr F2).tr F3).tr F4).1 22 1 (by decide), nks S (i := 4) (by decide)]; omega)) rfl rfl rfl (fun u_58 q_58 => ?_)
  obtain ⟨I5, L5⟩ := u_58
  obtain ⟨F5, e5⟩ := q_58
  dsimp only at F5 e5
  show AW l G M_Be_digestSigned P 61 [(0, vr 36), (1, vr b), (2, vi fr), (3, vr 13), (4, vi 0)] [] (sD h I5 L5)
  refine aw_aload_n d_Be_digestSigned_61 rfl rfl ?_
  refine ax_getR (b := 38) d_Be_digestSigned_62 fd_Be_22 (k_36 S) (r_36_1 S) ?_
  refine aw_aload_n d_Be_digestSigned_65 rfl rfl ?_
  refine aw_iconst d_Be_digestSigned_66 ⟨by decide, by decide⟩ ?_
  refine ax_aald (b := 20) d_Be_digestSigned_67 ⟨by rw [(k_13 S)]; decide, by rw [(k_13 S)]; decide⟩ (by omega) (by rw [n_13 S]; omega) (r_13_3 S) ?_
  refine aw_iconst d_Be_digestSigned_68 ⟨by decide, by decide⟩ ?_
  refine aw_aload_n d_Be_digestSigned_69 rfl rfl ?_
  refine aw_iconst d_Be_digestSigned_70 ⟨by decide, by decide⟩ ?_
  refine ax_aald (b := 20) d_Be_digestSigned_71 ⟨by rw [(k_13 S)]; decide, by rw [(k_13 S)]; decide⟩ (by omega) (by rw [n_13 S]; omega) (r_13_3 S) ?_
  refine ax_getIe (x := I 20 1) d_Be_digestSigned_72 fd_Be_102 (k_20 S) (Eq.trans (((((F1.tr F2).tr F3).tr F4).tr F5).1 20 1 (by decide)) (rfl)) ?_
  refine ax_Vr (st := []) (as := [vr 20, vi 0, vi (I 20 1)]) (b := 38) d_Be_digestSigned_75 cs_Be_digestSigned_75 (k_38 S) (c_Sp_takePart S (((((SD.1.sp F1).sp F2).sp F3).sp F4).sp F5) (by rw [e5, e4, e3, e2, e1]; exact spPart_ok (spTake_ok (spTake_ok (spPart_ok ((spStart_lt (by decide) (by decide)).1) _ _) _) _) _ _) (ks S (i := 3) (by decide)) ⟨by decide, by decide⟩ (by rw [((((F1.tr F2).tr F3).tr F4).tr F5).1 20 1 (by decide), nks S (i := 3) (by decide)]; omega)) rfl rfl rfl (fun u_75 q_75 => ?_)
  obtain ⟨I6, L6⟩ := u_75
  obtain ⟨F6, e6⟩ := q_75
  dsimp only at F6 e6
  show AW l G M_Be_digestSigned P 78 [(0, vr 36), (1, vr b), (2, vi fr), (3, vr 13), (4, vi 0)] [] (sD h I6 L6)
  refine aw_aload_n d_Be_digestSigned_78 rfl rfl ?_
  refine ax_getR (b := 38) d_Be_digestSigned_79 fd_Be_22 (k_36 S) (r_36_1 S) ?_
  refine ax_Vr (st := []) (as := []) (b := 38) d_Be_digestSigned_82 cs_Be_digestSigned_82 (k_38 S) (c_Sp_turn S ((((((SD.1.sp F1).sp F2).sp F3).sp F4).sp F5).sp F6) (by rw [e6, e5, e4, e3, e2, e1]; exact spPart_ok (spPart_ok (spTake_ok (spTake_ok (spPart_ok ((spStart_lt (by decide) (by decide)).1) _ _) _) _) _ _) _ _)) rfl rfl rfl (fun u_82 q_82 => ?_)
  obtain ⟨I7, L7⟩ := u_82
  obtain ⟨F7, e7⟩ := q_82
  dsimp only at F7 e7
  show AW l G M_Be_digestSigned P 85 [(0, vr 36), (1, vr b), (2, vi fr), (3, vr 13), (4, vi 0)] [] (sD h I7 L7)
  have eS : spOf I7 L7 = (dgS (fun k => byAt I b r (fr + k)) (0) (fun k => byAt I 22 23 (0 + k)) (I 22 1) (fun k => byAt I 20 21 (0 + k)) (I 20 1)) := by rw [e7, e6, e5, e4, e3, e2, e1, show (fun k => byAt I1 b r (fr + k)) = (fun k => byAt I b r (fr + k)) from funext (fun k => byAt_sp F1.1 (by omega) (by omega)), show (fun k => byAt I4 22 23 (0 + k)) = (fun k => byAt I 22 23 (0 + k)) from funext (fun k => byAt_sp (((F1.tr F2).tr F3).tr F4).1 (by decide) (by decide)), show (fun k => byAt I5 20 21 (0 + k)) = (fun k => byAt I 20 21 (0 + k)) from funext (fun k => byAt_sp ((((F1.tr F2).tr F3).tr F4).tr F5).1 (by decide) (by decide)), dgS_0]; rfl
  refine aw_aload_n d_Be_digestSigned_85 rfl rfl ?_
  refine ax_getR (b := 38) d_Be_digestSigned_86 fd_Be_22 (k_36 S) (r_36_1 S) ?_
  refine aw_aload_n d_Be_digestSigned_89 rfl rfl ?_
  refine ax_getR (b := 137) d_Be_digestSigned_90 fd_Be_59 (k_36 S) (r_36_10 S) ?_
  refine aw_bipush d_Be_digestSigned_93 ⟨by decide, by decide⟩ (by decide) ?_
  refine ax_Vr (st := []) (as := [vr 137, vi 64]) (b := 38) d_Be_digestSigned_95 cs_Be_digestSigned_95 (k_38 S) (c_Sp_giveTo S (((((((SD.1.sp F1).sp F2).sp F3).sp F4).sp F5).sp F6).sp F7) (by rw [e7, e6, e5, e4, e3, e2, e1]; exact spTurn_ok (spPart_ok (spPart_ok (spTake_ok (spTake_ok (spPart_ok ((spStart_lt (by decide) (by decide)).1) _ _) _) _) _ _) _ _)) ⟨k_137 S, r_137_0 S, k_138 S, by decide, by decide, by decide⟩ ⟨by decide, by decide⟩ (by rw [n_138 S]; omega)) rfl rfl rfl (fun u_95 q_95 => ?_)
  obtain ⟨I9, L9⟩ := u_95
  obtain ⟨F9, f9, e9⟩ := q_95
  dsimp only at F9 f9 e9
  rw [eS] at F9
  show AW l G M_Be_digestSigned P 98 [(0, vr 36), (1, vr b), (2, vi fr), (3, vr 13), (4, vi 0)] [] (sD h I9 L9)
  exact aw_vret d_Be_digestSigned_98 rfl (hP _ _ ((((((((F1.tr F2).tr F3).tr F4).tr F5).tr F6).tr F7).fc).tr (gv_fc F9 f9) (by intro a x; omega)) (gv_at F9 (by decide) (by decide) (by decide)).1 (gv_at F9 (by decide) (by decide) (by decide)).2)
set_option maxHeartbeats 800000 in
set_option maxRecDepth 100000 in
theorem c_Be_digestSignedN {l : Launch} {G : a_G} {h : Hp} {I L : Nat → Int → Int} {b r : Nat} {fr : Int} (S : Shp h) (SD : Std I L) (SB : ByO h b r) (hb : b ≠ 38 ∧ r ≠ 38) (hc : I b 1 ≤ hN h r ∧ 0 ≤ fr ∧ fr < 100000) (cb : CB I) : AW l G M_Be_digestSigned (Ret (fun _ : (Nat → Int → Int) × (Nat → Int → Int) => none) (fun u => sD h u.1 u.2) (fun u => FC (fun a => a = 38 ∨ a = 137 ∨ a = 138) I L u.1 u.2 ∧ u.1 137 1 = 64 ∧ ∀ k, 0 ≤ k → k < 64 → byAt u.1 137 138 k = spOut (dgS (fun k => byAt I b r (fr + k)) (-1) (fun k => byAt I 22 23 (0 + k)) (I 22 1) (fun k => byAt I 20 21 (0 + k)) (I 20 1)) k)) 0 (a_ar 0 [vr 36, vr b, vi fr, vr 13, vi (-1)]) [] (sD h I L) := by
  suffices key : ∀ P : a_R → Hp → Prop, (∀ I2 L2, FC (fun a => a = 38 ∨ a = 137 ∨ a = 138) I L I2 L2 → I2 137 1 = 64 → (∀ k, 0 ≤ k → k < 64 → byAt I2 137 138 k = spOut (dgS (fun k => byAt I b r (fr + k)) (-1) (fun k => byAt I 22 23 (0 + k)) (I 22 1) (fun k => byAt I 20 21 (0 + k)) (I 20 1)) k) → P (.inl none) (sD h I2 L2)) → AW l G M_Be_digestSigned P 0 [(0, vr 36), (1, vr b), (2, vi fr), (3, vr 13), (4, vi (-1))] [] (sD h I L) from key _ (fun I2 L2 q1 q2 q3 => ⟨(I2, L2), rfl, rfl, q1, q2, q3⟩)
  intro P hP
  have cb3 : 0 ≤ I 20 1 ∧ I 20 1 ≤ 8192 := cb.1 3 (by decide)
  have cb4 : 0 ≤ I 22 1 ∧ I 22 1 ≤ 8192 := cb.1 4 (by decide)
  refine aw_aload_n d_Be_digestSigned_0 rfl rfl ?_
  refine ax_getR (b := 38) d_Be_digestSigned_1 fd_Be_22 (k_36 S) (r_36_1 S) ?_
  refine ax_Vr (st := []) (as := []) (b := 38) d_Be_digestSigned_4 cs_Be_digestSigned_4 (k_38 S) (c_Sp_start256 S) rfl rfl rfl (fun u_4 q_4 => ?_)
  obtain ⟨I1, L1⟩ := u_4
  obtain ⟨F1, e1⟩ := q_4
  dsimp only at F1 e1
  show AW l G M_Be_digestSigned P 7 [(0, vr 36), (1, vr b), (2, vi fr), (3, vr 13), (4, vi (-1))] [] (sD h I1 L1)
  refine aw_aload_n d_Be_digestSigned_7 rfl rfl ?_
  refine ax_getR (b := 38) d_Be_digestSigned_8 fd_Be_22 (k_36 S) (r_36_1 S) ?_
  refine aw_aload_n d_Be_digestSigned_11 rfl rfl ?_
  refine aw_iload_n d_Be_digestSigned_12 rfl rfl ?_
  refine aw_bipush d_Be_digestSigned_13 ⟨by decide, by decide⟩ (by decide) ?_
  refine ax_Vr (st := []) (as := [vr b, vi fr, vi 64]) (b := 38) d_Be_digestSigned_15 cs_Be_digestSigned_15 (k_38 S) (c_Sp_takePart S (SD.1.sp F1) (by rw [e1]; exact (spStart_lt (by decide) (by decide)).1) SB ⟨by omega, by omega⟩ (by rw [F1.1 b 1 (by omega)]; omega)) rfl rfl rfl (fun u_15 q_15 => ?_)
  obtain ⟨I2, L2⟩ := u_15
  obtain ⟨F2, e2⟩ := q_15
  dsimp only at F2 e2
  show AW l G M_Be_digestSigned P 18 [(0, vr 36), (1, vr b), (2, vi fr), (3, vr 13), (4, vi (-1))] [] (sD h I2 L2)
  refine aw_iload d_Be_digestSigned_18 rfl ?_
  refine aw_if_ne (tgt := 61) d_Be_digestSigned_20 (by decide) (fun c_20 => ?_) (fun c_20 => False.elim (by omega))
  refine aw_aload_n d_Be_digestSigned_61 rfl rfl ?_
  refine ax_getR (b := 38) d_Be_digestSigned_62 fd_Be_22 (k_36 S) (r_36_1 S) ?_
  refine aw_aload_n d_Be_digestSigned_65 rfl rfl ?_
  refine aw_iconst d_Be_digestSigned_66 ⟨by decide, by decide⟩ ?_
  refine ax_aald (b := 20) d_Be_digestSigned_67 ⟨by rw [(k_13 S)]; decide, by rw [(k_13 S)]; decide⟩ (by omega) (by rw [n_13 S]; omega) (r_13_3 S) ?_
  refine aw_iconst d_Be_digestSigned_68 ⟨by decide, by decide⟩ ?_
  refine aw_aload_n d_Be_digestSigned_69 rfl rfl ?_
  refine aw_iconst d_Be_digestSigned_70 ⟨by decide, by decide⟩ ?_
  refine ax_aald (b := 20) d_Be_digestSigned_71 ⟨by rw [(k_13 S)]; decide, by rw [(k_13 S)]; decide⟩ (by omega) (by rw [n_13 S]; omega) (r_13_3 S) ?_
  refine ax_getIe (x := I 20 1) d_Be_digestSigned_72 fd_Be_102 (k_20 S) (Eq.trans ((F1.tr F2).1 20 1 (by decide)) (rfl)) ?_
  refine ax_Vr (st := []) (as := [vr 20, vi 0, vi (I 20 1)]) (b := 38) d_Be_digestSigned_75 cs_Be_digestSigned_75 (k_38 S) (c_Sp_takePart S ((SD.1.sp F1).sp F2) (by rw [e2, e1]; exact spPart_ok ((spStart_lt (by decide) (by decide)).1) _ _) (ks S (i := 3) (by decide)) ⟨by decide, by decide⟩ (by rw [(F1.tr F2).1 20 1 (by decide), nks S (i := 3) (by decide)]; omega)) rfl rfl rfl (fun u_75 q_75 => ?_)
  obtain ⟨I3, L3⟩ := u_75
  obtain ⟨F3, e3⟩ := q_75
  dsimp only at F3 e3
  show AW l G M_Be_digestSigned P 78 [(0, vr 36), (1, vr b), (2, vi fr), (3, vr 13), (4, vi (-1))] [] (sD h I3 L3)
  refine aw_aload_n d_Be_digestSigned_78 rfl rfl ?_
  refine ax_getR (b := 38) d_Be_digestSigned_79 fd_Be_22 (k_36 S) (r_36_1 S) ?_
  refine ax_Vr (st := []) (as := []) (b := 38) d_Be_digestSigned_82 cs_Be_digestSigned_82 (k_38 S) (c_Sp_turn S (((SD.1.sp F1).sp F2).sp F3) (by rw [e3, e2, e1]; exact spPart_ok (spPart_ok ((spStart_lt (by decide) (by decide)).1) _ _) _ _)) rfl rfl rfl (fun u_82 q_82 => ?_)
  obtain ⟨I4, L4⟩ := u_82
  obtain ⟨F4, e4⟩ := q_82
  dsimp only at F4 e4
  show AW l G M_Be_digestSigned P 85 [(0, vr 36), (1, vr b), (2, vi fr), (3, vr 13), (4, vi (-1))] [] (sD h I4 L4)
  have eS : spOf I4 L4 = (dgS (fun k => byAt I b r (fr + k)) (-1) (fun k => byAt I 22 23 (0 + k)) (I 22 1) (fun k => byAt I 20 21 (0 + k)) (I 20 1)) := by rw [e4, e3, e2, e1, show (fun k => byAt I1 b r (fr + k)) = (fun k => byAt I b r (fr + k)) from funext (fun k => byAt_sp F1.1 (by omega) (by omega)), show (fun k => byAt I2 20 21 (0 + k)) = (fun k => byAt I 20 21 (0 + k)) from funext (fun k => byAt_sp (F1.tr F2).1 (by decide) (by decide)), dgS_n]; rfl
  refine aw_aload_n d_Be_digestSigned_85 rfl rfl ?_
  refine ax_getR (b := 38) d_Be_digestSigned_86 fd_Be_22 (k_36 S) (r_36_1 S) ?_
  refine aw_aload_n d_Be_digestSigned_89 rfl rfl ?_
  refine ax_getR (b := 137) d_Be_digestSigned_90 fd_Be_59 (k_36 S) (r_36_10 S) ?_
  refine aw_bipush d_Be_digestSigned_93 ⟨by decide, by decide⟩ (by decide) ?_
  refine ax_Vr (st := []) (as := [vr 137, vi 64]) (b := 38) d_Be_digestSigned_95 cs_Be_digestSigned_95 (k_38 S) (c_Sp_giveTo S ((((SD.1.sp F1).sp F2).sp F3).sp F4) (by rw [e4, e3, e2, e1]; exact spTurn_ok (spPart_ok (spPart_ok ((spStart_lt (by decide) (by decide)).1) _ _) _ _)) ⟨k_137 S, r_137_0 S, k_138 S, by decide, by decide, by decide⟩ ⟨by decide, by decide⟩ (by rw [n_138 S]; omega)) rfl rfl rfl (fun u_95 q_95 => ?_)
  obtain ⟨I9, L9⟩ := u_95
  obtain ⟨F9, f9, e9⟩ := q_95
  dsimp only at F9 f9 e9
  rw [eS] at F9
  show AW l G M_Be_digestSigned P 98 [(0, vr 36), (1, vr b), (2, vi fr), (3, vr 13), (4, vi (-1))] [] (sD h I9 L9)
  exact aw_vret d_Be_digestSigned_98 rfl (hP _ _ (((((F1.tr F2).tr F3).tr F4).fc).tr (gv_fc F9 f9) (by intro a x; omega)) (gv_at F9 (by decide) (by decide) (by decide)).1 (gv_at F9 (by decide) (by decide) (by decide)).2)
set_option maxHeartbeats 800000 in
set_option maxRecDepth 100000 in
theorem c_Be_hashHighs0 {l : Launch} {G : a_G} {h : Hp} {I L : Nat → Int → Int} {b r : Nat} (S : Shp h) (SD : Std I L) (SB : ByO h b r) (hb : b ≠ 38 ∧ r ≠ 38) (hc : 64 ≤ hN h r ∧ hN h r < 2147483648 ∧ I 137 1 ≤ 64 ∧ 0 ≤ I 141 1 ∧ I 141 1 ≤ 1024) : AW l G M_Be_hashHighs (Ret (fun _ : (Nat → Int → Int) × (Nat → Int → Int) => none) (fun u => sD h u.1 u.2) (fun u => FC (fun a => a = 38 ∨ a = b ∨ a = r) I L u.1 u.2 ∧ u.1 b 1 = 32 ∧ ∀ k, 0 ≤ k → k < 32 → byAt u.1 b r k = spOut (hhS (fun k => byAt I 137 138 (0 + k)) (fun k => byAt I 141 142 (0 + k)) (I 141 1)) k)) 0 (a_ar 0 [vr 36, vr 33, vr b]) [] (sD h I L) := by
  suffices key : ∀ P : a_R → Hp → Prop, (∀ I2 L2, FC (fun a => a = 38 ∨ a = b ∨ a = r) I L I2 L2 → I2 b 1 = 32 → (∀ k, 0 ≤ k → k < 32 → byAt I2 b r k = spOut (hhS (fun k => byAt I 137 138 (0 + k)) (fun k => byAt I 141 142 (0 + k)) (I 141 1)) k) → P (.inl none) (sD h I2 L2)) → AW l G M_Be_hashHighs P 0 [(0, vr 36), (1, vr 33), (2, vr b)] [] (sD h I L) from key _ (fun I2 L2 q1 q2 q3 => ⟨(I2, L2), rfl, rfl, q1, q2, q3⟩)
  intro P hP
  refine aw_aload_n d_Be_hashHighs_0 rfl rfl ?_
  refine ax_getR (b := 38) d_Be_hashHighs_1 fd_Be_22 (k_36 S) (r_36_1 S) ?_
  refine ax_Vr (st := []) (as := []) (b := 38) d_Be_hashHighs_4 cs_Be_hashHighs_4 (k_38 S) (c_Sp_start256 S) rfl rfl rfl (fun u_4 q_4 => ?_)
  obtain ⟨I1, L1⟩ := u_4
  obtain ⟨F1, e1⟩ := q_4
  dsimp only at F1 e1
  show AW l G M_Be_hashHighs P 7 [(0, vr 36), (1, vr 33), (2, vr b)] [] (sD h I1 L1)
  refine aw_aload_n d_Be_hashHighs_7 rfl rfl ?_
  refine ax_getR (b := 38) d_Be_hashHighs_8 fd_Be_22 (k_36 S) (r_36_1 S) ?_
  refine aw_aload_n d_Be_hashHighs_11 rfl rfl ?_
  refine ax_getR (b := 137) d_Be_hashHighs_12 fd_Be_59 (k_36 S) (r_36_10 S) ?_
  refine aw_iconst d_Be_hashHighs_15 ⟨by decide, by decide⟩ ?_
  refine aw_bipush d_Be_hashHighs_16 ⟨by decide, by decide⟩ (by decide) ?_
  refine ax_Vr (st := []) (as := [vr 137, vi 0, vi 64]) (b := 38) d_Be_hashHighs_18 cs_Be_hashHighs_18 (k_38 S) (c_Sp_takePart S (SD.1.sp F1) (by rw [e1]; exact (spStart_lt (by decide) (by decide)).1) ⟨k_137 S, r_137_0 S, k_138 S, by decide, by decide, by decide⟩ ⟨by decide, by decide⟩ (by rw [F1.1 137 1 (by decide), n_138 S]; omega)) rfl rfl rfl (fun u_18 q_18 => ?_)
  obtain ⟨I2, L2⟩ := u_18
  obtain ⟨F2, e2⟩ := q_18
  dsimp only at F2 e2
  show AW l G M_Be_hashHighs P 21 [(0, vr 36), (1, vr 33), (2, vr b)] [] (sD h I2 L2)
  refine aw_aload_n d_Be_hashHighs_21 rfl rfl ?_
  refine ax_getR (b := 38) d_Be_hashHighs_22 fd_Be_22 (k_36 S) (r_36_1 S) ?_
  refine aw_aload_n d_Be_hashHighs_25 rfl rfl ?_
  refine ax_getR (b := 141) d_Be_hashHighs_26 fd_Be_66 (k_36 S) (r_36_12 S) ?_
  refine aw_iconst d_Be_hashHighs_29 ⟨by decide, by decide⟩ ?_
  refine aw_aload_n d_Be_hashHighs_30 rfl rfl ?_
  refine ax_getR (b := 141) d_Be_hashHighs_31 fd_Be_66 (k_36 S) (r_36_12 S) ?_
  refine ax_getIe (x := I 141 1) d_Be_hashHighs_34 fd_Be_102 (k_141 S) (Eq.trans ((F1.tr F2).1 141 1 (by decide)) (rfl)) ?_
  refine ax_Vr (st := []) (as := [vr 141, vi 0, vi (I 141 1)]) (b := 38) d_Be_hashHighs_37 cs_Be_hashHighs_37 (k_38 S) (c_Sp_takePart S ((SD.1.sp F1).sp F2) (by rw [e2, e1]; exact spPart_ok ((spStart_lt (by decide) (by decide)).1) _ _) ⟨k_141 S, r_141_0 S, k_142 S, by decide, by decide, by decide⟩ ⟨by decide, by decide⟩ (by rw [(F1.tr F2).1 141 1 (by decide), n_142 S]; omega)) rfl rfl rfl (fun u_37 q_37 => ?_)
  obtain ⟨I3, L3⟩ := u_37
  obtain ⟨F3, e3⟩ := q_37
  dsimp only at F3 e3
  show AW l G M_Be_hashHighs P 40 [(0, vr 36), (1, vr 33), (2, vr b)] [] (sD h I3 L3)
  refine aw_aload_n d_Be_hashHighs_40 rfl rfl ?_
  refine ax_getR (b := 38) d_Be_hashHighs_41 fd_Be_22 (k_36 S) (r_36_1 S) ?_
  refine ax_Vr (st := []) (as := []) (b := 38) d_Be_hashHighs_44 cs_Be_hashHighs_44 (k_38 S) (c_Sp_turn S (((SD.1.sp F1).sp F2).sp F3) (by rw [e3, e2, e1]; exact spPart_ok (spPart_ok ((spStart_lt (by decide) (by decide)).1) _ _) _ _)) rfl rfl rfl (fun u_44 q_44 => ?_)
  obtain ⟨I4, L4⟩ := u_44
  obtain ⟨F4, e4⟩ := q_44
  dsimp only at F4 e4
  show AW l G M_Be_hashHighs P 47 [(0, vr 36), (1, vr 33), (2, vr b)] [] (sD h I4 L4)
  have eS : spOf I4 L4 = (hhS (fun k => byAt I 137 138 (0 + k)) (fun k => byAt I 141 142 (0 + k)) (I 141 1)) := by rw [e4, e3, e2, e1, show (fun k => byAt I1 137 138 (0 + k)) = (fun k => byAt I 137 138 (0 + k)) from funext (fun k => byAt_sp F1.1 (by decide) (by decide)), show (fun k => byAt I2 141 142 (0 + k)) = (fun k => byAt I 141 142 (0 + k)) from funext (fun k => byAt_sp (F1.tr F2).1 (by decide) (by decide))]; rfl
  refine aw_aload_n d_Be_hashHighs_47 rfl rfl ?_
  refine ax_getR (b := 38) d_Be_hashHighs_48 fd_Be_22 (k_36 S) (r_36_1 S) ?_
  refine aw_aload_n d_Be_hashHighs_51 rfl rfl ?_
  refine aw_aload_n d_Be_hashHighs_52 rfl rfl ?_
  refine ax_getIe (x := 32) d_Be_hashHighs_53 fd_Be_112 (k_33 S) (Eq.trans ((((F1.tr F2).tr F3).tr F4).1 33 7 (by decide)) (pc_33_7 SD.2.1)) ?_
  refine ax_Vr (st := []) (as := [vr b, vi 32]) (b := 38) d_Be_hashHighs_56 cs_Be_hashHighs_56 (k_38 S) (c_Sp_giveTo S ((((SD.1.sp F1).sp F2).sp F3).sp F4) (by rw [e4, e3, e2, e1]; exact spTurn_ok (spPart_ok (spPart_ok ((spStart_lt (by decide) (by decide)).1) _ _) _ _)) SB ⟨by omega, by omega⟩ (by omega)) rfl rfl rfl (fun u_56 q_56 => ?_)
  obtain ⟨I9, L9⟩ := u_56
  obtain ⟨F9, f9, e9⟩ := q_56
  dsimp only at F9 f9 e9
  rw [eS] at F9
  show AW l G M_Be_hashHighs P 59 [(0, vr 36), (1, vr 33), (2, vr b)] [] (sD h I9 L9)
  exact aw_vret d_Be_hashHighs_59 rfl (hP _ _ (((((F1.tr F2).tr F3).tr F4).fc).tr (gv_fc F9 f9) (by intro a x; omega)) (gv_at F9 (by omega) (by omega) SB.2.2.2.2.2).1 (gv_at F9 (by omega) (by omega) SB.2.2.2.2.2).2)
set_option maxHeartbeats 800000 in
set_option maxRecDepth 100000 in
theorem c_Be_hashHighs1 {l : Launch} {G : a_G} {h : Hp} {I L : Nat → Int → Int} {b r : Nat} (S : Shp h) (SD : Std I L) (SB : ByO h b r) (hb : b ≠ 38 ∧ r ≠ 38) (hc : 64 ≤ hN h r ∧ hN h r < 2147483648 ∧ I 137 1 ≤ 64 ∧ 0 ≤ I 141 1 ∧ I 141 1 ≤ 1024) : AW l G M_Be_hashHighs (Ret (fun _ : (Nat → Int → Int) × (Nat → Int → Int) => none) (fun u => sD h u.1 u.2) (fun u => FC (fun a => a = 38 ∨ a = b ∨ a = r) I L u.1 u.2 ∧ u.1 b 1 = 48 ∧ ∀ k, 0 ≤ k → k < 48 → byAt u.1 b r k = spOut (hhS (fun k => byAt I 137 138 (0 + k)) (fun k => byAt I 141 142 (0 + k)) (I 141 1)) k)) 0 (a_ar 0 [vr 36, vr 34, vr b]) [] (sD h I L) := by
  suffices key : ∀ P : a_R → Hp → Prop, (∀ I2 L2, FC (fun a => a = 38 ∨ a = b ∨ a = r) I L I2 L2 → I2 b 1 = 48 → (∀ k, 0 ≤ k → k < 48 → byAt I2 b r k = spOut (hhS (fun k => byAt I 137 138 (0 + k)) (fun k => byAt I 141 142 (0 + k)) (I 141 1)) k) → P (.inl none) (sD h I2 L2)) → AW l G M_Be_hashHighs P 0 [(0, vr 36), (1, vr 34), (2, vr b)] [] (sD h I L) from key _ (fun I2 L2 q1 q2 q3 => ⟨(I2, L2), rfl, rfl, q1, q2, q3⟩)
  intro P hP
  refine aw_aload_n d_Be_hashHighs_0 rfl rfl ?_
  refine ax_getR (b := 38) d_Be_hashHighs_1 fd_Be_22 (k_36 S) (r_36_1 S) ?_
  refine ax_Vr (st := []) (as := []) (b := 38) d_Be_hashHighs_4 cs_Be_hashHighs_4 (k_38 S) (c_Sp_start256 S) rfl rfl rfl (fun u_4 q_4 => ?_)
  obtain ⟨I1, L1⟩ := u_4
  obtain ⟨F1, e1⟩ := q_4
  dsimp only at F1 e1
  show AW l G M_Be_hashHighs P 7 [(0, vr 36), (1, vr 34), (2, vr b)] [] (sD h I1 L1)
  refine aw_aload_n d_Be_hashHighs_7 rfl rfl ?_
  refine ax_getR (b := 38) d_Be_hashHighs_8 fd_Be_22 (k_36 S) (r_36_1 S) ?_
  refine aw_aload_n d_Be_hashHighs_11 rfl rfl ?_
  refine ax_getR (b := 137) d_Be_hashHighs_12 fd_Be_59 (k_36 S) (r_36_10 S) ?_
  refine aw_iconst d_Be_hashHighs_15 ⟨by decide, by decide⟩ ?_
  refine aw_bipush d_Be_hashHighs_16 ⟨by decide, by decide⟩ (by decide) ?_
  refine ax_Vr (st := []) (as := [vr 137, vi 0, vi 64]) (b := 38) d_Be_hashHighs_18 cs_Be_hashHighs_18 (k_38 S) (c_Sp_takePart S (SD.1.sp F1) (by rw [e1]; exact (spStart_lt (by decide) (by decide)).1) ⟨k_137 S, r_137_0 S, k_138 S, by decide, by decide, by decide⟩ ⟨by decide, by decide⟩ (by rw [F1.1 137 1 (by decide), n_138 S]; omega)) rfl rfl rfl (fun u_18 q_18 => ?_)
  obtain ⟨I2, L2⟩ := u_18
  obtain ⟨F2, e2⟩ := q_18
  dsimp only at F2 e2
  show AW l G M_Be_hashHighs P 21 [(0, vr 36), (1, vr 34), (2, vr b)] [] (sD h I2 L2)
  refine aw_aload_n d_Be_hashHighs_21 rfl rfl ?_
  refine ax_getR (b := 38) d_Be_hashHighs_22 fd_Be_22 (k_36 S) (r_36_1 S) ?_
  refine aw_aload_n d_Be_hashHighs_25 rfl rfl ?_
  refine ax_getR (b := 141) d_Be_hashHighs_26 fd_Be_66 (k_36 S) (r_36_12 S) ?_
  refine aw_iconst d_Be_hashHighs_29 ⟨by decide, by decide⟩ ?_
  refine aw_aload_n d_Be_hashHighs_30 rfl rfl ?_
  refine ax_getR (b := 141) d_Be_hashHighs_31 fd_Be_66 (k_36 S) (r_36_12 S) ?_
  refine ax_getIe (x := I 141 1) d_Be_hashHighs_34 fd_Be_102 (k_141 S) (Eq.trans ((F1.tr F2).1 141 1 (by decide)) (rfl)) ?_
  refine ax_Vr (st := []) (as := [vr 141, vi 0, vi (I 141 1)]) (b := 38) d_Be_hashHighs_37 cs_Be_hashHighs_37 (k_38 S) (c_Sp_takePart S ((SD.1.sp F1).sp F2) (by rw [e2, e1]; exact spPart_ok ((spStart_lt (by decide) (by decide)).1) _ _) ⟨k_141 S, r_141_0 S, k_142 S, by decide, by decide, by decide⟩ ⟨by decide, by decide⟩ (by rw [(F1.tr F2).1 141 1 (by decide), n_142 S]; omega)) rfl rfl rfl (fun u_37 q_37 => ?_)
  obtain ⟨I3, L3⟩ := u_37
  obtain ⟨F3, e3⟩ := q_37
  dsimp only at F3 e3
  show AW l G M_Be_hashHighs P 40 [(0, vr 36), (1, vr 34), (2, vr b)] [] (sD h I3 L3)
  refine aw_aload_n d_Be_hashHighs_40 rfl rfl ?_
  refine ax_getR (b := 38) d_Be_hashHighs_41 fd_Be_22 (k_36 S) (r_36_1 S) ?_
  refine ax_Vr (st := []) (as := []) (b := 38) d_Be_hashHighs_44 cs_Be_hashHighs_44 (k_38 S) (c_Sp_turn S (((SD.1.sp F1).sp F2).sp F3) (by rw [e3, e2, e1]; exact spPart_ok (spPart_ok ((spStart_lt (by decide) (by decide)).1) _ _) _ _)) rfl rfl rfl (fun u_44 q_44 => ?_)
  obtain ⟨I4, L4⟩ := u_44
  obtain ⟨F4, e4⟩ := q_44
  dsimp only at F4 e4
  show AW l G M_Be_hashHighs P 47 [(0, vr 36), (1, vr 34), (2, vr b)] [] (sD h I4 L4)
  have eS : spOf I4 L4 = (hhS (fun k => byAt I 137 138 (0 + k)) (fun k => byAt I 141 142 (0 + k)) (I 141 1)) := by rw [e4, e3, e2, e1, show (fun k => byAt I1 137 138 (0 + k)) = (fun k => byAt I 137 138 (0 + k)) from funext (fun k => byAt_sp F1.1 (by decide) (by decide)), show (fun k => byAt I2 141 142 (0 + k)) = (fun k => byAt I 141 142 (0 + k)) from funext (fun k => byAt_sp (F1.tr F2).1 (by decide) (by decide))]; rfl
  refine aw_aload_n d_Be_hashHighs_47 rfl rfl ?_
  refine ax_getR (b := 38) d_Be_hashHighs_48 fd_Be_22 (k_36 S) (r_36_1 S) ?_
  refine aw_aload_n d_Be_hashHighs_51 rfl rfl ?_
  refine aw_aload_n d_Be_hashHighs_52 rfl rfl ?_
  refine ax_getIe (x := 48) d_Be_hashHighs_53 fd_Be_112 (k_34 S) (Eq.trans ((((F1.tr F2).tr F3).tr F4).1 34 7 (by decide)) (pc_34_7 SD.2.1)) ?_
  refine ax_Vr (st := []) (as := [vr b, vi 48]) (b := 38) d_Be_hashHighs_56 cs_Be_hashHighs_56 (k_38 S) (c_Sp_giveTo S ((((SD.1.sp F1).sp F2).sp F3).sp F4) (by rw [e4, e3, e2, e1]; exact spTurn_ok (spPart_ok (spPart_ok ((spStart_lt (by decide) (by decide)).1) _ _) _ _)) SB ⟨by omega, by omega⟩ (by omega)) rfl rfl rfl (fun u_56 q_56 => ?_)
  obtain ⟨I9, L9⟩ := u_56
  obtain ⟨F9, f9, e9⟩ := q_56
  dsimp only at F9 f9 e9
  rw [eS] at F9
  show AW l G M_Be_hashHighs P 59 [(0, vr 36), (1, vr 34), (2, vr b)] [] (sD h I9 L9)
  exact aw_vret d_Be_hashHighs_59 rfl (hP _ _ (((((F1.tr F2).tr F3).tr F4).fc).tr (gv_fc F9 f9) (by intro a x; omega)) (gv_at F9 (by omega) (by omega) SB.2.2.2.2.2).1 (gv_at F9 (by omega) (by omega) SB.2.2.2.2.2).2)
set_option maxHeartbeats 800000 in
set_option maxRecDepth 100000 in
theorem c_Be_hashHighs2 {l : Launch} {G : a_G} {h : Hp} {I L : Nat → Int → Int} {b r : Nat} (S : Shp h) (SD : Std I L) (SB : ByO h b r) (hb : b ≠ 38 ∧ r ≠ 38) (hc : 64 ≤ hN h r ∧ hN h r < 2147483648 ∧ I 137 1 ≤ 64 ∧ 0 ≤ I 141 1 ∧ I 141 1 ≤ 1024) : AW l G M_Be_hashHighs (Ret (fun _ : (Nat → Int → Int) × (Nat → Int → Int) => none) (fun u => sD h u.1 u.2) (fun u => FC (fun a => a = 38 ∨ a = b ∨ a = r) I L u.1 u.2 ∧ u.1 b 1 = 64 ∧ ∀ k, 0 ≤ k → k < 64 → byAt u.1 b r k = spOut (hhS (fun k => byAt I 137 138 (0 + k)) (fun k => byAt I 141 142 (0 + k)) (I 141 1)) k)) 0 (a_ar 0 [vr 36, vr 35, vr b]) [] (sD h I L) := by
  suffices key : ∀ P : a_R → Hp → Prop, (∀ I2 L2, FC (fun a => a = 38 ∨ a = b ∨ a = r) I L I2 L2 → I2 b 1 = 64 → (∀ k, 0 ≤ k → k < 64 → byAt I2 b r k = spOut (hhS (fun k => byAt I 137 138 (0 + k)) (fun k => byAt I 141 142 (0 + k)) (I 141 1)) k) → P (.inl none) (sD h I2 L2)) → AW l G M_Be_hashHighs P 0 [(0, vr 36), (1, vr 35), (2, vr b)] [] (sD h I L) from key _ (fun I2 L2 q1 q2 q3 => ⟨(I2, L2), rfl, rfl, q1, q2, q3⟩)
  intro P hP
  refine aw_aload_n d_Be_hashHighs_0 rfl rfl ?_
  refine ax_getR (b := 38) d_Be_hashHighs_1 fd_Be_22 (k_36 S) (r_36_1 S) ?_
  refine ax_Vr (st := []) (as := []) (b := 38) d_Be_hashHighs_4 cs_Be_hashHighs_4 (k_38 S) (c_Sp_start256 S) rfl rfl rfl (fun u_4 q_4 => ?_)
  obtain ⟨I1, L1⟩ := u_4
  obtain ⟨F1, e1⟩ := q_4
  dsimp only at F1 e1
  show AW l G M_Be_hashHighs P 7 [(0, vr 36), (1, vr 35), (2, vr b)] [] (sD h I1 L1)
  refine aw_aload_n d_Be_hashHighs_7 rfl rfl ?_
  refine ax_getR (b := 38) d_Be_hashHighs_8 fd_Be_22 (k_36 S) (r_36_1 S) ?_
  refine aw_aload_n d_Be_hashHighs_11 rfl rfl ?_
  refine ax_getR (b := 137) d_Be_hashHighs_12 fd_Be_59 (k_36 S) (r_36_10 S) ?_
  refine aw_iconst d_Be_hashHighs_15 ⟨by decide, by decide⟩ ?_
  refine aw_bipush d_Be_hashHighs_16 ⟨by decide, by decide⟩ (by decide) ?_
  refine ax_Vr (st := []) (as := [vr 137, vi 0, vi 64]) (b := 38) d_Be_hashHighs_18 cs_Be_hashHighs_18 (k_38 S) (c_Sp_takePart S (SD.1.sp F1) (by rw [e1]; exact (spStart_lt (by decide) (by decide)).1) ⟨k_137 S, r_137_0 S, k_138 S, by decide, by decide, by decide⟩ ⟨by decide, by decide⟩ (by rw [F1.1 137 1 (by decide), n_138 S]; omega)) rfl rfl rfl (fun u_18 q_18 => ?_)
  obtain ⟨I2, L2⟩ := u_18
  obtain ⟨F2, e2⟩ := q_18
  dsimp only at F2 e2
  show AW l G M_Be_hashHighs P 21 [(0, vr 36), (1, vr 35), (2, vr b)] [] (sD h I2 L2)
  refine aw_aload_n d_Be_hashHighs_21 rfl rfl ?_
  refine ax_getR (b := 38) d_Be_hashHighs_22 fd_Be_22 (k_36 S) (r_36_1 S) ?_
  refine aw_aload_n d_Be_hashHighs_25 rfl rfl ?_
  refine ax_getR (b := 141) d_Be_hashHighs_26 fd_Be_66 (k_36 S) (r_36_12 S) ?_
  refine aw_iconst d_Be_hashHighs_29 ⟨by decide, by decide⟩ ?_
  refine aw_aload_n d_Be_hashHighs_30 rfl rfl ?_
  refine ax_getR (b := 141) d_Be_hashHighs_31 fd_Be_66 (k_36 S) (r_36_12 S) ?_
  refine ax_getIe (x := I 141 1) d_Be_hashHighs_34 fd_Be_102 (k_141 S) (Eq.trans ((F1.tr F2).1 141 1 (by decide)) (rfl)) ?_
  refine ax_Vr (st := []) (as := [vr 141, vi 0, vi (I 141 1)]) (b := 38) d_Be_hashHighs_37 cs_Be_hashHighs_37 (k_38 S) (c_Sp_takePart S ((SD.1.sp F1).sp F2) (by rw [e2, e1]; exact spPart_ok ((spStart_lt (by decide) (by decide)).1) _ _) ⟨k_141 S, r_141_0 S, k_142 S, by decide, by decide, by decide⟩ ⟨by decide, by decide⟩ (by rw [(F1.tr F2).1 141 1 (by decide), n_142 S]; omega)) rfl rfl rfl (fun u_37 q_37 => ?_)
  obtain ⟨I3, L3⟩ := u_37
  obtain ⟨F3, e3⟩ := q_37
  dsimp only at F3 e3
  show AW l G M_Be_hashHighs P 40 [(0, vr 36), (1, vr 35), (2, vr b)] [] (sD h I3 L3)
  refine aw_aload_n d_Be_hashHighs_40 rfl rfl ?_
  refine ax_getR (b := 38) d_Be_hashHighs_41 fd_Be_22 (k_36 S) (r_36_1 S) ?_
  refine ax_Vr (st := []) (as := []) (b := 38) d_Be_hashHighs_44 cs_Be_hashHighs_44 (k_38 S) (c_Sp_turn S (((SD.1.sp F1).sp F2).sp F3) (by rw [e3, e2, e1]; exact spPart_ok (spPart_ok ((spStart_lt (by decide) (by decide)).1) _ _) _ _)) rfl rfl rfl (fun u_44 q_44 => ?_)
  obtain ⟨I4, L4⟩ := u_44
  obtain ⟨F4, e4⟩ := q_44
  dsimp only at F4 e4
  show AW l G M_Be_hashHighs P 47 [(0, vr 36), (1, vr 35), (2, vr b)] [] (sD h I4 L4)
  have eS : spOf I4 L4 = (hhS (fun k => byAt I 137 138 (0 + k)) (fun k => byAt I 141 142 (0 + k)) (I 141 1)) := by rw [e4, e3, e2, e1, show (fun k => byAt I1 137 138 (0 + k)) = (fun k => byAt I 137 138 (0 + k)) from funext (fun k => byAt_sp F1.1 (by decide) (by decide)), show (fun k => byAt I2 141 142 (0 + k)) = (fun k => byAt I 141 142 (0 + k)) from funext (fun k => byAt_sp (F1.tr F2).1 (by decide) (by decide))]; rfl
  refine aw_aload_n d_Be_hashHighs_47 rfl rfl ?_
  refine ax_getR (b := 38) d_Be_hashHighs_48 fd_Be_22 (k_36 S) (r_36_1 S) ?_
  refine aw_aload_n d_Be_hashHighs_51 rfl rfl ?_
  refine aw_aload_n d_Be_hashHighs_52 rfl rfl ?_
  refine ax_getIe (x := 64) d_Be_hashHighs_53 fd_Be_112 (k_35 S) (Eq.trans ((((F1.tr F2).tr F3).tr F4).1 35 7 (by decide)) (pc_35_7 SD.2.1)) ?_
  refine ax_Vr (st := []) (as := [vr b, vi 64]) (b := 38) d_Be_hashHighs_56 cs_Be_hashHighs_56 (k_38 S) (c_Sp_giveTo S ((((SD.1.sp F1).sp F2).sp F3).sp F4) (by rw [e4, e3, e2, e1]; exact spTurn_ok (spPart_ok (spPart_ok ((spStart_lt (by decide) (by decide)).1) _ _) _ _)) SB ⟨by omega, by omega⟩ (by omega)) rfl rfl rfl (fun u_56 q_56 => ?_)
  obtain ⟨I9, L9⟩ := u_56
  obtain ⟨F9, f9, e9⟩ := q_56
  dsimp only at F9 f9 e9
  rw [eS] at F9
  show AW l G M_Be_hashHighs P 59 [(0, vr 36), (1, vr 35), (2, vr b)] [] (sD h I9 L9)
  exact aw_vret d_Be_hashHighs_59 rfl (hP _ _ (((((F1.tr F2).tr F3).tr F4).fc).tr (gv_fc F9 f9) (by intro a x; omega)) (gv_at F9 (by omega) (by omega) SB.2.2.2.2.2).1 (gv_at F9 (by omega) (by omega) SB.2.2.2.2.2).2)
set_option maxHeartbeats 800000 in
set_option maxRecDepth 100000 in
theorem c_Be_castBall0 {l : Launch} {G : a_G} {h : Hp} {I L : Nat → Int → Int} (S : Shp h) (hfl : l.flags = flags0) (rm : hX h + 1 ≤ a_NX ∧ hU h + 6 ≤ a_US) (SD : Std I L) (hc : 0 ≤ I 139 1 ∧ I 139 1 ≤ 64) : AW l G M_Be_castBall (ThR h I L (bll 39 (blS (fun k => byAt I 139 140 (0 + k)) (I 139 1)) ≠ none) (fun I' L' => FC (fun a => a = 38 ∨ a = 135) I L I' L' ∧ eqQ (I' 135) (fwd rt (fun j => blX 39 (blS (fun k => byAt I 139 140 (0 + k)) (I 139 1)) j % 8380417)))) 0 (a_ar 0 [vr 36, vr 33]) [] (sD h I L) := by
  suffices key : ∀ P : a_R → Hp → Prop, (∀ r_ h2_, ThR h I L (bll 39 (blS (fun k => byAt I 139 140 (0 + k)) (I 139 1)) ≠ none) (fun I' L' => FC (fun a => a = 38 ∨ a = 135) I L I' L' ∧ eqQ (I' 135) (fwd rt (fun j => blX 39 (blS (fun k => byAt I 139 140 (0 + k)) (I 139 1)) j % 8380417))) r_ h2_ → P r_ h2_) → AW l G M_Be_castBall P 0 [(0, vr 36), (1, vr 33)] [] (sD h I L) from key _ (fun _ _ q => q)
  intro P hP
  refine aw_aload_n d_Be_castBall_0 rfl rfl ?_
  refine ax_getR (b := 37) d_Be_castBall_1 fd_Be_12 (k_36 S) (r_36_0 S) ?_
  refine aw_aload_n d_Be_castBall_4 rfl rfl ?_
  refine ax_getR (b := 139) d_Be_castBall_5 fd_Be_63 (k_36 S) (r_36_11 S) ?_
  refine aw_aload_n d_Be_castBall_8 rfl rfl ?_
  refine ax_getIe (x := 39) d_Be_castBall_9 fd_Be_115 (k_33 S) (pc_33_3 SD.2.1) ?_
  refine aw_aload_n d_Be_castBall_12 rfl rfl ?_
  refine ax_getR (b := 135) d_Be_castBall_13 fd_Be_47 (k_36 S) (r_36_8 S) ?_
  refine ax_VtT (st := []) (as := [vr 139, vi 39, vr 135]) (b := 37) d_Be_castBall_16 cs_Be_castBall_16 (k_37 S) (c_Sa_ball S hfl rm SD.1 (by omega) (by omega)) rfl rfl rfl (fun ok_16 I_16 L_16 q_16 => ?_) (fun no_16 I_16 L_16 q_16 => at_leave rfl (hP _ _ (Or.inr ⟨no_16, I_16, L_16, q_16, rfl, rfl⟩)))
  have FB : FC (fun a => a = 38 ∨ a = 135) I L I_16 L_16 := ⟨fun a j x => q_16.1.1 a j (fun e => x (Or.inl e)) (fun e => x (Or.inr e)), q_16.1.2⟩
  have qb : inQ (I_16 135) := fun j x y => by rw [q_16.2 j x y]; omega
  show AW l G M_Be_castBall P 19 [(0, vr 36), (1, vr 33)] [] (sD h I_16 L_16)
  refine aw_aload_n d_Be_castBall_19 rfl rfl ?_
  refine ax_getR (b := 42) d_Be_castBall_20 fd_Be_26 (k_36 S) (r_36_2 S) ?_
  refine aw_aload_n d_Be_castBall_23 rfl rfl ?_
  refine ax_getR (b := 135) d_Be_castBall_24 fd_Be_47 (k_36 S) (r_36_8 S) ?_
  refine ax_V (st := []) (as := [vr 135]) (b := 42) (v := none) (h' := sD h (cset I_16 135 (fwd (I_16 43) (I_16 135))) L_16) d_Be_castBall_27 cs_Be_castBall_27 (k_42 S) (c_Ri_forward S ⟨k_135 S, by decide, n_135 S⟩ (by decide) qb (SD.fc FB (by intro a x; omega)).R) rfl rfl rfl ?_
  show AW l G M_Be_castBall P 30 [(0, vr 36), (1, vr 33)] [] (sD h (cset I_16 135 (fwd (I_16 43) (I_16 135))) L_16)
  exact aw_vret d_Be_castBall_30 rfl (hP _ _ (Or.inl ⟨ok_16, _, _, ⟨FB.tr (FC.cs (p := fun a => a = 135) rfl) (by intro a x; omega), fun j x y => by rw [cset_at, (SD.fc FB (by intro a x; omega)).2.2]; exact fwd_eq (fun z u v => q_16.2 z u v) j x y⟩, rfl, rfl⟩))
set_option maxHeartbeats 800000 in
set_option maxRecDepth 100000 in
theorem c_Be_castBall1 {l : Launch} {G : a_G} {h : Hp} {I L : Nat → Int → Int} (S : Shp h) (hfl : l.flags = flags0) (rm : hX h + 1 ≤ a_NX ∧ hU h + 6 ≤ a_US) (SD : Std I L) (hc : 0 ≤ I 139 1 ∧ I 139 1 ≤ 64) : AW l G M_Be_castBall (ThR h I L (bll 49 (blS (fun k => byAt I 139 140 (0 + k)) (I 139 1)) ≠ none) (fun I' L' => FC (fun a => a = 38 ∨ a = 135) I L I' L' ∧ eqQ (I' 135) (fwd rt (fun j => blX 49 (blS (fun k => byAt I 139 140 (0 + k)) (I 139 1)) j % 8380417)))) 0 (a_ar 0 [vr 36, vr 34]) [] (sD h I L) := by
  suffices key : ∀ P : a_R → Hp → Prop, (∀ r_ h2_, ThR h I L (bll 49 (blS (fun k => byAt I 139 140 (0 + k)) (I 139 1)) ≠ none) (fun I' L' => FC (fun a => a = 38 ∨ a = 135) I L I' L' ∧ eqQ (I' 135) (fwd rt (fun j => blX 49 (blS (fun k => byAt I 139 140 (0 + k)) (I 139 1)) j % 8380417))) r_ h2_ → P r_ h2_) → AW l G M_Be_castBall P 0 [(0, vr 36), (1, vr 34)] [] (sD h I L) from key _ (fun _ _ q => q)
  intro P hP
  refine aw_aload_n d_Be_castBall_0 rfl rfl ?_
  refine ax_getR (b := 37) d_Be_castBall_1 fd_Be_12 (k_36 S) (r_36_0 S) ?_
  refine aw_aload_n d_Be_castBall_4 rfl rfl ?_
  refine ax_getR (b := 139) d_Be_castBall_5 fd_Be_63 (k_36 S) (r_36_11 S) ?_
  refine aw_aload_n d_Be_castBall_8 rfl rfl ?_
  refine ax_getIe (x := 49) d_Be_castBall_9 fd_Be_115 (k_34 S) (pc_34_3 SD.2.1) ?_
  refine aw_aload_n d_Be_castBall_12 rfl rfl ?_
  refine ax_getR (b := 135) d_Be_castBall_13 fd_Be_47 (k_36 S) (r_36_8 S) ?_
  refine ax_VtT (st := []) (as := [vr 139, vi 49, vr 135]) (b := 37) d_Be_castBall_16 cs_Be_castBall_16 (k_37 S) (c_Sa_ball S hfl rm SD.1 (by omega) (by omega)) rfl rfl rfl (fun ok_16 I_16 L_16 q_16 => ?_) (fun no_16 I_16 L_16 q_16 => at_leave rfl (hP _ _ (Or.inr ⟨no_16, I_16, L_16, q_16, rfl, rfl⟩)))
  have FB : FC (fun a => a = 38 ∨ a = 135) I L I_16 L_16 := ⟨fun a j x => q_16.1.1 a j (fun e => x (Or.inl e)) (fun e => x (Or.inr e)), q_16.1.2⟩
  have qb : inQ (I_16 135) := fun j x y => by rw [q_16.2 j x y]; omega
  show AW l G M_Be_castBall P 19 [(0, vr 36), (1, vr 34)] [] (sD h I_16 L_16)
  refine aw_aload_n d_Be_castBall_19 rfl rfl ?_
  refine ax_getR (b := 42) d_Be_castBall_20 fd_Be_26 (k_36 S) (r_36_2 S) ?_
  refine aw_aload_n d_Be_castBall_23 rfl rfl ?_
  refine ax_getR (b := 135) d_Be_castBall_24 fd_Be_47 (k_36 S) (r_36_8 S) ?_
  refine ax_V (st := []) (as := [vr 135]) (b := 42) (v := none) (h' := sD h (cset I_16 135 (fwd (I_16 43) (I_16 135))) L_16) d_Be_castBall_27 cs_Be_castBall_27 (k_42 S) (c_Ri_forward S ⟨k_135 S, by decide, n_135 S⟩ (by decide) qb (SD.fc FB (by intro a x; omega)).R) rfl rfl rfl ?_
  show AW l G M_Be_castBall P 30 [(0, vr 36), (1, vr 34)] [] (sD h (cset I_16 135 (fwd (I_16 43) (I_16 135))) L_16)
  exact aw_vret d_Be_castBall_30 rfl (hP _ _ (Or.inl ⟨ok_16, _, _, ⟨FB.tr (FC.cs (p := fun a => a = 135) rfl) (by intro a x; omega), fun j x y => by rw [cset_at, (SD.fc FB (by intro a x; omega)).2.2]; exact fwd_eq (fun z u v => q_16.2 z u v) j x y⟩, rfl, rfl⟩))
set_option maxHeartbeats 800000 in
set_option maxRecDepth 100000 in
theorem c_Be_castBall2 {l : Launch} {G : a_G} {h : Hp} {I L : Nat → Int → Int} (S : Shp h) (hfl : l.flags = flags0) (rm : hX h + 1 ≤ a_NX ∧ hU h + 6 ≤ a_US) (SD : Std I L) (hc : 0 ≤ I 139 1 ∧ I 139 1 ≤ 64) : AW l G M_Be_castBall (ThR h I L (bll 60 (blS (fun k => byAt I 139 140 (0 + k)) (I 139 1)) ≠ none) (fun I' L' => FC (fun a => a = 38 ∨ a = 135) I L I' L' ∧ eqQ (I' 135) (fwd rt (fun j => blX 60 (blS (fun k => byAt I 139 140 (0 + k)) (I 139 1)) j % 8380417)))) 0 (a_ar 0 [vr 36, vr 35]) [] (sD h I L) := by
  suffices key : ∀ P : a_R → Hp → Prop, (∀ r_ h2_, ThR h I L (bll 60 (blS (fun k => byAt I 139 140 (0 + k)) (I 139 1)) ≠ none) (fun I' L' => FC (fun a => a = 38 ∨ a = 135) I L I' L' ∧ eqQ (I' 135) (fwd rt (fun j => blX 60 (blS (fun k => byAt I 139 140 (0 + k)) (I 139 1)) j % 8380417))) r_ h2_ → P r_ h2_) → AW l G M_Be_castBall P 0 [(0, vr 36), (1, vr 35)] [] (sD h I L) from key _ (fun _ _ q => q)
  intro P hP
  refine aw_aload_n d_Be_castBall_0 rfl rfl ?_
  refine ax_getR (b := 37) d_Be_castBall_1 fd_Be_12 (k_36 S) (r_36_0 S) ?_
  refine aw_aload_n d_Be_castBall_4 rfl rfl ?_
  refine ax_getR (b := 139) d_Be_castBall_5 fd_Be_63 (k_36 S) (r_36_11 S) ?_
  refine aw_aload_n d_Be_castBall_8 rfl rfl ?_
  refine ax_getIe (x := 60) d_Be_castBall_9 fd_Be_115 (k_35 S) (pc_35_3 SD.2.1) ?_
  refine aw_aload_n d_Be_castBall_12 rfl rfl ?_
  refine ax_getR (b := 135) d_Be_castBall_13 fd_Be_47 (k_36 S) (r_36_8 S) ?_
  refine ax_VtT (st := []) (as := [vr 139, vi 60, vr 135]) (b := 37) d_Be_castBall_16 cs_Be_castBall_16 (k_37 S) (c_Sa_ball S hfl rm SD.1 (by omega) (by omega)) rfl rfl rfl (fun ok_16 I_16 L_16 q_16 => ?_) (fun no_16 I_16 L_16 q_16 => at_leave rfl (hP _ _ (Or.inr ⟨no_16, I_16, L_16, q_16, rfl, rfl⟩)))
  have FB : FC (fun a => a = 38 ∨ a = 135) I L I_16 L_16 := ⟨fun a j x => q_16.1.1 a j (fun e => x (Or.inl e)) (fun e => x (Or.inr e)), q_16.1.2⟩
  have qb : inQ (I_16 135) := fun j x y => by rw [q_16.2 j x y]; omega
  show AW l G M_Be_castBall P 19 [(0, vr 36), (1, vr 35)] [] (sD h I_16 L_16)
  refine aw_aload_n d_Be_castBall_19 rfl rfl ?_
  refine ax_getR (b := 42) d_Be_castBall_20 fd_Be_26 (k_36 S) (r_36_2 S) ?_
  refine aw_aload_n d_Be_castBall_23 rfl rfl ?_
  refine ax_getR (b := 135) d_Be_castBall_24 fd_Be_47 (k_36 S) (r_36_8 S) ?_
  refine ax_V (st := []) (as := [vr 135]) (b := 42) (v := none) (h' := sD h (cset I_16 135 (fwd (I_16 43) (I_16 135))) L_16) d_Be_castBall_27 cs_Be_castBall_27 (k_42 S) (c_Ri_forward S ⟨k_135 S, by decide, n_135 S⟩ (by decide) qb (SD.fc FB (by intro a x; omega)).R) rfl rfl rfl ?_
  show AW l G M_Be_castBall P 30 [(0, vr 36), (1, vr 35)] [] (sD h (cset I_16 135 (fwd (I_16 43) (I_16 135))) L_16)
  exact aw_vret d_Be_castBall_30 rfl (hP _ _ (Or.inl ⟨ok_16, _, _, ⟨FB.tr (FC.cs (p := fun a => a = 135) rfl) (by intro a x; omega), fun j x y => by rw [cset_at, (SD.fc FB (by intro a x; omega)).2.2]; exact fwd_eq (fun z u v => q_16.2 z u v) j x y⟩, rfl, rfl⟩))
