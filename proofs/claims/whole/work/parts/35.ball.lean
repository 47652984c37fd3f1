/-! sampling: the ball -/
def drw (i : Int) : Nat → Sp → Int × Sp × Nat
  | 0, s => (256, s, 0)
  | n + 1, s => if spGet s ≤ i then (spGet s, spNext s, n) else drw i n (spNext s)
abbrev BlS : Type := Sp × Nat × (Int → Int)
def sgnB (V : Int) (k : Nat) : Int := if V / 2 ^ k % 2 = 1 then -1 else 1
def blStep (V i : Int) (k : Nat) (r : BlS) : Option BlS := if (drw i r.2.1 r.1).1 ≤ i then some ((drw i r.2.1 r.1).2.1, (drw i r.2.1 r.1).2.2, fun j => if j = (drw i r.2.1 r.1).1 then sgnB V k else if j = i then r.2.2 (drw i r.2.1 r.1).1 else r.2.2 j) else none
def blIt (V tau : Int) (r0 : BlS) : Nat → Option BlS
  | 0 => some r0
  | k + 1 => (blIt V tau r0 k).bind (blStep V (256 - tau + k) k)
def bll (tau : Int) (s : Sp) : Option BlS := blIt (bV (spOut s) 8 8) tau (spAt s 8, 121, fun _ => 0) tau.toNat
def blX (tau : Int) (s : Sp) : Int → Int := match bll tau s with
  | some r => r.2.2
  | none => fun _ => 0
theorem blIt_go {V tau i j : Int} {r0 : BlS} {k lf l2 : Nat} {s1 s2 : Sp} {X : Int → Int} (h : blIt V tau r0 k = some (s1, lf, X)) (hd : drw i lf s1 = (j, s2, l2)) (hj : j ≤ i) (hi : i = 256 - tau + k) : blIt V tau r0 (k + 1) = some (s2, l2, fun x => if x = j then sgnB V k else if x = i then X j else X x) := by
  show (blIt V tau r0 k).bind (blStep V (256 - tau + k) k) = _
  rw [h, ← hi]
  show blStep V i k (s1, lf, X) = _
  unfold blStep
  show (if (drw i lf s1).1 ≤ i then _ else none) = _
  rw [hd, if_pos hj]
theorem blIt_no {V tau i : Int} {r0 : BlS} {k lf : Nat} {s1 : Sp} {X : Int → Int} (h : blIt V tau r0 k = some (s1, lf, X)) (hd : ¬ (drw i lf s1).1 ≤ i) (hi : i = 256 - tau + k) : blIt V tau r0 (k + 1) = none := by
  show (blIt V tau r0 k).bind (blStep V (256 - tau + k) k) = _
  rw [h, ← hi]
  show blStep V i k (s1, lf, X) = _
  unfold blStep
  show (if (drw i lf s1).1 ≤ i then _ else none) = _
  rw [if_neg hd]
theorem blIt_none {V tau : Int} {r0 : BlS} {k : Nat} (h : blIt V tau r0 k = none) : ∀ n, blIt V tau r0 (k + n) = none
  | 0 => h
  | n + 1 => by
    show (blIt V tau r0 (k + n)).bind _ = none
    rw [blIt_none h n]
    rfl
theorem bll_some {tau : Int} {s s1 : Sp} {k lf : Nat} {X : Int → Int} (h : blIt (bV (spOut s) 8 8) tau (spAt s 8, 121, fun _ => 0) k = some (s1, lf, X)) (hk : (k : Int) = tau) : bll tau s ≠ none ∧ blX tau s = X := by
  have e : bll tau s = some (s1, lf, X) := by unfold bll; rw [show tau.toNat = k by omega, h]
  refine ⟨by rw [e]; exact Option.some_ne_none _, ?_⟩
  unfold blX
  rw [e]
theorem bll_none {tau : Int} {s : Sp} {k : Nat} (h : blIt (bV (spOut s) 8 8) tau (spAt s 8, 121, fun _ => 0) k = none) (hk : (k : Int) ≤ tau) : bll tau s = none := by
  unfold bll
  have := blIt_none h (tau.toNat - k)
  rwa [show k + (tau.toNat - k) = tau.toNat by omega] at this
theorem drw_b {i : Int} : ∀ (n : Nat) (s : Sp), (drw i n s).1 ≤ i → 0 ≤ (drw i n s).1
  | 0, s => fun h => by show (0 : Int) ≤ 256; decide
  | n + 1, s => by
    show (if spGet s ≤ i then (spGet s, spNext s, n) else drw i n (spNext s)).1 ≤ i → 0 ≤ (if spGet s ≤ i then (spGet s, spNext s, n) else drw i n (spNext s)).1
    split
    · exact fun _ => (spGet_lt s).1
    · exact drw_b n (spNext s)
/-- drawing goes on: not yet, or found -/
def drI (D : Int × Sp × Nat) (i j : Int) (s : Sp) (lf : Int) : Prop := (i < j ∧ drw i lf.toNat s = D) ∨ (0 ≤ j ∧ j ≤ i ∧ D = (j, s, lf.toNat))
theorem drI_step {D : Int × Sp × Nat} {i j lf : Int} {s : Sp} (h : drI D i j s lf) (hj : i < j) (hl : 0 < lf) : drI D i (spGet s) (spNext s) (lf - 1) := by
  rcases h with ⟨h1, h2⟩ | ⟨h0, h1, h2⟩
  · rw [show lf.toNat = (lf - 1).toNat + 1 by omega] at h2
    have e : drw i ((lf - 1).toNat + 1) s = if spGet s ≤ i then (spGet s, spNext s, (lf - 1).toNat) else drw i (lf - 1).toNat (spNext s) := rfl
    rw [e] at h2
    by_cases c : spGet s ≤ i
    · rw [if_pos c] at h2
      exact Or.inr ⟨(spGet_lt s).1, c, h2.symm⟩
    · rw [if_neg c] at h2
      exact Or.inl ⟨by omega, h2⟩
  · omega
theorem drI_yes {D : Int × Sp × Nat} {i j lf : Int} {s : Sp} (h : drI D i j s lf) (hj : j ≤ i) : 0 ≤ j ∧ D = (j, s, lf.toNat) := by
  rcases h with ⟨h1, h2⟩ | ⟨h0, h1, h2⟩
  · omega
  · exact ⟨h0, h2⟩
theorem drI_no {D : Int × Sp × Nat} {i j lf : Int} {s : Sp} (h : drI D i j s lf) (hj : i < j) (hl : lf ≤ 0) (hi : i < 256) : ¬ D.1 ≤ i := by
  rcases h with ⟨h1, h2⟩ | ⟨h0, h1, h2⟩
  · rw [show lf.toNat = 0 by omega] at h2
    rw [← h2]
    show ¬ (256 : Int) ≤ i
    omega
  · omega
-- the eight bytes of signs, in a long
theorem a_cnt64 : ∀ n : Nat, n < 64 → (((Int32.ofInt (n : Int)).toInt64 &&& 63).toBitVec.smod 64).toNat = n := by decide
theorem a_oL (x : Int) (hx : okL x) : (Int64.ofInt x).toBitVec.toNat = (x % 18446744073709551616).toNat := a_bvL x
theorem toL {z : Int64} : z.toInt % 18446744073709551616 = (z.toBitVec.toNat : Int) := by
  show z.toBitVec.toInt % 18446744073709551616 = _
  have h := BitVec.toInt_eq_toNat_bmod z.toBitVec
  have hl := z.toBitVec.isLt
  rw [h]
  unfold Int.bmod
  simp only [show ((2 ^ 64 : Nat) : Int) = 18446744073709551616 from rfl]
  have hl2 : (z.toBitVec.toNat : Int) < 18446744073709551616 := by omega
  split <;> omega
theorem lsh_m {b : Int} {k : Nat} (hk : k < 8) (h0 : 0 ≤ b) (h1 : b < 256) : a_lshl b (8 * (k : Int)) % 18446744073709551616 = b * 2 ^ (8 * k) := by
  unfold a_lshl
  rw [toL]
  have e : (Int64.ofInt b <<< ((Int32.ofInt (8 * (k : Int))).toInt64 &&& 63)).toBitVec.toNat = b.toNat * 2 ^ (8 * k) := by
    rw [Int64.toBitVec_shiftLeft]
    have c := a_cnt64 (8 * k) (by omega)
    rw [show ((8 * k : Nat) : Int) = 8 * (k : Int) by omega] at c
    rw [BitVec.shiftLeft_eq', BitVec.toNat_shiftLeft, c, a_bvL, Nat.shiftLeft_eq, Int.emod_eq_of_lt h0 (by omega)]
    apply Nat.mod_eq_of_lt
    have p : 2 ^ (8 * k) ≤ 2 ^ 56 := Nat.pow_le_pow_right (by decide) (by omega)
    calc b.toNat * 2 ^ (8 * k) ≤ 255 * 2 ^ 56 := Nat.mul_le_mul (by omega) p
      _ < 2 ^ 64 := by decide
  rw [e, Int.natCast_mul, Int.toNat_of_nonneg h0, Int.natCast_pow]
  rfl
theorem sgn_step {x N b : Int} {k : Nat} (hk : k < 8) (h0 : 0 ≤ b) (h1 : b < 256) (hx : x % 18446744073709551616 = N) (hN : N < 2 ^ (8 * k)) : a_lor x (a_lshl b (8 * (k : Int))) % 18446744073709551616 = N + b * 2 ^ (8 * k) := by
  have hN0 : 0 ≤ N := by rw [← hx]; exact Int.emod_nonneg _ (by decide)
  have e2 := lsh_m hk h0 h1
  have e3 : (Int64.ofInt (a_lshl b (8 * (k : Int)))).toBitVec.toNat = b.toNat * 2 ^ (8 * k) := by
    rw [a_bvL, e2]
    have z : ((b.toNat * 2 ^ (8 * k) : Nat) : Int) = b * 2 ^ (8 * k) := by rw [Int.natCast_mul, Int.toNat_of_nonneg h0, Int.natCast_pow]; rfl
    omega
  have e4 : (Int64.ofInt x).toBitVec.toNat = N.toNat := by rw [a_bvL, hx]
  have hN2 : N.toNat < 2 ^ (8 * k) := by
    have z : ((2 ^ (8 * k) : Nat) : Int) = 2 ^ (8 * k) := by rw [Int.natCast_pow]; rfl
    omega
  unfold a_lor
  rw [toL, Int64.toBitVec_or, BitVec.toNat_or, e3, e4, Nat.or_comm, Nat.mul_comm, ← Nat.two_pow_add_eq_or_of_lt hN2, Int.natCast_add, Int.natCast_mul, Int.toNat_of_nonneg h0, Int.toNat_of_nonneg hN0, Int.natCast_pow, Int.mul_comm, Int.add_comm]
  rfl
theorem lushr1 (x : Int) : a_lushr x 1 % 18446744073709551616 = x % 18446744073709551616 / 2 := by
  unfold a_lushr
  rw [toL, show ((Int32.ofInt 1).toInt64.toUInt64 &&& Int64.toUInt64 63) = 1 by decide]
  have e : ((Int64.ofInt x).toUInt64 >>> 1).toInt64.toBitVec.toNat = (Int64.ofInt x).toBitVec.toNat / 2 := by
    show ((Int64.ofInt x).toUInt64 >>> 1).toNat = _
    rw [UInt64.toNat_shiftRight]
    show (Int64.ofInt x).toBitVec.toNat >>> (1 % 64) = _
    rw [Nat.shiftRight_eq_div_pow]
  rw [e, a_bvL]
  have := Int.emod_nonneg x (show (18446744073709551616 : Int) ≠ 0 by decide)
  omega
theorem lcmp0 {x y : Int} : a_lcmp x y = 0 ↔ x = y := by
  unfold a_lcmp
  split
  · exact ⟨fun z => absurd z (by decide), fun z => by omega⟩
  · split
    · rename_i e; exact ⟨fun _ => e, fun _ => rfl⟩
    · rename_i e; exact ⟨fun z => absurd z (by decide), fun z => absurd z e⟩
def blS (g : Int → Int) (n : Int) : Sp := spTurn (spPart (spStart 136) g n.toNat)
theorem blS_ok {g : Int → Int} {n : Int} : spOk (blS g n) := spTurn_ok (spPart_ok (spStart_lt (by decide) (by decide)).1 _ _)
theorem blS_congr {g g' : Int → Int} {n : Int} (h : ∀ k : Nat, (k : Int) < n → g k % 256 = g' k % 256) : blS g n = blS g' n := by
  unfold blS
  rw [spPart_congr (fun k hk => h k (by omega))]
theorem sgn_lt {s : Sp} {k : Nat} : 0 ≤ bV (spOut s) 8 k ∧ bV (spOut s) 8 k < 2 ^ (8 * k) := ⟨bV_ge (fun i _ => (spGet_lt _).1), bV_lt (fun i _ => spGet_lt _)⟩
theorem row_ball {K : Nat → Int → Int} {f : Nat} {X : Int → Int} {i j w v : Int} (h : ∀ x, 0 ≤ x → x < 256 → K f x = X x % 8380417) (hv : v = w % 8380417) : ∀ x, 0 ≤ x → x < 256 → 0 ≤ j → j < 256 → a_up (a_up K f i (X j % 8380417)) f j v f x = (if x = j then w else if x = i then X j else X x) % 8380417 := by
  intro x x0 x1 j0 j1
  by_cases q : x = j
  · rw [q, a_up_at, if_pos rfl, hv]
  · rw [a_up_ne (Or.inr q), if_neg q]
    by_cases q2 : x = i
    · rw [q2, a_up_at, if_pos rfl]
    · rw [a_up_ne (Or.inr q2), if_neg q2, h x x0 x1]
theorem row_ballR {K : Nat → Int → Int} {f : Nat} {X : Int → Int} {i j v : Int} (h : ∀ x, 0 ≤ x → x < 256 → K f x = X x) : ∀ x, 0 ≤ x → x < 256 → 0 ≤ j → j < 256 → a_up (a_up K f i (X j)) f j v f x = if x = j then v else if x = i then X j else X x := by
  intro x x0 x1 j0 j1
  by_cases q : x = j
  · rw [q, a_up_at, if_pos rfl]
  · rw [a_up_ne (Or.inr q), if_neg q]
    by_cases q2 : x = i
    · rw [q2, a_up_at, if_pos rfl]
    · rw [a_up_ne (Or.inr q2), if_neg q2, h x x0 x1]
theorem spOf_row {I L : Nat → Int → Int} {f : Nat} {n : Int} {X : Int → Int} (h : f ≠ 38) : spOf (rowTo I f n X) L = spOf I L := by
  unfold spOf
  rw [rowTo_ne h.symm, rowTo_ne h.symm]
set_option maxHeartbeats 800000 in
set_option maxRecDepth 100000 in
theorem c_Sa_ball {l : Launch} {G : a_G} {h : Hp} {I L : Nat → Int → Int} {t : Int} (S : Shp h) (hfl : l.flags = flags0) (rm : hX h + 1 ≤ a_NX ∧ hU h + 6 ≤ a_US) (ST : Sta I L) (ht : 1 ≤ t ∧ t ≤ 64) (hc : 0 ≤ I 139 1 ∧ I 139 1 ≤ 64) : AW l G M_Sa_ball (ThR h I L (bll t (blS (fun k => byAt I 139 140 (0 + k)) (I 139 1)) ≠ none) (fun I' L' => ((∀ a j, a ≠ 38 → a ≠ 135 → I' a j = I a j) ∧ ∀ a j, a ≠ 39 → a ≠ 40 → a ≠ 41 → L' a j = L a j) ∧ ∀ y, 0 ≤ y → y < 256 → I' 135 y = blX t (blS (fun k => byAt I 139 140 (0 + k)) (I 139 1)) y % 8380417)) 0 (a_ar 0 [vr 37, vr 139, vi t, vr 135]) [] (sD h I L) := by
  suffices key : ∀ P : a_R → Hp → Prop, (∀ r h2, ThR h I L (bll t (blS (fun k => byAt I 139 140 (0 + k)) (I 139 1)) ≠ none) (fun I' L' => ((∀ a j, a ≠ 38 → a ≠ 135 → I' a j = I a j) ∧ ∀ a j, a ≠ 39 → a ≠ 40 → a ≠ 41 → L' a j = L a j) ∧ ∀ y, 0 ≤ y → y < 256 → I' 135 y = blX t (blS (fun k => byAt I 139 140 (0 + k)) (I 139 1)) y % 8380417) r h2 → P r h2) → AW l G M_Sa_ball P 0 [(0, vr 37), (1, vr 139), (2, vi t), (3, vr 135)] [] (sD h I L) from key _ (fun _ _ q => q)
  intro P hP
  refine aw_aload_n d_Sa_ball_0 rfl rfl ?_
  refine ax_getR (b := 38) d_Sa_ball_1 fd_Sa_12 (k_37 S) (r_37_0 S) ?_
  refine ax_Vr (st := []) (as := []) (b := 38) d_Sa_ball_4 cs_Sa_ball_4 (k_38 S) (c_Sp_start256 S) rfl rfl rfl (fun u_4 q_4 => ?_)
  obtain ⟨I1, L1⟩ := u_4
  obtain ⟨F1, e1⟩ := q_4
  dsimp only at F1 e1
  show AW l G M_Sa_ball P 7 [(0, vr 37), (1, vr 139), (2, vi t), (3, vr 135)] [] (sD h I1 L1)
  refine aw_aload_n d_Sa_ball_7 rfl rfl ?_
  refine ax_getR (b := 38) d_Sa_ball_8 fd_Sa_12 (k_37 S) (r_37_0 S) ?_
  refine aw_aload_n d_Sa_ball_11 rfl rfl ?_
  refine aw_iconst d_Sa_ball_12 ⟨by decide, by decide⟩ ?_
  refine aw_aload_n d_Sa_ball_13 rfl rfl ?_
  refine ax_getIe (x := I 139 1) d_Sa_ball_14 fd_Sa_72 (k_139 S) (Eq.trans (F1.1 139 1 (by decide)) (rfl)) ?_
  refine ax_Vr (st := []) (as := [vr 139, vi 0, vi (I 139 1)]) (b := 38) d_Sa_ball_17 cs_Sa_ball_17 (k_38 S) (c_Sp_takePart S (ST.sp F1) (by rw [e1]; exact (spStart_lt (by decide) (by decide)).1) ⟨k_139 S, r_139_0 S, k_140 S, by decide, by decide, by decide⟩ ⟨by decide, by decide⟩ (by rw [F1.1 139 1 (by decide), n_140 S]; omega)) rfl rfl rfl (fun u_17 q_17 => ?_)
  obtain ⟨I2, L2⟩ := u_17
  obtain ⟨F2, e2⟩ := q_17
  dsimp only at F2 e2
  show AW l G M_Sa_ball P 20 [(0, vr 37), (1, vr 139), (2, vi t), (3, vr 135)] [] (sD h I2 L2)
  refine aw_aload_n d_Sa_ball_20 rfl rfl ?_
  refine ax_getR (b := 38) d_Sa_ball_21 fd_Sa_12 (k_37 S) (r_37_0 S) ?_
  refine ax_Vr (st := []) (as := []) (b := 38) d_Sa_ball_24 cs_Sa_ball_24 (k_38 S) (c_Sp_turn S ((ST.sp F1).sp F2) (by rw [e2, e1]; exact spPart_ok (spStart_lt (by decide) (by decide)).1 _ _)) rfl rfl rfl (fun u_24 q_24 => ?_)
  obtain ⟨I3, L3⟩ := u_24
  obtain ⟨F3, e3⟩ := q_24
  dsimp only at F3 e3
  show AW l G M_Sa_ball P 27 [(0, vr 37), (1, vr 139), (2, vi t), (3, vr 135)] [] (sD h I3 L3)
  have eS : spOf I3 L3 = (blS (fun k => byAt I 139 140 (0 + k)) (I 139 1)) := by rw [e3, e2, e1, show (fun k => byAt I1 139 140 (0 + k)) = (fun k => byAt I 139 140 (0 + k)) from funext (fun k => byAt_sp F1.1 (by decide) (by decide))]; rfl
  have F3a := (F1.tr F2).tr F3
  refine aw_lconst (x := 0) d_Sa_ball_27 ⟨by decide, by decide⟩ (by decide) ?_
  refine aw_lstore (lv' := [(4, vl 0), (0, vr 37), (1, vr 139), (2, vi t), (3, vr 135)]) d_Sa_ball_28 (by decide) rfl ?_
  refine aw_iconst d_Sa_ball_30 ⟨by decide, by decide⟩ ?_
  refine aw_istore (lv' := [(6, vi 0), (4, vl 0), (0, vr 37), (1, vr 139), (2, vi t), (3, vr 135)]) d_Sa_ball_31 (by decide) rfl ?_
  have lp_33 : ∀ (n_ : Nat) (i : Int) (sg : Int) (I4 : Nat → Int → Int) (L4 : Nat → Int → Int), (0 ≤ i ∧ i ≤ 8) → (SpF I L I4 L4) → (spOf I4 L4 = spAt (blS (fun k => byAt I 139 140 (0 + k)) (I 139 1)) i.toNat) → (sg % 18446744073709551616 = bV (spOut (blS (fun k => byAt I 139 140 (0 + k)) (I 139 1))) 8 i.toNat) → ((8 - i).toNat) = n_ → AW l G M_Sa_ball P 33 [(6, vi i), (4, vl sg), (3, vr 135), (2, vi t), (1, vr 139), (0, vr 37)] [] (sD h I4 L4) := by
    intro n_
    induction n_ using Nat.strongRecOn with
    | _ n_ ih_33 =>
    intro i sg I4 L4 hi F4 e4 hsg hm_33
    refine aw_iload d_Sa_ball_33 rfl ?_
    refine aw_bipush d_Sa_ball_35 ⟨by decide, by decide⟩ (by decide) ?_
    refine aw_icmp_ge (tgt := 65) d_Sa_ball_37 (by decide) (fun c_37 => ?_) (fun c_37 => ?_)
    · skip
      refine aw_iconst d_Sa_ball_65 ⟨by decide, by decide⟩ ?_
      refine aw_istore (lv' := [(6, vi 0), (4, vl sg), (3, vr 135), (2, vi t), (1, vr 139), (0, vr 37)]) d_Sa_ball_66 (by decide) rfl ?_
      have lp_68 : ∀ (n_ : Nat) (m : Int), (0 ≤ m ∧ m ≤ 256) → ((256 - m).toNat) = n_ → AW l G M_Sa_ball P 68 [(6, vi m), (4, vl sg), (3, vr 135), (2, vi t), (1, vr 139), (0, vr 37)] [] (sD h (rowTo I4 135 m (fun _ => 0)) L4) := by
        intro n_
        induction n_ using Nat.strongRecOn with
        | _ n_ ih_68 =>
        intro m hm hm_68
        refine aw_iload d_Sa_ball_68 rfl ?_
        refine aw_sipush d_Sa_ball_70 ⟨by decide, by decide⟩ (by decide) ?_
        refine aw_icmp_ge (tgt := 87) d_Sa_ball_73 (by decide) (fun c_73 => ?_) (fun c_73 => ?_)
        · skip
          rw [show m = 256 by omega]
          refine aw_bipush d_Sa_ball_87 ⟨by decide, by decide⟩ (by decide) ?_
          refine aw_istore (lv' := [(6, vi 121), (4, vl sg), (3, vr 135), (2, vi t), (1, vr 139), (0, vr 37)]) d_Sa_ball_89 (by decide) rfl ?_
          refine aw_sipush d_Sa_ball_91 ⟨by decide, by decide⟩ (by decide) ?_
          refine aw_iload_n d_Sa_ball_94 rfl rfl ?_
          refine ax_isub d_Sa_ball_95 ⟨(by omega), (by omega)⟩ ?_
          refine aw_istore (lv' := [(7, vi (256 - t)), (6, vi 121), (4, vl sg), (3, vr 135), (2, vi t), (1, vr 139), (0, vr 37)]) d_Sa_ball_96 (by decide) rfl ?_
          have lp_98 : ∀ (n_ : Nat) (x : Int) (lf : Int) (sh : Int) (I7 : Nat → Int → Int) (L7 : Nat → Int → Int) (X : Int → Int) (k : Nat), (x = 256 - t + k ∧ x ≤ 256 ∧ 0 ≤ lf ∧ lf ≤ 121) → ((∀ a j, a ≠ 38 → a ≠ 135 → I7 a j = I a j) ∧ ∀ a j, a ≠ 39 → a ≠ 40 → a ≠ 41 → L7 a j = L a j) → (blIt (bV (spOut (blS (fun k => byAt I 139 140 (0 + k)) (I 139 1))) 8 8) t (spAt (blS (fun k => byAt I 139 140 (0 + k)) (I 139 1)) 8, 121, fun _ => 0) k = some (spOf I7 L7, lf.toNat, X)) → (spOk (spOf I7 L7)) → (∀ y, 0 ≤ y → y < 256 → I7 135 y = X y % 8380417) → (sh % 18446744073709551616 = (bV (spOut (blS (fun k => byAt I 139 140 (0 + k)) (I 139 1))) 8 8) / 2 ^ k) → ((256 - x).toNat) = n_ → AW l G M_Sa_ball P 98 [(7, vi x), (6, vi lf), (4, vl sh), (3, vr 135), (2, vi t), (1, vr 139), (0, vr 37)] [] (sD h I7 L7) := by
            intro n_
            induction n_ using Nat.strongRecOn with
            | _ n_ ih_98 =>
            intro x lf sh I7 L7 X k hx F7 hst ok7 g7 hsh hm_98
            refine aw_iload d_Sa_ball_98 rfl ?_
            refine aw_sipush d_Sa_ball_100 ⟨by decide, by decide⟩ (by decide) ?_
            refine aw_icmp_ge (tgt := 194) d_Sa_ball_103 (by decide) (fun c_103 => ?_) (fun c_103 => ?_)
            · skip
              exact aw_vret d_Sa_ball_194 rfl (hP _ _ (Or.inl ⟨(bll_some hst (by omega)).1, I7, L7, ⟨F7, fun y a b => by rw [(bll_some hst (by omega)).2]; exact g7 y a b⟩, rfl, rfl⟩))
            · skip
              refine aw_sipush d_Sa_ball_106 ⟨by decide, by decide⟩ (by decide) ?_
              refine aw_istore (lv' := [(8, vi 256), (7, vi x), (6, vi lf), (4, vl sh), (3, vr 135), (2, vi t), (1, vr 139), (0, vr 37)]) d_Sa_ball_109 (by decide) rfl ?_
              have lp_111 : ∀ (n_ : Nat) (j : Int) (l8 : Int) (I8 : Nat → Int → Int) (L8 : Nat → Int → Int), (0 ≤ l8 ∧ l8 ≤ 121 ∧ 0 ≤ j ∧ j ≤ 256) → (SpF I7 L7 I8 L8) → (drI (drw x lf.toNat (spOf I7 L7)) x j (spOf I8 L8) l8) → (spOk (spOf I8 L8)) → (l8.toNat) = n_ → AW l G M_Sa_ball P 111 [(8, vi j), (6, vi l8), (7, vi x), (4, vl sh), (3, vr 135), (2, vi t), (1, vr 139), (0, vr 37)] [] (sD h I8 L8) := by
                intro n_
                induction n_ using Nat.strongRecOn with
                | _ n_ ih_111 =>
                intro j l8 I8 L8 hj F8 dr ok8 hm_111
                refine aw_iload d_Sa_ball_111 rfl ?_
                refine aw_iload d_Sa_ball_113 rfl ?_
                refine aw_icmp_le (tgt := 138) d_Sa_ball_115 (by decide) (fun c_115 => ?_) (fun c_115 => ?_)
                · skip
                  refine aw_iload d_Sa_ball_138 rfl ?_
                  refine aw_iload d_Sa_ball_140 rfl ?_
                  refine aw_icmp_le (tgt := 155) d_Sa_ball_142 (by decide) (fun c_142 => ?_) (fun c_142 => ?_)
                  · skip
                    have dy := drI_yes dr (by omega)
                    have g8 : ∀ y, 0 ≤ y → y < 256 → I8 135 y = X y % 8380417 := fun y a b => (F8.1 135 y (by decide)).trans (g7 y a b)
                    refine aw_aload_n d_Sa_ball_155 rfl rfl ?_
                    refine aw_iload d_Sa_ball_156 rfl ?_
                    refine aw_aload_n d_Sa_ball_158 rfl rfl ?_
                    refine aw_iload d_Sa_ball_159 rfl ?_
                    refine ax_ialde (x := X j % 8380417) d_Sa_ball_161 (k_135 S) (by omega) (by rw [n_135 S]; omega) (g8 _ dy.1 (by omega)) ?_
                    refine ax_iast d_Sa_ball_162 (k_135 S) (by decide) (by omega) (by rw [n_135 S]; omega) ?_
                    refine aw_aload_n d_Sa_ball_163 rfl rfl ?_
                    refine aw_iload d_Sa_ball_164 rfl ?_
                    refine aw_lload d_Sa_ball_166 rfl ?_
                    refine aw_lconst (x := 1) d_Sa_ball_168 ⟨by decide, by decide⟩ (by decide) ?_
                    refine aw_land d_Sa_ball_169 ?_
                    refine ax_tl (x := sh % 2) (a_land' 1 (by decide) (by decide) (by decide)) ?_
                    refine aw_lconst (x := 1) d_Sa_ball_170 ⟨by decide, by decide⟩ (by decide) ?_
                    refine aw_lcmp d_Sa_ball_171 ?_
                    refine aw_if_ne (tgt := 180) d_Sa_ball_172 (by decide) (fun c_172 => ?_) (fun c_172 => ?_)
                    · skip
                      have sgq : ¬ (bV (spOut (blS (fun k => byAt I 139 140 (0 + k)) (I 139 1))) 8 8) / 2 ^ k % 2 = 1 := by have z := mt lcmp0.2 (show ¬ a_lcmp (sh % 2) 1 = 0 by omega); omega
                      refine aw_iconst d_Sa_ball_180 ⟨by decide, by decide⟩ ?_
                      refine ax_iast d_Sa_ball_181 (k_135 S) (by decide) (by omega) (by rw [n_135 S]; omega) ?_
                      refine aw_lload d_Sa_ball_182 rfl ?_
                      refine aw_iconst d_Sa_ball_184 ⟨by decide, by decide⟩ ?_
                      refine aw_lushr d_Sa_ball_185 ?_
                      refine aw_lstore (lv' := [(4, vl (a_lushr sh 1)), (8, vi j), (6, vi l8), (7, vi x), (3, vr 135), (2, vi t), (1, vr 139), (0, vr 37)]) d_Sa_ball_186 (by decide) rfl ?_
                      refine ax_iinc (lv' := [(7, vi (x + 1)), (4, vl (a_lushr sh 1)), (8, vi j), (6, vi l8), (3, vr 135), (2, vi t), (1, vr 139), (0, vr 37)]) d_Sa_ball_188 rfl (by decide) ⟨(by omega), (by omega)⟩ rfl ?_
                      refine aw_goto (tgt := 98) d_Sa_ball_191 (by decide) ?_
                      refine aw_sub (lv' := [(7, vi (x + 1)), (6, vi l8), (4, vl (a_lushr sh 1)), (3, vr 135), (2, vi t), (1, vr 139), (0, vr 37)]) (by simp) ?_
                      exact ih_98 _ (by omega) (x + 1) l8 (a_lushr sh 1) (a_up (a_up I8 135 x (X j % 8380417)) 135 j 1) L8 (fun y => if y = j then sgnB (bV (spOut (blS (fun k => byAt I 139 140 (0 + k)) (I 139 1))) 8 8) k else if y = x then X j else X y) (k + 1) (by omega) (⟨fun a b p q => (a_up_ne (Or.inl q)).trans ((a_up_ne (Or.inl q)).trans ((F8.1 a b p).trans (F7.1 a b p q))), fun a b p q r => (F8.2 a b p q r).trans (F7.2 a b p q r)⟩) (by rw [spOf_up (by decide), spOf_up (by decide)]; exact blIt_go hst dy.2 (by omega) (by omega)) (by rw [spOf_up (by decide), spOf_up (by decide)]; exact ok8) (fun y a b => row_ball (w := sgnB (bV (spOut (blS (fun k => byAt I 139 140 (0 + k)) (I 139 1))) 8 8) k) g8 (by unfold sgnB; rw [if_neg sgq]; rfl) y a b dy.1 (by omega)) (by rw [lushr1, hsh]; exact p2dd _ 1) rfl
                    · skip
                      have sgq : (bV (spOut (blS (fun k => byAt I 139 140 (0 + k)) (I 139 1))) 8 8) / 2 ^ k % 2 = 1 := by have z := lcmp0.1 (show a_lcmp (sh % 2) 1 = 0 by omega); omega
                      refine aw_ldc (n := 8380416) d_Sa_ball_175 lc_Sa_79 ⟨by decide, by decide⟩ ?_
                      refine aw_goto (tgt := 181) d_Sa_ball_177 (by decide) ?_
                      refine ax_iast d_Sa_ball_181 (k_135 S) (by decide) (by omega) (by rw [n_135 S]; omega) ?_
                      refine aw_lload d_Sa_ball_182 rfl ?_
                      refine aw_iconst d_Sa_ball_184 ⟨by decide, by decide⟩ ?_
                      refine aw_lushr d_Sa_ball_185 ?_
                      refine aw_lstore (lv' := [(4, vl (a_lushr sh 1)), (8, vi j), (6, vi l8), (7, vi x), (3, vr 135), (2, vi t), (1, vr 139), (0, vr 37)]) d_Sa_ball_186 (by decide) rfl ?_
                      refine ax_iinc (lv' := [(7, vi (x + 1)), (4, vl (a_lushr sh 1)), (8, vi j), (6, vi l8), (3, vr 135), (2, vi t), (1, vr 139), (0, vr 37)]) d_Sa_ball_188 rfl (by decide) ⟨(by omega), (by omega)⟩ rfl ?_
                      refine aw_goto (tgt := 98) d_Sa_ball_191 (by decide) ?_
                      refine aw_sub (lv' := [(7, vi (x + 1)), (6, vi l8), (4, vl (a_lushr sh 1)), (3, vr 135), (2, vi t), (1, vr 139), (0, vr 37)]) (by simp) ?_
                      exact ih_98 _ (by omega) (x + 1) l8 (a_lushr sh 1) (a_up (a_up I8 135 x (X j % 8380417)) 135 j 8380416) L8 (fun y => if y = j then sgnB (bV (spOut (blS (fun k => byAt I 139 140 (0 + k)) (I 139 1))) 8 8) k else if y = x then X j else X y) (k + 1) (by omega) (⟨fun a b p q => (a_up_ne (Or.inl q)).trans ((a_up_ne (Or.inl q)).trans ((F8.1 a b p).trans (F7.1 a b p q))), fun a b p q r => (F8.2 a b p q r).trans (F7.2 a b p q r)⟩) (by rw [spOf_up (by decide), spOf_up (by decide)]; exact blIt_go hst dy.2 (by omega) (by omega)) (by rw [spOf_up (by decide), spOf_up (by decide)]; exact ok8) (fun y a b => row_ball (w := sgnB (bV (spOut (blS (fun k => byAt I 139 140 (0 + k)) (I 139 1))) 8 8) k) g8 (by unfold sgnB; rw [if_pos sgq]; rfl) y a b dy.1 (by omega)) (by rw [lushr1, hsh]; exact p2dd _ 1) rfl
                  · skip
                    exact ax_throw hfl th_Sa_ball_145 rm.1 rm.2 (hP _ _ (Or.inr ⟨fun z => z (bll_none (blIt_no hst (drI_no dr (by omega) (by omega) (by omega)) (by omega)) (by omega)), I8, L8, ⟨fun a j p => (F8.1 a j (by omega)).trans (F7.1 a j (by omega) (by omega)), fun a j p q r => (F8.2 a j p q r).trans (F7.2 a j p q r)⟩, rfl, rfl⟩))
                · skip
                  refine aw_iload d_Sa_ball_118 rfl ?_
                  refine aw_if_le (tgt := 138) d_Sa_ball_120 (by decide) (fun c_120 => ?_) (fun c_120 => ?_)
                  · skip
                    refine aw_iload d_Sa_ball_138 rfl ?_
                    refine aw_iload d_Sa_ball_140 rfl ?_
                    refine aw_icmp_le (tgt := 155) d_Sa_ball_142 (by decide) (fun c_142 => ?_) (fun c_142 => ?_)
                    · skip
                      have dy := drI_yes dr (by omega)
                      have g8 : ∀ y, 0 ≤ y → y < 256 → I8 135 y = X y % 8380417 := fun y a b => (F8.1 135 y (by decide)).trans (g7 y a b)
                      refine aw_aload_n d_Sa_ball_155 rfl rfl ?_
                      refine aw_iload d_Sa_ball_156 rfl ?_
                      refine aw_aload_n d_Sa_ball_158 rfl rfl ?_
                      refine aw_iload d_Sa_ball_159 rfl ?_
                      refine ax_ialde (x := X j % 8380417) d_Sa_ball_161 (k_135 S) (by omega) (by rw [n_135 S]; omega) (g8 _ dy.1 (by omega)) ?_
                      refine ax_iast d_Sa_ball_162 (k_135 S) (by decide) (by omega) (by rw [n_135 S]; omega) ?_
                      refine aw_aload_n d_Sa_ball_163 rfl rfl ?_
                      refine aw_iload d_Sa_ball_164 rfl ?_
                      refine aw_lload d_Sa_ball_166 rfl ?_
                      refine aw_lconst (x := 1) d_Sa_ball_168 ⟨by decide, by decide⟩ (by decide) ?_
                      refine aw_land d_Sa_ball_169 ?_
                      refine ax_tl (x := sh % 2) (a_land' 1 (by decide) (by decide) (by decide)) ?_
                      refine aw_lconst (x := 1) d_Sa_ball_170 ⟨by decide, by decide⟩ (by decide) ?_
                      refine aw_lcmp d_Sa_ball_171 ?_
                      refine aw_if_ne (tgt := 180) d_Sa_ball_172 (by decide) (fun c_172 => ?_) (fun c_172 => ?_)
                      · skip
                        have sgq : ¬ (bV (spOut (blS (fun k => byAt I 139 140 (0 + k)) (I 139 1))) 8 8) / 2 ^ k % 2 = 1 := by have z := mt lcmp0.2 (show ¬ a_lcmp (sh % 2) 1 = 0 by omega); omega
                        refine aw_iconst d_Sa_ball_180 ⟨by decide, by decide⟩ ?_
                        refine ax_iast d_Sa_ball_181 (k_135 S) (by decide) (by omega) (by rw [n_135 S]; omega) ?_
                        refine aw_lload d_Sa_ball_182 rfl ?_
                        refine aw_iconst d_Sa_ball_184 ⟨by decide, by decide⟩ ?_
                        refine aw_lushr d_Sa_ball_185 ?_
                        refine aw_lstore (lv' := [(4, vl (a_lushr sh 1)), (8, vi j), (6, vi l8), (7, vi x), (3, vr 135), (2, vi t), (1, vr 139), (0, vr 37)]) d_Sa_ball_186 (by decide) rfl ?_
                        refine ax_iinc (lv' := [(7, vi (x + 1)), (4, vl (a_lushr sh 1)), (8, vi j), (6, vi l8), (3, vr 135), (2, vi t), (1, vr 139), (0, vr 37)]) d_Sa_ball_188 rfl (by decide) ⟨(by omega), (by omega)⟩ rfl ?_
                        refine aw_goto (tgt := 98) d_Sa_ball_191 (by decide) ?_
                        refine aw_sub (lv' := [(7, vi (x + 1)), (6, vi l8), (4, vl (a_lushr sh 1)), (3, vr 135), (2, vi t), (1, vr 139), (0, vr 37)]) (by simp) ?_
                        exact ih_98 _ (by omega) (x + 1) l8 (a_lushr sh 1) (a_up (a_up I8 135 x (X j % 8380417)) 135 j 1) L8 (fun y => if y = j then sgnB (bV (spOut (blS (fun k => byAt I 139 140 (0 + k)) (I 139 1))) 8 8) k else if y = x then X j else X y) (k + 1) (by omega) (⟨fun a b p q => (a_up_ne (Or.inl q)).trans ((a_up_ne (Or.inl q)).trans ((F8.1 a b p).trans (F7.1 a b p q))), fun a b p q r => (F8.2 a b p q r).trans (F7.2 a b p q r)⟩) (by rw [spOf_up (by decide), spOf_up (by decide)]; exact blIt_go hst dy.2 (by omega) (by omega)) (by rw [spOf_up (by decide), spOf_up (by decide)]; exact ok8) (fun y a b => row_ball (w := sgnB (bV (spOut (blS (fun k => byAt I 139 140 (0 + k)) (I 139 1))) 8 8) k) g8 (by unfold sgnB; rw [if_neg sgq]; rfl) y a b dy.1 (by omega)) (by rw [lushr1, hsh]; exact p2dd _ 1) rfl
                      · skip
                        have sgq : (bV (spOut (blS (fun k => byAt I 139 140 (0 + k)) (I 139 1))) 8 8) / 2 ^ k % 2 = 1 := by have z := lcmp0.1 (show a_lcmp (sh % 2) 1 = 0 by omega); omega
                        refine aw_ldc (n := 8380416) d_Sa_ball_175 lc_Sa_79 ⟨by decide, by decide⟩ ?_
                        refine aw_goto (tgt := 181) d_Sa_ball_177 (by decide) ?_
                        refine ax_iast d_Sa_ball_181 (k_135 S) (by decide) (by omega) (by rw [n_135 S]; omega) ?_
                        refine aw_lload d_Sa_ball_182 rfl ?_
                        refine aw_iconst d_Sa_ball_184 ⟨by decide, by decide⟩ ?_
                        refine aw_lushr d_Sa_ball_185 ?_
                        refine aw_lstore (lv' := [(4, vl (a_lushr sh 1)), (8, vi j), (6, vi l8), (7, vi x), (3, vr 135), (2, vi t), (1, vr 139), (0, vr 37)]) d_Sa_ball_186 (by decide) rfl ?_
                        refine ax_iinc (lv' := [(7, vi (x + 1)), (4, vl (a_lushr sh 1)), (8, vi j), (6, vi l8), (3, vr 135), (2, vi t), (1, vr 139), (0, vr 37)]) d_Sa_ball_188 rfl (by decide) ⟨(by omega), (by omega)⟩ rfl ?_
                        refine aw_goto (tgt := 98) d_Sa_ball_191 (by decide) ?_
                        refine aw_sub (lv' := [(7, vi (x + 1)), (6, vi l8), (4, vl (a_lushr sh 1)), (3, vr 135), (2, vi t), (1, vr 139), (0, vr 37)]) (by simp) ?_
                        exact ih_98 _ (by omega) (x + 1) l8 (a_lushr sh 1) (a_up (a_up I8 135 x (X j % 8380417)) 135 j 8380416) L8 (fun y => if y = j then sgnB (bV (spOut (blS (fun k => byAt I 139 140 (0 + k)) (I 139 1))) 8 8) k else if y = x then X j else X y) (k + 1) (by omega) (⟨fun a b p q => (a_up_ne (Or.inl q)).trans ((a_up_ne (Or.inl q)).trans ((F8.1 a b p).trans (F7.1 a b p q))), fun a b p q r => (F8.2 a b p q r).trans (F7.2 a b p q r)⟩) (by rw [spOf_up (by decide), spOf_up (by decide)]; exact blIt_go hst dy.2 (by omega) (by omega)) (by rw [spOf_up (by decide), spOf_up (by decide)]; exact ok8) (fun y a b => row_ball (w := sgnB (bV (spOut (blS (fun k => byAt I 139 140 (0 + k)) (I 139 1))) 8 8) k) g8 (by unfold sgnB; rw [if_pos sgq]; rfl) y a b dy.1 (by omega)) (by rw [lushr1, hsh]; exact p2dd _ 1) rfl
                    · skip
                      exact ax_throw hfl th_Sa_ball_145 rm.1 rm.2 (hP _ _ (Or.inr ⟨fun z => z (bll_none (blIt_no hst (drI_no dr (by omega) (by omega) (by omega)) (by omega)) (by omega)), I8, L8, ⟨fun a j p => (F8.1 a j (by omega)).trans (F7.1 a j (by omega) (by omega)), fun a j p q r => (F8.2 a j p q r).trans (F7.2 a j p q r)⟩, rfl, rfl⟩))
                  · skip
                    refine aw_aload_n d_Sa_ball_123 rfl rfl ?_
                    refine ax_getR (b := 38) d_Sa_ball_124 fd_Sa_12 (k_37 S) (r_37_0 S) ?_
                    refine ax_Vr (st := []) (as := []) (b := 38) d_Sa_ball_127 cs_Sa_ball_127 (k_38 S) (c_Sp_give S (ST.of (fun k j hk => (F8.1 k j (by omega)).trans (F7.1 k j (by omega) (by omega))) (fun j => (F8.2 8 j (by decide) (by decide) (by decide)).trans (F7.2 8 j (by decide) (by decide) (by decide)))) ok8) rfl rfl rfl (fun u_127 q_127 => ?_)
                    obtain ⟨I9, L9⟩ := u_127
                    obtain ⟨F9, e9⟩ := q_127
                    dsimp only at F9 e9
                    show AW l G M_Sa_ball P 130 [(8, vi j), (6, vi l8), (7, vi x), (4, vl sh), (3, vr 135), (2, vi t), (1, vr 139), (0, vr 37)] [vi (spGet (spOf I8 L8))] (sD h I9 L9)
                    refine aw_istore (lv' := [(8, vi (spGet (spOf I8 L8))), (6, vi l8), (7, vi x), (4, vl sh), (3, vr 135), (2, vi t), (1, vr 139), (0, vr 37)]) d_Sa_ball_130 (by decide) rfl ?_
                    refine ax_iinc (lv' := [(6, vi (l8 + (-1))), (8, vi (spGet (spOf I8 L8))), (7, vi x), (4, vl sh), (3, vr 135), (2, vi t), (1, vr 139), (0, vr 37)]) d_Sa_ball_132 rfl (by decide) ⟨(by omega), (by omega)⟩ rfl ?_
                    refine aw_goto (tgt := 111) d_Sa_ball_135 (by decide) ?_
                    refine aw_sub (lv' := [(8, vi (spGet (spOf I8 L8))), (6, vi (l8 + (-1))), (7, vi x), (4, vl sh), (3, vr 135), (2, vi t), (1, vr 139), (0, vr 37)]) (by simp) ?_
                    exact ih_111 _ (by omega) (spGet (spOf I8 L8)) (l8 + -1) I9 L9 (by have := spGet_lt (spOf I8 L8); omega) (F8.tr F9) (by rw [e9]; exact drI_step dr (by omega) (by omega)) (by rw [e9]; exact spNext_ok ok8) rfl
              skip
              refine aw_sub (lv' := [(8, vi 256), (6, vi lf), (7, vi x), (4, vl sh), (3, vr 135), (2, vi t), (1, vr 139), (0, vr 37)]) (by simp) ?_
              exact lp_111 _ 256 lf I7 L7 (by omega) (SpF.rfl') (Or.inl ⟨by omega, rfl⟩) (ok7) rfl
          skip
          exact lp_98 _ (256 - t) 121 sg (rowTo I4 135 256 (fun _ => 0)) L4 (fun _ => 0) 0 (by omega) (⟨fun a j p q => (rowTo_ne q).trans (F4.1 a j p), F4.2⟩) (by rw [spOf_row (by decide), e4, show i.toNat = 8 by omega]; rfl) (by rw [spOf_row (by decide), e4]; exact spAt_ok blS_ok _) (fun y a b => rowTo_in a b) (by rw [hsg, show i.toNat = 8 by omega]; simp) rfl
        · skip
          refine aw_aload_n d_Sa_ball_76 rfl rfl ?_
          refine aw_iload d_Sa_ball_77 rfl ?_
          refine aw_iconst d_Sa_ball_79 ⟨by decide, by decide⟩ ?_
          refine ax_iast d_Sa_ball_80 (k_135 S) (by decide) (by omega) (by rw [n_135 S]; omega) ?_
          rw [rowTo_1 (by omega) rfl]
          refine ax_iinc (lv' := [(6, vi (m + 1)), (4, vl sg), (3, vr 135), (2, vi t), (1, vr 139), (0, vr 37)]) d_Sa_ball_81 rfl (by decide) ⟨(by omega), (by omega)⟩ rfl ?_
          refine aw_goto (tgt := 68) d_Sa_ball_84 (by decide) ?_
          exact ih_68 _ (by omega) (m + 1) (by omega) rfl
      refine ax_hp (h' := sD h (rowTo I4 135 0 (fun _ => 0)) L4) (by rw [rowTo_0]) ?_
      exact lp_68 _ 0 (by omega) rfl
    · skip
      refine aw_lload d_Sa_ball_40 rfl ?_
      refine aw_aload_n d_Sa_ball_42 rfl rfl ?_
      refine ax_getR (b := 38) d_Sa_ball_43 fd_Sa_12 (k_37 S) (r_37_0 S) ?_
      refine ax_Vr (st := [vl sg]) (as := []) (b := 38) d_Sa_ball_46 cs_Sa_ball_46 (k_38 S) (c_Sp_give S (ST.sp F4) (by rw [e4]; exact spAt_ok blS_ok _)) rfl rfl rfl (fun u_46 q_46 => ?_)
      obtain ⟨I5, L5⟩ := u_46
      obtain ⟨F5, e5⟩ := q_46
      dsimp only at F5 e5
      show AW l G M_Sa_ball P 49 [(6, vi i), (4, vl sg), (3, vr 135), (2, vi t), (1, vr 139), (0, vr 37)] [vi (spGet (spOf I4 L4)), vl sg] (sD h I5 L5)
      refine aw_i2l d_Sa_ball_49 ?_
      refine aw_bipush d_Sa_ball_50 ⟨by decide, by decide⟩ (by decide) ?_
      refine aw_iload d_Sa_ball_52 rfl ?_
      refine ax_imul d_Sa_ball_54 ⟨(by omega), (by omega)⟩ ?_
      refine aw_lshl d_Sa_ball_55 ?_
      refine aw_lor d_Sa_ball_56 ?_
      refine aw_lstore (lv' := [(4, vl (a_lor sg (a_lshl (spGet (spOf I4 L4)) (8 * i)))), (6, vi i), (3, vr 135), (2, vi t), (1, vr 139), (0, vr 37)]) d_Sa_ball_57 (by decide) rfl ?_
      refine ax_iinc (lv' := [(6, vi (i + 1)), (4, vl (a_lor sg (a_lshl (spGet (spOf I4 L4)) (8 * i)))), (3, vr 135), (2, vi t), (1, vr 139), (0, vr 37)]) d_Sa_ball_59 rfl (by decide) ⟨(by omega), (by omega)⟩ rfl ?_
      refine aw_goto (tgt := 33) d_Sa_ball_62 (by decide) ?_
      exact ih_33 _ (by omega) (i + 1) (a_lor sg (a_lshl (spGet (spOf I4 L4)) (8 * i))) I5 L5 (by omega) (F4.tr F5) (by rw [e5, e4, show (i + 1).toNat = i.toNat + 1 by omega]; rfl) (by have z := sgn_step (x := sg) (k := i.toNat) (b := spGet (spOf I4 L4)) (by omega) (spGet_lt _).1 (spGet_lt _).2 hsg sgn_lt.2; rw [Int.toNat_of_nonneg hi.1] at z; rw [z, show (i + 1).toNat = i.toNat + 1 by omega, e4]; show _ = bV _ 8 i.toNat + spGet (spAt _ (Int.toNat (i.toNat : Int))) * _; rw [Int.toNat_natCast]) rfl
  skip
  refine aw_sub (lv' := [(6, vi 0), (4, vl 0), (3, vr 135), (2, vi t), (1, vr 139), (0, vr 37)]) (by simp) ?_
  exact lp_33 _ 0 0 I3 L3 (by omega) (F3a) (eS) (rfl) rfl
theorem sgn_bit {R : Int → Int} {s : Sp} {kk : Int} {k : Nat} (h : ∀ m, 0 ≤ m → m < 8 → R m % 256 = spOut s m) (hk : kk = k) (h2 : k < 64) : R (0 + kk / 8) / 2 ^ (kk % 8).toNat % 2 = bV (spOut s) 8 8 / 2 ^ k % 2 := by
  rw [bit_of (by omega) (fun i _ => spGet_lt _), bit8 (by omega), show (kk % 8).toNat = k % 8 by omega, show 0 + kk / 8 = ((k / 8 : Nat) : Int) by omega, h _ (by omega) (by omega)]
theorem spR_row {I L : Nat → Int → Int} {f : Nat} {n : Int} {X : Int → Int} (h : f ≠ 175) : spR (rowTo I f n X) L = spR I L := by
  unfold spR
  rw [rowTo_ne h.symm, rowTo_ne h.symm]
set_option maxHeartbeats 800000 in
set_option maxRecDepth 100000 in
theorem c_Mo_ball {l : Launch} {G : a_G} {h : Hp} {I L : Nat → Int → Int} {r : Nat} {pa t z : Int} (S : Shp h) (RS : RSt I L) (Zr : hK h r = 2 ∧ 12 ≤ r ∧ r ≠ 175) (hz : I 175 38 = z) (ht2 : I 175 34 = t) (ht : 1 ≤ t ∧ t ≤ 64) (hc : 0 ≤ pa ∧ 0 ≤ z ∧ pa + z ≤ hN h r ∧ hN h r < 1000000) : AW l G M_Mo_ball (Ret (fun u : (Nat → Int → Int) × (Nat → Int → Int) × Int => some (vi u.2.2)) (fun u => sD h u.1 u.2.1) (fun u => ((∀ a j, qR a j → a ≠ 200 → a ≠ 251 → u.1 a j = I a j) ∧ ∀ a j, a ≠ 175 → a ≠ 195 → a ≠ 196 → a ≠ 197 → u.2.1 a j = L a j) ∧ ((u.2.2 = 1 ∧ bll t (blS (fun k => I r (pa + k)) z) ≠ none) ∨ (u.2.2 = 0 ∧ bll t (blS (fun k => I r (pa + k)) z) = none)) ∧ (bll t (blS (fun k => I r (pa + k)) z) ≠ none → ∀ y, 0 ≤ y → y < 256 → u.1 251 y = blX t (blS (fun k => I r (pa + k)) z) y))) 0 (a_ar 0 [vr 175, vr 251, vr r, vi pa]) [] (sD h I L) := by
  suffices key : ∀ P : a_R → Hp → Prop, (∀ I2 L2 v, ((∀ a j, qR a j → a ≠ 200 → a ≠ 251 → I2 a j = I a j) ∧ ∀ a j, a ≠ 175 → a ≠ 195 → a ≠ 196 → a ≠ 197 → L2 a j = L a j) → ((v = 1 ∧ bll t (blS (fun k => I r (pa + k)) z) ≠ none) ∨ (v = 0 ∧ bll t (blS (fun k => I r (pa + k)) z) = none)) → (bll t (blS (fun k => I r (pa + k)) z) ≠ none → ∀ y, 0 ≤ y → y < 256 → I2 251 y = blX t (blS (fun k => I r (pa + k)) z) y) → P (.inl (some (vi v))) (sD h I2 L2)) → AW l G M_Mo_ball P 0 [(0, vr 175), (1, vr 251), (2, vr r), (3, vi pa)] [] (sD h I L) from key _ (fun I2 L2 v q1 q2 q3 => ⟨(I2, L2, v), rfl, rfl, q1, q2, q3⟩)
  intro P hP
  refine aw_aload_n d_Mo_ball_0 rfl rfl ?_
  refine aw_bipush d_Mo_ball_1 ⟨by decide, by decide⟩ (by decide) ?_
  refine ax_Vr (st := []) (as := [vi 12]) (b := 175) d_Mo_ball_3 cs_Mo_ball_3 (k_175 S) (c_Mo_begin12 S) rfl rfl rfl (fun u_3 q_3 => ?_)
  obtain ⟨I1, L1⟩ := u_3
  obtain ⟨F1, e1, k1⟩ := q_3
  dsimp only at F1 e1 k1
  show AW l G M_Mo_ball P 6 [(0, vr 175), (1, vr 251), (2, vr r), (3, vi pa)] [] (sD h I1 L1)
  refine aw_aload_n d_Mo_ball_6 rfl rfl ?_
  refine aw_aload_n d_Mo_ball_7 rfl rfl ?_
  refine aw_iload_n d_Mo_ball_8 rfl rfl ?_
  refine aw_aload_n d_Mo_ball_9 rfl rfl ?_
  refine ax_getIe (x := z) d_Mo_ball_10 fd_Mo_248 (k_175 S) (Eq.trans (F1.1 175 38 (by decide)) (hz)) ?_
  refine ax_Vr (st := []) (as := [vr r, vi pa, vi z]) (b := 175) d_Mo_ball_13 cs_Mo_ball_13 (k_175 S) (c_Mo_put3 S (RS.rf F1) (by omega) (by rw [e1]; exact spStart_lt (by decide) (by decide)) ⟨Zr.1, Zr.2.1, Zr.2.2⟩ (by omega)) rfl rfl rfl (fun u_13 q_13 => ?_)
  obtain ⟨I2, L2⟩ := u_13
  obtain ⟨F2, e2, k2⟩ := q_13
  dsimp only at F2 e2 k2
  show AW l G M_Mo_ball P 16 [(0, vr 175), (1, vr 251), (2, vr r), (3, vi pa)] [] (sD h I2 L2)
  refine aw_aload_n d_Mo_ball_16 rfl rfl ?_
  refine ax_Vr (st := []) (as := []) (b := 175) d_Mo_ball_17 cs_Mo_ball_17 (k_175 S) (c_Mo_finish S ((RS.rf F1).rf F2) (by omega) (by rw [e2, e1]; exact (spPart_lt (spStart_lt (by decide) (by decide)) _ _).1)) rfl rfl rfl (fun u_17 q_17 => ?_)
  obtain ⟨I3, L3⟩ := u_17
  obtain ⟨F3, e3, k3⟩ := q_17
  dsimp only at F3 e3 k3
  show AW l G M_Mo_ball P 20 [(0, vr 175), (1, vr 251), (2, vr r), (3, vi pa)] [] (sD h I3 L3)
  have eS : spR I3 L3 = (blS (fun k => I r (pa + k)) z) := by rw [e3, e2, e1, show (fun k => I1 r (pa + k)) = (fun k => I r (pa + k)) from funext (fun k => F1.1 r _ (Or.inl (by omega)))]; rfl
  have F3a := (F1.tr F2).tr F3
  refine aw_iconst d_Mo_ball_20 ⟨by decide, by decide⟩ ?_
  refine aw_istore (lv' := [(4, vi 0), (0, vr 175), (1, vr 251), (2, vr r), (3, vi pa)]) d_Mo_ball_21 (by decide) rfl ?_
  have lp_23 : ∀ (n_ : Nat) (i : Int) (I4 : Nat → Int → Int) (L4 : Nat → Int → Int), (0 ≤ i ∧ i ≤ 8) → ((∀ a j, qR a j → a ≠ 200 → I4 a j = I a j) ∧ ∀ a j, a ≠ 175 → a ≠ 195 → a ≠ 196 → a ≠ 197 → L4 a j = L a j) → (spR I4 L4 = spAt (blS (fun k => I r (pa + k)) z) i.toNat) → (∀ m, 0 ≤ m → m < i → I4 200 m % 256 = spOut (blS (fun k => I r (pa + k)) z) m) → ((8 - i).toNat) = n_ → AW l G M_Mo_ball P 23 [(4, vi i), (1, vr 251), (0, vr 175)] [] (sD h I4 L4) := by
    intro n_
    induction n_ using Nat.strongRecOn with
    | _ n_ ih_23 =>
    intro i I4 L4 hi F4 e4 g4 hm_23
    refine aw_iload d_Mo_ball_23 rfl ?_
    refine aw_bipush d_Mo_ball_25 ⟨by decide, by decide⟩ (by decide) ?_
    refine aw_icmp_ge (tgt := 48) d_Mo_ball_27 (by decide) (fun c_27 => ?_) (fun c_27 => ?_)
    · skip
      refine aw_aload_n d_Mo_ball_48 rfl rfl ?_
      refine ax_S (st := []) (as := [vr 251]) (v := none) (h' := sD h (rowTo I4 251 256 (fun _ => 0)) L4) d_Mo_ball_49 cs_Mo_ball_49 (c_Mo_clear ⟨k_251 S, by decide, n_251 S⟩) rfl rfl rfl ?_
      show AW l G M_Mo_ball P 52 [(4, vi i), (1, vr 251), (0, vr 175)] [] (sD h (rowTo I4 251 256 (fun _ => 0)) L4)
      refine aw_iconst d_Mo_ball_52 ⟨by decide, by decide⟩ ?_
      refine aw_istore (lv' := [(4, vi 0), (1, vr 251), (0, vr 175)]) d_Mo_ball_53 (by decide) rfl ?_
      refine aw_sipush d_Mo_ball_55 ⟨by decide, by decide⟩ (by decide) ?_
      refine aw_aload_n d_Mo_ball_58 rfl rfl ?_
      refine ax_getIe (x := t) d_Mo_ball_59 fd_Mo_232 (k_175 S) (Eq.trans (rowTo_ne (by decide)) (Eq.trans (F4.1 175 34 (by decide) (by decide)) (ht2))) ?_
      refine ax_isub d_Mo_ball_62 ⟨(by omega), (by omega)⟩ ?_
      refine aw_istore (lv' := [(5, vi (256 - t)), (4, vi 0), (1, vr 251), (0, vr 175)]) d_Mo_ball_63 (by decide) rfl ?_
      have lp_65 : ∀ (n_ : Nat) (x : Int) (T : Int) (I7 : Nat → Int → Int) (L7 : Nat → Int → Int) (X : Int → Int) (k : Nat), (x = 256 - t + k ∧ x ≤ 256 ∧ 0 ≤ T ∧ T ≤ 121) → ((∀ a j, qR a j → a ≠ 200 → a ≠ 251 → I7 a j = I a j) ∧ ∀ a j, a ≠ 175 → a ≠ 195 → a ≠ 196 → a ≠ 197 → L7 a j = L a j) → (blIt (bV (spOut (blS (fun k => I r (pa + k)) z)) 8 8) t (spAt (blS (fun k => I r (pa + k)) z) 8, 121, fun _ => 0) k = some (spR I7 L7, (121 - T).toNat, X)) → (spOk (spR I7 L7)) → (∀ y, 0 ≤ y → y < 256 → I7 251 y = X y) → (∀ m, 0 ≤ m → m < 8 → I7 200 m % 256 = spOut (blS (fun k => I r (pa + k)) z) m) → ((256 - x).toNat) = n_ → AW l G M_Mo_ball P 65 [(5, vi x), (4, vi T), (1, vr 251), (0, vr 175)] [] (sD h I7 L7) := by
        intro n_
        induction n_ using Nat.strongRecOn with
        | _ n_ ih_65 =>
        intro x T I7 L7 X k hx F7 hst ok7 g7 g7b hm_65
        refine aw_iload d_Mo_ball_65 rfl ?_
        refine aw_sipush d_Mo_ball_67 ⟨by decide, by decide⟩ (by decide) ?_
        refine aw_icmp_ge (tgt := 152) d_Mo_ball_70 (by decide) (fun c_70 => ?_) (fun c_70 => ?_)
        · skip
          refine aw_iconst d_Mo_ball_152 ⟨by decide, by decide⟩ ?_
          exact aw_zret d_Mo_ball_153 rfl ⟨by decide, by decide⟩ (hP _ _ _ F7 (Or.inl ⟨rfl, (bll_some hst (by omega)).1⟩) (fun _ y a b => by rw [(bll_some hst (by omega)).2]; exact g7 y a b))
        · skip
          refine aw_sipush d_Mo_ball_73 ⟨by decide, by decide⟩ (by decide) ?_
          refine aw_istore (lv' := [(6, vi 256), (5, vi x), (4, vi T), (1, vr 251), (0, vr 175)]) d_Mo_ball_76 (by decide) rfl ?_
          have lp_78 : ∀ (n_ : Nat) (j : Int) (T8 : Int) (I8 : Nat → Int → Int) (L8 : Nat → Int → Int), (0 ≤ T8 ∧ T8 ≤ 121 ∧ 0 ≤ j ∧ j ≤ 256) → (RF I7 L7 I8 L8) → (drI (drw x (121 - T).toNat (spR I7 L7)) x j (spR I8 L8) (121 - T8)) → (spOk (spR I8 L8)) → ((121 - T8).toNat) = n_ → AW l G M_Mo_ball P 78 [(6, vi j), (5, vi x), (4, vi T8), (1, vr 251), (0, vr 175)] [] (sD h I8 L8) := by
            intro n_
            induction n_ using Nat.strongRecOn with
            | _ n_ ih_78 =>
            intro j T8 I8 L8 hj F8 dr ok8 hm_78
            refine aw_iload d_Mo_ball_78 rfl ?_
            refine aw_iload d_Mo_ball_80 rfl ?_
            refine aw_icmp_le (tgt := 106) d_Mo_ball_82 (by decide) (fun c_82 => ?_) (fun c_82 => ?_)
            · skip
              have dy := drI_yes dr (by omega)
              have g8 : ∀ y, 0 ≤ y → y < 256 → I8 251 y = X y := fun y a b => (F8.1 251 y (Or.inl (by decide))).trans (g7 y a b)
              refine aw_aload_n d_Mo_ball_106 rfl rfl ?_
              refine aw_iload d_Mo_ball_107 rfl ?_
              refine aw_aload_n d_Mo_ball_109 rfl rfl ?_
              refine aw_iload d_Mo_ball_110 rfl ?_
              refine ax_ialde (x := X j) d_Mo_ball_112 (k_251 S) (by omega) (by rw [n_251 S]; omega) (g8 _ dy.1 (by omega)) ?_
              refine ax_iast d_Mo_ball_113 (k_251 S) (by decide) (by omega) (by rw [n_251 S]; omega) ?_
              refine aw_aload_n d_Mo_ball_114 rfl rfl ?_
              refine aw_iload d_Mo_ball_115 rfl ?_
              refine aw_aload_n d_Mo_ball_117 rfl rfl ?_
              refine ax_getR (b := 200) d_Mo_ball_118 fd_Mo_62 (k_175 S) (r_175_22 S) ?_
              refine aw_iconst d_Mo_ball_121 ⟨by decide, by decide⟩ ?_
              refine aw_iload d_Mo_ball_122 rfl ?_
              refine aw_aload_n d_Mo_ball_124 rfl rfl ?_
              refine ax_getIe (x := t) d_Mo_ball_125 fd_Mo_232 (k_175 S) (Eq.trans (a_up_ne (Or.inl (by decide))) (Eq.trans (F8.1 175 34 (by decide)) (Eq.trans (F7.1 175 34 (by decide) (by decide) (by decide)) (ht2)))) ?_
              refine ax_iadd d_Mo_ball_128 ⟨(by omega), (by omega)⟩ ?_
              refine aw_sipush d_Mo_ball_129 ⟨by decide, by decide⟩ (by decide) ?_
              refine ax_isub d_Mo_ball_132 ⟨(by omega), (by omega)⟩ ?_
              refine ax_S (st := [vi j, vr 251]) (as := [vr 200, vi 0, vi ((x + t) - 256)]) (v := some (vi ((a_up I8 251 x (X j)) 200 (0 + (x + t - 256) / 8) / 2 ^ ((x + t - 256) % 8).toNat % 2))) (h' := sD h (a_up I8 251 x (X j)) L8) d_Mo_ball_133 cs_Mo_ball_133 (c_Mo_bitOf (f := 200) ⟨k_200 S, by decide⟩ (by rw [n_200 S]; omega)) rfl rfl rfl ?_
              show AW l G M_Mo_ball P 136 [(6, vi j), (5, vi x), (4, vi T8), (1, vr 251), (0, vr 175)] [vi ((a_up I8 251 x (X j)) 200 (0 + (x + t - 256) / 8) / 2 ^ ((x + t - 256) % 8).toNat % 2), vi j, vr 251] (sD h (a_up I8 251 x (X j)) L8)
              refine ax_ti (x := (bV (spOut (blS (fun k => I r (pa + k)) z)) 8 8) / 2 ^ k % 2) (sgn_bit (R := (a_up I8 251 x (X j)) 200) (fun m a b => by rw [a_up_ne (Or.inl (by decide)), F8.1 200 m (Or.inl (by decide))]; exact g7b m a b) (by omega) (by omega)) ?_
              refine aw_iconst d_Mo_ball_136 ⟨by decide, by decide⟩ ?_
              refine aw_icmp_ne (tgt := 144) d_Mo_ball_137 (by decide) (fun c_137 => ?_) (fun c_137 => ?_)
              · skip
                refine aw_iconst d_Mo_ball_144 ⟨by decide, by decide⟩ ?_
                refine ax_iast d_Mo_ball_145 (k_251 S) (by decide) (by omega) (by rw [n_251 S]; omega) ?_
                refine ax_iinc (lv' := [(5, vi (x + 1)), (6, vi j), (4, vi T8), (1, vr 251), (0, vr 175)]) d_Mo_ball_146 rfl (by decide) ⟨(by omega), (by omega)⟩ rfl ?_
                refine aw_goto (tgt := 65) d_Mo_ball_149 (by decide) ?_
                refine aw_sub (lv' := [(5, vi (x + 1)), (4, vi T8), (1, vr 251), (0, vr 175)]) (by simp) ?_
                exact ih_65 _ (by omega) (x + 1) T8 (a_up (a_up I8 251 x (X j)) 251 j 1) L8 (fun y => if y = j then sgnB (bV (spOut (blS (fun k => I r (pa + k)) z)) 8 8) k else if y = x then X j else X y) (k + 1) (by omega) (⟨fun a b p q u => (a_up_ne (Or.inl u)).trans ((a_up_ne (Or.inl u)).trans ((F8.1 a b p).trans (F7.1 a b p q u))), fun a b p q r u => (F8.2 a b p q r u).trans (F7.2 a b p q r u)⟩) (by rw [spR_up (by decide), spR_up (by decide)]; exact blIt_go hst dy.2 (by omega) (by omega)) (by rw [spR_up (by decide), spR_up (by decide)]; exact ok8) (fun y a b => (row_ballR (v := 1) g8 y a b dy.1 (by omega)).trans (by show _ = if y = j then sgnB (bV (spOut (blS (fun k => I r (pa + k)) z)) 8 8) k else _; unfold sgnB; rw [if_neg (show ¬ (bV (spOut (blS (fun k => I r (pa + k)) z)) 8 8) / 2 ^ k % 2 = 1 by omega)])) (fun m a b => by rw [a_up_ne (Or.inl (by decide)), a_up_ne (Or.inl (by decide)), F8.1 200 m (Or.inl (by decide))]; exact g7b m a b) rfl
              · skip
                refine aw_iconst d_Mo_ball_140 ⟨by decide, by decide⟩ ?_
                refine aw_goto (tgt := 145) d_Mo_ball_141 (by decide) ?_
                refine ax_iast d_Mo_ball_145 (k_251 S) (by decide) (by omega) (by rw [n_251 S]; omega) ?_
                refine ax_iinc (lv' := [(5, vi (x + 1)), (6, vi j), (4, vi T8), (1, vr 251), (0, vr 175)]) d_Mo_ball_146 rfl (by decide) ⟨(by omega), (by omega)⟩ rfl ?_
                refine aw_goto (tgt := 65) d_Mo_ball_149 (by decide) ?_
                refine aw_sub (lv' := [(5, vi (x + 1)), (4, vi T8), (1, vr 251), (0, vr 175)]) (by simp) ?_
                exact ih_65 _ (by omega) (x + 1) T8 (a_up (a_up I8 251 x (X j)) 251 j (-1)) L8 (fun y => if y = j then sgnB (bV (spOut (blS (fun k => I r (pa + k)) z)) 8 8) k else if y = x then X j else X y) (k + 1) (by omega) (⟨fun a b p q u => (a_up_ne (Or.inl u)).trans ((a_up_ne (Or.inl u)).trans ((F8.1 a b p).trans (F7.1 a b p q u))), fun a b p q r u => (F8.2 a b p q r u).trans (F7.2 a b p q r u)⟩) (by rw [spR_up (by decide), spR_up (by decide)]; exact blIt_go hst dy.2 (by omega) (by omega)) (by rw [spR_up (by decide), spR_up (by decide)]; exact ok8) (fun y a b => (row_ballR (v := -1) g8 y a b dy.1 (by omega)).trans (by show _ = if y = j then sgnB (bV (spOut (blS (fun k => I r (pa + k)) z)) 8 8) k else _; unfold sgnB; rw [if_pos (show (bV (spOut (blS (fun k => I r (pa + k)) z)) 8 8) / 2 ^ k % 2 = 1 by omega)])) (fun m a b => by rw [a_up_ne (Or.inl (by decide)), a_up_ne (Or.inl (by decide)), F8.1 200 m (Or.inl (by decide))]; exact g7b m a b) rfl
            · skip
              refine aw_iload d_Mo_ball_85 rfl ?_
              refine aw_bipush d_Mo_ball_87 ⟨by decide, by decide⟩ (by decide) ?_
              refine aw_icmp_ne (tgt := 94) d_Mo_ball_89 (by decide) (fun c_89 => ?_) (fun c_89 => ?_)
              · skip
                refine aw_aload_n d_Mo_ball_94 rfl rfl ?_
                refine ax_Vr (st := []) (as := []) (b := 175) d_Mo_ball_95 cs_Mo_ball_95 (k_175 S) (c_Mo_squeeze S (RS.of (fun j => (F8.1 193 j (Or.inl (by decide))).trans (F7.1 193 j (Or.inl (by decide)) (by decide) (by decide))) (fun j => (F8.2 194 j (by decide) (by decide) (by decide) (by decide)).trans (F7.2 194 j (by decide) (by decide) (by decide) (by decide)))) ok8) rfl rfl rfl (fun u_95 q_95 => ?_)
                obtain ⟨I9, L9⟩ := u_95
                obtain ⟨F9, e9, k9⟩ := q_95
                dsimp only at F9 e9 k9
                show AW l G M_Mo_ball P 98 [(6, vi j), (5, vi x), (4, vi T8), (1, vr 251), (0, vr 175)] [vi (spGet (spR I8 L8))] (sD h I9 L9)
                refine aw_istore (lv' := [(6, vi (spGet (spR I8 L8))), (5, vi x), (4, vi T8), (1, vr 251), (0, vr 175)]) d_Mo_ball_98 (by decide) rfl ?_
                refine ax_iinc (lv' := [(4, vi (T8 + 1)), (6, vi (spGet (spR I8 L8))), (5, vi x), (1, vr 251), (0, vr 175)]) d_Mo_ball_100 rfl (by decide) ⟨(by omega), (by omega)⟩ rfl ?_
                refine aw_goto (tgt := 78) d_Mo_ball_103 (by decide) ?_
                refine aw_sub (lv' := [(6, vi (spGet (spR I8 L8))), (5, vi x), (4, vi (T8 + 1)), (1, vr 251), (0, vr 175)]) (by simp) ?_
                exact ih_78 _ (by omega) (spGet (spR I8 L8)) (T8 + 1) I9 L9 (by have := spGet_lt (spR I8 L8); omega) (F8.tr F9) (by rw [e9, show 121 - (T8 + 1) = 121 - T8 - 1 by omega]; exact drI_step dr (by omega) (by omega)) (by rw [e9]; exact spNext_ok ok8) rfl
              · skip
                refine aw_iconst d_Mo_ball_92 ⟨by decide, by decide⟩ ?_
                exact aw_zret d_Mo_ball_93 rfl ⟨by decide, by decide⟩ (hP _ _ _ ⟨fun a j p q u => (F8.1 a j p).trans (F7.1 a j p q u), fun a j p q r u => (F8.2 a j p q r u).trans (F7.2 a j p q r u)⟩ (Or.inr ⟨rfl, bll_none (blIt_no hst (drI_no dr (by omega) (by omega) (by omega)) (by omega)) (by omega)⟩) (fun y => absurd (bll_none (blIt_no hst (drI_no dr (by omega) (by omega) (by omega)) (by omega)) (by omega)) y))
          skip
          exact lp_78 _ 256 T I7 L7 (by omega) (RF.rfl') (Or.inl ⟨by omega, rfl⟩) (ok7) rfl
      skip
      exact lp_65 _ (256 - t) 0 (rowTo I4 251 256 (fun _ => 0)) L4 (fun _ => 0) 0 (by omega) (⟨fun a j p q u => (rowTo_ne u).trans (F4.1 a j p q), F4.2⟩) (by rw [spR_row (by decide), e4, show i.toNat = 8 by omega]; rfl) (by rw [spR_row (by decide), e4]; exact spAt_ok blS_ok _) (fun y a b => rowTo_in a b) (fun m a b => by rw [rowTo_ne (by decide)]; exact g4 m a (by omega)) rfl
    · skip
      refine aw_aload_n d_Mo_ball_30 rfl rfl ?_
      refine ax_getR (b := 200) d_Mo_ball_31 fd_Mo_62 (k_175 S) (r_175_22 S) ?_
      refine aw_iload d_Mo_ball_34 rfl ?_
      refine aw_aload_n d_Mo_ball_36 rfl rfl ?_
      refine ax_Vr (st := [vi i, vr 200]) (as := []) (b := 175) d_Mo_ball_37 cs_Mo_ball_37 (k_175 S) (c_Mo_squeeze S (RS.of (fun j => F4.1 193 j (Or.inl (by decide)) (by decide)) (fun j => F4.2 194 j (by decide) (by decide) (by decide) (by decide))) (by rw [e4]; exact spAt_ok blS_ok _)) rfl rfl rfl (fun u_37 q_37 => ?_)
      obtain ⟨I5, L5⟩ := u_37
      obtain ⟨F5, e5, k5⟩ := q_37
      dsimp only at F5 e5 k5
      show AW l G M_Mo_ball P 40 [(4, vi i), (1, vr 251), (0, vr 175)] [vi (spGet (spR I4 L4)), vi i, vr 200] (sD h I5 L5)
      refine aw_i2b d_Mo_ball_40 ?_
      refine ax_bast d_Mo_ball_41 (k_200 S) (by decide) (by omega) (by rw [n_200 S]; omega) ?_
      refine ax_iinc (lv' := [(4, vi (i + 1)), (1, vr 251), (0, vr 175)]) d_Mo_ball_42 rfl (by decide) ⟨(by omega), (by omega)⟩ rfl ?_
      refine aw_goto (tgt := 23) d_Mo_ball_45 (by decide) ?_
      exact ih_23 _ (by omega) (i + 1) (a_up I5 200 i (a_w8 (a_w8 (spGet (spR I4 L4))))) L5 (by omega) (⟨fun a j p q => (a_up_ne (Or.inl q)).trans ((F5.1 a j p).trans (F4.1 a j p q)), fun a j p q r v => (F5.2 a j p q r v).trans (F4.2 a j p q r v)⟩) (by rw [spR_up (by decide), e5, e4, show (i + 1).toNat = i.toNat + 1 by omega]; rfl) (fun m a b => by by_cases c : m = i; exact (by rw [c, a_up_at, a_w8w8, a_m8w, e4, Int.emod_eq_of_lt (spGet_lt _).1 (spGet_lt _).2]; rfl); exact (by rw [a_up_ne (Or.inr c), F5.1 200 m (Or.inl (by decide))]; exact g4 m a (by omega))) rfl
  skip
  refine aw_sub (lv' := [(4, vi 0), (1, vr 251), (0, vr 175)]) (by simp) ?_
  exact lp_23 _ 0 I3 L3 (by omega) (⟨fun a j p _ => F3a.1 a j p, F3a.2⟩) (eS) (fun m a b => by omega) rfl
