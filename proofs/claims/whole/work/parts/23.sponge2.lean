/-! the sponge's steps -/
abbrev Sp : Type := (Int → Int) × Int × Int
def kMix (A : Int → Int) (p v : Int) : Int → Int := cl (fun j => if j = p / 8 then a_lxor (A j) (a_lshl (v % 256) (8 * (p % 8))) else A j)
def spOf (I L : Nat → Int → Int) : Sp := (cl (L 39), I 38 4, I 38 3)
def spOk (s : Sp) : Prop := 0 ≤ s.2.1 ∧ s.2.1 ≤ s.2.2 ∧ 1 ≤ s.2.2 ∧ s.2.2 ≤ 168
def spStart (rate : Int) : Sp := (fun _ => 0, 0, rate)
def spTake (s : Sp) (v : Int) : Sp := if s.2.2 ≤ s.2.1 + 1 then (kPerm (kMix s.1 s.2.1 v), 0, s.2.2) else (kMix s.1 s.2.1 v, s.2.1 + 1, s.2.2)
def spPart (s : Sp) (g : Int → Int) : Nat → Sp
  | 0 => s
  | n + 1 => spTake (spPart s g n) (g n)
def spTurn (s : Sp) : Sp := (kPerm (kMix (kMix s.1 s.2.1 31) (s.2.2 - 1) 128), 0, s.2.2)
def spPre (s : Sp) : Sp := if s.2.2 ≤ s.2.1 then (kPerm s.1, 0, s.2.2) else s
def spByte (s : Sp) : Int := a_w32 (a_lushr (s.1 (s.2.1 / 8)) (8 * (s.2.1 % 8))) % 256
def spNext (s : Sp) : Sp := ((spPre s).1, (spPre s).2.1 + 1, (spPre s).2.2)
def spGet (s : Sp) : Int := spByte (spPre s)
def spAt (s : Sp) : Nat → Sp
  | 0 => s
  | n + 1 => spNext (spAt s n)
def spOut (s : Sp) (k : Int) : Int := spGet (spAt s k.toNat)
theorem spGet_lt (s : Sp) : 0 ≤ spGet s ∧ spGet s < 256 := by unfold spGet spByte; omega
theorem spTake_ok {s : Sp} (h : spOk s) (v : Int) : spOk (spTake s v) := by
  unfold spTake
  obtain ⟨h1, h2, h3, h4⟩ := h
  split
  · exact ⟨Int.le_refl _, by show (0 : Int) ≤ s.2.2; omega, h3, h4⟩
  · exact ⟨by show 0 ≤ s.2.1 + 1; omega, by show s.2.1 + 1 ≤ s.2.2; omega, h3, h4⟩
theorem spPart_ok {s : Sp} (h : spOk s) (g : Int → Int) : ∀ n, spOk (spPart s g n)
  | 0 => h
  | n + 1 => spTake_ok (spPart_ok h g n) _
theorem spTurn_ok {s : Sp} (h : spOk s) : spOk (spTurn s) := ⟨Int.le_refl _, by have := h.2.2.1; show (0 : Int) ≤ s.2.2; omega, h.2.2.1, h.2.2.2⟩
theorem spPre_ok {s : Sp} (h : spOk s) : spOk (spPre s) ∧ (spPre s).2.1 < (spPre s).2.2 := by
  unfold spPre
  obtain ⟨h1, h2, h3, h4⟩ := h
  split
  · exact ⟨⟨Int.le_refl _, by show (0 : Int) ≤ s.2.2; omega, h3, h4⟩, by show (0 : Int) < s.2.2; omega⟩
  · exact ⟨⟨h1, h2, h3, h4⟩, by omega⟩
theorem spNext_ok {s : Sp} (h : spOk s) : spOk (spNext s) := by
  obtain ⟨⟨h1, h2, h3, h4⟩, h5⟩ := spPre_ok h
  exact ⟨by show 0 ≤ (spPre s).2.1 + 1; omega, by show (spPre s).2.1 + 1 ≤ (spPre s).2.2; omega, h3, h4⟩
theorem spAt_ok {s : Sp} (h : spOk s) : ∀ n, spOk (spAt s n)
  | 0 => h
  | n + 1 => spNext_ok (spAt_ok h n)
theorem spPart_congr {s : Sp} {f g : Int → Int} {n : Nat} (h : ∀ k : Nat, k < n → f k % 256 = g k % 256) : spPart s f n = spPart s g n := by
  induction n with
  | zero => rfl
  | succ n ih =>
    show spTake (spPart s f n) (f n) = spTake (spPart s g n) (g n)
    rw [ih (fun k hk => h k (by omega))]
    unfold spTake kMix
    rw [h n (by omega)]
def SpF (I L I' L' : Nat → Int → Int) : Prop := (∀ a j, a ≠ 38 → I' a j = I a j) ∧ (∀ a j, a ≠ 39 → a ≠ 40 → a ≠ 41 → L' a j = L a j)
theorem SpF.rfl' {I L : Nat → Int → Int} : SpF I L I L := ⟨fun _ _ _ => rfl, fun _ _ _ _ _ => rfl⟩
theorem SpF.tr {I L I' L' I2 L2 : Nat → Int → Int} (h : SpF I L I' L') (h' : SpF I' L' I2 L2) : SpF I L I2 L2 := ⟨fun a j ha => (h'.1 a j ha).trans (h.1 a j ha), fun a j a1 a2 a3 => (h'.2 a j a1 a2 a3).trans (h.2 a j a1 a2 a3)⟩
theorem SpF.I {I L I' L' : Nat → Int → Int} (h : SpF I L I' L') (j v : Int) : SpF I L (a_up I' 38 j v) L' := ⟨fun a i ha => (a_up_ne (Or.inl ha)).trans (h.1 a i ha), h.2⟩
theorem SpF.L {I L I' L' : Nat → Int → Int} (h : SpF I L I' L') (j v : Int) : SpF I L I' (a_up L' 39 j v) := ⟨h.1, fun a i a1 a2 a3 => (a_up_ne (Or.inl a1)).trans (h.2 a i a1 a2 a3)⟩
theorem SpF.K {I L I' L' K : Nat → Int → Int} (h : SpF I L I' L') (hk : ∀ a j, a ≠ 39 → a ≠ 40 → a ≠ 41 → K a j = L' a j) : SpF I L I' K := ⟨h.1, fun a i a1 a2 a3 => (hk a i a1 a2 a3).trans (h.2 a i a1 a2 a3)⟩
theorem Sta.of {I L I' L' : Nat → Int → Int} (h : Sta I L) (hI : ∀ k j, k < 12 → I' k j = I k j) (hL : ∀ j, L' 8 j = L 8 j) : Sta I' L' := ⟨fun k j h1 h2 => (hI k j (by omega)).trans (h.1 k j h1 h2), fun j => (hL j).trans (h.2 j)⟩
theorem Sta.sp {I L I' L' : Nat → Int → Int} (h : Sta I L) (hF : SpF I L I' L') : Sta I' L' := h.of (fun k j hk => hF.1 k j (by omega)) (fun j => hF.2 8 j (by decide) (by decide) (by decide))
theorem byAt_sp {I I' : Nat → Int → Int} {b r : Nat} {i : Int} (h : ∀ a j, a ≠ 38 → I' a j = I a j) (hb : b ≠ 38) (hr : r ≠ 38) : byAt I' b r i = byAt I b r i := by
  unfold byAt
  rw [h b 1 hb, h r i hr]
theorem mix_cl {L : Nat → Int → Int} {p v : Int} (h0 : 0 ≤ p) (h1 : p < 200) : cl (a_up L 39 (p / 8) (a_lxor (L 39 (p / 8)) (a_lshl (v % 256) (8 * (p % 8)))) 39) = kMix (cl (L 39)) p v := by
  unfold kMix
  refine cl_ext (fun j a b => ?_)
  rw [cl_in a b]
  by_cases q : j = p / 8
  · rw [q, a_up_at, if_pos rfl]
  · rw [a_up_ne (Or.inr q), if_neg q]
theorem take_lt {I L L' : Nat → Int → Int} {v : Int} (h : I 38 4 + 1 < I 38 3) (hL : cl (L' 39) = kMix (cl (L 39)) (I 38 4) v) : spOf (a_up I 38 4 (I 38 4 + 1)) L' = spTake (spOf I L) v := by
  have e : spTake (spOf I L) v = if I 38 3 ≤ I 38 4 + 1 then (kPerm (kMix (cl (L 39)) (I 38 4) v), 0, I 38 3) else (kMix (cl (L 39)) (I 38 4) v, I 38 4 + 1, I 38 3) := rfl
  rw [e, if_neg (show ¬ (I 38 3 ≤ I 38 4 + 1) by omega)]
  unfold spOf
  rw [hL, a_up_at, a_up_ne (Or.inr (by decide))]
theorem take_ge {I L L' : Nat → Int → Int} {v : Int} (h : I 38 3 ≤ I 38 4 + 1) (hL : cl (L' 39) = kPerm (kMix (cl (L 39)) (I 38 4) v)) : spOf (a_up (a_up I 38 4 (I 38 4 + 1)) 38 4 0) L' = spTake (spOf I L) v := by
  have e : spTake (spOf I L) v = if I 38 3 ≤ I 38 4 + 1 then (kPerm (kMix (cl (L 39)) (I 38 4) v), 0, I 38 3) else (kMix (cl (L 39)) (I 38 4) v, I 38 4 + 1, I 38 3) := rfl
  rw [e, if_pos (show (I 38 3 ≤ I 38 4 + 1) by omega)]
  unfold spOf
  rw [hL, a_up_at, a_up_ne (Or.inr (by decide)), a_up_ne (Or.inr (by decide))]
theorem turn_eq {I L L' : Nat → Int → Int} (hL : cl (L' 39) = kPerm (kMix (kMix (cl (L 39)) (I 38 4) 31) (I 38 3 - 1) 128)) : spOf (a_up I 38 4 0) L' = spTurn (spOf I L) := by
  unfold spTurn spOf
  rw [hL, a_up_at, a_up_ne (Or.inr (by decide))]
theorem give_lt {I L : Nat → Int → Int} (h : I 38 4 < I 38 3) : spOf (a_up I 38 4 (I 38 4 + 1)) L = spNext (spOf I L) ∧ spPre (spOf I L) = spOf I L := by
  have e : spPre (spOf I L) = spOf I L := if_neg (show ¬ (I 38 3 ≤ I 38 4) by omega)
  refine ⟨?_, e⟩
  unfold spNext
  rw [e]
  unfold spOf
  rw [a_up_at, a_up_ne (Or.inr (by decide))]
theorem give_ge {I L K : Nat → Int → Int} (h : I 38 3 ≤ I 38 4) (hK : cl (K 39) = kPerm (cl (L 39))) : spOf (a_up (a_up I 38 4 0) 38 4 1) K = spNext (spOf I L) ∧ spPre (spOf I L) = (cl (K 39), 0, I 38 3) := by
  have e : spPre (spOf I L) = (cl (K 39), 0, I 38 3) := by rw [hK]; exact if_pos (show (I 38 3 ≤ I 38 4) by omega)
  refine ⟨?_, e⟩
  unfold spNext
  rw [e]
  unfold spOf
  rw [a_up_at, a_up_ne (Or.inr (by decide)), a_up_ne (Or.inr (by decide))]
  rfl
theorem give_v1 {I L : Nat → Int → Int} (h : I 38 4 < I 38 3) (h0 : 0 ≤ I 38 4) (h1 : I 38 3 ≤ 168) : a_w32 (a_lushr (L 39 (I 38 4 / 8)) (8 * (I 38 4 % 8))) % 256 = spGet (spOf I L) := by
  unfold spGet
  rw [(give_lt h).2]
  show _ = a_w32 (a_lushr (cl (L 39) (I 38 4 / 8)) (8 * (I 38 4 % 8))) % 256
  rw [cl_in (by omega) (by omega)]
theorem give_v2 {I L K : Nat → Int → Int} (h : I 38 3 ≤ I 38 4) (hK : cl (K 39) = kPerm (cl (L 39))) : a_w32 (a_lushr (K 39 0) 0) % 256 = spGet (spOf I L) := by
  have e : spGet (spOf I L) = a_w32 (a_lushr (cl (K 39) (0 / 8)) (8 * (0 % 8))) % 256 := by unfold spGet; rw [(give_ge h hK).2]; unfold spByte; rfl
  rw [e, show (0 : Int) / 8 = 0 from rfl, cl_in (by decide) (by decide)]
  rfl
theorem byAdd_sp {I I' : Nat → Int → Int} {b r : Nat} {v : Int} (h : ∀ a j, a ≠ 38 → I' a j = I a j) (hb : b ≠ 38) : ∀ a j, a ≠ 38 → byAdd I' b r v a j = byAdd I b r v a j := by
  intro a j ha
  unfold byAdd a_up
  rw [h b 1 hb, h a j ha]
theorem spOf_add {I L : Nat → Int → Int} {b r : Nat} {v : Int} (hb : b ≠ 38) (hr : r ≠ 38) : spOf (byAdd I b r v) L = spOf I L := by
  unfold spOf byAdd
  rw [a_up_ne (Or.inl hb.symm), a_up_ne (Or.inl hr.symm), a_up_ne (Or.inl hb.symm), a_up_ne (Or.inl hr.symm)]
set_option maxHeartbeats 800000 in
set_option maxRecDepth 100000 in
theorem c_Sp_mixIn {l : Launch} {G : a_G} {h : Hp} {I L : Nat → Int → Int} {p v : Int} (S : Shp h) (hp : 0 ≤ p ∧ p < 200) : AW l G M_Sp_mixIn (Rx none (sD h I (a_up L 39 (p / 8) (a_lxor (L 39 (p / 8)) (a_lshl (v % 256) (8 * (p % 8))))))) 0 (a_ar 0 [vr 38, vi p, vi v]) [] (sD h I L) := by
  suffices key : ∀ P : a_R → Hp → Prop, (P (.inl none) (sD h I (a_up L 39 (p / 8) (a_lxor (L 39 (p / 8)) (a_lshl (v % 256) (8 * (p % 8))))))) → AW l G M_Sp_mixIn P 0 [(0, vr 38), (1, vi p), (2, vi v)] [] (sD h I L) from key _ (⟨rfl, rfl⟩)
  intro P hP
  refine aw_aload_n d_Sp_mixIn_0 rfl rfl ?_
  refine ax_getR (b := 39) d_Sp_mixIn_1 fd_Sp_9 (k_38 S) (r_38_0 S) ?_
  refine aw_iload_n d_Sp_mixIn_4 rfl rfl ?_
  refine aw_iconst d_Sp_mixIn_5 ⟨by decide, by decide⟩ ?_
  refine aw_ishr d_Sp_mixIn_6 ?_
  refine ax_ti (x := p / 8) (a_shr' 3 rfl (by decide) (by decide) ⟨(by omega), (by omega)⟩) ?_
  refine aw_dup2 d_Sp_mixIn_7 rfl rfl ?_
  refine ax_lalde (x := L 39 (p / 8)) d_Sp_mixIn_8 (k_39 S) (by omega) (by rw [n_39 S]; omega) (rfl) ?_
  refine aw_iload_n d_Sp_mixIn_9 rfl rfl ?_
  refine aw_i2l d_Sp_mixIn_10 ?_
  refine aw_ldc2 (n := 255) d_Sp_mixIn_11 lc_Sp_56 ⟨by decide, by decide⟩ ?_
  refine aw_land d_Sp_mixIn_14 ?_
  refine ax_tl (x := v % 256) (a_land' 8 (by decide) (by decide) (by decide)) ?_
  refine aw_bipush d_Sp_mixIn_15 ⟨by decide, by decide⟩ (by decide) ?_
  refine aw_iload_n d_Sp_mixIn_17 rfl rfl ?_
  refine aw_bipush d_Sp_mixIn_18 ⟨by decide, by decide⟩ (by decide) ?_
  refine aw_iand d_Sp_mixIn_20 ?_
  refine ax_ti (x := p % 8) (a_and' 3 (by decide) (by decide) (by decide)) ?_
  refine ax_imul d_Sp_mixIn_21 ⟨(by omega), (by omega)⟩ ?_
  refine aw_lshl d_Sp_mixIn_22 ?_
  refine aw_lxor d_Sp_mixIn_23 ?_
  refine ax_last d_Sp_mixIn_24 (k_39 S) (by decide) (by omega) (by rw [n_39 S]; omega) ?_
  exact aw_vret d_Sp_mixIn_25 rfl hP
theorem start_eq {I L : Nat → Int → Int} {rate : Int} (h : ∀ j, 0 ≤ j → j < 25 → L 39 j = 0) : spOf (a_up (a_up I 38 3 rate) 38 4 0) L = spStart rate := by
  unfold spOf spStart
  rw [a_up_at, a_up_ne (Or.inr (by decide)), a_up_at]
  congr 1
  rw [cl_ext (B := fun _ => 0) h]
  funext j
  unfold cl
  split <;> rfl
set_option maxHeartbeats 800000 in
set_option maxRecDepth 100000 in
theorem c_Sp_start {l : Launch} {G : a_G} {h : Hp} {I L : Nat → Int → Int} {rate : Int} (S : Shp h) : AW l G M_Sp_start (Ret (fun _ : (Nat → Int → Int) × (Nat → Int → Int) => none) (fun u => sD h u.1 u.2) (fun u => SpF I L u.1 u.2 ∧ spOf u.1 u.2 = spStart rate)) 0 (a_ar 0 [vr 38, vi rate]) [] (sD h I L) := by
  suffices key : ∀ P : a_R → Hp → Prop, (∀ I2 L2, SpF I L I2 L2 → spOf I2 L2 = spStart rate → P (.inl none) (sD h I2 L2)) → AW l G M_Sp_start P 0 [(0, vr 38), (1, vi rate)] [] (sD h I L) from key _ (fun I2 L2 q1 q2 => ⟨(I2, L2), rfl, rfl, q1, q2⟩)
  intro P hP
  refine aw_iconst d_Sp_start_0 ⟨by decide, by decide⟩ ?_
  refine aw_istore_n (lv' := [(2, vi 0), (0, vr 38), (1, vi rate)]) d_Sp_start_1 rfl (by decide) rfl ?_
  have lp_2 : ∀ (n_ : Nat) (i : Int) (K : Nat → Int → Int), (0 ≤ i ∧ i ≤ 25) → (∀ b j, b ≠ 39 → K b j = L b j) → (∀ j, 0 ≤ j → j < i → K 39 j = (fun _ => 0 : Int → Int) j) → ((25 - i).toNat) = n_ → AW l G M_Sp_start P 2 [(2, vi i), (1, vi rate), (0, vr 38)] [] (sD h I K) := by
    intro n_
    induction n_ using Nat.strongRecOn with
    | _ n_ ih_2 =>
    intro i K hi f1 g1 hm_2
    refine aw_iload_n d_Sp_start_2 rfl rfl ?_
    refine aw_bipush d_Sp_start_3 ⟨by decide, by decide⟩ (by decide) ?_
    refine aw_icmp_ge (tgt := 21) d_Sp_start_5 (by decide) (fun c_5 => ?_) (fun c_5 => ?_)
    · skip
      refine aw_aload_n d_Sp_start_21 rfl rfl ?_
      refine aw_iload_n d_Sp_start_22 rfl rfl ?_
      refine ax_putI d_Sp_start_23 fd_Sp_19 (k_38 S) (by decide) rfl ?_
      refine aw_aload_n d_Sp_start_26 rfl rfl ?_
      refine aw_iconst d_Sp_start_27 ⟨by decide, by decide⟩ ?_
      refine ax_putI d_Sp_start_28 fd_Sp_23 (k_38 S) (by decide) rfl ?_
      exact aw_vret d_Sp_start_31 rfl (hP _ _ (((SpF.rfl'.K (fun a j a1 _ _ => f1 a j a1)).I 3 rate).I 4 0) (start_eq (fun j a b => g1 j a (by omega))))
    · skip
      refine aw_aload_n d_Sp_start_8 rfl rfl ?_
      refine ax_getR (b := 39) d_Sp_start_9 fd_Sp_9 (k_38 S) (r_38_0 S) ?_
      refine aw_iload_n d_Sp_start_12 rfl rfl ?_
      refine aw_lconst (x := 0) d_Sp_start_13 ⟨by decide, by decide⟩ (by decide) ?_
      refine ax_last d_Sp_start_14 (k_39 S) (by decide) (by omega) (by rw [n_39 S]; omega) ?_
      refine ax_iinc (lv' := [(2, vi (i + 1)), (1, vi rate), (0, vr 38)]) d_Sp_start_15 rfl (by decide) ⟨(by omega), (by omega)⟩ rfl ?_
      refine aw_goto (tgt := 2) d_Sp_start_18 (by decide) ?_
      exact ih_2 _ (by omega) (i + 1) (a_up K 39 i 0) (by omega) (up_frame f1) (row_step g1 rfl) rfl
  refine aw_sub (lv' := [(2, vi 0), (1, vi rate), (0, vr 38)]) (by simp) ?_
  exact lp_2 _ 0 L (by omega) (fun _ _ _ => rfl) (fun j x y => by omega) rfl
set_option maxHeartbeats 800000 in
set_option maxRecDepth 100000 in
theorem c_Sp_start128 {l : Launch} {G : a_G} {h : Hp} {I L : Nat → Int → Int} (S : Shp h) : AW l G M_Sp_start128 (Ret (fun _ : (Nat → Int → Int) × (Nat → Int → Int) => none) (fun u => sD h u.1 u.2) (fun u => SpF I L u.1 u.2 ∧ spOf u.1 u.2 = spStart 168)) 0 (a_ar 0 [vr 38]) [] (sD h I L) := by
  suffices key : ∀ P : a_R → Hp → Prop, (∀ I2 L2, SpF I L I2 L2 → spOf I2 L2 = spStart 168 → P (.inl none) (sD h I2 L2)) → AW l G M_Sp_start128 P 0 [(0, vr 38)] [] (sD h I L) from key _ (fun I2 L2 q1 q2 => ⟨(I2, L2), rfl, rfl, q1, q2⟩)
  intro P hP
  refine aw_aload_n d_Sp_start128_0 rfl rfl ?_
  refine aw_sipush d_Sp_start128_1 ⟨by decide, by decide⟩ (by decide) ?_
  refine ax_Vr (st := []) (as := [vi 168]) (b := 38) d_Sp_start128_4 cs_Sp_start128_4 (k_38 S) (c_Sp_start S) rfl rfl rfl (fun u_4 q_4 => ?_)
  obtain ⟨I1, L1⟩ := u_4
  obtain ⟨F1, e1⟩ := q_4
  dsimp only at F1 e1
  show AW l G M_Sp_start128 P 7 [(0, vr 38)] [] (sD h I1 L1)
  exact aw_vret d_Sp_start128_7 rfl (hP _ _ F1 e1)
set_option maxHeartbeats 800000 in
set_option maxRecDepth 100000 in
theorem c_Sp_start256 {l : Launch} {G : a_G} {h : Hp} {I L : Nat → Int → Int} (S : Shp h) : AW l G M_Sp_start256 (Ret (fun _ : (Nat → Int → Int) × (Nat → Int → Int) => none) (fun u => sD h u.1 u.2) (fun u => SpF I L u.1 u.2 ∧ spOf u.1 u.2 = spStart 136)) 0 (a_ar 0 [vr 38]) [] (sD h I L) := by
  suffices key : ∀ P : a_R → Hp → Prop, (∀ I2 L2, SpF I L I2 L2 → spOf I2 L2 = spStart 136 → P (.inl none) (sD h I2 L2)) → AW l G M_Sp_start256 P 0 [(0, vr 38)] [] (sD h I L) from key _ (fun I2 L2 q1 q2 => ⟨(I2, L2), rfl, rfl, q1, q2⟩)
  intro P hP
  refine aw_aload_n d_Sp_start256_0 rfl rfl ?_
  refine aw_sipush d_Sp_start256_1 ⟨by decide, by decide⟩ (by decide) ?_
  refine ax_Vr (st := []) (as := [vi 136]) (b := 38) d_Sp_start256_4 cs_Sp_start256_4 (k_38 S) (c_Sp_start S) rfl rfl rfl (fun u_4 q_4 => ?_)
  obtain ⟨I1, L1⟩ := u_4
  obtain ⟨F1, e1⟩ := q_4
  dsimp only at F1 e1
  show AW l G M_Sp_start256 P 7 [(0, vr 38)] [] (sD h I1 L1)
  exact aw_vret d_Sp_start256_7 rfl (hP _ _ F1 e1)
set_option maxHeartbeats 800000 in
set_option maxRecDepth 100000 in
theorem c_Sp_take {l : Launch} {G : a_G} {h : Hp} {I L : Nat → Int → Int} {v : Int} (S : Shp h) (ST : Sta I L) (ok : spOk (spOf I L)) : AW l G M_Sp_take (Ret (fun _ : (Nat → Int → Int) × (Nat → Int → Int) => none) (fun u => sD h u.1 u.2) (fun u => SpF I L u.1 u.2 ∧ spOf u.1 u.2 = spTake (spOf I L) v)) 0 (a_ar 0 [vr 38, vi v]) [] (sD h I L) := by
  suffices key : ∀ P : a_R → Hp → Prop, (∀ I2 L2, SpF I L I2 L2 → spOf I2 L2 = spTake (spOf I L) v → P (.inl none) (sD h I2 L2)) → AW l G M_Sp_take P 0 [(0, vr 38), (1, vi v)] [] (sD h I L) from key _ (fun I2 L2 q1 q2 => ⟨(I2, L2), rfl, rfl, q1, q2⟩)
  intro P hP
  have ok1 : 0 ≤ I 38 4 := ok.1
  have ok2 : I 38 4 ≤ I 38 3 := ok.2.1
  have ok3 : 1 ≤ I 38 3 := ok.2.2.1
  have ok4 : I 38 3 ≤ 168 := ok.2.2.2
  refine aw_aload_n d_Sp_take_0 rfl rfl ?_
  refine aw_aload_n d_Sp_take_1 rfl rfl ?_
  refine ax_getIe (x := I 38 4) d_Sp_take_2 fd_Sp_23 (k_38 S) (rfl) ?_
  refine aw_iload_n d_Sp_take_5 rfl rfl ?_
  refine ax_V (st := []) (as := [vi (I 38 4), vi v]) (b := 38) (v := none) (h' := sD h I (a_up L 39 (I 38 4 / 8) (a_lxor (L 39 (I 38 4 / 8)) (a_lshl (v % 256) (8 * (I 38 4 % 8)))))) d_Sp_take_6 cs_Sp_take_6 (k_38 S) (c_Sp_mixIn S (by omega)) rfl rfl rfl ?_
  show AW l G M_Sp_take P 9 [(0, vr 38), (1, vi v)] [] (sD h I (a_up L 39 (I 38 4 / 8) (a_lxor (L 39 (I 38 4 / 8)) (a_lshl (v % 256) (8 * (I 38 4 % 8))))))
  refine aw_aload_n d_Sp_take_9 rfl rfl ?_
  refine aw_dup d_Sp_take_10 rfl ?_
  refine ax_getIe (x := I 38 4) d_Sp_take_11 fd_Sp_23 (k_38 S) (rfl) ?_
  refine aw_iconst d_Sp_take_14 ⟨by decide, by decide⟩ ?_
  refine ax_iadd d_Sp_take_15 ⟨(by omega), (by omega)⟩ ?_
  refine ax_putI d_Sp_take_16 fd_Sp_23 (k_38 S) (by decide) rfl ?_
  refine aw_aload_n d_Sp_take_19 rfl rfl ?_
  refine ax_getIe (x := (I 38 4) + 1) d_Sp_take_20 fd_Sp_23 (k_38 S) (a_up_at) ?_
  refine aw_aload_n d_Sp_take_23 rfl rfl ?_
  refine ax_getIe (x := I 38 3) d_Sp_take_24 fd_Sp_19 (k_38 S) (Eq.trans (a_up_ne (Or.inr (by decide))) (rfl)) ?_
  refine aw_icmp_lt (tgt := 39) d_Sp_take_27 (by decide) (fun c_27 => ?_) (fun c_27 => ?_)
  · skip
    exact aw_vret d_Sp_take_39 rfl (hP _ _ ((SpF.rfl'.L _ _).I _ _) (take_lt (by omega) (mix_cl (by omega) (by omega))))
  · skip
    refine aw_aload_n d_Sp_take_30 rfl rfl ?_
    refine ax_Vr (st := []) (as := []) (b := 38) d_Sp_take_31 cs_Sp_take_31 (k_38 S) (c_Sp_permute S (ST.of (fun k j hk => a_up_ne (Or.inl (by omega))) (fun j => a_up_ne (Or.inl (by decide))))) rfl rfl rfl (fun u_31 q_31 => ?_)
    obtain ⟨fK, gK⟩ := q_31
    show AW l G M_Sp_take P 34 [(0, vr 38), (1, vi v)] [] (sD h (a_up I 38 4 ((I 38 4) + 1)) u_31)
    refine aw_aload_n d_Sp_take_34 rfl rfl ?_
    refine aw_iconst d_Sp_take_35 ⟨by decide, by decide⟩ ?_
    refine ax_putI d_Sp_take_36 fd_Sp_23 (k_38 S) (by decide) rfl ?_
    exact aw_vret d_Sp_take_39 rfl (hP _ _ ((((SpF.rfl'.L _ _).K fK).I _ _).I _ _) (take_ge (by omega) (by rw [gK, mix_cl (by omega) (by omega)])))
set_option maxHeartbeats 800000 in
set_option maxRecDepth 100000 in
theorem c_Sp_turn {l : Launch} {G : a_G} {h : Hp} {I L : Nat → Int → Int} (S : Shp h) (ST : Sta I L) (ok : spOk (spOf I L)) : AW l G M_Sp_turn (Ret (fun _ : (Nat → Int → Int) × (Nat → Int → Int) => none) (fun u => sD h u.1 u.2) (fun u => SpF I L u.1 u.2 ∧ spOf u.1 u.2 = spTurn (spOf I L))) 0 (a_ar 0 [vr 38]) [] (sD h I L) := by
  suffices key : ∀ P : a_R → Hp → Prop, (∀ I2 L2, SpF I L I2 L2 → spOf I2 L2 = spTurn (spOf I L) → P (.inl none) (sD h I2 L2)) → AW l G M_Sp_turn P 0 [(0, vr 38)] [] (sD h I L) from key _ (fun I2 L2 q1 q2 => ⟨(I2, L2), rfl, rfl, q1, q2⟩)
  intro P hP
  have ok1 : 0 ≤ I 38 4 := ok.1
  have ok2 : I 38 4 ≤ I 38 3 := ok.2.1
  have ok3 : 1 ≤ I 38 3 := ok.2.2.1
  have ok4 : I 38 3 ≤ 168 := ok.2.2.2
  refine aw_aload_n d_Sp_turn_0 rfl rfl ?_
  refine aw_aload_n d_Sp_turn_1 rfl rfl ?_
  refine ax_getIe (x := I 38 4) d_Sp_turn_2 fd_Sp_23 (k_38 S) (rfl) ?_
  refine aw_bipush d_Sp_turn_5 ⟨by decide, by decide⟩ (by decide) ?_
  refine ax_V (st := []) (as := [vi (I 38 4), vi 31]) (b := 38) (v := none) (h' := sD h I (a_up L 39 (I 38 4 / 8) (a_lxor (L 39 (I 38 4 / 8)) (a_lshl (31 % 256) (8 * (I 38 4 % 8)))))) d_Sp_turn_7 cs_Sp_turn_7 (k_38 S) (c_Sp_mixIn S (by omega)) rfl rfl rfl ?_
  show AW l G M_Sp_turn P 10 [(0, vr 38)] [] (sD h I (a_up L 39 (I 38 4 / 8) (a_lxor (L 39 (I 38 4 / 8)) (a_lshl (31 % 256) (8 * (I 38 4 % 8))))))
  refine aw_aload_n d_Sp_turn_10 rfl rfl ?_
  refine aw_aload_n d_Sp_turn_11 rfl rfl ?_
  refine ax_getIe (x := I 38 3) d_Sp_turn_12 fd_Sp_19 (k_38 S) (rfl) ?_
  refine aw_iconst d_Sp_turn_15 ⟨by decide, by decide⟩ ?_
  refine ax_isub d_Sp_turn_16 ⟨(by omega), (by omega)⟩ ?_
  refine aw_sipush d_Sp_turn_17 ⟨by decide, by decide⟩ (by decide) ?_
  refine ax_V (st := []) (as := [vi ((I 38 3) - 1), vi 128]) (b := 38) (v := none) (h' := sD h I (a_up (a_up L 39 (I 38 4 / 8) (a_lxor (L 39 (I 38 4 / 8)) (a_lshl (31 % 256) (8 * (I 38 4 % 8))))) 39 ((I 38 3 - 1) / 8) (a_lxor ((a_up L 39 (I 38 4 / 8) (a_lxor (L 39 (I 38 4 / 8)) (a_lshl (31 % 256) (8 * (I 38 4 % 8))))) 39 ((I 38 3 - 1) / 8)) (a_lshl (128 % 256) (8 * ((I 38 3 - 1) % 8)))))) d_Sp_turn_20 cs_Sp_turn_20 (k_38 S) (c_Sp_mixIn S (by omega)) rfl rfl rfl ?_
  show AW l G M_Sp_turn P 23 [(0, vr 38)] [] (sD h I (a_up (a_up L 39 (I 38 4 / 8) (a_lxor (L 39 (I 38 4 / 8)) (a_lshl (31 % 256) (8 * (I 38 4 % 8))))) 39 ((I 38 3 - 1) / 8) (a_lxor ((a_up L 39 (I 38 4 / 8) (a_lxor (L 39 (I 38 4 / 8)) (a_lshl (31 % 256) (8 * (I 38 4 % 8))))) 39 ((I 38 3 - 1) / 8)) (a_lshl (128 % 256) (8 * ((I 38 3 - 1) % 8))))))
  refine aw_aload_n d_Sp_turn_23 rfl rfl ?_
  refine ax_Vr (st := []) (as := []) (b := 38) d_Sp_turn_24 cs_Sp_turn_24 (k_38 S) (c_Sp_permute S (ST.of (fun _ _ _ => rfl) (fun j => (a_up_ne (Or.inl (by decide))).trans (a_up_ne (Or.inl (by decide)))))) rfl rfl rfl (fun u_24 q_24 => ?_)
  obtain ⟨fK, gK⟩ := q_24
  show AW l G M_Sp_turn P 27 [(0, vr 38)] [] (sD h I u_24)
  refine aw_aload_n d_Sp_turn_27 rfl rfl ?_
  refine aw_iconst d_Sp_turn_28 ⟨by decide, by decide⟩ ?_
  refine ax_putI d_Sp_turn_29 fd_Sp_23 (k_38 S) (by decide) rfl ?_
  exact aw_vret d_Sp_turn_32 rfl (hP _ _ ((((SpF.rfl'.L _ _).L _ _).K fK).I _ _) (turn_eq (by rw [gK, mix_cl (by omega) (by omega), mix_cl (by omega) (by omega)])))
set_option maxHeartbeats 800000 in
set_option maxRecDepth 100000 in
theorem c_Sp_give {l : Launch} {G : a_G} {h : Hp} {I L : Nat → Int → Int} (S : Shp h) (ST : Sta I L) (ok : spOk (spOf I L)) : AW l G M_Sp_give (Ret (fun _ : (Nat → Int → Int) × (Nat → Int → Int) => some (vi (spGet (spOf I L)))) (fun u => sD h u.1 u.2) (fun u => SpF I L u.1 u.2 ∧ spOf u.1 u.2 = spNext (spOf I L))) 0 (a_ar 0 [vr 38]) [] (sD h I L) := by
  suffices key : ∀ P : a_R → Hp → Prop, (∀ I2 L2 x, SpF I L I2 L2 → spOf I2 L2 = spNext (spOf I L) → x = spGet (spOf I L) → P (.inl (some (vi x))) (sD h I2 L2)) → AW l G M_Sp_give P 0 [(0, vr 38)] [] (sD h I L) from key _ (fun I2 L2 x q1 q2 q3 => ⟨(I2, L2), by rw [q3], rfl, q1, q2⟩)
  intro P hP
  have ok1 : 0 ≤ I 38 4 := ok.1
  have ok2 : I 38 4 ≤ I 38 3 := ok.2.1
  have ok3 : 1 ≤ I 38 3 := ok.2.2.1
  have ok4 : I 38 3 ≤ 168 := ok.2.2.2
  refine aw_aload_n d_Sp_give_0 rfl rfl ?_
  refine ax_getIe (x := I 38 4) d_Sp_give_1 fd_Sp_23 (k_38 S) (rfl) ?_
  refine aw_aload_n d_Sp_give_4 rfl rfl ?_
  refine ax_getIe (x := I 38 3) d_Sp_give_5 fd_Sp_19 (k_38 S) (rfl) ?_
  refine aw_icmp_lt (tgt := 20) d_Sp_give_8 (by decide) (fun c_8 => ?_) (fun c_8 => ?_)
  · skip
    refine aw_aload_n d_Sp_give_20 rfl rfl ?_
    refine ax_getR (b := 39) d_Sp_give_21 fd_Sp_9 (k_38 S) (r_38_0 S) ?_
    refine aw_aload_n d_Sp_give_24 rfl rfl ?_
    refine ax_getIe (x := I 38 4) d_Sp_give_25 fd_Sp_23 (k_38 S) (rfl) ?_
    refine aw_iconst d_Sp_give_28 ⟨by decide, by decide⟩ ?_
    refine aw_ishr d_Sp_give_29 ?_
    refine ax_ti (x := (I 38 4) / 8) (a_shr' 3 rfl (by decide) (by decide) ⟨(by omega), (by omega)⟩) ?_
    refine ax_lalde (x := L 39 ((I 38 4) / 8)) d_Sp_give_30 (k_39 S) (by omega) (by rw [n_39 S]; omega) (rfl) ?_
    refine aw_bipush d_Sp_give_31 ⟨by decide, by decide⟩ (by decide) ?_
    refine aw_aload_n d_Sp_give_33 rfl rfl ?_
    refine ax_getIe (x := I 38 4) d_Sp_give_34 fd_Sp_23 (k_38 S) (rfl) ?_
    refine aw_bipush d_Sp_give_37 ⟨by decide, by decide⟩ (by decide) ?_
    refine aw_iand d_Sp_give_39 ?_
    refine ax_ti (x := (I 38 4) % 8) (a_and' 3 (by decide) (by decide) (by decide)) ?_
    refine ax_imul d_Sp_give_40 ⟨(by omega), (by omega)⟩ ?_
    refine aw_lushr d_Sp_give_41 ?_
    refine aw_l2i d_Sp_give_42 ?_
    refine aw_sipush d_Sp_give_43 ⟨by decide, by decide⟩ (by decide) ?_
    refine aw_iand d_Sp_give_46 ?_
    refine ax_ti (x := (a_w32 (a_lushr (L 39 ((I 38 4) / 8)) (8 * ((I 38 4) % 8)))) % 256) (a_and' 8 (by decide) (by decide) (by decide)) ?_
    refine aw_istore_n (lv' := [(1, vi ((a_w32 (a_lushr (L 39 ((I 38 4) / 8)) (8 * ((I 38 4) % 8)))) % 256)), (0, vr 38)]) d_Sp_give_47 rfl (by decide) rfl ?_
    refine aw_aload_n d_Sp_give_48 rfl rfl ?_
    refine aw_dup d_Sp_give_49 rfl ?_
    refine ax_getIe (x := I 38 4) d_Sp_give_50 fd_Sp_23 (k_38 S) (rfl) ?_
    refine aw_iconst d_Sp_give_53 ⟨by decide, by decide⟩ ?_
    refine ax_iadd d_Sp_give_54 ⟨(by omega), (by omega)⟩ ?_
    refine ax_putI d_Sp_give_55 fd_Sp_23 (k_38 S) (by decide) rfl ?_
    refine aw_iload_n d_Sp_give_58 rfl rfl ?_
    exact aw_iret d_Sp_give_59 rfl (hP _ _ _ (SpF.rfl'.I _ _) (give_lt (by omega)).1 (give_v1 (by omega) (by omega) (by omega)))
  · skip
    refine aw_aload_n d_Sp_give_11 rfl rfl ?_
    refine ax_Vr (st := []) (as := []) (b := 38) d_Sp_give_12 cs_Sp_give_12 (k_38 S) (c_Sp_permute S (ST)) rfl rfl rfl (fun u_12 q_12 => ?_)
    obtain ⟨fK, gK⟩ := q_12
    show AW l G M_Sp_give P 15 [(0, vr 38)] [] (sD h I u_12)
    refine aw_aload_n d_Sp_give_15 rfl rfl ?_
    refine aw_iconst d_Sp_give_16 ⟨by decide, by decide⟩ ?_
    refine ax_putI d_Sp_give_17 fd_Sp_23 (k_38 S) (by decide) rfl ?_
    refine aw_aload_n d_Sp_give_20 rfl rfl ?_
    refine ax_getR (b := 39) d_Sp_give_21 fd_Sp_9 (k_38 S) (r_38_0 S) ?_
    refine aw_aload_n d_Sp_give_24 rfl rfl ?_
    refine ax_getIe (x := 0) d_Sp_give_25 fd_Sp_23 (k_38 S) (a_up_at) ?_
    refine aw_iconst d_Sp_give_28 ⟨by decide, by decide⟩ ?_
    refine aw_ishr d_Sp_give_29 ?_
    refine ax_ti (x := 0) (by decide) ?_
    refine ax_lalde (x := u_12 39 0) d_Sp_give_30 (k_39 S) (by omega) (by rw [n_39 S]; omega) (rfl) ?_
    refine aw_bipush d_Sp_give_31 ⟨by decide, by decide⟩ (by decide) ?_
    refine aw_aload_n d_Sp_give_33 rfl rfl ?_
    refine ax_getIe (x := 0) d_Sp_give_34 fd_Sp_23 (k_38 S) (a_up_at) ?_
    refine aw_bipush d_Sp_give_37 ⟨by decide, by decide⟩ (by decide) ?_
    refine aw_iand d_Sp_give_39 ?_
    refine ax_ti (x := 0) (by decide) ?_
    refine ax_imul d_Sp_give_40 ⟨(by omega), (by omega)⟩ ?_
    refine ax_ti (x := 0) (by decide) ?_
    refine aw_lushr d_Sp_give_41 ?_
    refine aw_l2i d_Sp_give_42 ?_
    refine aw_sipush d_Sp_give_43 ⟨by decide, by decide⟩ (by decide) ?_
    refine aw_iand d_Sp_give_46 ?_
    refine ax_ti (x := (a_w32 (a_lushr (u_12 39 0) 0)) % 256) (a_and' 8 (by decide) (by decide) (by decide)) ?_
    refine aw_istore_n (lv' := [(1, vi ((a_w32 (a_lushr (u_12 39 0) 0)) % 256)), (0, vr 38)]) d_Sp_give_47 rfl (by decide) rfl ?_
    refine aw_aload_n d_Sp_give_48 rfl rfl ?_
    refine aw_dup d_Sp_give_49 rfl ?_
    refine ax_getIe (x := 0) d_Sp_give_50 fd_Sp_23 (k_38 S) (a_up_at) ?_
    refine aw_iconst d_Sp_give_53 ⟨by decide, by decide⟩ ?_
    refine ax_iadd d_Sp_give_54 ⟨(by omega), (by omega)⟩ ?_
    refine ax_ti (x := 1) (by decide) ?_
    refine ax_putI d_Sp_give_55 fd_Sp_23 (k_38 S) (by decide) rfl ?_
    refine aw_iload_n d_Sp_give_58 rfl rfl ?_
    exact aw_iret d_Sp_give_59 rfl (hP _ _ _ (((SpF.rfl'.K fK).I _ _).I _ _) (give_ge (by omega) gK).1 (give_v2 (by omega) gK))
set_option maxHeartbeats 800000 in
set_option maxRecDepth 100000 in
theorem c_Sp_takePart {l : Launch} {G : a_G} {h : Hp} {I L : Nat → Int → Int} {b r : Nat} {st n : Int} (S : Shp h) (ST : Sta I L) (ok : spOk (spOf I L)) (SB : ByO h b r) (hb : b ≠ 38 ∧ r ≠ 38) (hc : I b 1 ≤ hN h r ∧ 0 ≤ st ∧ st < 1000000 ∧ n < 1000000) : AW l G M_Sp_takePart (Ret (fun _ : (Nat → Int → Int) × (Nat → Int → Int) => none) (fun u => sD h u.1 u.2) (fun u => SpF I L u.1 u.2 ∧ spOf u.1 u.2 = spPart (spOf I L) (fun k => byAt I b r (st + k)) n.toNat)) 0 (a_ar 0 [vr 38, vr b, vi st, vi n]) [] (sD h I L) := by
  suffices key : ∀ P : a_R → Hp → Prop, (∀ I2 L2, SpF I L I2 L2 → spOf I2 L2 = spPart (spOf I L) (fun k => byAt I b r (st + k)) n.toNat → P (.inl none) (sD h I2 L2)) → AW l G M_Sp_takePart P 0 [(0, vr 38), (1, vr b), (2, vi st), (3, vi n)] [] (sD h I L) from key _ (fun I2 L2 q1 q2 => ⟨(I2, L2), rfl, rfl, q1, q2⟩)
  intro P hP
  refine aw_iconst d_Sp_takePart_0 ⟨by decide, by decide⟩ ?_
  refine aw_istore (lv' := [(4, vi 0), (0, vr 38), (1, vr b), (2, vi st), (3, vi n)]) d_Sp_takePart_1 (by decide) rfl ?_
  have lp_3 : ∀ (n_ : Nat) (i : Int) (I1 : Nat → Int → Int) (L1 : Nat → Int → Int), (0 ≤ i ∧ (i ≤ n ∨ i = 0)) → (SpF I L I1 L1) → (spOf I1 L1 = spPart (spOf I L) (fun k => byAt I b r (st + k)) i.toNat) → ((n - i).toNat) = n_ → AW l G M_Sp_takePart P 3 [(4, vi i), (3, vi n), (2, vi st), (1, vr b), (0, vr 38)] [] (sD h I1 L1) := by
    intro n_
    induction n_ using Nat.strongRecOn with
    | _ n_ ih_3 =>
    intro i I1 L1 hi F1 e1 hm_3
    refine aw_iload d_Sp_takePart_3 rfl ?_
    refine aw_iload_n d_Sp_takePart_5 rfl rfl ?_
    refine aw_icmp_ge (tgt := 27) d_Sp_takePart_6 (by decide) (fun c_6 => ?_) (fun c_6 => ?_)
    · skip
      exact aw_vret d_Sp_takePart_27 rfl (hP _ _ F1 (by rw [e1, show i.toNat = n.toNat by omega]))
    · skip
      refine aw_aload_n d_Sp_takePart_9 rfl rfl ?_
      refine aw_aload_n d_Sp_takePart_10 rfl rfl ?_
      refine aw_iload_n d_Sp_takePart_11 rfl rfl ?_
      refine aw_iload d_Sp_takePart_12 rfl ?_
      refine ax_iadd d_Sp_takePart_14 ⟨(by omega), (by omega)⟩ ?_
      refine ax_V (st := [vr 38]) (as := [vi (st + i)]) (b := b) (v := some (vi (byAt I b r (st + i)))) (h' := sD h I1 L1) d_Sp_takePart_15 cs_Sp_takePart_15 SB.1 (c_By_at SB (by rw [F1.1 b 1 hb.1]; omega) (byAt_sp F1.1 hb.1 hb.2)) rfl rfl rfl ?_
      show AW l G M_Sp_takePart P 18 [(4, vi i), (3, vi n), (2, vi st), (1, vr b), (0, vr 38)] [vi (byAt I b r (st + i)), vr 38] (sD h I1 L1)
      refine ax_Vr (st := []) (as := [vi (byAt I b r (st + i))]) (b := 38) d_Sp_takePart_18 cs_Sp_takePart_18 (k_38 S) (c_Sp_take S (ST.sp F1) (by rw [e1]; exact spPart_ok ok _ _)) rfl rfl rfl (fun u_18 q_18 => ?_)
      obtain ⟨I2, L2⟩ := u_18
      obtain ⟨F2, e2⟩ := q_18
      dsimp only at F2 e2
      show AW l G M_Sp_takePart P 21 [(4, vi i), (3, vi n), (2, vi st), (1, vr b), (0, vr 38)] [] (sD h I2 L2)
      refine ax_iinc (lv' := [(4, vi (i + 1)), (3, vi n), (2, vi st), (1, vr b), (0, vr 38)]) d_Sp_takePart_21 rfl (by decide) ⟨(by omega), (by omega)⟩ rfl ?_
      refine aw_goto (tgt := 3) d_Sp_takePart_24 (by decide) ?_
      exact ih_3 _ (by omega) (i + 1) I2 L2 (by omega) (F1.tr F2) (by rw [e2, e1, show (i + 1).toNat = i.toNat + 1 by omega]; show _ = spTake _ (byAt I b r (st + (i.toNat : Int))); rw [Int.toNat_of_nonneg hi.1]) rfl
  refine aw_sub (lv' := [(4, vi 0), (3, vi n), (2, vi st), (1, vr b), (0, vr 38)]) (by simp) ?_
  exact lp_3 _ 0 I L (by omega) (SpF.rfl') (rfl) rfl
set_option maxHeartbeats 800000 in
set_option maxRecDepth 100000 in
theorem c_Sp_giveTo {l : Launch} {G : a_G} {h : Hp} {I L : Nat → Int → Int} {b r : Nat} {n : Int} (S : Shp h) (ST : Sta I L) (ok : spOk (spOf I L)) (SB : ByO h b r) (hb : b ≠ 38 ∧ r ≠ 38) (hc : 0 ≤ n ∧ n ≤ hN h r ∧ hN h r < 2147483648) : AW l G M_Sp_giveTo (Ret (fun _ : (Nat → Int → Int) × (Nat → Int → Int) => none) (fun u => sD h u.1 u.2) (fun u => (∀ a j, a ≠ 38 → u.1 a j = byPut (a_up I b 1 0) b r n (spOut (spOf I L)) a j) ∧ (∀ a j, a ≠ 39 → a ≠ 40 → a ≠ 41 → u.2 a j = L a j) ∧ spOf u.1 u.2 = spAt (spOf I L) n.toNat)) 0 (a_ar 0 [vr 38, vr b, vi n]) [] (sD h I L) := by
  suffices key : ∀ P : a_R → Hp → Prop, (∀ I2 L2, (∀ a j, a ≠ 38 → I2 a j = byPut (a_up I b 1 0) b r n (spOut (spOf I L)) a j) → (∀ a j, a ≠ 39 → a ≠ 40 → a ≠ 41 → L2 a j = L a j) → spOf I2 L2 = spAt (spOf I L) n.toNat → P (.inl none) (sD h I2 L2)) → AW l G M_Sp_giveTo P 0 [(0, vr 38), (1, vr b), (2, vi n)] [] (sD h I L) from key _ (fun I2 L2 q1 q2 q3 => ⟨(I2, L2), rfl, rfl, q1, q2, q3⟩)
  intro P hP
  refine aw_aload_n d_Sp_giveTo_0 rfl rfl ?_
  refine ax_V (st := []) (as := []) (b := b) (v := none) (h' := sD h (a_up I b 1 0) L) d_Sp_giveTo_1 cs_Sp_giveTo_1 SB.1 (c_By_clear SB) rfl rfl rfl ?_
  show AW l G M_Sp_giveTo P 4 [(0, vr 38), (1, vr b), (2, vi n)] [] (sD h (a_up I b 1 0) L)
  refine aw_iconst d_Sp_giveTo_4 ⟨by decide, by decide⟩ ?_
  refine aw_istore_n (lv' := [(3, vi 0), (0, vr 38), (1, vr b), (2, vi n)]) d_Sp_giveTo_5 rfl (by decide) rfl ?_
  have lp_6 : ∀ (n_ : Nat) (i : Int) (I1 : Nat → Int → Int) (L1 : Nat → Int → Int), (0 ≤ i ∧ i ≤ n) → (∀ a j, a ≠ 38 → I1 a j = byPut (a_up I b 1 0) b r i (spOut (spOf I L)) a j) → (∀ a j, a ≠ 39 → a ≠ 40 → a ≠ 41 → L1 a j = L a j) → (spOf I1 L1 = spAt (spOf I L) i.toNat) → ((n - i).toNat) = n_ → AW l G M_Sp_giveTo P 6 [(3, vi i), (2, vi n), (1, vr b), (0, vr 38)] [] (sD h I1 L1) := by
    intro n_
    induction n_ using Nat.strongRecOn with
    | _ n_ ih_6 =>
    intro i I1 L1 hi F1 f1 e1 hm_6
    refine aw_iload_n d_Sp_giveTo_6 rfl rfl ?_
    refine aw_iload_n d_Sp_giveTo_7 rfl rfl ?_
    refine aw_icmp_ge (tgt := 25) d_Sp_giveTo_8 (by decide) (fun c_8 => ?_) (fun c_8 => ?_)
    · skip
      exact aw_vret d_Sp_giveTo_25 rfl (hP _ _ (fun a j ha => by rw [F1 a j ha, show i = n by omega]) f1 (by rw [e1, show i = n by omega]))
    · skip
      refine aw_aload_n d_Sp_giveTo_11 rfl rfl ?_
      refine aw_aload_n d_Sp_giveTo_12 rfl rfl ?_
      refine ax_Vr (st := [vr b]) (as := []) (b := 38) d_Sp_giveTo_13 cs_Sp_giveTo_13 (k_38 S) (c_Sp_give S (ST.of (fun k j hk => by rw [F1 k j (by omega), byPut_ne (by have := SB.2.2.2.1; omega) (by have := SB.2.2.2.2.1; omega), a_up_ne (Or.inl (by have := SB.2.2.2.1; omega))]) (fun j => f1 8 j (by decide) (by decide) (by decide))) (by rw [e1]; exact spAt_ok ok _)) rfl rfl rfl (fun u_13 q_13 => ?_)
      obtain ⟨I2, L2⟩ := u_13
      obtain ⟨F2, e2⟩ := q_13
      dsimp only at F2 e2
      show AW l G M_Sp_giveTo P 16 [(3, vi i), (2, vi n), (1, vr b), (0, vr 38)] [vi (spGet (spOf I1 L1)), vr b] (sD h I2 L2)
      refine ax_V (st := []) (as := [vi (spGet (spOf I1 L1))]) (b := b) (v := none) (h' := sD h (byAdd I2 b r (spGet (spOf I1 L1))) L2) d_Sp_giveTo_16 cs_Sp_giveTo_16 SB.1 (c_By_add SB (by rw [F2.1 b 1 hb.1, F1 b 1 hb.1, byPut_cnt, a_up_at]; omega) rfl) rfl rfl rfl ?_
      show AW l G M_Sp_giveTo P 19 [(3, vi i), (2, vi n), (1, vr b), (0, vr 38)] [] (sD h (byAdd I2 b r (spGet (spOf I1 L1))) L2)
      refine ax_iinc (lv' := [(3, vi (i + 1)), (2, vi n), (1, vr b), (0, vr 38)]) d_Sp_giveTo_19 rfl (by decide) ⟨(by omega), (by omega)⟩ rfl ?_
      refine aw_goto (tgt := 6) d_Sp_giveTo_22 (by decide) ?_
      exact ih_6 _ (by omega) (i + 1) (byAdd I2 b r (spGet (spOf I1 L1))) L2 (by omega) (fun a j ha => by rw [byAdd_sp (I := byPut (a_up I b 1 0) b r i (spOut (spOf I L))) (fun a j ha => (F2.1 a j ha).trans (F1 a j ha)) hb.1 a j ha, byPut_1 SB.2.2.2.2.2 hi.1 (by rw [e1]; rfl)]) (fun a j a1 a2 a3 => (F2.2 a j a1 a2 a3).trans (f1 a j a1 a2 a3)) (by rw [spOf_add hb.1 hb.2, e2, e1, show (i + 1).toNat = i.toNat + 1 by omega]; rfl) rfl
  refine aw_sub (lv' := [(3, vi 0), (2, vi n), (1, vr b), (0, vr 38)]) (by simp) ?_
  exact lp_6 _ 0 (a_up I b 1 0) L (by omega) (fun a j ha => by rw [byPut_0]) (fun _ _ _ _ _ => rfl) (by show (cl (L 39), a_up I b 1 0 38 4, a_up I b 1 0 38 3) = _; rw [a_up_ne (Or.inl hb.1.symm), a_up_ne (Or.inl hb.1.symm)]; rfl) rfl
