/-! the reference's sponge: steps -/
abbrev qR (a : Nat) (j : Int) : Prop := a ≠ 175 ∨ (j ≠ 18 ∧ j ≠ 19 ∧ j ≠ 20)
def RF (I L I' L' : Nat → Int → Int) : Prop := (∀ a j, qR a j → I' a j = I a j) ∧ (∀ a j, a ≠ 175 → a ≠ 195 → a ≠ 196 → a ≠ 197 → L' a j = L a j)
def spR (I L : Nat → Int → Int) : Sp := (cl (L 195), I 175 20, I 175 19)
def spLt (s : Sp) : Prop := spOk s ∧ s.2.1 < s.2.2
theorem spTake_lt {s : Sp} (h : spLt s) (v : Int) : spLt (spTake s v) := by
  refine ⟨spTake_ok h.1 v, ?_⟩
  unfold spTake
  obtain ⟨⟨h1, h2, h3, h4⟩, h5⟩ := h
  split
  · show (0 : Int) < s.2.2; omega
  · show s.2.1 + 1 < s.2.2; omega
theorem spPart_lt {s : Sp} (h : spLt s) (g : Int → Int) : ∀ n, spLt (spPart s g n)
  | 0 => h
  | n + 1 => spTake_lt (spPart_lt h g n) _
theorem spTurn_lt {s : Sp} (h : spOk s) : spLt (spTurn s) := ⟨spTurn_ok h, by have := h.2.2.1; show (0 : Int) < s.2.2; omega⟩
theorem spStart_lt {r : Int} (h : 1 ≤ r) (h2 : r ≤ 168) : spLt (spStart r) := ⟨⟨Int.le_refl _, by show (0 : Int) ≤ r; omega, h, h2⟩, by show (0 : Int) < r; omega⟩
theorem RF.rfl' {I L : Nat → Int → Int} : RF I L I L := ⟨fun _ _ _ => rfl, fun _ _ _ _ _ _ => rfl⟩
theorem RF.tr {I L I' L' I2 L2 : Nat → Int → Int} (h : RF I L I' L') (h' : RF I' L' I2 L2) : RF I L I2 L2 := ⟨fun a j ha => (h'.1 a j ha).trans (h.1 a j ha), fun a j a0 a1 a2 a3 => (h'.2 a j a0 a1 a2 a3).trans (h.2 a j a0 a1 a2 a3)⟩
theorem RF.I {I L I' L' : Nat → Int → Int} (h : RF I L I' L') (j v : Int) (hj : j = 18 ∨ j = 19 ∨ j = 20) : RF I L (a_up I' 175 j v) L' := ⟨fun a i ha => (a_up_ne (by rcases ha with h1 | h1; exact Or.inl h1; exact Or.inr (by omega))).trans (h.1 a i ha), h.2⟩
theorem RF.L {I L I' L' : Nat → Int → Int} (h : RF I L I' L') (j v : Int) : RF I L I' (a_up L' 195 j v) := ⟨h.1, fun a i a0 a1 a2 a3 => (a_up_ne (Or.inl a1)).trans (h.2 a i a0 a1 a2 a3)⟩
theorem RF.T {I L I' L' : Nat → Int → Int} (h : RF I L I' L') (j v : Int) : RF I L I' (a_up L' 175 j v) := ⟨h.1, fun a i a0 a1 a2 a3 => (a_up_ne (Or.inl a0)).trans (h.2 a i a0 a1 a2 a3)⟩
theorem RF.K {I L I' L' K : Nat → Int → Int} (h : RF I L I' L') (hk : ∀ a j, a ≠ 195 → a ≠ 196 → a ≠ 197 → K a j = L' a j) : RF I L I' K := ⟨h.1, fun a i a0 a1 a2 a3 => (hk a i a1 a2 a3).trans (h.2 a i a0 a1 a2 a3)⟩
theorem RSt.of {I L I' L' : Nat → Int → Int} (h : RSt I L) (hI : ∀ j, I' 193 j = I 193 j) (hL : ∀ j, L' 194 j = L 194 j) : RSt I' L' := ⟨fun j h1 h2 => (hI j).trans (h.1 j h1 h2), fun j h1 h2 => (hL j).trans (h.2 j h1 h2)⟩
theorem RSt.rf {I L I' L' : Nat → Int → Int} (h : RSt I L) (hF : RF I L I' L') : RSt I' L' := h.of (fun j => hF.1 193 j (Or.inl (by decide))) (fun j => hF.2 194 j (by decide) (by decide) (by decide) (by decide))
theorem mix_clR {L : Nat → Int → Int} {p v : Int} (h0 : 0 ≤ p) (h1 : p < 200) : cl (a_up L 195 (p / 8) (a_lxor (L 195 (p / 8)) (a_lshl (v % 256) (8 * (p % 8)))) 195) = kMix (cl (L 195)) p v := by
  unfold kMix
  refine cl_ext (fun j a b => ?_)
  rw [cl_in a b]
  by_cases q : j = p / 8
  · rw [q, a_up_at, if_pos rfl]
  · rw [a_up_ne (Or.inr q), if_neg q]
theorem put_lt {I L L' : Nat → Int → Int} {v : Int} (h : I 175 20 + 1 < I 175 19) (hL : cl (L' 195) = kMix (cl (L 195)) (I 175 20) v) : spR (a_up I 175 20 (I 175 20 + 1)) L' = spTake (spR I L) v := by
  have e : spTake (spR I L) v = if I 175 19 ≤ I 175 20 + 1 then (kPerm (kMix (cl (L 195)) (I 175 20) v), 0, I 175 19) else (kMix (cl (L 195)) (I 175 20) v, I 175 20 + 1, I 175 19) := rfl
  rw [e, if_neg (show ¬ (I 175 19 ≤ I 175 20 + 1) by omega)]
  unfold spR
  rw [hL, a_up_at, a_up_ne (Or.inr (by decide))]
theorem put_ge {I L L' : Nat → Int → Int} {v : Int} (h : I 175 19 ≤ I 175 20 + 1) (hL : cl (L' 195) = kPerm (kMix (cl (L 195)) (I 175 20) v)) : spR (a_up (a_up I 175 20 (I 175 20 + 1)) 175 20 0) L' = spTake (spR I L) v := by
  have e : spTake (spR I L) v = if I 175 19 ≤ I 175 20 + 1 then (kPerm (kMix (cl (L 195)) (I 175 20) v), 0, I 175 19) else (kMix (cl (L 195)) (I 175 20) v, I 175 20 + 1, I 175 19) := rfl
  rw [e, if_pos (show (I 175 19 ≤ I 175 20 + 1) by omega)]
  unfold spR
  rw [hL, a_up_at, a_up_ne (Or.inr (by decide)), a_up_ne (Or.inr (by decide))]
theorem fin_eq {I L L' : Nat → Int → Int} (hL : cl (L' 195) = kPerm (kMix (kMix (cl (L 195)) (I 175 20) 31) (I 175 19 - 1) 128)) : spR (a_up I 175 20 0) L' = spTurn (spR I L) := by
  unfold spTurn spR
  rw [hL, a_up_at, a_up_ne (Or.inr (by decide))]
theorem sq_lt {I L : Nat → Int → Int} (h : I 175 20 < I 175 19) : spR (a_up I 175 20 (I 175 20 + 1)) L = spNext (spR I L) ∧ spPre (spR I L) = spR I L := by
  have e : spPre (spR I L) = spR I L := if_neg (show ¬ (I 175 19 ≤ I 175 20) by omega)
  refine ⟨?_, e⟩
  unfold spNext
  rw [e]
  unfold spR
  rw [a_up_at, a_up_ne (Or.inr (by decide))]
theorem sq_ge {I L K : Nat → Int → Int} (h : I 175 19 ≤ I 175 20) (hK : cl (K 195) = kPerm (cl (L 195))) : spR (a_up (a_up I 175 20 0) 175 20 1) K = spNext (spR I L) ∧ spPre (spR I L) = (cl (K 195), 0, I 175 19) := by
  have e : spPre (spR I L) = (cl (K 195), 0, I 175 19) := by rw [hK]; exact if_pos (show (I 175 19 ≤ I 175 20) by omega)
  refine ⟨?_, e⟩
  unfold spNext
  rw [e]
  unfold spR
  rw [a_up_at, a_up_ne (Or.inr (by decide)), a_up_ne (Or.inr (by decide))]
  rfl
theorem sq_v1 {I L : Nat → Int → Int} (h : I 175 20 < I 175 19) (h0 : 0 ≤ I 175 20) (h1 : I 175 19 ≤ 168) : a_w32 (a_lushr (L 195 (I 175 20 / 8)) (8 * (I 175 20 % 8))) % 256 = spGet (spR I L) := by
  unfold spGet
  rw [(sq_lt h).2]
  show _ = a_w32 (a_lushr (cl (L 195) (I 175 20 / 8)) (8 * (I 175 20 % 8))) % 256
  rw [cl_in (by omega) (by omega)]
theorem sq_v2 {I L K : Nat → Int → Int} (h : I 175 19 ≤ I 175 20) (hK : cl (K 195) = kPerm (cl (L 195))) : a_w32 (a_lushr (K 195 (0 / 8)) (8 * (0 % 8))) % 256 = spGet (spR I L) := by
  have e : spGet (spR I L) = a_w32 (a_lushr (cl (K 195) (0 / 8)) (8 * (0 % 8))) % 256 := by unfold spGet; rw [(sq_ge h hK).2]; unfold spByte; rfl
  rw [e, show (0 : Int) / 8 = 0 from rfl, cl_in (by decide) (by decide)]
theorem begin_eq {I L : Nat → Int → Int} {k rate : Int} (h : ∀ j, 0 ≤ j → j < 25 → L 195 j = 0) : spR (a_up (a_up (a_up I 175 18 k) 175 20 0) 175 19 rate) L = spStart rate := by
  unfold spR spStart
  rw [a_up_at, a_up_ne (Or.inr (by decide)), a_up_at]
  congr 1
  rw [cl_ext (B := fun _ => 0) h]
  funext j
  unfold cl
  split <;> rfl
def putRow (I : Nat → Int → Int) (f : Nat) (at_ n : Int) (g : Int → Int) : Nat → Int → Int := fun a j => if a = f ∧ at_ ≤ j ∧ j < at_ + n then a_w8 (g (j - at_)) else I a j
theorem putRow_0 {I : Nat → Int → Int} {f : Nat} {p : Int} {g : Int → Int} : putRow I f p 0 g = I := by
  funext a j
  unfold putRow
  rw [if_neg (by omega)]
theorem putRow_1 {I : Nat → Int → Int} {f : Nat} {p n v : Int} {g : Int → Int} (h : 0 ≤ n) (hv : v = a_w8 (g n)) : a_up (putRow I f p n g) f (p + n) v = putRow I f p (n + 1) g := by
  funext a j
  unfold a_up putRow
  by_cases c : a = f ∧ j = p + n
  · rw [if_pos c, if_pos (by omega), c.2, hv, show p + n - p = n by omega]
  · rw [if_neg c]
    by_cases c2 : a = f ∧ p ≤ j ∧ j < p + n
    · rw [if_pos c2, if_pos (by omega)]
    · rw [if_neg c2, if_neg (by omega)]
theorem putRow_ne {I : Nat → Int → Int} {f a : Nat} {p n j : Int} {g : Int → Int} (h : a ≠ f) : putRow I f p n g a j = I a j := if_neg (fun e => h e.1)
theorem putRow_in {I : Nat → Int → Int} {f : Nat} {p n j : Int} {g : Int → Int} (h : p ≤ j) (h2 : j < p + n) : putRow I f p n g f j = a_w8 (g (j - p)) := if_pos ⟨rfl, h, h2⟩
theorem putRow_out {I : Nat → Int → Int} {f : Nat} {p n j : Int} {g : Int → Int} (h : j < p ∨ p + n ≤ j) : putRow I f p n g f j = I f j := if_neg (by omega)
set_option maxHeartbeats 800000 in
set_option maxRecDepth 100000 in
theorem c_Mo_sponge {l : Launch} {G : a_G} {h : Hp} {I L : Nat → Int → Int} (S : Shp h) (hk : 6 < I 175 18) : AW l G M_Mo_sponge (Rx (some (vi 1)) (sD h I L)) 0 (a_ar 0 [vr 175]) [] (sD h I L) := by
  suffices key : ∀ P : a_R → Hp → Prop, (P (.inl (some (vi 1))) (sD h I L)) → AW l G M_Mo_sponge P 0 [(0, vr 175)] [] (sD h I L) from key _ (⟨rfl, rfl⟩)
  intro P hP
  refine aw_aload_n d_Mo_sponge_0 rfl rfl ?_
  refine ax_getIe (x := I 175 18) d_Mo_sponge_1 fd_Mo_159 (k_175 S) (rfl) ?_
  refine aw_bipush d_Mo_sponge_4 ⟨by decide, by decide⟩ (by decide) ?_
  refine aw_icmp_le (tgt := 13) d_Mo_sponge_6 (by decide) (fun c_6 => False.elim (by omega)) (fun c_6 => ?_)
  refine aw_iconst d_Mo_sponge_9 ⟨by decide, by decide⟩ ?_
  refine aw_goto (tgt := 14) d_Mo_sponge_10 (by decide) ?_
  exact aw_zret d_Mo_sponge_14 rfl ⟨by decide, by decide⟩ hP
set_option maxHeartbeats 800000 in
set_option maxRecDepth 100000 in
theorem c_Mo_flip {l : Launch} {G : a_G} {h : Hp} {I L : Nat → Int → Int} {p v : Int} (S : Shp h) (hp : 0 ≤ p ∧ p < 200) : AW l G M_Mo_flip (Rx none (sD h I (a_up L 195 (p / 8) (a_lxor (L 195 (p / 8)) (a_lshl (v % 256) (8 * (p % 8))))))) 0 (a_ar 0 [vr 175, vi p, vi v]) [] (sD h I L) := by
  suffices key : ∀ P : a_R → Hp → Prop, (P (.inl none) (sD h I (a_up L 195 (p / 8) (a_lxor (L 195 (p / 8)) (a_lshl (v % 256) (8 * (p % 8))))))) → AW l G M_Mo_flip P 0 [(0, vr 175), (1, vi p), (2, vi v)] [] (sD h I L) from key _ (⟨rfl, rfl⟩)
  intro P hP
  refine aw_aload_n d_Mo_flip_0 rfl rfl ?_
  refine ax_getR (b := 195) d_Mo_flip_1 fd_Mo_47 (k_175 S) (r_175_13 S) ?_
  refine aw_iload_n d_Mo_flip_4 rfl rfl ?_
  refine aw_bipush d_Mo_flip_5 ⟨by decide, by decide⟩ (by decide) ?_
  refine ax_idiv d_Mo_flip_7 ⟨(by omega), (by omega)⟩ (by omega) ?_
  refine aw_dup2 d_Mo_flip_8 rfl rfl ?_
  refine ax_lalde (x := L 195 (p / 8)) d_Mo_flip_9 (k_195 S) (by omega) (by rw [n_195 S]; omega) (rfl) ?_
  refine aw_iload_n d_Mo_flip_10 rfl rfl ?_
  refine aw_i2l d_Mo_flip_11 ?_
  refine aw_ldc2 (n := 255) d_Mo_flip_12 lc_Mo_124 ⟨by decide, by decide⟩ ?_
  refine aw_land d_Mo_flip_15 ?_
  refine ax_tl (x := v % 256) (a_land' 8 (by decide) (by decide) (by decide)) ?_
  refine aw_bipush d_Mo_flip_16 ⟨by decide, by decide⟩ (by decide) ?_
  refine aw_iload_n d_Mo_flip_18 rfl rfl ?_
  refine aw_bipush d_Mo_flip_19 ⟨by decide, by decide⟩ (by decide) ?_
  refine ax_irem d_Mo_flip_21 (by omega) (by omega) ?_
  refine ax_imul d_Mo_flip_22 ⟨(by omega), (by omega)⟩ ?_
  refine aw_lshl d_Mo_flip_23 ?_
  refine aw_lxor d_Mo_flip_24 ?_
  refine ax_last d_Mo_flip_25 (k_195 S) (by decide) (by omega) (by rw [n_195 S]; omega) ?_
  exact aw_vret d_Mo_flip_26 rfl hP
set_option maxHeartbeats 800000 in
set_option maxRecDepth 100000 in
theorem c_Mo_begin11 {l : Launch} {G : a_G} {h : Hp} {I L : Nat → Int → Int} (S : Shp h) : AW l G M_Mo_begin (Ret (fun _ : (Nat → Int → Int) × (Nat → Int → Int) => none) (fun u => sD h u.1 u.2) (fun u => RF I L u.1 u.2 ∧ spR u.1 u.2 = spStart 168 ∧ u.1 175 18 = 11)) 0 (a_ar 0 [vr 175, vi 11]) [] (sD h I L) := by
  suffices key : ∀ P : a_R → Hp → Prop, (∀ I2 L2, RF I L I2 L2 → spR I2 L2 = spStart 168 → I2 175 18 = 11 → P (.inl none) (sD h I2 L2)) → AW l G M_Mo_begin P 0 [(0, vr 175), (1, vi 11)] [] (sD h I L) from key _ (fun I2 L2 q1 q2 q3 => ⟨(I2, L2), rfl, rfl, q1, q2, q3⟩)
  intro P hP
  refine aw_aload_n d_Mo_begin_0 rfl rfl ?_
  refine aw_iload_n d_Mo_begin_1 rfl rfl ?_
  refine ax_putI d_Mo_begin_2 fd_Mo_159 (k_175 S) (by decide) rfl ?_
  refine aw_aload_n d_Mo_begin_5 rfl rfl ?_
  refine aw_iconst d_Mo_begin_6 ⟨by decide, by decide⟩ ?_
  refine ax_putI d_Mo_begin_7 fd_Mo_162 (k_175 S) (by decide) rfl ?_
  refine aw_aload_n d_Mo_begin_10 rfl rfl ?_
  refine aw_lconst (x := 0) d_Mo_begin_11 ⟨by decide, by decide⟩ (by decide) ?_
  refine ax_putL d_Mo_begin_12 fd_Mo_165 (k_175 S) (by decide) rfl ?_
  refine aw_iconst d_Mo_begin_15 ⟨by decide, by decide⟩ ?_
  refine aw_istore_n (lv' := [(2, vi 0), (0, vr 175), (1, vi 11)]) d_Mo_begin_16 rfl (by decide) rfl ?_
  have lp_17 : ∀ (n_ : Nat) (i : Int) (K : Nat → Int → Int), (0 ≤ i ∧ i ≤ 25) → (∀ b j, b ≠ 195 → K b j = a_up L 175 21 0 b j) → (∀ j, 0 ≤ j → j < i → K 195 j = (fun _ => 0 : Int → Int) j) → ((25 - i).toNat) = n_ → AW l G M_Mo_begin P 17 [(2, vi i), (1, vi 11), (0, vr 175)] [] (sD h (a_up (a_up I 175 18 11) 175 20 0) K) := by
    intro n_
    induction n_ using Nat.strongRecOn with
    | _ n_ ih_17 =>
    intro i K hi f1 g1 hm_17
    refine aw_iload_n d_Mo_begin_17 rfl rfl ?_
    refine aw_bipush d_Mo_begin_18 ⟨by decide, by decide⟩ (by decide) ?_
    refine aw_icmp_ge (tgt := 36) d_Mo_begin_20 (by decide) (fun c_20 => ?_) (fun c_20 => ?_)
    · skip
      refine aw_aload_n d_Mo_begin_36 rfl rfl ?_
      refine aw_iload_n d_Mo_begin_37 rfl rfl ?_
      refine aw_bipush d_Mo_begin_38 ⟨by decide, by decide⟩ (by decide) ?_
      refine aw_icmp_ne (tgt := 49) d_Mo_begin_40 (by decide) (fun c_40 => False.elim (by omega)) (fun c_40 => ?_)
      refine aw_sipush d_Mo_begin_43 ⟨by decide, by decide⟩ (by decide) ?_
      refine aw_goto (tgt := 84) d_Mo_begin_46 (by decide) ?_
      refine ax_putI d_Mo_begin_84 fd_Mo_175 (k_175 S) (by decide) rfl ?_
      refine aw_iconst d_Mo_begin_87 ⟨by decide, by decide⟩ ?_
      refine aw_istore_n (lv' := [(2, vi 0), (1, vi 11), (0, vr 175)]) d_Mo_begin_88 rfl (by decide) rfl ?_
      refine aw_iload_n d_Mo_begin_89 rfl rfl ?_
      refine aw_bipush d_Mo_begin_90 ⟨by decide, by decide⟩ (by decide) ?_
      refine aw_icmp_ge (tgt := 203) d_Mo_begin_92 (by decide) (fun c_92 => False.elim (by omega)) (fun c_92 => ?_)
      refine aw_iload_n d_Mo_begin_95 rfl rfl ?_
      refine aw_bipush d_Mo_begin_96 ⟨by decide, by decide⟩ (by decide) ?_
      refine aw_icmp_ge (tgt := 203) d_Mo_begin_98 (by decide) (fun c_98 => ?_) (fun c_98 => False.elim (by omega))
      exact aw_vret d_Mo_begin_203 rfl (hP _ _ ((((((RF.rfl'.T 21 0).K (fun a j a1 _ _ => f1 a j a1)).I 18 11 (by omega)).I 20 0 (by omega)).I 19 168 (by omega))) (begin_eq (fun j a b => g1 j a (by omega))) (by rw [a_up_ne (Or.inr (by decide)), a_up_ne (Or.inr (by decide)), a_up_at]))
    · skip
      refine aw_aload_n d_Mo_begin_23 rfl rfl ?_
      refine ax_getR (b := 195) d_Mo_begin_24 fd_Mo_47 (k_175 S) (r_175_13 S) ?_
      refine aw_iload_n d_Mo_begin_27 rfl rfl ?_
      refine aw_lconst (x := 0) d_Mo_begin_28 ⟨by decide, by decide⟩ (by decide) ?_
      refine ax_last d_Mo_begin_29 (k_195 S) (by decide) (by omega) (by rw [n_195 S]; omega) ?_
      refine ax_iinc (lv' := [(2, vi (i + 1)), (1, vi 11), (0, vr 175)]) d_Mo_begin_30 rfl (by decide) ⟨(by omega), (by omega)⟩ rfl ?_
      refine aw_goto (tgt := 17) d_Mo_begin_33 (by decide) ?_
      exact ih_17 _ (by omega) (i + 1) (a_up K 195 i 0) (by omega) (up_frame f1) (row_step g1 rfl) rfl
  refine aw_sub (lv' := [(2, vi 0), (1, vi 11), (0, vr 175)]) (by simp) ?_
  exact lp_17 _ 0 (a_up L 175 21 0) (by omega) (fun _ _ _ => rfl) (fun j x y => by omega) rfl
set_option maxHeartbeats 800000 in
set_option maxRecDepth 100000 in
theorem c_Mo_begin12 {l : Launch} {G : a_G} {h : Hp} {I L : Nat → Int → Int} (S : Shp h) : AW l G M_Mo_begin (Ret (fun _ : (Nat → Int → Int) × (Nat → Int → Int) => none) (fun u => sD h u.1 u.2) (fun u => RF I L u.1 u.2 ∧ spR u.1 u.2 = spStart 136 ∧ u.1 175 18 = 12)) 0 (a_ar 0 [vr 175, vi 12]) [] (sD h I L) := by
  suffices key : ∀ P : a_R → Hp → Prop, (∀ I2 L2, RF I L I2 L2 → spR I2 L2 = spStart 136 → I2 175 18 = 12 → P (.inl none) (sD h I2 L2)) → AW l G M_Mo_begin P 0 [(0, vr 175), (1, vi 12)] [] (sD h I L) from key _ (fun I2 L2 q1 q2 q3 => ⟨(I2, L2), rfl, rfl, q1, q2, q3⟩)
  intro P hP
  refine aw_aload_n d_Mo_begin_0 rfl rfl ?_
  refine aw_iload_n d_Mo_begin_1 rfl rfl ?_
  refine ax_putI d_Mo_begin_2 fd_Mo_159 (k_175 S) (by decide) rfl ?_
  refine aw_aload_n d_Mo_begin_5 rfl rfl ?_
  refine aw_iconst d_Mo_begin_6 ⟨by decide, by decide⟩ ?_
  refine ax_putI d_Mo_begin_7 fd_Mo_162 (k_175 S) (by decide) rfl ?_
  refine aw_aload_n d_Mo_begin_10 rfl rfl ?_
  refine aw_lconst (x := 0) d_Mo_begin_11 ⟨by decide, by decide⟩ (by decide) ?_
  refine ax_putL d_Mo_begin_12 fd_Mo_165 (k_175 S) (by decide) rfl ?_
  refine aw_iconst d_Mo_begin_15 ⟨by decide, by decide⟩ ?_
  refine aw_istore_n (lv' := [(2, vi 0), (0, vr 175), (1, vi 12)]) d_Mo_begin_16 rfl (by decide) rfl ?_
  have lp_17 : ∀ (n_ : Nat) (i : Int) (K : Nat → Int → Int), (0 ≤ i ∧ i ≤ 25) → (∀ b j, b ≠ 195 → K b j = a_up L 175 21 0 b j) → (∀ j, 0 ≤ j → j < i → K 195 j = (fun _ => 0 : Int → Int) j) → ((25 - i).toNat) = n_ → AW l G M_Mo_begin P 17 [(2, vi i), (1, vi 12), (0, vr 175)] [] (sD h (a_up (a_up I 175 18 12) 175 20 0) K) := by
    intro n_
    induction n_ using Nat.strongRecOn with
    | _ n_ ih_17 =>
    intro i K hi f1 g1 hm_17
    refine aw_iload_n d_Mo_begin_17 rfl rfl ?_
    refine aw_bipush d_Mo_begin_18 ⟨by decide, by decide⟩ (by decide) ?_
    refine aw_icmp_ge (tgt := 36) d_Mo_begin_20 (by decide) (fun c_20 => ?_) (fun c_20 => ?_)
    · skip
      refine aw_aload_n d_Mo_begin_36 rfl rfl ?_
      refine aw_iload_n d_Mo_begin_37 rfl rfl ?_
      refine aw_bipush d_Mo_begin_38 ⟨by decide, by decide⟩ (by decide) ?_
      refine aw_icmp_ne (tgt := 49) d_Mo_begin_40 (by decide) (fun c_40 => ?_) (fun c_40 => False.elim (by omega))
      refine aw_iload_n d_Mo_begin_49 rfl rfl ?_
      refine aw_bipush d_Mo_begin_50 ⟨by decide, by decide⟩ (by decide) ?_
      refine aw_icmp_ne (tgt := 61) d_Mo_begin_52 (by decide) (fun c_52 => False.elim (by omega)) (fun c_52 => ?_)
      refine aw_sipush d_Mo_begin_55 ⟨by decide, by decide⟩ (by decide) ?_
      refine aw_goto (tgt := 84) d_Mo_begin_58 (by decide) ?_
      refine ax_putI d_Mo_begin_84 fd_Mo_175 (k_175 S) (by decide) rfl ?_
      refine aw_iconst d_Mo_begin_87 ⟨by decide, by decide⟩ ?_
      refine aw_istore_n (lv' := [(2, vi 0), (1, vi 12), (0, vr 175)]) d_Mo_begin_88 rfl (by decide) rfl ?_
      refine aw_iload_n d_Mo_begin_89 rfl rfl ?_
      refine aw_bipush d_Mo_begin_90 ⟨by decide, by decide⟩ (by decide) ?_
      refine aw_icmp_ge (tgt := 203) d_Mo_begin_92 (by decide) (fun c_92 => False.elim (by omega)) (fun c_92 => ?_)
      refine aw_iload_n d_Mo_begin_95 rfl rfl ?_
      refine aw_bipush d_Mo_begin_96 ⟨by decide, by decide⟩ (by decide) ?_
      refine aw_icmp_ge (tgt := 203) d_Mo_begin_98 (by decide) (fun c_98 => ?_) (fun c_98 => False.elim (by omega))
      exact aw_vret d_Mo_begin_203 rfl (hP _ _ ((((((RF.rfl'.T 21 0).K (fun a j a1 _ _ => f1 a j a1)).I 18 12 (by omega)).I 20 0 (by omega)).I 19 136 (by omega))) (begin_eq (fun j a b => g1 j a (by omega))) (by rw [a_up_ne (Or.inr (by decide)), a_up_ne (Or.inr (by decide)), a_up_at]))
    · skip
      refine aw_aload_n d_Mo_begin_23 rfl rfl ?_
      refine ax_getR (b := 195) d_Mo_begin_24 fd_Mo_47 (k_175 S) (r_175_13 S) ?_
      refine aw_iload_n d_Mo_begin_27 rfl rfl ?_
      refine aw_lconst (x := 0) d_Mo_begin_28 ⟨by decide, by decide⟩ (by decide) ?_
      refine ax_last d_Mo_begin_29 (k_195 S) (by decide) (by omega) (by rw [n_195 S]; omega) ?_
      refine ax_iinc (lv' := [(2, vi (i + 1)), (1, vi 12), (0, vr 175)]) d_Mo_begin_30 rfl (by decide) ⟨(by omega), (by omega)⟩ rfl ?_
      refine aw_goto (tgt := 17) d_Mo_begin_33 (by decide) ?_
      exact ih_17 _ (by omega) (i + 1) (a_up K 195 i 0) (by omega) (up_frame f1) (row_step g1 rfl) rfl
  refine aw_sub (lv' := [(2, vi 0), (1, vi 12), (0, vr 175)]) (by simp) ?_
  exact lp_17 _ 0 (a_up L 175 21 0) (by omega) (fun _ _ _ => rfl) (fun j x y => by omega) rfl
theorem cl_t {L : Nat → Int → Int} (j v : Int) : cl (a_up L 175 j v 195) = cl (L 195) := cl_ext (fun i _ _ => a_up_ne (Or.inl (by decide)))
set_option maxHeartbeats 800000 in
set_option maxRecDepth 100000 in
theorem c_Mo_put1 {l : Launch} {G : a_G} {h : Hp} {I L : Nat → Int → Int} {v : Int} (S : Shp h) (RS : RSt I L) (hk : 10 < I 175 18) (ok : spLt (spR I L)) : AW l G M_Mo_put1 (Ret (fun _ : (Nat → Int → Int) × (Nat → Int → Int) => none) (fun u => sD h u.1 u.2) (fun u => RF I L u.1 u.2 ∧ spR u.1 u.2 = spTake (spR I L) v ∧ u.1 175 18 = I 175 18)) 0 (a_ar 0 [vr 175, vi v]) [] (sD h I L) := by
  suffices key : ∀ P : a_R → Hp → Prop, (∀ I2 L2, RF I L I2 L2 → spR I2 L2 = spTake (spR I L) v → I2 175 18 = I 175 18 → P (.inl none) (sD h I2 L2)) → AW l G M_Mo_put1 P 0 [(0, vr 175), (1, vi v)] [] (sD h I L) from key _ (fun I2 L2 q1 q2 q3 => ⟨(I2, L2), rfl, rfl, q1, q2, q3⟩)
  intro P hP
  have ok1 : 0 ≤ I 175 20 := ok.1.1
  have ok2 : I 175 20 ≤ I 175 19 := ok.1.2.1
  have ok3 : 1 ≤ I 175 19 := ok.1.2.2.1
  have ok4 : I 175 19 ≤ 168 := ok.1.2.2.2
  have ok5 : I 175 20 < I 175 19 := ok.2
  refine aw_aload_n d_Mo_put1_0 rfl rfl ?_
  refine ax_V (st := []) (as := []) (b := 175) (v := some (vi 1)) (h' := sD h I L) d_Mo_put1_1 cs_Mo_put1_1 (k_175 S) (c_Mo_sponge S (by omega)) rfl rfl rfl ?_
  show AW l G M_Mo_put1 P 4 [(0, vr 175), (1, vi v)] [vi 1] (sD h I L)
  refine aw_if_eq (tgt := 19) d_Mo_put1_4 (by decide) (fun c_4 => False.elim (by omega)) (fun c_4 => ?_)
  refine aw_aload_n d_Mo_put1_7 rfl rfl ?_
  refine aw_aload_n d_Mo_put1_8 rfl rfl ?_
  refine ax_getIe (x := I 175 20) d_Mo_put1_9 fd_Mo_162 (k_175 S) (rfl) ?_
  refine aw_iload_n d_Mo_put1_12 rfl rfl ?_
  refine ax_V (st := []) (as := [vi (I 175 20), vi v]) (b := 175) (v := none) (h' := sD h I (a_up L 195 (I 175 20 / 8) (a_lxor (L 195 (I 175 20 / 8)) (a_lshl (v % 256) (8 * (I 175 20 % 8)))))) d_Mo_put1_13 cs_Mo_put1_13 (k_175 S) (c_Mo_flip S (by omega)) rfl rfl rfl ?_
  show AW l G M_Mo_put1 P 16 [(0, vr 175), (1, vi v)] [] (sD h I (a_up L 195 (I 175 20 / 8) (a_lxor (L 195 (I 175 20 / 8)) (a_lshl (v % 256) (8 * (I 175 20 % 8))))))
  refine aw_goto (tgt := 30) d_Mo_put1_16 (by decide) ?_
  refine aw_aload_n d_Mo_put1_30 rfl rfl ?_
  refine aw_dup d_Mo_put1_31 rfl ?_
  refine ax_getIe (x := I 175 20) d_Mo_put1_32 fd_Mo_162 (k_175 S) (rfl) ?_
  refine aw_iconst d_Mo_put1_35 ⟨by decide, by decide⟩ ?_
  refine ax_iadd d_Mo_put1_36 ⟨(by omega), (by omega)⟩ ?_
  refine ax_putI d_Mo_put1_37 fd_Mo_162 (k_175 S) (by decide) rfl ?_
  refine aw_aload_n d_Mo_put1_40 rfl rfl ?_
  refine aw_dup d_Mo_put1_41 rfl ?_
  refine ax_getLe (x := (a_up L 195 (I 175 20 / 8) (a_lxor (L 195 (I 175 20 / 8)) (a_lshl (v % 256) (8 * (I 175 20 % 8))))) 175 21) d_Mo_put1_42 fd_Mo_165 (k_175 S) (rfl) ?_
  refine aw_lconst (x := 1) d_Mo_put1_45 ⟨by decide, by decide⟩ (by decide) ?_
  refine aw_ladd d_Mo_put1_46 ?_
  refine ax_putL d_Mo_put1_47 fd_Mo_165 (k_175 S) (by decide) rfl ?_
  refine aw_aload_n d_Mo_put1_50 rfl rfl ?_
  refine ax_getIe (x := (I 175 20) + 1) d_Mo_put1_51 fd_Mo_162 (k_175 S) (a_up_at) ?_
  refine aw_aload_n d_Mo_put1_54 rfl rfl ?_
  refine ax_getIe (x := I 175 19) d_Mo_put1_55 fd_Mo_175 (k_175 S) (Eq.trans (a_up_ne (Or.inr (by decide))) (rfl)) ?_
  refine aw_icmp_ne (tgt := 100) d_Mo_put1_58 (by decide) (fun c_58 => ?_) (fun c_58 => ?_)
  · skip
    exact aw_vret d_Mo_put1_100 rfl (hP _ _ (((RF.rfl'.L _ _).T _ _).I _ _ (by omega)) (put_lt (by omega) ((cl_t _ _).trans (mix_clR (by omega) (by omega)))) (a_up_ne (Or.inr (by decide))))
  · skip
    refine aw_aload_n d_Mo_put1_61 rfl rfl ?_
    refine ax_V (st := []) (as := []) (b := 175) (v := some (vi 1)) (h' := sD h (a_up I 175 20 ((I 175 20) + 1)) (a_up (a_up L 195 (I 175 20 / 8) (a_lxor (L 195 (I 175 20 / 8)) (a_lshl (v % 256) (8 * (I 175 20 % 8))))) 175 21 (a_w64 (((a_up L 195 (I 175 20 / 8) (a_lxor (L 195 (I 175 20 / 8)) (a_lshl (v % 256) (8 * (I 175 20 % 8))))) 175 21) + 1)))) d_Mo_put1_62 cs_Mo_put1_62 (k_175 S) (c_Mo_sponge S (by rw [a_up_ne (Or.inr (by decide))]; omega)) rfl rfl rfl ?_
    show AW l G M_Mo_put1 P 65 [(0, vr 175), (1, vi v)] [vi 1] (sD h (a_up I 175 20 ((I 175 20) + 1)) (a_up (a_up L 195 (I 175 20 / 8) (a_lxor (L 195 (I 175 20 / 8)) (a_lshl (v % 256) (8 * (I 175 20 % 8))))) 175 21 (a_w64 (((a_up L 195 (I 175 20 / 8) (a_lxor (L 195 (I 175 20 / 8)) (a_lshl (v % 256) (8 * (I 175 20 % 8))))) 175 21) + 1))))
    refine aw_if_eq (tgt := 75) d_Mo_put1_65 (by decide) (fun c_65 => False.elim (by omega)) (fun c_65 => ?_)
    refine aw_aload_n d_Mo_put1_68 rfl rfl ?_
    refine ax_Vr (st := []) (as := []) (b := 175) d_Mo_put1_69 cs_Mo_put1_69 (k_175 S) (c_Mo_permute S (RS.of (fun j => a_up_ne (Or.inl (by decide))) (fun j => (a_up_ne (Or.inl (by decide))).trans (a_up_ne (Or.inl (by decide)))))) rfl rfl rfl (fun u_69 q_69 => ?_)
    obtain ⟨fK, gK⟩ := q_69
    show AW l G M_Mo_put1 P 72 [(0, vr 175), (1, vi v)] [] (sD h (a_up I 175 20 ((I 175 20) + 1)) u_69)
    refine aw_goto (tgt := 95) d_Mo_put1_72 (by decide) ?_
    refine aw_aload_n d_Mo_put1_95 rfl rfl ?_
    refine aw_iconst d_Mo_put1_96 ⟨by decide, by decide⟩ ?_
    refine ax_putI d_Mo_put1_97 fd_Mo_162 (k_175 S) (by decide) rfl ?_
    exact aw_vret d_Mo_put1_100 rfl (hP _ _ (((((RF.rfl'.L _ _).T _ _).K fK).I _ _ (by omega)).I _ _ (by omega)) (put_ge (by omega) (by rw [gK, cl_t, mix_clR (by omega) (by omega)])) ((a_up_ne (Or.inr (by decide))).trans (a_up_ne (Or.inr (by decide)))))
set_option maxHeartbeats 800000 in
set_option maxRecDepth 100000 in
theorem c_Mo_finish {l : Launch} {G : a_G} {h : Hp} {I L : Nat → Int → Int} (S : Shp h) (RS : RSt I L) (hk : 10 < I 175 18) (ok : spOk (spR I L)) : AW l G M_Mo_finish (Ret (fun _ : (Nat → Int → Int) × (Nat → Int → Int) => none) (fun u => sD h u.1 u.2) (fun u => RF I L u.1 u.2 ∧ spR u.1 u.2 = spTurn (spR I L) ∧ u.1 175 18 = I 175 18)) 0 (a_ar 0 [vr 175]) [] (sD h I L) := by
  suffices key : ∀ P : a_R → Hp → Prop, (∀ I2 L2, RF I L I2 L2 → spR I2 L2 = spTurn (spR I L) → I2 175 18 = I 175 18 → P (.inl none) (sD h I2 L2)) → AW l G M_Mo_finish P 0 [(0, vr 175)] [] (sD h I L) from key _ (fun I2 L2 q1 q2 q3 => ⟨(I2, L2), rfl, rfl, q1, q2, q3⟩)
  intro P hP
  have ok1 : 0 ≤ I 175 20 := ok.1
  have ok2 : I 175 20 ≤ I 175 19 := ok.2.1
  have ok3 : 1 ≤ I 175 19 := ok.2.2.1
  have ok4 : I 175 19 ≤ 168 := ok.2.2.2
  refine aw_aload_n d_Mo_finish_0 rfl rfl ?_
  refine ax_V (st := []) (as := []) (b := 175) (v := some (vi 1)) (h' := sD h I L) d_Mo_finish_1 cs_Mo_finish_1 (k_175 S) (c_Mo_sponge S (by omega)) rfl rfl rfl ?_
  show AW l G M_Mo_finish P 4 [(0, vr 175)] [vi 1] (sD h I L)
  refine aw_if_eq (tgt := 54) d_Mo_finish_4 (by decide) (fun c_4 => False.elim (by omega)) (fun c_4 => ?_)
  refine aw_aload_n d_Mo_finish_7 rfl rfl ?_
  refine aw_aload_n d_Mo_finish_8 rfl rfl ?_
  refine ax_getIe (x := I 175 20) d_Mo_finish_9 fd_Mo_162 (k_175 S) (rfl) ?_
  refine aw_aload_n d_Mo_finish_12 rfl rfl ?_
  refine ax_getIe (x := I 175 18) d_Mo_finish_13 fd_Mo_159 (k_175 S) (rfl) ?_
  refine aw_bipush d_Mo_finish_16 ⟨by decide, by decide⟩ (by decide) ?_
  refine aw_icmp_le (tgt := 26) d_Mo_finish_18 (by decide) (fun c_18 => False.elim (by omega)) (fun c_18 => ?_)
  refine aw_bipush d_Mo_finish_21 ⟨by decide, by decide⟩ (by decide) ?_
  refine aw_goto (tgt := 28) d_Mo_finish_23 (by decide) ?_
  refine ax_V (st := []) (as := [vi (I 175 20), vi 31]) (b := 175) (v := none) (h' := sD h I (a_up L 195 (I 175 20 / 8) (a_lxor (L 195 (I 175 20 / 8)) (a_lshl (31 % 256) (8 * (I 175 20 % 8)))))) d_Mo_finish_28 cs_Mo_finish_28 (k_175 S) (c_Mo_flip S (by omega)) rfl rfl rfl ?_
  show AW l G M_Mo_finish P 31 [(0, vr 175)] [] (sD h I (a_up L 195 (I 175 20 / 8) (a_lxor (L 195 (I 175 20 / 8)) (a_lshl (31 % 256) (8 * (I 175 20 % 8))))))
  refine aw_aload_n d_Mo_finish_31 rfl rfl ?_
  refine aw_aload_n d_Mo_finish_32 rfl rfl ?_
  refine ax_getIe (x := I 175 19) d_Mo_finish_33 fd_Mo_175 (k_175 S) (rfl) ?_
  refine aw_iconst d_Mo_finish_36 ⟨by decide, by decide⟩ ?_
  refine ax_isub d_Mo_finish_37 ⟨(by omega), (by omega)⟩ ?_
  refine aw_sipush d_Mo_finish_38 ⟨by decide, by decide⟩ (by decide) ?_
  refine ax_V (st := []) (as := [vi ((I 175 19) - 1), vi 128]) (b := 175) (v := none) (h' := sD h I (a_up (a_up L 195 (I 175 20 / 8) (a_lxor (L 195 (I 175 20 / 8)) (a_lshl (31 % 256) (8 * (I 175 20 % 8))))) 195 ((I 175 19 - 1) / 8) (a_lxor ((a_up L 195 (I 175 20 / 8) (a_lxor (L 195 (I 175 20 / 8)) (a_lshl (31 % 256) (8 * (I 175 20 % 8))))) 195 ((I 175 19 - 1) / 8)) (a_lshl (128 % 256) (8 * ((I 175 19 - 1) % 8)))))) d_Mo_finish_41 cs_Mo_finish_41 (k_175 S) (c_Mo_flip S (by omega)) rfl rfl rfl ?_
  show AW l G M_Mo_finish P 44 [(0, vr 175)] [] (sD h I (a_up (a_up L 195 (I 175 20 / 8) (a_lxor (L 195 (I 175 20 / 8)) (a_lshl (31 % 256) (8 * (I 175 20 % 8))))) 195 ((I 175 19 - 1) / 8) (a_lxor ((a_up L 195 (I 175 20 / 8) (a_lxor (L 195 (I 175 20 / 8)) (a_lshl (31 % 256) (8 * (I 175 20 % 8))))) 195 ((I 175 19 - 1) / 8)) (a_lshl (128 % 256) (8 * ((I 175 19 - 1) % 8))))))
  refine aw_aload_n d_Mo_finish_44 rfl rfl ?_
  refine ax_Vr (st := []) (as := []) (b := 175) d_Mo_finish_45 cs_Mo_finish_45 (k_175 S) (c_Mo_permute S (RS.of (fun _ => rfl) (fun j => (a_up_ne (Or.inl (by decide))).trans (a_up_ne (Or.inl (by decide)))))) rfl rfl rfl (fun u_45 q_45 => ?_)
  obtain ⟨fK, gK⟩ := q_45
  show AW l G M_Mo_finish P 48 [(0, vr 175)] [] (sD h I u_45)
  refine aw_aload_n d_Mo_finish_48 rfl rfl ?_
  refine aw_iconst d_Mo_finish_49 ⟨by decide, by decide⟩ ?_
  refine ax_putI d_Mo_finish_50 fd_Mo_162 (k_175 S) (by decide) rfl ?_
  exact aw_vret d_Mo_finish_53 rfl (hP _ _ ((((RF.rfl'.L _ _).L _ _).K fK).I _ _ (by omega)) (fin_eq (by rw [gK, mix_clR (by omega) (by omega), mix_clR (by omega) (by omega)])) (a_up_ne (Or.inr (by decide))))
set_option maxHeartbeats 800000 in
set_option maxRecDepth 100000 in
theorem c_Mo_squeeze {l : Launch} {G : a_G} {h : Hp} {I L : Nat → Int → Int} (S : Shp h) (RS : RSt I L) (ok : spOk (spR I L)) : AW l G M_Mo_squeeze (Ret (fun _ : (Nat → Int → Int) × (Nat → Int → Int) => some (vi (spGet (spR I L)))) (fun u => sD h u.1 u.2) (fun u => RF I L u.1 u.2 ∧ spR u.1 u.2 = spNext (spR I L) ∧ u.1 175 18 = I 175 18)) 0 (a_ar 0 [vr 175]) [] (sD h I L) := by
  suffices key : ∀ P : a_R → Hp → Prop, (∀ I2 L2 x, RF I L I2 L2 → spR I2 L2 = spNext (spR I L) → I2 175 18 = I 175 18 → x = spGet (spR I L) → P (.inl (some (vi x))) (sD h I2 L2)) → AW l G M_Mo_squeeze P 0 [(0, vr 175)] [] (sD h I L) from key _ (fun I2 L2 x q1 q2 q3 q4 => ⟨(I2, L2), by rw [q4], rfl, q1, q2, q3⟩)
  intro P hP
  have ok1 : 0 ≤ I 175 20 := ok.1
  have ok2 : I 175 20 ≤ I 175 19 := ok.2.1
  have ok3 : 1 ≤ I 175 19 := ok.2.2.1
  have ok4 : I 175 19 ≤ 168 := ok.2.2.2
  refine aw_aload_n d_Mo_squeeze_0 rfl rfl ?_
  refine ax_getIe (x := I 175 20) d_Mo_squeeze_1 fd_Mo_162 (k_175 S) (rfl) ?_
  refine aw_aload_n d_Mo_squeeze_4 rfl rfl ?_
  refine ax_getIe (x := I 175 19) d_Mo_squeeze_5 fd_Mo_175 (k_175 S) (rfl) ?_
  refine aw_icmp_ne (tgt := 20) d_Mo_squeeze_8 (by decide) (fun c_8 => ?_) (fun c_8 => ?_)
  · skip
    refine aw_aload_n d_Mo_squeeze_20 rfl rfl ?_
    refine ax_getR (b := 195) d_Mo_squeeze_21 fd_Mo_47 (k_175 S) (r_175_13 S) ?_
    refine aw_aload_n d_Mo_squeeze_24 rfl rfl ?_
    refine ax_getIe (x := I 175 20) d_Mo_squeeze_25 fd_Mo_162 (k_175 S) (rfl) ?_
    refine aw_bipush d_Mo_squeeze_28 ⟨by decide, by decide⟩ (by decide) ?_
    refine ax_idiv d_Mo_squeeze_30 ⟨(by omega), (by omega)⟩ (by omega) ?_
    refine ax_lalde (x := L 195 ((I 175 20) / 8)) d_Mo_squeeze_31 (k_195 S) (by omega) (by rw [n_195 S]; omega) (rfl) ?_
    refine aw_bipush d_Mo_squeeze_32 ⟨by decide, by decide⟩ (by decide) ?_
    refine aw_aload_n d_Mo_squeeze_34 rfl rfl ?_
    refine ax_getIe (x := I 175 20) d_Mo_squeeze_35 fd_Mo_162 (k_175 S) (rfl) ?_
    refine aw_bipush d_Mo_squeeze_38 ⟨by decide, by decide⟩ (by decide) ?_
    refine ax_irem d_Mo_squeeze_40 (by omega) (by omega) ?_
    refine ax_imul d_Mo_squeeze_41 ⟨(by omega), (by omega)⟩ ?_
    refine aw_lushr d_Mo_squeeze_42 ?_
    refine aw_l2i d_Mo_squeeze_43 ?_
    refine aw_sipush d_Mo_squeeze_44 ⟨by decide, by decide⟩ (by decide) ?_
    refine aw_iand d_Mo_squeeze_47 ?_
    refine ax_ti (x := (a_w32 (a_lushr (L 195 ((I 175 20) / 8)) (8 * ((I 175 20) % 8)))) % 256) (a_and' 8 (by decide) (by decide) (by decide)) ?_
    refine aw_istore_n (lv' := [(1, vi ((a_w32 (a_lushr (L 195 ((I 175 20) / 8)) (8 * ((I 175 20) % 8)))) % 256)), (0, vr 175)]) d_Mo_squeeze_48 rfl (by decide) rfl ?_
    refine aw_aload_n d_Mo_squeeze_49 rfl rfl ?_
    refine aw_dup d_Mo_squeeze_50 rfl ?_
    refine ax_getIe (x := I 175 20) d_Mo_squeeze_51 fd_Mo_162 (k_175 S) (rfl) ?_
    refine aw_iconst d_Mo_squeeze_54 ⟨by decide, by decide⟩ ?_
    refine ax_iadd d_Mo_squeeze_55 ⟨(by omega), (by omega)⟩ ?_
    refine ax_putI d_Mo_squeeze_56 fd_Mo_162 (k_175 S) (by decide) rfl ?_
    refine aw_iload_n d_Mo_squeeze_59 rfl rfl ?_
    exact aw_iret d_Mo_squeeze_60 rfl (hP _ _ _ (RF.rfl'.I _ _ (by omega)) (sq_lt (by omega)).1 (a_up_ne (Or.inr (by decide))) (sq_v1 (by omega) (by omega) (by omega)))
  · skip
    refine aw_aload_n d_Mo_squeeze_11 rfl rfl ?_
    refine ax_Vr (st := []) (as := []) (b := 175) d_Mo_squeeze_12 cs_Mo_squeeze_12 (k_175 S) (c_Mo_permute S (RS)) rfl rfl rfl (fun u_12 q_12 => ?_)
    obtain ⟨fK, gK⟩ := q_12
    show AW l G M_Mo_squeeze P 15 [(0, vr 175)] [] (sD h I u_12)
    refine aw_aload_n d_Mo_squeeze_15 rfl rfl ?_
    refine aw_iconst d_Mo_squeeze_16 ⟨by decide, by decide⟩ ?_
    refine ax_putI d_Mo_squeeze_17 fd_Mo_162 (k_175 S) (by decide) rfl ?_
    refine aw_aload_n d_Mo_squeeze_20 rfl rfl ?_
    refine ax_getR (b := 195) d_Mo_squeeze_21 fd_Mo_47 (k_175 S) (r_175_13 S) ?_
    refine aw_aload_n d_Mo_squeeze_24 rfl rfl ?_
    refine ax_getIe (x := 0) d_Mo_squeeze_25 fd_Mo_162 (k_175 S) (a_up_at) ?_
    refine aw_bipush d_Mo_squeeze_28 ⟨by decide, by decide⟩ (by decide) ?_
    refine ax_idiv d_Mo_squeeze_30 ⟨(by omega), (by omega)⟩ (by omega) ?_
    refine ax_lalde (x := u_12 195 (0 / 8)) d_Mo_squeeze_31 (k_195 S) (by omega) (by rw [n_195 S]; omega) (rfl) ?_
    refine aw_bipush d_Mo_squeeze_32 ⟨by decide, by decide⟩ (by decide) ?_
    refine aw_aload_n d_Mo_squeeze_34 rfl rfl ?_
    refine ax_getIe (x := 0) d_Mo_squeeze_35 fd_Mo_162 (k_175 S) (a_up_at) ?_
    refine aw_bipush d_Mo_squeeze_38 ⟨by decide, by decide⟩ (by decide) ?_
    refine ax_irem d_Mo_squeeze_40 (by omega) (by omega) ?_
    refine ax_imul d_Mo_squeeze_41 ⟨(by omega), (by omega)⟩ ?_
    refine aw_lushr d_Mo_squeeze_42 ?_
    refine aw_l2i d_Mo_squeeze_43 ?_
    refine aw_sipush d_Mo_squeeze_44 ⟨by decide, by decide⟩ (by decide) ?_
    refine aw_iand d_Mo_squeeze_47 ?_
    refine ax_ti (x := (a_w32 (a_lushr (u_12 195 (0 / 8)) (8 * (0 % 8)))) % 256) (a_and' 8 (by decide) (by decide) (by decide)) ?_
    refine aw_istore_n (lv' := [(1, vi ((a_w32 (a_lushr (u_12 195 (0 / 8)) (8 * (0 % 8)))) % 256)), (0, vr 175)]) d_Mo_squeeze_48 rfl (by decide) rfl ?_
    refine aw_aload_n d_Mo_squeeze_49 rfl rfl ?_
    refine aw_dup d_Mo_squeeze_50 rfl ?_
    refine ax_getIe (x := 0) d_Mo_squeeze_51 fd_Mo_162 (k_175 S) (a_up_at) ?_
    refine aw_iconst d_Mo_squeeze_54 ⟨by decide, by decide⟩ ?_
    refine ax_iadd d_Mo_squeeze_55 ⟨(by omega), (by omega)⟩ ?_
    refine ax_ti (x := 1) (by decide) ?_
    refine ax_putI d_Mo_squeeze_56 fd_Mo_162 (k_175 S) (by decide) rfl ?_
    refine aw_iload_n d_Mo_squeeze_59 rfl rfl ?_
    exact aw_iret d_Mo_squeeze_60 rfl (hP _ _ _ (((RF.rfl'.K fK).I _ _ (by omega)).I _ _ (by omega)) (sq_ge (by omega) gK).1 ((a_up_ne (Or.inr (by decide))).trans (a_up_ne (Or.inr (by decide)))) (sq_v2 (by omega) gK))
set_option maxHeartbeats 800000 in
set_option maxRecDepth 100000 in
theorem c_Mo_put3 {l : Launch} {G : a_G} {h : Hp} {I L : Nat → Int → Int} {f : Nat} {p n : Int} (S : Shp h) (RS : RSt I L) (hk : 10 < I 175 18) (ok : spLt (spR I L)) (hf : hK h f = 2 ∧ 12 ≤ f ∧ f ≠ 175) (hc : 0 ≤ p ∧ p + n ≤ hN h f ∧ hN h f < 1000000) : AW l G M_Mo_put3 (Ret (fun _ : (Nat → Int → Int) × (Nat → Int → Int) => none) (fun u => sD h u.1 u.2) (fun u => RF I L u.1 u.2 ∧ spR u.1 u.2 = spPart (spR I L) (fun k => I f (p + k)) n.toNat ∧ u.1 175 18 = I 175 18)) 0 (a_ar 0 [vr 175, vr f, vi p, vi n]) [] (sD h I L) := by
  suffices key : ∀ P : a_R → Hp → Prop, (∀ I2 L2, RF I L I2 L2 → spR I2 L2 = spPart (spR I L) (fun k => I f (p + k)) n.toNat → I2 175 18 = I 175 18 → P (.inl none) (sD h I2 L2)) → AW l G M_Mo_put3 P 0 [(0, vr 175), (1, vr f), (2, vi p), (3, vi n)] [] (sD h I L) from key _ (fun I2 L2 q1 q2 q3 => ⟨(I2, L2), rfl, rfl, q1, q2, q3⟩)
  intro P hP
  refine aw_iconst d_Mo_put3_0 ⟨by decide, by decide⟩ ?_
  refine aw_istore (lv' := [(4, vi 0), (0, vr 175), (1, vr f), (2, vi p), (3, vi n)]) d_Mo_put3_1 (by decide) rfl ?_
  have lp_3 : ∀ (n_ : Nat) (i : Int) (I1 : Nat → Int → Int) (L1 : Nat → Int → Int), (0 ≤ i ∧ (i ≤ n ∨ i = 0)) → (RF I L I1 L1) → (spR I1 L1 = spPart (spR I L) (fun k => I f (p + k)) i.toNat) → (I1 175 18 = I 175 18) → ((n - i).toNat) = n_ → AW l G M_Mo_put3 P 3 [(4, vi i), (3, vi n), (2, vi p), (1, vr f), (0, vr 175)] [] (sD h I1 L1) := by
    intro n_
    induction n_ using Nat.strongRecOn with
    | _ n_ ih_3 =>
    intro i I1 L1 hi F1 e1 k1 hm_3
    refine aw_iload d_Mo_put3_3 rfl ?_
    refine aw_iload_n d_Mo_put3_5 rfl rfl ?_
    refine aw_icmp_ge (tgt := 25) d_Mo_put3_6 (by decide) (fun c_6 => ?_) (fun c_6 => ?_)
    · skip
      exact aw_vret d_Mo_put3_25 rfl (hP _ _ F1 (by rw [e1, show i.toNat = n.toNat by omega]) k1)
    · skip
      refine aw_aload_n d_Mo_put3_9 rfl rfl ?_
      refine aw_aload_n d_Mo_put3_10 rfl rfl ?_
      refine aw_iload_n d_Mo_put3_11 rfl rfl ?_
      refine aw_iload d_Mo_put3_12 rfl ?_
      refine ax_iadd d_Mo_put3_14 ⟨(by omega), (by omega)⟩ ?_
      refine ax_balde (x := I f (p + i)) d_Mo_put3_15 hf.1 (by omega) (by omega) (Eq.trans (F1.1 f _ (Or.inl hf.2.2)) (rfl)) ?_
      refine ax_Vr (st := []) (as := [vi (I f (p + i))]) (b := 175) d_Mo_put3_16 cs_Mo_put3_16 (k_175 S) (c_Mo_put1 S (RS.rf F1) (by omega) (by rw [e1]; exact spPart_lt ok _ _)) rfl rfl rfl (fun u_16 q_16 => ?_)
      obtain ⟨I2, L2⟩ := u_16
      obtain ⟨F2, e2, k2⟩ := q_16
      dsimp only at F2 e2 k2
      show AW l G M_Mo_put3 P 19 [(4, vi i), (3, vi n), (2, vi p), (1, vr f), (0, vr 175)] [] (sD h I2 L2)
      refine ax_iinc (lv' := [(4, vi (i + 1)), (3, vi n), (2, vi p), (1, vr f), (0, vr 175)]) d_Mo_put3_19 rfl (by decide) ⟨(by omega), (by omega)⟩ rfl ?_
      refine aw_goto (tgt := 3) d_Mo_put3_22 (by decide) ?_
      exact ih_3 _ (by omega) (i + 1) I2 L2 (by omega) (F1.tr F2) (by rw [e2, e1, show (i + 1).toNat = i.toNat + 1 by omega]; show _ = spTake _ (I f (p + (i.toNat : Int))); rw [Int.toNat_of_nonneg hi.1]) (k2.trans k1) rfl
  refine aw_sub (lv' := [(4, vi 0), (3, vi n), (2, vi p), (1, vr f), (0, vr 175)]) (by simp) ?_
  exact lp_3 _ 0 I L (by omega) (RF.rfl') (rfl) (rfl) rfl
theorem spR_up {I L : Nat → Int → Int} {f : Nat} {j v : Int} (h : f ≠ 175) : spR (a_up I f j v) L = spR I L := by
  unfold spR
  rw [a_up_ne (Or.inl h.symm), a_up_ne (Or.inl h.symm)]
set_option maxHeartbeats 800000 in
set_option maxRecDepth 100000 in
theorem c_Mo_give {l : Launch} {G : a_G} {h : Hp} {I L : Nat → Int → Int} {f : Nat} {p n : Int} (S : Shp h) (RS : RSt I L) (hk : 10 < I 175 18) (ok : spOk (spR I L)) (hf : hK h f = 2 ∧ 12 ≤ f ∧ f ≠ 175 ∧ f ≠ 193) (hc : 0 ≤ p ∧ 0 ≤ n ∧ p + n ≤ hN h f ∧ hN h f < 1000000) : AW l G M_Mo_give (Ret (fun _ : (Nat → Int → Int) × (Nat → Int → Int) => none) (fun u => sD h u.1 u.2) (fun u => (∀ a j, qR a j → u.1 a j = putRow I f p n (spOut (spTurn (spR I L))) a j) ∧ (∀ a j, a ≠ 175 → a ≠ 195 → a ≠ 196 → a ≠ 197 → u.2 a j = L a j) ∧ spR u.1 u.2 = spAt (spTurn (spR I L)) n.toNat ∧ u.1 175 18 = I 175 18)) 0 (a_ar 0 [vr 175, vr f, vi p, vi n]) [] (sD h I L) := by
  suffices key : ∀ P : a_R → Hp → Prop, (∀ I2 L2, (∀ a j, qR a j → I2 a j = putRow I f p n (spOut (spTurn (spR I L))) a j) → (∀ a j, a ≠ 175 → a ≠ 195 → a ≠ 196 → a ≠ 197 → L2 a j = L a j) → spR I2 L2 = spAt (spTurn (spR I L)) n.toNat → I2 175 18 = I 175 18 → P (.inl none) (sD h I2 L2)) → AW l G M_Mo_give P 0 [(0, vr 175), (1, vr f), (2, vi p), (3, vi n)] [] (sD h I L) from key _ (fun I2 L2 q1 q2 q3 q4 => ⟨(I2, L2), rfl, rfl, q1, q2, q3, q4⟩)
  intro P hP
  refine aw_aload_n d_Mo_give_0 rfl rfl ?_
  refine ax_Vr (st := []) (as := []) (b := 175) d_Mo_give_1 cs_Mo_give_1 (k_175 S) (c_Mo_finish S RS hk ok) rfl rfl rfl (fun u_1 q_1 => ?_)
  obtain ⟨I2, L2⟩ := u_1
  obtain ⟨F2, e2, k2⟩ := q_1
  dsimp only at F2 e2 k2
  show AW l G M_Mo_give P 4 [(0, vr 175), (1, vr f), (2, vi p), (3, vi n)] [] (sD h I2 L2)
  refine aw_iconst d_Mo_give_4 ⟨by decide, by decide⟩ ?_
  refine aw_istore (lv' := [(4, vi 0), (0, vr 175), (1, vr f), (2, vi p), (3, vi n)]) d_Mo_give_5 (by decide) rfl ?_
  have lp_7 : ∀ (n_ : Nat) (i : Int) (I1 : Nat → Int → Int) (L1 : Nat → Int → Int), (0 ≤ i ∧ i ≤ n) → (∀ a j, qR a j → I1 a j = putRow I f p i (spOut (spTurn (spR I L))) a j) → (∀ a j, a ≠ 175 → a ≠ 195 → a ≠ 196 → a ≠ 197 → L1 a j = L a j) → (spR I1 L1 = spAt (spTurn (spR I L)) i.toNat) → (I1 175 18 = I 175 18) → ((n - i).toNat) = n_ → AW l G M_Mo_give P 7 [(4, vi i), (3, vi n), (2, vi p), (1, vr f), (0, vr 175)] [] (sD h I1 L1) := by
    intro n_
    induction n_ using Nat.strongRecOn with
    | _ n_ ih_7 =>
    intro i I1 L1 hi F1 f1 e1 k1 hm_7
    refine aw_iload d_Mo_give_7 rfl ?_
    refine aw_iload_n d_Mo_give_9 rfl rfl ?_
    refine aw_icmp_ge (tgt := 102) d_Mo_give_10 (by decide) (fun c_10 => ?_) (fun c_10 => ?_)
    · skip
      exact aw_vret d_Mo_give_102 rfl (hP _ _ (fun a j ha => by rw [F1 a j ha, show i = n by omega]) f1 (by rw [e1, show i = n by omega]) k1)
    · skip
      refine aw_aload_n d_Mo_give_13 rfl rfl ?_
      refine ax_V (st := []) (as := []) (b := 175) (v := some (vi 1)) (h' := sD h I1 L1) d_Mo_give_14 cs_Mo_give_14 (k_175 S) (c_Mo_sponge S (by omega)) rfl rfl rfl ?_
      show AW l G M_Mo_give P 17 [(4, vi i), (3, vi n), (2, vi p), (1, vr f), (0, vr 175)] [vi 1] (sD h I1 L1)
      refine aw_if_eq (tgt := 34) d_Mo_give_17 (by decide) (fun c_17 => False.elim (by omega)) (fun c_17 => ?_)
      refine aw_aload_n d_Mo_give_20 rfl rfl ?_
      refine aw_iload_n d_Mo_give_21 rfl rfl ?_
      refine aw_iload d_Mo_give_22 rfl ?_
      refine ax_iadd d_Mo_give_24 ⟨(by omega), (by omega)⟩ ?_
      refine aw_aload_n d_Mo_give_25 rfl rfl ?_
      refine ax_Vr (st := [vi (p + i), vr f]) (as := []) (b := 175) d_Mo_give_26 cs_Mo_give_26 (k_175 S) (c_Mo_squeeze S (RS.of (fun j => (F1 193 j (Or.inl (by decide))).trans (putRow_ne hf.2.2.2.symm)) (fun j => f1 194 j (by decide) (by decide) (by decide) (by decide))) (by rw [e1]; exact spAt_ok (spTurn_ok ok) _)) rfl rfl rfl (fun u_26 q_26 => ?_)
      obtain ⟨I3, L3⟩ := u_26
      obtain ⟨F3, e3, k3⟩ := q_26
      dsimp only at F3 e3 k3
      show AW l G M_Mo_give P 29 [(4, vi i), (3, vi n), (2, vi p), (1, vr f), (0, vr 175)] [vi (spGet (spR I1 L1)), vi (p + i), vr f] (sD h I3 L3)
      refine aw_i2b d_Mo_give_29 ?_
      refine ax_bast d_Mo_give_30 hf.1 hf.2.1 (by omega) (by omega) ?_
      refine aw_goto (tgt := 96) d_Mo_give_31 (by decide) ?_
      refine ax_iinc (lv' := [(4, vi (i + 1)), (3, vi n), (2, vi p), (1, vr f), (0, vr 175)]) d_Mo_give_96 rfl (by decide) ⟨(by omega), (by omega)⟩ rfl ?_
      refine aw_goto (tgt := 7) d_Mo_give_99 (by decide) ?_
      exact ih_7 _ (by omega) (i + 1) (a_up I3 f (p + i) (a_w8 (a_w8 (spGet (spR I1 L1))))) L3 (by omega) (fun a j ha => by rw [← putRow_1 hi.1 (v := a_w8 (a_w8 (spGet (spR I1 L1)))) (by rw [a_w8w8, e1]; rfl)]; unfold a_up; rw [F3.1 a j ha, F1 a j ha]) (fun a j a0 a1 a2 a3 => (F3.2 a j a0 a1 a2 a3).trans (f1 a j a0 a1 a2 a3)) (by rw [spR_up hf.2.2.1, e3, e1, show (i + 1).toNat = i.toNat + 1 by omega]; rfl) ((a_up_ne (Or.inl hf.2.2.1.symm)).trans (k3.trans k1)) rfl
  refine aw_sub (lv' := [(4, vi 0), (3, vi n), (2, vi p), (1, vr f), (0, vr 175)]) (by simp) ?_
  exact lp_7 _ 0 I2 L2 (by omega) (fun a j ha => by rw [putRow_0]; exact F2.1 a j ha) (F2.2) (e2) (k2) rfl
