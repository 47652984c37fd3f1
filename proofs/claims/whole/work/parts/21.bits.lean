/-! rows filled step by step; Bytes' bits -/
def rowTo (I : Nat → Int → Int) (f : Nat) (n : Int) (g : Int → Int) : Nat → Int → Int := fun a j => if a = f ∧ 0 ≤ j ∧ j < n then g j else I a j
theorem rowTo_0 {I : Nat → Int → Int} {f : Nat} {g : Int → Int} : rowTo I f 0 g = I := by
  funext a j
  unfold rowTo
  rw [if_neg (by omega)]
theorem rowTo_1 {I : Nat → Int → Int} {f : Nat} {n v : Int} {g : Int → Int} (h : 0 ≤ n) (hv : v = g n) : a_up (rowTo I f n g) f n v = rowTo I f (n + 1) g := by
  funext a j
  unfold a_up rowTo
  by_cases c : a = f ∧ j = n
  · rw [if_pos c, if_pos (by omega), c.2, hv]
  · rw [if_neg c]
    by_cases c2 : a = f ∧ 0 ≤ j ∧ j < n
    · rw [if_pos c2, if_pos (by omega)]
    · rw [if_neg c2, if_neg (by omega)]
theorem rowTo_ne {I : Nat → Int → Int} {f a : Nat} {n j : Int} {g : Int → Int} (h : a ≠ f) : rowTo I f n g a j = I a j := if_neg (fun e => h e.1)
theorem rowTo_in {I : Nat → Int → Int} {f : Nat} {n j : Int} {g : Int → Int} (h : 0 ≤ j) (h2 : j < n) : rowTo I f n g f j = g j := if_pos ⟨rfl, h, h2⟩
theorem rowTo_out {I : Nat → Int → Int} {f : Nat} {n j : Int} {g : Int → Int} (h : j < 0 ∨ n ≤ j) : rowTo I f n g f j = I f j := if_neg (by omega)
theorem byAt_row {I : Nat → Int → Int} {f b r : Nat} {n i : Int} {g : Int → Int} (h1 : b ≠ f) (h2 : r ≠ f) : byAt (rowTo I f n g) b r i = byAt I b r i := by
  unfold byAt
  rw [rowTo_ne h1, rowTo_ne h2]
theorem p2mul {x : Int} {a b : Nat} (h0 : 0 ≤ x) (h1 : x < 2 ^ a) (hb : a + b ≤ 30) : 0 ≤ x * 2 ^ b ∧ x * 2 ^ b < 1073741824 := by
  have hp := p2pos b
  refine ⟨Int.mul_nonneg h0 (by omega), ?_⟩
  have h2 : x * 2 ^ b < 2 ^ a * 2 ^ b := Int.mul_lt_mul_of_pos_right h1 hp
  rw [← Int.pow_add] at h2
  have h3 := p2le (a := a + b) (b := 30) hb
  omega
theorem bits_or {f : Int → Int} {w n q d : Nat} {p x : Int} (hd : w * n = q + d) (h : ∀ i : Nat, i < n → 0 ≤ f i ∧ f i < 2 ^ w) (hx : x = f n) (h0 : 0 ≤ x) (h1 : x < 2 ^ w) (hw : w + d ≤ 30) (hp : p = bV f w n / 2 ^ q) : a_or p (x * 2 ^ d) = bV f w (n + 1) / 2 ^ q := by
  have hr := bV_rest hd h
  have hm := p2mul h0 h1 hw
  rw [hp, a_or' d rfl (by omega) hr.1 hr.2 hm.1 (Int.mul_emod_left _ _) (by omega), bV_next hd, hx]
theorem bits_rng {f : Int → Int} {w n q d : Nat} (hd : w * n = q + d) (h : ∀ i : Nat, i < n → 0 ≤ f i ∧ f i < 2 ^ w) (hw : d ≤ 28) : 0 ≤ bV f w n / 2 ^ q ∧ bV f w n / 2 ^ q < 268435456 := by
  have hr := bV_rest hd h
  have h3 := p2le (a := d) (b := 28) hw
  omega
theorem tw {w i t : Int} (ht : t = w * i) (hi : i < 256) (hw : 0 ≤ w) : t + w ≤ 256 * w ∧ t + w = w * (i + 1) := by
  have h : w * (i + 1) ≤ w * 256 := Int.mul_le_mul_of_nonneg_left (by omega) hw
  rw [Int.mul_add] at h ⊢
  omega
theorem twN {w : Nat} {i t : Int} (ht : t = w * i) (hi : 0 ≤ i) : ((w * i.toNat : Nat) : Int) = t := by
  rw [Int.natCast_mul, Int.toNat_of_nonneg hi, ht]
theorem twS {w : Nat} {i t : Int} (ht : t = w * i) (hi : 0 ≤ i) : ((w * (i.toNat + 1) : Nat) : Int) = t + w := by
  have := twN ht hi
  rw [Nat.mul_add]
  omega
def gB (F : Int → Int) (w : Nat) : Int → Int := fun k => bV F w 256 / 2 ^ (8 * k.toNat) % 256
theorem bits_put {F : Int → Int} {w : Nat} {i m e t q : Int} (hi : 0 ≤ i ∧ i < 256) (hm : 0 ≤ m) (ht : t = w * i) (he : e + 8 * m = t + w) (h8 : 8 ≤ e) (hF : ∀ k : Nat, k < 256 → 0 ≤ F k ∧ F k < 2 ^ w) (hq : q = bV F w (i.toNat + 1) / 2 ^ (8 * m.toNat)) : a_w8 q = a_w8 (gB F w m) := by
  have h1 := twS ht hi.1
  unfold gB
  rw [← a_w8m, hq]
  exact congrArg a_w8 (bV_low (t := 8) (by omega) (by omega) (fun k hk => hF k (by omega))).symm
def gR (g : Int → Int) (w : Nat) : Int → Int := fun j => bV g 8 (32 * w) / 2 ^ (w * j.toNat) % 2 ^ w
theorem bits_get {g : Int → Int} {w : Nat} {i m e t q : Int} (hi : 0 ≤ i ∧ i < 256) (hm : 0 ≤ m) (ht : t = w * i) (he : e = 8 * m - t) (h1 : w ≤ e) (h2 : e < w + 8) (hg : ∀ k : Nat, 0 ≤ g k ∧ g k < 2 ^ 8) (hq : q = bV g 8 m.toNat / 2 ^ t.toNat) : q % 2 ^ w = gR g w i := by
  have h3 := twN ht hi.1
  have h4 := tw ht hi.2 (by omega)
  unfold gR
  rw [hq, show t.toNat = w * i.toNat by omega]
  exact (bV_low (by omega) (by omega) (fun k _ => hg k)).symm
set_option maxHeartbeats 4000000 in
set_option maxRecDepth 100000 in
theorem c_By_addBits {l : Launch} {G : a_G} {h : Hp} {I L : Nat → Int → Int} {b r : Nat} {f w : Nat} (S : ByO h b r) (hf : hK h f = 1 ∧ 12 ≤ f ∧ hN h f = 256 ∧ f ≠ b ∧ f ≠ r) (hw : w ≤ 20) (hF : ∀ k, 0 ≤ k → k < 256 → 0 ≤ I f k ∧ I f k < 2 ^ w) (hc : 0 ≤ I b 1 ∧ I b 1 + 32 * w ≤ hN h r ∧ hN h r < 2147483648) : AW l G M_By_addBits (Rx none (sD h (byPut I b r (32 * w) (gB (I f) w)) L)) 0 (a_ar 0 [vr b, vr f, vi (w : Int)]) [] (sD h I L) := by
  suffices key : ∀ P : a_R → Hp → Prop, (P (.inl none) (sD h (byPut I b r (32 * w) (gB (I f) w)) L)) → AW l G M_By_addBits P 0 [(0, vr b), (1, vr f), (2, vi (w : Int))] [] (sD h I L) from key _ (⟨rfl, rfl⟩)
  intro P hP
  have hFn : ∀ k : Nat, k < 256 → 0 ≤ I f k ∧ I f k < 2 ^ w := fun k hk => hF k (by omega) (by omega)
  refine aw_iconst d_By_addBits_0 ⟨by decide, by decide⟩ ?_
  refine aw_istore_n (lv' := [(3, vi 0), (0, vr b), (1, vr f), (2, vi (w : Int))]) d_By_addBits_1 rfl (by decide) rfl ?_
  refine aw_iconst d_By_addBits_2 ⟨by decide, by decide⟩ ?_
  refine aw_istore (lv' := [(4, vi 0), (3, vi 0), (0, vr b), (1, vr f), (2, vi (w : Int))]) d_By_addBits_3 (by decide) rfl ?_
  refine aw_iconst d_By_addBits_5 ⟨by decide, by decide⟩ ?_
  refine aw_istore (lv' := [(5, vi 0), (4, vi 0), (3, vi 0), (0, vr b), (1, vr f), (2, vi (w : Int))]) d_By_addBits_6 (by decide) rfl ?_
  have lp_8 : ∀ (n_ : Nat) (i : Int) (e : Int) (p : Int) (m : Int) (t : Int), (0 ≤ i ∧ i ≤ 256 ∧ 0 ≤ m ∧ 0 ≤ e ∧ e < 8 ∧ e + 8 * m = t) → (t = w * i) → (p = bV (I f) w i.toNat / 2 ^ (8 * m.toNat)) → ((256 - i).toNat) = n_ → AW l G M_By_addBits P 8 [(5, vi i), (4, vi e), (3, vi p), (2, vi (w : Int)), (1, vr f), (0, vr b)] [] (sD h (byPut I b r m (gB (I f) w)) L) := by
    intro n_
    induction n_ using Nat.strongRecOn with
    | _ n_ ih_8 =>
    intro i e p m t hi ht hp hm_8
    refine aw_iload d_By_addBits_8 rfl ?_
    refine aw_sipush d_By_addBits_10 ⟨by decide, by decide⟩ (by decide) ?_
    refine aw_icmp_ge (tgt := 61) d_By_addBits_13 (by decide) (fun c_13 => ?_) (fun c_13 => ?_)
    · skip
      have hi2 : i = 256 := by omega
      have ht2 : t = w * 256 := by rw [ht, hi2]
      exact aw_vret d_By_addBits_61 rfl (by rw [show m = 32 * (w : Int) by omega]; exact hP)
    · skip
      refine aw_iload_n d_By_addBits_16 rfl rfl ?_
      refine aw_aload_n d_By_addBits_17 rfl rfl ?_
      refine aw_iload d_By_addBits_18 rfl ?_
      refine ax_ialde (x := I f i) d_By_addBits_20 hf.1 (by omega) (by omega) (byPut_ne hf.2.2.2.1 hf.2.2.2.2) ?_
      refine aw_iload d_By_addBits_21 rfl ?_
      refine aw_ishl d_By_addBits_23 ?_
      refine ax_ti (x := I f i * 2 ^ e.toNat) (a_shl' e.toNat (by omega) rfl (by omega) (by have := p2mul (hF i (by omega) (by omega)).1 (hF i (by omega) (by omega)).2 (show w + e.toNat ≤ 30 by omega); omega) (by have := p2mul (hF i (by omega) (by omega)).1 (hF i (by omega) (by omega)).2 (show w + e.toNat ≤ 30 by omega); omega)) ?_
      refine aw_ior d_By_addBits_24 ?_
      refine ax_ti (x := bV (I f) w (i.toNat + 1) / 2 ^ (8 * m.toNat)) (bits_or (d := e.toNat) (by have := twN ht hi.1; omega) (fun k hk => hFn k (by omega)) (by rw [Int.toNat_of_nonneg hi.1]) (hF i (by omega) (by omega)).1 (hF i (by omega) (by omega)).2 (by omega) hp) ?_
      refine aw_istore_n (lv' := [(3, vi (bV (I f) w (i.toNat + 1) / 2 ^ (8 * m.toNat))), (5, vi i), (4, vi e), (2, vi (w : Int)), (1, vr f), (0, vr b)]) d_By_addBits_25 rfl (by decide) rfl ?_
      refine aw_iload d_By_addBits_26 rfl ?_
      refine aw_iload_n d_By_addBits_28 rfl rfl ?_
      refine ax_iadd d_By_addBits_29 ⟨(by omega), (by omega)⟩ ?_
      refine aw_istore (lv' := [(4, vi (e + (w : Int))), (3, vi (bV (I f) w (i.toNat + 1) / 2 ^ (8 * m.toNat))), (5, vi i), (2, vi (w : Int)), (1, vr f), (0, vr b)]) d_By_addBits_30 (by decide) rfl ?_
      have lp_32 : ∀ (n_ : Nat) (e2 : Int) (q : Int) (m2 : Int), (0 ≤ e2 ∧ 0 ≤ m2 ∧ e2 + 8 * m2 = t + w ∧ e2 < 28) → (q = bV (I f) w (i.toNat + 1) / 2 ^ (8 * m2.toNat)) → (0 ≤ q ∧ q < 268435456) → (e2.toNat) = n_ → AW l G M_By_addBits P 32 [(4, vi e2), (3, vi q), (5, vi i), (2, vi (w : Int)), (1, vr f), (0, vr b)] [] (sD h (byPut I b r m2 (gB (I f) w)) L) := by
        intro n_
        induction n_ using Nat.strongRecOn with
        | _ n_ ih_32 =>
        intro e2 q m2 he hq hq2 hm_32
        refine aw_iload d_By_addBits_32 rfl ?_
        refine aw_bipush d_By_addBits_34 ⟨by decide, by decide⟩ (by decide) ?_
        refine aw_icmp_lt (tgt := 55) d_By_addBits_36 (by decide) (fun c_36 => ?_) (fun c_36 => ?_)
        · skip
          refine ax_iinc (lv' := [(5, vi (i + 1)), (4, vi e2), (3, vi q), (2, vi (w : Int)), (1, vr f), (0, vr b)]) d_By_addBits_55 rfl (by decide) ⟨(by omega), (by omega)⟩ rfl ?_
          refine aw_goto (tgt := 8) d_By_addBits_58 (by decide) ?_
          exact ih_8 _ (by omega) (i + 1) e2 q m2 (t + w) (by omega) ((tw ht (by omega) (by omega)).2) (by rw [show (i + 1).toNat = i.toNat + 1 by omega]; exact hq) rfl
        · skip
          refine aw_aload_n d_By_addBits_39 rfl rfl ?_
          refine aw_iload_n d_By_addBits_40 rfl rfl ?_
          refine ax_V (st := []) (as := [vi q]) (b := b) (v := none) (h' := sD h (byPut I b r (m2 + 1) (gB (I f) w)) L) d_By_addBits_41 cs_By_addBits_41 S.1 (c_By_add S (by rw [byPut_cnt]; have := tw ht (by omega) (by omega); omega) (byPut_1 (g := gB (I f) w) S.2.2.2.2.2 (by omega) (bits_put (by omega) (by omega) ht he.2.2.1 (by omega) hFn hq))) rfl rfl rfl ?_
          show AW l G M_By_addBits P 44 [(4, vi e2), (3, vi q), (5, vi i), (2, vi (w : Int)), (1, vr f), (0, vr b)] [] (sD h (byPut I b r (m2 + 1) (gB (I f) w)) L)
          refine aw_iload_n d_By_addBits_44 rfl rfl ?_
          refine aw_bipush d_By_addBits_45 ⟨by decide, by decide⟩ (by decide) ?_
          refine aw_iushr d_By_addBits_47 ?_
          refine ax_ti (x := q / 256) (a_ushr' 8 rfl (by decide) (by decide) (by omega) (by omega)) ?_
          refine aw_istore_n (lv' := [(3, vi (q / 256)), (4, vi e2), (5, vi i), (2, vi (w : Int)), (1, vr f), (0, vr b)]) d_By_addBits_48 rfl (by decide) rfl ?_
          refine ax_iinc (lv' := [(4, vi (e2 + (-8))), (3, vi (q / 256)), (5, vi i), (2, vi (w : Int)), (1, vr f), (0, vr b)]) d_By_addBits_49 rfl (by decide) ⟨(by omega), (by omega)⟩ rfl ?_
          refine aw_goto (tgt := 32) d_By_addBits_52 (by decide) ?_
          exact ih_32 _ (by omega) (e2 + -8) (q / 256) (m2 + 1) (by omega) (by rw [hq, p2d8, show (m2 + 1).toNat = m2.toNat + 1 by omega]) (by omega) rfl
      skip
      exact lp_32 _ (e + w) (bV (I f) w (i.toNat + 1) / 2 ^ (8 * m.toNat)) m (by omega) (rfl) (bits_rng (d := e.toNat + w) (by have := twS ht hi.1; omega) (fun k hk => hFn k (by omega)) (by omega)) rfl
  refine ax_hp (h' := sD h (byPut I b r 0 (gB (I f) w)) L) (by rw [byPut_0]) ?_
  refine aw_sub (lv' := [(5, vi 0), (4, vi 0), (3, vi 0), (2, vi (w : Int)), (1, vr f), (0, vr b)]) (by simp) ?_
  exact lp_8 _ 0 0 0 0 0 (by omega) (by simp) (by simp [bV]) rfl
set_option maxHeartbeats 4000000 in
set_option maxRecDepth 100000 in
theorem c_By_readBits {l : Launch} {G : a_G} {h : Hp} {I L : Nat → Int → Int} {b r : Nat} {f w : Nat} {fr : Int} (S : ByO h b r) (hf : hK h f = 1 ∧ 12 ≤ f ∧ hN h f = 256 ∧ f ≠ b ∧ f ≠ r) (hw : w ≤ 20 ∧ 1 ≤ w) (hc : I b 1 ≤ hN h r ∧ 0 ≤ fr ∧ fr < 1000000) : AW l G M_By_readBits (Rx none (sD h (rowTo I f 256 (gR (fun k => byAt I b r (fr + k)) w)) L)) 0 (a_ar 0 [vr b, vi fr, vi (w : Int), vr f]) [] (sD h I L) := by
  suffices key : ∀ P : a_R → Hp → Prop, (P (.inl none) (sD h (rowTo I f 256 (gR (fun k => byAt I b r (fr + k)) w)) L)) → AW l G M_By_readBits P 0 [(0, vr b), (1, vi fr), (2, vi (w : Int)), (3, vr f)] [] (sD h I L) from key _ (⟨rfl, rfl⟩)
  intro P hP
  have hp2 : (2 : Int) ^ w ≤ 1048576 := p2le (a := w) (b := 20) hw.1
  have hp3 := p2pos w
  have hgn : ∀ k : Nat, 0 ≤ (fun k => byAt I b r (fr + k)) k ∧ (fun k => byAt I b r (fr + k)) k < 2 ^ 8 := fun k => byAt_lt I b r _
  refine aw_iconst d_By_readBits_0 ⟨by decide, by decide⟩ ?_
  refine aw_iload_n d_By_readBits_1 rfl rfl ?_
  refine aw_ishl d_By_readBits_2 ?_
  refine ax_ti (x := 2 ^ w) ((a_shl' w rfl rfl (by omega) (by omega) (by omega)).trans (Int.one_mul _)) ?_
  refine aw_iconst d_By_readBits_3 ⟨by decide, by decide⟩ ?_
  refine ax_isub d_By_readBits_4 ⟨(by omega), (by omega)⟩ ?_
  refine aw_istore (lv' := [(4, vi ((2 ^ w) - 1)), (0, vr b), (1, vi fr), (2, vi (w : Int)), (3, vr f)]) d_By_readBits_5 (by decide) rfl ?_
  refine aw_iconst d_By_readBits_7 ⟨by decide, by decide⟩ ?_
  refine aw_istore (lv' := [(5, vi 0), (4, vi ((2 ^ w) - 1)), (0, vr b), (1, vi fr), (2, vi (w : Int)), (3, vr f)]) d_By_readBits_8 (by decide) rfl ?_
  refine aw_iconst d_By_readBits_10 ⟨by decide, by decide⟩ ?_
  refine aw_istore (lv' := [(6, vi 0), (5, vi 0), (4, vi ((2 ^ w) - 1)), (0, vr b), (1, vi fr), (2, vi (w : Int)), (3, vr f)]) d_By_readBits_11 (by decide) rfl ?_
  refine aw_iload_n d_By_readBits_13 rfl rfl ?_
  refine aw_istore (lv' := [(7, vi fr), (6, vi 0), (5, vi 0), (4, vi ((2 ^ w) - 1)), (0, vr b), (1, vi fr), (2, vi (w : Int)), (3, vr f)]) d_By_readBits_14 (by decide) rfl ?_
  refine aw_iconst d_By_readBits_16 ⟨by decide, by decide⟩ ?_
  refine aw_istore (lv' := [(8, vi 0), (7, vi fr), (6, vi 0), (5, vi 0), (4, vi ((2 ^ w) - 1)), (0, vr b), (1, vi fr), (2, vi (w : Int)), (3, vr f)]) d_By_readBits_17 (by decide) rfl ?_
  have lp_19 : ∀ (n_ : Nat) (i : Int) (x : Int) (e : Int) (p : Int) (m : Int) (t : Int), (0 ≤ i ∧ i ≤ 256 ∧ 0 ≤ m ∧ 0 ≤ e ∧ e < 8 ∧ e = 8 * m - t ∧ x = fr + m) → (t = w * i) → (p = bV (fun k => byAt I b r (fr + k)) 8 m.toNat / 2 ^ t.toNat) → ((256 - i).toNat) = n_ → AW l G M_By_readBits P 19 [(8, vi i), (7, vi x), (6, vi e), (5, vi p), (4, vi (2 ^ w - 1)), (3, vr f), (2, vi (w : Int)), (1, vi fr), (0, vr b)] [] (sD h (rowTo I f i (gR (fun k => byAt I b r (fr + k)) w)) L) := by
    intro n_
    induction n_ using Nat.strongRecOn with
    | _ n_ ih_19 =>
    intro i x e p m t hi ht hp hm_19
    have ht0 : 0 ≤ t := by rw [ht]; exact Int.mul_nonneg (by omega) hi.1
    refine aw_iload d_By_readBits_19 rfl ?_
    refine aw_sipush d_By_readBits_21 ⟨by decide, by decide⟩ (by decide) ?_
    refine aw_icmp_ge (tgt := 83) d_By_readBits_24 (by decide) (fun c_24 => ?_) (fun c_24 => ?_)
    · skip
      exact aw_vret d_By_readBits_83 rfl (by rw [show i = 256 by omega]; exact hP)
    · skip
      have lp_27 : ∀ (n_ : Nat) (e2 : Int) (x2 : Int) (q : Int) (m2 : Int), (0 ≤ m2 ∧ e2 = 8 * m2 - t ∧ 0 ≤ e2 ∧ e2 < w + 8 ∧ x2 = fr + m2) → (q = bV (fun k => byAt I b r (fr + k)) 8 m2.toNat / 2 ^ t.toNat) → ((w - e2).toNat) = n_ → AW l G M_By_readBits P 27 [(6, vi e2), (7, vi x2), (5, vi q), (8, vi i), (4, vi (2 ^ w - 1)), (3, vr f), (2, vi (w : Int)), (1, vi fr), (0, vr b)] [] (sD h (rowTo I f i (gR (fun k => byAt I b r (fr + k)) w)) L) := by
        intro n_
        induction n_ using Nat.strongRecOn with
        | _ n_ ih_27 =>
        intro e2 x2 q m2 he hq hm_27
        have htw := tw ht (show i < 256 by omega) (show (0 : Int) ≤ w by omega)
        refine aw_iload d_By_readBits_27 rfl ?_
        refine aw_iload_n d_By_readBits_29 rfl rfl ?_
        refine aw_icmp_ge (tgt := 56) d_By_readBits_30 (by decide) (fun c_30 => ?_) (fun c_30 => ?_)
        · skip
          have hqr : 0 ≤ q ∧ q < 268435456 := by rw [hq]; exact bits_rng (d := e2.toNat) (by omega) (fun k _ => hgn k) (by omega)
          refine aw_aload_n d_By_readBits_56 rfl rfl ?_
          refine aw_iload d_By_readBits_57 rfl ?_
          refine aw_iload d_By_readBits_59 rfl ?_
          refine aw_iload d_By_readBits_61 rfl ?_
          refine aw_iand d_By_readBits_63 ?_
          refine ax_ti (x := q % 2 ^ w) (a_and' w rfl rfl (by omega)) ?_
          refine ax_iast d_By_readBits_64 hf.1 hf.2.1 (by omega) (by omega) ?_
          rw [rowTo_1 (by omega) (bits_get (by omega) he.1 ht he.2.1 (by omega) (by omega) hgn hq)]
          refine aw_iload d_By_readBits_65 rfl ?_
          refine aw_iload_n d_By_readBits_67 rfl rfl ?_
          refine aw_iushr d_By_readBits_68 ?_
          refine ax_ti (x := q / 2 ^ w) (a_ushr' w rfl rfl (by omega) hqr.1 (by omega)) ?_
          refine aw_istore (lv' := [(5, vi (q / 2 ^ w)), (6, vi e2), (7, vi x2), (8, vi i), (4, vi (2 ^ w - 1)), (3, vr f), (2, vi (w : Int)), (1, vi fr), (0, vr b)]) d_By_readBits_69 (by decide) rfl ?_
          refine aw_iload d_By_readBits_71 rfl ?_
          refine aw_iload_n d_By_readBits_73 rfl rfl ?_
          refine ax_isub d_By_readBits_74 ⟨(by omega), (by omega)⟩ ?_
          refine aw_istore (lv' := [(6, vi (e2 - (w : Int))), (5, vi (q / 2 ^ w)), (7, vi x2), (8, vi i), (4, vi (2 ^ w - 1)), (3, vr f), (2, vi (w : Int)), (1, vi fr), (0, vr b)]) d_By_readBits_75 (by decide) rfl ?_
          refine ax_iinc (lv' := [(8, vi (i + 1)), (6, vi (e2 - (w : Int))), (5, vi (q / 2 ^ w)), (7, vi x2), (4, vi (2 ^ w - 1)), (3, vr f), (2, vi (w : Int)), (1, vi fr), (0, vr b)]) d_By_readBits_77 rfl (by decide) ⟨(by omega), (by omega)⟩ rfl ?_
          refine aw_goto (tgt := 19) d_By_readBits_80 (by decide) ?_
          refine aw_sub (lv' := [(8, vi (i + 1)), (7, vi x2), (6, vi (e2 - (w : Int))), (5, vi (q / 2 ^ w)), (4, vi (2 ^ w - 1)), (3, vr f), (2, vi (w : Int)), (1, vi fr), (0, vr b)]) (by simp) ?_
          exact ih_19 _ (by omega) (i + 1) x2 (e2 - w) (q / 2 ^ w) m2 (t + w) (by omega) ((tw ht (by omega) (by omega)).2) (by rw [hq, p2dd, show (t + w).toNat = t.toNat + w by omega]) rfl
        · skip
          refine aw_iload d_By_readBits_33 rfl ?_
          refine aw_aload_n d_By_readBits_35 rfl rfl ?_
          refine aw_iload d_By_readBits_36 rfl ?_
          refine ax_V (st := [vi q]) (as := [vi x2]) (b := b) (v := some (vi (byAt I b r x2))) (h' := sD h (rowTo I f i (gR (fun k => byAt I b r (fr + k)) w)) L) d_By_readBits_38 cs_By_readBits_38 S.1 (c_By_at S (by rw [rowTo_ne hf.2.2.2.1.symm]; exact hc.1) (byAt_row hf.2.2.2.1.symm hf.2.2.2.2.symm)) rfl rfl rfl ?_
          show AW l G M_By_readBits P 41 [(6, vi e2), (7, vi x2), (5, vi q), (8, vi i), (4, vi (2 ^ w - 1)), (3, vr f), (2, vi (w : Int)), (1, vi fr), (0, vr b)] [vi (byAt I b r x2), vi q] (sD h (rowTo I f i (gR (fun k => byAt I b r (fr + k)) w)) L)
          refine aw_iload d_By_readBits_41 rfl ?_
          refine aw_ishl d_By_readBits_43 ?_
          refine ax_ti (x := byAt I b r x2 * 2 ^ e2.toNat) (a_shl' e2.toNat (by omega) rfl (by omega) (by have := p2mul (a := 8) (byAt_lt I b r x2).1 (byAt_lt I b r x2).2 (show 8 + e2.toNat ≤ 30 by omega); omega) (by have := p2mul (a := 8) (byAt_lt I b r x2).1 (byAt_lt I b r x2).2 (show 8 + e2.toNat ≤ 30 by omega); omega)) ?_
          refine aw_ior d_By_readBits_44 ?_
          refine ax_ti (x := bV (fun k => byAt I b r (fr + k)) 8 (m2.toNat + 1) / 2 ^ t.toNat) (bits_or (f := (fun k => byAt I b r (fr + k))) (q := t.toNat) (d := e2.toNat) (by omega) (fun k _ => hgn k) (by show _ = byAt I b r (fr + (m2.toNat : Int)); rw [show x2 = fr + (m2.toNat : Int) by omega]) (byAt_lt I b r x2).1 (byAt_lt I b r x2).2 (by omega) hq) ?_
          refine aw_istore (lv' := [(5, vi (bV (fun k => byAt I b r (fr + k)) 8 (m2.toNat + 1) / 2 ^ t.toNat)), (6, vi e2), (7, vi x2), (8, vi i), (4, vi (2 ^ w - 1)), (3, vr f), (2, vi (w : Int)), (1, vi fr), (0, vr b)]) d_By_readBits_45 (by decide) rfl ?_
          refine ax_iinc (lv' := [(7, vi (x2 + 1)), (5, vi (bV (fun k => byAt I b r (fr + k)) 8 (m2.toNat + 1) / 2 ^ t.toNat)), (6, vi e2), (8, vi i), (4, vi (2 ^ w - 1)), (3, vr f), (2, vi (w : Int)), (1, vi fr), (0, vr b)]) d_By_readBits_47 rfl (by decide) ⟨(by omega), (by omega)⟩ rfl ?_
          refine ax_iinc (lv' := [(6, vi (e2 + 8)), (7, vi (x2 + 1)), (5, vi (bV (fun k => byAt I b r (fr + k)) 8 (m2.toNat + 1) / 2 ^ t.toNat)), (8, vi i), (4, vi (2 ^ w - 1)), (3, vr f), (2, vi (w : Int)), (1, vi fr), (0, vr b)]) d_By_readBits_50 rfl (by decide) ⟨(by omega), (by omega)⟩ rfl ?_
          refine aw_goto (tgt := 27) d_By_readBits_53 (by decide) ?_
          exact ih_27 _ (by omega) (e2 + 8) (x2 + 1) (bV (fun k => byAt I b r (fr + k)) 8 (m2.toNat + 1) / 2 ^ t.toNat) (m2 + 1) (by omega) (by rw [show (m2 + 1).toNat = m2.toNat + 1 by omega]) rfl
      skip
      refine aw_sub (lv' := [(6, vi e), (7, vi x), (5, vi p), (8, vi i), (4, vi (2 ^ w - 1)), (3, vr f), (2, vi (w : Int)), (1, vi fr), (0, vr b)]) (by simp) ?_
      exact lp_27 _ e x p m (by omega) (hp) rfl
  refine ax_hp (h' := sD h (rowTo I f 0 (gR (fun k => byAt I b r (fr + k)) w)) L) (by rw [rowTo_0]) ?_
  refine aw_sub (lv' := [(8, vi 0), (7, vi fr), (6, vi 0), (5, vi 0), (4, vi ((2 ^ w) - 1)), (3, vr f), (2, vi (w : Int)), (1, vi fr), (0, vr b)]) (by simp) ?_
  exact lp_19 _ 0 fr 0 0 0 0 (by omega) (by simp) (by simp [bV]) rfl
