/-! the reference's bits; rounding -/
def bIn (R : Int → Int) (b0 V : Int) (p : Nat) : Prop := (0 ≤ V ∧ V < 2 ^ p) ∧ ∀ m : Nat, 8 * m < p → R (b0 + m) % 256 = V / 2 ^ (8 * m) % 256
theorem or8 {u b : Int} {t : Nat} (ht : t ≤ 7) (h0 : 0 ≤ u) (h1 : u < 2 ^ t) (hb0 : 0 ≤ b) (hb1 : b < 2) : a_w8 (a_w8 (a_or u (a_w8 (b * 2 ^ t)))) % 256 = u + b * 2 ^ t := by
  have h : ∀ t : Nat, t < 8 → ∀ u : Nat, u < 128 → ∀ b : Nat, b < 2 → u < 2 ^ t → a_w8 (a_w8 (a_or (u : Int) (a_w8 ((b : Int) * 2 ^ t)))) % 256 = (u : Int) + (b : Int) * 2 ^ t := by decide +kernel
  have h2 := p2le (a := t) (b := 7) ht
  have e1 : ((u.toNat : Nat) : Int) = u := Int.toNat_of_nonneg h0
  have e2 : ((b.toNat : Nat) : Int) = b := Int.toNat_of_nonneg hb0
  have e3 : ((2 ^ t : Nat) : Int) = 2 ^ t := by rw [Int.natCast_pow]; rfl
  have := h t (by omega) u.toNat (by omega) b.toNat (by omega) (by omega)
  rwa [e1, e2] at this
theorem bIn_step {R R' : Int → Int} {b0 V : Int} {p : Nat} {b x : Int} (h : bIn R b0 V p) (hb0 : 0 ≤ b) (hb1 : b < 2) (hx : R' (b0 + ((p / 8 : Nat) : Int)) = x) (hx2 : x % 256 = V / 2 ^ (8 * (p / 8)) + b * 2 ^ (p % 8)) (ho : ∀ m : Nat, m < p / 8 → R' (b0 + m) = R (b0 + m)) : bIn R' b0 (V + b * 2 ^ p) (p + 1) := by
  obtain ⟨⟨v0, v1⟩, hr⟩ := h
  have hp := p2pos p
  have hbp : 0 ≤ b * 2 ^ p := Int.mul_nonneg hb0 (by omega)
  have hbp2 : b * 2 ^ p ≤ 2 ^ p := by rcases (show b = 0 ∨ b = 1 by omega) with q | q <;> subst q <;> omega
  have e2p : (2 : Int) ^ (p + 1) = 2 ^ p + 2 ^ p := by rw [Int.pow_succ]; omega
  refine ⟨⟨by omega, by omega⟩, fun m hm => ?_⟩
  have pe : p = 8 * (p / 8) + p % 8 := by omega
  by_cases q : m = p / 8
  · have e : (V + b * 2 ^ p) / 2 ^ (8 * m) = V / 2 ^ (8 * m) + b * 2 ^ (p % 8) := by
      have : (2 : Int) ^ p = 2 ^ (p % 8) * 2 ^ (8 * m) := by rw [← Int.pow_add, q]; congr 1; omega
      rw [this, ← Int.mul_assoc, Int.add_mul_ediv_right _ _ (Int.ne_of_gt (p2pos _))]
    rw [q] at e ⊢
    rw [hx, hx2, e, Int.emod_eq_of_lt]
    · have := Int.emod_nonneg x (show (256 : Int) ≠ 0 by decide)
      omega
    · have := Int.emod_lt_of_pos x (show (0 : Int) < 256 by decide)
      omega
  · have hm2 : m < p / 8 := by omega
    rw [ho m hm2, hr m (by omega)]
    refine lowbits (p := 8 * m + 8) (q := 8 * m) (t := 8) ?_ (by omega)
    have : (2 : Int) ^ p = 2 ^ (p - (8 * m + 8)) * 2 ^ (8 * m + 8) := by rw [← Int.pow_add]; congr 1; omega
    rw [this, ← Int.mul_assoc, Int.add_mul_emod_self_right]
theorem modstep (v : Int) (k : Nat) : v % 2 ^ (k + 1) = v % 2 ^ k + v / 2 ^ k % 2 * 2 ^ k := by
  have h1 := Int.mul_ediv_add_emod v (2 ^ k)
  have h2 := Int.mul_ediv_add_emod (v / 2 ^ k) 2
  have h3 := Int.emod_nonneg v (Int.ne_of_gt (p2pos k))
  have h4 := Int.emod_lt_of_pos v (p2pos k)
  have h5 : v / 2 ^ k % 2 = 0 ∨ v / 2 ^ k % 2 = 1 := by omega
  have e : v = (v % 2 ^ k + v / 2 ^ k % 2 * 2 ^ k) + (v / 2 ^ k / 2) * 2 ^ (k + 1) := by
    rw [Int.pow_succ]
    have : 2 ^ k * (v / 2 ^ k) = 2 ^ k * (2 * (v / 2 ^ k / 2) + v / 2 ^ k % 2) := by rw [h2]
    rw [Int.mul_add, Int.mul_comm (2 ^ k) (v / 2 ^ k % 2), ← Int.mul_assoc, Int.mul_comm (2 ^ k * 2)] at this
    omega
  have e2p : (2 : Int) ^ (k + 1) = 2 ^ k + 2 ^ k := by rw [Int.pow_succ]; omega
  have b : 0 ≤ v % 2 ^ k + v / 2 ^ k % 2 * 2 ^ k ∧ v % 2 ^ k + v / 2 ^ k % 2 * 2 ^ k < 2 ^ (k + 1) := by rcases h5 with q | q <;> rw [q] <;> omega
  have z : v % 2 ^ (k + 1) = ((v % 2 ^ k + v / 2 ^ k % 2 * 2 ^ k) + (v / 2 ^ k / 2) * 2 ^ (k + 1)) % 2 ^ (k + 1) := by rw [← e]
  rw [z, Int.add_mul_emod_self_right, Int.emod_eq_of_lt b.1 b.2]
theorem putW {V v : Int} {p : Nat} {k : Int} (hk : 0 ≤ k) : V + v % 2 ^ k.toNat * 2 ^ p + v / 2 ^ k.toNat % 2 * 2 ^ (p + k.toNat) = V + v % 2 ^ (k + 1).toNat * 2 ^ p := by
  rw [show (k + 1).toNat = k.toNat + 1 by omega, modstep, Int.add_mul, Int.pow_add, Int.mul_comm (2 ^ p) (2 ^ k.toNat), Int.mul_assoc, Int.add_assoc]
theorem bV_digit {f : Int → Int} {w m N : Nat} (hm : m < N) (h : ∀ i : Nat, i < N → 0 ≤ f i ∧ f i < 2 ^ w) : bV f w N / 2 ^ (w * m) % 2 ^ w = f m := by
  rw [bV_low (n := m + 1) (by omega) (by rw [Nat.mul_succ]; omega) (fun i hi => h i (by omega))]
  have e : bV f w (m + 1) / 2 ^ (w * m) = bV f w m / 2 ^ (w * m) + f m * 2 ^ 0 := bV_next (by omega)
  have z := bV_lt (fun i hi => h i (show i < N by omega)) (n := m)
  rw [e, Int.ediv_eq_zero_of_lt (bV_ge (fun i hi => (h i (by omega)).1)) z, Int.zero_add, Int.pow_zero, Int.mul_one, Int.emod_eq_of_lt (h m hm).1 (h m hm).2]
theorem bit_of {g : Int → Int} {N j : Nat} (hj : j < 8 * N) (h : ∀ i : Nat, i < N → 0 ≤ g i ∧ g i < 2 ^ 8) : bV g 8 N / 2 ^ j % 2 = g ((j / 8 : Nat) : Int) / 2 ^ (j % 8) % 2 := by
  have e : bV g 8 N / 2 ^ j = bV g 8 N / 2 ^ (8 * (j / 8)) / 2 ^ (j % 8) := by rw [p2dd]; congr 2; omega
  rw [e, ← bV_digit (f := g) (w := 8) (m := j / 8) (by omega) h]
  exact lowbits (p := 8) (q := j % 8) (t := 1) (by rw [Int.emod_emod_of_dvd _ (Int.dvd_refl _)]) (by omega)
theorem bit8 {x : Int} {t : Nat} (ht : t ≤ 7) : x / 2 ^ t % 2 = x % 256 / 2 ^ t % 2 := lowbits (p := 8) (q := t) (t := 1) (by rw [show (2 : Int) ^ 8 = 256 from rfl, Int.emod_emod_of_dvd _ (Int.dvd_refl _)]) (by omega)
theorem take_or {v b : Int} {k : Nat} (hk : k < 30) (h0 : 0 ≤ v) (h1 : v < 2 ^ k) (hb0 : 0 ≤ b) (hb1 : b < 2) : a_or v (b * 2 ^ k) = v + b * 2 ^ k := by
  have h2 := p2le (a := k) (b := 30) (by omega)
  have hp := p2pos k
  have hm : 0 ≤ b * 2 ^ k ∧ b * 2 ^ k < 2147483648 := by rcases (show b = 0 ∨ b = 1 by omega) with q | q <;> subst q <;> omega
  exact a_or' k rfl (by omega) h0 h1 hm.1 (Int.mul_emod_left _ _) hm.2
def pLow (g r : Int) : Int := if g < r % (2 * g) then r % (2 * g) - 2 * g else r % (2 * g)
def dLow (g r : Int) : Int := if r - pLow g r = 8380416 then pLow g r - 1 else pLow g r
def dHigh (g r : Int) : Int := if r - pLow g r = 8380416 then 0 else (r - pLow g r) / (2 * g)
theorem pLow_b {g r : Int} (hg : 0 < g) (hr : 0 ≤ r) : -g < pLow g r ∧ pLow g r ≤ g ∧ pLow g r ≤ r := by
  have h1 := Int.emod_nonneg r (show 2 * g ≠ 0 by omega)
  have h2 := Int.emod_lt_of_pos r (show 0 < 2 * g by omega)
  have h3 : r % (2 * g) ≤ r := by
    have := Int.mul_ediv_add_emod r (2 * g)
    have := Int.mul_nonneg (show 0 ≤ 2 * g by omega) (Int.ediv_nonneg hr (show 0 ≤ 2 * g by omega))
    omega
  unfold pLow
  split <;> omega
theorem dHigh_b {g r : Int} (hg : g = 95232 ∨ g = 261888) (hr : 0 ≤ r) (hr2 : r < 8380417) : 0 ≤ dHigh g r ∧ (g = 95232 → dHigh g r < 44) ∧ (g = 261888 → dHigh g r < 16) := by
  rcases hg with q | q <;> subst q <;> unfold dHigh pLow <;> refine ⟨?_, fun _ => ?_, fun _ => ?_⟩ <;> (try omega)
set_option maxHeartbeats 800000 in
set_option maxRecDepth 100000 in
theorem c_Mo_bitOf {l : Launch} {G : a_G} {h : Hp} {I L : Nat → Int → Int} {f : Nat} {p j : Int} (Zf : hK h f = 2 ∧ 12 ≤ f) (hc : 0 ≤ p ∧ 0 ≤ j ∧ p + j / 8 < hN h f ∧ hN h f < 1000000) : AW l G M_Mo_bitOf (Rx (some (vi (I f (p + j / 8) / 2 ^ (j % 8).toNat % 2))) (sD h I L)) 0 (a_ar 0 [vr f, vi p, vi j]) [] (sD h I L) := by
  suffices key : ∀ P : a_R → Hp → Prop, (P (.inl (some (vi (I f (p + j / 8) / 2 ^ (j % 8).toNat % 2)))) (sD h I L)) → AW l G M_Mo_bitOf P 0 [(0, vr f), (1, vi p), (2, vi j)] [] (sD h I L) from key _ (⟨rfl, rfl⟩)
  intro P hP
  refine ax_ok (fun okk _ _ _ => ?_)
  refine aw_aload_n d_Mo_bitOf_0 rfl rfl ?_
  refine aw_iload_n d_Mo_bitOf_1 rfl rfl ?_
  refine aw_iload_n d_Mo_bitOf_2 rfl rfl ?_
  refine aw_bipush d_Mo_bitOf_3 ⟨by decide, by decide⟩ (by decide) ?_
  refine ax_idiv d_Mo_bitOf_5 ⟨(by omega), (by omega)⟩ (by omega) ?_
  refine ax_iadd d_Mo_bitOf_6 ⟨(by omega), (by omega)⟩ ?_
  refine ax_balde (x := I f (p + (j / 8))) d_Mo_bitOf_7 Zf.1 (by omega) (by omega) (rfl) ?_
  refine aw_iload_n d_Mo_bitOf_8 rfl rfl ?_
  refine aw_bipush d_Mo_bitOf_9 ⟨by decide, by decide⟩ (by decide) ?_
  refine ax_irem d_Mo_bitOf_11 (by omega) (by omega) ?_
  refine aw_ishr d_Mo_bitOf_12 ?_
  refine ax_ti (x := I f (p + j / 8) / 2 ^ (j % 8).toNat) (a_shr' (j % 8).toNat (by omega) rfl (by omega) (okk.1 _ _)) ?_
  refine aw_iconst d_Mo_bitOf_13 ⟨by decide, by decide⟩ ?_
  refine aw_iand d_Mo_bitOf_14 ?_
  refine ax_ti (x := (I f (p + j / 8) / 2 ^ (j % 8).toNat) % 2) (a_and' 1 (by decide) (by decide) (by decide)) ?_
  exact aw_iret d_Mo_bitOf_15 rfl hP
theorem up_pa {I K : Nat → Int → Int} {f : Nat} {lo i v : Int} (h : ∀ a j, (a ≠ f ∨ j < lo) → K a j = I a j) (hi : lo ≤ i) : ∀ a j, (a ≠ f ∨ j < lo) → a_up K f i v a j = I a j := fun a j ha => (a_up_ne (by rcases ha with z | z; exact Or.inl z; exact Or.inr (by omega))).trans (h a j ha)
theorem put_end {K : Nat → Int → Int} {f a : Nat} {i v b0 W W2 : Int} {p p2 : Nat} (hf : a ≠ f) (h : bIn (K f) b0 W p) (e : W = W2) (e2 : p = p2) : bIn (a_up K a i v f) b0 W2 p2 := by
  subst e; subst e2
  refine ⟨h.1, fun m hm => ?_⟩
  rw [a_up_ne (Or.inl hf.symm)]
  exact h.2 m hm
set_option maxHeartbeats 800000 in
set_option maxRecDepth 100000 in
theorem c_Mo_putBits {l : Launch} {G : a_G} {h : Hp} {I L : Nat → Int → Int} {f q d : Nat} {pa c v V : Int} (S : Shp h) (Zf : hK h f = 2 ∧ 12 ≤ f ∧ f ≠ 175) (hd : d ≤ 20) (hv : 0 ≤ v ∧ v < 2 ^ d) (hB : I 175 23 = 8 * c + (q : Int)) (hV : bIn (I f) (pa + c) V q) (hc : 0 ≤ pa ∧ 0 ≤ c ∧ 8 * (pa + c) + q + d ≤ 8 * hN h f ∧ hN h f < 1000000) : AW l G M_Mo_putBits (Ret (fun _ : Nat → Int → Int => none) (fun K => sD h K L) (fun K => (∀ a j, (a ≠ f ∨ j < pa + c) → (a ≠ 175 ∨ j ≠ 23) → K a j = I a j) ∧ K 175 23 = 8 * c + (q : Int) + d ∧ bIn (K f) (pa + c) (V + v * 2 ^ q) (q + d))) 0 (a_ar 0 [vr 175, vr f, vi pa, vi v, vi (d : Int)]) [] (sD h I L) := by
  suffices key : ∀ P : a_R → Hp → Prop, (∀ K : Nat → Int → Int, (∀ a j, (a ≠ f ∨ j < pa + c) → (a ≠ 175 ∨ j ≠ 23) → K a j = I a j) → K 175 23 = 8 * c + (q : Int) + d → bIn (K f) (pa + c) (V + v * 2 ^ q) (q + d) → P (.inl none) (sD h K L)) → AW l G M_Mo_putBits P 0 [(0, vr 175), (1, vr f), (2, vi pa), (3, vi v), (4, vi (d : Int))] [] (sD h I L) from key _ (fun K q1 q2 q3 => ⟨K, rfl, rfl, q1, q2, q3⟩)
  intro P hP
  refine aw_iconst d_Mo_putBits_0 ⟨by decide, by decide⟩ ?_
  refine aw_istore (lv' := [(5, vi 0), (0, vr 175), (1, vr f), (2, vi pa), (3, vi v), (4, vi (d : Int))]) d_Mo_putBits_1 (by decide) rfl ?_
  have lp_3 : ∀ (n_ : Nat) (k : Int) (K : Nat → Int → Int) (W : Int), (0 ≤ k ∧ k ≤ d) → (∀ a j, (a ≠ f ∨ j < pa + c) → K a j = I a j) → (W = V + v % 2 ^ k.toNat * 2 ^ q) → (bIn (K f) (pa + c) W (q + k.toNat)) → ((d - k).toNat) = n_ → AW l G M_Mo_putBits P 3 [(5, vi k), (4, vi (d : Int)), (3, vi v), (2, vi pa), (1, vr f), (0, vr 175)] [] (sD h K L) := by
    intro n_
    induction n_ using Nat.strongRecOn with
    | _ n_ ih_3 =>
    intro k K W hk f1 hW g1 hm_3
    refine ax_ok (fun okk _ _ okl => ?_)
    refine aw_iload d_Mo_putBits_3 rfl ?_
    refine aw_iload d_Mo_putBits_5 rfl ?_
    refine aw_icmp_ge (tgt := 69) d_Mo_putBits_7 (by decide) (fun c_7 => ?_) (fun c_7 => ?_)
    · skip
      refine aw_aload_n d_Mo_putBits_69 rfl rfl ?_
      refine aw_dup d_Mo_putBits_70 rfl ?_
      refine ax_getIe (x := 8 * c + (q : Int)) d_Mo_putBits_71 fd_Mo_216 (k_175 S) (Eq.trans (f1 _ _ (Or.inl Zf.2.2.symm)) (hB)) ?_
      refine aw_iload d_Mo_putBits_74 rfl ?_
      refine ax_iadd d_Mo_putBits_76 ⟨(by omega), (by omega)⟩ ?_
      refine ax_putI d_Mo_putBits_77 fd_Mo_216 (k_175 S) (by decide) rfl ?_
      exact aw_vret d_Mo_putBits_80 rfl (hP _ (fun a j ha hb => (a_up_ne (by rcases hb with z | z; exact Or.inl z; exact Or.inr z)).trans (f1 a j ha)) (a_up_at) (put_end Zf.2.2.symm g1 (by rw [hW, show k.toNat = d by omega, Int.emod_eq_of_lt hv.1 hv.2]) (by omega)))
    · skip
      have ix : pa + (8 * c + (q : Int) + k) / 8 = pa + c + (((q + k.toNat) / 8 : Nat) : Int) := by omega
      have tx : ((8 * c + (q : Int) + k) % 8).toNat = (q + k.toNat) % 8 := by omega
      refine aw_aload_n d_Mo_putBits_10 rfl rfl ?_
      refine ax_getIe (x := 8 * c + (q : Int)) d_Mo_putBits_11 fd_Mo_216 (k_175 S) (Eq.trans (f1 _ _ (Or.inl Zf.2.2.symm)) (hB)) ?_
      refine aw_iload d_Mo_putBits_14 rfl ?_
      refine ax_iadd d_Mo_putBits_16 ⟨(by omega), (by omega)⟩ ?_
      refine aw_istore (lv' := [(6, vi ((8 * c + (q : Int)) + k)), (5, vi k), (4, vi (d : Int)), (3, vi v), (2, vi pa), (1, vr f), (0, vr 175)]) d_Mo_putBits_17 (by decide) rfl ?_
      refine aw_iload d_Mo_putBits_19 rfl ?_
      refine aw_bipush d_Mo_putBits_21 ⟨by decide, by decide⟩ (by decide) ?_
      refine ax_irem d_Mo_putBits_23 (by omega) (by omega) ?_
      refine aw_if_ne (tgt := 37) d_Mo_putBits_24 (by decide) (fun c_24 => ?_) (fun c_24 => ?_)
      · skip
        have t7 := p2le (a := ((8 * c + (q : Int) + k) % 8).toNat) (b := 7) (by omega)
        have t8 := p2pos ((8 * c + (q : Int) + k) % 8).toNat
        have bm_ : 0 ≤ (v / 2 ^ k.toNat % 2) * 2 ^ ((8 * c + (q : Int) + k) % 8).toNat ∧ (v / 2 ^ k.toNat % 2) * 2 ^ ((8 * c + (q : Int) + k) % 8).toNat ≤ 128 := by rcases (show v / 2 ^ k.toNat % 2 = 0 ∨ v / 2 ^ k.toNat % 2 = 1 by omega) with z | z <;> rw [z] <;> omega
        have rng0 : 0 ≤ W / 2 ^ (8 * ((q + k.toNat) / 8)) ∧ W / 2 ^ (8 * ((q + k.toNat) / 8)) < 2 ^ ((8 * c + (q : Int) + k) % 8).toNat := ⟨Int.ediv_nonneg g1.1.1 (Int.le_of_lt (p2pos _)), Int.ediv_lt_of_lt_mul (p2pos _) (by rw [← Int.pow_add, tx, show (q + k.toNat) % 8 + 8 * ((q + k.toNat) / 8) = q + k.toNat by omega]; exact g1.1.2)⟩
        have old : K f (pa + (8 * c + (q : Int) + k) / 8) = W / 2 ^ (8 * ((q + k.toNat) / 8)) := by have y1 := g1.2 ((q + k.toNat) / 8) (by omega); rw [← ix] at y1; have y2 := okk.2.2.2.1 f (pa + (8 * c + (q : Int) + k) / 8) Zf.1; have y3 : -128 ≤ K f (pa + (8 * c + (q : Int) + k) / 8) ∧ K f (pa + (8 * c + (q : Int) + k) / 8) < 128 := y2; omega
        have rng : 0 ≤ K f (pa + (8 * c + (q : Int) + k) / 8) ∧ K f (pa + (8 * c + (q : Int) + k) / 8) < 2 ^ ((8 * c + (q : Int) + k) % 8).toNat := by rw [old]; exact rng0
        have rr : W / 2 ^ (8 * ((q + k.toNat) / 8)) + v / 2 ^ k.toNat % 2 * 2 ^ ((q + k.toNat) % 8) = K f (pa + (8 * c + (q : Int) + k) / 8) + v / 2 ^ k.toNat % 2 * 2 ^ ((8 * c + (q : Int) + k) % 8).toNat := by rw [old, tx]
        refine aw_aload_n d_Mo_putBits_37 rfl rfl ?_
        refine aw_iload_n d_Mo_putBits_38 rfl rfl ?_
        refine aw_iload d_Mo_putBits_39 rfl ?_
        refine aw_bipush d_Mo_putBits_41 ⟨by decide, by decide⟩ (by decide) ?_
        refine ax_idiv d_Mo_putBits_43 ⟨(by omega), (by omega)⟩ (by omega) ?_
        refine ax_iadd d_Mo_putBits_44 ⟨(by omega), (by omega)⟩ ?_
        refine aw_dup2 d_Mo_putBits_45 rfl rfl ?_
        refine ax_balde (x := K f (pa + (((8 * c + (q : Int)) + k) / 8))) d_Mo_putBits_46 Zf.1 (by omega) (by omega) (rfl) ?_
        refine aw_iload_n d_Mo_putBits_47 rfl rfl ?_
        refine aw_iload d_Mo_putBits_48 rfl ?_
        refine aw_ishr d_Mo_putBits_50 ?_
        refine ax_ti (x := v / 2 ^ k.toNat) (a_shr' k.toNat (by omega) rfl (by omega) (okl (3, vi v) (by simp))) ?_
        refine aw_iconst d_Mo_putBits_51 ⟨by decide, by decide⟩ ?_
        refine aw_iand d_Mo_putBits_52 ?_
        refine ax_ti (x := (v / 2 ^ k.toNat) % 2) (a_and' 1 (by decide) (by decide) (by decide)) ?_
        refine aw_iload d_Mo_putBits_53 rfl ?_
        refine aw_bipush d_Mo_putBits_55 ⟨by decide, by decide⟩ (by decide) ?_
        refine ax_irem d_Mo_putBits_57 (by omega) (by omega) ?_
        refine aw_ishl d_Mo_putBits_58 ?_
        refine ax_ti (x := (v / 2 ^ k.toNat % 2) * 2 ^ ((8 * c + (q : Int) + k) % 8).toNat) (a_shl' ((8 * c + (q : Int) + k) % 8).toNat (by omega) rfl (by omega) (by omega) (by omega)) ?_
        refine aw_i2b d_Mo_putBits_59 ?_
        refine aw_ior d_Mo_putBits_60 ?_
        refine aw_i2b d_Mo_putBits_61 ?_
        refine ax_bast d_Mo_putBits_62 Zf.1 Zf.2.1 (by omega) (by omega) ?_
        refine ax_iinc (lv' := [(5, vi (k + 1)), (6, vi ((8 * c + (q : Int)) + k)), (4, vi (d : Int)), (3, vi v), (2, vi pa), (1, vr f), (0, vr 175)]) d_Mo_putBits_63 rfl (by decide) ⟨(by omega), (by omega)⟩ rfl ?_
        refine aw_goto (tgt := 3) d_Mo_putBits_66 (by decide) ?_
        refine aw_sub (lv' := [(5, vi (k + 1)), (4, vi (d : Int)), (3, vi v), (2, vi pa), (1, vr f), (0, vr 175)]) (by simp) ?_
        exact ih_3 _ (by omega) (k + 1) (a_up K f (pa + (((8 * c + (q : Int)) + k) / 8)) (a_w8 (a_w8 (a_or (K f (pa + (((8 * c + (q : Int)) + k) / 8))) (a_w8 ((v / 2 ^ k.toNat % 2) * 2 ^ ((8 * c + (q : Int) + k) % 8).toNat)))))) (W + v / 2 ^ k.toNat % 2 * 2 ^ (q + k.toNat)) (by omega) (id (up_pa f1 (by omega))) (by rw [hW]; exact putW hk.1) (by rw [show q + (k + 1).toNat = q + k.toNat + 1 by omega]; exact bIn_step (x := a_w8 (a_w8 (a_or (K f (pa + (((8 * c + (q : Int)) + k) / 8))) (a_w8 ((v / 2 ^ k.toNat % 2) * 2 ^ ((8 * c + (q : Int) + k) % 8).toNat))))) g1 (by omega) (by omega) (by rw [← ix, a_up_at]) (by rw [rr]; exact or8 (by omega) rng.1 rng.2 (by omega) (by omega)) (fun m hm => a_up_ne (Or.inr (by omega)))) rfl
      · skip
        refine aw_aload_n d_Mo_putBits_27 rfl rfl ?_
        refine aw_iload_n d_Mo_putBits_28 rfl rfl ?_
        refine aw_iload d_Mo_putBits_29 rfl ?_
        refine aw_bipush d_Mo_putBits_31 ⟨by decide, by decide⟩ (by decide) ?_
        refine ax_idiv d_Mo_putBits_33 ⟨(by omega), (by omega)⟩ (by omega) ?_
        refine ax_iadd d_Mo_putBits_34 ⟨(by omega), (by omega)⟩ ?_
        refine aw_iconst d_Mo_putBits_35 ⟨by decide, by decide⟩ ?_
        refine ax_bast d_Mo_putBits_36 Zf.1 Zf.2.1 (by omega) (by omega) ?_
        have t7 := p2le (a := ((8 * c + (q : Int) + k) % 8).toNat) (b := 7) (by omega)
        have t8 := p2pos ((8 * c + (q : Int) + k) % 8).toNat
        have bm_ : 0 ≤ (v / 2 ^ k.toNat % 2) * 2 ^ ((8 * c + (q : Int) + k) % 8).toNat ∧ (v / 2 ^ k.toNat % 2) * 2 ^ ((8 * c + (q : Int) + k) % 8).toNat ≤ 128 := by rcases (show v / 2 ^ k.toNat % 2 = 0 ∨ v / 2 ^ k.toNat % 2 = 1 by omega) with z | z <;> rw [z] <;> omega
        have rr0 : (q + k.toNat) % 8 = 0 := by omega
        have rr : W / 2 ^ (8 * ((q + k.toNat) / 8)) + v / 2 ^ k.toNat % 2 * 2 ^ ((q + k.toNat) % 8) = 0 + v / 2 ^ k.toNat % 2 * 2 ^ ((8 * c + (q : Int) + k) % 8).toNat := by rw [tx, rr0, show W / 2 ^ (8 * ((q + k.toNat) / 8)) = 0 from Int.ediv_eq_zero_of_lt g1.1.1 (by rw [show 8 * ((q + k.toNat) / 8) = q + k.toNat by omega]; exact g1.1.2)]
        refine aw_aload_n d_Mo_putBits_37 rfl rfl ?_
        refine aw_iload_n d_Mo_putBits_38 rfl rfl ?_
        refine aw_iload d_Mo_putBits_39 rfl ?_
        refine aw_bipush d_Mo_putBits_41 ⟨by decide, by decide⟩ (by decide) ?_
        refine ax_idiv d_Mo_putBits_43 ⟨(by omega), (by omega)⟩ (by omega) ?_
        refine ax_iadd d_Mo_putBits_44 ⟨(by omega), (by omega)⟩ ?_
        refine aw_dup2 d_Mo_putBits_45 rfl rfl ?_
        refine ax_balde (x := a_w8 0) d_Mo_putBits_46 Zf.1 (by omega) (by omega) (a_up_at) ?_
        refine aw_iload_n d_Mo_putBits_47 rfl rfl ?_
        refine aw_iload d_Mo_putBits_48 rfl ?_
        refine aw_ishr d_Mo_putBits_50 ?_
        refine ax_ti (x := v / 2 ^ k.toNat) (a_shr' k.toNat (by omega) rfl (by omega) (okl (3, vi v) (by simp))) ?_
        refine aw_iconst d_Mo_putBits_51 ⟨by decide, by decide⟩ ?_
        refine aw_iand d_Mo_putBits_52 ?_
        refine ax_ti (x := (v / 2 ^ k.toNat) % 2) (a_and' 1 (by decide) (by decide) (by decide)) ?_
        refine aw_iload d_Mo_putBits_53 rfl ?_
        refine aw_bipush d_Mo_putBits_55 ⟨by decide, by decide⟩ (by decide) ?_
        refine ax_irem d_Mo_putBits_57 (by omega) (by omega) ?_
        refine aw_ishl d_Mo_putBits_58 ?_
        refine ax_ti (x := (v / 2 ^ k.toNat % 2) * 2 ^ ((8 * c + (q : Int) + k) % 8).toNat) (a_shl' ((8 * c + (q : Int) + k) % 8).toNat (by omega) rfl (by omega) (by omega) (by omega)) ?_
        refine aw_i2b d_Mo_putBits_59 ?_
        refine aw_ior d_Mo_putBits_60 ?_
        refine aw_i2b d_Mo_putBits_61 ?_
        refine ax_bast d_Mo_putBits_62 Zf.1 Zf.2.1 (by omega) (by omega) ?_
        refine ax_iinc (lv' := [(5, vi (k + 1)), (6, vi ((8 * c + (q : Int)) + k)), (4, vi (d : Int)), (3, vi v), (2, vi pa), (1, vr f), (0, vr 175)]) d_Mo_putBits_63 rfl (by decide) ⟨(by omega), (by omega)⟩ rfl ?_
        refine aw_goto (tgt := 3) d_Mo_putBits_66 (by decide) ?_
        refine aw_sub (lv' := [(5, vi (k + 1)), (4, vi (d : Int)), (3, vi v), (2, vi pa), (1, vr f), (0, vr 175)]) (by simp) ?_
        exact ih_3 _ (by omega) (k + 1) (a_up (a_up K f (pa + (((8 * c + (q : Int)) + k) / 8)) (a_w8 0)) f (pa + (((8 * c + (q : Int)) + k) / 8)) (a_w8 (a_w8 (a_or (a_w8 0) (a_w8 ((v / 2 ^ k.toNat % 2) * 2 ^ ((8 * c + (q : Int) + k) % 8).toNat)))))) (W + v / 2 ^ k.toNat % 2 * 2 ^ (q + k.toNat)) (by omega) (up_pa (up_pa f1 (by omega)) (by omega)) (by rw [hW]; exact putW hk.1) (by rw [show q + (k + 1).toNat = q + k.toNat + 1 by omega]; rw [a_up_up]; exact bIn_step (x := a_w8 (a_w8 (a_or (a_w8 0) (a_w8 ((v / 2 ^ k.toNat % 2) * 2 ^ ((8 * c + (q : Int) + k) % 8).toNat))))) g1 (by omega) (by omega) (by rw [← ix, a_up_at]) (by rw [rr]; exact or8 (by omega) (by decide) (p2pos _) (by omega) (by omega)) (fun m hm => a_up_ne (Or.inr (by omega)))) rfl
  refine aw_sub (lv' := [(5, vi 0), (4, vi (d : Int)), (3, vi v), (2, vi pa), (1, vr f), (0, vr 175)]) (by simp) ?_
  exact lp_3 _ 0 I V (by omega) (fun _ _ _ => rfl) (by simp [Int.emod_one]) (hV) rfl
set_option maxHeartbeats 800000 in
set_option maxRecDepth 100000 in
theorem c_Mo_takeBits {l : Launch} {G : a_G} {h : Hp} {I L : Nat → Int → Int} {f q d N : Nat} {pa c : Int} (S : Shp h) (Zf : hK h f = 2 ∧ 12 ≤ f) (hd : d ≤ 20) (hB : I 175 23 = 8 * c + (q : Int)) (hc : 0 ≤ pa ∧ 0 ≤ c ∧ pa + c + N ≤ hN h f ∧ q + d ≤ 8 * N ∧ hN h f < 1000000) : AW l G M_Mo_takeBits (Rx (some (vi (bV (fun j => I f (pa + c + j) % 256) 8 N / 2 ^ q % 2 ^ d))) (sD h (a_up I 175 23 (8 * c + (q : Int) + d)) L)) 0 (a_ar 0 [vr 175, vr f, vi pa, vi (d : Int)]) [] (sD h I L) := by
  suffices key : ∀ P : a_R → Hp → Prop, (∀ x, x = bV (fun j => I f (pa + c + j) % 256) 8 N / 2 ^ q % 2 ^ d → P (.inl (some (vi x))) (sD h (a_up I 175 23 (8 * c + (q : Int) + d)) L)) → AW l G M_Mo_takeBits P 0 [(0, vr 175), (1, vr f), (2, vi pa), (3, vi (d : Int))] [] (sD h I L) from key _ (fun x e => ⟨by rw [e], rfl⟩)
  intro P hP
  have hg : ∀ i : Nat, i < N → 0 ≤ (fun j => I f (pa + c + j) % 256) i ∧ (fun j => I f (pa + c + j) % 256) i < 2 ^ 8 := fun i _ => ⟨Int.emod_nonneg _ (by decide), Int.emod_lt_of_pos _ (by decide)⟩
  refine aw_iconst d_Mo_takeBits_0 ⟨by decide, by decide⟩ ?_
  refine aw_istore (lv' := [(4, vi 0), (0, vr 175), (1, vr f), (2, vi pa), (3, vi (d : Int))]) d_Mo_takeBits_1 (by decide) rfl ?_
  refine aw_iconst d_Mo_takeBits_3 ⟨by decide, by decide⟩ ?_
  refine aw_istore (lv' := [(5, vi 0), (4, vi 0), (0, vr 175), (1, vr f), (2, vi pa), (3, vi (d : Int))]) d_Mo_takeBits_4 (by decide) rfl ?_
  have lp_6 : ∀ (n_ : Nat) (k : Int) (v : Int), (0 ≤ k ∧ k ≤ d) → (v = bV (fun j => I f (pa + c + j) % 256) 8 N / 2 ^ q % 2 ^ k.toNat) → ((d - k).toNat) = n_ → AW l G M_Mo_takeBits P 6 [(5, vi k), (4, vi v), (3, vi (d : Int)), (2, vi pa), (1, vr f), (0, vr 175)] [] (sD h I L) := by
    intro n_
    induction n_ using Nat.strongRecOn with
    | _ n_ ih_6 =>
    intro k v hk hv hm_6
    have v0 : 0 ≤ v ∧ v < 2 ^ k.toNat := by rw [hv]; exact ⟨Int.emod_nonneg _ (Int.ne_of_gt (p2pos _)), Int.emod_lt_of_pos _ (p2pos _)⟩
    refine aw_iload d_Mo_takeBits_6 rfl ?_
    refine aw_iload_n d_Mo_takeBits_8 rfl rfl ?_
    refine aw_icmp_ge (tgt := 38) d_Mo_takeBits_9 (by decide) (fun c_9 => ?_) (fun c_9 => ?_)
    · skip
      refine aw_aload_n d_Mo_takeBits_38 rfl rfl ?_
      refine aw_dup d_Mo_takeBits_39 rfl ?_
      refine ax_getIe (x := 8 * c + (q : Int)) d_Mo_takeBits_40 fd_Mo_216 (k_175 S) (hB) ?_
      refine aw_iload_n d_Mo_takeBits_43 rfl rfl ?_
      refine ax_iadd d_Mo_takeBits_44 ⟨(by omega), (by omega)⟩ ?_
      refine ax_putI d_Mo_takeBits_45 fd_Mo_216 (k_175 S) (by decide) rfl ?_
      refine aw_iload d_Mo_takeBits_48 rfl ?_
      exact aw_iret d_Mo_takeBits_50 rfl (hP _ (by rw [hv, show k.toNat = d by omega]))
    · skip
      have bb : (fun j => I f (pa + c + j) % 256) (((q + k.toNat) / 8 : Nat) : Int) / 2 ^ ((q + k.toNat) % 8) % 2 = I f (pa + (8 * c + (q : Int) + k) / 8) / 2 ^ ((8 * c + (q : Int) + k) % 8).toNat % 2 := by rw [show ((8 * c + (q : Int) + k) % 8).toNat = (q + k.toNat) % 8 by omega, show pa + (8 * c + (q : Int) + k) / 8 = pa + c + (((q + k.toNat) / 8 : Nat) : Int) by omega]; exact (bit8 (by omega)).symm
      have k30 := p2le (a := k.toNat) (b := 20) (by omega)
      have k31 := p2pos k.toNat
      have bm_ : 0 ≤ (I f (pa + (8 * c + (q : Int) + k) / 8) / 2 ^ ((8 * c + (q : Int) + k) % 8).toNat % 2) * 2 ^ k.toNat ∧ (I f (pa + (8 * c + (q : Int) + k) / 8) / 2 ^ ((8 * c + (q : Int) + k) % 8).toNat % 2) * 2 ^ k.toNat ≤ 1048576 := by rcases (show I f (pa + (8 * c + (q : Int) + k) / 8) / 2 ^ ((8 * c + (q : Int) + k) % 8).toNat % 2 = 0 ∨ I f (pa + (8 * c + (q : Int) + k) / 8) / 2 ^ ((8 * c + (q : Int) + k) % 8).toNat % 2 = 1 by omega) with z | z <;> rw [z] <;> omega
      refine aw_iload d_Mo_takeBits_12 rfl ?_
      refine aw_aload_n d_Mo_takeBits_14 rfl rfl ?_
      refine aw_iload_n d_Mo_takeBits_15 rfl rfl ?_
      refine aw_aload_n d_Mo_takeBits_16 rfl rfl ?_
      refine ax_getIe (x := 8 * c + (q : Int)) d_Mo_takeBits_17 fd_Mo_216 (k_175 S) (hB) ?_
      refine aw_iload d_Mo_takeBits_20 rfl ?_
      refine ax_iadd d_Mo_takeBits_22 ⟨(by omega), (by omega)⟩ ?_
      refine ax_S (st := [vi v]) (as := [vr f, vi pa, vi ((8 * c + (q : Int)) + k)]) (v := some (vi (I f (pa + (8 * c + (q : Int) + k) / 8) / 2 ^ ((8 * c + (q : Int) + k) % 8).toNat % 2))) (h' := sD h I L) d_Mo_takeBits_23 cs_Mo_takeBits_23 (c_Mo_bitOf Zf (by omega)) rfl rfl rfl ?_
      show AW l G M_Mo_takeBits P 26 [(5, vi k), (4, vi v), (3, vi (d : Int)), (2, vi pa), (1, vr f), (0, vr 175)] [vi (I f (pa + (8 * c + (q : Int) + k) / 8) / 2 ^ ((8 * c + (q : Int) + k) % 8).toNat % 2), vi v] (sD h I L)
      refine aw_iload d_Mo_takeBits_26 rfl ?_
      refine aw_ishl d_Mo_takeBits_28 ?_
      refine ax_ti (x := (I f (pa + (8 * c + (q : Int) + k) / 8) / 2 ^ ((8 * c + (q : Int) + k) % 8).toNat % 2) * 2 ^ k.toNat) (a_shl' k.toNat (by omega) rfl (by omega) (by omega) (by omega)) ?_
      refine aw_ior d_Mo_takeBits_29 ?_
      refine ax_ti (x := v + (I f (pa + (8 * c + (q : Int) + k) / 8) / 2 ^ ((8 * c + (q : Int) + k) % 8).toNat % 2) * 2 ^ k.toNat) (take_or (by omega) v0.1 v0.2 (by omega) (by omega)) ?_
      refine aw_istore (lv' := [(4, vi (v + (I f (pa + (8 * c + (q : Int) + k) / 8) / 2 ^ ((8 * c + (q : Int) + k) % 8).toNat % 2) * 2 ^ k.toNat)), (5, vi k), (3, vi (d : Int)), (2, vi pa), (1, vr f), (0, vr 175)]) d_Mo_takeBits_30 (by decide) rfl ?_
      refine ax_iinc (lv' := [(5, vi (k + 1)), (4, vi (v + (I f (pa + (8 * c + (q : Int) + k) / 8) / 2 ^ ((8 * c + (q : Int) + k) % 8).toNat % 2) * 2 ^ k.toNat)), (3, vi (d : Int)), (2, vi pa), (1, vr f), (0, vr 175)]) d_Mo_takeBits_32 rfl (by decide) ⟨(by omega), (by omega)⟩ rfl ?_
      refine aw_goto (tgt := 6) d_Mo_takeBits_35 (by decide) ?_
      exact ih_6 _ (by omega) (k + 1) (v + (I f (pa + (8 * c + (q : Int) + k) / 8) / 2 ^ ((8 * c + (q : Int) + k) % 8).toNat % 2) * 2 ^ k.toNat) (by omega) (by rw [show (k + 1).toNat = k.toNat + 1 by omega, modstep, ← hv, p2dd, bit_of (by omega) hg, bb]) rfl
  refine aw_sub (lv' := [(5, vi 0), (4, vi 0), (3, vi (d : Int)), (2, vi pa), (1, vr f), (0, vr 175)]) (by simp) ?_
  exact lp_6 _ 0 0 (by omega) (by simp [Int.emod_one]) rfl
set_option maxHeartbeats 800000 in
set_option maxRecDepth 100000 in
theorem c_Mo_low {l : Launch} {G : a_G} {h : Hp} {I L : Nat → Int → Int} {r : Int} (S : Shp h) (hg : 0 < I 175 36 ∧ I 175 36 < 300000) (hr : 0 ≤ r ∧ r < 8380417) : AW l G M_Mo_low (Rx (some (vi (dLow (I 175 36) r))) (sD h I L)) 0 (a_ar 0 [vr 175, vi r]) [] (sD h I L) := by
  suffices key : ∀ P : a_R → Hp → Prop, (∀ u, u = dLow (I 175 36) r → P (.inl (some (vi u))) (sD h I L)) → AW l G M_Mo_low P 0 [(0, vr 175), (1, vi r)] [] (sD h I L) from key _ (fun u e => ⟨by rw [e], rfl⟩)
  intro P hP
  have e1 := Int.emod_nonneg r (show 2 * I 175 36 ≠ 0 by omega)
  have e2 := Int.emod_lt_of_pos r (show 0 < 2 * I 175 36 by omega)
  have pb := pLow_b (g := I 175 36) (r := r) hg.1 hr.1
  refine aw_iload_n d_Mo_low_0 rfl rfl ?_
  refine aw_iconst d_Mo_low_1 ⟨by decide, by decide⟩ ?_
  refine aw_aload_n d_Mo_low_2 rfl rfl ?_
  refine ax_getIe (x := I 175 36) d_Mo_low_3 fd_Mo_242 (k_175 S) (rfl) ?_
  refine ax_imul d_Mo_low_6 ⟨(by omega), (by omega)⟩ ?_
  refine ax_irem d_Mo_low_7 (by omega) (by omega) ?_
  refine aw_istore_n (lv' := [(2, vi (r % (2 * (I 175 36)))), (0, vr 175), (1, vi r)]) d_Mo_low_8 rfl (by decide) rfl ?_
  refine aw_iload_n d_Mo_low_9 rfl rfl ?_
  refine aw_aload_n d_Mo_low_10 rfl rfl ?_
  refine ax_getIe (x := I 175 36) d_Mo_low_11 fd_Mo_242 (k_175 S) (rfl) ?_
  refine aw_icmp_le (tgt := 26) d_Mo_low_14 (by decide) (fun c_14 => ?_) (fun c_14 => ?_)
  · skip
    have pl : pLow (I 175 36) r = r % (2 * (I 175 36)) := if_neg (by omega)
    rw [pl] at pb
    refine aw_iload_n d_Mo_low_26 rfl rfl ?_
    refine aw_iload_n d_Mo_low_27 rfl rfl ?_
    refine ax_isub d_Mo_low_28 ⟨(by omega), (by omega)⟩ ?_
    refine aw_ldcw (n := 8380416) d_Mo_low_29 lc_Mo_279 ⟨by decide, by decide⟩ ?_
    refine aw_icmp_ne (tgt := 41) d_Mo_low_32 (by decide) (fun c_32 => ?_) (fun c_32 => ?_)
    · skip
      refine aw_iload_n d_Mo_low_41 rfl rfl ?_
      exact aw_iret d_Mo_low_42 rfl (hP _ (by unfold dLow; rw [pl]; exact (if_neg (by omega)).symm))
    · skip
      refine aw_iload_n d_Mo_low_35 rfl rfl ?_
      refine aw_iconst d_Mo_low_36 ⟨by decide, by decide⟩ ?_
      refine ax_isub d_Mo_low_37 ⟨(by omega), (by omega)⟩ ?_
      refine aw_goto (tgt := 42) d_Mo_low_38 (by decide) ?_
      exact aw_iret d_Mo_low_42 rfl (hP _ (by unfold dLow; rw [pl]; exact (if_pos (by omega)).symm))
  · skip
    refine aw_iload_n d_Mo_low_17 rfl rfl ?_
    refine aw_iconst d_Mo_low_18 ⟨by decide, by decide⟩ ?_
    refine aw_aload_n d_Mo_low_19 rfl rfl ?_
    refine ax_getIe (x := I 175 36) d_Mo_low_20 fd_Mo_242 (k_175 S) (rfl) ?_
    refine ax_imul d_Mo_low_23 ⟨(by omega), (by omega)⟩ ?_
    refine ax_isub d_Mo_low_24 ⟨(by omega), (by omega)⟩ ?_
    refine aw_istore_n (lv' := [(2, vi ((r % (2 * (I 175 36))) - (2 * (I 175 36)))), (0, vr 175), (1, vi r)]) d_Mo_low_25 rfl (by decide) rfl ?_
    have pl : pLow (I 175 36) r = (r % (2 * (I 175 36))) - (2 * (I 175 36)) := if_pos (by omega)
    rw [pl] at pb
    refine aw_iload_n d_Mo_low_26 rfl rfl ?_
    refine aw_iload_n d_Mo_low_27 rfl rfl ?_
    refine ax_isub d_Mo_low_28 ⟨(by omega), (by omega)⟩ ?_
    refine aw_ldcw (n := 8380416) d_Mo_low_29 lc_Mo_279 ⟨by decide, by decide⟩ ?_
    refine aw_icmp_ne (tgt := 41) d_Mo_low_32 (by decide) (fun c_32 => ?_) (fun c_32 => ?_)
    · skip
      refine aw_iload_n d_Mo_low_41 rfl rfl ?_
      exact aw_iret d_Mo_low_42 rfl (hP _ (by unfold dLow; rw [pl]; exact (if_neg (by omega)).symm))
    · skip
      refine aw_iload_n d_Mo_low_35 rfl rfl ?_
      refine aw_iconst d_Mo_low_36 ⟨by decide, by decide⟩ ?_
      refine ax_isub d_Mo_low_37 ⟨(by omega), (by omega)⟩ ?_
      refine aw_goto (tgt := 42) d_Mo_low_38 (by decide) ?_
      exact aw_iret d_Mo_low_42 rfl (hP _ (by unfold dLow; rw [pl]; exact (if_pos (by omega)).symm))
set_option maxHeartbeats 800000 in
set_option maxRecDepth 100000 in
theorem c_Mo_high {l : Launch} {G : a_G} {h : Hp} {I L : Nat → Int → Int} {r : Int} (S : Shp h) (hg : 0 < I 175 36 ∧ I 175 36 < 300000) (hr : 0 ≤ r ∧ r < 8380417) : AW l G M_Mo_high (Rx (some (vi (dHigh (I 175 36) r))) (sD h I L)) 0 (a_ar 0 [vr 175, vi r]) [] (sD h I L) := by
  suffices key : ∀ P : a_R → Hp → Prop, (∀ u, u = dHigh (I 175 36) r → P (.inl (some (vi u))) (sD h I L)) → AW l G M_Mo_high P 0 [(0, vr 175), (1, vi r)] [] (sD h I L) from key _ (fun u e => ⟨by rw [e], rfl⟩)
  intro P hP
  have e1 := Int.emod_nonneg r (show 2 * I 175 36 ≠ 0 by omega)
  have e2 := Int.emod_lt_of_pos r (show 0 < 2 * I 175 36 by omega)
  have pb := pLow_b (g := I 175 36) (r := r) hg.1 hr.1
  refine aw_iload_n d_Mo_high_0 rfl rfl ?_
  refine aw_iconst d_Mo_high_1 ⟨by decide, by decide⟩ ?_
  refine aw_aload_n d_Mo_high_2 rfl rfl ?_
  refine ax_getIe (x := I 175 36) d_Mo_high_3 fd_Mo_242 (k_175 S) (rfl) ?_
  refine ax_imul d_Mo_high_6 ⟨(by omega), (by omega)⟩ ?_
  refine ax_irem d_Mo_high_7 (by omega) (by omega) ?_
  refine aw_istore_n (lv' := [(2, vi (r % (2 * (I 175 36)))), (0, vr 175), (1, vi r)]) d_Mo_high_8 rfl (by decide) rfl ?_
  refine aw_iload_n d_Mo_high_9 rfl rfl ?_
  refine aw_aload_n d_Mo_high_10 rfl rfl ?_
  refine ax_getIe (x := I 175 36) d_Mo_high_11 fd_Mo_242 (k_175 S) (rfl) ?_
  refine aw_icmp_le (tgt := 26) d_Mo_high_14 (by decide) (fun c_14 => ?_) (fun c_14 => ?_)
  · skip
    have pl : pLow (I 175 36) r = r % (2 * (I 175 36)) := if_neg (by omega)
    rw [pl] at pb
    refine aw_iload_n d_Mo_high_26 rfl rfl ?_
    refine aw_iload_n d_Mo_high_27 rfl rfl ?_
    refine ax_isub d_Mo_high_28 ⟨(by omega), (by omega)⟩ ?_
    refine aw_ldcw (n := 8380416) d_Mo_high_29 lc_Mo_279 ⟨by decide, by decide⟩ ?_
    refine aw_icmp_ne (tgt := 39) d_Mo_high_32 (by decide) (fun c_32 => ?_) (fun c_32 => ?_)
    · skip
      refine aw_iload_n d_Mo_high_39 rfl rfl ?_
      refine aw_iload_n d_Mo_high_40 rfl rfl ?_
      refine ax_isub d_Mo_high_41 ⟨(by omega), (by omega)⟩ ?_
      refine aw_iconst d_Mo_high_42 ⟨by decide, by decide⟩ ?_
      refine aw_aload_n d_Mo_high_43 rfl rfl ?_
      refine ax_getIe (x := I 175 36) d_Mo_high_44 fd_Mo_242 (k_175 S) (rfl) ?_
      refine ax_imul d_Mo_high_47 ⟨(by omega), (by omega)⟩ ?_
      refine ax_idiv d_Mo_high_48 ⟨(by omega), (by omega)⟩ (by omega) ?_
      exact aw_iret d_Mo_high_49 rfl (hP _ (by unfold dHigh; rw [pl]; exact (if_neg (by omega)).symm))
    · skip
      refine aw_iconst d_Mo_high_35 ⟨by decide, by decide⟩ ?_
      refine aw_goto (tgt := 49) d_Mo_high_36 (by decide) ?_
      exact aw_iret d_Mo_high_49 rfl (hP _ (by unfold dHigh; rw [pl]; exact (if_pos (by omega)).symm))
  · skip
    refine aw_iload_n d_Mo_high_17 rfl rfl ?_
    refine aw_iconst d_Mo_high_18 ⟨by decide, by decide⟩ ?_
    refine aw_aload_n d_Mo_high_19 rfl rfl ?_
    refine ax_getIe (x := I 175 36) d_Mo_high_20 fd_Mo_242 (k_175 S) (rfl) ?_
    refine ax_imul d_Mo_high_23 ⟨(by omega), (by omega)⟩ ?_
    refine ax_isub d_Mo_high_24 ⟨(by omega), (by omega)⟩ ?_
    refine aw_istore_n (lv' := [(2, vi ((r % (2 * (I 175 36))) - (2 * (I 175 36)))), (0, vr 175), (1, vi r)]) d_Mo_high_25 rfl (by decide) rfl ?_
    have pl : pLow (I 175 36) r = (r % (2 * (I 175 36))) - (2 * (I 175 36)) := if_pos (by omega)
    rw [pl] at pb
    refine aw_iload_n d_Mo_high_26 rfl rfl ?_
    refine aw_iload_n d_Mo_high_27 rfl rfl ?_
    refine ax_isub d_Mo_high_28 ⟨(by omega), (by omega)⟩ ?_
    refine aw_ldcw (n := 8380416) d_Mo_high_29 lc_Mo_279 ⟨by decide, by decide⟩ ?_
    refine aw_icmp_ne (tgt := 39) d_Mo_high_32 (by decide) (fun c_32 => ?_) (fun c_32 => ?_)
    · skip
      refine aw_iload_n d_Mo_high_39 rfl rfl ?_
      refine aw_iload_n d_Mo_high_40 rfl rfl ?_
      refine ax_isub d_Mo_high_41 ⟨(by omega), (by omega)⟩ ?_
      refine aw_iconst d_Mo_high_42 ⟨by decide, by decide⟩ ?_
      refine aw_aload_n d_Mo_high_43 rfl rfl ?_
      refine ax_getIe (x := I 175 36) d_Mo_high_44 fd_Mo_242 (k_175 S) (rfl) ?_
      refine ax_imul d_Mo_high_47 ⟨(by omega), (by omega)⟩ ?_
      refine ax_idiv d_Mo_high_48 ⟨(by omega), (by omega)⟩ (by omega) ?_
      exact aw_iret d_Mo_high_49 rfl (hP _ (by unfold dHigh; rw [pl]; exact (if_neg (by omega)).symm))
    · skip
      refine aw_iconst d_Mo_high_35 ⟨by decide, by decide⟩ ?_
      refine aw_goto (tgt := 49) d_Mo_high_36 (by decide) ?_
      exact aw_iret d_Mo_high_49 rfl (hP _ (by unfold dHigh; rw [pl]; exact (if_pos (by omega)).symm))
set_option maxHeartbeats 800000 in
set_option maxRecDepth 100000 in
theorem c_Pa_plainLow {l : Launch} {G : a_G} {h : Hp} {I L : Nat → Int → Int} {p : Nat} {r : Int} (hp : hK h p = 22) (hg : 0 < I p 5 ∧ I p 5 < 300000) (hr : 0 ≤ r ∧ r < 8380417) : AW l G M_Pa_plainLow (Rx (some (vi (pLow (I p 5) r))) (sD h I L)) 0 (a_ar 0 [vr p, vi r]) [] (sD h I L) := by
  suffices key : ∀ P : a_R → Hp → Prop, (∀ u, u = pLow (I p 5) r → P (.inl (some (vi u))) (sD h I L)) → AW l G M_Pa_plainLow P 0 [(0, vr p), (1, vi r)] [] (sD h I L) from key _ (fun u e => ⟨by rw [e], rfl⟩)
  intro P hP
  have e1 := Int.emod_nonneg r (show 2 * I p 5 ≠ 0 by omega)
  have e2 := Int.emod_lt_of_pos r (show 0 < 2 * I p 5 by omega)
  have pb := pLow_b (g := I p 5) (r := r) hg.1 hr.1
  refine aw_iload_n d_Pa_plainLow_0 rfl rfl ?_
  refine aw_iconst d_Pa_plainLow_1 ⟨by decide, by decide⟩ ?_
  refine aw_aload_n d_Pa_plainLow_2 rfl rfl ?_
  refine ax_getIe (x := I p 5) d_Pa_plainLow_3 fd_Pa_52 hp (rfl) ?_
  refine ax_imul d_Pa_plainLow_6 ⟨(by omega), (by omega)⟩ ?_
  refine ax_irem d_Pa_plainLow_7 (by omega) (by omega) ?_
  refine aw_istore_n (lv' := [(2, vi (r % (2 * (I p 5)))), (0, vr p), (1, vi r)]) d_Pa_plainLow_8 rfl (by decide) rfl ?_
  refine aw_iload_n d_Pa_plainLow_9 rfl rfl ?_
  refine aw_aload_n d_Pa_plainLow_10 rfl rfl ?_
  refine ax_getIe (x := I p 5) d_Pa_plainLow_11 fd_Pa_52 hp (rfl) ?_
  refine aw_icmp_le (tgt := 28) d_Pa_plainLow_14 (by decide) (fun c_14 => ?_) (fun c_14 => ?_)
  · skip
    refine aw_iload_n d_Pa_plainLow_28 rfl rfl ?_
    exact aw_iret d_Pa_plainLow_29 rfl (hP _ (if_neg (by omega)).symm)
  · skip
    refine aw_iload_n d_Pa_plainLow_17 rfl rfl ?_
    refine aw_iconst d_Pa_plainLow_18 ⟨by decide, by decide⟩ ?_
    refine aw_aload_n d_Pa_plainLow_19 rfl rfl ?_
    refine ax_getIe (x := I p 5) d_Pa_plainLow_20 fd_Pa_52 hp (rfl) ?_
    refine ax_imul d_Pa_plainLow_23 ⟨(by omega), (by omega)⟩ ?_
    refine ax_isub d_Pa_plainLow_24 ⟨(by omega), (by omega)⟩ ?_
    refine aw_goto (tgt := 29) d_Pa_plainLow_25 (by decide) ?_
    exact aw_iret d_Pa_plainLow_29 rfl (hP _ (if_pos (by omega)).symm)
set_option maxHeartbeats 800000 in
set_option maxRecDepth 100000 in
theorem c_Pa_low {l : Launch} {G : a_G} {h : Hp} {I L : Nat → Int → Int} {p : Nat} {r : Int} (hp : hK h p = 22) (hg : 0 < I p 5 ∧ I p 5 < 300000) (hr : 0 ≤ r ∧ r < 8380417) : AW l G M_Pa_low (Rx (some (vi (dLow (I p 5) r))) (sD h I L)) 0 (a_ar 0 [vr p, vi r]) [] (sD h I L) := by
  suffices key : ∀ P : a_R → Hp → Prop, (∀ u, u = dLow (I p 5) r → P (.inl (some (vi u))) (sD h I L)) → AW l G M_Pa_low P 0 [(0, vr p), (1, vi r)] [] (sD h I L) from key _ (fun u e => ⟨by rw [e], rfl⟩)
  intro P hP
  have e1 := Int.emod_nonneg r (show 2 * I p 5 ≠ 0 by omega)
  have e2 := Int.emod_lt_of_pos r (show 0 < 2 * I p 5 by omega)
  have pb := pLow_b (g := I p 5) (r := r) hg.1 hr.1
  refine aw_aload_n d_Pa_low_0 rfl rfl ?_
  refine aw_iload_n d_Pa_low_1 rfl rfl ?_
  refine ax_V (st := []) (as := [vi r]) (b := p) (v := some (vi (pLow (I p 5) r))) (h' := sD h I L) d_Pa_low_2 cs_Pa_low_2 hp (c_Pa_plainLow hp hg hr) rfl rfl rfl ?_
  show AW l G M_Pa_low P 5 [(0, vr p), (1, vi r)] [vi (pLow (I p 5) r)] (sD h I L)
  refine aw_istore_n (lv' := [(2, vi (pLow (I p 5) r)), (0, vr p), (1, vi r)]) d_Pa_low_5 rfl (by decide) rfl ?_
  refine aw_iload_n d_Pa_low_6 rfl rfl ?_
  refine aw_iload_n d_Pa_low_7 rfl rfl ?_
  refine ax_isub d_Pa_low_8 ⟨(by omega), (by omega)⟩ ?_
  refine aw_ldc (n := 8380416) d_Pa_low_9 lc_Pa_51 ⟨by decide, by decide⟩ ?_
  refine aw_icmp_ne (tgt := 20) d_Pa_low_11 (by decide) (fun c_11 => ?_) (fun c_11 => ?_)
  · skip
    refine aw_iload_n d_Pa_low_20 rfl rfl ?_
    exact aw_iret d_Pa_low_21 rfl (hP _ (by unfold dLow; exact (if_neg (by omega)).symm))
  · skip
    refine aw_iload_n d_Pa_low_14 rfl rfl ?_
    refine aw_iconst d_Pa_low_15 ⟨by decide, by decide⟩ ?_
    refine ax_isub d_Pa_low_16 ⟨(by omega), (by omega)⟩ ?_
    refine aw_goto (tgt := 21) d_Pa_low_17 (by decide) ?_
    exact aw_iret d_Pa_low_21 rfl (hP _ (by unfold dLow; exact (if_pos (by omega)).symm))
set_option maxHeartbeats 800000 in
set_option maxRecDepth 100000 in
theorem c_Pa_high {l : Launch} {G : a_G} {h : Hp} {I L : Nat → Int → Int} {p : Nat} {r : Int} (hp : hK h p = 22) (hg : 0 < I p 5 ∧ I p 5 < 300000) (hr : 0 ≤ r ∧ r < 8380417) : AW l G M_Pa_high (Rx (some (vi (dHigh (I p 5) r))) (sD h I L)) 0 (a_ar 0 [vr p, vi r]) [] (sD h I L) := by
  suffices key : ∀ P : a_R → Hp → Prop, (∀ u, u = dHigh (I p 5) r → P (.inl (some (vi u))) (sD h I L)) → AW l G M_Pa_high P 0 [(0, vr p), (1, vi r)] [] (sD h I L) from key _ (fun u e => ⟨by rw [e], rfl⟩)
  intro P hP
  have e1 := Int.emod_nonneg r (show 2 * I p 5 ≠ 0 by omega)
  have e2 := Int.emod_lt_of_pos r (show 0 < 2 * I p 5 by omega)
  have pb := pLow_b (g := I p 5) (r := r) hg.1 hr.1
  refine aw_iload_n d_Pa_high_0 rfl rfl ?_
  refine aw_aload_n d_Pa_high_1 rfl rfl ?_
  refine aw_iload_n d_Pa_high_2 rfl rfl ?_
  refine ax_V (st := [vi r]) (as := [vi r]) (b := p) (v := some (vi (pLow (I p 5) r))) (h' := sD h I L) d_Pa_high_3 cs_Pa_high_3 hp (c_Pa_plainLow hp hg hr) rfl rfl rfl ?_
  show AW l G M_Pa_high P 6 [(0, vr p), (1, vi r)] [vi (pLow (I p 5) r), vi r] (sD h I L)
  refine ax_isub d_Pa_high_6 ⟨(by omega), (by omega)⟩ ?_
  refine aw_istore_n (lv' := [(2, vi (r - (pLow (I p 5) r))), (0, vr p), (1, vi r)]) d_Pa_high_7 rfl (by decide) rfl ?_
  refine aw_iload_n d_Pa_high_8 rfl rfl ?_
  refine aw_ldc (n := 8380416) d_Pa_high_9 lc_Pa_51 ⟨by decide, by decide⟩ ?_
  refine aw_icmp_ne (tgt := 18) d_Pa_high_11 (by decide) (fun c_11 => ?_) (fun c_11 => ?_)
  · skip
    refine aw_iload_n d_Pa_high_18 rfl rfl ?_
    refine aw_iconst d_Pa_high_19 ⟨by decide, by decide⟩ ?_
    refine aw_aload_n d_Pa_high_20 rfl rfl ?_
    refine ax_getIe (x := I p 5) d_Pa_high_21 fd_Pa_52 hp (rfl) ?_
    refine ax_imul d_Pa_high_24 ⟨(by omega), (by omega)⟩ ?_
    refine ax_idiv d_Pa_high_25 ⟨(by omega), (by omega)⟩ (by omega) ?_
    exact aw_iret d_Pa_high_26 rfl (hP _ (by unfold dHigh; exact (if_neg (by omega)).symm))
  · skip
    refine aw_iconst d_Pa_high_14 ⟨by decide, by decide⟩ ?_
    refine aw_goto (tgt := 26) d_Pa_high_15 (by decide) ?_
    exact aw_iret d_Pa_high_26 rfl (hP _ (by unfold dHigh; exact (if_pos (by omega)).symm))
