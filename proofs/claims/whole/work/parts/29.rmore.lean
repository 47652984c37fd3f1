/-! the reference: packing, moving, parameters -/
theorem gB_of {R : Int → Int} {X : Int → Int} {b0 : Int} {d : Nat} (h : bIn R b0 (bV X d 256) (d * 256)) : ∀ m, 0 ≤ m → m < 32 * (d : Int) → R (b0 + m) % 256 = gB X d m := by
  intro m h0 h1
  have := h.2 m.toNat (by omega)
  rw [Int.toNat_of_nonneg h0] at this
  exact this
def dsmall (e v : Int) : Int := if e = 2 then (if v < 15 then 2 - v % 5 else 9) else (if v < 9 then 4 - v else 9)
def pK (s : Int) : Int := if s = 0 then 4 else if s = 1 then 6 else 8
def pL (s : Int) : Int := if s = 0 then 4 else if s = 1 then 5 else 7
def pE (s : Int) : Int := if s = 1 then 4 else 2
def pT (s : Int) : Int := if s = 0 then 39 else if s = 1 then 49 else 60
def pG1 (s : Int) : Int := if s = 0 then 131072 else 524288
def pG2 (s : Int) : Int := if s = 0 then 95232 else 261888
def pW (s : Int) : Int := if s = 0 then 80 else if s = 1 then 55 else 75
def pC (s : Int) : Int := 32 + 16 * s
def pB (s : Int) : Int := if s = 0 then 18 else 20
def DsaR (I : Nat → Int → Int) (s : Int) : Prop := I 175 26 = pK s ∧ I 175 32 = pL s ∧ I 175 33 = pE s ∧ I 175 34 = pT s ∧ I 175 35 = pG1 s ∧ I 175 36 = pG2 s ∧ I 175 37 = pW s ∧ I 175 38 = pC s ∧ I 175 39 = pB s
theorem pw_step {K : Nat → Int → Int} {i : Int} (h0 : 0 ≤ i) (h : ∀ j, 0 ≤ j → j < i → K 203 j = pw j.toNat) (h1 : 1 ≤ i) : ∀ j, 0 ≤ j → j < i + 1 → a_up K 203 i (pw (i - 1).toNat * 1753 % 8380417) 203 j = pw j.toNat := by
  intro j j0 j1
  by_cases q : j = i
  · rw [q, a_up_at, show i.toNat = (i - 1).toNat + 1 by omega]
    rfl
  · rw [a_up_ne (Or.inr q), h j j0 (by omega)]
set_option maxHeartbeats 800000 in
set_option maxRecDepth 100000 in
theorem c_Mo_pack {l : Launch} {G : a_G} {h : Hp} {I L : Nat → Int → Int} {f g d : Nat} {pa c b : Int} (S : Shp h) (Zf : hK h f = 2 ∧ 12 ≤ f ∧ f ≠ 175) (Zg : RwO h g) (hg : g ≠ f ∧ g ≠ 175) (hd : d ≤ 20) (hB : I 175 23 = 8 * c) (hX : ∀ j, 0 ≤ j → j < 256 → 0 ≤ b - I g j ∧ b - I g j < 2 ^ d) (hb : -10000000 ≤ b ∧ b ≤ 10000000) (hc : 0 ≤ pa ∧ 0 ≤ c ∧ pa + c + 32 * d ≤ hN h f ∧ hN h f < 1000000) : AW l G M_Mo_pack (Ret (fun _ : Nat → Int → Int => none) (fun K => sD h K L) (fun K => (∀ a j, (a ≠ f ∨ j < pa + c) → (a ≠ 175 ∨ j ≠ 23) → K a j = I a j) ∧ K 175 23 = 8 * (c + 32 * d) ∧ ∀ m, 0 ≤ m → m < 32 * (d : Int) → K f (pa + c + m) % 256 = gB (fun j => b - I g j) d m)) 0 (a_ar 0 [vr 175, vr f, vi pa, vr g, vi b, vi (d : Int)]) [] (sD h I L) := by
  suffices key : ∀ P : a_R → Hp → Prop, (∀ K : Nat → Int → Int, (∀ a j, (a ≠ f ∨ j < pa + c) → (a ≠ 175 ∨ j ≠ 23) → K a j = I a j) → K 175 23 = 8 * (c + 32 * d) → (∀ m, 0 ≤ m → m < 32 * (d : Int) → K f (pa + c + m) % 256 = gB (fun j => b - I g j) d m) → P (.inl none) (sD h K L)) → AW l G M_Mo_pack P 0 [(0, vr 175), (1, vr f), (2, vi pa), (3, vr g), (4, vi b), (5, vi (d : Int))] [] (sD h I L) from key _ (fun K q1 q2 q3 => ⟨K, rfl, rfl, q1, q2, q3⟩)
  intro P hP
  refine aw_iconst d_Mo_pack_0 ⟨by decide, by decide⟩ ?_
  refine aw_istore (lv' := [(6, vi 0), (0, vr 175), (1, vr f), (2, vi pa), (3, vr g), (4, vi b), (5, vi (d : Int))]) d_Mo_pack_1 (by decide) rfl ?_
  have lp_3 : ∀ (n_ : Nat) (i : Int) (K : Nat → Int → Int) (t : Int), (0 ≤ i ∧ i ≤ 256) → (t = d * i) → (∀ a j, (a ≠ f ∨ j < pa + c) → (a ≠ 175 ∨ j ≠ 23) → K a j = I a j) → (K 175 23 = 8 * c + t) → (bIn (K f) (pa + c) (bV (fun j => b - I g j) d i.toNat) (d * i.toNat)) → ((256 - i).toNat) = n_ → AW l G M_Mo_pack P 3 [(6, vi i), (5, vi (d : Int)), (4, vi b), (3, vr g), (2, vi pa), (1, vr f), (0, vr 175)] [] (sD h K L) := by
    intro n_
    induction n_ using Nat.strongRecOn with
    | _ n_ ih_3 =>
    intro i K t hi ht f1 b1 g1 hm_3
    refine aw_iload d_Mo_pack_3 rfl ?_
    refine aw_sipush d_Mo_pack_5 ⟨by decide, by decide⟩ (by decide) ?_
    refine aw_icmp_ge (tgt := 32) d_Mo_pack_8 (by decide) (fun c_8 => ?_) (fun c_8 => ?_)
    · skip
      have t256 : t = d * 256 := by rw [ht, show i = 256 by omega]
      exact aw_vret d_Mo_pack_32 rfl (hP K f1 (by omega) (gB_of (by have z := g1; rw [show i.toNat = 256 by omega] at z; exact z)))
    · skip
      have v_ := hX i hi.1 (by omega)
      have d20 := p2le (a := d) (b := 20) hd
      have tn_ := twN (w := d) ht hi.1
      have tw_ := tw ht (show i < 256 by omega) (show (0 : Int) ≤ d by omega)
      refine aw_aload_n d_Mo_pack_11 rfl rfl ?_
      refine aw_aload_n d_Mo_pack_12 rfl rfl ?_
      refine aw_iload_n d_Mo_pack_13 rfl rfl ?_
      refine aw_iload d_Mo_pack_14 rfl ?_
      refine aw_aload_n d_Mo_pack_16 rfl rfl ?_
      refine aw_iload d_Mo_pack_17 rfl ?_
      refine ax_ialde (x := I g i) d_Mo_pack_19 Zg.1 (by omega) (by omega) (Eq.trans (f1 _ _ (Or.inl hg.1) (Or.inl hg.2)) (rfl)) ?_
      refine ax_isub d_Mo_pack_20 ⟨(by omega), (by omega)⟩ ?_
      refine aw_iload d_Mo_pack_21 rfl ?_
      refine ax_Vr (st := []) (as := [vr f, vi pa, vi (b - (I g i)), vi (d : Int)]) (b := 175) d_Mo_pack_23 cs_Mo_pack_23 (k_175 S) (c_Mo_putBits (q := d * i.toNat) (V := bV (fun j => b - I g j) d i.toNat) (c := c) S Zf (by omega) v_ (by omega) g1 (by omega)) rfl rfl rfl (fun u_23 q_23 => ?_)
      obtain ⟨q1, q2, q3⟩ := q_23
      show AW l G M_Mo_pack P 26 [(6, vi i), (5, vi (d : Int)), (4, vi b), (3, vr g), (2, vi pa), (1, vr f), (0, vr 175)] [] (sD h u_23 L)
      refine ax_iinc (lv' := [(6, vi (i + 1)), (5, vi (d : Int)), (4, vi b), (3, vr g), (2, vi pa), (1, vr f), (0, vr 175)]) d_Mo_pack_26 rfl (by decide) ⟨(by omega), (by omega)⟩ rfl ?_
      refine aw_goto (tgt := 3) d_Mo_pack_29 (by decide) ?_
      exact ih_3 _ (by omega) (i + 1) u_23 (t + d) (by omega) (by rw [ht, Int.mul_add, Int.mul_one]) (fun a j x y => (q1 a j x y).trans (f1 a j x y)) (by omega) (by rw [show (i + 1).toNat = i.toNat + 1 by omega]; show bIn _ _ (bV (fun j => b - I g j) d i.toNat + (b - I g (i.toNat : Int)) * 2 ^ (d * i.toNat)) _; rw [Int.toNat_of_nonneg hi.1]; exact q3) rfl
  refine aw_sub (lv' := [(6, vi 0), (5, vi (d : Int)), (4, vi b), (3, vr g), (2, vi pa), (1, vr f), (0, vr 175)]) (by simp) ?_
  exact lp_3 _ 0 I 0 (by omega) (by simp) (fun _ _ _ _ => rfl) (by omega) (⟨⟨Int.le_refl _, by simp [bV]⟩, fun m hm => absurd hm (by simp)⟩) rfl
set_option maxHeartbeats 800000 in
set_option maxRecDepth 100000 in
theorem c_Mo_unpack {l : Launch} {G : a_G} {h : Hp} {I L : Nat → Int → Int} {f g d : Nat} {pa c b : Int} (S : Shp h) (Zf : hK h f = 2 ∧ 12 ≤ f ∧ f ≠ 175) (Zg : RwO h g) (hg : g ≠ f ∧ g ≠ 175) (hd : d ≤ 20) (hB : I 175 23 = 8 * c) (hb : -10000000 ≤ b ∧ b ≤ 10000000) (hc : 0 ≤ pa ∧ 0 ≤ c ∧ pa + c + 32 * d ≤ hN h f ∧ hN h f < 1000000) : AW l G M_Mo_unpack (Ret (fun _ : Nat → Int → Int => none) (fun K => sD h K L) (fun K => (∀ a j, a ≠ g → (a ≠ 175 ∨ j ≠ 23) → K a j = I a j) ∧ K 175 23 = 8 * (c + 32 * d) ∧ ∀ j, 0 ≤ j → j < 256 → K g j = b - gR (fun j => I f (pa + c + j) % 256) d j)) 0 (a_ar 0 [vr 175, vr f, vi pa, vr g, vi b, vi (d : Int)]) [] (sD h I L) := by
  suffices key : ∀ P : a_R → Hp → Prop, (∀ K : Nat → Int → Int, (∀ a j, a ≠ g → (a ≠ 175 ∨ j ≠ 23) → K a j = I a j) → K 175 23 = 8 * (c + 32 * d) → (∀ j, 0 ≤ j → j < 256 → K g j = b - gR (fun j => I f (pa + c + j) % 256) d j) → P (.inl none) (sD h K L)) → AW l G M_Mo_unpack P 0 [(0, vr 175), (1, vr f), (2, vi pa), (3, vr g), (4, vi b), (5, vi (d : Int))] [] (sD h I L) from key _ (fun K q1 q2 q3 => ⟨K, rfl, rfl, q1, q2, q3⟩)
  intro P hP
  refine aw_iconst d_Mo_unpack_0 ⟨by decide, by decide⟩ ?_
  refine aw_istore (lv' := [(6, vi 0), (0, vr 175), (1, vr f), (2, vi pa), (3, vr g), (4, vi b), (5, vi (d : Int))]) d_Mo_unpack_1 (by decide) rfl ?_
  have lp_3 : ∀ (n_ : Nat) (i : Int) (K : Nat → Int → Int) (t : Int), (0 ≤ i ∧ i ≤ 256) → (t = d * i) → (∀ a j, a ≠ g → (a ≠ 175 ∨ j ≠ 23) → K a j = I a j) → (K 175 23 = 8 * c + t) → (∀ j, 0 ≤ j → j < i → K g j = (fun j => b - gR (fun j => I f (pa + c + j) % 256) d j) j) → ((256 - i).toNat) = n_ → AW l G M_Mo_unpack P 3 [(6, vi i), (5, vi (d : Int)), (4, vi b), (3, vr g), (2, vi pa), (1, vr f), (0, vr 175)] [] (sD h K L) := by
    intro n_
    induction n_ using Nat.strongRecOn with
    | _ n_ ih_3 =>
    intro i K t hi ht f1 b1 g1 hm_3
    refine aw_iload d_Mo_unpack_3 rfl ?_
    refine aw_sipush d_Mo_unpack_5 ⟨by decide, by decide⟩ (by decide) ?_
    refine aw_icmp_ge (tgt := 32) d_Mo_unpack_8 (by decide) (fun c_8 => ?_) (fun c_8 => ?_)
    · skip
      have t256 : t = d * 256 := by rw [ht, show i = 256 by omega]
      exact aw_vret d_Mo_unpack_32 rfl (hP K f1 (by omega) (fun j x y => g1 j x (by omega)))
    · skip
      have tn_ := twN (w := d) ht hi.1
      have tw_ := tw ht (show i < 256 by omega) (show (0 : Int) ≤ d by omega)
      have eG : (fun j => K f (pa + c + j) % 256) = (fun j => I f (pa + c + j) % 256) := funext (fun j => by rw [f1 f _ hg.1.symm (Or.inl Zf.2.2)])
      have gr_ : 0 ≤ gR (fun j => I f (pa + c + j) % 256) d i ∧ gR (fun j => I f (pa + c + j) % 256) d i < 2 ^ d := ⟨Int.emod_nonneg _ (Int.ne_of_gt (p2pos _)), Int.emod_lt_of_pos _ (p2pos _)⟩
      have d20 := p2le (a := d) (b := 20) hd
      refine aw_aload_n d_Mo_unpack_11 rfl rfl ?_
      refine aw_iload d_Mo_unpack_12 rfl ?_
      refine aw_iload d_Mo_unpack_14 rfl ?_
      refine aw_aload_n d_Mo_unpack_16 rfl rfl ?_
      refine aw_aload_n d_Mo_unpack_17 rfl rfl ?_
      refine aw_iload_n d_Mo_unpack_18 rfl rfl ?_
      refine aw_iload d_Mo_unpack_19 rfl ?_
      refine ax_V (st := [vi b, vi i, vr g]) (as := [vr f, vi pa, vi (d : Int)]) (b := 175) (v := some (vi (bV (fun j => K f (pa + c + j) % 256) 8 (32 * d) / 2 ^ (d * i.toNat) % 2 ^ d))) (h' := sD h (a_up K 175 23 (8 * c + ((d * i.toNat : Nat) : Int) + d)) L) d_Mo_unpack_21 cs_Mo_unpack_21 (k_175 S) (c_Mo_takeBits (q := d * i.toNat) (N := 32 * d) (c := c) S ⟨Zf.1, Zf.2.1⟩ (by omega) (by omega) (by omega)) rfl rfl rfl ?_
      show AW l G M_Mo_unpack P 24 [(6, vi i), (5, vi (d : Int)), (4, vi b), (3, vr g), (2, vi pa), (1, vr f), (0, vr 175)] [vi (bV (fun j => K f (pa + c + j) % 256) 8 (32 * d) / 2 ^ (d * i.toNat) % 2 ^ d), vi b, vi i, vr g] (sD h (a_up K 175 23 (8 * c + ((d * i.toNat : Nat) : Int) + d)) L)
      refine ax_ti (x := gR (fun j => I f (pa + c + j) % 256) d i) (by rw [eG]; rfl) ?_
      refine ax_isub d_Mo_unpack_24 ⟨(by omega), (by omega)⟩ ?_
      refine ax_iast d_Mo_unpack_25 Zg.1 Zg.2.1 (by omega) (by omega) ?_
      refine ax_iinc (lv' := [(6, vi (i + 1)), (5, vi (d : Int)), (4, vi b), (3, vr g), (2, vi pa), (1, vr f), (0, vr 175)]) d_Mo_unpack_26 rfl (by decide) ⟨(by omega), (by omega)⟩ rfl ?_
      refine aw_goto (tgt := 3) d_Mo_unpack_29 (by decide) ?_
      exact ih_3 _ (by omega) (i + 1) (a_up (a_up K 175 23 (8 * c + ((d * i.toNat : Nat) : Int) + d)) g i (b - (gR (fun j => I f (pa + c + j) % 256) d i))) (t + d) (by omega) (by rw [ht, Int.mul_add, Int.mul_one]) (fun a j x y => (a_up_ne (Or.inl x)).trans ((a_up_ne (by rcases y with z | z; exact Or.inl z; exact Or.inr z)).trans (f1 a j x y))) ((a_up_ne (Or.inl hg.2.symm)).trans (a_up_at.trans (by omega))) (row_step (fun j x y => (a_up_ne (Or.inl hg.2)).trans (g1 j x y)) rfl) rfl
  refine aw_sub (lv' := [(6, vi 0), (5, vi (d : Int)), (4, vi b), (3, vr g), (2, vi pa), (1, vr f), (0, vr 175)]) (by simp) ?_
  exact lp_3 _ 0 I 0 (by omega) (by simp) (fun _ _ _ _ => rfl) (by omega) (fun j x y => by omega) rfl
set_option maxHeartbeats 800000 in
set_option maxRecDepth 100000 in
theorem c_Mo_move {l : Launch} {G : a_G} {h : Hp} {I L : Nat → Int → Int} {f g : Nat} {pa pb n : Int} (Zf : hK h f = 2 ∧ 12 ≤ f) (Zg : hK h g = 2 ∧ 12 ≤ g ∧ True) (hfg : f ≠ g) (hc : 0 ≤ n ∧ 0 ≤ pa ∧ 0 ≤ pb ∧ pa + n ≤ hN h f ∧ pb + n ≤ hN h g ∧ hN h f < 1000000 ∧ hN h g < 1000000) : AW l G M_Mo_move (Rx none (sD h (putRow I g pb n (fun k => I f (pa + k))) L)) 0 (a_ar 0 [vr f, vi pa, vr g, vi pb, vi n]) [] (sD h I L) := by
  suffices key : ∀ P : a_R → Hp → Prop, (P (.inl none) (sD h (putRow I g pb n (fun k => I f (pa + k))) L)) → AW l G M_Mo_move P 0 [(0, vr f), (1, vi pa), (2, vr g), (3, vi pb), (4, vi n)] [] (sD h I L) from key _ (⟨rfl, rfl⟩)
  intro P hP
  refine aw_iconst d_Mo_move_0 ⟨by decide, by decide⟩ ?_
  refine aw_istore (lv' := [(5, vi 0), (0, vr f), (1, vi pa), (2, vr g), (3, vi pb), (4, vi n)]) d_Mo_move_1 (by decide) rfl ?_
  have lp_3 : ∀ (n_ : Nat) (i : Int), (0 ≤ i ∧ i ≤ n) → ((n - i).toNat) = n_ → AW l G M_Mo_move P 3 [(5, vi i), (4, vi n), (3, vi pb), (2, vr g), (1, vi pa), (0, vr f)] [] (sD h (putRow I g pb i (fun k => I f (pa + k))) L) := by
    intro n_
    induction n_ using Nat.strongRecOn with
    | _ n_ ih_3 =>
    intro i hi hm_3
    refine aw_iload d_Mo_move_3 rfl ?_
    refine aw_iload d_Mo_move_5 rfl ?_
    refine aw_icmp_ge (tgt := 28) d_Mo_move_7 (by decide) (fun c_7 => ?_) (fun c_7 => ?_)
    · skip
      exact aw_vret d_Mo_move_28 rfl (by rw [show i = n by omega]; exact hP)
    · skip
      refine aw_aload_n d_Mo_move_10 rfl rfl ?_
      refine aw_iload_n d_Mo_move_11 rfl rfl ?_
      refine aw_iload d_Mo_move_12 rfl ?_
      refine ax_iadd d_Mo_move_14 ⟨(by omega), (by omega)⟩ ?_
      refine aw_aload_n d_Mo_move_15 rfl rfl ?_
      refine aw_iload_n d_Mo_move_16 rfl rfl ?_
      refine aw_iload d_Mo_move_17 rfl ?_
      refine ax_iadd d_Mo_move_19 ⟨(by omega), (by omega)⟩ ?_
      refine ax_balde (x := I f (pa + i)) d_Mo_move_20 Zf.1 (by omega) (by omega) (putRow_ne hfg) ?_
      refine ax_bast d_Mo_move_21 Zg.1 Zg.2.1 (by omega) (by omega) ?_
      rw [putRow_1 hi.1 rfl]
      refine ax_iinc (lv' := [(5, vi (i + 1)), (4, vi n), (3, vi pb), (2, vr g), (1, vi pa), (0, vr f)]) d_Mo_move_22 rfl (by decide) ⟨(by omega), (by omega)⟩ rfl ?_
      refine aw_goto (tgt := 3) d_Mo_move_25 (by decide) ?_
      exact ih_3 _ (by omega) (i + 1) (by omega) rfl
  refine ax_hp (h' := sD h (putRow I g pb 0 (fun k => I f (pa + k))) L) (by rw [putRow_0]) ?_
  refine aw_sub (lv' := [(5, vi 0), (4, vi n), (3, vi pb), (2, vr g), (1, vi pa), (0, vr f)]) (by simp) ?_
  exact lp_3 _ 0 (by omega) rfl
set_option maxHeartbeats 800000 in
set_option maxRecDepth 100000 in
theorem c_Mo_alike {l : Launch} {G : a_G} {h : Hp} {I L : Nat → Int → Int} {f g : Nat} {pa pb n : Int} (Zf : hK h f = 2 ∧ 12 ≤ f) (Zg : hK h g = 2 ∧ 12 ≤ g) (hc : 0 ≤ n ∧ 0 ≤ pa ∧ 0 ≤ pb ∧ pa + n ≤ hN h f ∧ pb + n ≤ hN h g ∧ hN h f < 1000000 ∧ hN h g < 1000000) : AW l G M_Mo_alike (Ret (fun u : Int => some (vi u)) (fun _ => sD h I L) (fun u => (u = 0 ∨ u = 1) ∧ (u = 1 ↔ ∀ j, 0 ≤ j → j < n → I f (pa + j) = I g (pb + j)))) 0 (a_ar 0 [vr f, vi pa, vr g, vi pb, vi n]) [] (sD h I L) := by
  suffices key : ∀ P : a_R → Hp → Prop, (∀ u : Int, (u = 0 ∨ u = 1) → (u = 1 ↔ ∀ j, 0 ≤ j → j < n → I f (pa + j) = I g (pb + j)) → P (.inl (some (vi u))) (sD h I L)) → AW l G M_Mo_alike P 0 [(0, vr f), (1, vi pa), (2, vr g), (3, vi pb), (4, vi n)] [] (sD h I L) from key _ (fun u q1 q2 => ⟨u, rfl, rfl, q1, q2⟩)
  intro P hP
  refine aw_iconst d_Mo_alike_0 ⟨by decide, by decide⟩ ?_
  refine aw_istore (lv' := [(5, vi 1), (0, vr f), (1, vi pa), (2, vr g), (3, vi pb), (4, vi n)]) d_Mo_alike_1 (by decide) rfl ?_
  refine aw_iconst d_Mo_alike_3 ⟨by decide, by decide⟩ ?_
  refine aw_istore (lv' := [(6, vi 0), (5, vi 1), (0, vr f), (1, vi pa), (2, vr g), (3, vi pb), (4, vi n)]) d_Mo_alike_4 (by decide) rfl ?_
  have lp_6 : ∀ (n_ : Nat) (i : Int) (v : Int), (0 ≤ i ∧ i ≤ n ∧ (v = 0 ∨ v = 1)) → (v = 1 ↔ ∀ j, 0 ≤ j → j < i → I f (pa + j) = I g (pb + j)) → ((n - i).toNat) = n_ → AW l G M_Mo_alike P 6 [(6, vi i), (5, vi v), (4, vi n), (3, vi pb), (2, vr g), (1, vi pa), (0, vr f)] [] (sD h I L) := by
    intro n_
    induction n_ using Nat.strongRecOn with
    | _ n_ ih_6 =>
    intro i v hi hv hm_6
    refine aw_iload d_Mo_alike_6 rfl ?_
    refine aw_iload d_Mo_alike_8 rfl ?_
    refine aw_icmp_ge (tgt := 37) d_Mo_alike_10 (by decide) (fun c_10 => ?_) (fun c_10 => ?_)
    · skip
      refine aw_iload d_Mo_alike_37 rfl ?_
      exact aw_zret d_Mo_alike_39 rfl ⟨by omega, by omega⟩ (hP _ hi.2.2 (by rw [show n = i by omega]; exact hv))
    · skip
      refine aw_aload_n d_Mo_alike_13 rfl rfl ?_
      refine aw_iload_n d_Mo_alike_14 rfl rfl ?_
      refine aw_iload d_Mo_alike_15 rfl ?_
      refine ax_iadd d_Mo_alike_17 ⟨(by omega), (by omega)⟩ ?_
      refine ax_balde (x := I f (pa + i)) d_Mo_alike_18 Zf.1 (by omega) (by omega) (rfl) ?_
      refine aw_aload_n d_Mo_alike_19 rfl rfl ?_
      refine aw_iload_n d_Mo_alike_20 rfl rfl ?_
      refine aw_iload d_Mo_alike_21 rfl ?_
      refine ax_iadd d_Mo_alike_23 ⟨(by omega), (by omega)⟩ ?_
      refine ax_balde (x := I g (pb + i)) d_Mo_alike_24 Zg.1 (by omega) (by omega) (rfl) ?_
      refine aw_icmp_eq (tgt := 31) d_Mo_alike_25 (by decide) (fun c_25 => ?_) (fun c_25 => ?_)
      · skip
        refine ax_iinc (lv' := [(6, vi (i + 1)), (5, vi v), (4, vi n), (3, vi pb), (2, vr g), (1, vi pa), (0, vr f)]) d_Mo_alike_31 rfl (by decide) ⟨(by omega), (by omega)⟩ rfl ?_
        refine aw_goto (tgt := 6) d_Mo_alike_34 (by decide) ?_
        exact ih_6 _ (by omega) (i + 1) v (by omega) (⟨fun z => a_upto (hv.1 z) (by omega), fun z => hv.2 (fun j a b => z j a (by omega))⟩) rfl
      · skip
        refine aw_iconst d_Mo_alike_28 ⟨by decide, by decide⟩ ?_
        refine aw_istore (lv' := [(5, vi 0), (6, vi i), (4, vi n), (3, vi pb), (2, vr g), (1, vi pa), (0, vr f)]) d_Mo_alike_29 (by decide) rfl ?_
        refine ax_iinc (lv' := [(6, vi (i + 1)), (5, vi 0), (4, vi n), (3, vi pb), (2, vr g), (1, vi pa), (0, vr f)]) d_Mo_alike_31 rfl (by decide) ⟨(by omega), (by omega)⟩ rfl ?_
        refine aw_goto (tgt := 6) d_Mo_alike_34 (by decide) ?_
        exact ih_6 _ (by omega) (i + 1) 0 (by omega) (⟨fun z => absurd z (by decide), fun z => absurd (z i hi.1 (by omega)) (by omega)⟩) rfl
  refine aw_sub (lv' := [(6, vi 0), (5, vi 1), (4, vi n), (3, vi pb), (2, vr g), (1, vi pa), (0, vr f)]) (by simp) ?_
  exact lp_6 _ 0 1 (by omega) (⟨fun _ j a b => by omega, fun _ => rfl⟩) rfl
set_option maxHeartbeats 800000 in
set_option maxRecDepth 100000 in
theorem c_Mo_small {l : Launch} {G : a_G} {h : Hp} {I L : Nat → Int → Int} {v : Int} (S : Shp h) (hv : 0 ≤ v ∧ v < 16) : AW l G M_Mo_small (Rx (some (vi (dsmall (I 175 33) v))) (sD h I L)) 0 (a_ar 0 [vr 175, vi v]) [] (sD h I L) := by
  suffices key : ∀ P : a_R → Hp → Prop, (∀ u, u = dsmall (I 175 33) v → P (.inl (some (vi u))) (sD h I L)) → AW l G M_Mo_small P 0 [(0, vr 175), (1, vi v)] [] (sD h I L) from key _ (fun u e => ⟨by rw [e], rfl⟩)
  intro P hP
  refine aw_aload_n d_Mo_small_0 rfl rfl ?_
  refine ax_getIe (x := I 175 33) d_Mo_small_1 fd_Mo_229 (k_175 S) (rfl) ?_
  refine aw_iconst d_Mo_small_4 ⟨by decide, by decide⟩ ?_
  refine aw_icmp_ne (tgt := 27) d_Mo_small_5 (by decide) (fun c_5 => ?_) (fun c_5 => ?_)
  · skip
    refine aw_iload_n d_Mo_small_27 rfl rfl ?_
    refine aw_bipush d_Mo_small_28 ⟨by decide, by decide⟩ (by decide) ?_
    refine aw_icmp_ge (tgt := 39) d_Mo_small_30 (by decide) (fun c_30 => ?_) (fun c_30 => ?_)
    · skip
      refine aw_bipush d_Mo_small_39 ⟨by decide, by decide⟩ (by decide) ?_
      exact aw_iret d_Mo_small_41 rfl (hP _ (by unfold dsmall; split <;> (try split) <;> omega))
    · skip
      refine aw_iconst d_Mo_small_33 ⟨by decide, by decide⟩ ?_
      refine aw_iload_n d_Mo_small_34 rfl rfl ?_
      refine ax_isub d_Mo_small_35 ⟨(by omega), (by omega)⟩ ?_
      refine aw_goto (tgt := 41) d_Mo_small_36 (by decide) ?_
      exact aw_iret d_Mo_small_41 rfl (hP _ (by unfold dsmall; split <;> (try split) <;> omega))
  · skip
    refine aw_iload_n d_Mo_small_8 rfl rfl ?_
    refine aw_bipush d_Mo_small_9 ⟨by decide, by decide⟩ (by decide) ?_
    refine aw_icmp_ge (tgt := 22) d_Mo_small_11 (by decide) (fun c_11 => ?_) (fun c_11 => ?_)
    · skip
      refine aw_bipush d_Mo_small_22 ⟨by decide, by decide⟩ (by decide) ?_
      refine aw_goto (tgt := 41) d_Mo_small_24 (by decide) ?_
      exact aw_iret d_Mo_small_41 rfl (hP _ (by unfold dsmall; split <;> (try split) <;> omega))
    · skip
      refine aw_iconst d_Mo_small_14 ⟨by decide, by decide⟩ ?_
      refine aw_iload_n d_Mo_small_15 rfl rfl ?_
      refine aw_iconst d_Mo_small_16 ⟨by decide, by decide⟩ ?_
      refine ax_irem d_Mo_small_17 (by omega) (by omega) ?_
      refine ax_isub d_Mo_small_18 ⟨(by omega), (by omega)⟩ ?_
      refine aw_goto (tgt := 41) d_Mo_small_19 (by decide) ?_
      exact aw_iret d_Mo_small_41 rfl (hP _ (by unfold dsmall; split <;> (try split) <;> omega))
set_option maxHeartbeats 800000 in
set_option maxRecDepth 100000 in
theorem c_Mo_in {l : Launch} {G : a_G} {h : Hp} {x a b : Int}  : AW l G M_Mo_in (Rx (some (vi (if a ≤ x ∧ x ≤ b then 1 else 0))) h) 0 (a_ar 0 [vi x, vi a, vi b]) [] (h) := by
  suffices key : ∀ P : a_R → Hp → Prop, (∀ u, u = (if a ≤ x ∧ x ≤ b then 1 else 0) → P (.inl (some (vi u))) h) → AW l G M_Mo_in P 0 [(0, vi x), (1, vi a), (2, vi b)] [] (h) from key _ (fun u e => ⟨by rw [e], rfl⟩)
  intro P hP
  refine aw_iload_n d_Mo_in_0 rfl rfl ?_
  refine aw_iload_n d_Mo_in_1 rfl rfl ?_
  refine aw_icmp_lt (tgt := 14) d_Mo_in_2 (by decide) (fun c_2 => ?_) (fun c_2 => ?_)
  · skip
    refine aw_iconst d_Mo_in_14 ⟨by decide, by decide⟩ ?_
    exact aw_zret d_Mo_in_15 rfl ⟨by decide, by decide⟩ (hP _ (if_neg (by omega)).symm)
  · skip
    refine aw_iload_n d_Mo_in_5 rfl rfl ?_
    refine aw_iload_n d_Mo_in_6 rfl rfl ?_
    refine aw_icmp_gt (tgt := 14) d_Mo_in_7 (by decide) (fun c_7 => ?_) (fun c_7 => ?_)
    · skip
      refine aw_iconst d_Mo_in_14 ⟨by decide, by decide⟩ ?_
      exact aw_zret d_Mo_in_15 rfl ⟨by decide, by decide⟩ (hP _ (if_neg (by omega)).symm)
    · skip
      refine aw_iconst d_Mo_in_10 ⟨by decide, by decide⟩ ?_
      refine aw_goto (tgt := 15) d_Mo_in_11 (by decide) ?_
      exact aw_zret d_Mo_in_15 rfl ⟨by decide, by decide⟩ (hP _ (if_pos (by omega)).symm)
set_option maxHeartbeats 800000 in
set_option maxRecDepth 100000 in
theorem c_Mo_good {l : Launch} {G : a_G} {h : Hp} {I L : Nat → Int → Int} {y c : Int} (S : Shp h) (hy : y = 0 ∨ y = 1) : AW l G M_Mo_good (Rx (some (vi y)) (sD h (a_up I 175 4 (if y = 0 then c else 0)) L)) 0 (a_ar 0 [vr 175, vi y, vi c]) [] (sD h I L) := by
  suffices key : ∀ P : a_R → Hp → Prop, (∀ J, J = a_up I 175 4 (if y = 0 then c else 0) → P (.inl (some (vi y))) (sD h J L)) → AW l G M_Mo_good P 0 [(0, vr 175), (1, vi y), (2, vi c)] [] (sD h I L) from key _ (fun J e => ⟨rfl, by rw [e]⟩)
  intro P hP
  refine aw_aload_n d_Mo_good_0 rfl rfl ?_
  refine aw_iload_n d_Mo_good_1 rfl rfl ?_
  refine aw_if_eq (tgt := 9) d_Mo_good_2 (by decide) (fun c_2 => ?_) (fun c_2 => ?_)
  · skip
    refine aw_iload_n d_Mo_good_9 rfl rfl ?_
    refine ax_putI d_Mo_good_10 fd_Mo_105 (k_175 S) (by decide) rfl ?_
    refine aw_iload_n d_Mo_good_13 rfl rfl ?_
    exact aw_zret d_Mo_good_14 rfl ⟨by omega, by omega⟩ (hP _ (by rw [if_pos (by omega)]; rfl))
  · skip
    refine aw_iconst d_Mo_good_5 ⟨by decide, by decide⟩ ?_
    refine aw_goto (tgt := 10) d_Mo_good_6 (by decide) ?_
    refine ax_putI d_Mo_good_10 fd_Mo_105 (k_175 S) (by decide) rfl ?_
    refine aw_iload_n d_Mo_good_13 rfl rfl ?_
    exact aw_zret d_Mo_good_14 rfl ⟨by omega, by omega⟩ (hP _ (by rw [if_neg (by omega)]; rfl))
set_option maxHeartbeats 800000 in
set_option maxRecDepth 100000 in
theorem c_Mo_secretLength {l : Launch} {G : a_G} {h : Hp} {I L : Nat → Int → Int} {z : Int} (S : Shp h) (hz : (I 175 33 = 2 → 128 + 32 * ((I 175 32 + I 175 26) * 3 + 13 * I 175 26) = z) ∧ (I 175 33 ≠ 2 → 128 + 32 * ((I 175 32 + I 175 26) * 4 + 13 * I 175 26) = z)) (hb : 0 ≤ I 175 32 ∧ I 175 32 ≤ 10 ∧ 0 ≤ I 175 26 ∧ I 175 26 ≤ 10) : AW l G M_Mo_secretLength (Rx (some (vi z)) (sD h I L)) 0 (a_ar 0 [vr 175]) [] (sD h I L) := by
  suffices key : ∀ P : a_R → Hp → Prop, (∀ u, u = z → P (.inl (some (vi u))) (sD h I L)) → AW l G M_Mo_secretLength P 0 [(0, vr 175)] [] (sD h I L) from key _ (fun u e => ⟨by rw [e], rfl⟩)
  intro P hP
  refine aw_sipush d_Mo_secretLength_0 ⟨by decide, by decide⟩ (by decide) ?_
  refine aw_bipush d_Mo_secretLength_3 ⟨by decide, by decide⟩ (by decide) ?_
  refine aw_aload_n d_Mo_secretLength_5 rfl rfl ?_
  refine ax_getIe (x := I 175 32) d_Mo_secretLength_6 fd_Mo_226 (k_175 S) (rfl) ?_
  refine aw_aload_n d_Mo_secretLength_9 rfl rfl ?_
  refine ax_getIe (x := I 175 26) d_Mo_secretLength_10 fd_Mo_223 (k_175 S) (rfl) ?_
  refine ax_iadd d_Mo_secretLength_13 ⟨(by omega), (by omega)⟩ ?_
  refine aw_aload_n d_Mo_secretLength_14 rfl rfl ?_
  refine ax_getIe (x := I 175 33) d_Mo_secretLength_15 fd_Mo_229 (k_175 S) (rfl) ?_
  refine aw_iconst d_Mo_secretLength_18 ⟨by decide, by decide⟩ ?_
  refine aw_icmp_ne (tgt := 26) d_Mo_secretLength_19 (by decide) (fun c_19 => ?_) (fun c_19 => ?_)
  · skip
    refine aw_iconst d_Mo_secretLength_26 ⟨by decide, by decide⟩ ?_
    refine ax_imul d_Mo_secretLength_27 ⟨(by omega), (by omega)⟩ ?_
    refine aw_bipush d_Mo_secretLength_28 ⟨by decide, by decide⟩ (by decide) ?_
    refine aw_aload_n d_Mo_secretLength_30 rfl rfl ?_
    refine ax_getIe (x := I 175 26) d_Mo_secretLength_31 fd_Mo_223 (k_175 S) (rfl) ?_
    refine ax_imul d_Mo_secretLength_34 ⟨(by omega), (by omega)⟩ ?_
    refine ax_iadd d_Mo_secretLength_35 ⟨(by omega), (by omega)⟩ ?_
    refine ax_imul d_Mo_secretLength_36 ⟨(by omega), (by omega)⟩ ?_
    refine ax_iadd d_Mo_secretLength_37 ⟨(by omega), (by omega)⟩ ?_
    exact aw_iret d_Mo_secretLength_38 rfl (hP _ (by omega))
  · skip
    refine aw_iconst d_Mo_secretLength_22 ⟨by decide, by decide⟩ ?_
    refine aw_goto (tgt := 27) d_Mo_secretLength_23 (by decide) ?_
    refine ax_imul d_Mo_secretLength_27 ⟨(by omega), (by omega)⟩ ?_
    refine aw_bipush d_Mo_secretLength_28 ⟨by decide, by decide⟩ (by decide) ?_
    refine aw_aload_n d_Mo_secretLength_30 rfl rfl ?_
    refine ax_getIe (x := I 175 26) d_Mo_secretLength_31 fd_Mo_223 (k_175 S) (rfl) ?_
    refine ax_imul d_Mo_secretLength_34 ⟨(by omega), (by omega)⟩ ?_
    refine ax_iadd d_Mo_secretLength_35 ⟨(by omega), (by omega)⟩ ?_
    refine ax_imul d_Mo_secretLength_36 ⟨(by omega), (by omega)⟩ ?_
    refine ax_iadd d_Mo_secretLength_37 ⟨(by omega), (by omega)⟩ ?_
    exact aw_iret d_Mo_secretLength_38 rfl (hP _ (by omega))
set_option maxHeartbeats 800000 in
set_option maxRecDepth 100000 in
theorem c_Mo_context {l : Launch} {G : a_G} {h : Hp} {I L : Nat → Int → Int} {x : Int} (S : Shp h) : AW l G M_Mo_context (Rx (some (vi (if x < 0 ∨ I 186 4 ≤ 255 then 1 else 0))) (sD h I L)) 0 (a_ar 0 [vr 175, vi x]) [] (sD h I L) := by
  suffices key : ∀ P : a_R → Hp → Prop, (∀ u, u = (if x < 0 ∨ I 186 4 ≤ 255 then 1 else 0) → P (.inl (some (vi u))) (sD h I L)) → AW l G M_Mo_context P 0 [(0, vr 175), (1, vi x)] [] (sD h I L) from key _ (fun u e => ⟨by rw [e], rfl⟩)
  intro P hP
  refine aw_iload_n d_Mo_context_0 rfl rfl ?_
  refine aw_if_lt (tgt := 16) d_Mo_context_1 (by decide) (fun c_1 => ?_) (fun c_1 => ?_)
  · skip
    refine aw_iconst d_Mo_context_16 ⟨by decide, by decide⟩ ?_
    refine aw_goto (tgt := 21) d_Mo_context_17 (by decide) ?_
    exact aw_zret d_Mo_context_21 rfl ⟨by decide, by decide⟩ (hP _ (if_pos (by omega)).symm)
  · skip
    refine aw_aload_n d_Mo_context_4 rfl rfl ?_
    refine ax_getR (b := 186) d_Mo_context_5 fd_Mo_18 (k_175 S) (r_175_2 S) ?_
    refine aw_iconst d_Mo_context_8 ⟨by decide, by decide⟩ ?_
    refine ax_ialde (x := I 186 4) d_Mo_context_9 (k_186 S) (by omega) (by rw [n_186 S]; omega) (rfl) ?_
    refine aw_sipush d_Mo_context_10 ⟨by decide, by decide⟩ (by decide) ?_
    refine aw_icmp_gt (tgt := 20) d_Mo_context_13 (by decide) (fun c_13 => ?_) (fun c_13 => ?_)
    · skip
      refine aw_iconst d_Mo_context_20 ⟨by decide, by decide⟩ ?_
      exact aw_zret d_Mo_context_21 rfl ⟨by decide, by decide⟩ (hP _ (if_neg (by omega)).symm)
    · skip
      refine aw_iconst d_Mo_context_16 ⟨by decide, by decide⟩ ?_
      refine aw_goto (tgt := 21) d_Mo_context_17 (by decide) ?_
      exact aw_zret d_Mo_context_21 rfl ⟨by decide, by decide⟩ (hP _ (if_pos (by omega)).symm)
set_option maxHeartbeats 800000 in
set_option maxRecDepth 100000 in
theorem c_Mo_dsa0 {l : Launch} {G : a_G} {h : Hp} {I L : Nat → Int → Int} (S : Shp h) : AW l G M_Mo_dsa (Ret (fun _ : Nat → Int → Int => none) (fun K => sD h K L) (fun K => (∀ a j, a ≠ 203 → (a ≠ 175 ∨ j ≠ 26) → (a ≠ 175 ∨ j ≠ 32) → (a ≠ 175 ∨ j ≠ 33) → (a ≠ 175 ∨ j ≠ 34) → (a ≠ 175 ∨ j ≠ 35) → (a ≠ 175 ∨ j ≠ 36) → (a ≠ 175 ∨ j ≠ 37) → (a ≠ 175 ∨ j ≠ 38) → (a ≠ 175 ∨ j ≠ 39) → K a j = I a j) ∧ DsaR K 0 ∧ Pws K)) 0 (a_ar 0 [vr 175, vi 0]) [] (sD h I L) := by
  suffices key : ∀ P : a_R → Hp → Prop, (∀ K : Nat → Int → Int, (∀ a j, a ≠ 203 → (a ≠ 175 ∨ j ≠ 26) → (a ≠ 175 ∨ j ≠ 32) → (a ≠ 175 ∨ j ≠ 33) → (a ≠ 175 ∨ j ≠ 34) → (a ≠ 175 ∨ j ≠ 35) → (a ≠ 175 ∨ j ≠ 36) → (a ≠ 175 ∨ j ≠ 37) → (a ≠ 175 ∨ j ≠ 38) → (a ≠ 175 ∨ j ≠ 39) → K a j = I a j) → DsaR K 0 → Pws K → P (.inl none) (sD h K L)) → AW l G M_Mo_dsa P 0 [(0, vr 175), (1, vi 0)] [] (sD h I L) from key _ (fun K q1 q2 q3 => ⟨K, rfl, rfl, q1, q2, q3⟩)
  intro P hP
  refine aw_aload_n d_Mo_dsa_0 rfl rfl ?_
  refine aw_iload_n d_Mo_dsa_1 rfl rfl ?_
  refine aw_if_ne (tgt := 9) d_Mo_dsa_2 (by decide) (fun c_2 => False.elim (by omega)) (fun c_2 => ?_)
  refine aw_iconst d_Mo_dsa_5 ⟨by decide, by decide⟩ ?_
  refine aw_goto (tgt := 21) d_Mo_dsa_6 (by decide) ?_
  refine ax_putI d_Mo_dsa_21 fd_Mo_223 (k_175 S) (by decide) rfl ?_
  refine aw_aload_n d_Mo_dsa_24 rfl rfl ?_
  refine aw_iload_n d_Mo_dsa_25 rfl rfl ?_
  refine aw_if_ne (tgt := 33) d_Mo_dsa_26 (by decide) (fun c_26 => False.elim (by omega)) (fun c_26 => ?_)
  refine aw_iconst d_Mo_dsa_29 ⟨by decide, by decide⟩ ?_
  refine aw_goto (tgt := 44) d_Mo_dsa_30 (by decide) ?_
  refine ax_putI d_Mo_dsa_44 fd_Mo_226 (k_175 S) (by decide) rfl ?_
  refine aw_aload_n d_Mo_dsa_47 rfl rfl ?_
  refine aw_iload_n d_Mo_dsa_48 rfl rfl ?_
  refine aw_iconst d_Mo_dsa_49 ⟨by decide, by decide⟩ ?_
  refine aw_icmp_ne (tgt := 57) d_Mo_dsa_50 (by decide) (fun c_50 => ?_) (fun c_50 => False.elim (by omega))
  refine aw_iconst d_Mo_dsa_57 ⟨by decide, by decide⟩ ?_
  refine ax_putI d_Mo_dsa_58 fd_Mo_229 (k_175 S) (by decide) rfl ?_
  refine aw_aload_n d_Mo_dsa_61 rfl rfl ?_
  refine aw_iload_n d_Mo_dsa_62 rfl rfl ?_
  refine aw_if_ne (tgt := 71) d_Mo_dsa_63 (by decide) (fun c_63 => False.elim (by omega)) (fun c_63 => ?_)
  refine aw_bipush d_Mo_dsa_66 ⟨by decide, by decide⟩ (by decide) ?_
  refine aw_goto (tgt := 83) d_Mo_dsa_68 (by decide) ?_
  refine ax_putI d_Mo_dsa_83 fd_Mo_232 (k_175 S) (by decide) rfl ?_
  refine aw_aload_n d_Mo_dsa_86 rfl rfl ?_
  refine aw_iload_n d_Mo_dsa_87 rfl rfl ?_
  refine aw_if_ne (tgt := 96) d_Mo_dsa_88 (by decide) (fun c_88 => False.elim (by omega)) (fun c_88 => ?_)
  refine aw_ldc (n := 131072) d_Mo_dsa_91 lc_Mo_235 ⟨by decide, by decide⟩ ?_
  refine aw_goto (tgt := 98) d_Mo_dsa_93 (by decide) ?_
  refine ax_putI d_Mo_dsa_98 fd_Mo_237 (k_175 S) (by decide) rfl ?_
  refine aw_aload_n d_Mo_dsa_101 rfl rfl ?_
  refine aw_iload_n d_Mo_dsa_102 rfl rfl ?_
  refine aw_if_ne (tgt := 111) d_Mo_dsa_103 (by decide) (fun c_103 => False.elim (by omega)) (fun c_103 => ?_)
  refine aw_ldc (n := 95232) d_Mo_dsa_106 lc_Mo_240 ⟨by decide, by decide⟩ ?_
  refine aw_goto (tgt := 113) d_Mo_dsa_108 (by decide) ?_
  refine ax_putI d_Mo_dsa_113 fd_Mo_242 (k_175 S) (by decide) rfl ?_
  refine aw_aload_n d_Mo_dsa_116 rfl rfl ?_
  refine aw_iload_n d_Mo_dsa_117 rfl rfl ?_
  refine aw_if_ne (tgt := 126) d_Mo_dsa_118 (by decide) (fun c_118 => False.elim (by omega)) (fun c_118 => ?_)
  refine aw_bipush d_Mo_dsa_121 ⟨by decide, by decide⟩ (by decide) ?_
  refine aw_goto (tgt := 138) d_Mo_dsa_123 (by decide) ?_
  refine ax_putI d_Mo_dsa_138 fd_Mo_245 (k_175 S) (by decide) rfl ?_
  refine aw_aload_n d_Mo_dsa_141 rfl rfl ?_
  refine aw_bipush d_Mo_dsa_142 ⟨by decide, by decide⟩ (by decide) ?_
  refine aw_bipush d_Mo_dsa_144 ⟨by decide, by decide⟩ (by decide) ?_
  refine aw_iload_n d_Mo_dsa_146 rfl rfl ?_
  refine ax_imul d_Mo_dsa_147 ⟨(by omega), (by omega)⟩ ?_
  refine ax_ti (x := 0) (by decide) ?_
  refine ax_iadd d_Mo_dsa_148 ⟨(by omega), (by omega)⟩ ?_
  refine ax_ti (x := 32) (by decide) ?_
  refine ax_putI d_Mo_dsa_149 fd_Mo_248 (k_175 S) (by decide) rfl ?_
  refine aw_aload_n d_Mo_dsa_152 rfl rfl ?_
  refine aw_iload_n d_Mo_dsa_153 rfl rfl ?_
  refine aw_if_ne (tgt := 162) d_Mo_dsa_154 (by decide) (fun c_154 => False.elim (by omega)) (fun c_154 => ?_)
  refine aw_bipush d_Mo_dsa_157 ⟨by decide, by decide⟩ (by decide) ?_
  refine aw_goto (tgt := 164) d_Mo_dsa_159 (by decide) ?_
  refine ax_putI d_Mo_dsa_164 fd_Mo_251 (k_175 S) (by decide) rfl ?_
  refine aw_aload_n d_Mo_dsa_167 rfl rfl ?_
  refine ax_getR (b := 203) d_Mo_dsa_168 fd_Mo_71 (k_175 S) (r_175_27 S) ?_
  refine aw_iconst d_Mo_dsa_171 ⟨by decide, by decide⟩ ?_
  refine aw_iconst d_Mo_dsa_172 ⟨by decide, by decide⟩ ?_
  refine ax_iast d_Mo_dsa_173 (k_203 S) (by decide) (by omega) (by rw [n_203 S]; omega) ?_
  refine aw_iconst d_Mo_dsa_174 ⟨by decide, by decide⟩ ?_
  refine aw_istore_n (lv' := [(2, vi 1), (0, vr 175), (1, vi 0)]) d_Mo_dsa_175 rfl (by decide) rfl ?_
  have lp_176 : ∀ (n_ : Nat) (i : Int) (K : Nat → Int → Int), (1 ≤ i ∧ i ≤ 512) → (∀ a j, a ≠ 203 → K a j = (a_up (a_up (a_up (a_up (a_up (a_up (a_up (a_up (a_up I 175 26 4) 175 32 4) 175 33 2) 175 34 39) 175 35 131072) 175 36 95232) 175 37 80) 175 38 32) 175 39 18) a j) → (∀ j, 0 ≤ j → j < i → K 203 j = pw j.toNat) → ((512 - i).toNat) = n_ → AW l G M_Mo_dsa P 176 [(2, vi i), (1, vi 0), (0, vr 175)] [] (sD h K L) := by
    intro n_
    induction n_ using Nat.strongRecOn with
    | _ n_ ih_176 =>
    intro i K hi f1 g1 hm_176
    refine aw_iload_n d_Mo_dsa_176 rfl rfl ?_
    refine aw_sipush d_Mo_dsa_177 ⟨by decide, by decide⟩ (by decide) ?_
    refine aw_icmp_ge (tgt := 213) d_Mo_dsa_180 (by decide) (fun c_180 => ?_) (fun c_180 => ?_)
    · skip
      exact aw_vret d_Mo_dsa_213 rfl (hP K (fun a j h203 z26 z32 z33 z34 z35 z36 z37 z38 z39 => by rw [f1 a j h203, a_up_ne (by rcases z39 with z | z; exact Or.inl z; exact Or.inr z), a_up_ne (by rcases z38 with z | z; exact Or.inl z; exact Or.inr z), a_up_ne (by rcases z37 with z | z; exact Or.inl z; exact Or.inr z), a_up_ne (by rcases z36 with z | z; exact Or.inl z; exact Or.inr z), a_up_ne (by rcases z35 with z | z; exact Or.inl z; exact Or.inr z), a_up_ne (by rcases z34 with z | z; exact Or.inl z; exact Or.inr z), a_up_ne (by rcases z33 with z | z; exact Or.inl z; exact Or.inr z), a_up_ne (by rcases z32 with z | z; exact Or.inl z; exact Or.inr z), a_up_ne (by rcases z26 with z | z; exact Or.inl z; exact Or.inr z)]) ⟨by rw [f1 _ _ (by decide), a_up_ne (Or.inr (by decide)), a_up_ne (Or.inr (by decide)), a_up_ne (Or.inr (by decide)), a_up_ne (Or.inr (by decide)), a_up_ne (Or.inr (by decide)), a_up_ne (Or.inr (by decide)), a_up_ne (Or.inr (by decide)), a_up_ne (Or.inr (by decide)), a_up_at]; rfl, by rw [f1 _ _ (by decide), a_up_ne (Or.inr (by decide)), a_up_ne (Or.inr (by decide)), a_up_ne (Or.inr (by decide)), a_up_ne (Or.inr (by decide)), a_up_ne (Or.inr (by decide)), a_up_ne (Or.inr (by decide)), a_up_ne (Or.inr (by decide)), a_up_at]; rfl, by rw [f1 _ _ (by decide), a_up_ne (Or.inr (by decide)), a_up_ne (Or.inr (by decide)), a_up_ne (Or.inr (by decide)), a_up_ne (Or.inr (by decide)), a_up_ne (Or.inr (by decide)), a_up_ne (Or.inr (by decide)), a_up_at]; rfl, by rw [f1 _ _ (by decide), a_up_ne (Or.inr (by decide)), a_up_ne (Or.inr (by decide)), a_up_ne (Or.inr (by decide)), a_up_ne (Or.inr (by decide)), a_up_ne (Or.inr (by decide)), a_up_at]; rfl, by rw [f1 _ _ (by decide), a_up_ne (Or.inr (by decide)), a_up_ne (Or.inr (by decide)), a_up_ne (Or.inr (by decide)), a_up_ne (Or.inr (by decide)), a_up_at]; rfl, by rw [f1 _ _ (by decide), a_up_ne (Or.inr (by decide)), a_up_ne (Or.inr (by decide)), a_up_ne (Or.inr (by decide)), a_up_at]; rfl, by rw [f1 _ _ (by decide), a_up_ne (Or.inr (by decide)), a_up_ne (Or.inr (by decide)), a_up_at]; rfl, by rw [f1 _ _ (by decide), a_up_ne (Or.inr (by decide)), a_up_at]; rfl, by rw [f1 _ _ (by decide), a_up_at]; rfl⟩ (fun j x y => g1 j x (by omega)))
    · skip
      have p_ := pw_in (i - 1).toNat
      refine aw_aload_n d_Mo_dsa_183 rfl rfl ?_
      refine ax_getR (b := 203) d_Mo_dsa_184 fd_Mo_71 (k_175 S) (r_175_27 S) ?_
      refine aw_iload_n d_Mo_dsa_187 rfl rfl ?_
      refine aw_aload_n d_Mo_dsa_188 rfl rfl ?_
      refine ax_getR (b := 203) d_Mo_dsa_189 fd_Mo_71 (k_175 S) (r_175_27 S) ?_
      refine aw_iload_n d_Mo_dsa_192 rfl rfl ?_
      refine aw_iconst d_Mo_dsa_193 ⟨by decide, by decide⟩ ?_
      refine ax_isub d_Mo_dsa_194 ⟨(by omega), (by omega)⟩ ?_
      refine ax_ialde (x := pw (i - 1).toNat) d_Mo_dsa_195 (k_203 S) (by omega) (by rw [n_203 S]; omega) (g1 _ (by omega) (by omega)) ?_
      refine aw_i2l d_Mo_dsa_196 ?_
      refine aw_ldc2 (n := 1753) d_Mo_dsa_197 lc_Mo_254 ⟨by decide, by decide⟩ ?_
      refine ax_lmul d_Mo_dsa_200 ⟨(by omega), (by omega)⟩ ?_
      refine aw_ldc2 (n := 8380417) d_Mo_dsa_201 lc_Mo_256 ⟨by decide, by decide⟩ ?_
      refine ax_lrem d_Mo_dsa_204 (by omega) (by omega) ?_
      refine ax_l2i d_Mo_dsa_205 ⟨(by omega), (by omega)⟩ ?_
      refine ax_iast d_Mo_dsa_206 (k_203 S) (by decide) (by omega) (by rw [n_203 S]; omega) ?_
      refine ax_iinc (lv' := [(2, vi (i + 1)), (1, vi 0), (0, vr 175)]) d_Mo_dsa_207 rfl (by decide) ⟨(by omega), (by omega)⟩ rfl ?_
      refine aw_goto (tgt := 176) d_Mo_dsa_210 (by decide) ?_
      exact ih_176 _ (by omega) (i + 1) (a_up K 203 i (((pw (i - 1).toNat) * 1753) % 8380417)) (by omega) (up_frame f1) (pw_step (by omega) g1 hi.1) rfl
  refine aw_sub (lv' := [(2, vi 1), (1, vi 0), (0, vr 175)]) (by simp) ?_
  exact lp_176 _ 1 (a_up (a_up (a_up (a_up (a_up (a_up (a_up (a_up (a_up (a_up I 175 26 4) 175 32 4) 175 33 2) 175 34 39) 175 35 131072) 175 36 95232) 175 37 80) 175 38 32) 175 39 18) 203 0 1) (by omega) (fun a j ha => a_up_ne (Or.inl ha)) (fun j x y => by rw [show j = 0 by omega, a_up_at]; rfl) rfl
set_option maxHeartbeats 800000 in
set_option maxRecDepth 100000 in
theorem c_Mo_dsa1 {l : Launch} {G : a_G} {h : Hp} {I L : Nat → Int → Int} (S : Shp h) : AW l G M_Mo_dsa (Ret (fun _ : Nat → Int → Int => none) (fun K => sD h K L) (fun K => (∀ a j, a ≠ 203 → (a ≠ 175 ∨ j ≠ 26) → (a ≠ 175 ∨ j ≠ 32) → (a ≠ 175 ∨ j ≠ 33) → (a ≠ 175 ∨ j ≠ 34) → (a ≠ 175 ∨ j ≠ 35) → (a ≠ 175 ∨ j ≠ 36) → (a ≠ 175 ∨ j ≠ 37) → (a ≠ 175 ∨ j ≠ 38) → (a ≠ 175 ∨ j ≠ 39) → K a j = I a j) ∧ DsaR K 1 ∧ Pws K)) 0 (a_ar 0 [vr 175, vi 1]) [] (sD h I L) := by
  suffices key : ∀ P : a_R → Hp → Prop, (∀ K : Nat → Int → Int, (∀ a j, a ≠ 203 → (a ≠ 175 ∨ j ≠ 26) → (a ≠ 175 ∨ j ≠ 32) → (a ≠ 175 ∨ j ≠ 33) → (a ≠ 175 ∨ j ≠ 34) → (a ≠ 175 ∨ j ≠ 35) → (a ≠ 175 ∨ j ≠ 36) → (a ≠ 175 ∨ j ≠ 37) → (a ≠ 175 ∨ j ≠ 38) → (a ≠ 175 ∨ j ≠ 39) → K a j = I a j) → DsaR K 1 → Pws K → P (.inl none) (sD h K L)) → AW l G M_Mo_dsa P 0 [(0, vr 175), (1, vi 1)] [] (sD h I L) from key _ (fun K q1 q2 q3 => ⟨K, rfl, rfl, q1, q2, q3⟩)
  intro P hP
  refine aw_aload_n d_Mo_dsa_0 rfl rfl ?_
  refine aw_iload_n d_Mo_dsa_1 rfl rfl ?_
  refine aw_if_ne (tgt := 9) d_Mo_dsa_2 (by decide) (fun c_2 => ?_) (fun c_2 => False.elim (by omega))
  refine aw_iload_n d_Mo_dsa_9 rfl rfl ?_
  refine aw_iconst d_Mo_dsa_10 ⟨by decide, by decide⟩ ?_
  refine aw_icmp_ne (tgt := 19) d_Mo_dsa_11 (by decide) (fun c_11 => False.elim (by omega)) (fun c_11 => ?_)
  refine aw_bipush d_Mo_dsa_14 ⟨by decide, by decide⟩ (by decide) ?_
  refine aw_goto (tgt := 21) d_Mo_dsa_16 (by decide) ?_
  refine ax_putI d_Mo_dsa_21 fd_Mo_223 (k_175 S) (by decide) rfl ?_
  refine aw_aload_n d_Mo_dsa_24 rfl rfl ?_
  refine aw_iload_n d_Mo_dsa_25 rfl rfl ?_
  refine aw_if_ne (tgt := 33) d_Mo_dsa_26 (by decide) (fun c_26 => ?_) (fun c_26 => False.elim (by omega))
  refine aw_iload_n d_Mo_dsa_33 rfl rfl ?_
  refine aw_iconst d_Mo_dsa_34 ⟨by decide, by decide⟩ ?_
  refine aw_icmp_ne (tgt := 42) d_Mo_dsa_35 (by decide) (fun c_35 => False.elim (by omega)) (fun c_35 => ?_)
  refine aw_iconst d_Mo_dsa_38 ⟨by decide, by decide⟩ ?_
  refine aw_goto (tgt := 44) d_Mo_dsa_39 (by decide) ?_
  refine ax_putI d_Mo_dsa_44 fd_Mo_226 (k_175 S) (by decide) rfl ?_
  refine aw_aload_n d_Mo_dsa_47 rfl rfl ?_
  refine aw_iload_n d_Mo_dsa_48 rfl rfl ?_
  refine aw_iconst d_Mo_dsa_49 ⟨by decide, by decide⟩ ?_
  refine aw_icmp_ne (tgt := 57) d_Mo_dsa_50 (by decide) (fun c_50 => False.elim (by omega)) (fun c_50 => ?_)
  refine aw_iconst d_Mo_dsa_53 ⟨by decide, by decide⟩ ?_
  refine aw_goto (tgt := 58) d_Mo_dsa_54 (by decide) ?_
  refine ax_putI d_Mo_dsa_58 fd_Mo_229 (k_175 S) (by decide) rfl ?_
  refine aw_aload_n d_Mo_dsa_61 rfl rfl ?_
  refine aw_iload_n d_Mo_dsa_62 rfl rfl ?_
  refine aw_if_ne (tgt := 71) d_Mo_dsa_63 (by decide) (fun c_63 => ?_) (fun c_63 => False.elim (by omega))
  refine aw_iload_n d_Mo_dsa_71 rfl rfl ?_
  refine aw_iconst d_Mo_dsa_72 ⟨by decide, by decide⟩ ?_
  refine aw_icmp_ne (tgt := 81) d_Mo_dsa_73 (by decide) (fun c_73 => False.elim (by omega)) (fun c_73 => ?_)
  refine aw_bipush d_Mo_dsa_76 ⟨by decide, by decide⟩ (by decide) ?_
  refine aw_goto (tgt := 83) d_Mo_dsa_78 (by decide) ?_
  refine ax_putI d_Mo_dsa_83 fd_Mo_232 (k_175 S) (by decide) rfl ?_
  refine aw_aload_n d_Mo_dsa_86 rfl rfl ?_
  refine aw_iload_n d_Mo_dsa_87 rfl rfl ?_
  refine aw_if_ne (tgt := 96) d_Mo_dsa_88 (by decide) (fun c_88 => ?_) (fun c_88 => False.elim (by omega))
  refine aw_ldc (n := 524288) d_Mo_dsa_96 lc_Mo_236 ⟨by decide, by decide⟩ ?_
  refine ax_putI d_Mo_dsa_98 fd_Mo_237 (k_175 S) (by decide) rfl ?_
  refine aw_aload_n d_Mo_dsa_101 rfl rfl ?_
  refine aw_iload_n d_Mo_dsa_102 rfl rfl ?_
  refine aw_if_ne (tgt := 111) d_Mo_dsa_103 (by decide) (fun c_103 => ?_) (fun c_103 => False.elim (by omega))
  refine aw_ldc (n := 261888) d_Mo_dsa_111 lc_Mo_241 ⟨by decide, by decide⟩ ?_
  refine ax_putI d_Mo_dsa_113 fd_Mo_242 (k_175 S) (by decide) rfl ?_
  refine aw_aload_n d_Mo_dsa_116 rfl rfl ?_
  refine aw_iload_n d_Mo_dsa_117 rfl rfl ?_
  refine aw_if_ne (tgt := 126) d_Mo_dsa_118 (by decide) (fun c_118 => ?_) (fun c_118 => False.elim (by omega))
  refine aw_iload_n d_Mo_dsa_126 rfl rfl ?_
  refine aw_iconst d_Mo_dsa_127 ⟨by decide, by decide⟩ ?_
  refine aw_icmp_ne (tgt := 136) d_Mo_dsa_128 (by decide) (fun c_128 => False.elim (by omega)) (fun c_128 => ?_)
  refine aw_bipush d_Mo_dsa_131 ⟨by decide, by decide⟩ (by decide) ?_
  refine aw_goto (tgt := 138) d_Mo_dsa_133 (by decide) ?_
  refine ax_putI d_Mo_dsa_138 fd_Mo_245 (k_175 S) (by decide) rfl ?_
  refine aw_aload_n d_Mo_dsa_141 rfl rfl ?_
  refine aw_bipush d_Mo_dsa_142 ⟨by decide, by decide⟩ (by decide) ?_
  refine aw_bipush d_Mo_dsa_144 ⟨by decide, by decide⟩ (by decide) ?_
  refine aw_iload_n d_Mo_dsa_146 rfl rfl ?_
  refine ax_imul d_Mo_dsa_147 ⟨(by omega), (by omega)⟩ ?_
  refine ax_ti (x := 16) (by decide) ?_
  refine ax_iadd d_Mo_dsa_148 ⟨(by omega), (by omega)⟩ ?_
  refine ax_ti (x := 48) (by decide) ?_
  refine ax_putI d_Mo_dsa_149 fd_Mo_248 (k_175 S) (by decide) rfl ?_
  refine aw_aload_n d_Mo_dsa_152 rfl rfl ?_
  refine aw_iload_n d_Mo_dsa_153 rfl rfl ?_
  refine aw_if_ne (tgt := 162) d_Mo_dsa_154 (by decide) (fun c_154 => ?_) (fun c_154 => False.elim (by omega))
  refine aw_bipush d_Mo_dsa_162 ⟨by decide, by decide⟩ (by decide) ?_
  refine ax_putI d_Mo_dsa_164 fd_Mo_251 (k_175 S) (by decide) rfl ?_
  refine aw_aload_n d_Mo_dsa_167 rfl rfl ?_
  refine ax_getR (b := 203) d_Mo_dsa_168 fd_Mo_71 (k_175 S) (r_175_27 S) ?_
  refine aw_iconst d_Mo_dsa_171 ⟨by decide, by decide⟩ ?_
  refine aw_iconst d_Mo_dsa_172 ⟨by decide, by decide⟩ ?_
  refine ax_iast d_Mo_dsa_173 (k_203 S) (by decide) (by omega) (by rw [n_203 S]; omega) ?_
  refine aw_iconst d_Mo_dsa_174 ⟨by decide, by decide⟩ ?_
  refine aw_istore_n (lv' := [(2, vi 1), (0, vr 175), (1, vi 1)]) d_Mo_dsa_175 rfl (by decide) rfl ?_
  have lp_176 : ∀ (n_ : Nat) (i : Int) (K : Nat → Int → Int), (1 ≤ i ∧ i ≤ 512) → (∀ a j, a ≠ 203 → K a j = (a_up (a_up (a_up (a_up (a_up (a_up (a_up (a_up (a_up I 175 26 6) 175 32 5) 175 33 4) 175 34 49) 175 35 524288) 175 36 261888) 175 37 55) 175 38 48) 175 39 20) a j) → (∀ j, 0 ≤ j → j < i → K 203 j = pw j.toNat) → ((512 - i).toNat) = n_ → AW l G M_Mo_dsa P 176 [(2, vi i), (1, vi 1), (0, vr 175)] [] (sD h K L) := by
    intro n_
    induction n_ using Nat.strongRecOn with
    | _ n_ ih_176 =>
    intro i K hi f1 g1 hm_176
    refine aw_iload_n d_Mo_dsa_176 rfl rfl ?_
    refine aw_sipush d_Mo_dsa_177 ⟨by decide, by decide⟩ (by decide) ?_
    refine aw_icmp_ge (tgt := 213) d_Mo_dsa_180 (by decide) (fun c_180 => ?_) (fun c_180 => ?_)
    · skip
      exact aw_vret d_Mo_dsa_213 rfl (hP K (fun a j h203 z26 z32 z33 z34 z35 z36 z37 z38 z39 => by rw [f1 a j h203, a_up_ne (by rcases z39 with z | z; exact Or.inl z; exact Or.inr z), a_up_ne (by rcases z38 with z | z; exact Or.inl z; exact Or.inr z), a_up_ne (by rcases z37 with z | z; exact Or.inl z; exact Or.inr z), a_up_ne (by rcases z36 with z | z; exact Or.inl z; exact Or.inr z), a_up_ne (by rcases z35 with z | z; exact Or.inl z; exact Or.inr z), a_up_ne (by rcases z34 with z | z; exact Or.inl z; exact Or.inr z), a_up_ne (by rcases z33 with z | z; exact Or.inl z; exact Or.inr z), a_up_ne (by rcases z32 with z | z; exact Or.inl z; exact Or.inr z), a_up_ne (by rcases z26 with z | z; exact Or.inl z; exact Or.inr z)]) ⟨by rw [f1 _ _ (by decide), a_up_ne (Or.inr (by decide)), a_up_ne (Or.inr (by decide)), a_up_ne (Or.inr (by decide)), a_up_ne (Or.inr (by decide)), a_up_ne (Or.inr (by decide)), a_up_ne (Or.inr (by decide)), a_up_ne (Or.inr (by decide)), a_up_ne (Or.inr (by decide)), a_up_at]; rfl, by rw [f1 _ _ (by decide), a_up_ne (Or.inr (by decide)), a_up_ne (Or.inr (by decide)), a_up_ne (Or.inr (by decide)), a_up_ne (Or.inr (by decide)), a_up_ne (Or.inr (by decide)), a_up_ne (Or.inr (by decide)), a_up_ne (Or.inr (by decide)), a_up_at]; rfl, by rw [f1 _ _ (by decide), a_up_ne (Or.inr (by decide)), a_up_ne (Or.inr (by decide)), a_up_ne (Or.inr (by decide)), a_up_ne (Or.inr (by decide)), a_up_ne (Or.inr (by decide)), a_up_ne (Or.inr (by decide)), a_up_at]; rfl, by rw [f1 _ _ (by decide), a_up_ne (Or.inr (by decide)), a_up_ne (Or.inr (by decide)), a_up_ne (Or.inr (by decide)), a_up_ne (Or.inr (by decide)), a_up_ne (Or.inr (by decide)), a_up_at]; rfl, by rw [f1 _ _ (by decide), a_up_ne (Or.inr (by decide)), a_up_ne (Or.inr (by decide)), a_up_ne (Or.inr (by decide)), a_up_ne (Or.inr (by decide)), a_up_at]; rfl, by rw [f1 _ _ (by decide), a_up_ne (Or.inr (by decide)), a_up_ne (Or.inr (by decide)), a_up_ne (Or.inr (by decide)), a_up_at]; rfl, by rw [f1 _ _ (by decide), a_up_ne (Or.inr (by decide)), a_up_ne (Or.inr (by decide)), a_up_at]; rfl, by rw [f1 _ _ (by decide), a_up_ne (Or.inr (by decide)), a_up_at]; rfl, by rw [f1 _ _ (by decide), a_up_at]; rfl⟩ (fun j x y => g1 j x (by omega)))
    · skip
      have p_ := pw_in (i - 1).toNat
      refine aw_aload_n d_Mo_dsa_183 rfl rfl ?_
      refine ax_getR (b := 203) d_Mo_dsa_184 fd_Mo_71 (k_175 S) (r_175_27 S) ?_
      refine aw_iload_n d_Mo_dsa_187 rfl rfl ?_
      refine aw_aload_n d_Mo_dsa_188 rfl rfl ?_
      refine ax_getR (b := 203) d_Mo_dsa_189 fd_Mo_71 (k_175 S) (r_175_27 S) ?_
      refine aw_iload_n d_Mo_dsa_192 rfl rfl ?_
      refine aw_iconst d_Mo_dsa_193 ⟨by decide, by decide⟩ ?_
      refine ax_isub d_Mo_dsa_194 ⟨(by omega), (by omega)⟩ ?_
      refine ax_ialde (x := pw (i - 1).toNat) d_Mo_dsa_195 (k_203 S) (by omega) (by rw [n_203 S]; omega) (g1 _ (by omega) (by omega)) ?_
      refine aw_i2l d_Mo_dsa_196 ?_
      refine aw_ldc2 (n := 1753) d_Mo_dsa_197 lc_Mo_254 ⟨by decide, by decide⟩ ?_
      refine ax_lmul d_Mo_dsa_200 ⟨(by omega), (by omega)⟩ ?_
      refine aw_ldc2 (n := 8380417) d_Mo_dsa_201 lc_Mo_256 ⟨by decide, by decide⟩ ?_
      refine ax_lrem d_Mo_dsa_204 (by omega) (by omega) ?_
      refine ax_l2i d_Mo_dsa_205 ⟨(by omega), (by omega)⟩ ?_
      refine ax_iast d_Mo_dsa_206 (k_203 S) (by decide) (by omega) (by rw [n_203 S]; omega) ?_
      refine ax_iinc (lv' := [(2, vi (i + 1)), (1, vi 1), (0, vr 175)]) d_Mo_dsa_207 rfl (by decide) ⟨(by omega), (by omega)⟩ rfl ?_
      refine aw_goto (tgt := 176) d_Mo_dsa_210 (by decide) ?_
      exact ih_176 _ (by omega) (i + 1) (a_up K 203 i (((pw (i - 1).toNat) * 1753) % 8380417)) (by omega) (up_frame f1) (pw_step (by omega) g1 hi.1) rfl
  refine aw_sub (lv' := [(2, vi 1), (1, vi 1), (0, vr 175)]) (by simp) ?_
  exact lp_176 _ 1 (a_up (a_up (a_up (a_up (a_up (a_up (a_up (a_up (a_up (a_up I 175 26 6) 175 32 5) 175 33 4) 175 34 49) 175 35 524288) 175 36 261888) 175 37 55) 175 38 48) 175 39 20) 203 0 1) (by omega) (fun a j ha => a_up_ne (Or.inl ha)) (fun j x y => by rw [show j = 0 by omega, a_up_at]; rfl) rfl
set_option maxHeartbeats 800000 in
set_option maxRecDepth 100000 in
theorem c_Mo_dsa2 {l : Launch} {G : a_G} {h : Hp} {I L : Nat → Int → Int} (S : Shp h) : AW l G M_Mo_dsa (Ret (fun _ : Nat → Int → Int => none) (fun K => sD h K L) (fun K => (∀ a j, a ≠ 203 → (a ≠ 175 ∨ j ≠ 26) → (a ≠ 175 ∨ j ≠ 32) → (a ≠ 175 ∨ j ≠ 33) → (a ≠ 175 ∨ j ≠ 34) → (a ≠ 175 ∨ j ≠ 35) → (a ≠ 175 ∨ j ≠ 36) → (a ≠ 175 ∨ j ≠ 37) → (a ≠ 175 ∨ j ≠ 38) → (a ≠ 175 ∨ j ≠ 39) → K a j = I a j) ∧ DsaR K 2 ∧ Pws K)) 0 (a_ar 0 [vr 175, vi 2]) [] (sD h I L) := by
  suffices key : ∀ P : a_R → Hp → Prop, (∀ K : Nat → Int → Int, (∀ a j, a ≠ 203 → (a ≠ 175 ∨ j ≠ 26) → (a ≠ 175 ∨ j ≠ 32) → (a ≠ 175 ∨ j ≠ 33) → (a ≠ 175 ∨ j ≠ 34) → (a ≠ 175 ∨ j ≠ 35) → (a ≠ 175 ∨ j ≠ 36) → (a ≠ 175 ∨ j ≠ 37) → (a ≠ 175 ∨ j ≠ 38) → (a ≠ 175 ∨ j ≠ 39) → K a j = I a j) → DsaR K 2 → Pws K → P (.inl none) (sD h K L)) → AW l G M_Mo_dsa P 0 [(0, vr 175), (1, vi 2)] [] (sD h I L) from key _ (fun K q1 q2 q3 => ⟨K, rfl, rfl, q1, q2, q3⟩)
  intro P hP
  refine aw_aload_n d_Mo_dsa_0 rfl rfl ?_
  refine aw_iload_n d_Mo_dsa_1 rfl rfl ?_
  refine aw_if_ne (tgt := 9) d_Mo_dsa_2 (by decide) (fun c_2 => ?_) (fun c_2 => False.elim (by omega))
  refine aw_iload_n d_Mo_dsa_9 rfl rfl ?_
  refine aw_iconst d_Mo_dsa_10 ⟨by decide, by decide⟩ ?_
  refine aw_icmp_ne (tgt := 19) d_Mo_dsa_11 (by decide) (fun c_11 => ?_) (fun c_11 => False.elim (by omega))
  refine aw_bipush d_Mo_dsa_19 ⟨by decide, by decide⟩ (by decide) ?_
  refine ax_putI d_Mo_dsa_21 fd_Mo_223 (k_175 S) (by decide) rfl ?_
  refine aw_aload_n d_Mo_dsa_24 rfl rfl ?_
  refine aw_iload_n d_Mo_dsa_25 rfl rfl ?_
  refine aw_if_ne (tgt := 33) d_Mo_dsa_26 (by decide) (fun c_26 => ?_) (fun c_26 => False.elim (by omega))
  refine aw_iload_n d_Mo_dsa_33 rfl rfl ?_
  refine aw_iconst d_Mo_dsa_34 ⟨by decide, by decide⟩ ?_
  refine aw_icmp_ne (tgt := 42) d_Mo_dsa_35 (by decide) (fun c_35 => ?_) (fun c_35 => False.elim (by omega))
  refine aw_bipush d_Mo_dsa_42 ⟨by decide, by decide⟩ (by decide) ?_
  refine ax_putI d_Mo_dsa_44 fd_Mo_226 (k_175 S) (by decide) rfl ?_
  refine aw_aload_n d_Mo_dsa_47 rfl rfl ?_
  refine aw_iload_n d_Mo_dsa_48 rfl rfl ?_
  refine aw_iconst d_Mo_dsa_49 ⟨by decide, by decide⟩ ?_
  refine aw_icmp_ne (tgt := 57) d_Mo_dsa_50 (by decide) (fun c_50 => ?_) (fun c_50 => False.elim (by omega))
  refine aw_iconst d_Mo_dsa_57 ⟨by decide, by decide⟩ ?_
  refine ax_putI d_Mo_dsa_58 fd_Mo_229 (k_175 S) (by decide) rfl ?_
  refine aw_aload_n d_Mo_dsa_61 rfl rfl ?_
  refine aw_iload_n d_Mo_dsa_62 rfl rfl ?_
  refine aw_if_ne (tgt := 71) d_Mo_dsa_63 (by decide) (fun c_63 => ?_) (fun c_63 => False.elim (by omega))
  refine aw_iload_n d_Mo_dsa_71 rfl rfl ?_
  refine aw_iconst d_Mo_dsa_72 ⟨by decide, by decide⟩ ?_
  refine aw_icmp_ne (tgt := 81) d_Mo_dsa_73 (by decide) (fun c_73 => ?_) (fun c_73 => False.elim (by omega))
  refine aw_bipush d_Mo_dsa_81 ⟨by decide, by decide⟩ (by decide) ?_
  refine ax_putI d_Mo_dsa_83 fd_Mo_232 (k_175 S) (by decide) rfl ?_
  refine aw_aload_n d_Mo_dsa_86 rfl rfl ?_
  refine aw_iload_n d_Mo_dsa_87 rfl rfl ?_
  refine aw_if_ne (tgt := 96) d_Mo_dsa_88 (by decide) (fun c_88 => ?_) (fun c_88 => False.elim (by omega))
  refine aw_ldc (n := 524288) d_Mo_dsa_96 lc_Mo_236 ⟨by decide, by decide⟩ ?_
  refine ax_putI d_Mo_dsa_98 fd_Mo_237 (k_175 S) (by decide) rfl ?_
  refine aw_aload_n d_Mo_dsa_101 rfl rfl ?_
  refine aw_iload_n d_Mo_dsa_102 rfl rfl ?_
  refine aw_if_ne (tgt := 111) d_Mo_dsa_103 (by decide) (fun c_103 => ?_) (fun c_103 => False.elim (by omega))
  refine aw_ldc (n := 261888) d_Mo_dsa_111 lc_Mo_241 ⟨by decide, by decide⟩ ?_
  refine ax_putI d_Mo_dsa_113 fd_Mo_242 (k_175 S) (by decide) rfl ?_
  refine aw_aload_n d_Mo_dsa_116 rfl rfl ?_
  refine aw_iload_n d_Mo_dsa_117 rfl rfl ?_
  refine aw_if_ne (tgt := 126) d_Mo_dsa_118 (by decide) (fun c_118 => ?_) (fun c_118 => False.elim (by omega))
  refine aw_iload_n d_Mo_dsa_126 rfl rfl ?_
  refine aw_iconst d_Mo_dsa_127 ⟨by decide, by decide⟩ ?_
  refine aw_icmp_ne (tgt := 136) d_Mo_dsa_128 (by decide) (fun c_128 => ?_) (fun c_128 => False.elim (by omega))
  refine aw_bipush d_Mo_dsa_136 ⟨by decide, by decide⟩ (by decide) ?_
  refine ax_putI d_Mo_dsa_138 fd_Mo_245 (k_175 S) (by decide) rfl ?_
  refine aw_aload_n d_Mo_dsa_141 rfl rfl ?_
  refine aw_bipush d_Mo_dsa_142 ⟨by decide, by decide⟩ (by decide) ?_
  refine aw_bipush d_Mo_dsa_144 ⟨by decide, by decide⟩ (by decide) ?_
  refine aw_iload_n d_Mo_dsa_146 rfl rfl ?_
  refine ax_imul d_Mo_dsa_147 ⟨(by omega), (by omega)⟩ ?_
  refine ax_ti (x := 32) (by decide) ?_
  refine ax_iadd d_Mo_dsa_148 ⟨(by omega), (by omega)⟩ ?_
  refine ax_ti (x := 64) (by decide) ?_
  refine ax_putI d_Mo_dsa_149 fd_Mo_248 (k_175 S) (by decide) rfl ?_
  refine aw_aload_n d_Mo_dsa_152 rfl rfl ?_
  refine aw_iload_n d_Mo_dsa_153 rfl rfl ?_
  refine aw_if_ne (tgt := 162) d_Mo_dsa_154 (by decide) (fun c_154 => ?_) (fun c_154 => False.elim (by omega))
  refine aw_bipush d_Mo_dsa_162 ⟨by decide, by decide⟩ (by decide) ?_
  refine ax_putI d_Mo_dsa_164 fd_Mo_251 (k_175 S) (by decide) rfl ?_
  refine aw_aload_n d_Mo_dsa_167 rfl rfl ?_
  refine ax_getR (b := 203) d_Mo_dsa_168 fd_Mo_71 (k_175 S) (r_175_27 S) ?_
  refine aw_iconst d_Mo_dsa_171 ⟨by decide, by decide⟩ ?_
  refine aw_iconst d_Mo_dsa_172 ⟨by decide, by decide⟩ ?_
  refine ax_iast d_Mo_dsa_173 (k_203 S) (by decide) (by omega) (by rw [n_203 S]; omega) ?_
  refine aw_iconst d_Mo_dsa_174 ⟨by decide, by decide⟩ ?_
  refine aw_istore_n (lv' := [(2, vi 1), (0, vr 175), (1, vi 2)]) d_Mo_dsa_175 rfl (by decide) rfl ?_
  have lp_176 : ∀ (n_ : Nat) (i : Int) (K : Nat → Int → Int), (1 ≤ i ∧ i ≤ 512) → (∀ a j, a ≠ 203 → K a j = (a_up (a_up (a_up (a_up (a_up (a_up (a_up (a_up (a_up I 175 26 8) 175 32 7) 175 33 2) 175 34 60) 175 35 524288) 175 36 261888) 175 37 75) 175 38 64) 175 39 20) a j) → (∀ j, 0 ≤ j → j < i → K 203 j = pw j.toNat) → ((512 - i).toNat) = n_ → AW l G M_Mo_dsa P 176 [(2, vi i), (1, vi 2), (0, vr 175)] [] (sD h K L) := by
    intro n_
    induction n_ using Nat.strongRecOn with
    | _ n_ ih_176 =>
    intro i K hi f1 g1 hm_176
    refine aw_iload_n d_Mo_dsa_176 rfl rfl ?_
    refine aw_sipush d_Mo_dsa_177 ⟨by decide, by decide⟩ (by decide) ?_
    refine aw_icmp_ge (tgt := 213) d_Mo_dsa_180 (by decide) (fun c_180 => ?_) (fun c_180 => ?_)
    · skip
      exact aw_vret d_Mo_dsa_213 rfl (hP K (fun a j h203 z26 z32 z33 z34 z35 z36 z37 z38 z39 => by rw [f1 a j h203, a_up_ne (by rcases z39 with z | z; exact Or.inl z; exact Or.inr z), a_up_ne (by rcases z38 with z | z; exact Or.inl z; exact Or.inr z), a_up_ne (by rcases z37 with z | z; exact Or.inl z; exact Or.inr z), a_up_ne (by rcases z36 with z | z; exact Or.inl z; exact Or.inr z), a_up_ne (by rcases z35 with z | z; exact Or.inl z; exact Or.inr z), a_up_ne (by rcases z34 with z | z; exact Or.inl z; exact Or.inr z), a_up_ne (by rcases z33 with z | z; exact Or.inl z; exact Or.inr z), a_up_ne (by rcases z32 with z | z; exact Or.inl z; exact Or.inr z), a_up_ne (by rcases z26 with z | z; exact Or.inl z; exact Or.inr z)]) ⟨by rw [f1 _ _ (by decide), a_up_ne (Or.inr (by decide)), a_up_ne (Or.inr (by decide)), a_up_ne (Or.inr (by decide)), a_up_ne (Or.inr (by decide)), a_up_ne (Or.inr (by decide)), a_up_ne (Or.inr (by decide)), a_up_ne (Or.inr (by decide)), a_up_ne (Or.inr (by decide)), a_up_at]; rfl, by rw [f1 _ _ (by decide), a_up_ne (Or.inr (by decide)), a_up_ne (Or.inr (by decide)), a_up_ne (Or.inr (by decide)), a_up_ne (Or.inr (by decide)), a_up_ne (Or.inr (by decide)), a_up_ne (Or.inr (by decide)), a_up_ne (Or.inr (by decide)), a_up_at]; rfl, by rw [f1 _ _ (by decide), a_up_ne (Or.inr (by decide)), a_up_ne (Or.inr (by decide)), a_up_ne (Or.inr (by decide)), a_up_ne (Or.inr (by decide)), a_up_ne (Or.inr (by decide)), a_up_ne (Or.inr (by decide)), a_up_at]; rfl, by rw [f1 _ _ (by decide), a_up_ne (Or.inr (by decide)), a_up_ne (Or.inr (by decide)), a_up_ne (Or.inr (by decide)), a_up_ne (Or.inr (by decide)), a_up_ne (Or.inr (by decide)), a_up_at]; rfl, by rw [f1 _ _ (by decide), a_up_ne (Or.inr (by decide)), a_up_ne (Or.inr (by decide)), a_up_ne (Or.inr (by decide)), a_up_ne (Or.inr (by decide)), a_up_at]; rfl, by rw [f1 _ _ (by decide), a_up_ne (Or.inr (by decide)), a_up_ne (Or.inr (by decide)), a_up_ne (Or.inr (by decide)), a_up_at]; rfl, by rw [f1 _ _ (by decide), a_up_ne (Or.inr (by decide)), a_up_ne (Or.inr (by decide)), a_up_at]; rfl, by rw [f1 _ _ (by decide), a_up_ne (Or.inr (by decide)), a_up_at]; rfl, by rw [f1 _ _ (by decide), a_up_at]; rfl⟩ (fun j x y => g1 j x (by omega)))
    · skip
      have p_ := pw_in (i - 1).toNat
      refine aw_aload_n d_Mo_dsa_183 rfl rfl ?_
      refine ax_getR (b := 203) d_Mo_dsa_184 fd_Mo_71 (k_175 S) (r_175_27 S) ?_
      refine aw_iload_n d_Mo_dsa_187 rfl rfl ?_
      refine aw_aload_n d_Mo_dsa_188 rfl rfl ?_
      refine ax_getR (b := 203) d_Mo_dsa_189 fd_Mo_71 (k_175 S) (r_175_27 S) ?_
      refine aw_iload_n d_Mo_dsa_192 rfl rfl ?_
      refine aw_iconst d_Mo_dsa_193 ⟨by decide, by decide⟩ ?_
      refine ax_isub d_Mo_dsa_194 ⟨(by omega), (by omega)⟩ ?_
      refine ax_ialde (x := pw (i - 1).toNat) d_Mo_dsa_195 (k_203 S) (by omega) (by rw [n_203 S]; omega) (g1 _ (by omega) (by omega)) ?_
      refine aw_i2l d_Mo_dsa_196 ?_
      refine aw_ldc2 (n := 1753) d_Mo_dsa_197 lc_Mo_254 ⟨by decide, by decide⟩ ?_
      refine ax_lmul d_Mo_dsa_200 ⟨(by omega), (by omega)⟩ ?_
      refine aw_ldc2 (n := 8380417) d_Mo_dsa_201 lc_Mo_256 ⟨by decide, by decide⟩ ?_
      refine ax_lrem d_Mo_dsa_204 (by omega) (by omega) ?_
      refine ax_l2i d_Mo_dsa_205 ⟨(by omega), (by omega)⟩ ?_
      refine ax_iast d_Mo_dsa_206 (k_203 S) (by decide) (by omega) (by rw [n_203 S]; omega) ?_
      refine ax_iinc (lv' := [(2, vi (i + 1)), (1, vi 2), (0, vr 175)]) d_Mo_dsa_207 rfl (by decide) ⟨(by omega), (by omega)⟩ rfl ?_
      refine aw_goto (tgt := 176) d_Mo_dsa_210 (by decide) ?_
      exact ih_176 _ (by omega) (i + 1) (a_up K 203 i (((pw (i - 1).toNat) * 1753) % 8380417)) (by omega) (up_frame f1) (pw_step (by omega) g1 hi.1) rfl
  refine aw_sub (lv' := [(2, vi 1), (1, vi 2), (0, vr 175)]) (by simp) ?_
  exact lp_176 _ 1 (a_up (a_up (a_up (a_up (a_up (a_up (a_up (a_up (a_up (a_up I 175 26 8) 175 32 7) 175 33 2) 175 34 60) 175 35 524288) 175 36 261888) 175 37 75) 175 38 64) 175 39 20) 203 0 1) (by omega) (fun a j ha => a_up_ne (Or.inl ha)) (fun j x y => by rw [show j = 0 by omega, a_up_at]; rfl) rfl
def hHigh (g hs r : Int) : Int := if 0 < dLow g r then (dHigh g r + 1) % hs else (dHigh g r + hs - 1) % hs
set_option maxHeartbeats 800000 in
set_option maxRecDepth 100000 in
theorem c_Pa_hintedHigh {l : Launch} {G : a_G} {h : Hp} {I L : Nat → Int → Int} {p : Nat} {r : Int} (hp : hK h p = 22) (hg : 0 < I p 5 ∧ I p 5 < 300000) (hr : 0 ≤ r ∧ r < 8380417) (hs : 0 < I p 8 ∧ I p 8 < 100 ∧ 0 ≤ dHigh (I p 5) r ∧ dHigh (I p 5) r < 100) : AW l G M_Pa_hintedHigh (Rx (some (vi (hHigh (I p 5) (I p 8) r))) (sD h I L)) 0 (a_ar 0 [vr p, vi r]) [] (sD h I L) := by
  suffices key : ∀ P : a_R → Hp → Prop, (∀ u, u = hHigh (I p 5) (I p 8) r → P (.inl (some (vi u))) (sD h I L)) → AW l G M_Pa_hintedHigh P 0 [(0, vr p), (1, vi r)] [] (sD h I L) from key _ (fun u e => ⟨by rw [e], rfl⟩)
  intro P hP
  refine aw_aload_n d_Pa_hintedHigh_0 rfl rfl ?_
  refine aw_iload_n d_Pa_hintedHigh_1 rfl rfl ?_
  refine ax_V (st := []) (as := [vi r]) (b := p) (v := some (vi (dLow (I p 5) r))) (h' := sD h I L) d_Pa_hintedHigh_2 cs_Pa_hintedHigh_2 hp (c_Pa_low hp hg hr) rfl rfl rfl ?_
  show AW l G M_Pa_hintedHigh P 5 [(0, vr p), (1, vi r)] [vi (dLow (I p 5) r)] (sD h I L)
  refine aw_if_le (tgt := 12) d_Pa_hintedHigh_5 (by decide) (fun c_5 => ?_) (fun c_5 => ?_)
  · skip
    refine aw_aload_n d_Pa_hintedHigh_12 rfl rfl ?_
    refine ax_getIe (x := I p 8) d_Pa_hintedHigh_13 fd_Pa_46 hp (rfl) ?_
    refine aw_iconst d_Pa_hintedHigh_16 ⟨by decide, by decide⟩ ?_
    refine ax_isub d_Pa_hintedHigh_17 ⟨(by omega), (by omega)⟩ ?_
    refine aw_istore_n (lv' := [(2, vi ((I p 8) - 1)), (0, vr p), (1, vi r)]) d_Pa_hintedHigh_18 rfl (by decide) rfl ?_
    refine aw_aload_n d_Pa_hintedHigh_19 rfl rfl ?_
    refine aw_iload_n d_Pa_hintedHigh_20 rfl rfl ?_
    refine ax_V (st := []) (as := [vi r]) (b := p) (v := some (vi (dHigh (I p 5) r))) (h' := sD h I L) d_Pa_hintedHigh_21 cs_Pa_hintedHigh_21 hp (c_Pa_high hp hg hr) rfl rfl rfl ?_
    show AW l G M_Pa_hintedHigh P 24 [(2, vi ((I p 8) - 1)), (0, vr p), (1, vi r)] [vi (dHigh (I p 5) r)] (sD h I L)
    refine aw_iload_n d_Pa_hintedHigh_24 rfl rfl ?_
    refine ax_iadd d_Pa_hintedHigh_25 ⟨(by omega), (by omega)⟩ ?_
    refine aw_aload_n d_Pa_hintedHigh_26 rfl rfl ?_
    refine ax_getIe (x := I p 8) d_Pa_hintedHigh_27 fd_Pa_46 hp (rfl) ?_
    refine ax_irem d_Pa_hintedHigh_30 (by omega) (by omega) ?_
    exact aw_iret d_Pa_hintedHigh_31 rfl (hP _ (by unfold hHigh; rw [if_neg (by omega)]; rw [Int.add_sub_assoc]))
  · skip
    refine aw_iconst d_Pa_hintedHigh_8 ⟨by decide, by decide⟩ ?_
    refine aw_goto (tgt := 18) d_Pa_hintedHigh_9 (by decide) ?_
    refine aw_istore_n (lv' := [(2, vi 1), (0, vr p), (1, vi r)]) d_Pa_hintedHigh_18 rfl (by decide) rfl ?_
    refine aw_aload_n d_Pa_hintedHigh_19 rfl rfl ?_
    refine aw_iload_n d_Pa_hintedHigh_20 rfl rfl ?_
    refine ax_V (st := []) (as := [vi r]) (b := p) (v := some (vi (dHigh (I p 5) r))) (h' := sD h I L) d_Pa_hintedHigh_21 cs_Pa_hintedHigh_21 hp (c_Pa_high hp hg hr) rfl rfl rfl ?_
    show AW l G M_Pa_hintedHigh P 24 [(2, vi 1), (0, vr p), (1, vi r)] [vi (dHigh (I p 5) r)] (sD h I L)
    refine aw_iload_n d_Pa_hintedHigh_24 rfl rfl ?_
    refine ax_iadd d_Pa_hintedHigh_25 ⟨(by omega), (by omega)⟩ ?_
    refine aw_aload_n d_Pa_hintedHigh_26 rfl rfl ?_
    refine ax_getIe (x := I p 8) d_Pa_hintedHigh_27 fd_Pa_46 hp (rfl) ?_
    refine ax_irem d_Pa_hintedHigh_30 (by omega) (by omega) ?_
    exact aw_iret d_Pa_hintedHigh_31 rfl (hP _ (by unfold hHigh; rw [if_pos (by omega)]))
