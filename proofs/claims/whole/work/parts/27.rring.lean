/-! the reference's ring -/
def rvP (i : Int) : Nat → Int
  | 0 => 0
  | b + 1 => if a_and (a_shr i b) 1 = 1 then a_or (rvP i b) (a_shl 1 (7 - b)) else rvP i b
def trn (i : Int) : Int := rvP i 8
theorem up256 {p : Int → Prop} (h : ∀ k : Nat, k < 256 → p k) {i : Int} (h0 : 0 ≤ i) (h1 : i < 256) : p i := by
  have := h i.toNat (by omega)
  rwa [Int.toNat_of_nonneg h0] at this
theorem trn_in {i : Int} (h0 : 0 ≤ i) (h1 : i < 256) : 0 ≤ trn i ∧ trn i < 256 := up256 (p := fun i => 0 ≤ trn i ∧ trn i < 256) (by decide +kernel) h0 h1
def pw : Nat → Int
  | 0 => 1
  | n + 1 => pw n * 1753 % 8380417
theorem pw_in : ∀ n, 0 ≤ pw n ∧ pw n < 8380417
  | 0 => by decide
  | n + 1 => by show 0 ≤ pw n * 1753 % 8380417 ∧ pw n * 1753 % 8380417 < 8380417; omega
def Pws (I : Nat → Int → Int) : Prop := ∀ j, 0 ≤ j → j < 512 → I 203 j = pw j.toNat
def evS (F : Int → Int) (z : Int) : Nat → Int
  | 0 => 0
  | n + 1 => evS F z n + F n * pw (z * n % 512).toNat
def inS (F : Int → Int) (j : Int) : Nat → Int
  | 0 => 0
  | n + 1 => inS F j n + F n * pw ((512 - (2 * trn n + 1) * j % 512) % 512).toNat
def eva (F : Int → Int) (i : Int) : Int := evS F (2 * trn i + 1) 256 % 8380417
def itp (F : Int → Int) (j : Int) : Int := inS F j 256 % 8380417 * 8347681 % 8380417
theorem evS_b {F : Int → Int} {z : Int} {n : Nat} (h : ∀ k : Nat, k < n → 0 ≤ F k ∧ F k < 8380417) : 0 ≤ evS F z n ∧ evS F z n ≤ n * 70231389093889 := by
  induction n with
  | zero => exact ⟨Int.le_refl _, by simp [evS]⟩
  | succ n ih =>
    have a := ih (fun k hk => h k (by omega))
    have b := mulq (h n (by omega)).1 (h n (by omega)).2 (pw_in (z * n % 512).toNat).1 (pw_in (z * n % 512).toNat).2
    show 0 ≤ evS F z n + _ ∧ evS F z n + _ ≤ _
    omega
theorem inS_b {F : Int → Int} {z : Int} {n : Nat} (h : ∀ k : Nat, k < n → 0 ≤ F k ∧ F k < 8380417) : 0 ≤ inS F z n ∧ inS F z n ≤ n * 70231389093889 := by
  induction n with
  | zero => exact ⟨Int.le_refl _, by simp [inS]⟩
  | succ n ih =>
    have a := ih (fun k hk => h k (by omega))
    have b := mulq (h n (by omega)).1 (h n (by omega)).2 (pw_in ((512 - (2 * trn n + 1) * z % 512) % 512).toNat).1 (pw_in ((512 - (2 * trn n + 1) * z % 512) % 512).toNat).2
    show 0 ≤ inS F z n + _ ∧ inS F z n + _ ≤ _
    omega
def cen (v : Int) : Int := if 4190208 < v then v - 8380417 else v
def fwT (B F : Int → Int) (k i : Int) : Int := if i ≤ k then B i * F (k - i) else -(B i * F (k - i + 256))
def fwS (B F : Int → Int) (k : Int) : Nat → Int
  | 0 => 0
  | n + 1 => fwS B F k n + fwT B F k n
def few (B F : Int → Int) (k : Int) : Int := cen (fwS B F k 256 % 8380417)
/-- in the middle of row i, j of its products added -/
def fwP (B F : Int → Int) (k i j : Int) : Int := fwS B F k i.toNat + if i ≤ k ∧ k - i < j ∨ k < i ∧ k - i + 256 < j then fwT B F k i else 0
theorem bm {b f : Int} (h1 : -1 ≤ b) (h2 : b ≤ 1) (h3 : -8192 ≤ f) (h4 : f ≤ 8192) : -8192 ≤ b * f ∧ b * f ≤ 8192 := by
  rcases (show b = -1 ∨ b = 0 ∨ b = 1 by omega) with q | q | q <;> subst q <;> omega
theorem fwT_b {B F : Int → Int} {k i : Int} (hk : 0 ≤ k) (hk2 : k < 256) (hi : 0 ≤ i) (hi2 : i < 256) (hB : ∀ j, 0 ≤ j → j < 256 → -1 ≤ B j ∧ B j ≤ 1) (hF : ∀ j, 0 ≤ j → j < 256 → -8192 ≤ F j ∧ F j ≤ 8192) : -8192 ≤ fwT B F k i ∧ fwT B F k i ≤ 8192 := by
  unfold fwT
  have b := hB i hi hi2
  split
  · have f := hF (k - i) (by omega) (by omega)
    exact bm b.1 b.2 f.1 f.2
  · have f := hF (k - i + 256) (by omega) (by omega)
    have := bm b.1 b.2 f.1 f.2
    omega
theorem fwS_b {B F : Int → Int} {k : Int} (hk : 0 ≤ k) (hk2 : k < 256) (hB : ∀ j, 0 ≤ j → j < 256 → -1 ≤ B j ∧ B j ≤ 1) (hF : ∀ j, 0 ≤ j → j < 256 → -8192 ≤ F j ∧ F j ≤ 8192) : ∀ n : Nat, n ≤ 256 → -(n * 8192 : Int) ≤ fwS B F k n ∧ fwS B F k n ≤ n * 8192
  | 0, _ => by simp [fwS]
  | n + 1, h => by
    have a := fwS_b hk hk2 hB hF n (by omega)
    have b := fwT_b (i := n) hk hk2 (by omega) (by omega) hB hF
    show -((n + 1 : Nat) * 8192 : Int) ≤ fwS B F k n + fwT B F k n ∧ fwS B F k n + fwT B F k n ≤ (n + 1 : Nat) * 8192
    omega
theorem fwP_0 {B F : Int → Int} {k i : Int} (hk : 0 ≤ k) (hk2 : k < 256) (hi2 : i < 256) : fwP B F k i 0 = fwS B F k i.toNat := by
  unfold fwP
  rw [if_neg (by omega), Int.add_zero]
theorem fwP_end {B F : Int → Int} {k i : Int} (hk : 0 ≤ k) (hk2 : k < 256) (hi : 0 ≤ i) (hi2 : i < 256) : fwP B F k i 256 = fwS B F k (i + 1).toNat := by
  unfold fwP
  rw [if_pos (by omega), show (i + 1).toNat = i.toNat + 1 by omega]
  show _ = fwS B F k i.toNat + fwT B F k (i.toNat : Int)
  rw [Int.toNat_of_nonneg hi]
theorem fwP_skip {B F : Int → Int} {k i j : Int} (hi : 0 ≤ i) (hB : B i = 0) : fwP B F k i j = fwS B F k (i + 1).toNat := by
  have z : fwT B F k i = 0 := by unfold fwT; rw [hB]; split <;> simp
  unfold fwP
  rw [z, show (i + 1).toNat = i.toNat + 1 by omega]
  show _ = fwS B F k i.toNat + fwT B F k (i.toNat : Int)
  rw [Int.toNat_of_nonneg hi, z]
  split <;> rfl
/-- one product more, at its place -/
theorem fwP_step {B F : Int → Int} {k i j : Int} (hk : 0 ≤ k) (hk2 : k < 256) (hi : 0 ≤ i) (hi2 : i < 256) (hj : 0 ≤ j) (hj2 : j < 256) : fwP B F k i (j + 1) = if k = i + j then fwP B F k i j + B i * F j else if k = i + j - 256 then fwP B F k i j - B i * F j else fwP B F k i j := by
  unfold fwP
  by_cases c1 : k = i + j
  · rw [if_pos c1, if_pos (by omega), if_neg (by omega)]
    unfold fwT
    rw [if_pos (by omega), show k - i = j by omega]
    omega
  · rw [if_neg c1]
    by_cases c2 : k = i + j - 256
    · rw [if_pos c2, if_pos (by omega), if_neg (by omega)]
      unfold fwT
      rw [if_neg (by omega), show k - i + 256 = j by omega]
      omega
    · rw [if_neg c2]
      by_cases c3 : i ≤ k ∧ k - i < j ∨ k < i ∧ k - i + 256 < j
      · rw [if_pos c3, if_pos (by omega)]
      · rw [if_neg c3, if_neg (by omega)]
theorem fwP_b {B F : Int → Int} {k i j : Int} (hk : 0 ≤ k) (hk2 : k < 256) (hi : 0 ≤ i) (hi2 : i < 256) (hB : ∀ j, 0 ≤ j → j < 256 → -1 ≤ B j ∧ B j ≤ 1) (hF : ∀ j, 0 ≤ j → j < 256 → -8192 ≤ F j ∧ F j ≤ 8192) : -3000000 ≤ fwP B F k i j ∧ fwP B F k i j ≤ 3000000 := by
  have a := fwS_b hk hk2 hB hF i.toNat (by omega)
  have b := fwT_b hk hk2 hi hi2 hB hF
  unfold fwP
  split <;> omega
theorem tmodq (x : Int) : (Int.tmod x 8380417 + 8380417) % 8380417 = x % 8380417 := by
  have h := Int.tmod_add_mul_tdiv x 8380417
  omega
theorem tmodb (x : Int) : -8380417 < Int.tmod x 8380417 ∧ Int.tmod x 8380417 < 8380417 := ⟨Int.lt_tmod_of_pos x (by decide), Int.tmod_lt_of_pos x (by decide)⟩
set_option maxHeartbeats 800000 in
set_option maxRecDepth 100000 in
theorem c_Mo_turned {l : Launch} {G : a_G} {h : Hp} {i : Int}  : AW l G M_Mo_turned (Rx (some (vi (trn i))) h) 0 (a_ar 0 [vi i, vi 8]) [] (h) := by
  suffices key : ∀ P : a_R → Hp → Prop, (∀ u, u = trn i → P (.inl (some (vi u))) h) → AW l G M_Mo_turned P 0 [(0, vi i), (1, vi 8)] [] (h) from key _ (fun u e => ⟨by rw [e], rfl⟩)
  intro P hP
  refine aw_iconst d_Mo_turned_0 ⟨by decide, by decide⟩ ?_
  refine aw_istore_n (lv' := [(2, vi 0), (0, vi i), (1, vi 8)]) d_Mo_turned_1 rfl (by decide) rfl ?_
  refine aw_iconst d_Mo_turned_2 ⟨by decide, by decide⟩ ?_
  refine aw_istore_n (lv' := [(3, vi 0), (2, vi 0), (0, vi i), (1, vi 8)]) d_Mo_turned_3 rfl (by decide) rfl ?_
  have lp_4 : ∀ (n_ : Nat) (b : Nat) (bi : Int) (v : Int), (bi = b ∧ b ≤ 8) → (v = rvP i b) → (8 - b) = n_ → AW l G M_Mo_turned P 4 [(3, vi bi), (2, vi v), (1, vi 8), (0, vi i)] [] (h) := by
    intro n_
    induction n_ using Nat.strongRecOn with
    | _ n_ ih_4 =>
    intro b bi v hb hv hm_4
    refine aw_iload_n d_Mo_turned_4 rfl rfl ?_
    refine aw_iload_n d_Mo_turned_5 rfl rfl ?_
    refine aw_icmp_ge (tgt := 34) d_Mo_turned_6 (by decide) (fun c_6 => ?_) (fun c_6 => ?_)
    · skip
      refine aw_iload_n d_Mo_turned_34 rfl rfl ?_
      exact aw_iret d_Mo_turned_35 rfl (hP _ (by rw [hv, show b = 8 by omega]; rfl))
    · skip
      refine aw_iload_n d_Mo_turned_9 rfl rfl ?_
      refine aw_iload_n d_Mo_turned_10 rfl rfl ?_
      refine aw_ishr d_Mo_turned_11 ?_
      refine aw_iconst d_Mo_turned_12 ⟨by decide, by decide⟩ ?_
      refine aw_iand d_Mo_turned_13 ?_
      refine aw_iconst d_Mo_turned_14 ⟨by decide, by decide⟩ ?_
      refine aw_icmp_ne (tgt := 28) d_Mo_turned_15 (by decide) (fun c_15 => ?_) (fun c_15 => ?_)
      · skip
        refine ax_iinc (lv' := [(3, vi (bi + 1)), (2, vi v), (1, vi 8), (0, vi i)]) d_Mo_turned_28 rfl (by decide) ⟨(by omega), (by omega)⟩ rfl ?_
        refine aw_goto (tgt := 4) d_Mo_turned_31 (by decide) ?_
        exact ih_4 _ (by omega) (b + 1) (bi + 1) v (by omega) (by rw [hv]; show _ = if a_and (a_shr i (b : Int)) 1 = 1 then a_or (rvP i b) (a_shl 1 (7 - (b : Int))) else rvP i b; rw [if_neg (by rw [← hb.1]; omega)]) rfl
      · skip
        refine aw_iload_n d_Mo_turned_18 rfl rfl ?_
        refine aw_iconst d_Mo_turned_19 ⟨by decide, by decide⟩ ?_
        refine aw_iload_n d_Mo_turned_20 rfl rfl ?_
        refine aw_iconst d_Mo_turned_21 ⟨by decide, by decide⟩ ?_
        refine ax_isub d_Mo_turned_22 ⟨(by omega), (by omega)⟩ ?_
        refine ax_ti (x := 7) (by decide) ?_
        refine aw_iload_n d_Mo_turned_23 rfl rfl ?_
        refine ax_isub d_Mo_turned_24 ⟨(by omega), (by omega)⟩ ?_
        refine aw_ishl d_Mo_turned_25 ?_
        refine aw_ior d_Mo_turned_26 ?_
        refine aw_istore_n (lv' := [(2, vi (a_or v (a_shl 1 (7 - bi)))), (3, vi bi), (1, vi 8), (0, vi i)]) d_Mo_turned_27 rfl (by decide) rfl ?_
        refine ax_iinc (lv' := [(3, vi (bi + 1)), (2, vi (a_or v (a_shl 1 (7 - bi)))), (1, vi 8), (0, vi i)]) d_Mo_turned_28 rfl (by decide) ⟨(by omega), (by omega)⟩ rfl ?_
        refine aw_goto (tgt := 4) d_Mo_turned_31 (by decide) ?_
        exact ih_4 _ (by omega) (b + 1) (bi + 1) (a_or v (a_shl 1 (7 - bi))) (by omega) (by rw [hv]; show _ = if a_and (a_shr i (b : Int)) 1 = 1 then a_or (rvP i b) (a_shl 1 (7 - (b : Int))) else rvP i b; rw [if_pos (by rw [← hb.1]; omega), hb.1]) rfl
  refine aw_sub (lv' := [(3, vi 0), (2, vi 0), (1, vi 8), (0, vi i)]) (by simp) ?_
  exact lp_4 _ 0 0 0 (by omega) (rfl) rfl
theorem zmul {z j : Int} (h0 : 0 ≤ z) (h1 : z < 512) (h2 : 0 ≤ j) (h3 : j < 256) : 0 ≤ z * j ∧ z * j < 131072 := by
  refine ⟨Int.mul_nonneg h0 h2, ?_⟩
  have : z * j ≤ 511 * j := Int.mul_le_mul_of_nonneg_right (by omega) h2
  omega
set_option maxHeartbeats 800000 in
set_option maxRecDepth 100000 in
theorem c_Mo_evaluate {l : Launch} {G : a_G} {h : Hp} {I L : Nat → Int → Int} {f : Nat} (S : Shp h) (Zf : RwO h f) (hf : f ≠ 203) (qf : inQ (I f)) (PW : Pws I) : AW l G M_Mo_evaluate (Ret (fun _ : Nat → Int → Int => none) (fun K => sD h (rowTo I f 256 (eva (I f))) K) (fun K => ∀ x j, x ≠ 201 → K x j = L x j)) 0 (a_ar 0 [vr 175, vr f]) [] (sD h I L) := by
  suffices key : ∀ P : a_R → Hp → Prop, (∀ K : Nat → Int → Int, (∀ x j, x ≠ 201 → K x j = L x j) → P (.inl none) (sD h (rowTo I f 256 (eva (I f))) K)) → AW l G M_Mo_evaluate P 0 [(0, vr 175), (1, vr f)] [] (sD h I L) from key _ (fun K q => ⟨K, rfl, rfl, q⟩)
  intro P hP
  refine aw_iconst d_Mo_evaluate_0 ⟨by decide, by decide⟩ ?_
  refine aw_istore_n (lv' := [(2, vi 0), (0, vr 175), (1, vr f)]) d_Mo_evaluate_1 rfl (by decide) rfl ?_
  have lp_2 : ∀ (n_ : Nat) (i : Int) (K : Nat → Int → Int), (0 ≤ i ∧ i ≤ 256) → (∀ x j, x ≠ 201 → K x j = L x j) → (∀ j, 0 ≤ j → j < i → K 201 j = eva (I f) j) → ((256 - i).toNat) = n_ → AW l G M_Mo_evaluate P 2 [(2, vi i), (1, vr f), (0, vr 175)] [] (sD h I K) := by
    intro n_
    induction n_ using Nat.strongRecOn with
    | _ n_ ih_2 =>
    intro i K hi f1 g1 hm_2
    refine aw_iload_n d_Mo_evaluate_2 rfl rfl ?_
    refine aw_sipush d_Mo_evaluate_3 ⟨by decide, by decide⟩ (by decide) ?_
    refine aw_icmp_ge (tgt := 83) d_Mo_evaluate_6 (by decide) (fun c_6 => ?_) (fun c_6 => ?_)
    · skip
      refine aw_iconst d_Mo_evaluate_83 ⟨by decide, by decide⟩ ?_
      refine aw_istore_n (lv' := [(2, vi 0), (1, vr f), (0, vr 175)]) d_Mo_evaluate_84 rfl (by decide) rfl ?_
      have lp_85 : ∀ (n_ : Nat) (m : Int), (0 ≤ m ∧ m ≤ 256) → ((256 - m).toNat) = n_ → AW l G M_Mo_evaluate P 85 [(2, vi m), (1, vr f), (0, vr 175)] [] (sD h (rowTo I f m (eva (I f))) K) := by
        intro n_
        induction n_ using Nat.strongRecOn with
        | _ n_ ih_85 =>
        intro m hm hm_85
        refine aw_iload_n d_Mo_evaluate_85 rfl rfl ?_
        refine aw_sipush d_Mo_evaluate_86 ⟨by decide, by decide⟩ (by decide) ?_
        refine aw_icmp_ge (tgt := 108) d_Mo_evaluate_89 (by decide) (fun c_89 => ?_) (fun c_89 => ?_)
        · skip
          exact aw_vret d_Mo_evaluate_108 rfl (by rw [show m = 256 by omega]; exact hP K f1)
        · skip
          have q_ : 0 ≤ eva (I f) m ∧ eva (I f) m < 8380417 := by unfold eva; omega
          refine aw_aload_n d_Mo_evaluate_92 rfl rfl ?_
          refine aw_iload_n d_Mo_evaluate_93 rfl rfl ?_
          refine aw_aload_n d_Mo_evaluate_94 rfl rfl ?_
          refine ax_getR (b := 201) d_Mo_evaluate_95 fd_Mo_65 (k_175 S) (r_175_24 S) ?_
          refine aw_iload_n d_Mo_evaluate_98 rfl rfl ?_
          refine ax_lalde (x := eva (I f) m) d_Mo_evaluate_99 (k_201 S) (by omega) (by rw [n_201 S]; omega) (g1 _ (by omega) (by omega)) ?_
          refine ax_l2i d_Mo_evaluate_100 ⟨(by omega), (by omega)⟩ ?_
          refine ax_iast d_Mo_evaluate_101 Zf.1 Zf.2.1 (by omega) (by omega) ?_
          rw [rowTo_1 (by omega) rfl]
          refine ax_iinc (lv' := [(2, vi (m + 1)), (1, vr f), (0, vr 175)]) d_Mo_evaluate_102 rfl (by decide) ⟨(by omega), (by omega)⟩ rfl ?_
          refine aw_goto (tgt := 85) d_Mo_evaluate_105 (by decide) ?_
          exact ih_85 _ (by omega) (m + 1) (by omega) rfl
      refine ax_hp (h' := sD h (rowTo I f 0 (eva (I f))) K) (by rw [rowTo_0]) ?_
      exact lp_85 _ 0 (by omega) rfl
    · skip
      have tr := trn_in (i := i) hi.1 (by omega)
      refine aw_iconst d_Mo_evaluate_9 ⟨by decide, by decide⟩ ?_
      refine aw_iload_n d_Mo_evaluate_10 rfl rfl ?_
      refine aw_bipush d_Mo_evaluate_11 ⟨by decide, by decide⟩ (by decide) ?_
      refine ax_S (st := [vi 2]) (as := [vi i, vi 8]) (v := some (vi (trn i))) (h' := sD h I K) d_Mo_evaluate_13 cs_Mo_evaluate_13 (c_Mo_turned) rfl rfl rfl ?_
      show AW l G M_Mo_evaluate P 16 [(2, vi i), (1, vr f), (0, vr 175)] [vi (trn i), vi 2] (sD h I K)
      refine ax_imul d_Mo_evaluate_16 ⟨(by omega), (by omega)⟩ ?_
      refine aw_iconst d_Mo_evaluate_17 ⟨by decide, by decide⟩ ?_
      refine ax_iadd d_Mo_evaluate_18 ⟨(by omega), (by omega)⟩ ?_
      refine aw_istore_n (lv' := [(3, vi ((2 * (trn i)) + 1)), (2, vi i), (1, vr f), (0, vr 175)]) d_Mo_evaluate_19 rfl (by decide) rfl ?_
      refine aw_lconst (x := 0) d_Mo_evaluate_20 ⟨by decide, by decide⟩ (by decide) ?_
      refine aw_lstore (lv' := [(4, vl 0), (3, vi ((2 * (trn i)) + 1)), (2, vi i), (1, vr f), (0, vr 175)]) d_Mo_evaluate_21 (by decide) rfl ?_
      refine aw_iconst d_Mo_evaluate_23 ⟨by decide, by decide⟩ ?_
      refine aw_istore (lv' := [(6, vi 0), (4, vl 0), (3, vi ((2 * (trn i)) + 1)), (2, vi i), (1, vr f), (0, vr 175)]) d_Mo_evaluate_24 (by decide) rfl ?_
      have lp_26 : ∀ (n_ : Nat) (j : Int) (t : Int), (0 ≤ j ∧ j ≤ 256) → (t = evS (I f) (2 * trn i + 1) j.toNat) → ((256 - j).toNat) = n_ → AW l G M_Mo_evaluate P 26 [(6, vi j), (4, vl t), (3, vi (2 * trn i + 1)), (2, vi i), (1, vr f), (0, vr 175)] [] (sD h I K) := by
        intro n_
        induction n_ using Nat.strongRecOn with
        | _ n_ ih_26 =>
        intro j t hj ht hm_26
        refine aw_iload d_Mo_evaluate_26 rfl ?_
        refine aw_sipush d_Mo_evaluate_28 ⟨by decide, by decide⟩ (by decide) ?_
        refine aw_icmp_ge (tgt := 65) d_Mo_evaluate_31 (by decide) (fun c_31 => ?_) (fun c_31 => ?_)
        · skip
          have t_ := evS_b (F := I f) (z := 2 * trn i + 1) (n := j.toNat) (fun k hk => qf k (by omega) (by omega))
          rw [← ht] at t_
          refine aw_aload_n d_Mo_evaluate_65 rfl rfl ?_
          refine ax_getR (b := 201) d_Mo_evaluate_66 fd_Mo_65 (k_175 S) (r_175_24 S) ?_
          refine aw_iload_n d_Mo_evaluate_69 rfl rfl ?_
          refine aw_lload d_Mo_evaluate_70 rfl ?_
          refine aw_ldc2 (n := 8380417) d_Mo_evaluate_72 lc_Mo_256 ⟨by decide, by decide⟩ ?_
          refine ax_lrem d_Mo_evaluate_75 (by omega) (by omega) ?_
          refine ax_last d_Mo_evaluate_76 (k_201 S) (by decide) (by omega) (by rw [n_201 S]; omega) ?_
          refine ax_iinc (lv' := [(2, vi (i + 1)), (6, vi j), (4, vl t), (3, vi (2 * trn i + 1)), (1, vr f), (0, vr 175)]) d_Mo_evaluate_77 rfl (by decide) ⟨(by omega), (by omega)⟩ rfl ?_
          refine aw_goto (tgt := 2) d_Mo_evaluate_80 (by decide) ?_
          refine aw_sub (lv' := [(2, vi (i + 1)), (1, vr f), (0, vr 175)]) (by simp) ?_
          exact ih_2 _ (by omega) (i + 1) (a_up K 201 i (t % 8380417)) (by omega) (up_frame f1) (row_step g1 (by rw [ht, show j.toNat = 256 by omega]; rfl)) rfl
        · skip
          have a_ := qf j hj.1 (by omega)
          have zj := zmul (z := 2 * trn i + 1) (j := j) (by omega) (by omega) hj.1 (by omega)
          have b_ := pw_in (((2 * trn i + 1) * j % 512).toNat)
          have m_ := mulq a_.1 a_.2 b_.1 b_.2
          have t_ := evS_b (F := I f) (z := 2 * trn i + 1) (n := j.toNat) (fun k hk => qf k (by omega) (by omega))
          rw [← ht] at t_
          refine aw_lload d_Mo_evaluate_34 rfl ?_
          refine aw_aload_n d_Mo_evaluate_36 rfl rfl ?_
          refine aw_iload d_Mo_evaluate_37 rfl ?_
          refine ax_ialde (x := I f j) d_Mo_evaluate_39 Zf.1 (by omega) (by omega) (rfl) ?_
          refine aw_i2l d_Mo_evaluate_40 ?_
          refine aw_aload_n d_Mo_evaluate_41 rfl rfl ?_
          refine ax_getR (b := 203) d_Mo_evaluate_42 fd_Mo_71 (k_175 S) (r_175_27 S) ?_
          refine aw_iload_n d_Mo_evaluate_45 rfl rfl ?_
          refine aw_iload d_Mo_evaluate_46 rfl ?_
          refine ax_imul d_Mo_evaluate_48 ⟨(by omega), (by omega)⟩ ?_
          refine aw_sipush d_Mo_evaluate_49 ⟨by decide, by decide⟩ (by decide) ?_
          refine aw_iand d_Mo_evaluate_52 ?_
          refine ax_ti (x := ((2 * trn i + 1) * j) % 512) (a_and' 9 (by decide) (by decide) (by decide)) ?_
          refine ax_ialde (x := pw (((2 * trn i + 1) * j) % 512).toNat) d_Mo_evaluate_53 (k_203 S) (by omega) (by rw [n_203 S]; omega) (PW _ (by omega) (by omega)) ?_
          refine aw_i2l d_Mo_evaluate_54 ?_
          refine ax_lmul d_Mo_evaluate_55 ⟨(by omega), (by omega)⟩ ?_
          refine ax_ladd d_Mo_evaluate_56 ⟨(by omega), (by omega)⟩ ?_
          refine aw_lstore (lv' := [(4, vl (t + ((I f j) * (pw (((2 * trn i + 1) * j) % 512).toNat)))), (6, vi j), (3, vi (2 * trn i + 1)), (2, vi i), (1, vr f), (0, vr 175)]) d_Mo_evaluate_57 (by decide) rfl ?_
          refine ax_iinc (lv' := [(6, vi (j + 1)), (4, vl (t + ((I f j) * (pw (((2 * trn i + 1) * j) % 512).toNat)))), (3, vi (2 * trn i + 1)), (2, vi i), (1, vr f), (0, vr 175)]) d_Mo_evaluate_59 rfl (by decide) ⟨(by omega), (by omega)⟩ rfl ?_
          refine aw_goto (tgt := 26) d_Mo_evaluate_62 (by decide) ?_
          exact ih_26 _ (by omega) (j + 1) (t + ((I f j) * (pw (((2 * trn i + 1) * j) % 512).toNat))) (by omega) (by rw [ht, show (j + 1).toNat = j.toNat + 1 by omega]; show _ = evS (I f) (2 * trn i + 1) j.toNat + I f (j.toNat : Int) * pw ((2 * trn i + 1) * (j.toNat : Int) % 512).toNat; rw [Int.toNat_of_nonneg hj.1]) rfl
      skip
      exact lp_26 _ 0 0 (by omega) (rfl) rfl
  skip
  refine aw_sub (lv' := [(2, vi 0), (1, vr f), (0, vr 175)]) (by simp) ?_
  exact lp_2 _ 0 L (by omega) (fun _ _ _ => rfl) (fun j a b => by omega) rfl
set_option maxHeartbeats 800000 in
set_option maxRecDepth 100000 in
theorem c_Mo_interpolate {l : Launch} {G : a_G} {h : Hp} {I L : Nat → Int → Int} {f : Nat} (S : Shp h) (Zf : RwO h f) (hf : f ≠ 203) (qf : inQ (I f)) (PW : Pws I) : AW l G M_Mo_interpolate (Ret (fun _ : Nat → Int → Int => none) (fun K => sD h (rowTo I f 256 (itp (I f))) K) (fun K => ∀ x j, x ≠ 201 → K x j = L x j)) 0 (a_ar 0 [vr 175, vr f]) [] (sD h I L) := by
  suffices key : ∀ P : a_R → Hp → Prop, (∀ K : Nat → Int → Int, (∀ x j, x ≠ 201 → K x j = L x j) → P (.inl none) (sD h (rowTo I f 256 (itp (I f))) K)) → AW l G M_Mo_interpolate P 0 [(0, vr 175), (1, vr f)] [] (sD h I L) from key _ (fun K q => ⟨K, rfl, rfl, q⟩)
  intro P hP
  refine aw_iconst d_Mo_interpolate_0 ⟨by decide, by decide⟩ ?_
  refine aw_istore_n (lv' := [(2, vi 0), (0, vr 175), (1, vr f)]) d_Mo_interpolate_1 rfl (by decide) rfl ?_
  have lp_2 : ∀ (n_ : Nat) (i : Int) (K : Nat → Int → Int), (0 ≤ i ∧ i ≤ 256) → (∀ x j, x ≠ 201 → K x j = L x j) → (∀ j, 0 ≤ j → j < i → K 201 j = itp (I f) j) → ((256 - i).toNat) = n_ → AW l G M_Mo_interpolate P 2 [(2, vi i), (1, vr f), (0, vr 175)] [] (sD h I K) := by
    intro n_
    induction n_ using Nat.strongRecOn with
    | _ n_ ih_2 =>
    intro i K hi f1 g1 hm_2
    refine aw_iload_n d_Mo_interpolate_2 rfl rfl ?_
    refine aw_sipush d_Mo_interpolate_3 ⟨by decide, by decide⟩ (by decide) ?_
    refine aw_icmp_ge (tgt := 93) d_Mo_interpolate_6 (by decide) (fun c_6 => ?_) (fun c_6 => ?_)
    · skip
      refine aw_iconst d_Mo_interpolate_93 ⟨by decide, by decide⟩ ?_
      refine aw_istore_n (lv' := [(2, vi 0), (1, vr f), (0, vr 175)]) d_Mo_interpolate_94 rfl (by decide) rfl ?_
      have lp_95 : ∀ (n_ : Nat) (m : Int), (0 ≤ m ∧ m ≤ 256) → ((256 - m).toNat) = n_ → AW l G M_Mo_interpolate P 95 [(2, vi m), (1, vr f), (0, vr 175)] [] (sD h (rowTo I f m (itp (I f))) K) := by
        intro n_
        induction n_ using Nat.strongRecOn with
        | _ n_ ih_95 =>
        intro m hm hm_95
        refine aw_iload_n d_Mo_interpolate_95 rfl rfl ?_
        refine aw_sipush d_Mo_interpolate_96 ⟨by decide, by decide⟩ (by decide) ?_
        refine aw_icmp_ge (tgt := 118) d_Mo_interpolate_99 (by decide) (fun c_99 => ?_) (fun c_99 => ?_)
        · skip
          exact aw_vret d_Mo_interpolate_118 rfl (by rw [show m = 256 by omega]; exact hP K f1)
        · skip
          have q_ : 0 ≤ itp (I f) m ∧ itp (I f) m < 8380417 := by unfold itp; omega
          refine aw_aload_n d_Mo_interpolate_102 rfl rfl ?_
          refine aw_iload_n d_Mo_interpolate_103 rfl rfl ?_
          refine aw_aload_n d_Mo_interpolate_104 rfl rfl ?_
          refine ax_getR (b := 201) d_Mo_interpolate_105 fd_Mo_65 (k_175 S) (r_175_24 S) ?_
          refine aw_iload_n d_Mo_interpolate_108 rfl rfl ?_
          refine ax_lalde (x := itp (I f) m) d_Mo_interpolate_109 (k_201 S) (by omega) (by rw [n_201 S]; omega) (g1 _ (by omega) (by omega)) ?_
          refine ax_l2i d_Mo_interpolate_110 ⟨(by omega), (by omega)⟩ ?_
          refine ax_iast d_Mo_interpolate_111 Zf.1 Zf.2.1 (by omega) (by omega) ?_
          rw [rowTo_1 (by omega) rfl]
          refine ax_iinc (lv' := [(2, vi (m + 1)), (1, vr f), (0, vr 175)]) d_Mo_interpolate_112 rfl (by decide) ⟨(by omega), (by omega)⟩ rfl ?_
          refine aw_goto (tgt := 95) d_Mo_interpolate_115 (by decide) ?_
          exact ih_95 _ (by omega) (m + 1) (by omega) rfl
      refine ax_hp (h' := sD h (rowTo I f 0 (itp (I f))) K) (by rw [rowTo_0]) ?_
      exact lp_95 _ 0 (by omega) rfl
    · skip
      refine aw_lconst (x := 0) d_Mo_interpolate_9 ⟨by decide, by decide⟩ (by decide) ?_
      refine aw_lstore_n (lv' := [(3, vl 0), (2, vi i), (1, vr f), (0, vr 175)]) d_Mo_interpolate_10 rfl (by decide) rfl ?_
      refine aw_iconst d_Mo_interpolate_11 ⟨by decide, by decide⟩ ?_
      refine aw_istore (lv' := [(5, vi 0), (3, vl 0), (2, vi i), (1, vr f), (0, vr 175)]) d_Mo_interpolate_12 (by decide) rfl ?_
      have lp_14 : ∀ (n_ : Nat) (j : Int) (t : Int), (0 ≤ j ∧ j ≤ 256) → (t = inS (I f) i j.toNat) → ((256 - j).toNat) = n_ → AW l G M_Mo_interpolate P 14 [(5, vi j), (3, vl t), (2, vi i), (1, vr f), (0, vr 175)] [] (sD h I K) := by
        intro n_
        induction n_ using Nat.strongRecOn with
        | _ n_ ih_14 =>
        intro j t hj ht hm_14
        refine aw_iload d_Mo_interpolate_14 rfl ?_
        refine aw_sipush d_Mo_interpolate_16 ⟨by decide, by decide⟩ (by decide) ?_
        refine aw_icmp_ge (tgt := 68) d_Mo_interpolate_19 (by decide) (fun c_19 => ?_) (fun c_19 => ?_)
        · skip
          have t_ := inS_b (F := I f) (z := i) (n := j.toNat) (fun k hk => qf k (by omega) (by omega))
          rw [← ht] at t_
          refine aw_aload_n d_Mo_interpolate_68 rfl rfl ?_
          refine ax_getR (b := 201) d_Mo_interpolate_69 fd_Mo_65 (k_175 S) (r_175_24 S) ?_
          refine aw_iload_n d_Mo_interpolate_72 rfl rfl ?_
          refine aw_lload_n d_Mo_interpolate_73 rfl rfl ?_
          refine aw_ldc2 (n := 8380417) d_Mo_interpolate_74 lc_Mo_256 ⟨by decide, by decide⟩ ?_
          refine ax_lrem d_Mo_interpolate_77 (by omega) (by omega) ?_
          refine aw_ldc2 (n := 8347681) d_Mo_interpolate_78 lc_Mo_261 ⟨by decide, by decide⟩ ?_
          refine ax_lmul d_Mo_interpolate_81 ⟨(by omega), (by omega)⟩ ?_
          refine aw_ldc2 (n := 8380417) d_Mo_interpolate_82 lc_Mo_256 ⟨by decide, by decide⟩ ?_
          refine ax_lrem d_Mo_interpolate_85 (by omega) (by omega) ?_
          refine ax_last d_Mo_interpolate_86 (k_201 S) (by decide) (by omega) (by rw [n_201 S]; omega) ?_
          refine ax_iinc (lv' := [(2, vi (i + 1)), (5, vi j), (3, vl t), (1, vr f), (0, vr 175)]) d_Mo_interpolate_87 rfl (by decide) ⟨(by omega), (by omega)⟩ rfl ?_
          refine aw_goto (tgt := 2) d_Mo_interpolate_90 (by decide) ?_
          refine aw_sub (lv' := [(2, vi (i + 1)), (1, vr f), (0, vr 175)]) (by simp) ?_
          exact ih_2 _ (by omega) (i + 1) (a_up K 201 i (((t % 8380417) * 8347681) % 8380417)) (by omega) (up_frame f1) (row_step g1 (by rw [ht, show j.toNat = 256 by omega]; rfl)) rfl
        · skip
          have tr := trn_in (i := j) hj.1 (by omega)
          have a_ := qf j hj.1 (by omega)
          have zj := zmul (z := 2 * trn j + 1) (j := i) (by omega) (by omega) hi.1 (by omega)
          have b_ := pw_in (((512 - (2 * trn j + 1) * i % 512) % 512).toNat)
          have m_ := mulq a_.1 a_.2 b_.1 b_.2
          have t_ := inS_b (F := I f) (z := i) (n := j.toNat) (fun k hk => qf k (by omega) (by omega))
          rw [← ht] at t_
          refine aw_lload_n d_Mo_interpolate_22 rfl rfl ?_
          refine aw_aload_n d_Mo_interpolate_23 rfl rfl ?_
          refine aw_iload d_Mo_interpolate_24 rfl ?_
          refine ax_ialde (x := I f j) d_Mo_interpolate_26 Zf.1 (by omega) (by omega) (rfl) ?_
          refine aw_i2l d_Mo_interpolate_27 ?_
          refine aw_aload_n d_Mo_interpolate_28 rfl rfl ?_
          refine ax_getR (b := 203) d_Mo_interpolate_29 fd_Mo_71 (k_175 S) (r_175_27 S) ?_
          refine aw_sipush d_Mo_interpolate_32 ⟨by decide, by decide⟩ (by decide) ?_
          refine aw_iconst d_Mo_interpolate_35 ⟨by decide, by decide⟩ ?_
          refine aw_iload d_Mo_interpolate_36 rfl ?_
          refine aw_bipush d_Mo_interpolate_38 ⟨by decide, by decide⟩ (by decide) ?_
          refine ax_S (st := [vi 2, vi 512, vr 203, vl (I f j), vl t]) (as := [vi j, vi 8]) (v := some (vi (trn j))) (h' := sD h I K) d_Mo_interpolate_40 cs_Mo_interpolate_40 (c_Mo_turned) rfl rfl rfl ?_
          show AW l G M_Mo_interpolate P 43 [(5, vi j), (3, vl t), (2, vi i), (1, vr f), (0, vr 175)] [vi (trn j), vi 2, vi 512, vr 203, vl (I f j), vl t] (sD h I K)
          refine ax_imul d_Mo_interpolate_43 ⟨(by omega), (by omega)⟩ ?_
          refine aw_iconst d_Mo_interpolate_44 ⟨by decide, by decide⟩ ?_
          refine ax_iadd d_Mo_interpolate_45 ⟨(by omega), (by omega)⟩ ?_
          refine aw_iload_n d_Mo_interpolate_46 rfl rfl ?_
          refine ax_imul d_Mo_interpolate_47 ⟨(by omega), (by omega)⟩ ?_
          refine aw_sipush d_Mo_interpolate_48 ⟨by decide, by decide⟩ (by decide) ?_
          refine aw_iand d_Mo_interpolate_51 ?_
          refine ax_ti (x := (((2 * (trn j)) + 1) * i) % 512) (a_and' 9 (by decide) (by decide) (by decide)) ?_
          refine ax_isub d_Mo_interpolate_52 ⟨(by omega), (by omega)⟩ ?_
          refine aw_sipush d_Mo_interpolate_53 ⟨by decide, by decide⟩ (by decide) ?_
          refine aw_iand d_Mo_interpolate_56 ?_
          refine ax_ti (x := (512 - ((((2 * (trn j)) + 1) * i) % 512)) % 512) (a_and' 9 (by decide) (by decide) (by decide)) ?_
          refine ax_ialde (x := pw ((512 - ((((2 * (trn j)) + 1) * i) % 512)) % 512).toNat) d_Mo_interpolate_57 (k_203 S) (by omega) (by rw [n_203 S]; omega) (PW _ (by omega) (by omega)) ?_
          refine aw_i2l d_Mo_interpolate_58 ?_
          refine ax_lmul d_Mo_interpolate_59 ⟨(by omega), (by omega)⟩ ?_
          refine ax_ladd d_Mo_interpolate_60 ⟨(by omega), (by omega)⟩ ?_
          refine aw_lstore_n (lv' := [(3, vl (t + ((I f j) * (pw ((512 - ((((2 * (trn j)) + 1) * i) % 512)) % 512).toNat)))), (5, vi j), (2, vi i), (1, vr f), (0, vr 175)]) d_Mo_interpolate_61 rfl (by decide) rfl ?_
          refine ax_iinc (lv' := [(5, vi (j + 1)), (3, vl (t + ((I f j) * (pw ((512 - ((((2 * (trn j)) + 1) * i) % 512)) % 512).toNat)))), (2, vi i), (1, vr f), (0, vr 175)]) d_Mo_interpolate_62 rfl (by decide) ⟨(by omega), (by omega)⟩ rfl ?_
          refine aw_goto (tgt := 14) d_Mo_interpolate_65 (by decide) ?_
          exact ih_14 _ (by omega) (j + 1) (t + ((I f j) * (pw ((512 - ((((2 * (trn j)) + 1) * i) % 512)) % 512).toNat))) (by omega) (by rw [ht, show (j + 1).toNat = j.toNat + 1 by omega]; show _ = inS (I f) i j.toNat + I f (j.toNat : Int) * pw ((512 - (2 * trn (j.toNat : Int) + 1) * i % 512) % 512).toNat; rw [Int.toNat_of_nonneg hj.1]) rfl
      skip
      exact lp_14 _ 0 0 (by omega) (rfl) rfl
  skip
  refine aw_sub (lv' := [(2, vi 0), (1, vr f), (0, vr 175)]) (by simp) ?_
  exact lp_2 _ 0 L (by omega) (fun _ _ _ => rfl) (fun j a b => by omega) rfl
set_option maxHeartbeats 800000 in
set_option maxRecDepth 100000 in
theorem c_Mo_addProducts {l : Launch} {G : a_G} {h : Hp} {I L : Nat → Int → Int} {f g p : Nat} (Zf : RwO h f) (Zg : RwO h g) (Zp : RwO h p) (qf : inQ (I f)) (qg : inQ (I g)) (qp : inQ (I p)) : AW l G M_Mo_addProducts (Rx none (sD h (rowTo I f 256 (fun j => (I f j + I g j * I p j) % 8380417)) L)) 0 (a_ar 0 [vr f, vr g, vr p]) [] (sD h I L) := by
  suffices key : ∀ P : a_R → Hp → Prop, (P (.inl none) (sD h (rowTo I f 256 (fun j => (I f j + I g j * I p j) % 8380417)) L)) → AW l G M_Mo_addProducts P 0 [(0, vr f), (1, vr g), (2, vr p)] [] (sD h I L) from key _ (⟨rfl, rfl⟩)
  intro P hP
  refine aw_iconst d_Mo_addProducts_0 ⟨by decide, by decide⟩ ?_
  refine aw_istore_n (lv' := [(3, vi 0), (0, vr f), (1, vr g), (2, vr p)]) d_Mo_addProducts_1 rfl (by decide) rfl ?_
  have lp_2 : ∀ (n_ : Nat) (i : Int), (0 ≤ i ∧ i ≤ 256) → ((256 - i).toNat) = n_ → AW l G M_Mo_addProducts P 2 [(3, vi i), (2, vr p), (1, vr g), (0, vr f)] [] (sD h (rowTo I f i (fun j => (I f j + I g j * I p j) % 8380417)) L) := by
    intro n_
    induction n_ using Nat.strongRecOn with
    | _ n_ ih_2 =>
    intro i hi hm_2
    refine aw_iload_n d_Mo_addProducts_2 rfl rfl ?_
    refine aw_sipush d_Mo_addProducts_3 ⟨by decide, by decide⟩ (by decide) ?_
    refine aw_icmp_ge (tgt := 37) d_Mo_addProducts_6 (by decide) (fun c_6 => ?_) (fun c_6 => ?_)
    · skip
      exact aw_vret d_Mo_addProducts_37 rfl (by rw [show i = 256 by omega]; exact hP)
    · skip
      have c_ := qf i hi.1 (by omega)
      have a_ := qg i hi.1 (by omega)
      have b_ := qp i hi.1 (by omega)
      have m_ := mulq a_.1 a_.2 b_.1 b_.2
      refine aw_aload_n d_Mo_addProducts_9 rfl rfl ?_
      refine aw_iload_n d_Mo_addProducts_10 rfl rfl ?_
      refine aw_aload_n d_Mo_addProducts_11 rfl rfl ?_
      refine aw_iload_n d_Mo_addProducts_12 rfl rfl ?_
      refine ax_ialde (x := I f i) d_Mo_addProducts_13 Zf.1 (by omega) (by omega) (rowTo_cur) ?_
      refine aw_i2l d_Mo_addProducts_14 ?_
      refine aw_aload_n d_Mo_addProducts_15 rfl rfl ?_
      refine aw_iload_n d_Mo_addProducts_16 rfl rfl ?_
      refine ax_ialde (x := I g i) d_Mo_addProducts_17 Zg.1 (by omega) (by omega) (rowTo_cur) ?_
      refine aw_i2l d_Mo_addProducts_18 ?_
      refine aw_aload_n d_Mo_addProducts_19 rfl rfl ?_
      refine aw_iload_n d_Mo_addProducts_20 rfl rfl ?_
      refine ax_ialde (x := I p i) d_Mo_addProducts_21 Zp.1 (by omega) (by omega) (rowTo_cur) ?_
      refine aw_i2l d_Mo_addProducts_22 ?_
      refine ax_lmul d_Mo_addProducts_23 ⟨(by omega), (by omega)⟩ ?_
      refine ax_ladd d_Mo_addProducts_24 ⟨(by omega), (by omega)⟩ ?_
      refine aw_ldc2 (n := 8380417) d_Mo_addProducts_25 lc_Mo_256 ⟨by decide, by decide⟩ ?_
      refine ax_lrem d_Mo_addProducts_28 (by omega) (by omega) ?_
      refine ax_l2i d_Mo_addProducts_29 ⟨(by omega), (by omega)⟩ ?_
      refine ax_iast d_Mo_addProducts_30 Zf.1 Zf.2.1 (by omega) (by omega) ?_
      rw [rowTo_1 (by omega) rfl]
      refine ax_iinc (lv' := [(3, vi (i + 1)), (2, vr p), (1, vr g), (0, vr f)]) d_Mo_addProducts_31 rfl (by decide) ⟨(by omega), (by omega)⟩ rfl ?_
      refine aw_goto (tgt := 2) d_Mo_addProducts_34 (by decide) ?_
      exact ih_2 _ (by omega) (i + 1) (by omega) rfl
  refine ax_hp (h' := sD h (rowTo I f 0 (fun j => (I f j + I g j * I p j) % 8380417)) L) (by rw [rowTo_0]) ?_
  refine aw_sub (lv' := [(3, vi 0), (2, vr p), (1, vr g), (0, vr f)]) (by simp) ?_
  exact lp_2 _ 0 (by omega) rfl
set_option maxHeartbeats 800000 in
set_option maxRecDepth 100000 in
theorem c_Mo_clear {l : Launch} {G : a_G} {h : Hp} {I L : Nat → Int → Int} {f : Nat} (Zf : RwO h f) : AW l G M_Mo_clear (Rx none (sD h (rowTo I f 256 (fun _ => 0)) L)) 0 (a_ar 0 [vr f]) [] (sD h I L) := by
  suffices key : ∀ P : a_R → Hp → Prop, (P (.inl none) (sD h (rowTo I f 256 (fun _ => 0)) L)) → AW l G M_Mo_clear P 0 [(0, vr f)] [] (sD h I L) from key _ (⟨rfl, rfl⟩)
  intro P hP
  refine aw_iconst d_Mo_clear_0 ⟨by decide, by decide⟩ ?_
  refine aw_istore_n (lv' := [(1, vi 0), (0, vr f)]) d_Mo_clear_1 rfl (by decide) rfl ?_
  have lp_2 : ∀ (n_ : Nat) (i : Int), (0 ≤ i ∧ i ≤ 256) → ((256 - i).toNat) = n_ → AW l G M_Mo_clear P 2 [(1, vi i), (0, vr f)] [] (sD h (rowTo I f i (fun _ => 0)) L) := by
    intro n_
    induction n_ using Nat.strongRecOn with
    | _ n_ ih_2 =>
    intro i hi hm_2
    refine aw_iload_n d_Mo_clear_2 rfl rfl ?_
    refine aw_sipush d_Mo_clear_3 ⟨by decide, by decide⟩ (by decide) ?_
    refine aw_icmp_ge (tgt := 19) d_Mo_clear_6 (by decide) (fun c_6 => ?_) (fun c_6 => ?_)
    · skip
      exact aw_vret d_Mo_clear_19 rfl (by rw [show i = 256 by omega]; exact hP)
    · skip
      refine aw_aload_n d_Mo_clear_9 rfl rfl ?_
      refine aw_iload_n d_Mo_clear_10 rfl rfl ?_
      refine aw_iconst d_Mo_clear_11 ⟨by decide, by decide⟩ ?_
      refine ax_iast d_Mo_clear_12 Zf.1 Zf.2.1 (by omega) (by omega) ?_
      rw [rowTo_1 (by omega) rfl]
      refine ax_iinc (lv' := [(1, vi (i + 1)), (0, vr f)]) d_Mo_clear_13 rfl (by decide) ⟨(by omega), (by omega)⟩ rfl ?_
      refine aw_goto (tgt := 2) d_Mo_clear_16 (by decide) ?_
      exact ih_2 _ (by omega) (i + 1) (by omega) rfl
  refine ax_hp (h' := sD h (rowTo I f 0 (fun _ => 0)) L) (by rw [rowTo_0]) ?_
  exact lp_2 _ 0 (by omega) rfl
set_option maxHeartbeats 800000 in
set_option maxRecDepth 100000 in
theorem c_Mo_positive {l : Launch} {G : a_G} {h : Hp} {I L : Nat → Int → Int} {f : Nat} (Zf : RwO h f) (qf : ∀ j, 0 ≤ j → j < 256 → -8380417 ≤ I f j ∧ I f j < 8380417) : AW l G M_Mo_positive (Rx none (sD h (rowTo I f 256 (fun j => (I f j + 8380417) % 8380417)) L)) 0 (a_ar 0 [vr f]) [] (sD h I L) := by
  suffices key : ∀ P : a_R → Hp → Prop, (P (.inl none) (sD h (rowTo I f 256 (fun j => (I f j + 8380417) % 8380417)) L)) → AW l G M_Mo_positive P 0 [(0, vr f)] [] (sD h I L) from key _ (⟨rfl, rfl⟩)
  intro P hP
  refine aw_iconst d_Mo_positive_0 ⟨by decide, by decide⟩ ?_
  refine aw_istore_n (lv' := [(1, vi 0), (0, vr f)]) d_Mo_positive_1 rfl (by decide) rfl ?_
  have lp_2 : ∀ (n_ : Nat) (i : Int), (0 ≤ i ∧ i ≤ 256) → ((256 - i).toNat) = n_ → AW l G M_Mo_positive P 2 [(1, vi i), (0, vr f)] [] (sD h (rowTo I f i (fun j => (I f j + 8380417) % 8380417)) L) := by
    intro n_
    induction n_ using Nat.strongRecOn with
    | _ n_ ih_2 =>
    intro i hi hm_2
    refine aw_iload_n d_Mo_positive_2 rfl rfl ?_
    refine aw_sipush d_Mo_positive_3 ⟨by decide, by decide⟩ (by decide) ?_
    refine aw_icmp_ge (tgt := 29) d_Mo_positive_6 (by decide) (fun c_6 => ?_) (fun c_6 => ?_)
    · skip
      exact aw_vret d_Mo_positive_29 rfl (by rw [show i = 256 by omega]; exact hP)
    · skip
      have q_ := qf i hi.1 (by omega)
      refine aw_aload_n d_Mo_positive_9 rfl rfl ?_
      refine aw_iload_n d_Mo_positive_10 rfl rfl ?_
      refine aw_aload_n d_Mo_positive_11 rfl rfl ?_
      refine aw_iload_n d_Mo_positive_12 rfl rfl ?_
      refine ax_ialde (x := I f i) d_Mo_positive_13 Zf.1 (by omega) (by omega) (rowTo_cur) ?_
      refine aw_ldcw (n := 8380417) d_Mo_positive_14 lc_Mo_264 ⟨by decide, by decide⟩ ?_
      refine ax_iadd d_Mo_positive_17 ⟨(by omega), (by omega)⟩ ?_
      refine aw_ldcw (n := 8380417) d_Mo_positive_18 lc_Mo_264 ⟨by decide, by decide⟩ ?_
      refine ax_irem d_Mo_positive_21 (by omega) (by omega) ?_
      refine ax_iast d_Mo_positive_22 Zf.1 Zf.2.1 (by omega) (by omega) ?_
      rw [rowTo_1 (by omega) rfl]
      refine ax_iinc (lv' := [(1, vi (i + 1)), (0, vr f)]) d_Mo_positive_23 rfl (by decide) ⟨(by omega), (by omega)⟩ rfl ?_
      refine aw_goto (tgt := 2) d_Mo_positive_26 (by decide) ?_
      exact ih_2 _ (by omega) (i + 1) (by omega) rfl
  refine ax_hp (h' := sD h (rowTo I f 0 (fun j => (I f j + 8380417) % 8380417)) L) (by rw [rowTo_0]) ?_
  exact lp_2 _ 0 (by omega) rfl
set_option maxHeartbeats 800000 in
set_option maxRecDepth 100000 in
theorem c_Mo_centre {l : Launch} {G : a_G} {h : Hp} {v : Int} (hv : 0 ≤ v ∧ v < 8380417) : AW l G M_Mo_centre (Rx (some (vi (cen v))) h) 0 (a_ar 0 [vi v]) [] (h) := by
  suffices key : ∀ P : a_R → Hp → Prop, (∀ u, u = cen v → P (.inl (some (vi u))) h) → AW l G M_Mo_centre P 0 [(0, vi v)] [] (h) from key _ (fun u e => ⟨by rw [e], rfl⟩)
  intro P hP
  refine aw_iload_n d_Mo_centre_0 rfl rfl ?_
  refine aw_ldcw (n := 4190208) d_Mo_centre_1 lc_Mo_263 ⟨by decide, by decide⟩ ?_
  refine aw_icmp_le (tgt := 15) d_Mo_centre_4 (by decide) (fun c_4 => ?_) (fun c_4 => ?_)
  · skip
    refine aw_iload_n d_Mo_centre_15 rfl rfl ?_
    exact aw_iret d_Mo_centre_16 rfl (hP _ ((if_neg (by omega)).symm))
  · skip
    refine aw_iload_n d_Mo_centre_7 rfl rfl ?_
    refine aw_ldcw (n := 8380417) d_Mo_centre_8 lc_Mo_264 ⟨by decide, by decide⟩ ?_
    refine ax_isub d_Mo_centre_11 ⟨(by omega), (by omega)⟩ ?_
    refine aw_goto (tgt := 16) d_Mo_centre_12 (by decide) ?_
    exact aw_iret d_Mo_centre_16 rfl (hP _ ((if_pos (by omega)).symm))
set_option maxHeartbeats 800000 in
set_option maxRecDepth 100000 in
theorem c_Mo_few {l : Launch} {G : a_G} {h : Hp} {I L : Nat → Int → Int} {g b f : Nat} (S : Shp h) (Zg : RwO h g) (Zb : RwO h b) (Zf : RwO h f) (hB : ∀ j, 0 ≤ j → j < 256 → -1 ≤ I b j ∧ I b j ≤ 1) (hF : ∀ j, 0 ≤ j → j < 256 → -8192 ≤ I f j ∧ I f j ≤ 8192) : AW l G M_Mo_few (Ret (fun _ : Nat → Int → Int => none) (fun K => sD h (rowTo I g 256 (few (I b) (I f))) K) (fun K => ∀ x j, x ≠ 201 → K x j = L x j)) 0 (a_ar 0 [vr 175, vr g, vr b, vr f]) [] (sD h I L) := by
  suffices key : ∀ P : a_R → Hp → Prop, (∀ K : Nat → Int → Int, (∀ x j, x ≠ 201 → K x j = L x j) → P (.inl none) (sD h (rowTo I g 256 (few (I b) (I f))) K)) → AW l G M_Mo_few P 0 [(0, vr 175), (1, vr g), (2, vr b), (3, vr f)] [] (sD h I L) from key _ (fun K q => ⟨K, rfl, rfl, q⟩)
  intro P hP
  refine aw_iconst d_Mo_few_0 ⟨by decide, by decide⟩ ?_
  refine aw_istore (lv' := [(4, vi 0), (0, vr 175), (1, vr g), (2, vr b), (3, vr f)]) d_Mo_few_1 (by decide) rfl ?_
  have lp_3 : ∀ (n_ : Nat) (i : Int) (K : Nat → Int → Int), (0 ≤ i ∧ i ≤ 256) → (∀ x j, x ≠ 201 → K x j = L x j) → (∀ k, 0 ≤ k → k < i → K 201 k = (fun _ => 0 : Int → Int) k) → ((256 - i).toNat) = n_ → AW l G M_Mo_few P 3 [(4, vi i), (3, vr f), (2, vr b), (1, vr g), (0, vr 175)] [] (sD h I K) := by
    intro n_
    induction n_ using Nat.strongRecOn with
    | _ n_ ih_3 =>
    intro i K hi f1 g1 hm_3
    refine aw_iload d_Mo_few_3 rfl ?_
    refine aw_sipush d_Mo_few_5 ⟨by decide, by decide⟩ (by decide) ?_
    refine aw_icmp_ge (tgt := 25) d_Mo_few_8 (by decide) (fun c_8 => ?_) (fun c_8 => ?_)
    · skip
      refine aw_iconst d_Mo_few_25 ⟨by decide, by decide⟩ ?_
      refine aw_istore (lv' := [(4, vi 0), (3, vr f), (2, vr b), (1, vr g), (0, vr 175)]) d_Mo_few_26 (by decide) rfl ?_
      have lp_28 : ∀ (n_ : Nat) (a : Int) (M : Nat → Int → Int), (0 ≤ a ∧ a ≤ 256) → (∀ x j, x ≠ 201 → M x j = L x j) → (∀ k, 0 ≤ k → k < 256 → M 201 k = fwS (I b) (I f) k a.toNat) → ((256 - a).toNat) = n_ → AW l G M_Mo_few P 28 [(4, vi a), (3, vr f), (2, vr b), (1, vr g), (0, vr 175)] [] (sD h I M) := by
        intro n_
        induction n_ using Nat.strongRecOn with
        | _ n_ ih_28 =>
        intro a M ha f2 g2 hm_28
        refine aw_iload d_Mo_few_28 rfl ?_
        refine aw_sipush d_Mo_few_30 ⟨by decide, by decide⟩ (by decide) ?_
        refine aw_icmp_ge (tgt := 127) d_Mo_few_33 (by decide) (fun c_33 => ?_) (fun c_33 => ?_)
        · skip
          refine aw_iconst d_Mo_few_127 ⟨by decide, by decide⟩ ?_
          refine aw_istore (lv' := [(4, vi 0), (3, vr f), (2, vr b), (1, vr g), (0, vr 175)]) d_Mo_few_128 (by decide) rfl ?_
          have lp_130 : ∀ (n_ : Nat) (m : Int), (0 ≤ m ∧ m ≤ 256) → ((256 - m).toNat) = n_ → AW l G M_Mo_few P 130 [(4, vi m), (3, vr f), (2, vr b), (1, vr g), (0, vr 175)] [] (sD h (rowTo I g m (few (I b) (I f))) M) := by
            intro n_
            induction n_ using Nat.strongRecOn with
            | _ n_ ih_130 =>
            intro m hm hm_130
            refine aw_iload d_Mo_few_130 rfl ?_
            refine aw_sipush d_Mo_few_132 ⟨by decide, by decide⟩ (by decide) ?_
            refine aw_icmp_ge (tgt := 171) d_Mo_few_135 (by decide) (fun c_135 => ?_) (fun c_135 => ?_)
            · skip
              exact aw_vret d_Mo_few_171 rfl (by rw [show m = 256 by omega]; exact hP M f2)
            · skip
              have s_ := g2 m hm.1 (by omega)
              rw [show a.toNat = 256 by omega] at s_
              have t_ := tmodb (M 201 m)
              refine aw_aload_n d_Mo_few_138 rfl rfl ?_
              refine aw_iload d_Mo_few_139 rfl ?_
              refine aw_aload_n d_Mo_few_141 rfl rfl ?_
              refine ax_getR (b := 201) d_Mo_few_142 fd_Mo_65 (k_175 S) (r_175_24 S) ?_
              refine aw_iload d_Mo_few_145 rfl ?_
              refine ax_lalde (x := M 201 m) d_Mo_few_147 (k_201 S) (by omega) (by rw [n_201 S]; omega) (rfl) ?_
              refine aw_ldc2 (n := 8380417) d_Mo_few_148 lc_Mo_256 ⟨by decide, by decide⟩ ?_
              refine aw_lrem d_Mo_few_151 (by decide) ?_
              refine aw_ldc2 (n := 8380417) d_Mo_few_152 lc_Mo_256 ⟨by decide, by decide⟩ ?_
              refine ax_ladd d_Mo_few_155 ⟨(by omega), (by omega)⟩ ?_
              refine aw_ldc2 (n := 8380417) d_Mo_few_156 lc_Mo_256 ⟨by decide, by decide⟩ ?_
              refine ax_lrem d_Mo_few_159 (by omega) (by omega) ?_
              refine ax_l2i d_Mo_few_160 ⟨(by omega), (by omega)⟩ ?_
              refine ax_S (st := [vi m, vr g]) (as := [vi (((Int.tmod (M 201 m) 8380417) + 8380417) % 8380417)]) (v := some (vi (cen (((Int.tmod (M 201 m) 8380417) + 8380417) % 8380417)))) (h' := sD h (rowTo I g m (few (I b) (I f))) M) d_Mo_few_161 cs_Mo_few_161 (c_Mo_centre (by omega)) rfl rfl rfl ?_
              show AW l G M_Mo_few P 164 [(4, vi m), (3, vr f), (2, vr b), (1, vr g), (0, vr 175)] [vi (cen (((Int.tmod (M 201 m) 8380417) + 8380417) % 8380417)), vi m, vr g] (sD h (rowTo I g m (few (I b) (I f))) M)
              refine ax_iast d_Mo_few_164 Zg.1 Zg.2.1 (by omega) (by omega) ?_
              rw [rowTo_1 (by omega) (show _ = few (I b) (I f) m by rw [tmodq, s_]; rfl)]
              refine ax_iinc (lv' := [(4, vi (m + 1)), (3, vr f), (2, vr b), (1, vr g), (0, vr 175)]) d_Mo_few_165 rfl (by decide) ⟨(by omega), (by omega)⟩ rfl ?_
              refine aw_goto (tgt := 130) d_Mo_few_168 (by decide) ?_
              exact ih_130 _ (by omega) (m + 1) (by omega) rfl
          refine ax_hp (h' := sD h (rowTo I g 0 (few (I b) (I f))) M) (by rw [rowTo_0]) ?_
          exact lp_130 _ 0 (by omega) rfl
        · skip
          refine aw_iconst d_Mo_few_36 ⟨by decide, by decide⟩ ?_
          refine aw_istore (lv' := [(5, vi 0), (4, vi a), (3, vr f), (2, vr b), (1, vr g), (0, vr 175)]) d_Mo_few_37 (by decide) rfl ?_
          have lp_39 : ∀ (n_ : Nat) (c : Int) (N : Nat → Int → Int), (0 ≤ c ∧ c ≤ 256) → (∀ x j, x ≠ 201 → N x j = L x j) → (∀ k, 0 ≤ k → k < 256 → N 201 k = fwP (I b) (I f) k a c) → ((256 - c).toNat) = n_ → AW l G M_Mo_few P 39 [(5, vi c), (4, vi a), (3, vr f), (2, vr b), (1, vr g), (0, vr 175)] [] (sD h I N) := by
            intro n_
            induction n_ using Nat.strongRecOn with
            | _ n_ ih_39 =>
            intro c N hc f3 g3 hm_39
            refine aw_iload d_Mo_few_39 rfl ?_
            refine aw_sipush d_Mo_few_41 ⟨by decide, by decide⟩ (by decide) ?_
            refine aw_icmp_ge (tgt := 121) d_Mo_few_44 (by decide) (fun c_44 => ?_) (fun c_44 => ?_)
            · skip
              refine ax_iinc (lv' := [(4, vi (a + 1)), (5, vi c), (3, vr f), (2, vr b), (1, vr g), (0, vr 175)]) d_Mo_few_121 rfl (by decide) ⟨(by omega), (by omega)⟩ rfl ?_
              refine aw_goto (tgt := 28) d_Mo_few_124 (by decide) ?_
              refine aw_sub (lv' := [(4, vi (a + 1)), (3, vr f), (2, vr b), (1, vr g), (0, vr 175)]) (by simp) ?_
              exact ih_28 _ (by omega) (a + 1) N (by omega) (f3) (fun k x y => (g3 k x y).trans (by first | exact fwP_skip ha.1 (by omega) | (rw [show c = 256 by omega]; exact fwP_end x y ha.1 (by omega)))) rfl
            · skip
              refine aw_aload_n d_Mo_few_47 rfl rfl ?_
              refine aw_iload d_Mo_few_48 rfl ?_
              refine ax_ialde (x := I b a) d_Mo_few_50 Zb.1 (by omega) (by omega) (rfl) ?_
              refine aw_if_eq (tgt := 121) d_Mo_few_51 (by decide) (fun c_51 => ?_) (fun c_51 => ?_)
              · skip
                refine ax_iinc (lv' := [(4, vi (a + 1)), (5, vi c), (3, vr f), (2, vr b), (1, vr g), (0, vr 175)]) d_Mo_few_121 rfl (by decide) ⟨(by omega), (by omega)⟩ rfl ?_
                refine aw_goto (tgt := 28) d_Mo_few_124 (by decide) ?_
                refine aw_sub (lv' := [(4, vi (a + 1)), (3, vr f), (2, vr b), (1, vr g), (0, vr 175)]) (by simp) ?_
                exact ih_28 _ (by omega) (a + 1) N (by omega) (f3) (fun k x y => (g3 k x y).trans (by first | exact fwP_skip ha.1 (by omega) | (rw [show c = 256 by omega]; exact fwP_end x y ha.1 (by omega)))) rfl
              · skip
                have b_ := hB a ha.1 (by omega)
                have f_ := hF c hc.1 (by omega)
                have m_ := bm b_.1 b_.2 f_.1 f_.2
                refine aw_aload_n d_Mo_few_54 rfl rfl ?_
                refine aw_iload d_Mo_few_55 rfl ?_
                refine ax_ialde (x := I b a) d_Mo_few_57 Zb.1 (by omega) (by omega) (rfl) ?_
                refine aw_i2l d_Mo_few_58 ?_
                refine aw_aload_n d_Mo_few_59 rfl rfl ?_
                refine aw_iload d_Mo_few_60 rfl ?_
                refine ax_ialde (x := I f c) d_Mo_few_62 Zf.1 (by omega) (by omega) (rfl) ?_
                refine aw_i2l d_Mo_few_63 ?_
                refine ax_lmul d_Mo_few_64 ⟨(by omega), (by omega)⟩ ?_
                refine aw_lstore (lv' := [(6, vl ((I b a) * (I f c))), (5, vi c), (4, vi a), (3, vr f), (2, vr b), (1, vr g), (0, vr 175)]) d_Mo_few_65 (by decide) rfl ?_
                refine aw_iload d_Mo_few_67 rfl ?_
                refine aw_iload d_Mo_few_69 rfl ?_
                refine ax_iadd d_Mo_few_71 ⟨(by omega), (by omega)⟩ ?_
                refine aw_sipush d_Mo_few_72 ⟨by decide, by decide⟩ (by decide) ?_
                refine aw_icmp_ge (tgt := 96) d_Mo_few_75 (by decide) (fun c_75 => ?_) (fun c_75 => ?_)
                · skip
                  have p_ := fwP_b (B := I b) (F := I f) (k := a + c - 256) (i := a) (j := c) (by omega) (by omega) ha.1 (by omega) hB hF
                  rw [← g3 _ (by omega) (by omega)] at p_
                  refine aw_aload_n d_Mo_few_96 rfl rfl ?_
                  refine ax_getR (b := 201) d_Mo_few_97 fd_Mo_65 (k_175 S) (r_175_24 S) ?_
                  refine aw_iload d_Mo_few_100 rfl ?_
                  refine aw_iload d_Mo_few_102 rfl ?_
                  refine ax_iadd d_Mo_few_104 ⟨(by omega), (by omega)⟩ ?_
                  refine aw_sipush d_Mo_few_105 ⟨by decide, by decide⟩ (by decide) ?_
                  refine ax_isub d_Mo_few_108 ⟨(by omega), (by omega)⟩ ?_
                  refine aw_dup2 d_Mo_few_109 rfl rfl ?_
                  refine ax_lalde (x := N 201 ((a + c) - 256)) d_Mo_few_110 (k_201 S) (by omega) (by rw [n_201 S]; omega) (rfl) ?_
                  refine aw_lload d_Mo_few_111 rfl ?_
                  refine ax_lsub d_Mo_few_113 ⟨(by omega), (by omega)⟩ ?_
                  refine ax_last d_Mo_few_114 (k_201 S) (by decide) (by omega) (by rw [n_201 S]; omega) ?_
                  refine ax_iinc (lv' := [(5, vi (c + 1)), (6, vl ((I b a) * (I f c))), (4, vi a), (3, vr f), (2, vr b), (1, vr g), (0, vr 175)]) d_Mo_few_115 rfl (by decide) ⟨(by omega), (by omega)⟩ rfl ?_
                  refine aw_goto (tgt := 39) d_Mo_few_118 (by decide) ?_
                  refine aw_sub (lv' := [(5, vi (c + 1)), (4, vi a), (3, vr f), (2, vr b), (1, vr g), (0, vr 175)]) (by simp) ?_
                  exact ih_39 _ (by omega) (c + 1) (a_up N 201 ((a + c) - 256) ((N 201 ((a + c) - 256)) - ((I b a) * (I f c)))) (by omega) (up_frame f3) (fun k x y => by rw [fwP_step x y ha.1 (by omega) hc.1 (by omega), ← g3 k x y]; by_cases q : k = a + c - 256; exact (by rw [q, a_up_at, if_neg (by omega), if_pos rfl]); exact (by rw [a_up_ne (Or.inr q), if_neg (by omega), if_neg q])) rfl
                · skip
                  have p_ := fwP_b (B := I b) (F := I f) (k := a + c) (i := a) (j := c) (by omega) (by omega) ha.1 (by omega) hB hF
                  rw [← g3 _ (by omega) (by omega)] at p_
                  refine aw_aload_n d_Mo_few_78 rfl rfl ?_
                  refine ax_getR (b := 201) d_Mo_few_79 fd_Mo_65 (k_175 S) (r_175_24 S) ?_
                  refine aw_iload d_Mo_few_82 rfl ?_
                  refine aw_iload d_Mo_few_84 rfl ?_
                  refine ax_iadd d_Mo_few_86 ⟨(by omega), (by omega)⟩ ?_
                  refine aw_dup2 d_Mo_few_87 rfl rfl ?_
                  refine ax_lalde (x := N 201 (a + c)) d_Mo_few_88 (k_201 S) (by omega) (by rw [n_201 S]; omega) (rfl) ?_
                  refine aw_lload d_Mo_few_89 rfl ?_
                  refine ax_ladd d_Mo_few_91 ⟨(by omega), (by omega)⟩ ?_
                  refine ax_last d_Mo_few_92 (k_201 S) (by decide) (by omega) (by rw [n_201 S]; omega) ?_
                  refine aw_goto (tgt := 115) d_Mo_few_93 (by decide) ?_
                  refine ax_iinc (lv' := [(5, vi (c + 1)), (6, vl ((I b a) * (I f c))), (4, vi a), (3, vr f), (2, vr b), (1, vr g), (0, vr 175)]) d_Mo_few_115 rfl (by decide) ⟨(by omega), (by omega)⟩ rfl ?_
                  refine aw_goto (tgt := 39) d_Mo_few_118 (by decide) ?_
                  refine aw_sub (lv' := [(5, vi (c + 1)), (4, vi a), (3, vr f), (2, vr b), (1, vr g), (0, vr 175)]) (by simp) ?_
                  exact ih_39 _ (by omega) (c + 1) (a_up N 201 (a + c) ((N 201 (a + c)) + ((I b a) * (I f c)))) (by omega) (up_frame f3) (fun k x y => by rw [fwP_step x y ha.1 (by omega) hc.1 (by omega), ← g3 k x y]; by_cases q : k = a + c; exact (by rw [q, a_up_at, if_pos rfl]); exact (by rw [a_up_ne (Or.inr q), if_neg q, if_neg (by omega)])) rfl
          skip
          exact lp_39 _ 0 M (by omega) (f2) (fun k x y => (g2 k x y).trans (fwP_0 x y (by omega)).symm) rfl
      skip
      exact lp_28 _ 0 K (by omega) (f1) (fun k x y => g1 k x (by omega)) rfl
    · skip
      refine aw_aload_n d_Mo_few_11 rfl rfl ?_
      refine ax_getR (b := 201) d_Mo_few_12 fd_Mo_65 (k_175 S) (r_175_24 S) ?_
      refine aw_iload d_Mo_few_15 rfl ?_
      refine aw_lconst (x := 0) d_Mo_few_17 ⟨by decide, by decide⟩ (by decide) ?_
      refine ax_last d_Mo_few_18 (k_201 S) (by decide) (by omega) (by rw [n_201 S]; omega) ?_
      refine ax_iinc (lv' := [(4, vi (i + 1)), (3, vr f), (2, vr b), (1, vr g), (0, vr 175)]) d_Mo_few_19 rfl (by decide) ⟨(by omega), (by omega)⟩ rfl ?_
      refine aw_goto (tgt := 3) d_Mo_few_22 (by decide) ?_
      exact ih_3 _ (by omega) (i + 1) (a_up K 201 i 0) (by omega) (up_frame f1) (row_step g1 rfl) rfl
  skip
  refine aw_sub (lv' := [(4, vi 0), (3, vr f), (2, vr b), (1, vr g), (0, vr 175)]) (by simp) ?_
  exact lp_3 _ 0 L (by omega) (fun _ _ _ => rfl) (fun j a b => by omega) rfl
