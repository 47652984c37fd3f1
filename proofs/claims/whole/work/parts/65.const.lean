/-! the reference's constants: primes, bits -/
def prP (n : Int) : Prop := ∀ d, 2 ≤ d → d * d ≤ n → n % d ≠ 0
theorem dd_le {d : Int} (h0 : 0 ≤ d) (h1 : d ≤ 40) : 0 ≤ d * d ∧ d * d ≤ 1600 := ⟨Int.mul_nonneg h0 h0, Int.le_trans (Int.mul_le_mul h1 h1 h0 (by decide)) (by decide)⟩
theorem dd_ge {d : Int} (h0 : 32 ≤ d) : 1024 ≤ d * d := Int.le_trans (by decide : (1024 : Int) ≤ 32 * 32) (Int.mul_le_mul h0 h0 (by decide) (by omega))
theorem dd_mono {d e : Int} (h0 : 0 ≤ d) (h1 : d ≤ e) : d * d ≤ e * e := Int.mul_le_mul h1 h1 h0 (by omega)
def bvS : Nat → Int
  | 0 => 1
  | k + 1 => if bvS k < 128 then 2 * bvS k else a_xor (2 * bvS k % 256) 113
theorem bvS_b : ∀ k, 0 ≤ bvS k ∧ bvS k < 256
  | 0 => ⟨by show (0 : Int) ≤ 1; decide, by show (1 : Int) < 256; decide⟩
  | k + 1 => by
    have h := bvS_b k
    show 0 ≤ (if bvS k < 128 then 2 * bvS k else a_xor (2 * bvS k % 256) 113) ∧ (if bvS k < 128 then 2 * bvS k else a_xor (2 * bvS k % 256) 113) < 256
    split
    · omega
    · exact a_xorb (by omega) (by decide)
set_option maxHeartbeats 800000 in
set_option maxRecDepth 100000 in
theorem c_Mo_prime {l : Launch} {G : a_G} {h : Hp} {n : Int} (hn : 0 ≤ n ∧ n ≤ 1000) : AW l G M_Mo_prime (Ret (fun u : Int => some (vi u)) (fun _ => h) (fun u => (u = 0 ∨ u = 1) ∧ (u = 1 ↔ prP n))) 0 (a_ar 0 [vi n]) [] (h) := by
  suffices key : ∀ P : a_R → Hp → Prop, (∀ v : Int, (v = 0 ∨ v = 1) → (v = 1 ↔ prP n) → P (.inl (some (vi v))) h) → AW l G M_Mo_prime P 0 [(0, vi n)] [] (h) from key _ (fun v q1 q2 => ⟨v, rfl, rfl, q1, q2⟩)
  intro P hP
  refine aw_iconst d_Mo_prime_0 ⟨by decide, by decide⟩ ?_
  refine aw_istore_n (lv' := [(1, vi 2), (0, vi n)]) d_Mo_prime_1 rfl (by decide) rfl ?_
  have lp_2 : ∀ (n_ : Nat) (d : Int), (2 ≤ d ∧ d ≤ 40) → (∀ e, 2 ≤ e → e < d → n % e ≠ 0) → ((40 - d).toNat) = n_ → AW l G M_Mo_prime P 2 [(1, vi d), (0, vi n)] [] (h) := by
    intro n_
    induction n_ using Nat.strongRecOn with
    | _ n_ ih_2 =>
    intro d hd gg hm_2
    have sq := dd_le (d := d) (by omega) (by omega)
    refine aw_iload_n d_Mo_prime_2 rfl rfl ?_
    refine aw_iload_n d_Mo_prime_3 rfl rfl ?_
    refine ax_imul d_Mo_prime_4 ⟨(by omega), (by omega)⟩ ?_
    refine aw_iload_n d_Mo_prime_5 rfl rfl ?_
    refine aw_icmp_gt (tgt := 23) d_Mo_prime_6 (by decide) (fun c_6 => ?_) (fun c_6 => ?_)
    · skip
      refine aw_iconst d_Mo_prime_23 ⟨by decide, by decide⟩ ?_
      exact aw_zret d_Mo_prime_24 rfl ⟨by decide, by decide⟩ (hP _ (Or.inr rfl) ⟨fun _ e a b => gg e a (by rcases Int.lt_or_le e d with z | z; exact z; exact absurd (dd_mono (d := d) (e := e) (by omega) z) (by omega)), fun _ => rfl⟩)
    · skip
      have d32 : d < 32 := by rcases Int.lt_or_le d 32 with z | z; exact z; exact absurd (dd_ge z) (by omega)
      refine aw_iload_n d_Mo_prime_9 rfl rfl ?_
      refine aw_iload_n d_Mo_prime_10 rfl rfl ?_
      refine ax_irem d_Mo_prime_11 (by omega) (by omega) ?_
      refine aw_if_ne (tgt := 17) d_Mo_prime_12 (by decide) (fun c_12 => ?_) (fun c_12 => ?_)
      · skip
        refine ax_iinc (lv' := [(1, vi (d + 1)), (0, vi n)]) d_Mo_prime_17 rfl (by decide) ⟨(by omega), (by omega)⟩ rfl ?_
        refine aw_goto (tgt := 2) d_Mo_prime_20 (by decide) ?_
        exact ih_2 _ (by omega) (d + 1) (by omega) (fun e a b => by by_cases z : e = d; exact (by rw [z]; exact c_12); exact gg e a (by omega)) rfl
      · skip
        refine aw_iconst d_Mo_prime_15 ⟨by decide, by decide⟩ ?_
        exact aw_zret d_Mo_prime_16 rfl ⟨by decide, by decide⟩ (hP _ (Or.inl rfl) ⟨fun z => absurd z (by decide), fun z => absurd c_12 (z d hd.1 (by omega))⟩)
  exact lp_2 _ 2 (by omega) (fun e a b => by omega) rfl
set_option maxHeartbeats 800000 in
set_option maxRecDepth 100000 in
theorem c_Mo_bit {l : Launch} {G : a_G} {h : Hp} {t : Int} (ht : 0 ≤ t ∧ t < 1000) : AW l G M_Mo_bit (Rx (some (vi (bvS (t % 255).toNat % 2))) h) 0 (a_ar 0 [vi t]) [] (h) := by
  suffices key : ∀ P : a_R → Hp → Prop, (P (.inl (some (vi (bvS (t % 255).toNat % 2)))) h) → AW l G M_Mo_bit P 0 [(0, vi t)] [] (h) from key _ (⟨rfl, rfl⟩)
  intro P hP
  refine aw_iconst d_Mo_bit_0 ⟨by decide, by decide⟩ ?_
  refine aw_istore_n (lv' := [(1, vi 1), (0, vi t)]) d_Mo_bit_1 rfl (by decide) rfl ?_
  refine aw_iconst d_Mo_bit_2 ⟨by decide, by decide⟩ ?_
  refine aw_istore_n (lv' := [(2, vi 0), (1, vi 1), (0, vi t)]) d_Mo_bit_3 rfl (by decide) rfl ?_
  have lp_4 : ∀ (n_ : Nat) (k : Int) (v : Int), (0 ≤ k ∧ k ≤ t % 255) → (v = bvS k.toNat) → ((t % 255 - k).toNat) = n_ → AW l G M_Mo_bit P 4 [(2, vi k), (1, vi v), (0, vi t)] [] (h) := by
    intro n_
    induction n_ using Nat.strongRecOn with
    | _ n_ ih_4 =>
    intro k v hk hv hm_4
    have vb := bvS_b k.toNat
    refine aw_iload_n d_Mo_bit_4 rfl rfl ?_
    refine aw_iload_n d_Mo_bit_5 rfl rfl ?_
    refine aw_sipush d_Mo_bit_6 ⟨by decide, by decide⟩ (by decide) ?_
    refine ax_irem d_Mo_bit_9 (by omega) (by omega) ?_
    refine aw_icmp_ge (tgt := 43) d_Mo_bit_10 (by decide) (fun c_10 => ?_) (fun c_10 => ?_)
    · skip
      refine aw_iload_n d_Mo_bit_43 rfl rfl ?_
      refine aw_iconst d_Mo_bit_44 ⟨by decide, by decide⟩ ?_
      refine aw_iand d_Mo_bit_45 ?_
      refine ax_ti (x := v % 2) (a_and' 1 (by decide) (by decide) (by decide)) ?_
      exact aw_iret d_Mo_bit_46 rfl (by rw [show v % 2 = bvS (t % 255).toNat % 2 by rw [hv, show k = t % 255 by omega]]; exact hP)
    · skip
      refine aw_iload_n d_Mo_bit_13 rfl rfl ?_
      refine aw_sipush d_Mo_bit_14 ⟨by decide, by decide⟩ (by decide) ?_
      refine aw_icmp_ge (tgt := 26) d_Mo_bit_17 (by decide) (fun c_17 => ?_) (fun c_17 => ?_)
      · skip
        refine aw_iconst d_Mo_bit_26 ⟨by decide, by decide⟩ ?_
        refine aw_iload_n d_Mo_bit_27 rfl rfl ?_
        refine ax_imul d_Mo_bit_28 ⟨(by omega), (by omega)⟩ ?_
        refine aw_sipush d_Mo_bit_29 ⟨by decide, by decide⟩ (by decide) ?_
        refine aw_iand d_Mo_bit_32 ?_
        refine ax_ti (x := (2 * v) % 256) (a_and' 8 (by decide) (by decide) (by decide)) ?_
        refine aw_bipush d_Mo_bit_33 ⟨by decide, by decide⟩ (by decide) ?_
        refine aw_ixor d_Mo_bit_35 ?_
        refine aw_istore_n (lv' := [(1, vi (a_xor ((2 * v) % 256) 113)), (2, vi k), (0, vi t)]) d_Mo_bit_36 rfl (by decide) rfl ?_
        refine ax_iinc (lv' := [(2, vi (k + 1)), (1, vi (a_xor ((2 * v) % 256) 113)), (0, vi t)]) d_Mo_bit_37 rfl (by decide) ⟨(by omega), (by omega)⟩ rfl ?_
        refine aw_goto (tgt := 4) d_Mo_bit_40 (by decide) ?_
        exact ih_4 _ (by omega) (k + 1) (a_xor ((2 * v) % 256) 113) (by omega) (by rw [show (k + 1).toNat = k.toNat + 1 by omega]; show _ = (if bvS k.toNat < 128 then 2 * bvS k.toNat else a_xor (2 * bvS k.toNat % 256) 113); rw [if_neg (by omega), hv]) rfl
      · skip
        refine aw_iconst d_Mo_bit_20 ⟨by decide, by decide⟩ ?_
        refine aw_iload_n d_Mo_bit_21 rfl rfl ?_
        refine ax_imul d_Mo_bit_22 ⟨(by omega), (by omega)⟩ ?_
        refine aw_goto (tgt := 36) d_Mo_bit_23 (by decide) ?_
        refine aw_istore_n (lv' := [(1, vi (2 * v)), (2, vi k), (0, vi t)]) d_Mo_bit_36 rfl (by decide) rfl ?_
        refine ax_iinc (lv' := [(2, vi (k + 1)), (1, vi (2 * v)), (0, vi t)]) d_Mo_bit_37 rfl (by decide) ⟨(by omega), (by omega)⟩ rfl ?_
        refine aw_goto (tgt := 4) d_Mo_bit_40 (by decide) ?_
        exact ih_4 _ (by omega) (k + 1) (2 * v) (by omega) (by rw [show (k + 1).toNat = k.toNat + 1 by omega]; show _ = (if bvS k.toNat < 128 then 2 * bvS k.toNat else a_xor (2 * bvS k.toNat % 256) 113); rw [if_pos (by omega), hv]) rfl
  exact lp_4 _ 0 1 (by omega) (rfl) rfl
