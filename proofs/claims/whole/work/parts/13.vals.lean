/-! reads with their values named; bits as numbers -/
section AV2
variable {l : Launch} {G : a_G} {M M' : a_M} {P P' : a_R → Hp → Prop} {pc : Nat} {lv lv' : List (Nat × AV)} {st : List AV} {h : Hp} {I L : Nat → Int → Int}
theorem ax_ialde {a : Nat} {j x : Int} (hd : decode (a_cc M) pc = .ok (.iaload, 1)) (hk : hK h a = 1) (h0 : 0 ≤ j) (h1 : j < hN h a) (hx : I a j = x) (k : AW l G M P (pc + 1) lv (vi x :: st) (sD h I L)) : AW l G M P pc lv (vi j :: vr a :: st) (sD h I L) := by
  subst hx
  exact ax_iald hd hk h0 h1 k
theorem ax_balde {a : Nat} {j x : Int} (hd : decode (a_cc M) pc = .ok (.baload, 1)) (hk : hK h a = 2) (h0 : 0 ≤ j) (h1 : j < hN h a) (hx : I a j = x) (k : AW l G M P (pc + 1) lv (vi x :: st) (sD h I L)) : AW l G M P pc lv (vi j :: vr a :: st) (sD h I L) := by
  subst hx
  exact ax_bald hd hk h0 h1 k
theorem ax_zalde {a : Nat} {j x : Int} (hd : decode (a_cc M) pc = .ok (.baload, 1)) (hk : hK h a = 3) (h0 : 0 ≤ j) (h1 : j < hN h a) (hx : I a j = x) (k : AW l G M P (pc + 1) lv (vi x :: st) (sD h I L)) : AW l G M P pc lv (vi j :: vr a :: st) (sD h I L) := by
  subst hx
  exact ax_zald hd hk h0 h1 k
theorem ax_lalde {a : Nat} {j x : Int} (hd : decode (a_cc M) pc = .ok (.laload, 1)) (hk : hK h a = 4) (h0 : 0 ≤ j) (h1 : j < hN h a) (hx : L a j = x) (k : AW l G M P (pc + 1) lv (vl x :: st) (sD h I L)) : AW l G M P pc lv (vi j :: vr a :: st) (sD h I L) := by
  subst hx
  exact ax_lald hd hk h0 h1 k
theorem ax_getIe {a i ci f : Nat} {x : Int} (hd : decode (a_cc M) pc = .ok (.getfield i, 3)) (F : a_Fd (a_ow M) i ci f 0) (hk : hK h a = 20 + ci) (hx : I a f = x) (k : AW l G M P (pc + 3) lv (vi x :: st) (sD h I L)) : AW l G M P pc lv (vr a :: st) (sD h I L) := by
  subst hx
  exact ax_getI hd F hk k
theorem ax_getLe {a i ci f : Nat} {x : Int} (hd : decode (a_cc M) pc = .ok (.getfield i, 3)) (F : a_Fd (a_ow M) i ci f 1) (hk : hK h a = 20 + ci) (hx : L a f = x) (k : AW l G M P (pc + 3) lv (vl x :: st) (sD h I L)) : AW l G M P pc lv (vr a :: st) (sD h I L) := by
  subst hx
  exact ax_getL hd F hk k
/-- what stands in the machine: the data's own bounds -/
theorem ax_ok (k : okH (sD h I L) → hX h ≤ a_NX → hU h ≤ a_US → (∀ q ∈ lv, okv q.2) → AW l G M P pc lv st (sD h I L)) : AW l G M P pc lv st (sD h I L) := aw_ok (fun h1 h2 _ h4 h5 => k h1 h4 h5 h2)
end AV2
-- bits
theorem a_bvI (x : Int) : (Int32.ofInt x).toBitVec.toNat = (x % 4294967296).toNat := by
  show (BitVec.ofInt 32 x).toNat = _
  rw [BitVec.toNat_ofInt]
  rfl
theorem a_bvL (x : Int) : (Int64.ofInt x).toBitVec.toNat = (x % 18446744073709551616).toNat := by
  show (BitVec.ofInt 64 x).toNat = _
  rw [BitVec.toNat_ofInt]
  rfl
theorem a_and_pow (x : Int) (k : Nat) (hk : k ≤ 30) : a_and x (2 ^ k - 1) = x % 2 ^ k := by
  have hp : (2 : Nat) ^ k ≤ 2 ^ 30 := Nat.pow_le_pow_right (by decide) hk
  have hp1 : 0 < (2 : Nat) ^ k := Nat.pow_pos (by decide)
  have hpi : ((2 ^ k : Nat) : Int) = (2 : Int) ^ k := by push_cast; rfl
  have hm : (Int32.ofInt (2 ^ k - 1)).toBitVec.toNat = 2 ^ k - 1 := by
    rw [a_bvI, ← hpi]
    omega
  unfold a_and
  rw [pk_and _ k hm, nI_toInt (Nat.lt_of_lt_of_le (Nat.mod_lt _ hp1) (by omega)), a_bvI, Int.natCast_emod, Int.toNat_of_nonneg (by omega), hpi]
  exact Int.emod_emod_of_dvd x ⟨2 ^ (32 - k), by rw [← Int.pow_add, show k + (32 - k) = 32 by omega]; rfl⟩
theorem a_and_255 (x : Int) : a_and x 255 = x % 256 := a_and_pow x 8 (by decide)
theorem a_and_127 (x : Int) : a_and x 127 = x % 128 := a_and_pow x 7 (by decide)
theorem a_and_15 (x : Int) : a_and x 15 = x % 16 := a_and_pow x 4 (by decide)
theorem a_and_7 (x : Int) : a_and x 7 = x % 8 := a_and_pow x 3 (by decide)
theorem a_and_1 (x : Int) : a_and x 1 = x % 2 := a_and_pow x 1 (by decide)
theorem a_and_511 (x : Int) : a_and x 511 = x % 512 := a_and_pow x 9 (by decide)
theorem a_cnt32 : ∀ n : Nat, n < 32 → ((Int32.ofInt (n : Int) &&& 31).toBitVec.smod 32).toNat = n := by decide
theorem a_shr_pow {x : Int} (hx : okI x) (k : Nat) (hk : k < 32) : a_shr x k = x / 2 ^ k := by
  unfold a_shr
  rw [pk_shr _ _ k (a_cnt32 k hk), a_i32 hx, Int.shiftRight_eq_div_pow]
  push_cast
  rfl
theorem a_shl_pow (x : Int) (k : Nat) (hk : k < 32) : a_shl x k = a_w32 (x * 2 ^ k) := by
  unfold a_shl
  have h := pk_shl (Int32.ofInt x) (Int32.ofInt (k : Int) &&& 31) k (a_cnt32 k hk)
  rw [← a_i32 (a_w32_in (x * 2 ^ k)), a_o32]
  congr 1
  apply Int32.toBitVec_inj.1
  apply BitVec.eq_of_toNat_eq
  rw [h, a_bvI, a_bvI]
  have e0 : 0 ≤ x % 4294967296 := Int.emod_nonneg _ (by decide)
  have e1 : ((x * 2 ^ k) % 4294967296) = ((x % 4294967296) * 2 ^ k) % 4294967296 := by rw [Int.mul_emod (x % 4294967296) (2 ^ k), Int.emod_emod_of_dvd _ (Int.dvd_refl _), ← Int.mul_emod]
  have e2 : (((x % 4294967296).toNat * 2 ^ k % 2 ^ 32 : Nat) : Int) = (x * 2 ^ k) % 4294967296 := by
    rw [e1, Int.natCast_emod, Int.natCast_mul, Int.toNat_of_nonneg e0, Int.natCast_pow]
    rfl
  omega
section AV3
variable {l : Launch} {G : a_G} {M : a_M} {P : a_R → Hp → Prop} {pc : Nat} {lv lv' : List (Nat × AV)} {st : List AV} {h h' : Hp}
theorem ax_ti {x y : Int} (e : y = x) (k : AW l G M P pc lv (vi x :: st) h) : AW l G M P pc lv (vi y :: st) h := by subst e; exact k
theorem ax_tl {x y : Int} (e : y = x) (k : AW l G M P pc lv (vl x :: st) h) : AW l G M P pc lv (vl y :: st) h := by subst e; exact k
theorem ax_lv (e : lv = lv') (k : AW l G M P pc lv' st h) : AW l G M P pc lv st h := by subst e; exact k
theorem ax_hp (e : h = h') (k : AW l G M P pc lv st h') : AW l G M P pc lv st h := by subst e; exact k
end AV3
theorem a_nn {z : Int32} {n : Nat} (h : z.toBitVec.toNat = n) (hn : n < 2147483648) : z.toInt = n := by
  show z.toBitVec.toInt = n
  rw [BitVec.toInt_eq_toNat_of_lt (by omega), h]
theorem a_nnL {z : Int64} {n : Nat} (h : z.toBitVec.toNat = n) (hn : n < 9223372036854775808) : z.toInt = n := by
  show z.toBitVec.toInt = n
  rw [BitVec.toInt_eq_toNat_of_lt (by omega), h]
theorem a_and' {x m c : Int} (k : Nat) (hm : m = 2 ^ k - 1) (hc : c = 2 ^ k) (hk : k ≤ 30) : a_and x m = x % c := by
  subst hm; subst hc; exact a_and_pow x k hk
theorem a_shr' {x s c : Int} (k : Nat) (hs : s = k) (hc : c = 2 ^ k) (hk : k < 32) (hx : okI x) : a_shr x s = x / c := by
  subst hs; subst hc; exact a_shr_pow hx k hk
theorem a_shl' {x s c : Int} (k : Nat) (hs : s = k) (hc : c = 2 ^ k) (hk : k < 32) (h1 : -2147483648 ≤ x * c) (h2 : x * c < 2147483648) : a_shl x s = x * c := by
  subst hs; subst hc; rw [a_shl_pow x k hk, a_w32_id h1 h2]
theorem a_cntu : ∀ n : Nat, n < 32 → (((Int32.ofInt (n : Int)).toUInt32 &&& Int32.toUInt32 31).toBitVec % 32).toNat = n := by decide
theorem a_ushr' {x s c : Int} (k : Nat) (hs : s = k) (hc : c = 2 ^ k) (hk : k < 32) (h1 : 0 ≤ x) (h2 : x < 2147483648) : a_ushr x s = x / c := by
  subst hs; subst hc
  unfold a_ushr
  have h := pk_ushr (Int32.ofInt x) (Int32.ofInt (k : Int)) k (a_cntu k hk)
  rw [a_bvI, Int.emod_eq_of_lt h1 (by omega)] at h
  rw [a_nn h (Nat.lt_of_le_of_lt (Nat.div_le_self _ _) (by omega)), Int.natCast_ediv, Int.toNat_of_nonneg h1, Int.natCast_pow]
  rfl
theorem a_or' {x y c : Int} (k : Nat) (hc : c = 2 ^ k) (hk : k < 31) (x0 : 0 ≤ x) (x1 : x < c) (y0 : 0 ≤ y) (y1 : y % c = 0) (y2 : y < 2147483648) : a_or x y = x + y := by
  have cp : (0 : Int) < c := by rw [hc]; exact Int.pow_pos (by decide)
  have cn : ((2 ^ k : Nat) : Int) = c := by rw [hc, Int.natCast_pow]; rfl
  have c31 : c ≤ 2147483648 := by
    have : (2 : Nat) ^ k ≤ 2 ^ 31 := Nat.pow_le_pow_right (by decide) (by omega)
    omega
  have ey : y = c * (y / c) := by have := Int.mul_ediv_add_emod y c; omega
  have q0 : 0 ≤ y / c := Int.ediv_nonneg y0 (by omega)
  have eyn : y.toNat = 2 ^ k * (y / c).toNat := by
    have e1 : ((2 ^ k * (y / c).toNat : Nat) : Int) = y := by rw [Int.natCast_mul, Int.toNat_of_nonneg q0, cn]; exact ey.symm
    omega
  have hx : (Int32.ofInt x).toBitVec.toNat = x.toNat := by rw [a_bvI, Int.emod_eq_of_lt x0 (by omega)]
  have hy : (Int32.ofInt y).toBitVec.toNat = 2 ^ k * (y / c).toNat := by rw [a_bvI, Int.emod_eq_of_lt y0 (by omega), eyn]
  have hxk : x.toNat < 2 ^ k := by omega
  have hs : (Int32.ofInt x ||| Int32.ofInt y).toBitVec.toNat = x.toNat + y.toNat := by
    rw [Int32.toBitVec_or, BitVec.toNat_or, hx, hy, eyn, Nat.or_comm, ← Nat.two_pow_add_eq_or_of_lt hxk, Nat.add_comm]
  have hlt : x.toNat + y.toNat < 2147483648 := by
    rw [← hs]
    have h1 : (Int32.ofInt x ||| Int32.ofInt y).toBitVec.toNat = x.toNat ||| y.toNat := by rw [Int32.toBitVec_or, BitVec.toNat_or, hx, hy, eyn]
    rw [h1]
    exact Nat.or_lt_two_pow (n := 31) (by omega) (by omega)
  unfold a_or
  rw [a_nn hs hlt]
  omega
theorem a_land' {x m c : Int} (k : Nat) (hm : m = 2 ^ k - 1) (hc : c = 2 ^ k) (hk : k ≤ 62) : a_land x m = x % c := by
  have hp : (2 : Nat) ^ k ≤ 2 ^ 62 := Nat.pow_le_pow_right (by decide) hk
  have hp1 : 0 < (2 : Nat) ^ k := Nat.pow_pos (by decide)
  have hpi : ((2 ^ k : Nat) : Int) = (2 : Int) ^ k := by push_cast; rfl
  have hm2 : (Int64.ofInt m).toBitVec.toNat = 2 ^ k - 1 := by
    rw [a_bvL, hm, ← hpi]
    omega
  have h : (Int64.ofInt x &&& Int64.ofInt m).toBitVec.toNat = (x % 18446744073709551616).toNat % 2 ^ k := by
    rw [Int64.toBitVec_and, BitVec.toNat_and, hm2, a_bvL, Nat.and_two_pow_sub_one_eq_mod]
  unfold a_land
  rw [a_nnL h (Nat.lt_of_lt_of_le (Nat.mod_lt _ hp1) (by omega)), Int.natCast_emod, Int.toNat_of_nonneg (by omega), hpi, hc]
  exact Int.emod_emod_of_dvd x ⟨2 ^ (64 - k), by rw [← Int.pow_add, show k + (64 - k) = 64 by omega]; rfl⟩
theorem a_w8w8 (x : Int) : a_w8 (a_w8 x) = a_w8 x := by unfold a_w8; omega
theorem a_w8_id {x : Int} (h1 : -128 ≤ x) (h2 : x < 128) : a_w8 x = x := by unfold a_w8; omega
theorem a_w8m (x : Int) : a_w8 (x % 256) = a_w8 x := by unfold a_w8; omega
theorem a_m8w (x : Int) : a_w8 x % 256 = x % 256 := by unfold a_w8; omega
