/-! the relation of states -/
theorem xr32 (x : Int) : (Int32.ofInt x).toBitVec = BitVec.ofInt 32 x := rfl
theorem xr_w (x : Int) : ((BitVec.ofInt 32 x).setWidth 8).toNat = (x % 256).toNat := by
  rw [BitVec.toNat_setWidth, BitVec.toNat_ofInt]
  omega
theorem xr_m (z : BitVec 32) : z.toInt % 256 = ((z.setWidth 8).toNat : Int) := by
  rw [BitVec.toNat_setWidth, BitVec.toInt_eq_toNat_cond]
  split <;> omega
theorem a_xor8 {x y x' y' : Int} (hx : x % 256 = x' % 256) (hy : y % 256 = y' % 256) : a_xor x y % 256 = a_xor x' y' % 256 := by
  have e : ∀ x y : Int, a_xor x y % 256 = ((((BitVec.ofInt 32 x).setWidth 8) ^^^ ((BitVec.ofInt 32 y).setWidth 8)).toNat : Int) := fun x y => by
    show (BitVec.ofInt 32 x ^^^ BitVec.ofInt 32 y).toInt % 256 = _
    rw [xr_m, BitVec.setWidth_xor]
  rw [e, e]
  have q : ∀ a b : Int, a % 256 = b % 256 → (BitVec.ofInt 32 a).setWidth 8 = (BitVec.ofInt 32 b).setWidth 8 := fun a b h => BitVec.eq_of_toNat_eq (by rw [xr_w, xr_w, h])
  rw [q x x' hx, q y y' hy]
theorem a_xorb {x y : Int} (hx : 0 ≤ x ∧ x < 256) (hy : 0 ≤ y ∧ y < 256) : 0 ≤ a_xor x y ∧ a_xor x y < 256 := by
  have e : a_xor x y = (BitVec.ofInt 32 x ^^^ BitVec.ofInt 32 y).toInt := rfl
  have n : ∀ z : Int, 0 ≤ z ∧ z < 256 → (BitVec.ofInt 32 z).toNat < 2 ^ 8 := fun z h => by rw [BitVec.toNat_ofInt]; omega
  have b : (BitVec.ofInt 32 x ^^^ BitVec.ofInt 32 y).toNat < 2 ^ 8 := by
    rw [BitVec.toNat_xor]
    exact Nat.xor_lt_two_pow (n x hx) (n y hy)
  rw [e, BitVec.toInt_eq_toNat_cond]
  split <;> omega
/-- slot s of both sides -/
def Slo (I : Nat → Int → Int) (s : Nat) : Prop := (0 ≤ I 186 s ∧ I 186 s ≤ 8192) ∧ I (14 + 2 * s) 1 = I 186 s ∧ (∀ j, 0 ≤ j → j < I 186 s → I (15 + 2 * s) j % 256 = I (178 + s) j % 256) ∧ ∀ j, -128 ≤ I (178 + s) j ∧ I (178 + s) j ≤ 127
theorem Slo.keep {I I2 : Nat → Int → Int} {s : Nat} (h : Slo I s) (h1 : I2 186 s = I 186 s) (h2 : ∀ j, I2 (14 + 2 * s) j = I (14 + 2 * s) j) (h3 : ∀ j, I2 (15 + 2 * s) j = I (15 + 2 * s) j) (h4 : ∀ j, I2 (178 + s) j = I (178 + s) j) : Slo I2 s := by
  unfold Slo
  rw [h1, h2]
  exact ⟨h.1, h.2.1, fun j x y => by rw [h3, h4]; exact h.2.2.1 j x y, fun j => by rw [h4]; exact h.2.2.2 j⟩
def Tap (I : Nat → Int → Int) : Prop := (0 ≤ I 175 3 ∧ I 175 3 ≤ 8192) ∧ I 30 1 = I 175 3 ∧ ∀ j, 0 ≤ j → j < I 175 3 → I 31 j % 256 = I 176 j % 256
theorem Tap.keep {I I2 : Nat → Int → Int} (h : Tap I) (h1 : I2 175 3 = I 175 3) (h2 : ∀ j, I2 30 j = I 30 j) (h3 : ∀ j, I2 31 j = I 31 j) (h4 : ∀ j, I2 176 j = I 176 j) : Tap I2 := by
  unfold Tap
  rw [h1, h2]
  exact ⟨h.1, h.2.1, fun j x y => by rw [h3, h4]; exact h.2.2 j x y⟩
def Rel (I L : Nat → Int → Int) : Prop := Std I L ∧ RSt I L ∧ (∀ s : Nat, s < 8 → Slo I s) ∧ Tap I
theorem Rel.cb {I L : Nat → Int → Int} (h : Rel I L) : CB I := ⟨fun s hs => by rw [(h.2.2.1 s hs).2.1]; exact (h.2.2.1 s hs).1, by rw [h.2.2.2.2.1]; exact h.2.2.2.1⟩
theorem Rel.rb {I L : Nat → Int → Int} (h : Rel I L) : RB I := ⟨fun s a b => by have z := (h.2.2.1 s.toNat (by omega)).1; rwa [Int.toNat_of_nonneg a] at z, h.2.2.2.1⟩
/-- what a call leaves, but for slots and tape -/
theorem Rel.of {I L I2 L2 : Nat → Int → Int} (h : Rel I L) (h1 : ∀ a j, (a < 12 ∨ 33 ≤ a ∧ a ≤ 35 ∨ a = 43 ∨ a = 193) → I2 a j = I a j) (h2 : ∀ j, L2 8 j = L 8 j) (h3 : ∀ j, L2 194 j = L 194 j) (hs : ∀ s : Nat, s < 8 → Slo I2 s) (ht : Tap I2) : Rel I2 L2 := ⟨h.1.of (fun a j x => h1 a j (by omega)) h2, h.2.1.of (fun j => h1 193 j (by omega)) h3, hs, ht⟩
/-- scratch alone -/
theorem Rel.scr {I L I2 L2 : Nat → Int → Int} (h : Rel I L) (h1 : ∀ a j, (a < 36 ∨ a = 43 ∨ 176 ≤ a ∧ a ≤ 194) → I2 a j = I a j) (h0 : I2 175 3 = I 175 3) (h2 : ∀ j, L2 8 j = L 8 j) (h3 : ∀ j, L2 194 j = L 194 j) : Rel I2 L2 := h.of (fun a j x => h1 a j (by omega)) h2 h3 (fun s hs => (h.2.2.1 s hs).keep (h1 186 s (by omega)) (fun j => h1 _ j (by omega)) (fun j => h1 _ j (by omega)) (fun j => h1 _ j (by omega))) (h.2.2.2.keep h0 (fun j => h1 _ j (by omega)) (fun j => h1 _ j (by omega)) (fun j => h1 _ j (by omega)))
theorem Slo.by {I : Nat → Int → Int} {s : Nat} (h : Slo I s) : byAt I (14 + 2 * s) (15 + 2 * s) = gW I (s : Int) := funext (fun j => by
  unfold byAt gW
  rw [h.2.1]
  by_cases c : 0 ≤ j ∧ j < I 186 s
  · rw [if_pos c, if_pos c, h.2.2.1 j c.1 c.2, Int.toNat_natCast]
  · rw [if_neg c, if_neg c])
/-- one slot is written on both sides, the others stay -/
theorem Rel.one {I L I2 L2 : Nat → Int → Int} (h : Rel I L) (u : Nat) (h1 : ∀ a j, (a < 36 ∨ a = 43 ∨ 176 ≤ a ∧ a ≤ 194) → a ≠ 14 + 2 * u → a ≠ 15 + 2 * u → a ≠ 178 + u → (a ≠ 186 ∨ j ≠ (u : Int)) → I2 a j = I a j) (h0 : I2 175 3 = I 175 3) (h2 : ∀ j, L2 8 j = L 8 j) (h3 : ∀ j, L2 194 j = L 194 j) (hu : u < 8) (hs : Slo I2 u) : Rel I2 L2 := by
  refine h.of (fun a j x => h1 a j (by omega) (by omega) (by omega) (by omega) (Or.inl (by omega))) h2 h3 (fun s hs2 => ?_) (h.2.2.2.keep h0 (fun j => h1 _ j (by omega) (by omega) (by omega) (by omega) (Or.inl (by omega))) (fun j => h1 _ j (by omega) (by omega) (by omega) (by omega) (Or.inl (by omega))) (fun j => h1 _ j (by omega) (by omega) (by omega) (by omega) (Or.inl (by omega))))
  by_cases e : s = u
  · rw [e]; exact hs
  · exact (h.2.2.1 s hs2).keep (h1 186 s (by omega) (by omega) (by omega) (by omega) (Or.inr (by omega))) (fun j => h1 _ j (by omega) (by omega) (by omega) (by omega) (Or.inl (by omega))) (fun j => h1 _ j (by omega) (by omega) (by omega) (by omega) (Or.inl (by omega))) (fun j => h1 _ j (by omega) (by omega) (by omega) (by omega) (Or.inl (by omega)))
-- feed
def tp (f : Int → Int) (n v : Int) : Int → Int := fun j => if n ≤ j ∧ j < n + 4 then a_w8 (gI v (j - n)) else f j
theorem tp_r {f g : Int → Int} {n v : Int} (h : ∀ j, 0 ≤ j → j < n → f j % 256 = g j % 256) : ∀ j, 0 ≤ j → j < n + 4 → tp f n v j % 256 = tp g n v j % 256 := fun j x y => by
  unfold tp
  by_cases c : n ≤ j ∧ j < n + 4
  · rw [if_pos c, if_pos c]
  · rw [if_neg c, if_neg c]; exact h j x (by omega)
theorem tp_c {I : Nat → Int → Int} {v : Int} : byPut I 30 31 4 (gI v) 30 1 = I 30 1 + 4 ∧ byPut I 30 31 4 (gI v) 31 = tp (I 31) (I 30 1) v := ⟨byPut_cnt, funext (fun j => byPut_row (by decide))⟩
theorem tp_f {I : Nat → Int → Int} {v : Int} : fW I v 175 3 = I 175 3 + 4 ∧ fW I v 176 = tp (I 176) (I 175 3) v := ⟨fW_t I v, funext (fun j => by
  unfold fW
  rw [a_up_ne (Or.inl (by decide))]
  unfold putRow tp
  by_cases c : I 175 3 ≤ j ∧ j < I 175 3 + 4
  · rw [if_pos ⟨rfl, c⟩, if_pos c]
  · rw [if_neg (fun e => c e.2), if_neg c])⟩
theorem fW_ne {I : Nat → Int → Int} {v : Int} {a : Nat} {j : Int} (h1 : a ≠ 175) (h2 : a ≠ 176) : fW I v a j = I a j := by
  unfold fW
  rw [a_up_ne (Or.inl h1), putRow_ne h2]
theorem fW_4 {I : Nat → Int → Int} {v : Int} : fW I v 175 4 = I 175 4 := by
  unfold fW
  rw [a_up_ne (Or.inr (by decide)), putRow_ne (by decide)]
theorem rel_feed {I L L2 : Nat → Int → Int} {a b c d e : Int} (h : Rel I L) (hc : I 175 3 ≤ 8172) (h2 : ∀ j, L2 8 j = L 8 j) (h3 : ∀ j, L2 194 j = L 194 j) : Rel (fW (fW (fW (fW (fW (a_up (jFeed I a b c d e) 175 4 0) a) b) c) d) e) L2 := by
  have jn : ∀ x j, x ≠ 30 → x ≠ 31 → jFeed I a b c d e x j = I x j := fun x j p q => by unfold jFeed; rw [byPut_ne p q, byPut_ne p q, byPut_ne p q, byPut_ne p q, byPut_ne p q]
  have fn : ∀ x j, x ≠ 175 → x ≠ 176 → fW (fW (fW (fW (fW (a_up (jFeed I a b c d e) 175 4 0) a) b) c) d) e x j = jFeed I a b c d e x j := fun x j p q => by rw [fW_ne p q, fW_ne p q, fW_ne p q, fW_ne p q, fW_ne p q, a_up_ne (Or.inl p)]
  have t := h.2.2.2
  have t1 : 0 ≤ I 175 3 ∧ I 175 3 ≤ 8192 := t.1
  refine h.of (fun x j y => by rw [fn x j (by omega) (by omega), jn x j (by omega) (by omega)]) h2 h3 (fun s hs => (h.2.2.1 s hs).keep (by rw [fn _ _ (by omega) (by omega), jn _ _ (by omega) (by omega)]) (fun j => by rw [fn _ _ (by omega) (by omega), jn _ _ (by omega) (by omega)]) (fun j => by rw [fn _ _ (by omega) (by omega), jn _ _ (by omega) (by omega)]) (fun j => by rw [fn _ _ (by omega) (by omega), jn _ _ (by omega) (by omega)])) ?_
  have z3 : (a_up (jFeed I a b c d e) 175 4 0) 175 3 = I 175 3 := by rw [a_up_ne (Or.inr (by decide)), jn _ _ (by decide) (by decide)]
  have z6 : (a_up (jFeed I a b c d e) 175 4 0) 176 = I 176 := funext (fun j => by rw [a_up_ne (Or.inl (by decide)), jn _ _ (by decide) (by decide)])
  have n3 : fW (fW (fW (fW (fW (a_up (jFeed I a b c d e) 175 4 0) a) b) c) d) e 175 3 = I 175 3 + 4 + 4 + 4 + 4 + 4 := by rw [tp_f.1, tp_f.1, tp_f.1, tp_f.1, tp_f.1, z3]
  have n1 : fW (fW (fW (fW (fW (a_up (jFeed I a b c d e) 175 4 0) a) b) c) d) e 30 1 = I 30 1 + 4 + 4 + 4 + 4 + 4 := by
    rw [fn _ _ (by decide) (by decide)]
    unfold jFeed
    rw [tp_c.1, tp_c.1, tp_c.1, tp_c.1, tp_c.1]
  have r3 : fW (fW (fW (fW (fW (a_up (jFeed I a b c d e) 175 4 0) a) b) c) d) e 176 = tp (tp (tp (tp (tp (I 176) (I 175 3) a) (I 175 3 + 4) b) (I 175 3 + 4 + 4) c) (I 175 3 + 4 + 4 + 4) d) (I 175 3 + 4 + 4 + 4 + 4) e := by
    rw [tp_f.2, tp_f.2, tp_f.2, tp_f.2, tp_f.2]
    repeat rw [tp_f.1]
    rw [z3, z6]
  have r1 : (fun j => fW (fW (fW (fW (fW (a_up (jFeed I a b c d e) 175 4 0) a) b) c) d) e 31 j) = tp (tp (tp (tp (tp (I 31) (I 30 1) a) (I 30 1 + 4) b) (I 30 1 + 4 + 4) c) (I 30 1 + 4 + 4 + 4) d) (I 30 1 + 4 + 4 + 4 + 4) e := by
    rw [show (fun j => fW (fW (fW (fW (fW (a_up (jFeed I a b c d e) 175 4 0) a) b) c) d) e 31 j) = jFeed I a b c d e 31 from funext (fun j => fn _ _ (by decide) (by decide))]
    unfold jFeed
    rw [tp_c.2, tp_c.2, tp_c.2, tp_c.2, tp_c.2]
    repeat rw [tp_c.1]
  refine ⟨by rw [n3]; omega, by rw [n1, n3, t.2.1], fun j x y => ?_⟩
  rw [n3] at y
  rw [show fW (fW (fW (fW (fW (a_up (jFeed I a b c d e) 175 4 0) a) b) c) d) e 31 j = _ from congrFun r1 j, r3, t.2.1]
  exact tp_r (tp_r (tp_r (tp_r (tp_r t.2.2)))) j x y
-- the slots' calls
theorem rel_end {I L L2 : Nat → Int → Int} {s n : Int} (h : Rel I L) (hs : 0 ≤ s ∧ s < 8) (hn : 0 ≤ n ∧ n ≤ I 175 3) (h2 : ∀ j, L2 8 j = L 8 j) (h3 : ∀ j, L2 194 j = L 194 j) : Rel (a_up (a_up (rowTo (a_up (a_up (byBecome I (14 + 2 * s.toNat) (15 + 2 * s.toNat) 31 n) 30 1 0) 175 4 0) (178 + s.toNat) n (fun j => a_w8 ((a_up (byBecome I (14 + 2 * s.toNat) (15 + 2 * s.toNat) 31 n) 30 1 0) 176 j))) 186 s n) 175 3 0) L2 := by
  have t := h.2.2.2
  have t1 : 0 ≤ I 175 3 ∧ I 175 3 ≤ 8192 := t.1
  have bn : ∀ a j, a ≠ 14 + 2 * s.toNat → a ≠ 15 + 2 * s.toNat → byBecome I (14 + 2 * s.toNat) (15 + 2 * s.toNat) 31 n a j = I a j := fun a j p q => by
    unfold byBecome byCopy
    rw [a_up_ne (Or.inl p), if_neg (fun e => q e.1)]
  have e0 : ∀ a j, (a < 36 ∨ a = 43 ∨ 176 ≤ a ∧ a ≤ 194) → a ≠ 14 + 2 * s.toNat → a ≠ 15 + 2 * s.toNat → a ≠ 178 + s.toNat → (a ≠ 186 ∨ j ≠ (s.toNat : Int)) → (a ≠ 30 ∨ j ≠ 1) → (a_up (a_up (rowTo (a_up (a_up (byBecome I (14 + 2 * s.toNat) (15 + 2 * s.toNat) 31 n) 30 1 0) 175 4 0) (178 + s.toNat) n (fun j => a_w8 ((a_up (byBecome I (14 + 2 * s.toNat) (15 + 2 * s.toNat) 31 n) 30 1 0) 176 j))) 186 s n) 175 3 0) a j = I a j := fun a j x p q r u v => by
    rw [a_up_ne (Or.inl (by omega)), a_up_ne (by omega), rowTo_ne r, a_up_ne (Or.inl (by omega)), a_up_ne (by omega), bn a j p q]
  refine h.of (fun a j x => e0 a j (by omega) (by omega) (by omega) (by omega) (Or.inl (by omega)) (Or.inl (by omega))) h2 h3 (fun u hu => ?_) ⟨by rw [a_up_at]; decide, ?_, ?_⟩
  · by_cases e : u = s.toNat
    · subst e
      have l : (a_up (a_up (rowTo (a_up (a_up (byBecome I (14 + 2 * s.toNat) (15 + 2 * s.toNat) 31 n) 30 1 0) 175 4 0) (178 + s.toNat) n (fun j => a_w8 ((a_up (byBecome I (14 + 2 * s.toNat) (15 + 2 * s.toNat) 31 n) 30 1 0) 176 j))) 186 s n) 175 3 0) 186 (s.toNat : Int) = n := by
        rw [a_up_ne (Or.inl (by decide)), Int.toNat_of_nonneg hs.1, a_up_at]
      unfold Slo
      rw [l]
      refine ⟨by omega, ?_, fun j x y => ?_, fun j => ?_⟩
      · rw [a_up_ne (Or.inl (by omega)), a_up_ne (Or.inl (by omega)), rowTo_ne (by omega), a_up_ne (Or.inl (by omega)), a_up_ne (Or.inl (by omega))]
        unfold byBecome
        rw [a_up_at]
      · have r31 : byBecome I (14 + 2 * s.toNat) (15 + 2 * s.toNat) 31 n (15 + 2 * s.toNat) j = I 31 j := by
          unfold byBecome byCopy
          rw [a_up_ne (Or.inl (by omega)), if_pos ⟨rfl, x, y⟩]
        rw [a_up_ne (Or.inl (by omega)), a_up_ne (Or.inl (by omega)), rowTo_ne (by omega), a_up_ne (Or.inl (by omega)), a_up_ne (Or.inl (by omega)), r31, a_up_ne (Or.inl (by omega)), a_up_ne (Or.inl (by omega))]
        rw [show (rowTo (a_up (a_up (byBecome I (14 + 2 * s.toNat) (15 + 2 * s.toNat) 31 n) 30 1 0) 175 4 0) (178 + s.toNat) n (fun j => a_w8 ((a_up (byBecome I (14 + 2 * s.toNat) (15 + 2 * s.toNat) 31 n) 30 1 0) 176 j))) (178 + s.toNat) j = a_w8 ((a_up (byBecome I (14 + 2 * s.toNat) (15 + 2 * s.toNat) 31 n) 30 1 0) 176 j) from rowTo_in x y, a_m8w, a_up_ne (Or.inl (by decide)), bn 176 j (by omega) (by omega)]
        exact t.2.2 j x (by omega)
      · rw [a_up_ne (Or.inl (by omega)), a_up_ne (Or.inl (by omega))]
        by_cases c : 0 ≤ j ∧ j < n
        · rw [rowTo_in c.1 c.2]
          exact a_w8r _
        · unfold rowTo
          rw [if_neg (fun e => c e.2), a_up_ne (Or.inl (by omega)), a_up_ne (Or.inl (by omega)), bn _ j (by omega) (by omega)]
          exact (h.2.2.1 s.toNat hu).2.2.2 j
    · exact (h.2.2.1 u hu).keep (e0 186 u (by omega) (by omega) (by omega) (by omega) (Or.inr (by omega)) (Or.inl (by omega))) (fun j => e0 _ j (by omega) (by omega) (by omega) (by omega) (Or.inl (by omega)) (Or.inl (by omega))) (fun j => e0 _ j (by omega) (by omega) (by omega) (by omega) (Or.inl (by omega)) (Or.inl (by omega))) (fun j => e0 _ j (by omega) (by omega) (by omega) (by omega) (Or.inl (by omega)) (Or.inl (by omega)))
  · rw [a_up_at, a_up_ne (Or.inl (by decide)), a_up_ne (Or.inl (by decide)), rowTo_ne (by omega), a_up_ne (Or.inl (by decide)), a_up_at]
  · intro j x y
    rw [a_up_at] at y
    omega
theorem rel_len {I L L2 : Nat → Int → Int} (h : Rel I L) (h2 : ∀ j, L2 8 j = L 8 j) (h3 : ∀ j, L2 194 j = L 194 j) {c : Int} : Rel (a_up I 175 4 c) L2 := h.scr (fun a j x => a_up_ne (Or.inl (by omega))) (a_up_ne (Or.inr (by decide))) h2 h3
theorem rel_copy {I L L2 : Nat → Int → Int} {s u : Int} (h : Rel I L) (hs : 0 ≤ s ∧ s < 8) (hu : 0 ≤ u ∧ u < 8) (h2 : ∀ j, L2 8 j = L 8 j) (h3 : ∀ j, L2 194 j = L 194 j) (J : Nat → Int → Int) (hJ : J = byBecome I (14 + 2 * u.toNat) (15 + 2 * u.toNat) (15 + 2 * s.toNat) (I (14 + 2 * s.toNat) 1)) : Rel (a_up (rowTo (a_up J 175 4 0) (178 + u.toNat) (J 186 s) (fun j => a_w8 (J (178 + s.toNat) j))) 186 u (J 186 s)) L2 := by
  have Ss := h.2.2.1 s.toNat (by omega)
  have sl : I 186 s = I 186 (s.toNat : Int) := by rw [Int.toNat_of_nonneg hs.1]
  have s1 : (0 ≤ I 186 s ∧ I 186 s ≤ 8192) := by rw [sl]; exact Ss.1
  have bn : ∀ a j, a ≠ 14 + 2 * u.toNat → a ≠ 15 + 2 * u.toNat → J a j = I a j := fun a j p q => by
    rw [hJ]
    unfold byBecome byCopy
    rw [a_up_ne (Or.inl p), if_neg (fun e => q e.1)]
  have j6 : J 186 s = I 186 s := bn 186 s (by omega) (by omega)
  rw [j6]
  refine h.one u.toNat (fun a j x p q r v => by rw [a_up_ne (by omega), rowTo_ne r, a_up_ne (Or.inl (by omega)), bn a j p q]) (by rw [a_up_ne (Or.inl (by decide)), rowTo_ne (by omega), a_up_ne (Or.inr (by decide)), bn _ _ (by omega) (by omega)]) h2 h3 (by omega) ?_
  have l : (a_up (rowTo (a_up J 175 4 0) (178 + u.toNat) (I 186 s) (fun j => a_w8 (J (178 + s.toNat) j))) 186 u (I 186 s)) 186 (u.toNat : Int) = I 186 s := by rw [Int.toNat_of_nonneg hu.1, a_up_at]
  unfold Slo
  rw [l]
  refine ⟨s1, ?_, fun j x y => ?_, fun j => ?_⟩
  · rw [a_up_ne (Or.inl (by omega)), rowTo_ne (by omega), a_up_ne (Or.inl (by omega)), hJ]
    unfold byBecome
    rw [a_up_at, Ss.2.1, sl]
  · have r1 : J (15 + 2 * u.toNat) j = I (15 + 2 * s.toNat) j := by
      rw [hJ]
      unfold byBecome byCopy
      rw [a_up_ne (Or.inl (by omega)), if_pos ⟨rfl, x, by rw [Ss.2.1, ← sl]; exact y⟩]
    rw [a_up_ne (Or.inl (by omega)), rowTo_ne (by omega), a_up_ne (Or.inl (by omega)), r1, a_up_ne (Or.inl (by omega)), rowTo_in x y, a_m8w, bn _ j (by omega) (by omega)]
    exact Ss.2.2.1 j x (by rw [← sl]; exact y)
  · rw [a_up_ne (Or.inl (by omega))]
    by_cases c : 0 ≤ j ∧ j < I 186 s
    · rw [rowTo_in c.1 c.2]
      exact a_w8r _
    · unfold rowTo
      rw [if_neg (fun e => c e.2), a_up_ne (Or.inl (by omega)), bn _ j (by omega) (by omega)]
      exact (h.2.2.1 u.toNat (by omega)).2.2.2 j
theorem rel_resize {I L L2 : Nat → Int → Int} {s n : Int} (h : Rel I L) (hs : 0 ≤ s ∧ s < 8) (hn : 0 ≤ n ∧ n ≤ 8192) (h2 : ∀ j, L2 8 j = L 8 j) (h3 : ∀ j, L2 194 j = L 194 j) (J : Nat → Int → Int) (hJ : J = byStretch I (14 + 2 * s.toNat) (15 + 2 * s.toNat) n) : Rel (a_up (byZero (a_up J 175 4 0) (178 + s.toNat) (J 186 s) n) 186 s n) L2 := by
  have Ss := h.2.2.1 s.toNat (by omega)
  have sl : I 186 s = I 186 (s.toNat : Int) := by rw [Int.toNat_of_nonneg hs.1]
  have bn : ∀ a j, a ≠ 14 + 2 * s.toNat → a ≠ 15 + 2 * s.toNat → J a j = I a j := fun a j p q => by
    rw [hJ]
    unfold byStretch byZero
    rw [a_up_ne (Or.inl p), if_neg (fun e => q e.1)]
  have j6 : J 186 s = I 186 s := bn 186 s (by omega) (by omega)
  have zn : ∀ a j, a ≠ 178 + s.toNat → byZero (a_up J 175 4 0) (178 + s.toNat) (I 186 s) n a j = a_up J 175 4 0 a j := fun a j p => if_neg (fun e => p e.1)
  rw [j6]
  refine h.one s.toNat (fun a j x p q r v => by rw [a_up_ne (by omega), zn a j r, a_up_ne (Or.inl (by omega)), bn a j p q]) (by rw [a_up_ne (Or.inl (by decide)), zn _ _ (by omega), a_up_ne (Or.inr (by decide)), bn _ _ (by omega) (by omega)]) h2 h3 (by omega) ?_
  have l : (a_up (byZero (a_up J 175 4 0) (178 + s.toNat) (I 186 s) n) 186 s n) 186 (s.toNat : Int) = n := by rw [Int.toNat_of_nonneg hs.1, a_up_at]
  have zz : ∀ j, byZero (a_up J 175 4 0) (178 + s.toNat) (I 186 s) n (178 + s.toNat) j = if I 186 s ≤ j ∧ j < n then 0 else I (178 + s.toNat) j := fun j => by
    unfold byZero
    by_cases c : I 186 s ≤ j ∧ j < n
    · rw [if_pos ⟨rfl, c⟩, if_pos c]
    · rw [if_neg (fun e => c e.2), if_neg c, a_up_ne (Or.inl (by omega)), bn _ j (by omega) (by omega)]
  unfold Slo
  rw [l]
  refine ⟨hn, ?_, fun j x y => ?_, fun j => ?_⟩
  · rw [a_up_ne (Or.inl (by omega)), zn _ _ (by omega), a_up_ne (Or.inl (by omega)), hJ]
    unfold byStretch
    rw [a_up_at]
  · have r1 : J (15 + 2 * s.toNat) j = if I 186 s ≤ j ∧ j < n then 0 else I (15 + 2 * s.toNat) j := by
      rw [hJ]
      unfold byStretch byZero
      rw [a_up_ne (Or.inl (by omega)), Ss.2.1, ← sl]
      by_cases c : I 186 s ≤ j ∧ j < n
      · rw [if_pos ⟨rfl, c⟩, if_pos c]
      · rw [if_neg (fun e => c e.2), if_neg c]
    rw [a_up_ne (Or.inl (by omega)), zn _ _ (by omega), a_up_ne (Or.inl (by omega)), r1, a_up_ne (Or.inl (by omega)), zz]
    by_cases c : I 186 s ≤ j ∧ j < n
    · rw [if_pos c, if_pos c]
    · rw [if_neg c, if_neg c]
      exact Ss.2.2.1 j x (by rw [← sl]; omega)
  · rw [a_up_ne (Or.inl (by omega)), zz]
    by_cases c : I 186 s ≤ j ∧ j < n
    · rw [if_pos c]; decide
    · rw [if_neg c]; exact Ss.2.2.2 j
theorem rel_alter {I L L2 : Nat → Int → Int} {s i v : Int} (h : Rel I L) (hs : 0 ≤ s ∧ s < 8) (hv : 0 ≤ v ∧ v ≤ 255) (hi : 0 ≤ i ∧ i < I 186 s) (h2 : ∀ j, L2 8 j = L 8 j) (h3 : ∀ j, L2 194 j = L 194 j) (J : Nat → Int → Int) (hJ : J = a_up I (15 + 2 * s.toNat) i (a_w8 (a_w8 (a_xor (byAt I (14 + 2 * s.toNat) (15 + 2 * s.toNat) i) v)))) : Rel (a_up (a_up J 175 4 0) (178 + s.toNat) i (a_w8 (a_w8 (a_xor (J (178 + s.toNat) i) (a_w8 v))))) L2 ∧ a_xor (byAt I (14 + 2 * s.toNat) (15 + 2 * s.toNat) i) v = a_w8 (a_w8 (a_xor (J (178 + s.toNat) i) (a_w8 v))) % 256 := by
  have Ss := h.2.2.1 s.toNat (by omega)
  have sl : I 186 s = I 186 (s.toNat : Int) := by rw [Int.toNat_of_nonneg hs.1]
  have bn : ∀ a j, a ≠ 15 + 2 * s.toNat → J a j = I a j := fun a j p => by rw [hJ, a_up_ne (Or.inl p)]
  have be : byAt I (14 + 2 * s.toNat) (15 + 2 * s.toNat) i = I (178 + s.toNat) i % 256 := by
    unfold byAt
    rw [Ss.2.1, if_pos ⟨hi.1, by rw [← sl]; exact hi.2⟩]
    exact Ss.2.2.1 i hi.1 (by rw [← sl]; exact hi.2)
  have x8 : a_xor (byAt I (14 + 2 * s.toNat) (15 + 2 * s.toNat) i) v % 256 = a_xor (J (178 + s.toNat) i) (a_w8 v) % 256 := a_xor8 (by rw [be, bn _ i (by omega)]; omega) (by rw [a_m8w])
  have xb := a_xorb (x := byAt I (14 + 2 * s.toNat) (15 + 2 * s.toNat) i) (y := v) byAt_b (by omega)
  refine ⟨?_, by rw [a_w8w8, a_m8w, ← x8]; omega⟩
  refine h.one s.toNat (fun a j x p q r w_ => by rw [a_up_ne (Or.inl r), a_up_ne (Or.inl (by omega)), bn a j q]) (by rw [a_up_ne (Or.inl (by omega)), a_up_ne (Or.inr (by decide)), bn _ _ (by omega)]) h2 h3 (by omega) ?_
  have l : (a_up (a_up J 175 4 0) (178 + s.toNat) i (a_w8 (a_w8 (a_xor (J (178 + s.toNat) i) (a_w8 v))))) 186 (s.toNat : Int) = I 186 (s.toNat : Int) := by rw [a_up_ne (Or.inl (by omega)), a_up_ne (Or.inl (by decide)), bn _ _ (by omega)]
  unfold Slo
  rw [l]
  refine ⟨Ss.1, by rw [a_up_ne (Or.inl (by omega)), a_up_ne (Or.inl (by omega)), bn _ _ (by omega)]; exact Ss.2.1, fun j x y => ?_, fun j => ?_⟩
  · rw [a_up_ne (Or.inl (by omega)), a_up_ne (Or.inl (by omega))]
    by_cases c : j = i
    · rw [c, a_up_at, a_w8w8, a_m8w, ← x8, hJ, a_up_at, a_w8w8, a_m8w]
    · rw [a_up_ne (Or.inr c), a_up_ne (Or.inl (by omega)), bn (178 + s.toNat) j (by omega), hJ, a_up_ne (Or.inr c)]
      exact Ss.2.2.1 j x y
  · by_cases c : j = i
    · rw [c, a_up_at]; exact a_w8r _
    · rw [a_up_ne (Or.inr c), a_up_ne (Or.inl (by omega)), bn _ j (by omega)]
      exact Ss.2.2.2 j
theorem rel_same {I L : Nat → Int → Int} {s u : Int} (h : Rel I L) (hs : 0 ≤ s ∧ s < 8) (hu : 0 ≤ u ∧ u < 8) : (I (14 + 2 * s.toNat) 1 = I (14 + 2 * u.toNat) 1 ∧ ∀ j, 0 ≤ j → j < I (14 + 2 * u.toNat) 1 → byAt I (14 + 2 * s.toNat) (15 + 2 * s.toNat) j = byAt I (14 + 2 * u.toNat) (15 + 2 * u.toNat) j) ↔ (I 186 s = I 186 u ∧ ∀ j, 0 ≤ j → j < I 186 s → I (178 + s.toNat) j = I (178 + u.toNat) j) := by
  have Ss := h.2.2.1 s.toNat (by omega)
  have Su := h.2.2.1 u.toNat (by omega)
  have sl : I 186 s = I 186 (s.toNat : Int) := by rw [Int.toNat_of_nonneg hs.1]
  have ul : I 186 u = I 186 (u.toNat : Int) := by rw [Int.toNat_of_nonneg hu.1]
  rw [Ss.2.1, Su.2.1, ← sl, ← ul]
  have es : ∀ j, 0 ≤ j → j < I 186 s → byAt I (14 + 2 * s.toNat) (15 + 2 * s.toNat) j = I (178 + s.toNat) j % 256 := fun j x y => by
    unfold byAt
    rw [Ss.2.1, ← sl, if_pos ⟨x, y⟩]
    exact Ss.2.2.1 j x (by rw [← sl]; exact y)
  have eu : ∀ j, 0 ≤ j → j < I 186 u → byAt I (14 + 2 * u.toNat) (15 + 2 * u.toNat) j = I (178 + u.toNat) j % 256 := fun j x y => by
    unfold byAt
    rw [Su.2.1, ← ul, if_pos ⟨x, y⟩]
    exact Su.2.2.1 j x (by rw [← ul]; exact y)
  constructor
  · intro z
    refine ⟨z.1, fun j x y => ?_⟩
    have w_ := z.2 j x (by rw [← z.1]; exact y)
    rw [es j x y, eu j x (by rw [← z.1]; exact y)] at w_
    have a := Ss.2.2.2 j
    have b := Su.2.2.2 j
    omega
  · intro z
    refine ⟨z.1, fun j x y => ?_⟩
    rw [es j x (by rw [z.1]; exact y), eu j x y, z.2 j x (by rw [z.1]; exact y)]
