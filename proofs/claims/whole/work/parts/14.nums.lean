/-! numbers in bits: rows of numbers as one number -/
def bV (f : Int → Int) (w : Nat) : Nat → Int
  | 0 => 0
  | n + 1 => bV f w n + f n * 2 ^ (w * n)
theorem p2pos (k : Nat) : (0 : Int) < 2 ^ k := Int.pow_pos (by decide)
theorem p2le {a b : Nat} (h : a ≤ b) : (2 : Int) ^ a ≤ 2 ^ b := by
  have h1 := p2pos a
  have h2 := p2pos (b - a)
  have h3 : (2 : Int) ^ a * 1 ≤ 2 ^ a * 2 ^ (b - a) := Int.mul_le_mul_of_nonneg_left (by omega) (by omega)
  rw [← Int.pow_add, show a + (b - a) = b by omega] at h3
  omega
theorem bV_ge {f : Int → Int} {w n : Nat} (h : ∀ i : Nat, i < n → 0 ≤ f i) : 0 ≤ bV f w n := by
  induction n with
  | zero => exact Int.le_refl _
  | succ n ih =>
    have h1 := ih (fun i hi => h i (by omega))
    have h2 := Int.mul_nonneg (h n (by omega)) (Int.le_of_lt (p2pos (w * n)))
    show 0 ≤ bV f w n + f n * 2 ^ (w * n)
    omega
theorem bV_lt {f : Int → Int} {w n : Nat} (h : ∀ i : Nat, i < n → 0 ≤ f i ∧ f i < 2 ^ w) : bV f w n < 2 ^ (w * n) := by
  induction n with
  | zero => exact Int.zero_lt_one
  | succ n ih =>
    have h1 := ih (fun i hi => h i (by omega))
    have h2 := h n (by omega)
    have h3 : f n * 2 ^ (w * n) ≤ (2 ^ w - 1) * 2 ^ (w * n) := Int.mul_le_mul_of_nonneg_right (by omega) (Int.le_of_lt (p2pos _))
    show bV f w n + f n * 2 ^ (w * n) < 2 ^ (w * (n + 1))
    rw [Nat.mul_succ, Int.pow_add, Int.mul_comm (2 ^ (w * n))]
    rw [Int.sub_mul, Int.one_mul] at h3
    omega
theorem bV_congr {f g : Int → Int} {w n : Nat} (h : ∀ i : Nat, i < n → f i = g i) : bV f w n = bV g w n := by
  induction n with
  | zero => rfl
  | succ n ih => show bV f w n + f n * _ = bV g w n + g n * _; rw [ih (fun i hi => h i (by omega)), h n (by omega)]
theorem bV_split {f : Int → Int} {w n : Nat} (k : Nat) : ∃ q, bV f w (n + k) = bV f w n + q * 2 ^ (w * n) := by
  induction k with
  | zero => exact ⟨0, by simp⟩
  | succ k ih =>
    obtain ⟨q, hq⟩ := ih
    refine ⟨q + f (n + k : Nat) * 2 ^ (w * k), ?_⟩
    show bV f w (n + k) + f (n + k : Nat) * 2 ^ (w * (n + k)) = _
    rw [hq, Int.add_mul, Nat.mul_add, Int.pow_add, Int.mul_assoc, Int.mul_comm (2 ^ (w * k)), Int.add_assoc]
theorem bV_mod {f : Int → Int} {w n N : Nat} (hn : n ≤ N) (h : ∀ i : Nat, i < n → 0 ≤ f i ∧ f i < 2 ^ w) : bV f w N % 2 ^ (w * n) = bV f w n := by
  obtain ⟨q, hq⟩ := bV_split (f := f) (w := w) (n := n) (N - n)
  rw [show n + (N - n) = N by omega] at hq
  rw [hq, Int.add_mul_emod_self_right, Int.emod_eq_of_lt (bV_ge (fun i hi => (h i hi).1)) (bV_lt h)]
/-- the low bits rule -/
theorem lowbits {A B : Int} {p q t : Nat} (h : A % 2 ^ p = B % 2 ^ p) (hq : q + t ≤ p) : A / 2 ^ q % 2 ^ t = B / 2 ^ q % 2 ^ t := by
  have e (X : Int) : X / 2 ^ q % 2 ^ t = X % 2 ^ p % 2 ^ (q + t) / 2 ^ q := by
    rw [Int.emod_emod_of_dvd X ⟨2 ^ (p - (q + t)), by rw [← Int.pow_add, show q + t + (p - (q + t)) = p by omega]⟩]
    have h1 := Int.mul_ediv_add_emod X (2 ^ q)
    have h2 := Int.mul_ediv_add_emod (X / 2 ^ q) (2 ^ t)
    have h3 := Int.emod_nonneg X (Int.ne_of_gt (p2pos q))
    have h4 := Int.emod_lt_of_pos X (p2pos q)
    have h5 := Int.emod_nonneg (X / 2 ^ q) (Int.ne_of_gt (p2pos t))
    have h6 := Int.emod_lt_of_pos (X / 2 ^ q) (p2pos t)
    have e1 : X = (X % 2 ^ q + (X / 2 ^ q % 2 ^ t) * 2 ^ q) + (X / 2 ^ q / 2 ^ t) * 2 ^ (q + t) := by
      rw [Int.pow_add]
      calc X = 2 ^ q * (X / 2 ^ q) + X % 2 ^ q := h1.symm
        _ = 2 ^ q * (2 ^ t * (X / 2 ^ q / 2 ^ t) + X / 2 ^ q % 2 ^ t) + X % 2 ^ q := by rw [h2]
        _ = _ := by rw [Int.mul_add, ← Int.mul_assoc, Int.mul_comm _ (X / 2 ^ q % 2 ^ t), Int.mul_comm (2 ^ q * 2 ^ t)]; omega
    have b1 : X % 2 ^ q + (X / 2 ^ q % 2 ^ t) * 2 ^ q < 2 ^ (q + t) := by
      have : (X / 2 ^ q % 2 ^ t) * 2 ^ q ≤ (2 ^ t - 1) * 2 ^ q := Int.mul_le_mul_of_nonneg_right (by omega) (Int.le_of_lt (p2pos _))
      rw [Int.pow_add, Int.mul_comm (2 ^ q)]
      rw [Int.sub_mul, Int.one_mul] at this
      omega
    have b0 : 0 ≤ X % 2 ^ q + (X / 2 ^ q % 2 ^ t) * 2 ^ q := by
      have := Int.mul_nonneg h5 (Int.le_of_lt (p2pos q))
      omega
    have e2 : X % 2 ^ (q + t) = X % 2 ^ q + (X / 2 ^ q % 2 ^ t) * 2 ^ q := by
      have z : X % 2 ^ (q + t) = ((X % 2 ^ q + (X / 2 ^ q % 2 ^ t) * 2 ^ q) + (X / 2 ^ q / 2 ^ t) * 2 ^ (q + t)) % 2 ^ (q + t) := by rw [← e1]
      rw [z, Int.add_mul_emod_self_right, Int.emod_eq_of_lt b0 b1]
    rw [e2, Int.add_mul_ediv_right _ _ (Int.ne_of_gt (p2pos q)), Int.ediv_eq_zero_of_lt h3 h4, Int.zero_add]
  rw [e A, e B, h]
theorem bV_low {f : Int → Int} {w n N q t : Nat} (hn : n ≤ N) (hq : q + t ≤ w * n) (h : ∀ i : Nat, i < n → 0 ≤ f i ∧ f i < 2 ^ w) : bV f w N / 2 ^ q % 2 ^ t = bV f w n / 2 ^ q % 2 ^ t := by
  refine lowbits (p := w * n) ?_ hq
  rw [bV_mod hn h, Int.emod_eq_of_lt (bV_ge (fun i hi => (h i hi).1)) (bV_lt h)]
/-- one number more -/
theorem bV_next {f : Int → Int} {w n q d : Nat} (hd : w * n = q + d) : bV f w (n + 1) / 2 ^ q = bV f w n / 2 ^ q + f n * 2 ^ d := by
  show (bV f w n + f n * 2 ^ (w * n)) / 2 ^ q = _
  rw [hd, Int.pow_add, Int.mul_comm (2 ^ q), ← Int.mul_assoc, Int.add_mul_ediv_right _ _ (Int.ne_of_gt (p2pos q))]
theorem bV_rest {f : Int → Int} {w n q d : Nat} (hd : w * n = q + d) (h : ∀ i : Nat, i < n → 0 ≤ f i ∧ f i < 2 ^ w) : 0 ≤ bV f w n / 2 ^ q ∧ bV f w n / 2 ^ q < 2 ^ d := by
  refine ⟨Int.ediv_nonneg (bV_ge (fun i hi => (h i hi).1)) (Int.le_of_lt (p2pos q)), Int.ediv_lt_of_lt_mul (p2pos q) ?_⟩
  have := bV_lt h
  rw [hd, Int.pow_add, Int.mul_comm] at this
  exact this
theorem p2d8 {X : Int} (m : Nat) : X / 2 ^ (8 * m) / 256 = X / 2 ^ (8 * (m + 1)) := by
  rw [Int.ediv_ediv_of_nonneg (Int.le_of_lt (p2pos _)), Nat.mul_succ, Int.pow_add]
  rfl
theorem p2dd {X : Int} (a b : Nat) : X / 2 ^ a / 2 ^ b = X / 2 ^ (a + b) := by
  rw [Int.ediv_ediv_of_nonneg (Int.le_of_lt (p2pos _)), Int.pow_add]
