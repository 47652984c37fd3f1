/-! mathematics of the rings -/
def cq (a b : Int) : Prop := a % 8380417 = b % 8380417
theorem cq.r (a : Int) : cq a a := rfl
theorem cq.s {a b : Int} (h : cq a b) : cq b a := Eq.symm h
theorem cq.t {a b c : Int} (h : cq a b) (h' : cq b c) : cq a c := Eq.trans h h'
theorem cq.m (a : Int) : cq (a % 8380417) a := by unfold cq; omega
theorem cq.add {a b c d : Int} (h : cq a b) (h' : cq c d) : cq (a + c) (b + d) := by unfold cq at *; omega
theorem cq.sub {a b c d : Int} (h : cq a b) (h' : cq c d) : cq (a - c) (b - d) := by unfold cq at *; omega
theorem cq.mul {a b c d : Int} (h : cq a b) (h' : cq c d) : cq (a * c) (b * d) := by
  unfold cq at *
  rw [Int.mul_emod, h, h', ← Int.mul_emod]
theorem cq.e {a b : Int} (h : a = b) : cq a b := by rw [h]; exact cq.r b
theorem cq.i {a b : Int} (h : cq a b) (h0 : 0 ≤ a ∧ a < 8380417) (h1 : 0 ≤ b ∧ b < 8380417) : a = b := by unfold cq at h; omega
theorem pw_add (a : Nat) : ∀ b : Nat, cq (pw (a + b)) (pw a * pw b)
  | 0 => by
    show cq (pw a) (pw a * 1)
    rw [Int.mul_one]; exact cq.r _
  | b + 1 => by
    show cq (pw (a + b) * 1753 % 8380417) (pw a * (pw b * 1753 % 8380417))
    refine (cq.m _).t (((pw_add a b).mul (cq.r 1753)).t ?_)
    rw [Int.mul_assoc]
    exact (cq.r _).mul (cq.m _).s
theorem pw_512 : pw 512 = 1 := by decide +kernel
theorem pw_per (r : Nat) : ∀ k : Nat, cq (pw (512 * k + r)) (pw r)
  | 0 => by rw [show 512 * 0 + r = r by omega]; exact cq.r _
  | k + 1 => by
    rw [show 512 * (k + 1) + r = 512 + (512 * k + r) by omega]
    refine (pw_add 512 _).t ?_
    rw [pw_512, Int.one_mul]
    exact pw_per r k
theorem pw_mod (n : Nat) : cq (pw (n % 512)) (pw n) := by
  have h := pw_per (n % 512) (n / 512)
  rw [show 512 * (n / 512) + n % 512 = n by omega] at h
  exact h.s
theorem pw_256 : pw 256 = 8380416 := by decide +kernel
def xp (z t : Int) : Int := pw (z * t % 512).toNat
def xm (z t : Int) : Int := pw ((512 - z * t % 512) % 512).toNat
theorem xp_0 (z : Int) : xp z 0 = 1 := by unfold xp; rw [Int.mul_zero]; rfl
theorem xm_0 (z : Int) : xm z 0 = 1 := by unfold xm; rw [Int.mul_zero]; rfl
theorem xp_add (z s t : Int) : cq (xp z (s + t)) (xp z s * xp z t) := by
  unfold xp
  refine cq.t ?_ (pw_add _ _)
  refine cq.t ?_ (pw_mod _)
  rw [Int.mul_add]
  generalize z * s = a
  generalize z * t = b
  rw [show ((a + b) % 512).toNat = ((a % 512).toNat + (b % 512).toNat) % 512 by omega]
  exact cq.r _
theorem xm_add (z s t : Int) : cq (xm z (s + t)) (xm z s * xm z t) := by
  unfold xm
  refine cq.t ?_ (pw_add _ _)
  refine cq.t ?_ (pw_mod _)
  rw [Int.mul_add]
  generalize z * s = a
  generalize z * t = b
  rw [show ((512 - (a + b) % 512) % 512).toNat = (((512 - a % 512) % 512).toNat + ((512 - b % 512) % 512).toNat) % 512 by omega]
  exact cq.r _
theorem xp_256 (a : Int) : xp (2 * a + 1) 256 = 8380416 := by
  unfold xp
  rw [show ((2 * a + 1) * 256 % 512).toNat = 256 by omega]
  exact pw_256
def sG (G X : Int → Int) (s : Int) : Nat → Int
  | 0 => 0
  | n + 1 => sG G X s n + G (s + n) * X n
theorem sG_split {G X : Int → Int} {s : Int} {a : Nat} : ∀ b : Nat, sG G X s (a + b) = sG G X s a + sG G (fun t => X (a + t)) (s + a) b
  | 0 => by show sG G X s a = sG G X s a + 0; omega
  | b + 1 => by
    show sG G X s (a + b) + G (s + ((a + b : Nat) : Int)) * X ((a + b : Nat) : Int) = sG G X s a + (sG G (fun t => X (a + t)) (s + a) b + G (s + a + b) * X (a + b))
    rw [sG_split b, show s + ((a + b : Nat) : Int) = s + a + b by omega, show ((a + b : Nat) : Int) = (a : Int) + b by omega]
    omega
theorem sG_cq {G X G' X' : Int → Int} {s s' : Int} : ∀ n : Nat, (∀ t : Nat, t < n → cq (G (s + t) * X t) (G' (s' + t) * X' t)) → cq (sG G X s n) (sG G' X' s' n)
  | 0, _ => cq.r _
  | n + 1, h => (sG_cq n (fun t ht => h t (by omega))).add (h n (by omega))
theorem sG_two {G1 X1 G2 X2 G3 X3 : Int → Int} {s1 s2 s3 : Int} : ∀ n : Nat, (∀ t : Nat, t < n → cq (G1 (s1 + t) * X1 t + G2 (s2 + t) * X2 t) (G3 (s3 + t) * X3 t)) → cq (sG G1 X1 s1 n + sG G2 X2 s2 n) (sG G3 X3 s3 n)
  | 0, _ => cq.r _
  | n + 1, h => by
    have z := (sG_two n (fun t ht => h t (by omega))).add (h n (by omega))
    show cq (sG G1 X1 s1 n + G1 (s1 + n) * X1 n + (sG G2 X2 s2 n + G2 (s2 + n) * X2 n)) _
    rw [show sG G1 X1 s1 n + G1 (s1 + n) * X1 n + (sG G2 X2 s2 n + G2 (s2 + n) * X2 n) = sG G1 X1 s1 n + sG G2 X2 s2 n + (G1 (s1 + n) * X1 n + G2 (s2 + n) * X2 n) by omega]
    exact z
theorem sG_scale {G X G' X' : Int → Int} {s s' c : Int} : ∀ n : Nat, (∀ t : Nat, t < n → cq (G' (s' + t) * X' t) (c * (G (s + t) * X t))) → cq (sG G' X' s' n) (c * sG G X s n)
  | 0, _ => by show cq 0 (c * 0); rw [Int.mul_zero]; exact cq.r _
  | n + 1, h => by
    show cq _ (c * (sG G X s n + G (s + n) * X n))
    rw [Int.mul_add]
    exact (sG_scale n (fun t ht => h t (by omega))).add (h n (by omega))
theorem evS_sG {F : Int → Int} {z : Int} : ∀ n : Nat, evS F z n = sG F (xp z) 0 n
  | 0 => rfl
  | n + 1 => by
    show evS F z n + F n * _ = sG F (xp z) 0 n + F (0 + n) * xp z n
    rw [evS_sG n, Int.zero_add]; rfl
theorem inS_sG {F : Int → Int} {j : Int} : ∀ n : Nat, inS F j n = sG F (fun i => xm (2 * trn (0 + i) + 1) j) 0 n
  | 0 => rfl
  | n + 1 => by
    show inS F j n + F n * _ = sG F _ 0 n + F (0 + n) * xm (2 * trn (0 + n) + 1) j
    rw [inS_sG n, Int.zero_add]; rfl
/-- a row of 2 d at x where x^d is e: a row of d -/
theorem ev_half {G G' X : Int → Int} {s s' e : Int} {d : Nat} (hX : ∀ t : Nat, t < d → cq (X (d + t)) (e * X t)) (hG : ∀ t : Nat, t < d → cq (G' (s' + t)) (G (s + t) + e * G (s + d + t))) : cq (sG G' X s' d) (sG G X s (d + d)) := by
  rw [sG_split]
  refine (sG_two d (fun t ht => ?_)).s
  show cq (G (s + t) * X t + G (s + d + t) * X (d + t)) (G' (s' + t) * X t)
  refine cq.t (((cq.r _).add ((cq.r _).mul (hX t ht)))) (cq.s (((hG t ht).mul (cq.r (X t))).t (cq.e ?_)))
  rw [Int.add_mul, Int.mul_comm e, Int.mul_assoc]
theorem mul4 (a b c d : Int) : a * b * (c * d) = a * c * (b * d) := by
  rw [Int.mul_assoc, ← Int.mul_assoc b, Int.mul_comm b c, Int.mul_assoc c, ← Int.mul_assoc]
theorem fwdB_128 {R F : Int → Int} {n0 : Int} : ∀ (m : Nat) (j : Int), 0 ≤ j → fwdB R F 128 n0 m j = if j < 2 * 128 * m then (if j % 256 < 128 then (F j + R (n0 + j / 256 + 1) * F (j + 128)) % 8380417 else (F (j - 128) - R (n0 + j / 256 + 1) * F j) % 8380417) else F j
  | 0, j, h => by rw [if_neg (by omega)]; rfl
  | m + 1, j, h => by
    show spl (fwdB R F 128 n0 m) (2 * 128 * m) 128 (R (n0 + m + 1)) j = _
    unfold spl
    by_cases c1 : 2 * 128 * (m : Int) ≤ j ∧ j < 2 * 128 * m + 128
    · rw [if_pos c1, fwdB_128 m j h, fwdB_128 m (j + 128) (by omega), if_neg (by omega), if_neg (by omega), if_pos (by omega), if_pos (by omega), show j / 256 = m by omega]
    · rw [if_neg c1]
      by_cases c2 : 2 * 128 * (m : Int) + 128 ≤ j ∧ j < 2 * 128 * m + 2 * 128
      · rw [if_pos c2, fwdB_128 m j h, fwdB_128 m (j - 128) (by omega), if_neg (by omega), if_neg (by omega), if_pos (by omega), if_neg (by omega), show j / 256 = m by omega]
      · rw [if_neg c2, fwdB_128 m j h]
        by_cases c3 : j < 2 * 128 * (m : Int)
        · rw [if_pos c3, if_pos (show j < 2 * 128 * ((m + 1 : Nat) : Int) by omega)]
        · rw [if_neg c3, if_neg (by omega)]
theorem bckB_128 {R F : Int → Int} {n0 : Int} : ∀ (m : Nat) (j : Int), 0 ≤ j → bckB R F 128 n0 m j = if j < 2 * 128 * m then (if j % 256 < 128 then (F j + F (j + 128)) % 8380417 else R (n0 - j / 256 - 1) * ((F j - F (j - 128)) % 8380417) % 8380417) else F j
  | 0, j, h => by rw [if_neg (by omega)]; rfl
  | m + 1, j, h => by
    show jn (bckB R F 128 n0 m) (2 * 128 * m) 128 (R (n0 - m - 1)) j = _
    unfold jn
    by_cases c1 : 2 * 128 * (m : Int) ≤ j ∧ j < 2 * 128 * m + 128
    · rw [if_pos c1, bckB_128 m j h, bckB_128 m (j + 128) (by omega), if_neg (by omega), if_neg (by omega), if_pos (by omega), if_pos (by omega)]
    · rw [if_neg c1]
      by_cases c2 : 2 * 128 * (m : Int) + 128 ≤ j ∧ j < 2 * 128 * m + 2 * 128
      · rw [if_pos c2, bckB_128 m j h, bckB_128 m (j - 128) (by omega), if_neg (by omega), if_neg (by omega), if_pos (by omega), if_neg (by omega), show j / 256 = m by omega]
      · rw [if_neg c2, bckB_128 m j h]
        by_cases c3 : j < 2 * 128 * (m : Int)
        · rw [if_pos c3, if_pos (show j < 2 * 128 * ((m + 1 : Nat) : Int) by omega)]
        · rw [if_neg c3, if_neg (by omega)]
theorem fwdB_64 {R F : Int → Int} {n0 : Int} : ∀ (m : Nat) (j : Int), 0 ≤ j → fwdB R F 64 n0 m j = if j < 2 * 64 * m then (if j % 128 < 64 then (F j + R (n0 + j / 128 + 1) * F (j + 64)) % 8380417 else (F (j - 64) - R (n0 + j / 128 + 1) * F j) % 8380417) else F j
  | 0, j, h => by rw [if_neg (by omega)]; rfl
  | m + 1, j, h => by
    show spl (fwdB R F 64 n0 m) (2 * 64 * m) 64 (R (n0 + m + 1)) j = _
    unfold spl
    by_cases c1 : 2 * 64 * (m : Int) ≤ j ∧ j < 2 * 64 * m + 64
    · rw [if_pos c1, fwdB_64 m j h, fwdB_64 m (j + 64) (by omega), if_neg (by omega), if_neg (by omega), if_pos (by omega), if_pos (by omega), show j / 128 = m by omega]
    · rw [if_neg c1]
      by_cases c2 : 2 * 64 * (m : Int) + 64 ≤ j ∧ j < 2 * 64 * m + 2 * 64
      · rw [if_pos c2, fwdB_64 m j h, fwdB_64 m (j - 64) (by omega), if_neg (by omega), if_neg (by omega), if_pos (by omega), if_neg (by omega), show j / 128 = m by omega]
      · rw [if_neg c2, fwdB_64 m j h]
        by_cases c3 : j < 2 * 64 * (m : Int)
        · rw [if_pos c3, if_pos (show j < 2 * 64 * ((m + 1 : Nat) : Int) by omega)]
        · rw [if_neg c3, if_neg (by omega)]
theorem bckB_64 {R F : Int → Int} {n0 : Int} : ∀ (m : Nat) (j : Int), 0 ≤ j → bckB R F 64 n0 m j = if j < 2 * 64 * m then (if j % 128 < 64 then (F j + F (j + 64)) % 8380417 else R (n0 - j / 128 - 1) * ((F j - F (j - 64)) % 8380417) % 8380417) else F j
  | 0, j, h => by rw [if_neg (by omega)]; rfl
  | m + 1, j, h => by
    show jn (bckB R F 64 n0 m) (2 * 64 * m) 64 (R (n0 - m - 1)) j = _
    unfold jn
    by_cases c1 : 2 * 64 * (m : Int) ≤ j ∧ j < 2 * 64 * m + 64
    · rw [if_pos c1, bckB_64 m j h, bckB_64 m (j + 64) (by omega), if_neg (by omega), if_neg (by omega), if_pos (by omega), if_pos (by omega)]
    · rw [if_neg c1]
      by_cases c2 : 2 * 64 * (m : Int) + 64 ≤ j ∧ j < 2 * 64 * m + 2 * 64
      · rw [if_pos c2, bckB_64 m j h, bckB_64 m (j - 64) (by omega), if_neg (by omega), if_neg (by omega), if_pos (by omega), if_neg (by omega), show j / 128 = m by omega]
      · rw [if_neg c2, bckB_64 m j h]
        by_cases c3 : j < 2 * 64 * (m : Int)
        · rw [if_pos c3, if_pos (show j < 2 * 64 * ((m + 1 : Nat) : Int) by omega)]
        · rw [if_neg c3, if_neg (by omega)]
theorem fwdB_32 {R F : Int → Int} {n0 : Int} : ∀ (m : Nat) (j : Int), 0 ≤ j → fwdB R F 32 n0 m j = if j < 2 * 32 * m then (if j % 64 < 32 then (F j + R (n0 + j / 64 + 1) * F (j + 32)) % 8380417 else (F (j - 32) - R (n0 + j / 64 + 1) * F j) % 8380417) else F j
  | 0, j, h => by rw [if_neg (by omega)]; rfl
  | m + 1, j, h => by
    show spl (fwdB R F 32 n0 m) (2 * 32 * m) 32 (R (n0 + m + 1)) j = _
    unfold spl
    by_cases c1 : 2 * 32 * (m : Int) ≤ j ∧ j < 2 * 32 * m + 32
    · rw [if_pos c1, fwdB_32 m j h, fwdB_32 m (j + 32) (by omega), if_neg (by omega), if_neg (by omega), if_pos (by omega), if_pos (by omega), show j / 64 = m by omega]
    · rw [if_neg c1]
      by_cases c2 : 2 * 32 * (m : Int) + 32 ≤ j ∧ j < 2 * 32 * m + 2 * 32
      · rw [if_pos c2, fwdB_32 m j h, fwdB_32 m (j - 32) (by omega), if_neg (by omega), if_neg (by omega), if_pos (by omega), if_neg (by omega), show j / 64 = m by omega]
      · rw [if_neg c2, fwdB_32 m j h]
        by_cases c3 : j < 2 * 32 * (m : Int)
        · rw [if_pos c3, if_pos (show j < 2 * 32 * ((m + 1 : Nat) : Int) by omega)]
        · rw [if_neg c3, if_neg (by omega)]
theorem bckB_32 {R F : Int → Int} {n0 : Int} : ∀ (m : Nat) (j : Int), 0 ≤ j → bckB R F 32 n0 m j = if j < 2 * 32 * m then (if j % 64 < 32 then (F j + F (j + 32)) % 8380417 else R (n0 - j / 64 - 1) * ((F j - F (j - 32)) % 8380417) % 8380417) else F j
  | 0, j, h => by rw [if_neg (by omega)]; rfl
  | m + 1, j, h => by
    show jn (bckB R F 32 n0 m) (2 * 32 * m) 32 (R (n0 - m - 1)) j = _
    unfold jn
    by_cases c1 : 2 * 32 * (m : Int) ≤ j ∧ j < 2 * 32 * m + 32
    · rw [if_pos c1, bckB_32 m j h, bckB_32 m (j + 32) (by omega), if_neg (by omega), if_neg (by omega), if_pos (by omega), if_pos (by omega)]
    · rw [if_neg c1]
      by_cases c2 : 2 * 32 * (m : Int) + 32 ≤ j ∧ j < 2 * 32 * m + 2 * 32
      · rw [if_pos c2, bckB_32 m j h, bckB_32 m (j - 32) (by omega), if_neg (by omega), if_neg (by omega), if_pos (by omega), if_neg (by omega), show j / 64 = m by omega]
      · rw [if_neg c2, bckB_32 m j h]
        by_cases c3 : j < 2 * 32 * (m : Int)
        · rw [if_pos c3, if_pos (show j < 2 * 32 * ((m + 1 : Nat) : Int) by omega)]
        · rw [if_neg c3, if_neg (by omega)]
theorem fwdB_16 {R F : Int → Int} {n0 : Int} : ∀ (m : Nat) (j : Int), 0 ≤ j → fwdB R F 16 n0 m j = if j < 2 * 16 * m then (if j % 32 < 16 then (F j + R (n0 + j / 32 + 1) * F (j + 16)) % 8380417 else (F (j - 16) - R (n0 + j / 32 + 1) * F j) % 8380417) else F j
  | 0, j, h => by rw [if_neg (by omega)]; rfl
  | m + 1, j, h => by
    show spl (fwdB R F 16 n0 m) (2 * 16 * m) 16 (R (n0 + m + 1)) j = _
    unfold spl
    by_cases c1 : 2 * 16 * (m : Int) ≤ j ∧ j < 2 * 16 * m + 16
    · rw [if_pos c1, fwdB_16 m j h, fwdB_16 m (j + 16) (by omega), if_neg (by omega), if_neg (by omega), if_pos (by omega), if_pos (by omega), show j / 32 = m by omega]
    · rw [if_neg c1]
      by_cases c2 : 2 * 16 * (m : Int) + 16 ≤ j ∧ j < 2 * 16 * m + 2 * 16
      · rw [if_pos c2, fwdB_16 m j h, fwdB_16 m (j - 16) (by omega), if_neg (by omega), if_neg (by omega), if_pos (by omega), if_neg (by omega), show j / 32 = m by omega]
      · rw [if_neg c2, fwdB_16 m j h]
        by_cases c3 : j < 2 * 16 * (m : Int)
        · rw [if_pos c3, if_pos (show j < 2 * 16 * ((m + 1 : Nat) : Int) by omega)]
        · rw [if_neg c3, if_neg (by omega)]
theorem bckB_16 {R F : Int → Int} {n0 : Int} : ∀ (m : Nat) (j : Int), 0 ≤ j → bckB R F 16 n0 m j = if j < 2 * 16 * m then (if j % 32 < 16 then (F j + F (j + 16)) % 8380417 else R (n0 - j / 32 - 1) * ((F j - F (j - 16)) % 8380417) % 8380417) else F j
  | 0, j, h => by rw [if_neg (by omega)]; rfl
  | m + 1, j, h => by
    show jn (bckB R F 16 n0 m) (2 * 16 * m) 16 (R (n0 - m - 1)) j = _
    unfold jn
    by_cases c1 : 2 * 16 * (m : Int) ≤ j ∧ j < 2 * 16 * m + 16
    · rw [if_pos c1, bckB_16 m j h, bckB_16 m (j + 16) (by omega), if_neg (by omega), if_neg (by omega), if_pos (by omega), if_pos (by omega)]
    · rw [if_neg c1]
      by_cases c2 : 2 * 16 * (m : Int) + 16 ≤ j ∧ j < 2 * 16 * m + 2 * 16
      · rw [if_pos c2, bckB_16 m j h, bckB_16 m (j - 16) (by omega), if_neg (by omega), if_neg (by omega), if_pos (by omega), if_neg (by omega), show j / 32 = m by omega]
      · rw [if_neg c2, bckB_16 m j h]
        by_cases c3 : j < 2 * 16 * (m : Int)
        · rw [if_pos c3, if_pos (show j < 2 * 16 * ((m + 1 : Nat) : Int) by omega)]
        · rw [if_neg c3, if_neg (by omega)]
theorem fwdB_8 {R F : Int → Int} {n0 : Int} : ∀ (m : Nat) (j : Int), 0 ≤ j → fwdB R F 8 n0 m j = if j < 2 * 8 * m then (if j % 16 < 8 then (F j + R (n0 + j / 16 + 1) * F (j + 8)) % 8380417 else (F (j - 8) - R (n0 + j / 16 + 1) * F j) % 8380417) else F j
  | 0, j, h => by rw [if_neg (by omega)]; rfl
  | m + 1, j, h => by
    show spl (fwdB R F 8 n0 m) (2 * 8 * m) 8 (R (n0 + m + 1)) j = _
    unfold spl
    by_cases c1 : 2 * 8 * (m : Int) ≤ j ∧ j < 2 * 8 * m + 8
    · rw [if_pos c1, fwdB_8 m j h, fwdB_8 m (j + 8) (by omega), if_neg (by omega), if_neg (by omega), if_pos (by omega), if_pos (by omega), show j / 16 = m by omega]
    · rw [if_neg c1]
      by_cases c2 : 2 * 8 * (m : Int) + 8 ≤ j ∧ j < 2 * 8 * m + 2 * 8
      · rw [if_pos c2, fwdB_8 m j h, fwdB_8 m (j - 8) (by omega), if_neg (by omega), if_neg (by omega), if_pos (by omega), if_neg (by omega), show j / 16 = m by omega]
      · rw [if_neg c2, fwdB_8 m j h]
        by_cases c3 : j < 2 * 8 * (m : Int)
        · rw [if_pos c3, if_pos (show j < 2 * 8 * ((m + 1 : Nat) : Int) by omega)]
        · rw [if_neg c3, if_neg (by omega)]
theorem bckB_8 {R F : Int → Int} {n0 : Int} : ∀ (m : Nat) (j : Int), 0 ≤ j → bckB R F 8 n0 m j = if j < 2 * 8 * m then (if j % 16 < 8 then (F j + F (j + 8)) % 8380417 else R (n0 - j / 16 - 1) * ((F j - F (j - 8)) % 8380417) % 8380417) else F j
  | 0, j, h => by rw [if_neg (by omega)]; rfl
  | m + 1, j, h => by
    show jn (bckB R F 8 n0 m) (2 * 8 * m) 8 (R (n0 - m - 1)) j = _
    unfold jn
    by_cases c1 : 2 * 8 * (m : Int) ≤ j ∧ j < 2 * 8 * m + 8
    · rw [if_pos c1, bckB_8 m j h, bckB_8 m (j + 8) (by omega), if_neg (by omega), if_neg (by omega), if_pos (by omega), if_pos (by omega)]
    · rw [if_neg c1]
      by_cases c2 : 2 * 8 * (m : Int) + 8 ≤ j ∧ j < 2 * 8 * m + 2 * 8
      · rw [if_pos c2, bckB_8 m j h, bckB_8 m (j - 8) (by omega), if_neg (by omega), if_neg (by omega), if_pos (by omega), if_neg (by omega), show j / 16 = m by omega]
      · rw [if_neg c2, bckB_8 m j h]
        by_cases c3 : j < 2 * 8 * (m : Int)
        · rw [if_pos c3, if_pos (show j < 2 * 8 * ((m + 1 : Nat) : Int) by omega)]
        · rw [if_neg c3, if_neg (by omega)]
theorem fwdB_4 {R F : Int → Int} {n0 : Int} : ∀ (m : Nat) (j : Int), 0 ≤ j → fwdB R F 4 n0 m j = if j < 2 * 4 * m then (if j % 8 < 4 then (F j + R (n0 + j / 8 + 1) * F (j + 4)) % 8380417 else (F (j - 4) - R (n0 + j / 8 + 1) * F j) % 8380417) else F j
  | 0, j, h => by rw [if_neg (by omega)]; rfl
  | m + 1, j, h => by
    show spl (fwdB R F 4 n0 m) (2 * 4 * m) 4 (R (n0 + m + 1)) j = _
    unfold spl
    by_cases c1 : 2 * 4 * (m : Int) ≤ j ∧ j < 2 * 4 * m + 4
    · rw [if_pos c1, fwdB_4 m j h, fwdB_4 m (j + 4) (by omega), if_neg (by omega), if_neg (by omega), if_pos (by omega), if_pos (by omega), show j / 8 = m by omega]
    · rw [if_neg c1]
      by_cases c2 : 2 * 4 * (m : Int) + 4 ≤ j ∧ j < 2 * 4 * m + 2 * 4
      · rw [if_pos c2, fwdB_4 m j h, fwdB_4 m (j - 4) (by omega), if_neg (by omega), if_neg (by omega), if_pos (by omega), if_neg (by omega), show j / 8 = m by omega]
      · rw [if_neg c2, fwdB_4 m j h]
        by_cases c3 : j < 2 * 4 * (m : Int)
        · rw [if_pos c3, if_pos (show j < 2 * 4 * ((m + 1 : Nat) : Int) by omega)]
        · rw [if_neg c3, if_neg (by omega)]
theorem bckB_4 {R F : Int → Int} {n0 : Int} : ∀ (m : Nat) (j : Int), 0 ≤ j → bckB R F 4 n0 m j = if j < 2 * 4 * m then (if j % 8 < 4 then (F j + F (j + 4)) % 8380417 else R (n0 - j / 8 - 1) * ((F j - F (j - 4)) % 8380417) % 8380417) else F j
  | 0, j, h => by rw [if_neg (by omega)]; rfl
  | m + 1, j, h => by
    show jn (bckB R F 4 n0 m) (2 * 4 * m) 4 (R (n0 - m - 1)) j = _
    unfold jn
    by_cases c1 : 2 * 4 * (m : Int) ≤ j ∧ j < 2 * 4 * m + 4
    · rw [if_pos c1, bckB_4 m j h, bckB_4 m (j + 4) (by omega), if_neg (by omega), if_neg (by omega), if_pos (by omega), if_pos (by omega)]
    · rw [if_neg c1]
      by_cases c2 : 2 * 4 * (m : Int) + 4 ≤ j ∧ j < 2 * 4 * m + 2 * 4
      · rw [if_pos c2, bckB_4 m j h, bckB_4 m (j - 4) (by omega), if_neg (by omega), if_neg (by omega), if_pos (by omega), if_neg (by omega), show j / 8 = m by omega]
      · rw [if_neg c2, bckB_4 m j h]
        by_cases c3 : j < 2 * 4 * (m : Int)
        · rw [if_pos c3, if_pos (show j < 2 * 4 * ((m + 1 : Nat) : Int) by omega)]
        · rw [if_neg c3, if_neg (by omega)]
theorem fwdB_2 {R F : Int → Int} {n0 : Int} : ∀ (m : Nat) (j : Int), 0 ≤ j → fwdB R F 2 n0 m j = if j < 2 * 2 * m then (if j % 4 < 2 then (F j + R (n0 + j / 4 + 1) * F (j + 2)) % 8380417 else (F (j - 2) - R (n0 + j / 4 + 1) * F j) % 8380417) else F j
  | 0, j, h => by rw [if_neg (by omega)]; rfl
  | m + 1, j, h => by
    show spl (fwdB R F 2 n0 m) (2 * 2 * m) 2 (R (n0 + m + 1)) j = _
    unfold spl
    by_cases c1 : 2 * 2 * (m : Int) ≤ j ∧ j < 2 * 2 * m + 2
    · rw [if_pos c1, fwdB_2 m j h, fwdB_2 m (j + 2) (by omega), if_neg (by omega), if_neg (by omega), if_pos (by omega), if_pos (by omega), show j / 4 = m by omega]
    · rw [if_neg c1]
      by_cases c2 : 2 * 2 * (m : Int) + 2 ≤ j ∧ j < 2 * 2 * m + 2 * 2
      · rw [if_pos c2, fwdB_2 m j h, fwdB_2 m (j - 2) (by omega), if_neg (by omega), if_neg (by omega), if_pos (by omega), if_neg (by omega), show j / 4 = m by omega]
      · rw [if_neg c2, fwdB_2 m j h]
        by_cases c3 : j < 2 * 2 * (m : Int)
        · rw [if_pos c3, if_pos (show j < 2 * 2 * ((m + 1 : Nat) : Int) by omega)]
        · rw [if_neg c3, if_neg (by omega)]
theorem bckB_2 {R F : Int → Int} {n0 : Int} : ∀ (m : Nat) (j : Int), 0 ≤ j → bckB R F 2 n0 m j = if j < 2 * 2 * m then (if j % 4 < 2 then (F j + F (j + 2)) % 8380417 else R (n0 - j / 4 - 1) * ((F j - F (j - 2)) % 8380417) % 8380417) else F j
  | 0, j, h => by rw [if_neg (by omega)]; rfl
  | m + 1, j, h => by
    show jn (bckB R F 2 n0 m) (2 * 2 * m) 2 (R (n0 - m - 1)) j = _
    unfold jn
    by_cases c1 : 2 * 2 * (m : Int) ≤ j ∧ j < 2 * 2 * m + 2
    · rw [if_pos c1, bckB_2 m j h, bckB_2 m (j + 2) (by omega), if_neg (by omega), if_neg (by omega), if_pos (by omega), if_pos (by omega)]
    · rw [if_neg c1]
      by_cases c2 : 2 * 2 * (m : Int) + 2 ≤ j ∧ j < 2 * 2 * m + 2 * 2
      · rw [if_pos c2, bckB_2 m j h, bckB_2 m (j - 2) (by omega), if_neg (by omega), if_neg (by omega), if_pos (by omega), if_neg (by omega), show j / 4 = m by omega]
      · rw [if_neg c2, bckB_2 m j h]
        by_cases c3 : j < 2 * 2 * (m : Int)
        · rw [if_pos c3, if_pos (show j < 2 * 2 * ((m + 1 : Nat) : Int) by omega)]
        · rw [if_neg c3, if_neg (by omega)]
theorem fwdB_1 {R F : Int → Int} {n0 : Int} : ∀ (m : Nat) (j : Int), 0 ≤ j → fwdB R F 1 n0 m j = if j < 2 * 1 * m then (if j % 2 < 1 then (F j + R (n0 + j / 2 + 1) * F (j + 1)) % 8380417 else (F (j - 1) - R (n0 + j / 2 + 1) * F j) % 8380417) else F j
  | 0, j, h => by rw [if_neg (by omega)]; rfl
  | m + 1, j, h => by
    show spl (fwdB R F 1 n0 m) (2 * 1 * m) 1 (R (n0 + m + 1)) j = _
    unfold spl
    by_cases c1 : 2 * 1 * (m : Int) ≤ j ∧ j < 2 * 1 * m + 1
    · rw [if_pos c1, fwdB_1 m j h, fwdB_1 m (j + 1) (by omega), if_neg (by omega), if_neg (by omega), if_pos (by omega), if_pos (by omega), show j / 2 = m by omega]
    · rw [if_neg c1]
      by_cases c2 : 2 * 1 * (m : Int) + 1 ≤ j ∧ j < 2 * 1 * m + 2 * 1
      · rw [if_pos c2, fwdB_1 m j h, fwdB_1 m (j - 1) (by omega), if_neg (by omega), if_neg (by omega), if_pos (by omega), if_neg (by omega), show j / 2 = m by omega]
      · rw [if_neg c2, fwdB_1 m j h]
        by_cases c3 : j < 2 * 1 * (m : Int)
        · rw [if_pos c3, if_pos (show j < 2 * 1 * ((m + 1 : Nat) : Int) by omega)]
        · rw [if_neg c3, if_neg (by omega)]
theorem bckB_1 {R F : Int → Int} {n0 : Int} : ∀ (m : Nat) (j : Int), 0 ≤ j → bckB R F 1 n0 m j = if j < 2 * 1 * m then (if j % 2 < 1 then (F j + F (j + 1)) % 8380417 else R (n0 - j / 2 - 1) * ((F j - F (j - 1)) % 8380417) % 8380417) else F j
  | 0, j, h => by rw [if_neg (by omega)]; rfl
  | m + 1, j, h => by
    show jn (bckB R F 1 n0 m) (2 * 1 * m) 1 (R (n0 - m - 1)) j = _
    unfold jn
    by_cases c1 : 2 * 1 * (m : Int) ≤ j ∧ j < 2 * 1 * m + 1
    · rw [if_pos c1, bckB_1 m j h, bckB_1 m (j + 1) (by omega), if_neg (by omega), if_neg (by omega), if_pos (by omega), if_pos (by omega)]
    · rw [if_neg c1]
      by_cases c2 : 2 * 1 * (m : Int) + 1 ≤ j ∧ j < 2 * 1 * m + 2 * 1
      · rw [if_pos c2, bckB_1 m j h, bckB_1 m (j - 1) (by omega), if_neg (by omega), if_neg (by omega), if_pos (by omega), if_neg (by omega), show j / 2 = m by omega]
      · rw [if_neg c2, bckB_1 m j h]
        by_cases c3 : j < 2 * 1 * (m : Int)
        · rw [if_pos c3, if_pos (show j < 2 * 1 * ((m + 1 : Nat) : Int) by omega)]
        · rw [if_neg c3, if_neg (by omega)]
theorem rA_0 : ∀ i : Nat, i < 256 → xp (2 * trn i + 1) 128 = if (i : Int) % 256 < 128 then rt (1 + (i : Int) / 256) else 8380417 - rt (1 + (i : Int) / 256) := by decide +kernel
theorem rB_0 : ∀ i : Nat, i < 256 → xm (2 * trn i + 1) 1 = if (i : Int) % 2 < 1 then 8380417 - rt (256 - (i : Int) / 2 - 1) else rt (256 - (i : Int) / 2 - 1) := by decide +kernel
theorem rC_0 : ∀ b : Nat, b < 1 → rt (1 + (b : Int)) * rt (2 - (b : Int) - 1) % 8380417 = 8380416 := by decide +kernel
theorem rA_1 : ∀ i : Nat, i < 256 → xp (2 * trn i + 1) 64 = if (i : Int) % 128 < 64 then rt (2 + (i : Int) / 128) else 8380417 - rt (2 + (i : Int) / 128) := by decide +kernel
theorem rB_1 : ∀ i : Nat, i < 256 → xm (2 * trn i + 1) 2 = if (i : Int) % 4 < 2 then 8380417 - rt (128 - (i : Int) / 4 - 1) else rt (128 - (i : Int) / 4 - 1) := by decide +kernel
theorem rC_1 : ∀ b : Nat, b < 2 → rt (2 + (b : Int)) * rt (4 - (b : Int) - 1) % 8380417 = 8380416 := by decide +kernel
theorem rA_2 : ∀ i : Nat, i < 256 → xp (2 * trn i + 1) 32 = if (i : Int) % 64 < 32 then rt (4 + (i : Int) / 64) else 8380417 - rt (4 + (i : Int) / 64) := by decide +kernel
theorem rB_2 : ∀ i : Nat, i < 256 → xm (2 * trn i + 1) 4 = if (i : Int) % 8 < 4 then 8380417 - rt (64 - (i : Int) / 8 - 1) else rt (64 - (i : Int) / 8 - 1) := by decide +kernel
theorem rC_2 : ∀ b : Nat, b < 4 → rt (4 + (b : Int)) * rt (8 - (b : Int) - 1) % 8380417 = 8380416 := by decide +kernel
theorem rA_3 : ∀ i : Nat, i < 256 → xp (2 * trn i + 1) 16 = if (i : Int) % 32 < 16 then rt (8 + (i : Int) / 32) else 8380417 - rt (8 + (i : Int) / 32) := by decide +kernel
theorem rB_3 : ∀ i : Nat, i < 256 → xm (2 * trn i + 1) 8 = if (i : Int) % 16 < 8 then 8380417 - rt (32 - (i : Int) / 16 - 1) else rt (32 - (i : Int) / 16 - 1) := by decide +kernel
theorem rC_3 : ∀ b : Nat, b < 8 → rt (8 + (b : Int)) * rt (16 - (b : Int) - 1) % 8380417 = 8380416 := by decide +kernel
theorem rA_4 : ∀ i : Nat, i < 256 → xp (2 * trn i + 1) 8 = if (i : Int) % 16 < 8 then rt (16 + (i : Int) / 16) else 8380417 - rt (16 + (i : Int) / 16) := by decide +kernel
theorem rB_4 : ∀ i : Nat, i < 256 → xm (2 * trn i + 1) 16 = if (i : Int) % 32 < 16 then 8380417 - rt (16 - (i : Int) / 32 - 1) else rt (16 - (i : Int) / 32 - 1) := by decide +kernel
theorem rC_4 : ∀ b : Nat, b < 16 → rt (16 + (b : Int)) * rt (32 - (b : Int) - 1) % 8380417 = 8380416 := by decide +kernel
theorem rA_5 : ∀ i : Nat, i < 256 → xp (2 * trn i + 1) 4 = if (i : Int) % 8 < 4 then rt (32 + (i : Int) / 8) else 8380417 - rt (32 + (i : Int) / 8) := by decide +kernel
theorem rB_5 : ∀ i : Nat, i < 256 → xm (2 * trn i + 1) 32 = if (i : Int) % 64 < 32 then 8380417 - rt (8 - (i : Int) / 64 - 1) else rt (8 - (i : Int) / 64 - 1) := by decide +kernel
theorem rC_5 : ∀ b : Nat, b < 32 → rt (32 + (b : Int)) * rt (64 - (b : Int) - 1) % 8380417 = 8380416 := by decide +kernel
theorem rA_6 : ∀ i : Nat, i < 256 → xp (2 * trn i + 1) 2 = if (i : Int) % 4 < 2 then rt (64 + (i : Int) / 4) else 8380417 - rt (64 + (i : Int) / 4) := by decide +kernel
theorem rB_6 : ∀ i : Nat, i < 256 → xm (2 * trn i + 1) 64 = if (i : Int) % 128 < 64 then 8380417 - rt (4 - (i : Int) / 128 - 1) else rt (4 - (i : Int) / 128 - 1) := by decide +kernel
theorem rC_6 : ∀ b : Nat, b < 64 → rt (64 + (b : Int)) * rt (128 - (b : Int) - 1) % 8380417 = 8380416 := by decide +kernel
theorem rA_7 : ∀ i : Nat, i < 256 → xp (2 * trn i + 1) 1 = if (i : Int) % 2 < 1 then rt (128 + (i : Int) / 2) else 8380417 - rt (128 + (i : Int) / 2) := by decide +kernel
theorem rB_7 : ∀ i : Nat, i < 256 → xm (2 * trn i + 1) 128 = if (i : Int) % 256 < 128 then 8380417 - rt (2 - (i : Int) / 256 - 1) else rt (2 - (i : Int) / 256 - 1) := by decide +kernel
theorem rC_7 : ∀ b : Nat, b < 128 → rt (128 + (b : Int)) * rt (256 - (b : Int) - 1) % 8380417 = 8380416 := by decide +kernel
theorem fL_0 {F : Int → Int} {j : Int} (h0 : 0 ≤ j) (h1 : j < 256) : fwdL rt F 1 j = if j % 256 < 128 then (fwdL rt F 0 j + rt (1 + j / 256) * fwdL rt F 0 (j + 128)) % 8380417 else (fwdL rt F 0 (j - 128) - rt (1 + j / 256) * fwdL rt F 0 j) % 8380417 := by
  show fwdB rt (fwdL rt F 0) (128 / 2 ^ 0) (2 ^ 0 - 1) (2 ^ 0) j = _
  rw [show (128 / 2 ^ 0 : Int) = 128 by decide, show (2 ^ 0 - 1 : Int) = 0 by decide, show (2 ^ 0 : Nat) = 1 by decide, fwdB_128 1 j h0, if_pos (by omega), show (0 : Int) + j / 256 + 1 = 1 + j / 256 by omega]
theorem fE_0 {F : Int → Int} {i : Int} (h0 : 0 ≤ i) (h1 : i < 256) : cq (sG (fwdL rt F 1) (xp (2 * trn i + 1)) (128 * (i / 128)) 128) (sG (fwdL rt F 0) (xp (2 * trn i + 1)) (256 * (i / 256)) 256) := by
  have ra := rA_0 i.toNat (by omega)
  rw [Int.toNat_of_nonneg h0] at ra
  by_cases c : i % 256 < 128
  · rw [if_pos c] at ra
    refine ev_half (e := rt (1 + i / 256)) (d := 128) (fun t ht => ?_) (fun t ht => ?_)
    · have z := xp_add (2 * trn i + 1) 128 t
      rwa [ra] at z
    · rw [fL_0 (by omega) (by omega), if_pos (by omega), show (128 * (i / 128) + (t : Int)) / 256 = i / 256 by omega, show 128 * (i / 128) = 256 * (i / 256) by omega, show 256 * (i / 256) + (t : Int) + 128 = 256 * (i / 256) + ((128 : Nat) : Int) + t by omega]
      exact cq.m _
  · rw [if_neg c] at ra
    refine ev_half (e := - rt (1 + i / 256)) (d := 128) (fun t ht => ?_) (fun t ht => ?_)
    · have z := xp_add (2 * trn i + 1) 128 t
      rw [ra] at z
      refine z.t (cq.mul ?_ (cq.r _))
      unfold cq; omega
    · rw [fL_0 (by omega) (by omega), if_neg (by omega), show (128 * (i / 128) + (t : Int)) / 256 = i / 256 by omega, show 128 * (i / 128) + (t : Int) - 128 = 256 * (i / 256) + t by omega, show 128 * (i / 128) + (t : Int) = 256 * (i / 256) + ((128 : Nat) : Int) + t by omega, Int.neg_mul, ← Int.sub_eq_add_neg]
      exact cq.m _
theorem fL_1 {F : Int → Int} {j : Int} (h0 : 0 ≤ j) (h1 : j < 256) : fwdL rt F 2 j = if j % 128 < 64 then (fwdL rt F 1 j + rt (2 + j / 128) * fwdL rt F 1 (j + 64)) % 8380417 else (fwdL rt F 1 (j - 64) - rt (2 + j / 128) * fwdL rt F 1 j) % 8380417 := by
  show fwdB rt (fwdL rt F 1) (128 / 2 ^ 1) (2 ^ 1 - 1) (2 ^ 1) j = _
  rw [show (128 / 2 ^ 1 : Int) = 64 by decide, show (2 ^ 1 - 1 : Int) = 1 by decide, show (2 ^ 1 : Nat) = 2 by decide, fwdB_64 2 j h0, if_pos (by omega), show (1 : Int) + j / 128 + 1 = 2 + j / 128 by omega]
theorem fE_1 {F : Int → Int} {i : Int} (h0 : 0 ≤ i) (h1 : i < 256) : cq (sG (fwdL rt F 2) (xp (2 * trn i + 1)) (64 * (i / 64)) 64) (sG (fwdL rt F 1) (xp (2 * trn i + 1)) (128 * (i / 128)) 128) := by
  have ra := rA_1 i.toNat (by omega)
  rw [Int.toNat_of_nonneg h0] at ra
  by_cases c : i % 128 < 64
  · rw [if_pos c] at ra
    refine ev_half (e := rt (2 + i / 128)) (d := 64) (fun t ht => ?_) (fun t ht => ?_)
    · have z := xp_add (2 * trn i + 1) 64 t
      rwa [ra] at z
    · rw [fL_1 (by omega) (by omega), if_pos (by omega), show (64 * (i / 64) + (t : Int)) / 128 = i / 128 by omega, show 64 * (i / 64) = 128 * (i / 128) by omega, show 128 * (i / 128) + (t : Int) + 64 = 128 * (i / 128) + ((64 : Nat) : Int) + t by omega]
      exact cq.m _
  · rw [if_neg c] at ra
    refine ev_half (e := - rt (2 + i / 128)) (d := 64) (fun t ht => ?_) (fun t ht => ?_)
    · have z := xp_add (2 * trn i + 1) 64 t
      rw [ra] at z
      refine z.t (cq.mul ?_ (cq.r _))
      unfold cq; omega
    · rw [fL_1 (by omega) (by omega), if_neg (by omega), show (64 * (i / 64) + (t : Int)) / 128 = i / 128 by omega, show 64 * (i / 64) + (t : Int) - 64 = 128 * (i / 128) + t by omega, show 64 * (i / 64) + (t : Int) = 128 * (i / 128) + ((64 : Nat) : Int) + t by omega, Int.neg_mul, ← Int.sub_eq_add_neg]
      exact cq.m _
theorem fL_2 {F : Int → Int} {j : Int} (h0 : 0 ≤ j) (h1 : j < 256) : fwdL rt F 3 j = if j % 64 < 32 then (fwdL rt F 2 j + rt (4 + j / 64) * fwdL rt F 2 (j + 32)) % 8380417 else (fwdL rt F 2 (j - 32) - rt (4 + j / 64) * fwdL rt F 2 j) % 8380417 := by
  show fwdB rt (fwdL rt F 2) (128 / 2 ^ 2) (2 ^ 2 - 1) (2 ^ 2) j = _
  rw [show (128 / 2 ^ 2 : Int) = 32 by decide, show (2 ^ 2 - 1 : Int) = 3 by decide, show (2 ^ 2 : Nat) = 4 by decide, fwdB_32 4 j h0, if_pos (by omega), show (3 : Int) + j / 64 + 1 = 4 + j / 64 by omega]
theorem fE_2 {F : Int → Int} {i : Int} (h0 : 0 ≤ i) (h1 : i < 256) : cq (sG (fwdL rt F 3) (xp (2 * trn i + 1)) (32 * (i / 32)) 32) (sG (fwdL rt F 2) (xp (2 * trn i + 1)) (64 * (i / 64)) 64) := by
  have ra := rA_2 i.toNat (by omega)
  rw [Int.toNat_of_nonneg h0] at ra
  by_cases c : i % 64 < 32
  · rw [if_pos c] at ra
    refine ev_half (e := rt (4 + i / 64)) (d := 32) (fun t ht => ?_) (fun t ht => ?_)
    · have z := xp_add (2 * trn i + 1) 32 t
      rwa [ra] at z
    · rw [fL_2 (by omega) (by omega), if_pos (by omega), show (32 * (i / 32) + (t : Int)) / 64 = i / 64 by omega, show 32 * (i / 32) = 64 * (i / 64) by omega, show 64 * (i / 64) + (t : Int) + 32 = 64 * (i / 64) + ((32 : Nat) : Int) + t by omega]
      exact cq.m _
  · rw [if_neg c] at ra
    refine ev_half (e := - rt (4 + i / 64)) (d := 32) (fun t ht => ?_) (fun t ht => ?_)
    · have z := xp_add (2 * trn i + 1) 32 t
      rw [ra] at z
      refine z.t (cq.mul ?_ (cq.r _))
      unfold cq; omega
    · rw [fL_2 (by omega) (by omega), if_neg (by omega), show (32 * (i / 32) + (t : Int)) / 64 = i / 64 by omega, show 32 * (i / 32) + (t : Int) - 32 = 64 * (i / 64) + t by omega, show 32 * (i / 32) + (t : Int) = 64 * (i / 64) + ((32 : Nat) : Int) + t by omega, Int.neg_mul, ← Int.sub_eq_add_neg]
      exact cq.m _
theorem fL_3 {F : Int → Int} {j : Int} (h0 : 0 ≤ j) (h1 : j < 256) : fwdL rt F 4 j = if j % 32 < 16 then (fwdL rt F 3 j + rt (8 + j / 32) * fwdL rt F 3 (j + 16)) % 8380417 else (fwdL rt F 3 (j - 16) - rt (8 + j / 32) * fwdL rt F 3 j) % 8380417 := by
  show fwdB rt (fwdL rt F 3) (128 / 2 ^ 3) (2 ^ 3 - 1) (2 ^ 3) j = _
  rw [show (128 / 2 ^ 3 : Int) = 16 by decide, show (2 ^ 3 - 1 : Int) = 7 by decide, show (2 ^ 3 : Nat) = 8 by decide, fwdB_16 8 j h0, if_pos (by omega), show (7 : Int) + j / 32 + 1 = 8 + j / 32 by omega]
theorem fE_3 {F : Int → Int} {i : Int} (h0 : 0 ≤ i) (h1 : i < 256) : cq (sG (fwdL rt F 4) (xp (2 * trn i + 1)) (16 * (i / 16)) 16) (sG (fwdL rt F 3) (xp (2 * trn i + 1)) (32 * (i / 32)) 32) := by
  have ra := rA_3 i.toNat (by omega)
  rw [Int.toNat_of_nonneg h0] at ra
  by_cases c : i % 32 < 16
  · rw [if_pos c] at ra
    refine ev_half (e := rt (8 + i / 32)) (d := 16) (fun t ht => ?_) (fun t ht => ?_)
    · have z := xp_add (2 * trn i + 1) 16 t
      rwa [ra] at z
    · rw [fL_3 (by omega) (by omega), if_pos (by omega), show (16 * (i / 16) + (t : Int)) / 32 = i / 32 by omega, show 16 * (i / 16) = 32 * (i / 32) by omega, show 32 * (i / 32) + (t : Int) + 16 = 32 * (i / 32) + ((16 : Nat) : Int) + t by omega]
      exact cq.m _
  · rw [if_neg c] at ra
    refine ev_half (e := - rt (8 + i / 32)) (d := 16) (fun t ht => ?_) (fun t ht => ?_)
    · have z := xp_add (2 * trn i + 1) 16 t
      rw [ra] at z
      refine z.t (cq.mul ?_ (cq.r _))
      unfold cq; omega
    · rw [fL_3 (by omega) (by omega), if_neg (by omega), show (16 * (i / 16) + (t : Int)) / 32 = i / 32 by omega, show 16 * (i / 16) + (t : Int) - 16 = 32 * (i / 32) + t by omega, show 16 * (i / 16) + (t : Int) = 32 * (i / 32) + ((16 : Nat) : Int) + t by omega, Int.neg_mul, ← Int.sub_eq_add_neg]
      exact cq.m _
theorem fL_4 {F : Int → Int} {j : Int} (h0 : 0 ≤ j) (h1 : j < 256) : fwdL rt F 5 j = if j % 16 < 8 then (fwdL rt F 4 j + rt (16 + j / 16) * fwdL rt F 4 (j + 8)) % 8380417 else (fwdL rt F 4 (j - 8) - rt (16 + j / 16) * fwdL rt F 4 j) % 8380417 := by
  show fwdB rt (fwdL rt F 4) (128 / 2 ^ 4) (2 ^ 4 - 1) (2 ^ 4) j = _
  rw [show (128 / 2 ^ 4 : Int) = 8 by decide, show (2 ^ 4 - 1 : Int) = 15 by decide, show (2 ^ 4 : Nat) = 16 by decide, fwdB_8 16 j h0, if_pos (by omega), show (15 : Int) + j / 16 + 1 = 16 + j / 16 by omega]
theorem fE_4 {F : Int → Int} {i : Int} (h0 : 0 ≤ i) (h1 : i < 256) : cq (sG (fwdL rt F 5) (xp (2 * trn i + 1)) (8 * (i / 8)) 8) (sG (fwdL rt F 4) (xp (2 * trn i + 1)) (16 * (i / 16)) 16) := by
  have ra := rA_4 i.toNat (by omega)
  rw [Int.toNat_of_nonneg h0] at ra
  by_cases c : i % 16 < 8
  · rw [if_pos c] at ra
    refine ev_half (e := rt (16 + i / 16)) (d := 8) (fun t ht => ?_) (fun t ht => ?_)
    · have z := xp_add (2 * trn i + 1) 8 t
      rwa [ra] at z
    · rw [fL_4 (by omega) (by omega), if_pos (by omega), show (8 * (i / 8) + (t : Int)) / 16 = i / 16 by omega, show 8 * (i / 8) = 16 * (i / 16) by omega, show 16 * (i / 16) + (t : Int) + 8 = 16 * (i / 16) + ((8 : Nat) : Int) + t by omega]
      exact cq.m _
  · rw [if_neg c] at ra
    refine ev_half (e := - rt (16 + i / 16)) (d := 8) (fun t ht => ?_) (fun t ht => ?_)
    · have z := xp_add (2 * trn i + 1) 8 t
      rw [ra] at z
      refine z.t (cq.mul ?_ (cq.r _))
      unfold cq; omega
    · rw [fL_4 (by omega) (by omega), if_neg (by omega), show (8 * (i / 8) + (t : Int)) / 16 = i / 16 by omega, show 8 * (i / 8) + (t : Int) - 8 = 16 * (i / 16) + t by omega, show 8 * (i / 8) + (t : Int) = 16 * (i / 16) + ((8 : Nat) : Int) + t by omega, Int.neg_mul, ← Int.sub_eq_add_neg]
      exact cq.m _
theorem fL_5 {F : Int → Int} {j : Int} (h0 : 0 ≤ j) (h1 : j < 256) : fwdL rt F 6 j = if j % 8 < 4 then (fwdL rt F 5 j + rt (32 + j / 8) * fwdL rt F 5 (j + 4)) % 8380417 else (fwdL rt F 5 (j - 4) - rt (32 + j / 8) * fwdL rt F 5 j) % 8380417 := by
  show fwdB rt (fwdL rt F 5) (128 / 2 ^ 5) (2 ^ 5 - 1) (2 ^ 5) j = _
  rw [show (128 / 2 ^ 5 : Int) = 4 by decide, show (2 ^ 5 - 1 : Int) = 31 by decide, show (2 ^ 5 : Nat) = 32 by decide, fwdB_4 32 j h0, if_pos (by omega), show (31 : Int) + j / 8 + 1 = 32 + j / 8 by omega]
theorem fE_5 {F : Int → Int} {i : Int} (h0 : 0 ≤ i) (h1 : i < 256) : cq (sG (fwdL rt F 6) (xp (2 * trn i + 1)) (4 * (i / 4)) 4) (sG (fwdL rt F 5) (xp (2 * trn i + 1)) (8 * (i / 8)) 8) := by
  have ra := rA_5 i.toNat (by omega)
  rw [Int.toNat_of_nonneg h0] at ra
  by_cases c : i % 8 < 4
  · rw [if_pos c] at ra
    refine ev_half (e := rt (32 + i / 8)) (d := 4) (fun t ht => ?_) (fun t ht => ?_)
    · have z := xp_add (2 * trn i + 1) 4 t
      rwa [ra] at z
    · rw [fL_5 (by omega) (by omega), if_pos (by omega), show (4 * (i / 4) + (t : Int)) / 8 = i / 8 by omega, show 4 * (i / 4) = 8 * (i / 8) by omega, show 8 * (i / 8) + (t : Int) + 4 = 8 * (i / 8) + ((4 : Nat) : Int) + t by omega]
      exact cq.m _
  · rw [if_neg c] at ra
    refine ev_half (e := - rt (32 + i / 8)) (d := 4) (fun t ht => ?_) (fun t ht => ?_)
    · have z := xp_add (2 * trn i + 1) 4 t
      rw [ra] at z
      refine z.t (cq.mul ?_ (cq.r _))
      unfold cq; omega
    · rw [fL_5 (by omega) (by omega), if_neg (by omega), show (4 * (i / 4) + (t : Int)) / 8 = i / 8 by omega, show 4 * (i / 4) + (t : Int) - 4 = 8 * (i / 8) + t by omega, show 4 * (i / 4) + (t : Int) = 8 * (i / 8) + ((4 : Nat) : Int) + t by omega, Int.neg_mul, ← Int.sub_eq_add_neg]
      exact cq.m _
theorem fL_6 {F : Int → Int} {j : Int} (h0 : 0 ≤ j) (h1 : j < 256) : fwdL rt F 7 j = if j % 4 < 2 then (fwdL rt F 6 j + rt (64 + j / 4) * fwdL rt F 6 (j + 2)) % 8380417 else (fwdL rt F 6 (j - 2) - rt (64 + j / 4) * fwdL rt F 6 j) % 8380417 := by
  show fwdB rt (fwdL rt F 6) (128 / 2 ^ 6) (2 ^ 6 - 1) (2 ^ 6) j = _
  rw [show (128 / 2 ^ 6 : Int) = 2 by decide, show (2 ^ 6 - 1 : Int) = 63 by decide, show (2 ^ 6 : Nat) = 64 by decide, fwdB_2 64 j h0, if_pos (by omega), show (63 : Int) + j / 4 + 1 = 64 + j / 4 by omega]
theorem fE_6 {F : Int → Int} {i : Int} (h0 : 0 ≤ i) (h1 : i < 256) : cq (sG (fwdL rt F 7) (xp (2 * trn i + 1)) (2 * (i / 2)) 2) (sG (fwdL rt F 6) (xp (2 * trn i + 1)) (4 * (i / 4)) 4) := by
  have ra := rA_6 i.toNat (by omega)
  rw [Int.toNat_of_nonneg h0] at ra
  by_cases c : i % 4 < 2
  · rw [if_pos c] at ra
    refine ev_half (e := rt (64 + i / 4)) (d := 2) (fun t ht => ?_) (fun t ht => ?_)
    · have z := xp_add (2 * trn i + 1) 2 t
      rwa [ra] at z
    · rw [fL_6 (by omega) (by omega), if_pos (by omega), show (2 * (i / 2) + (t : Int)) / 4 = i / 4 by omega, show 2 * (i / 2) = 4 * (i / 4) by omega, show 4 * (i / 4) + (t : Int) + 2 = 4 * (i / 4) + ((2 : Nat) : Int) + t by omega]
      exact cq.m _
  · rw [if_neg c] at ra
    refine ev_half (e := - rt (64 + i / 4)) (d := 2) (fun t ht => ?_) (fun t ht => ?_)
    · have z := xp_add (2 * trn i + 1) 2 t
      rw [ra] at z
      refine z.t (cq.mul ?_ (cq.r _))
      unfold cq; omega
    · rw [fL_6 (by omega) (by omega), if_neg (by omega), show (2 * (i / 2) + (t : Int)) / 4 = i / 4 by omega, show 2 * (i / 2) + (t : Int) - 2 = 4 * (i / 4) + t by omega, show 2 * (i / 2) + (t : Int) = 4 * (i / 4) + ((2 : Nat) : Int) + t by omega, Int.neg_mul, ← Int.sub_eq_add_neg]
      exact cq.m _
theorem fL_7 {F : Int → Int} {j : Int} (h0 : 0 ≤ j) (h1 : j < 256) : fwdL rt F 8 j = if j % 2 < 1 then (fwdL rt F 7 j + rt (128 + j / 2) * fwdL rt F 7 (j + 1)) % 8380417 else (fwdL rt F 7 (j - 1) - rt (128 + j / 2) * fwdL rt F 7 j) % 8380417 := by
  show fwdB rt (fwdL rt F 7) (128 / 2 ^ 7) (2 ^ 7 - 1) (2 ^ 7) j = _
  rw [show (128 / 2 ^ 7 : Int) = 1 by decide, show (2 ^ 7 - 1 : Int) = 127 by decide, show (2 ^ 7 : Nat) = 128 by decide, fwdB_1 128 j h0, if_pos (by omega), show (127 : Int) + j / 2 + 1 = 128 + j / 2 by omega]
theorem fE_7 {F : Int → Int} {i : Int} (h0 : 0 ≤ i) (h1 : i < 256) : cq (sG (fwdL rt F 8) (xp (2 * trn i + 1)) (1 * (i / 1)) 1) (sG (fwdL rt F 7) (xp (2 * trn i + 1)) (2 * (i / 2)) 2) := by
  have ra := rA_7 i.toNat (by omega)
  rw [Int.toNat_of_nonneg h0] at ra
  by_cases c : i % 2 < 1
  · rw [if_pos c] at ra
    refine ev_half (e := rt (128 + i / 2)) (d := 1) (fun t ht => ?_) (fun t ht => ?_)
    · have z := xp_add (2 * trn i + 1) 1 t
      rwa [ra] at z
    · rw [fL_7 (by omega) (by omega), if_pos (by omega), show (1 * (i / 1) + (t : Int)) / 2 = i / 2 by omega, show 1 * (i / 1) = 2 * (i / 2) by omega, show 2 * (i / 2) + (t : Int) + 1 = 2 * (i / 2) + ((1 : Nat) : Int) + t by omega]
      exact cq.m _
  · rw [if_neg c] at ra
    refine ev_half (e := - rt (128 + i / 2)) (d := 1) (fun t ht => ?_) (fun t ht => ?_)
    · have z := xp_add (2 * trn i + 1) 1 t
      rw [ra] at z
      refine z.t (cq.mul ?_ (cq.r _))
      unfold cq; omega
    · rw [fL_7 (by omega) (by omega), if_neg (by omega), show (1 * (i / 1) + (t : Int)) / 2 = i / 2 by omega, show 1 * (i / 1) + (t : Int) - 1 = 2 * (i / 2) + t by omega, show 1 * (i / 1) + (t : Int) = 2 * (i / 2) + ((1 : Nat) : Int) + t by omega, Int.neg_mul, ← Int.sub_eq_add_neg]
      exact cq.m _
theorem fwd_eva {F : Int → Int} {i : Int} (h0 : 0 ≤ i) (h1 : i < 256) : fwd rt F i = eva F i := by
  have e := ((((((((fE_7 (F := F) h0 h1).t (fE_6 h0 h1)).t (fE_5 h0 h1)).t (fE_4 h0 h1)).t (fE_3 h0 h1)).t (fE_2 h0 h1)).t (fE_1 h0 h1)).t (fE_0 h0 h1))
  have l : sG (fwdL rt F 8) (xp (2 * trn i + 1)) (1 * (i / 1)) 1 = fwdL rt F 8 i := by
    show 0 + fwdL rt F 8 (1 * (i / 1) + ((0 : Nat) : Int)) * xp (2 * trn i + 1) ((0 : Nat) : Int) = _
    rw [show (1 * (i / 1) + ((0 : Nat) : Int)) = i by omega, show ((0 : Nat) : Int) = 0 from rfl, xp_0, Int.mul_one, Int.zero_add]
  rw [l, show (256 * (i / 256)) = 0 by omega, ← evS_sG] at e
  have r : 0 ≤ fwdL rt F 8 i ∧ fwdL rt F 8 i < 8380417 := by
    rw [fL_7 h0 h1]; split <;> omega
  show fwdL rt F 8 i = evS F (2 * trn i + 1) 256 % 8380417
  exact (e.t (cq.m _).s).i r (by omega)
theorem bL_0 {G : Int → Int} {j : Int} (h0 : 0 ≤ j) (h1 : j < 256) : bckL rt G 1 j = if j % 2 < 1 then (bckL rt G 0 j + bckL rt G 0 (j + 1)) % 8380417 else rt (256 - j / 2 - 1) * ((bckL rt G 0 j - bckL rt G 0 (j - 1)) % 8380417) % 8380417 := by
  show bckB rt (bckL rt G 0) (2 ^ 0) (256 / 2 ^ 0) (128 / 2 ^ 0) j = _
  rw [show (2 ^ 0 : Int) = 1 by decide, show (256 / 1 : Int) = 256 by decide, show (128 / 2 ^ 0 : Nat) = 128 by decide, bckB_1 128 j h0, if_pos (by omega)]
theorem bE_0 {G : Int → Int} {b t : Int} (hb : 0 ≤ b ∧ b < 256) (ht : 0 ≤ t ∧ t < 1) : cq (bckL rt G 0 (1 * b + t)) (sG G (fun i => xm (2 * trn (1 * b + i) + 1) t) (1 * b) 1) := by
  show cq (G (1 * b + t)) (0 + G (1 * b + ((0 : Nat) : Int)) * xm (2 * trn (1 * b + ((0 : Nat) : Int)) + 1) t)
  rw [show t = 0 by omega, xm_0, Int.mul_one, Int.zero_add]
  exact cq.r _
theorem bE_1 {G : Int → Int} {b t : Int} (hb : 0 ≤ b ∧ b < 128) (ht : 0 ≤ t ∧ t < 2) : cq (bckL rt G 1 (2 * b + t)) (sG G (fun i => xm (2 * trn (2 * b + i) + 1) t) (2 * b) 2) := by
  show cq _ (sG G (fun i => xm (2 * trn (2 * b + i) + 1) t) (2 * b) (1 + 1))
  rw [bL_0 (by omega) (by omega), sG_split]
  have x1 := fun t (ht : 0 ≤ t ∧ t < 1) => bE_0 (G := G) (b := 2 * b) (t := t) (by omega) ht
  have x2 := fun t (ht : 0 ≤ t ∧ t < 1) => bE_0 (G := G) (b := 2 * b + 1) (t := t) (by omega) ht
  by_cases c : t < 1
  · rw [if_pos (by omega)]
    refine (cq.m _).t (cq.add ?_ ?_)
    · have z := x1 t (by omega)
      rwa [show 1 * (2 * b) = 2 * b by omega] at z
    · have z := x2 t (by omega)
      rw [show 1 * (2 * b + 1) + t = 2 * b + t + 1 by omega] at z
      refine z.t (cq.e ?_)
      show sG G (fun i => xm (2 * trn (1 * (2 * b + 1) + i) + 1) t) (1 * (2 * b + 1)) 1 = sG G (fun i => xm (2 * trn (2 * b + (((1 : Nat) : Int) + i)) + 1) t) (2 * b + ((1 : Nat) : Int)) 1
      rw [show 1 * (2 * b + 1) = 2 * b + ((1 : Nat) : Int) by omega]
      exact congrArg (fun X => sG G X (2 * b + ((1 : Nat) : Int)) 1) (funext (fun i => by rw [Int.add_assoc]))
  · rw [if_neg (by omega), show (2 * b + t) / 2 = b by omega]
    have z1 := x1 (t - 1) (by omega)
    have z2 := x2 (t - 1) (by omega)
    rw [show 1 * (2 * b) + (t - 1) = 2 * b + t - 1 by omega] at z1
    rw [show 1 * (2 * b + 1) + (t - 1) = 2 * b + t by omega] at z2
    refine (cq.m _).t (((cq.r _).mul ((cq.m _).t (z2.sub z1))).t ?_)
    rw [Int.mul_sub, Int.sub_eq_add_neg, ← Int.neg_mul, Int.add_comm]
    refine cq.add (cq.s (sG_scale 1 (fun u hu => ?_))) (cq.s (sG_scale 1 (fun u hu => ?_)))
    · show cq (G (2 * b + u) * xm (2 * trn (2 * b + u) + 1) t) (_ * (G (1 * (2 * b) + u) * xm (2 * trn (1 * (2 * b) + u) + 1) (t - 1)))
      have rb := rB_0 (2 * b + u).toNat (by omega)
      rw [Int.toNat_of_nonneg (by omega), if_pos (by omega), show (2 * b + (u : Int)) / 2 = b by omega] at rb
      have xa := xm_add (2 * trn (2 * b + u) + 1) 1 (t - 1)
      rw [rb, show 1 + (t - 1) = t by omega] at xa
      rw [show 1 * (2 * b) = 2 * b by omega]
      refine ((cq.r _).mul xa).t ?_
      rw [← Int.mul_assoc, Int.mul_comm (G _), Int.mul_assoc]
      refine cq.mul ?_ (cq.r _)
      unfold cq; omega
    · show cq (G (2 * b + ((1 : Nat) : Int) + u) * xm (2 * trn (2 * b + (((1 : Nat) : Int) + u)) + 1) t) (_ * (G (1 * (2 * b + 1) + u) * xm (2 * trn (1 * (2 * b + 1) + u) + 1) (t - 1)))
      have rb := rB_0 (2 * b + 1 + u).toNat (by omega)
      rw [Int.toNat_of_nonneg (by omega), if_neg (by omega), show (2 * b + 1 + (u : Int)) / 2 = b by omega] at rb
      have xa := xm_add (2 * trn (2 * b + 1 + u) + 1) 1 (t - 1)
      rw [rb, show 1 + (t - 1) = t by omega] at xa
      rw [show 1 * (2 * b + 1) + (u : Int) = 2 * b + 1 + u by omega, show 2 * b + (((1 : Nat) : Int) + u) = 2 * b + 1 + u by omega, show 2 * b + ((1 : Nat) : Int) + u = 2 * b + 1 + u by omega]
      refine ((cq.r _).mul xa).t ?_
      rw [← Int.mul_assoc, Int.mul_comm (G _), Int.mul_assoc]
      exact cq.r _
theorem bL_1 {G : Int → Int} {j : Int} (h0 : 0 ≤ j) (h1 : j < 256) : bckL rt G 2 j = if j % 4 < 2 then (bckL rt G 1 j + bckL rt G 1 (j + 2)) % 8380417 else rt (128 - j / 4 - 1) * ((bckL rt G 1 j - bckL rt G 1 (j - 2)) % 8380417) % 8380417 := by
  show bckB rt (bckL rt G 1) (2 ^ 1) (256 / 2 ^ 1) (128 / 2 ^ 1) j = _
  rw [show (2 ^ 1 : Int) = 2 by decide, show (256 / 2 : Int) = 128 by decide, show (128 / 2 ^ 1 : Nat) = 64 by decide, bckB_2 64 j h0, if_pos (by omega)]
theorem bE_2 {G : Int → Int} {b t : Int} (hb : 0 ≤ b ∧ b < 64) (ht : 0 ≤ t ∧ t < 4) : cq (bckL rt G 2 (4 * b + t)) (sG G (fun i => xm (2 * trn (4 * b + i) + 1) t) (4 * b) 4) := by
  show cq _ (sG G (fun i => xm (2 * trn (4 * b + i) + 1) t) (4 * b) (2 + 2))
  rw [bL_1 (by omega) (by omega), sG_split]
  have x1 := fun t (ht : 0 ≤ t ∧ t < 2) => bE_1 (G := G) (b := 2 * b) (t := t) (by omega) ht
  have x2 := fun t (ht : 0 ≤ t ∧ t < 2) => bE_1 (G := G) (b := 2 * b + 1) (t := t) (by omega) ht
  by_cases c : t < 2
  · rw [if_pos (by omega)]
    refine (cq.m _).t (cq.add ?_ ?_)
    · have z := x1 t (by omega)
      rwa [show 2 * (2 * b) = 4 * b by omega] at z
    · have z := x2 t (by omega)
      rw [show 2 * (2 * b + 1) + t = 4 * b + t + 2 by omega] at z
      refine z.t (cq.e ?_)
      show sG G (fun i => xm (2 * trn (2 * (2 * b + 1) + i) + 1) t) (2 * (2 * b + 1)) 2 = sG G (fun i => xm (2 * trn (4 * b + (((2 : Nat) : Int) + i)) + 1) t) (4 * b + ((2 : Nat) : Int)) 2
      rw [show 2 * (2 * b + 1) = 4 * b + ((2 : Nat) : Int) by omega]
      exact congrArg (fun X => sG G X (4 * b + ((2 : Nat) : Int)) 2) (funext (fun i => by rw [Int.add_assoc]))
  · rw [if_neg (by omega), show (4 * b + t) / 4 = b by omega]
    have z1 := x1 (t - 2) (by omega)
    have z2 := x2 (t - 2) (by omega)
    rw [show 2 * (2 * b) + (t - 2) = 4 * b + t - 2 by omega] at z1
    rw [show 2 * (2 * b + 1) + (t - 2) = 4 * b + t by omega] at z2
    refine (cq.m _).t (((cq.r _).mul ((cq.m _).t (z2.sub z1))).t ?_)
    rw [Int.mul_sub, Int.sub_eq_add_neg, ← Int.neg_mul, Int.add_comm]
    refine cq.add (cq.s (sG_scale 2 (fun u hu => ?_))) (cq.s (sG_scale 2 (fun u hu => ?_)))
    · show cq (G (4 * b + u) * xm (2 * trn (4 * b + u) + 1) t) (_ * (G (2 * (2 * b) + u) * xm (2 * trn (2 * (2 * b) + u) + 1) (t - 2)))
      have rb := rB_1 (4 * b + u).toNat (by omega)
      rw [Int.toNat_of_nonneg (by omega), if_pos (by omega), show (4 * b + (u : Int)) / 4 = b by omega] at rb
      have xa := xm_add (2 * trn (4 * b + u) + 1) 2 (t - 2)
      rw [rb, show 2 + (t - 2) = t by omega] at xa
      rw [show 2 * (2 * b) = 4 * b by omega]
      refine ((cq.r _).mul xa).t ?_
      rw [← Int.mul_assoc, Int.mul_comm (G _), Int.mul_assoc]
      refine cq.mul ?_ (cq.r _)
      unfold cq; omega
    · show cq (G (4 * b + ((2 : Nat) : Int) + u) * xm (2 * trn (4 * b + (((2 : Nat) : Int) + u)) + 1) t) (_ * (G (2 * (2 * b + 1) + u) * xm (2 * trn (2 * (2 * b + 1) + u) + 1) (t - 2)))
      have rb := rB_1 (4 * b + 2 + u).toNat (by omega)
      rw [Int.toNat_of_nonneg (by omega), if_neg (by omega), show (4 * b + 2 + (u : Int)) / 4 = b by omega] at rb
      have xa := xm_add (2 * trn (4 * b + 2 + u) + 1) 2 (t - 2)
      rw [rb, show 2 + (t - 2) = t by omega] at xa
      rw [show 2 * (2 * b + 1) + (u : Int) = 4 * b + 2 + u by omega, show 4 * b + (((2 : Nat) : Int) + u) = 4 * b + 2 + u by omega, show 4 * b + ((2 : Nat) : Int) + u = 4 * b + 2 + u by omega]
      refine ((cq.r _).mul xa).t ?_
      rw [← Int.mul_assoc, Int.mul_comm (G _), Int.mul_assoc]
      exact cq.r _
theorem bL_2 {G : Int → Int} {j : Int} (h0 : 0 ≤ j) (h1 : j < 256) : bckL rt G 3 j = if j % 8 < 4 then (bckL rt G 2 j + bckL rt G 2 (j + 4)) % 8380417 else rt (64 - j / 8 - 1) * ((bckL rt G 2 j - bckL rt G 2 (j - 4)) % 8380417) % 8380417 := by
  show bckB rt (bckL rt G 2) (2 ^ 2) (256 / 2 ^ 2) (128 / 2 ^ 2) j = _
  rw [show (2 ^ 2 : Int) = 4 by decide, show (256 / 4 : Int) = 64 by decide, show (128 / 2 ^ 2 : Nat) = 32 by decide, bckB_4 32 j h0, if_pos (by omega)]
theorem bE_3 {G : Int → Int} {b t : Int} (hb : 0 ≤ b ∧ b < 32) (ht : 0 ≤ t ∧ t < 8) : cq (bckL rt G 3 (8 * b + t)) (sG G (fun i => xm (2 * trn (8 * b + i) + 1) t) (8 * b) 8) := by
  show cq _ (sG G (fun i => xm (2 * trn (8 * b + i) + 1) t) (8 * b) (4 + 4))
  rw [bL_2 (by omega) (by omega), sG_split]
  have x1 := fun t (ht : 0 ≤ t ∧ t < 4) => bE_2 (G := G) (b := 2 * b) (t := t) (by omega) ht
  have x2 := fun t (ht : 0 ≤ t ∧ t < 4) => bE_2 (G := G) (b := 2 * b + 1) (t := t) (by omega) ht
  by_cases c : t < 4
  · rw [if_pos (by omega)]
    refine (cq.m _).t (cq.add ?_ ?_)
    · have z := x1 t (by omega)
      rwa [show 4 * (2 * b) = 8 * b by omega] at z
    · have z := x2 t (by omega)
      rw [show 4 * (2 * b + 1) + t = 8 * b + t + 4 by omega] at z
      refine z.t (cq.e ?_)
      show sG G (fun i => xm (2 * trn (4 * (2 * b + 1) + i) + 1) t) (4 * (2 * b + 1)) 4 = sG G (fun i => xm (2 * trn (8 * b + (((4 : Nat) : Int) + i)) + 1) t) (8 * b + ((4 : Nat) : Int)) 4
      rw [show 4 * (2 * b + 1) = 8 * b + ((4 : Nat) : Int) by omega]
      exact congrArg (fun X => sG G X (8 * b + ((4 : Nat) : Int)) 4) (funext (fun i => by rw [Int.add_assoc]))
  · rw [if_neg (by omega), show (8 * b + t) / 8 = b by omega]
    have z1 := x1 (t - 4) (by omega)
    have z2 := x2 (t - 4) (by omega)
    rw [show 4 * (2 * b) + (t - 4) = 8 * b + t - 4 by omega] at z1
    rw [show 4 * (2 * b + 1) + (t - 4) = 8 * b + t by omega] at z2
    refine (cq.m _).t (((cq.r _).mul ((cq.m _).t (z2.sub z1))).t ?_)
    rw [Int.mul_sub, Int.sub_eq_add_neg, ← Int.neg_mul, Int.add_comm]
    refine cq.add (cq.s (sG_scale 4 (fun u hu => ?_))) (cq.s (sG_scale 4 (fun u hu => ?_)))
    · show cq (G (8 * b + u) * xm (2 * trn (8 * b + u) + 1) t) (_ * (G (4 * (2 * b) + u) * xm (2 * trn (4 * (2 * b) + u) + 1) (t - 4)))
      have rb := rB_2 (8 * b + u).toNat (by omega)
      rw [Int.toNat_of_nonneg (by omega), if_pos (by omega), show (8 * b + (u : Int)) / 8 = b by omega] at rb
      have xa := xm_add (2 * trn (8 * b + u) + 1) 4 (t - 4)
      rw [rb, show 4 + (t - 4) = t by omega] at xa
      rw [show 4 * (2 * b) = 8 * b by omega]
      refine ((cq.r _).mul xa).t ?_
      rw [← Int.mul_assoc, Int.mul_comm (G _), Int.mul_assoc]
      refine cq.mul ?_ (cq.r _)
      unfold cq; omega
    · show cq (G (8 * b + ((4 : Nat) : Int) + u) * xm (2 * trn (8 * b + (((4 : Nat) : Int) + u)) + 1) t) (_ * (G (4 * (2 * b + 1) + u) * xm (2 * trn (4 * (2 * b + 1) + u) + 1) (t - 4)))
      have rb := rB_2 (8 * b + 4 + u).toNat (by omega)
      rw [Int.toNat_of_nonneg (by omega), if_neg (by omega), show (8 * b + 4 + (u : Int)) / 8 = b by omega] at rb
      have xa := xm_add (2 * trn (8 * b + 4 + u) + 1) 4 (t - 4)
      rw [rb, show 4 + (t - 4) = t by omega] at xa
      rw [show 4 * (2 * b + 1) + (u : Int) = 8 * b + 4 + u by omega, show 8 * b + (((4 : Nat) : Int) + u) = 8 * b + 4 + u by omega, show 8 * b + ((4 : Nat) : Int) + u = 8 * b + 4 + u by omega]
      refine ((cq.r _).mul xa).t ?_
      rw [← Int.mul_assoc, Int.mul_comm (G _), Int.mul_assoc]
      exact cq.r _
theorem bL_3 {G : Int → Int} {j : Int} (h0 : 0 ≤ j) (h1 : j < 256) : bckL rt G 4 j = if j % 16 < 8 then (bckL rt G 3 j + bckL rt G 3 (j + 8)) % 8380417 else rt (32 - j / 16 - 1) * ((bckL rt G 3 j - bckL rt G 3 (j - 8)) % 8380417) % 8380417 := by
  show bckB rt (bckL rt G 3) (2 ^ 3) (256 / 2 ^ 3) (128 / 2 ^ 3) j = _
  rw [show (2 ^ 3 : Int) = 8 by decide, show (256 / 8 : Int) = 32 by decide, show (128 / 2 ^ 3 : Nat) = 16 by decide, bckB_8 16 j h0, if_pos (by omega)]
theorem bE_4 {G : Int → Int} {b t : Int} (hb : 0 ≤ b ∧ b < 16) (ht : 0 ≤ t ∧ t < 16) : cq (bckL rt G 4 (16 * b + t)) (sG G (fun i => xm (2 * trn (16 * b + i) + 1) t) (16 * b) 16) := by
  show cq _ (sG G (fun i => xm (2 * trn (16 * b + i) + 1) t) (16 * b) (8 + 8))
  rw [bL_3 (by omega) (by omega), sG_split]
  have x1 := fun t (ht : 0 ≤ t ∧ t < 8) => bE_3 (G := G) (b := 2 * b) (t := t) (by omega) ht
  have x2 := fun t (ht : 0 ≤ t ∧ t < 8) => bE_3 (G := G) (b := 2 * b + 1) (t := t) (by omega) ht
  by_cases c : t < 8
  · rw [if_pos (by omega)]
    refine (cq.m _).t (cq.add ?_ ?_)
    · have z := x1 t (by omega)
      rwa [show 8 * (2 * b) = 16 * b by omega] at z
    · have z := x2 t (by omega)
      rw [show 8 * (2 * b + 1) + t = 16 * b + t + 8 by omega] at z
      refine z.t (cq.e ?_)
      show sG G (fun i => xm (2 * trn (8 * (2 * b + 1) + i) + 1) t) (8 * (2 * b + 1)) 8 = sG G (fun i => xm (2 * trn (16 * b + (((8 : Nat) : Int) + i)) + 1) t) (16 * b + ((8 : Nat) : Int)) 8
      rw [show 8 * (2 * b + 1) = 16 * b + ((8 : Nat) : Int) by omega]
      exact congrArg (fun X => sG G X (16 * b + ((8 : Nat) : Int)) 8) (funext (fun i => by rw [Int.add_assoc]))
  · rw [if_neg (by omega), show (16 * b + t) / 16 = b by omega]
    have z1 := x1 (t - 8) (by omega)
    have z2 := x2 (t - 8) (by omega)
    rw [show 8 * (2 * b) + (t - 8) = 16 * b + t - 8 by omega] at z1
    rw [show 8 * (2 * b + 1) + (t - 8) = 16 * b + t by omega] at z2
    refine (cq.m _).t (((cq.r _).mul ((cq.m _).t (z2.sub z1))).t ?_)
    rw [Int.mul_sub, Int.sub_eq_add_neg, ← Int.neg_mul, Int.add_comm]
    refine cq.add (cq.s (sG_scale 8 (fun u hu => ?_))) (cq.s (sG_scale 8 (fun u hu => ?_)))
    · show cq (G (16 * b + u) * xm (2 * trn (16 * b + u) + 1) t) (_ * (G (8 * (2 * b) + u) * xm (2 * trn (8 * (2 * b) + u) + 1) (t - 8)))
      have rb := rB_3 (16 * b + u).toNat (by omega)
      rw [Int.toNat_of_nonneg (by omega), if_pos (by omega), show (16 * b + (u : Int)) / 16 = b by omega] at rb
      have xa := xm_add (2 * trn (16 * b + u) + 1) 8 (t - 8)
      rw [rb, show 8 + (t - 8) = t by omega] at xa
      rw [show 8 * (2 * b) = 16 * b by omega]
      refine ((cq.r _).mul xa).t ?_
      rw [← Int.mul_assoc, Int.mul_comm (G _), Int.mul_assoc]
      refine cq.mul ?_ (cq.r _)
      unfold cq; omega
    · show cq (G (16 * b + ((8 : Nat) : Int) + u) * xm (2 * trn (16 * b + (((8 : Nat) : Int) + u)) + 1) t) (_ * (G (8 * (2 * b + 1) + u) * xm (2 * trn (8 * (2 * b + 1) + u) + 1) (t - 8)))
      have rb := rB_3 (16 * b + 8 + u).toNat (by omega)
      rw [Int.toNat_of_nonneg (by omega), if_neg (by omega), show (16 * b + 8 + (u : Int)) / 16 = b by omega] at rb
      have xa := xm_add (2 * trn (16 * b + 8 + u) + 1) 8 (t - 8)
      rw [rb, show 8 + (t - 8) = t by omega] at xa
      rw [show 8 * (2 * b + 1) + (u : Int) = 16 * b + 8 + u by omega, show 16 * b + (((8 : Nat) : Int) + u) = 16 * b + 8 + u by omega, show 16 * b + ((8 : Nat) : Int) + u = 16 * b + 8 + u by omega]
      refine ((cq.r _).mul xa).t ?_
      rw [← Int.mul_assoc, Int.mul_comm (G _), Int.mul_assoc]
      exact cq.r _
theorem bL_4 {G : Int → Int} {j : Int} (h0 : 0 ≤ j) (h1 : j < 256) : bckL rt G 5 j = if j % 32 < 16 then (bckL rt G 4 j + bckL rt G 4 (j + 16)) % 8380417 else rt (16 - j / 32 - 1) * ((bckL rt G 4 j - bckL rt G 4 (j - 16)) % 8380417) % 8380417 := by
  show bckB rt (bckL rt G 4) (2 ^ 4) (256 / 2 ^ 4) (128 / 2 ^ 4) j = _
  rw [show (2 ^ 4 : Int) = 16 by decide, show (256 / 16 : Int) = 16 by decide, show (128 / 2 ^ 4 : Nat) = 8 by decide, bckB_16 8 j h0, if_pos (by omega)]
theorem bE_5 {G : Int → Int} {b t : Int} (hb : 0 ≤ b ∧ b < 8) (ht : 0 ≤ t ∧ t < 32) : cq (bckL rt G 5 (32 * b + t)) (sG G (fun i => xm (2 * trn (32 * b + i) + 1) t) (32 * b) 32) := by
  show cq _ (sG G (fun i => xm (2 * trn (32 * b + i) + 1) t) (32 * b) (16 + 16))
  rw [bL_4 (by omega) (by omega), sG_split]
  have x1 := fun t (ht : 0 ≤ t ∧ t < 16) => bE_4 (G := G) (b := 2 * b) (t := t) (by omega) ht
  have x2 := fun t (ht : 0 ≤ t ∧ t < 16) => bE_4 (G := G) (b := 2 * b + 1) (t := t) (by omega) ht
  by_cases c : t < 16
  · rw [if_pos (by omega)]
    refine (cq.m _).t (cq.add ?_ ?_)
    · have z := x1 t (by omega)
      rwa [show 16 * (2 * b) = 32 * b by omega] at z
    · have z := x2 t (by omega)
      rw [show 16 * (2 * b + 1) + t = 32 * b + t + 16 by omega] at z
      refine z.t (cq.e ?_)
      show sG G (fun i => xm (2 * trn (16 * (2 * b + 1) + i) + 1) t) (16 * (2 * b + 1)) 16 = sG G (fun i => xm (2 * trn (32 * b + (((16 : Nat) : Int) + i)) + 1) t) (32 * b + ((16 : Nat) : Int)) 16
      rw [show 16 * (2 * b + 1) = 32 * b + ((16 : Nat) : Int) by omega]
      exact congrArg (fun X => sG G X (32 * b + ((16 : Nat) : Int)) 16) (funext (fun i => by rw [Int.add_assoc]))
  · rw [if_neg (by omega), show (32 * b + t) / 32 = b by omega]
    have z1 := x1 (t - 16) (by omega)
    have z2 := x2 (t - 16) (by omega)
    rw [show 16 * (2 * b) + (t - 16) = 32 * b + t - 16 by omega] at z1
    rw [show 16 * (2 * b + 1) + (t - 16) = 32 * b + t by omega] at z2
    refine (cq.m _).t (((cq.r _).mul ((cq.m _).t (z2.sub z1))).t ?_)
    rw [Int.mul_sub, Int.sub_eq_add_neg, ← Int.neg_mul, Int.add_comm]
    refine cq.add (cq.s (sG_scale 16 (fun u hu => ?_))) (cq.s (sG_scale 16 (fun u hu => ?_)))
    · show cq (G (32 * b + u) * xm (2 * trn (32 * b + u) + 1) t) (_ * (G (16 * (2 * b) + u) * xm (2 * trn (16 * (2 * b) + u) + 1) (t - 16)))
      have rb := rB_4 (32 * b + u).toNat (by omega)
      rw [Int.toNat_of_nonneg (by omega), if_pos (by omega), show (32 * b + (u : Int)) / 32 = b by omega] at rb
      have xa := xm_add (2 * trn (32 * b + u) + 1) 16 (t - 16)
      rw [rb, show 16 + (t - 16) = t by omega] at xa
      rw [show 16 * (2 * b) = 32 * b by omega]
      refine ((cq.r _).mul xa).t ?_
      rw [← Int.mul_assoc, Int.mul_comm (G _), Int.mul_assoc]
      refine cq.mul ?_ (cq.r _)
      unfold cq; omega
    · show cq (G (32 * b + ((16 : Nat) : Int) + u) * xm (2 * trn (32 * b + (((16 : Nat) : Int) + u)) + 1) t) (_ * (G (16 * (2 * b + 1) + u) * xm (2 * trn (16 * (2 * b + 1) + u) + 1) (t - 16)))
      have rb := rB_4 (32 * b + 16 + u).toNat (by omega)
      rw [Int.toNat_of_nonneg (by omega), if_neg (by omega), show (32 * b + 16 + (u : Int)) / 32 = b by omega] at rb
      have xa := xm_add (2 * trn (32 * b + 16 + u) + 1) 16 (t - 16)
      rw [rb, show 16 + (t - 16) = t by omega] at xa
      rw [show 16 * (2 * b + 1) + (u : Int) = 32 * b + 16 + u by omega, show 32 * b + (((16 : Nat) : Int) + u) = 32 * b + 16 + u by omega, show 32 * b + ((16 : Nat) : Int) + u = 32 * b + 16 + u by omega]
      refine ((cq.r _).mul xa).t ?_
      rw [← Int.mul_assoc, Int.mul_comm (G _), Int.mul_assoc]
      exact cq.r _
theorem bL_5 {G : Int → Int} {j : Int} (h0 : 0 ≤ j) (h1 : j < 256) : bckL rt G 6 j = if j % 64 < 32 then (bckL rt G 5 j + bckL rt G 5 (j + 32)) % 8380417 else rt (8 - j / 64 - 1) * ((bckL rt G 5 j - bckL rt G 5 (j - 32)) % 8380417) % 8380417 := by
  show bckB rt (bckL rt G 5) (2 ^ 5) (256 / 2 ^ 5) (128 / 2 ^ 5) j = _
  rw [show (2 ^ 5 : Int) = 32 by decide, show (256 / 32 : Int) = 8 by decide, show (128 / 2 ^ 5 : Nat) = 4 by decide, bckB_32 4 j h0, if_pos (by omega)]
theorem bE_6 {G : Int → Int} {b t : Int} (hb : 0 ≤ b ∧ b < 4) (ht : 0 ≤ t ∧ t < 64) : cq (bckL rt G 6 (64 * b + t)) (sG G (fun i => xm (2 * trn (64 * b + i) + 1) t) (64 * b) 64) := by
  show cq _ (sG G (fun i => xm (2 * trn (64 * b + i) + 1) t) (64 * b) (32 + 32))
  rw [bL_5 (by omega) (by omega), sG_split]
  have x1 := fun t (ht : 0 ≤ t ∧ t < 32) => bE_5 (G := G) (b := 2 * b) (t := t) (by omega) ht
  have x2 := fun t (ht : 0 ≤ t ∧ t < 32) => bE_5 (G := G) (b := 2 * b + 1) (t := t) (by omega) ht
  by_cases c : t < 32
  · rw [if_pos (by omega)]
    refine (cq.m _).t (cq.add ?_ ?_)
    · have z := x1 t (by omega)
      rwa [show 32 * (2 * b) = 64 * b by omega] at z
    · have z := x2 t (by omega)
      rw [show 32 * (2 * b + 1) + t = 64 * b + t + 32 by omega] at z
      refine z.t (cq.e ?_)
      show sG G (fun i => xm (2 * trn (32 * (2 * b + 1) + i) + 1) t) (32 * (2 * b + 1)) 32 = sG G (fun i => xm (2 * trn (64 * b + (((32 : Nat) : Int) + i)) + 1) t) (64 * b + ((32 : Nat) : Int)) 32
      rw [show 32 * (2 * b + 1) = 64 * b + ((32 : Nat) : Int) by omega]
      exact congrArg (fun X => sG G X (64 * b + ((32 : Nat) : Int)) 32) (funext (fun i => by rw [Int.add_assoc]))
  · rw [if_neg (by omega), show (64 * b + t) / 64 = b by omega]
    have z1 := x1 (t - 32) (by omega)
    have z2 := x2 (t - 32) (by omega)
    rw [show 32 * (2 * b) + (t - 32) = 64 * b + t - 32 by omega] at z1
    rw [show 32 * (2 * b + 1) + (t - 32) = 64 * b + t by omega] at z2
    refine (cq.m _).t (((cq.r _).mul ((cq.m _).t (z2.sub z1))).t ?_)
    rw [Int.mul_sub, Int.sub_eq_add_neg, ← Int.neg_mul, Int.add_comm]
    refine cq.add (cq.s (sG_scale 32 (fun u hu => ?_))) (cq.s (sG_scale 32 (fun u hu => ?_)))
    · show cq (G (64 * b + u) * xm (2 * trn (64 * b + u) + 1) t) (_ * (G (32 * (2 * b) + u) * xm (2 * trn (32 * (2 * b) + u) + 1) (t - 32)))
      have rb := rB_5 (64 * b + u).toNat (by omega)
      rw [Int.toNat_of_nonneg (by omega), if_pos (by omega), show (64 * b + (u : Int)) / 64 = b by omega] at rb
      have xa := xm_add (2 * trn (64 * b + u) + 1) 32 (t - 32)
      rw [rb, show 32 + (t - 32) = t by omega] at xa
      rw [show 32 * (2 * b) = 64 * b by omega]
      refine ((cq.r _).mul xa).t ?_
      rw [← Int.mul_assoc, Int.mul_comm (G _), Int.mul_assoc]
      refine cq.mul ?_ (cq.r _)
      unfold cq; omega
    · show cq (G (64 * b + ((32 : Nat) : Int) + u) * xm (2 * trn (64 * b + (((32 : Nat) : Int) + u)) + 1) t) (_ * (G (32 * (2 * b + 1) + u) * xm (2 * trn (32 * (2 * b + 1) + u) + 1) (t - 32)))
      have rb := rB_5 (64 * b + 32 + u).toNat (by omega)
      rw [Int.toNat_of_nonneg (by omega), if_neg (by omega), show (64 * b + 32 + (u : Int)) / 64 = b by omega] at rb
      have xa := xm_add (2 * trn (64 * b + 32 + u) + 1) 32 (t - 32)
      rw [rb, show 32 + (t - 32) = t by omega] at xa
      rw [show 32 * (2 * b + 1) + (u : Int) = 64 * b + 32 + u by omega, show 64 * b + (((32 : Nat) : Int) + u) = 64 * b + 32 + u by omega, show 64 * b + ((32 : Nat) : Int) + u = 64 * b + 32 + u by omega]
      refine ((cq.r _).mul xa).t ?_
      rw [← Int.mul_assoc, Int.mul_comm (G _), Int.mul_assoc]
      exact cq.r _
theorem bL_6 {G : Int → Int} {j : Int} (h0 : 0 ≤ j) (h1 : j < 256) : bckL rt G 7 j = if j % 128 < 64 then (bckL rt G 6 j + bckL rt G 6 (j + 64)) % 8380417 else rt (4 - j / 128 - 1) * ((bckL rt G 6 j - bckL rt G 6 (j - 64)) % 8380417) % 8380417 := by
  show bckB rt (bckL rt G 6) (2 ^ 6) (256 / 2 ^ 6) (128 / 2 ^ 6) j = _
  rw [show (2 ^ 6 : Int) = 64 by decide, show (256 / 64 : Int) = 4 by decide, show (128 / 2 ^ 6 : Nat) = 2 by decide, bckB_64 2 j h0, if_pos (by omega)]
theorem bE_7 {G : Int → Int} {b t : Int} (hb : 0 ≤ b ∧ b < 2) (ht : 0 ≤ t ∧ t < 128) : cq (bckL rt G 7 (128 * b + t)) (sG G (fun i => xm (2 * trn (128 * b + i) + 1) t) (128 * b) 128) := by
  show cq _ (sG G (fun i => xm (2 * trn (128 * b + i) + 1) t) (128 * b) (64 + 64))
  rw [bL_6 (by omega) (by omega), sG_split]
  have x1 := fun t (ht : 0 ≤ t ∧ t < 64) => bE_6 (G := G) (b := 2 * b) (t := t) (by omega) ht
  have x2 := fun t (ht : 0 ≤ t ∧ t < 64) => bE_6 (G := G) (b := 2 * b + 1) (t := t) (by omega) ht
  by_cases c : t < 64
  · rw [if_pos (by omega)]
    refine (cq.m _).t (cq.add ?_ ?_)
    · have z := x1 t (by omega)
      rwa [show 64 * (2 * b) = 128 * b by omega] at z
    · have z := x2 t (by omega)
      rw [show 64 * (2 * b + 1) + t = 128 * b + t + 64 by omega] at z
      refine z.t (cq.e ?_)
      show sG G (fun i => xm (2 * trn (64 * (2 * b + 1) + i) + 1) t) (64 * (2 * b + 1)) 64 = sG G (fun i => xm (2 * trn (128 * b + (((64 : Nat) : Int) + i)) + 1) t) (128 * b + ((64 : Nat) : Int)) 64
      rw [show 64 * (2 * b + 1) = 128 * b + ((64 : Nat) : Int) by omega]
      exact congrArg (fun X => sG G X (128 * b + ((64 : Nat) : Int)) 64) (funext (fun i => by rw [Int.add_assoc]))
  · rw [if_neg (by omega), show (128 * b + t) / 128 = b by omega]
    have z1 := x1 (t - 64) (by omega)
    have z2 := x2 (t - 64) (by omega)
    rw [show 64 * (2 * b) + (t - 64) = 128 * b + t - 64 by omega] at z1
    rw [show 64 * (2 * b + 1) + (t - 64) = 128 * b + t by omega] at z2
    refine (cq.m _).t (((cq.r _).mul ((cq.m _).t (z2.sub z1))).t ?_)
    rw [Int.mul_sub, Int.sub_eq_add_neg, ← Int.neg_mul, Int.add_comm]
    refine cq.add (cq.s (sG_scale 64 (fun u hu => ?_))) (cq.s (sG_scale 64 (fun u hu => ?_)))
    · show cq (G (128 * b + u) * xm (2 * trn (128 * b + u) + 1) t) (_ * (G (64 * (2 * b) + u) * xm (2 * trn (64 * (2 * b) + u) + 1) (t - 64)))
      have rb := rB_6 (128 * b + u).toNat (by omega)
      rw [Int.toNat_of_nonneg (by omega), if_pos (by omega), show (128 * b + (u : Int)) / 128 = b by omega] at rb
      have xa := xm_add (2 * trn (128 * b + u) + 1) 64 (t - 64)
      rw [rb, show 64 + (t - 64) = t by omega] at xa
      rw [show 64 * (2 * b) = 128 * b by omega]
      refine ((cq.r _).mul xa).t ?_
      rw [← Int.mul_assoc, Int.mul_comm (G _), Int.mul_assoc]
      refine cq.mul ?_ (cq.r _)
      unfold cq; omega
    · show cq (G (128 * b + ((64 : Nat) : Int) + u) * xm (2 * trn (128 * b + (((64 : Nat) : Int) + u)) + 1) t) (_ * (G (64 * (2 * b + 1) + u) * xm (2 * trn (64 * (2 * b + 1) + u) + 1) (t - 64)))
      have rb := rB_6 (128 * b + 64 + u).toNat (by omega)
      rw [Int.toNat_of_nonneg (by omega), if_neg (by omega), show (128 * b + 64 + (u : Int)) / 128 = b by omega] at rb
      have xa := xm_add (2 * trn (128 * b + 64 + u) + 1) 64 (t - 64)
      rw [rb, show 64 + (t - 64) = t by omega] at xa
      rw [show 64 * (2 * b + 1) + (u : Int) = 128 * b + 64 + u by omega, show 128 * b + (((64 : Nat) : Int) + u) = 128 * b + 64 + u by omega, show 128 * b + ((64 : Nat) : Int) + u = 128 * b + 64 + u by omega]
      refine ((cq.r _).mul xa).t ?_
      rw [← Int.mul_assoc, Int.mul_comm (G _), Int.mul_assoc]
      exact cq.r _
theorem bL_7 {G : Int → Int} {j : Int} (h0 : 0 ≤ j) (h1 : j < 256) : bckL rt G 8 j = if j % 256 < 128 then (bckL rt G 7 j + bckL rt G 7 (j + 128)) % 8380417 else rt (2 - j / 256 - 1) * ((bckL rt G 7 j - bckL rt G 7 (j - 128)) % 8380417) % 8380417 := by
  show bckB rt (bckL rt G 7) (2 ^ 7) (256 / 2 ^ 7) (128 / 2 ^ 7) j = _
  rw [show (2 ^ 7 : Int) = 128 by decide, show (256 / 128 : Int) = 2 by decide, show (128 / 2 ^ 7 : Nat) = 1 by decide, bckB_128 1 j h0, if_pos (by omega)]
theorem bE_8 {G : Int → Int} {b t : Int} (hb : 0 ≤ b ∧ b < 1) (ht : 0 ≤ t ∧ t < 256) : cq (bckL rt G 8 (256 * b + t)) (sG G (fun i => xm (2 * trn (256 * b + i) + 1) t) (256 * b) 256) := by
  show cq _ (sG G (fun i => xm (2 * trn (256 * b + i) + 1) t) (256 * b) (128 + 128))
  rw [bL_7 (by omega) (by omega), sG_split]
  have x1 := fun t (ht : 0 ≤ t ∧ t < 128) => bE_7 (G := G) (b := 2 * b) (t := t) (by omega) ht
  have x2 := fun t (ht : 0 ≤ t ∧ t < 128) => bE_7 (G := G) (b := 2 * b + 1) (t := t) (by omega) ht
  by_cases c : t < 128
  · rw [if_pos (by omega)]
    refine (cq.m _).t (cq.add ?_ ?_)
    · have z := x1 t (by omega)
      rwa [show 128 * (2 * b) = 256 * b by omega] at z
    · have z := x2 t (by omega)
      rw [show 128 * (2 * b + 1) + t = 256 * b + t + 128 by omega] at z
      refine z.t (cq.e ?_)
      show sG G (fun i => xm (2 * trn (128 * (2 * b + 1) + i) + 1) t) (128 * (2 * b + 1)) 128 = sG G (fun i => xm (2 * trn (256 * b + (((128 : Nat) : Int) + i)) + 1) t) (256 * b + ((128 : Nat) : Int)) 128
      rw [show 128 * (2 * b + 1) = 256 * b + ((128 : Nat) : Int) by omega]
      exact congrArg (fun X => sG G X (256 * b + ((128 : Nat) : Int)) 128) (funext (fun i => by rw [Int.add_assoc]))
  · rw [if_neg (by omega), show (256 * b + t) / 256 = b by omega]
    have z1 := x1 (t - 128) (by omega)
    have z2 := x2 (t - 128) (by omega)
    rw [show 128 * (2 * b) + (t - 128) = 256 * b + t - 128 by omega] at z1
    rw [show 128 * (2 * b + 1) + (t - 128) = 256 * b + t by omega] at z2
    refine (cq.m _).t (((cq.r _).mul ((cq.m _).t (z2.sub z1))).t ?_)
    rw [Int.mul_sub, Int.sub_eq_add_neg, ← Int.neg_mul, Int.add_comm]
    refine cq.add (cq.s (sG_scale 128 (fun u hu => ?_))) (cq.s (sG_scale 128 (fun u hu => ?_)))
    · show cq (G (256 * b + u) * xm (2 * trn (256 * b + u) + 1) t) (_ * (G (128 * (2 * b) + u) * xm (2 * trn (128 * (2 * b) + u) + 1) (t - 128)))
      have rb := rB_7 (256 * b + u).toNat (by omega)
      rw [Int.toNat_of_nonneg (by omega), if_pos (by omega), show (256 * b + (u : Int)) / 256 = b by omega] at rb
      have xa := xm_add (2 * trn (256 * b + u) + 1) 128 (t - 128)
      rw [rb, show 128 + (t - 128) = t by omega] at xa
      rw [show 128 * (2 * b) = 256 * b by omega]
      refine ((cq.r _).mul xa).t ?_
      rw [← Int.mul_assoc, Int.mul_comm (G _), Int.mul_assoc]
      refine cq.mul ?_ (cq.r _)
      unfold cq; omega
    · show cq (G (256 * b + ((128 : Nat) : Int) + u) * xm (2 * trn (256 * b + (((128 : Nat) : Int) + u)) + 1) t) (_ * (G (128 * (2 * b + 1) + u) * xm (2 * trn (128 * (2 * b + 1) + u) + 1) (t - 128)))
      have rb := rB_7 (256 * b + 128 + u).toNat (by omega)
      rw [Int.toNat_of_nonneg (by omega), if_neg (by omega), show (256 * b + 128 + (u : Int)) / 256 = b by omega] at rb
      have xa := xm_add (2 * trn (256 * b + 128 + u) + 1) 128 (t - 128)
      rw [rb, show 128 + (t - 128) = t by omega] at xa
      rw [show 128 * (2 * b + 1) + (u : Int) = 256 * b + 128 + u by omega, show 256 * b + (((128 : Nat) : Int) + u) = 256 * b + 128 + u by omega, show 256 * b + ((128 : Nat) : Int) + u = 256 * b + 128 + u by omega]
      refine ((cq.r _).mul xa).t ?_
      rw [← Int.mul_assoc, Int.mul_comm (G _), Int.mul_assoc]
      exact cq.r _
theorem bck_itp {G : Int → Int} {j : Int} (h0 : 0 ≤ j) (h1 : j < 256) : bck rt G j = itp G j := by
  have e := bE_8 (G := G) (b := 0) (t := j) (by omega) (by omega)
  rw [show (256 * 0 + j : Int) = j by omega] at e
  have e2 : cq (bckL rt G 8 j) (inS G j 256) := by
    rw [inS_sG]
    exact e
  rw [bck_at h0 h1]
  show _ = inS G j 256 % 8380417 * 8347681 % 8380417
  rw [Int.mul_comm 8347681]
  exact (e2.t (cq.m _).s).mul (cq.r 8347681)
theorem iv_0 {F : Int → Int} : ∀ j, 0 ≤ j → j < 256 → cq (bckL rt (fwd rt F) 0 j) (1 * fwdL rt F 8 j) := fun j _ _ => by
  rw [Int.one_mul]; exact cq.r _
theorem iv_1 {F : Int → Int} : ∀ j, 0 ≤ j → j < 256 → cq (bckL rt (fwd rt F) 1 j) (2 * fwdL rt F 7 j) := fun j h0 h1 => by
  rw [bL_0 h0 h1]
  have rc := rC_7 (j / 2).toNat (by omega)
  rw [Int.toNat_of_nonneg (by omega)] at rc
  by_cases c : j % 2 < 1
  · rw [if_pos c]
    have z1 := iv_0 (F := F) j h0 h1
    have z2 := iv_0 (F := F) (j + 1) (by omega) (by omega)
    rw [fL_7 h0 h1, if_pos c] at z1
    rw [fL_7 (by omega) (by omega), if_neg (by omega), show j + 1 - 1 = j by omega, show (j + 1) / 2 = j / 2 by omega] at z2
    refine (cq.m _).t ((z1.add z2).t ?_)
    generalize rt (128 + j / 2) * fwdL rt F 7 (j + 1) = a
    unfold cq; omega
  · rw [if_neg c]
    have z1 := iv_0 (F := F) j h0 h1
    have z2 := iv_0 (F := F) (j - 1) (by omega) (by omega)
    rw [fL_7 h0 h1, if_neg c] at z1
    rw [fL_7 (by omega) (by omega), if_pos (by omega), show j - 1 + 1 = j by omega, show (j - 1) / 2 = j / 2 by omega] at z2
    refine (cq.m _).t (((cq.r _).mul ((cq.m _).t (z1.sub z2))).t ?_)
    have y : cq (1 * ((fwdL rt F 7 (j - 1) - rt (128 + j / 2) * fwdL rt F 7 j) % 8380417) - 1 * ((fwdL rt F 7 (j - 1) + rt (128 + j / 2) * fwdL rt F 7 j) % 8380417)) (rt (128 + j / 2) * (fwdL rt F 7 j * -2)) := by
      rw [← Int.mul_assoc]
      generalize rt (128 + j / 2) * fwdL rt F 7 j = a
      unfold cq; omega
    refine ((cq.r _).mul y).t ?_
    rw [← Int.mul_assoc, Int.mul_comm (rt _) (rt _)]
    refine (cq.mul (b := 8380416) (by unfold cq; rw [rc]; rfl) (cq.r _)).t ?_
    unfold cq; omega
theorem iv_2 {F : Int → Int} : ∀ j, 0 ≤ j → j < 256 → cq (bckL rt (fwd rt F) 2 j) (4 * fwdL rt F 6 j) := fun j h0 h1 => by
  rw [bL_1 h0 h1]
  have rc := rC_6 (j / 4).toNat (by omega)
  rw [Int.toNat_of_nonneg (by omega)] at rc
  by_cases c : j % 4 < 2
  · rw [if_pos c]
    have z1 := iv_1 (F := F) j h0 h1
    have z2 := iv_1 (F := F) (j + 2) (by omega) (by omega)
    rw [fL_6 h0 h1, if_pos c] at z1
    rw [fL_6 (by omega) (by omega), if_neg (by omega), show j + 2 - 2 = j by omega, show (j + 2) / 4 = j / 4 by omega] at z2
    refine (cq.m _).t ((z1.add z2).t ?_)
    generalize rt (64 + j / 4) * fwdL rt F 6 (j + 2) = a
    unfold cq; omega
  · rw [if_neg c]
    have z1 := iv_1 (F := F) j h0 h1
    have z2 := iv_1 (F := F) (j - 2) (by omega) (by omega)
    rw [fL_6 h0 h1, if_neg c] at z1
    rw [fL_6 (by omega) (by omega), if_pos (by omega), show j - 2 + 2 = j by omega, show (j - 2) / 4 = j / 4 by omega] at z2
    refine (cq.m _).t (((cq.r _).mul ((cq.m _).t (z1.sub z2))).t ?_)
    have y : cq (2 * ((fwdL rt F 6 (j - 2) - rt (64 + j / 4) * fwdL rt F 6 j) % 8380417) - 2 * ((fwdL rt F 6 (j - 2) + rt (64 + j / 4) * fwdL rt F 6 j) % 8380417)) (rt (64 + j / 4) * (fwdL rt F 6 j * -4)) := by
      rw [← Int.mul_assoc]
      generalize rt (64 + j / 4) * fwdL rt F 6 j = a
      unfold cq; omega
    refine ((cq.r _).mul y).t ?_
    rw [← Int.mul_assoc, Int.mul_comm (rt _) (rt _)]
    refine (cq.mul (b := 8380416) (by unfold cq; rw [rc]; rfl) (cq.r _)).t ?_
    unfold cq; omega
theorem iv_3 {F : Int → Int} : ∀ j, 0 ≤ j → j < 256 → cq (bckL rt (fwd rt F) 3 j) (8 * fwdL rt F 5 j) := fun j h0 h1 => by
  rw [bL_2 h0 h1]
  have rc := rC_5 (j / 8).toNat (by omega)
  rw [Int.toNat_of_nonneg (by omega)] at rc
  by_cases c : j % 8 < 4
  · rw [if_pos c]
    have z1 := iv_2 (F := F) j h0 h1
    have z2 := iv_2 (F := F) (j + 4) (by omega) (by omega)
    rw [fL_5 h0 h1, if_pos c] at z1
    rw [fL_5 (by omega) (by omega), if_neg (by omega), show j + 4 - 4 = j by omega, show (j + 4) / 8 = j / 8 by omega] at z2
    refine (cq.m _).t ((z1.add z2).t ?_)
    generalize rt (32 + j / 8) * fwdL rt F 5 (j + 4) = a
    unfold cq; omega
  · rw [if_neg c]
    have z1 := iv_2 (F := F) j h0 h1
    have z2 := iv_2 (F := F) (j - 4) (by omega) (by omega)
    rw [fL_5 h0 h1, if_neg c] at z1
    rw [fL_5 (by omega) (by omega), if_pos (by omega), show j - 4 + 4 = j by omega, show (j - 4) / 8 = j / 8 by omega] at z2
    refine (cq.m _).t (((cq.r _).mul ((cq.m _).t (z1.sub z2))).t ?_)
    have y : cq (4 * ((fwdL rt F 5 (j - 4) - rt (32 + j / 8) * fwdL rt F 5 j) % 8380417) - 4 * ((fwdL rt F 5 (j - 4) + rt (32 + j / 8) * fwdL rt F 5 j) % 8380417)) (rt (32 + j / 8) * (fwdL rt F 5 j * -8)) := by
      rw [← Int.mul_assoc]
      generalize rt (32 + j / 8) * fwdL rt F 5 j = a
      unfold cq; omega
    refine ((cq.r _).mul y).t ?_
    rw [← Int.mul_assoc, Int.mul_comm (rt _) (rt _)]
    refine (cq.mul (b := 8380416) (by unfold cq; rw [rc]; rfl) (cq.r _)).t ?_
    unfold cq; omega
theorem iv_4 {F : Int → Int} : ∀ j, 0 ≤ j → j < 256 → cq (bckL rt (fwd rt F) 4 j) (16 * fwdL rt F 4 j) := fun j h0 h1 => by
  rw [bL_3 h0 h1]
  have rc := rC_4 (j / 16).toNat (by omega)
  rw [Int.toNat_of_nonneg (by omega)] at rc
  by_cases c : j % 16 < 8
  · rw [if_pos c]
    have z1 := iv_3 (F := F) j h0 h1
    have z2 := iv_3 (F := F) (j + 8) (by omega) (by omega)
    rw [fL_4 h0 h1, if_pos c] at z1
    rw [fL_4 (by omega) (by omega), if_neg (by omega), show j + 8 - 8 = j by omega, show (j + 8) / 16 = j / 16 by omega] at z2
    refine (cq.m _).t ((z1.add z2).t ?_)
    generalize rt (16 + j / 16) * fwdL rt F 4 (j + 8) = a
    unfold cq; omega
  · rw [if_neg c]
    have z1 := iv_3 (F := F) j h0 h1
    have z2 := iv_3 (F := F) (j - 8) (by omega) (by omega)
    rw [fL_4 h0 h1, if_neg c] at z1
    rw [fL_4 (by omega) (by omega), if_pos (by omega), show j - 8 + 8 = j by omega, show (j - 8) / 16 = j / 16 by omega] at z2
    refine (cq.m _).t (((cq.r _).mul ((cq.m _).t (z1.sub z2))).t ?_)
    have y : cq (8 * ((fwdL rt F 4 (j - 8) - rt (16 + j / 16) * fwdL rt F 4 j) % 8380417) - 8 * ((fwdL rt F 4 (j - 8) + rt (16 + j / 16) * fwdL rt F 4 j) % 8380417)) (rt (16 + j / 16) * (fwdL rt F 4 j * -16)) := by
      rw [← Int.mul_assoc]
      generalize rt (16 + j / 16) * fwdL rt F 4 j = a
      unfold cq; omega
    refine ((cq.r _).mul y).t ?_
    rw [← Int.mul_assoc, Int.mul_comm (rt _) (rt _)]
    refine (cq.mul (b := 8380416) (by unfold cq; rw [rc]; rfl) (cq.r _)).t ?_
    unfold cq; omega
theorem iv_5 {F : Int → Int} : ∀ j, 0 ≤ j → j < 256 → cq (bckL rt (fwd rt F) 5 j) (32 * fwdL rt F 3 j) := fun j h0 h1 => by
  rw [bL_4 h0 h1]
  have rc := rC_3 (j / 32).toNat (by omega)
  rw [Int.toNat_of_nonneg (by omega)] at rc
  by_cases c : j % 32 < 16
  · rw [if_pos c]
    have z1 := iv_4 (F := F) j h0 h1
    have z2 := iv_4 (F := F) (j + 16) (by omega) (by omega)
    rw [fL_3 h0 h1, if_pos c] at z1
    rw [fL_3 (by omega) (by omega), if_neg (by omega), show j + 16 - 16 = j by omega, show (j + 16) / 32 = j / 32 by omega] at z2
    refine (cq.m _).t ((z1.add z2).t ?_)
    generalize rt (8 + j / 32) * fwdL rt F 3 (j + 16) = a
    unfold cq; omega
  · rw [if_neg c]
    have z1 := iv_4 (F := F) j h0 h1
    have z2 := iv_4 (F := F) (j - 16) (by omega) (by omega)
    rw [fL_3 h0 h1, if_neg c] at z1
    rw [fL_3 (by omega) (by omega), if_pos (by omega), show j - 16 + 16 = j by omega, show (j - 16) / 32 = j / 32 by omega] at z2
    refine (cq.m _).t (((cq.r _).mul ((cq.m _).t (z1.sub z2))).t ?_)
    have y : cq (16 * ((fwdL rt F 3 (j - 16) - rt (8 + j / 32) * fwdL rt F 3 j) % 8380417) - 16 * ((fwdL rt F 3 (j - 16) + rt (8 + j / 32) * fwdL rt F 3 j) % 8380417)) (rt (8 + j / 32) * (fwdL rt F 3 j * -32)) := by
      rw [← Int.mul_assoc]
      generalize rt (8 + j / 32) * fwdL rt F 3 j = a
      unfold cq; omega
    refine ((cq.r _).mul y).t ?_
    rw [← Int.mul_assoc, Int.mul_comm (rt _) (rt _)]
    refine (cq.mul (b := 8380416) (by unfold cq; rw [rc]; rfl) (cq.r _)).t ?_
    unfold cq; omega
theorem iv_6 {F : Int → Int} : ∀ j, 0 ≤ j → j < 256 → cq (bckL rt (fwd rt F) 6 j) (64 * fwdL rt F 2 j) := fun j h0 h1 => by
  rw [bL_5 h0 h1]
  have rc := rC_2 (j / 64).toNat (by omega)
  rw [Int.toNat_of_nonneg (by omega)] at rc
  by_cases c : j % 64 < 32
  · rw [if_pos c]
    have z1 := iv_5 (F := F) j h0 h1
    have z2 := iv_5 (F := F) (j + 32) (by omega) (by omega)
    rw [fL_2 h0 h1, if_pos c] at z1
    rw [fL_2 (by omega) (by omega), if_neg (by omega), show j + 32 - 32 = j by omega, show (j + 32) / 64 = j / 64 by omega] at z2
    refine (cq.m _).t ((z1.add z2).t ?_)
    generalize rt (4 + j / 64) * fwdL rt F 2 (j + 32) = a
    unfold cq; omega
  · rw [if_neg c]
    have z1 := iv_5 (F := F) j h0 h1
    have z2 := iv_5 (F := F) (j - 32) (by omega) (by omega)
    rw [fL_2 h0 h1, if_neg c] at z1
    rw [fL_2 (by omega) (by omega), if_pos (by omega), show j - 32 + 32 = j by omega, show (j - 32) / 64 = j / 64 by omega] at z2
    refine (cq.m _).t (((cq.r _).mul ((cq.m _).t (z1.sub z2))).t ?_)
    have y : cq (32 * ((fwdL rt F 2 (j - 32) - rt (4 + j / 64) * fwdL rt F 2 j) % 8380417) - 32 * ((fwdL rt F 2 (j - 32) + rt (4 + j / 64) * fwdL rt F 2 j) % 8380417)) (rt (4 + j / 64) * (fwdL rt F 2 j * -64)) := by
      rw [← Int.mul_assoc]
      generalize rt (4 + j / 64) * fwdL rt F 2 j = a
      unfold cq; omega
    refine ((cq.r _).mul y).t ?_
    rw [← Int.mul_assoc, Int.mul_comm (rt _) (rt _)]
    refine (cq.mul (b := 8380416) (by unfold cq; rw [rc]; rfl) (cq.r _)).t ?_
    unfold cq; omega
theorem iv_7 {F : Int → Int} : ∀ j, 0 ≤ j → j < 256 → cq (bckL rt (fwd rt F) 7 j) (128 * fwdL rt F 1 j) := fun j h0 h1 => by
  rw [bL_6 h0 h1]
  have rc := rC_1 (j / 128).toNat (by omega)
  rw [Int.toNat_of_nonneg (by omega)] at rc
  by_cases c : j % 128 < 64
  · rw [if_pos c]
    have z1 := iv_6 (F := F) j h0 h1
    have z2 := iv_6 (F := F) (j + 64) (by omega) (by omega)
    rw [fL_1 h0 h1, if_pos c] at z1
    rw [fL_1 (by omega) (by omega), if_neg (by omega), show j + 64 - 64 = j by omega, show (j + 64) / 128 = j / 128 by omega] at z2
    refine (cq.m _).t ((z1.add z2).t ?_)
    generalize rt (2 + j / 128) * fwdL rt F 1 (j + 64) = a
    unfold cq; omega
  · rw [if_neg c]
    have z1 := iv_6 (F := F) j h0 h1
    have z2 := iv_6 (F := F) (j - 64) (by omega) (by omega)
    rw [fL_1 h0 h1, if_neg c] at z1
    rw [fL_1 (by omega) (by omega), if_pos (by omega), show j - 64 + 64 = j by omega, show (j - 64) / 128 = j / 128 by omega] at z2
    refine (cq.m _).t (((cq.r _).mul ((cq.m _).t (z1.sub z2))).t ?_)
    have y : cq (64 * ((fwdL rt F 1 (j - 64) - rt (2 + j / 128) * fwdL rt F 1 j) % 8380417) - 64 * ((fwdL rt F 1 (j - 64) + rt (2 + j / 128) * fwdL rt F 1 j) % 8380417)) (rt (2 + j / 128) * (fwdL rt F 1 j * -128)) := by
      rw [← Int.mul_assoc]
      generalize rt (2 + j / 128) * fwdL rt F 1 j = a
      unfold cq; omega
    refine ((cq.r _).mul y).t ?_
    rw [← Int.mul_assoc, Int.mul_comm (rt _) (rt _)]
    refine (cq.mul (b := 8380416) (by unfold cq; rw [rc]; rfl) (cq.r _)).t ?_
    unfold cq; omega
theorem iv_8 {F : Int → Int} : ∀ j, 0 ≤ j → j < 256 → cq (bckL rt (fwd rt F) 8 j) (256 * fwdL rt F 0 j) := fun j h0 h1 => by
  rw [bL_7 h0 h1]
  have rc := rC_0 (j / 256).toNat (by omega)
  rw [Int.toNat_of_nonneg (by omega)] at rc
  by_cases c : j % 256 < 128
  · rw [if_pos c]
    have z1 := iv_7 (F := F) j h0 h1
    have z2 := iv_7 (F := F) (j + 128) (by omega) (by omega)
    rw [fL_0 h0 h1, if_pos c] at z1
    rw [fL_0 (by omega) (by omega), if_neg (by omega), show j + 128 - 128 = j by omega, show (j + 128) / 256 = j / 256 by omega] at z2
    refine (cq.m _).t ((z1.add z2).t ?_)
    generalize rt (1 + j / 256) * fwdL rt F 0 (j + 128) = a
    unfold cq; omega
  · rw [if_neg c]
    have z1 := iv_7 (F := F) j h0 h1
    have z2 := iv_7 (F := F) (j - 128) (by omega) (by omega)
    rw [fL_0 h0 h1, if_neg c] at z1
    rw [fL_0 (by omega) (by omega), if_pos (by omega), show j - 128 + 128 = j by omega, show (j - 128) / 256 = j / 256 by omega] at z2
    refine (cq.m _).t (((cq.r _).mul ((cq.m _).t (z1.sub z2))).t ?_)
    have y : cq (128 * ((fwdL rt F 0 (j - 128) - rt (1 + j / 256) * fwdL rt F 0 j) % 8380417) - 128 * ((fwdL rt F 0 (j - 128) + rt (1 + j / 256) * fwdL rt F 0 j) % 8380417)) (rt (1 + j / 256) * (fwdL rt F 0 j * -256)) := by
      rw [← Int.mul_assoc]
      generalize rt (1 + j / 256) * fwdL rt F 0 j = a
      unfold cq; omega
    refine ((cq.r _).mul y).t ?_
    rw [← Int.mul_assoc, Int.mul_comm (rt _) (rt _)]
    refine (cq.mul (b := 8380416) (by unfold cq; rw [rc]; rfl) (cq.r _)).t ?_
    unfold cq; omega
theorem bck_fwd {F : Int → Int} (h : inQ F) {j : Int} (h0 : 0 ≤ j) (h1 : j < 256) : bck rt (fwd rt F) j = F j := by
  rw [bck_at h0 h1]
  have z := iv_8 (F := F) j h0 h1
  have q := h j h0 h1
  have y : cq (8347681 * bckL rt (fwd rt F) 8 j) (8347681 * (256 * F j)) := (cq.r _).mul z
  unfold cq at y
  rw [y]
  omega
-- the product
theorem shift_i {B F X : Int → Int} (hX : ∀ s t : Int, cq (X (s + t)) (X s * X t)) (h2 : cq (X 256) (-1)) {i : Nat} (hi : i < 256) : cq (sG (fun k => fwT B F k i) X 0 256) (B i * X i * sG F X 0 256) := by
  have e1 := sG_split (G := fun k => fwT B F k i) (X := X) (s := 0) (a := i) (256 - i)
  have e2 := sG_split (G := F) (X := X) (s := 0) (a := 256 - i) i
  rw [show i + (256 - i) = 256 by omega] at e1
  rw [show 256 - i + i = 256 by omega] at e2
  rw [e1, e2, Int.mul_add, Int.add_comm]
  refine cq.add (sG_scale _ (fun t ht => ?_)) (sG_scale _ (fun t ht => ?_))
  · show cq (fwT B F (0 + i + t) i * X (i + t)) (B i * X i * (F (0 + t) * X t))
    unfold fwT
    rw [if_pos (by omega), show (0 + (i : Int) + t - i) = t by omega, show (0 + (t : Int)) = t by omega]
    exact ((cq.r _).mul (hX i t)).t (cq.e (mul4 _ _ _ _))
  · show cq (fwT B F (0 + t) i * X t) (B i * X i * (F (0 + ((256 - i : Nat) : Int) + t) * X (((256 - i : Nat) : Int) + t)))
    unfold fwT
    rw [if_neg (by omega), show (0 + (t : Int) - i + 256) = 0 + ((256 - i : Nat) : Int) + t by omega, mul4]
    generalize B i * F (0 + ((256 - i : Nat) : Int) + t) = c
    have x1 := hX i (((256 - i : Nat) : Int) + t)
    rw [show ((i : Int) + (((256 - i : Nat) : Int) + t)) = 256 + t by omega] at x1
    have x2 := (hX 256 t).t (h2.mul (cq.r (X t)))
    have x3 := (x1.s.t x2).s
    rw [Int.neg_mul, Int.one_mul] at x3
    rw [Int.neg_mul, ← Int.mul_neg]
    exact (cq.r c).mul x3
theorem prod_n {B F X : Int → Int} (hX : ∀ s t : Int, cq (X (s + t)) (X s * X t)) (h2 : cq (X 256) (-1)) : ∀ n : Nat, n ≤ 256 → cq (sG (fun k => fwS B F k n) X 0 256) (sG B X 0 n * sG F X 0 256)
  | 0, _ => by
    show cq _ (0 * _)
    rw [Int.zero_mul]
    have z : ∀ m : Nat, sG (fun k => fwS B F k 0) X 0 m = 0 := fun m => by
      induction m with
      | zero => rfl
      | succ m ih => show sG (fun k => fwS B F k 0) X 0 m + 0 * X m = 0; rw [ih, Int.zero_mul]; rfl
    rw [z]; exact cq.r _
  | n + 1, h => by
    have ih := prod_n (B := B) (F := F) hX h2 n (by omega)
    have s := shift_i (B := B) (F := F) hX h2 (i := n) (by omega)
    show cq _ ((sG B X 0 n + B (0 + n) * X n) * _)
    rw [Int.add_mul, Int.zero_add]
    refine cq.t (cq.s ?_) (ih.add s)
    exact sG_two 256 (fun t ht => by rw [← Int.add_mul]; exact cq.r _)
theorem eva_mul {B F : Int → Int} {i : Int} : cq (eva (fun k => fwS B F k 256) i) (eva B i * eva F i) := by
  have h2 : cq (xp (2 * trn i + 1) 256) (-1) := by rw [xp_256]; unfold cq; decide
  have z := prod_n (B := B) (F := F) (X := xp (2 * trn i + 1)) (xp_add _) h2 256 (by omega)
  unfold eva
  rw [evS_sG, evS_sG, evS_sG]
  exact (cq.m _).t (z.t ((cq.m _).s.mul (cq.m _).s))
theorem eva_cq {F G : Int → Int} {i : Int} (h : ∀ k : Nat, k < 256 → cq (F k) (G k)) : eva F i = eva G i := by
  unfold eva
  rw [evS_sG, evS_sG]
  exact sG_cq 256 (fun t ht => by rw [Int.zero_add]; exact (h t ht).mul (cq.r _))
theorem itp_cq {F G : Int → Int} {j : Int} (h : ∀ k : Nat, k < 256 → cq (F k) (G k)) : itp F j = itp G j := by
  unfold itp
  rw [inS_sG, inS_sG]
  have z : cq (sG F (fun i => xm (2 * trn (0 + i) + 1) j) 0 256) (sG G (fun i => xm (2 * trn (0 + i) + 1) j) 0 256) := sG_cq 256 (fun t ht => by rw [Int.zero_add]; exact (h t ht).mul (cq.r _))
  rw [show sG F (fun i => xm (2 * trn (0 + i) + 1) j) 0 256 % 8380417 = sG G (fun i => xm (2 * trn (0 + i) + 1) j) 0 256 % 8380417 from z]
theorem eva_in {F : Int → Int} {i : Int} : 0 ≤ eva F i ∧ eva F i < 8380417 := by unfold eva; omega
/-- the product of the class is that of the reference -/
theorem prod_few {B F B' F' : Int → Int} (hB : ∀ k : Nat, k < 256 → cq (B' k) (B k)) (hF : ∀ k : Nat, k < 256 → cq (F' k) (F k)) {j : Int} (h0 : 0 ≤ j) (h1 : j < 256) : bck rt (fun i => fwd rt B' i * fwd rt F' i % 8380417) j = fwS B F j 256 % 8380417 := by
  have e : eqQ (fun i => fwd rt B' i * fwd rt F' i % 8380417) (fwd rt (fun k => fwS B F k 256 % 8380417)) := fun i x y => by
    show fwd rt B' i * fwd rt F' i % 8380417 = fwd rt (fun k => fwS B F k 256 % 8380417) i
    rw [fwd_eva x y, fwd_eva x y, fwd_eva x y, eva_cq (F := B') (G := B) hB, eva_cq (F := F') (G := F) hF, eva_cq (F := fun k => fwS B F k 256 % 8380417) (G := fun k => fwS B F k 256) (fun k _ => cq.m _)]
    exact ((cq.m _).t eva_mul.s).i (by omega) eva_in
  rw [bck_eq e j h0 h1]
  exact bck_fwd (F := fun k => fwS B F k 256 % 8380417) (fun k _ _ => by show 0 ≤ fwS B F k 256 % 8380417 ∧ fwS B F k 256 % 8380417 < 8380417; omega) h0 h1
