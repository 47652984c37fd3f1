/-! Ring: contracts -/
abbrev RwO (h : Hp) (f : Nat) : Prop := hK h f = 1 ∧ 12 ≤ f ∧ hN h f = 256
def inQ (F : Int → Int) : Prop := ∀ j, 0 ≤ j → j < 256 → 0 ≤ F j ∧ F j < 8380417
theorem rowTo_cur {I : Nat → Int → Int} {f a : Nat} {i : Int} {X : Int → Int} : rowTo I f i X a i = I a i := if_neg (by omega)
theorem mulq {a b : Int} (a0 : 0 ≤ a) (a1 : a < 8380417) (b0 : 0 ≤ b) (b1 : b < 8380417) : 0 ≤ a * b ∧ a * b < 70231389093889 := by
  refine ⟨Int.mul_nonneg a0 b0, ?_⟩
  have h1 : a * b ≤ 8380416 * b := Int.mul_le_mul_of_nonneg_right (by omega) b0
  omega
def spl (F : Int → Int) (s d r : Int) : Int → Int := fun j => if s ≤ j ∧ j < s + d then (F j + r * F (j + d)) % 8380417 else if s + d ≤ j ∧ j < s + 2 * d then (F (j - d) - r * F j) % 8380417 else F j
def jn (F : Int → Int) (s d r : Int) : Int → Int := fun j => if s ≤ j ∧ j < s + d then (F j + F (j + d)) % 8380417 else if s + d ≤ j ∧ j < s + 2 * d then r * ((F j - F (j - d)) % 8380417) % 8380417 else F j
def splP (F : Int → Int) (s d r i : Int) : Int → Int := fun j => if s ≤ j ∧ j < i then (F j + r * F (j + d)) % 8380417 else if s + d ≤ j ∧ j < i + d then (F (j - d) - r * F j) % 8380417 else F j
def jnP (F : Int → Int) (s d r i : Int) : Int → Int := fun j => if s ≤ j ∧ j < i then (F j + F (j + d)) % 8380417 else if s + d ≤ j ∧ j < i + d then r * ((F j - F (j - d)) % 8380417) % 8380417 else F j
theorem pm1 {x y : Int} : (x - y % 8380417) % 8380417 = (x - y) % 8380417 := by omega
theorem pm2 {x y : Int} : (x + y % 8380417) % 8380417 = (x + y) % 8380417 := by omega
theorem spl_step {F : Int → Int} {K : Nat → Int → Int} {f : Nat} {s d r i v w : Int} (hd : 0 < d) (h0 : s ≤ i) (h1 : i < s + d) (h : ∀ j, K f j = splP F s d r i j) (hv : v = (F i - r * F (i + d)) % 8380417) (hw : w = (F i + r * F (i + d)) % 8380417) : ∀ j, a_up (a_up K f (i + d) v) f i w f j = splP F s d r (i + 1) j := by
  intro j
  by_cases q : j = i
  · rw [q, a_up_at, hw]
    unfold splP
    rw [if_pos (by omega)]
  · rw [a_up_ne (Or.inr q)]
    by_cases q2 : j = i + d
    · rw [q2, a_up_at, hv]
      unfold splP
      rw [if_neg (by omega), if_pos (by omega), show i + d - d = i by omega]
    · rw [a_up_ne (Or.inr q2), h j]
      unfold splP
      by_cases c1 : s ≤ j ∧ j < i
      · rw [if_pos c1, if_pos (show s ≤ j ∧ j < i + 1 by omega)]
      · rw [if_neg c1, if_neg (show ¬ (s ≤ j ∧ j < i + 1) by omega)]
        by_cases c2 : s + d ≤ j ∧ j < i + d
        · rw [if_pos c2, if_pos (show s + d ≤ j ∧ j < i + 1 + d by omega)]
        · rw [if_neg c2, if_neg (show ¬ (s + d ≤ j ∧ j < i + 1 + d) by omega)]
theorem jn_step {F : Int → Int} {K : Nat → Int → Int} {f : Nat} {s d r i v w : Int} (hd : 0 < d) (h0 : s ≤ i) (h1 : i < s + d) (h : ∀ j, K f j = jnP F s d r i j) (hv : v = (F i + F (i + d)) % 8380417) (hw : w = r * ((F (i + d) - F i) % 8380417) % 8380417) : ∀ j, a_up (a_up K f i v) f (i + d) w f j = jnP F s d r (i + 1) j := by
  intro j
  by_cases q2 : j = i + d
  · rw [q2, a_up_at, hw]
    unfold jnP
    rw [if_neg (by omega), if_pos (by omega), show i + d - d = i by omega]
  · rw [a_up_ne (Or.inr q2)]
    by_cases q : j = i
    · rw [q, a_up_at, hv]
      unfold jnP
      rw [if_pos (by omega)]
    · rw [a_up_ne (Or.inr q), h j]
      unfold jnP
      by_cases c1 : s ≤ j ∧ j < i
      · rw [if_pos c1, if_pos (show s ≤ j ∧ j < i + 1 by omega)]
      · rw [if_neg c1, if_neg (show ¬ (s ≤ j ∧ j < i + 1) by omega)]
        by_cases c2 : s + d ≤ j ∧ j < i + d
        · rw [if_pos c2, if_pos (show s + d ≤ j ∧ j < i + 1 + d by omega)]
        · rw [if_neg c2, if_neg (show ¬ (s + d ≤ j ∧ j < i + 1 + d) by omega)]
theorem splP_0 {F : Int → Int} {s d r j : Int} (hd : 0 < d) : splP F s d r s j = F j := by
  unfold splP
  rw [if_neg (by omega), if_neg (by omega)]
theorem jnP_0 {F : Int → Int} {s d r j : Int} (hd : 0 < d) : jnP F s d r s j = F j := by
  unfold jnP
  rw [if_neg (by omega), if_neg (by omega)]
theorem splP_end {F : Int → Int} {s d r : Int} : splP F s d r (s + d) = spl F s d r := by
  funext j
  unfold splP spl
  rw [show s + d + d = s + 2 * d by omega]
theorem jnP_end {F : Int → Int} {s d r : Int} : jnP F s d r (s + d) = jn F s d r := by
  funext j
  unfold jnP jn
  rw [show s + d + d = s + 2 * d by omega]
theorem splP_1 {F : Int → Int} {s d r i : Int} (h0 : s ≤ i) (h1 : i < s + d) : splP F s d r i i = F i ∧ splP F s d r i (i + d) = F (i + d) := by
  unfold splP
  exact ⟨by rw [if_neg (by omega), if_neg (by omega)], by rw [if_neg (by omega), if_neg (by omega)]⟩
theorem jnP_1 {F : Int → Int} {s d r i : Int} (h0 : s ≤ i) (h1 : i < s + d) : jnP F s d r i i = F i ∧ jnP F s d r i (i + d) = F (i + d) := by
  unfold jnP
  exact ⟨by rw [if_neg (by omega), if_neg (by omega)], by rw [if_neg (by omega), if_neg (by omega)]⟩
theorem spl_in {F : Int → Int} {s d r : Int} (h : inQ F) : inQ (spl F s d r) := by
  intro j h0 h1
  unfold spl
  split
  · omega
  · split
    · omega
    · exact h j h0 h1
theorem jn_in {F : Int → Int} {s d r : Int} (h : inQ F) : inQ (jn F s d r) := by
  intro j h0 h1
  unfold jn
  split
  · omega
  · split
    · omega
    · exact h j h0 h1
def fwdB (R F : Int → Int) (d n0 : Int) : Nat → Int → Int
  | 0 => F
  | b + 1 => spl (fwdB R F d n0 b) (2 * d * b) d (R (n0 + b + 1))
def fwdL (R F : Int → Int) : Nat → Int → Int
  | 0 => F
  | n + 1 => fwdB R (fwdL R F n) (128 / 2 ^ n) (2 ^ n - 1) (2 ^ n)
def bckB (R F : Int → Int) (d n0 : Int) : Nat → Int → Int
  | 0 => F
  | b + 1 => jn (bckB R F d n0 b) (2 * d * b) d (R (n0 - b - 1))
def bckL (R F : Int → Int) : Nat → Int → Int
  | 0 => F
  | n + 1 => bckB R (bckL R F n) (2 ^ n) (256 / 2 ^ n) (128 / 2 ^ n)
def fwd (R F : Int → Int) : Int → Int := fwdL R F 8
def bck (R F : Int → Int) : Int → Int := fun j => if 0 ≤ j ∧ j < 256 then 8347681 * bckL R F 8 j % 8380417 else bckL R F 8 j
theorem bck_at {R F : Int → Int} {j : Int} (h0 : 0 ≤ j) (h1 : j < 256) : bck R F j = 8347681 * bckL R F 8 j % 8380417 := if_pos ⟨h0, h1⟩
theorem fwdB_in {R F : Int → Int} {d n0 : Int} (h : inQ F) : ∀ b, inQ (fwdB R F d n0 b)
  | 0 => h
  | b + 1 => spl_in (fwdB_in h b)
theorem fwdL_in {R F : Int → Int} (h : inQ F) : ∀ b, inQ (fwdL R F b)
  | 0 => h
  | b + 1 => fwdB_in (fwdL_in h b) _
theorem bckB_in {R F : Int → Int} {d n0 : Int} (h : inQ F) : ∀ b, inQ (bckB R F d n0 b)
  | 0 => h
  | b + 1 => jn_in (bckB_in h b)
theorem bckL_in {R F : Int → Int} (h : inQ F) : ∀ b, inQ (bckL R F b)
  | 0 => h
  | b + 1 => bckB_in (bckL_in h b) _
theorem bck_in {R F : Int → Int} : inQ (bck R F) := fun j h0 h1 => by rw [bck_at h0 h1]; omega
theorem lv8 {n : Nat} (h : n < 8) : 2 * (128 / 2 ^ n) * ((2 ^ n : Nat) : Int) = (256 : Int) ∧ (0 : Int) < 128 / 2 ^ n ∧ (128 : Int) / 2 ^ n ≤ 128 ∧ (2 : Int) ^ n ≤ 128 ∧ ((2 ^ n : Nat) : Int) = 2 ^ n ∧ (128 : Int) / 2 ^ n / 2 = 128 / 2 ^ (n + 1) ∧ (2 : Int) ^ (n + 1) = 2 ^ n + 2 ^ n := by
  have : ∀ n : Nat, n < 8 → 2 * (128 / 2 ^ n) * ((2 ^ n : Nat) : Int) = (256 : Int) ∧ (0 : Int) < 128 / 2 ^ n ∧ (128 : Int) / 2 ^ n ≤ 128 ∧ (2 : Int) ^ n ≤ 128 ∧ ((2 ^ n : Nat) : Int) = 2 ^ n ∧ (128 : Int) / 2 ^ n / 2 = 128 / 2 ^ (n + 1) ∧ (2 : Int) ^ (n + 1) = 2 ^ n + 2 ^ n := by decide
  exact this n h
theorem lv8b {n : Nat} (h : n < 8) : 2 * 2 ^ n * ((128 / 2 ^ n : Nat) : Int) = (256 : Int) ∧ (0 : Int) < 2 ^ n ∧ (2 : Int) ^ n ≤ 128 ∧ ((128 / 2 ^ n : Nat) : Int) = 128 / 2 ^ n ∧ (2 : Int) ^ n * 2 = 2 ^ (n + 1) ∧ (256 : Int) / 2 ^ n - 128 / 2 ^ n = 256 / 2 ^ (n + 1) ∧ (0 : Int) ≤ 256 / 2 ^ n - 128 / 2 ^ n ∧ (256 : Int) / 2 ^ n ≤ 256 ∧ (1 : Int) ≤ 256 / 2 ^ (n + 1) := by
  have : ∀ n : Nat, n < 8 → 2 * 2 ^ n * ((128 / 2 ^ n : Nat) : Int) = (256 : Int) ∧ (0 : Int) < 2 ^ n ∧ (2 : Int) ^ n ≤ 128 ∧ ((128 / 2 ^ n : Nat) : Int) = 128 / 2 ^ n ∧ (2 : Int) ^ n * 2 = 2 ^ (n + 1) ∧ (256 : Int) / 2 ^ n - 128 / 2 ^ n = 256 / 2 ^ (n + 1) ∧ (0 : Int) ≤ 256 / 2 ^ n - 128 / 2 ^ n ∧ (256 : Int) / 2 ^ n ≤ 256 ∧ (1 : Int) ≤ 256 / 2 ^ (n + 1) := by decide
  exact this n h
/-- which block: s = 2 d b below 256 = 2 d m -/
theorem blk_lt {d b m s : Int} (hd : 0 < d) (hs : s = 2 * d * b) (hm : 2 * d * m = 256) (h : s < 256) : b < m := by
  apply Int.lt_of_mul_lt_mul_left (a := 2 * d) _ (by omega)
  omega
theorem blk_ge {d b m s : Int} (hd : 0 < d) (hs : s = 2 * d * b) (hm : 2 * d * m = 256) (h : 256 ≤ s) : m ≤ b := by
  apply Int.le_of_mul_le_mul_left (a := 2 * d) _ (by omega)
  omega
theorem blk_fit {d b m s : Int} (hd : 0 < d) (hs : s = 2 * d * b) (hm : 2 * d * m = 256) (h : b < m) : s + 2 * d ≤ 256 := by
  have h1 : 2 * d * (b + 1) ≤ 2 * d * m := Int.mul_le_mul_of_nonneg_left (by omega) (by omega)
  rw [Int.mul_add] at h1
  omega
theorem rowTo_all {I K : Nat → Int → Int} {f : Nat} {X : Int → Int} (h1 : ∀ a j, a ≠ f → K a j = I a j) (h2 : ∀ j, K f j = X j) (h3 : ∀ j, ¬ (0 ≤ j ∧ j < 256) → X j = I f j) : K = rowTo I f 256 X := by
  funext a j
  unfold rowTo
  by_cases q : a = f
  · rw [q, h2]
    by_cases c : 0 ≤ j ∧ j < 256
    · rw [if_pos ⟨rfl, c⟩]
    · rw [if_neg (fun e => c e.2), h3 j c]
  · rw [if_neg (fun e => q e.1), h1 a j q]
theorem spl_out {F : Int → Int} {s d r j : Int} (h0 : 0 ≤ s) (hd : 0 < d) (h1 : s + 2 * d ≤ 256) (h : ¬ (0 ≤ j ∧ j < 256)) : spl F s d r j = F j := by
  unfold spl
  rw [if_neg (by omega), if_neg (by omega)]
theorem jn_out {F : Int → Int} {s d r j : Int} (h0 : 0 ≤ s) (hd : 0 < d) (h1 : s + 2 * d ≤ 256) (h : ¬ (0 ≤ j ∧ j < 256)) : jn F s d r j = F j := by
  unfold jn
  rw [if_neg (by omega), if_neg (by omega)]
/-- the cell f as a whole -/
def cset (I : Nat → Int → Int) (f : Nat) (X : Int → Int) : Nat → Int → Int := fun a j => if a = f then X j else I a j
theorem cset_self {I : Nat → Int → Int} {f : Nat} : cset I f (I f) = I := by
  funext a j
  unfold cset
  split
  · rename_i e; rw [e]
  · rfl
theorem cset_at {I : Nat → Int → Int} {f : Nat} {X : Int → Int} : cset I f X f = X := by
  funext j
  exact if_pos rfl
theorem cset_ne {I : Nat → Int → Int} {f a : Nat} {X : Int → Int} {j : Int} (h : a ≠ f) : cset I f X a j = I a j := if_neg h
theorem cset_cset {I : Nat → Int → Int} {f : Nat} {X Y : Int → Int} : cset (cset I f X) f Y = cset I f Y := by
  funext a j
  unfold cset
  split <;> rfl
theorem cset_of {I K : Nat → Int → Int} {f : Nat} {X : Int → Int} (h1 : ∀ a j, a ≠ f → K a j = I a j) (h2 : ∀ j, K f j = X j) : K = cset I f X := by
  funext a j
  unfold cset
  split
  · rename_i e; rw [e, h2]
  · rename_i e; exact h1 a j e
theorem cset_row {I : Nat → Int → Int} {f : Nat} {X Y : Int → Int} : rowTo (cset I f X) f 256 Y = cset I f (fun j => if 0 ≤ j ∧ j < 256 then Y j else X j) := by
  funext a j
  unfold rowTo cset
  by_cases q : a = f
  · by_cases c : 0 ≤ j ∧ j < 256
    · rw [if_pos ⟨q, c⟩, if_pos q]; exact (if_pos c).symm
    · rw [if_neg (fun e => c e.2), if_pos q, if_pos q]; exact (if_neg c).symm
  · rw [if_neg (fun e => q e.1), if_neg q, if_neg q]
theorem up_frame2 {K K1 : Nat → Int → Int} {c : Nat} {a v b w : Int} (h : ∀ x j, x ≠ c → K1 x j = K x j) : ∀ x j, x ≠ c → a_up (a_up K1 c a v) c b w x j = K x j := up_frame (up_frame h)
set_option maxHeartbeats 800000 in
set_option maxRecDepth 100000 in
theorem c_Ri_packedSize {l : Launch} {G : a_G} {h : Hp} {x : Int} (hx : 0 ≤ x ∧ x ≤ 1000) : AW l G M_Ri_packedSize (Rx (some (vi (32 * x))) h) 0 (a_ar 0 [vi x]) [] (h) := by
  suffices key : ∀ P : a_R → Hp → Prop, (P (.inl (some (vi (32 * x)))) h) → AW l G M_Ri_packedSize P 0 [(0, vi x)] [] (h) from key _ (⟨rfl, rfl⟩)
  intro P hP
  refine aw_bipush d_Ri_packedSize_0 ⟨by decide, by decide⟩ (by decide) ?_
  refine aw_iload_n d_Ri_packedSize_2 rfl rfl ?_
  refine ax_imul d_Ri_packedSize_3 ⟨(by omega), (by omega)⟩ ?_
  exact aw_iret d_Ri_packedSize_4 rfl hP
set_option maxHeartbeats 800000 in
set_option maxRecDepth 100000 in
theorem c_Ri_plus {l : Launch} {G : a_G} {h : Hp} {x y z : Int} (hx : 0 ≤ x + y ∧ x + y < 16760834) (hz : (x + y) % 8380417 = z) : AW l G M_Ri_plus (Rx (some (vi z)) h) 0 (a_ar 0 [vi x, vi y]) [] (h) := by
  suffices key : ∀ P : a_R → Hp → Prop, (∀ u, u = z → P (.inl (some (vi u))) h) → AW l G M_Ri_plus P 0 [(0, vi x), (1, vi y)] [] (h) from key _ (fun u e => ⟨by rw [e], rfl⟩)
  intro P hP
  refine aw_iload_n d_Ri_plus_0 rfl rfl ?_
  refine aw_iload_n d_Ri_plus_1 rfl rfl ?_
  refine ax_iadd d_Ri_plus_2 ⟨(by omega), (by omega)⟩ ?_
  refine aw_istore_n (lv' := [(2, vi (x + y)), (0, vi x), (1, vi y)]) d_Ri_plus_3 rfl (by decide) rfl ?_
  refine aw_iload_n d_Ri_plus_4 rfl rfl ?_
  refine aw_ldc (n := 8380417) d_Ri_plus_5 lc_Ri_21 ⟨by decide, by decide⟩ ?_
  refine aw_icmp_lt (tgt := 17) d_Ri_plus_7 (by decide) (fun c_7 => ?_) (fun c_7 => ?_)
  · skip
    refine aw_iload_n d_Ri_plus_17 rfl rfl ?_
    exact aw_iret d_Ri_plus_18 rfl (hP _ (by omega))
  · skip
    refine aw_iload_n d_Ri_plus_10 rfl rfl ?_
    refine aw_ldc (n := 8380417) d_Ri_plus_11 lc_Ri_21 ⟨by decide, by decide⟩ ?_
    refine ax_isub d_Ri_plus_13 ⟨(by omega), (by omega)⟩ ?_
    refine aw_goto (tgt := 18) d_Ri_plus_14 (by decide) ?_
    exact aw_iret d_Ri_plus_18 rfl (hP _ (by omega))
set_option maxHeartbeats 800000 in
set_option maxRecDepth 100000 in
theorem c_Ri_minus {l : Launch} {G : a_G} {h : Hp} {x y z : Int} (hx : -8380417 ≤ x - y ∧ x - y < 8380417) (hz : (x - y) % 8380417 = z) : AW l G M_Ri_minus (Rx (some (vi z)) h) 0 (a_ar 0 [vi x, vi y]) [] (h) := by
  suffices key : ∀ P : a_R → Hp → Prop, (∀ u, u = z → P (.inl (some (vi u))) h) → AW l G M_Ri_minus P 0 [(0, vi x), (1, vi y)] [] (h) from key _ (fun u e => ⟨by rw [e], rfl⟩)
  intro P hP
  refine aw_iload_n d_Ri_minus_0 rfl rfl ?_
  refine aw_iload_n d_Ri_minus_1 rfl rfl ?_
  refine ax_isub d_Ri_minus_2 ⟨(by omega), (by omega)⟩ ?_
  refine aw_istore_n (lv' := [(2, vi (x - y)), (0, vi x), (1, vi y)]) d_Ri_minus_3 rfl (by decide) rfl ?_
  refine aw_iload_n d_Ri_minus_4 rfl rfl ?_
  refine aw_if_ge (tgt := 15) d_Ri_minus_5 (by decide) (fun c_5 => ?_) (fun c_5 => ?_)
  · skip
    refine aw_iload_n d_Ri_minus_15 rfl rfl ?_
    exact aw_iret d_Ri_minus_16 rfl (hP _ (by omega))
  · skip
    refine aw_iload_n d_Ri_minus_8 rfl rfl ?_
    refine aw_ldc (n := 8380417) d_Ri_minus_9 lc_Ri_21 ⟨by decide, by decide⟩ ?_
    refine ax_iadd d_Ri_minus_11 ⟨(by omega), (by omega)⟩ ?_
    refine aw_goto (tgt := 16) d_Ri_minus_12 (by decide) ?_
    exact aw_iret d_Ri_minus_16 rfl (hP _ (by omega))
set_option maxHeartbeats 800000 in
set_option maxRecDepth 100000 in
theorem c_Ri_addTo {l : Launch} {G : a_G} {h : Hp} {I L : Nat → Int → Int} {f g : Nat} (Zf : RwO h f) (Zg : RwO h g) (qf : inQ (I f)) (qg : inQ (I g)) : AW l G M_Ri_addTo (Rx none (sD h (rowTo I f 256 (fun j => (I f j + I g j) % 8380417)) L)) 0 (a_ar 0 [vr f, vr g]) [] (sD h I L) := by
  suffices key : ∀ P : a_R → Hp → Prop, (P (.inl none) (sD h (rowTo I f 256 (fun j => (I f j + I g j) % 8380417)) L)) → AW l G M_Ri_addTo P 0 [(0, vr f), (1, vr g)] [] (sD h I L) from key _ (⟨rfl, rfl⟩)
  intro P hP
  refine aw_iconst d_Ri_addTo_0 ⟨by decide, by decide⟩ ?_
  refine aw_istore_n (lv' := [(2, vi 0), (0, vr f), (1, vr g)]) d_Ri_addTo_1 rfl (by decide) rfl ?_
  have lp_2 : ∀ (n_ : Nat) (i : Int), (0 ≤ i ∧ i ≤ 256) → ((256 - i).toNat) = n_ → AW l G M_Ri_addTo P 2 [(2, vi i), (1, vr g), (0, vr f)] [] (sD h (rowTo I f i (fun j => (I f j + I g j) % 8380417)) L) := by
    intro n_
    induction n_ using Nat.strongRecOn with
    | _ n_ ih_2 =>
    intro i hi hm_2
    refine aw_iload_n d_Ri_addTo_2 rfl rfl ?_
    refine aw_sipush d_Ri_addTo_3 ⟨by decide, by decide⟩ (by decide) ?_
    refine aw_icmp_ge (tgt := 27) d_Ri_addTo_6 (by decide) (fun c_6 => ?_) (fun c_6 => ?_)
    · skip
      exact aw_vret d_Ri_addTo_27 rfl (by rw [show i = 256 by omega]; exact hP)
    · skip
      refine aw_aload_n d_Ri_addTo_9 rfl rfl ?_
      refine aw_iload_n d_Ri_addTo_10 rfl rfl ?_
      refine aw_aload_n d_Ri_addTo_11 rfl rfl ?_
      refine aw_iload_n d_Ri_addTo_12 rfl rfl ?_
      refine ax_ialde (x := I f i) d_Ri_addTo_13 Zf.1 (by omega) (by omega) (rowTo_cur) ?_
      refine aw_aload_n d_Ri_addTo_14 rfl rfl ?_
      refine aw_iload_n d_Ri_addTo_15 rfl rfl ?_
      refine ax_ialde (x := I g i) d_Ri_addTo_16 Zg.1 (by omega) (by omega) (rowTo_cur) ?_
      refine ax_S (st := [vi i, vr f]) (as := [vi (I f i), vi (I g i)]) (v := some (vi ((I f i + I g i) % 8380417))) (h' := sD h (rowTo I f i (fun j => (I f j + I g j) % 8380417)) L) d_Ri_addTo_17 cs_Ri_addTo_17 (c_Ri_plus (by have a := qf i hi.1 (by omega); have b := qg i hi.1 (by omega); omega) rfl) rfl rfl rfl ?_
      show AW l G M_Ri_addTo P 20 [(2, vi i), (1, vr g), (0, vr f)] [vi ((I f i + I g i) % 8380417), vi i, vr f] (sD h (rowTo I f i (fun j => (I f j + I g j) % 8380417)) L)
      refine ax_iast d_Ri_addTo_20 Zf.1 Zf.2.1 (by omega) (by omega) ?_
      rw [rowTo_1 (by omega) rfl]
      refine ax_iinc (lv' := [(2, vi (i + 1)), (1, vr g), (0, vr f)]) d_Ri_addTo_21 rfl (by decide) ⟨(by omega), (by omega)⟩ rfl ?_
      refine aw_goto (tgt := 2) d_Ri_addTo_24 (by decide) ?_
      exact ih_2 _ (by omega) (i + 1) (by omega) rfl
  refine ax_hp (h' := sD h (rowTo I f 0 (fun j => (I f j + I g j) % 8380417)) L) (by rw [rowTo_0]) ?_
  refine aw_sub (lv' := [(2, vi 0), (1, vr g), (0, vr f)]) (by simp) ?_
  exact lp_2 _ 0 (by omega) rfl
set_option maxHeartbeats 800000 in
set_option maxRecDepth 100000 in
theorem c_Ri_takeFrom {l : Launch} {G : a_G} {h : Hp} {I L : Nat → Int → Int} {f g : Nat} (Zf : RwO h f) (Zg : RwO h g) (qf : inQ (I f)) (qg : inQ (I g)) : AW l G M_Ri_takeFrom (Rx none (sD h (rowTo I f 256 (fun j => (I f j - I g j) % 8380417)) L)) 0 (a_ar 0 [vr f, vr g]) [] (sD h I L) := by
  suffices key : ∀ P : a_R → Hp → Prop, (P (.inl none) (sD h (rowTo I f 256 (fun j => (I f j - I g j) % 8380417)) L)) → AW l G M_Ri_takeFrom P 0 [(0, vr f), (1, vr g)] [] (sD h I L) from key _ (⟨rfl, rfl⟩)
  intro P hP
  refine aw_iconst d_Ri_takeFrom_0 ⟨by decide, by decide⟩ ?_
  refine aw_istore_n (lv' := [(2, vi 0), (0, vr f), (1, vr g)]) d_Ri_takeFrom_1 rfl (by decide) rfl ?_
  have lp_2 : ∀ (n_ : Nat) (i : Int), (0 ≤ i ∧ i ≤ 256) → ((256 - i).toNat) = n_ → AW l G M_Ri_takeFrom P 2 [(2, vi i), (1, vr g), (0, vr f)] [] (sD h (rowTo I f i (fun j => (I f j - I g j) % 8380417)) L) := by
    intro n_
    induction n_ using Nat.strongRecOn with
    | _ n_ ih_2 =>
    intro i hi hm_2
    refine aw_iload_n d_Ri_takeFrom_2 rfl rfl ?_
    refine aw_sipush d_Ri_takeFrom_3 ⟨by decide, by decide⟩ (by decide) ?_
    refine aw_icmp_ge (tgt := 27) d_Ri_takeFrom_6 (by decide) (fun c_6 => ?_) (fun c_6 => ?_)
    · skip
      exact aw_vret d_Ri_takeFrom_27 rfl (by rw [show i = 256 by omega]; exact hP)
    · skip
      refine aw_aload_n d_Ri_takeFrom_9 rfl rfl ?_
      refine aw_iload_n d_Ri_takeFrom_10 rfl rfl ?_
      refine aw_aload_n d_Ri_takeFrom_11 rfl rfl ?_
      refine aw_iload_n d_Ri_takeFrom_12 rfl rfl ?_
      refine ax_ialde (x := I f i) d_Ri_takeFrom_13 Zf.1 (by omega) (by omega) (rowTo_cur) ?_
      refine aw_aload_n d_Ri_takeFrom_14 rfl rfl ?_
      refine aw_iload_n d_Ri_takeFrom_15 rfl rfl ?_
      refine ax_ialde (x := I g i) d_Ri_takeFrom_16 Zg.1 (by omega) (by omega) (rowTo_cur) ?_
      refine ax_S (st := [vi i, vr f]) (as := [vi (I f i), vi (I g i)]) (v := some (vi ((I f i - I g i) % 8380417))) (h' := sD h (rowTo I f i (fun j => (I f j - I g j) % 8380417)) L) d_Ri_takeFrom_17 cs_Ri_takeFrom_17 (c_Ri_minus (by have a := qf i hi.1 (by omega); have b := qg i hi.1 (by omega); omega) rfl) rfl rfl rfl ?_
      show AW l G M_Ri_takeFrom P 20 [(2, vi i), (1, vr g), (0, vr f)] [vi ((I f i - I g i) % 8380417), vi i, vr f] (sD h (rowTo I f i (fun j => (I f j - I g j) % 8380417)) L)
      refine ax_iast d_Ri_takeFrom_20 Zf.1 Zf.2.1 (by omega) (by omega) ?_
      rw [rowTo_1 (by omega) rfl]
      refine ax_iinc (lv' := [(2, vi (i + 1)), (1, vr g), (0, vr f)]) d_Ri_takeFrom_21 rfl (by decide) ⟨(by omega), (by omega)⟩ rfl ?_
      refine aw_goto (tgt := 2) d_Ri_takeFrom_24 (by decide) ?_
      exact ih_2 _ (by omega) (i + 1) (by omega) rfl
  refine ax_hp (h' := sD h (rowTo I f 0 (fun j => (I f j - I g j) % 8380417)) L) (by rw [rowTo_0]) ?_
  refine aw_sub (lv' := [(2, vi 0), (1, vr g), (0, vr f)]) (by simp) ?_
  exact lp_2 _ 0 (by omega) rfl
set_option maxHeartbeats 800000 in
set_option maxRecDepth 100000 in
theorem c_Ri_mirror {l : Launch} {G : a_G} {h : Hp} {I L : Nat → Int → Int} {f : Nat} {t : Int} (Zf : RwO h f) (ht : 0 ≤ t ∧ t < 8380417) (qf : inQ (I f)) : AW l G M_Ri_mirror (Rx none (sD h (rowTo I f 256 (fun j => (t - I f j) % 8380417)) L)) 0 (a_ar 0 [vr f, vi t]) [] (sD h I L) := by
  suffices key : ∀ P : a_R → Hp → Prop, (P (.inl none) (sD h (rowTo I f 256 (fun j => (t - I f j) % 8380417)) L)) → AW l G M_Ri_mirror P 0 [(0, vr f), (1, vi t)] [] (sD h I L) from key _ (⟨rfl, rfl⟩)
  intro P hP
  refine aw_iconst d_Ri_mirror_0 ⟨by decide, by decide⟩ ?_
  refine aw_istore_n (lv' := [(2, vi 0), (0, vr f), (1, vi t)]) d_Ri_mirror_1 rfl (by decide) rfl ?_
  have lp_2 : ∀ (n_ : Nat) (i : Int), (0 ≤ i ∧ i ≤ 256) → ((256 - i).toNat) = n_ → AW l G M_Ri_mirror P 2 [(2, vi i), (1, vi t), (0, vr f)] [] (sD h (rowTo I f i (fun j => (t - I f j) % 8380417)) L) := by
    intro n_
    induction n_ using Nat.strongRecOn with
    | _ n_ ih_2 =>
    intro i hi hm_2
    refine aw_iload_n d_Ri_mirror_2 rfl rfl ?_
    refine aw_sipush d_Ri_mirror_3 ⟨by decide, by decide⟩ (by decide) ?_
    refine aw_icmp_ge (tgt := 25) d_Ri_mirror_6 (by decide) (fun c_6 => ?_) (fun c_6 => ?_)
    · skip
      exact aw_vret d_Ri_mirror_25 rfl (by rw [show i = 256 by omega]; exact hP)
    · skip
      refine aw_aload_n d_Ri_mirror_9 rfl rfl ?_
      refine aw_iload_n d_Ri_mirror_10 rfl rfl ?_
      refine aw_iload_n d_Ri_mirror_11 rfl rfl ?_
      refine aw_aload_n d_Ri_mirror_12 rfl rfl ?_
      refine aw_iload_n d_Ri_mirror_13 rfl rfl ?_
      refine ax_ialde (x := I f i) d_Ri_mirror_14 Zf.1 (by omega) (by omega) (rowTo_cur) ?_
      refine ax_S (st := [vi i, vr f]) (as := [vi t, vi (I f i)]) (v := some (vi ((t - I f i) % 8380417))) (h' := sD h (rowTo I f i (fun j => (t - I f j) % 8380417)) L) d_Ri_mirror_15 cs_Ri_mirror_15 (c_Ri_minus (by have a := qf i hi.1 (by omega); omega) rfl) rfl rfl rfl ?_
      show AW l G M_Ri_mirror P 18 [(2, vi i), (1, vi t), (0, vr f)] [vi ((t - I f i) % 8380417), vi i, vr f] (sD h (rowTo I f i (fun j => (t - I f j) % 8380417)) L)
      refine ax_iast d_Ri_mirror_18 Zf.1 Zf.2.1 (by omega) (by omega) ?_
      rw [rowTo_1 (by omega) rfl]
      refine ax_iinc (lv' := [(2, vi (i + 1)), (1, vi t), (0, vr f)]) d_Ri_mirror_19 rfl (by decide) ⟨(by omega), (by omega)⟩ rfl ?_
      refine aw_goto (tgt := 2) d_Ri_mirror_22 (by decide) ?_
      exact ih_2 _ (by omega) (i + 1) (by omega) rfl
  refine ax_hp (h' := sD h (rowTo I f 0 (fun j => (t - I f j) % 8380417)) L) (by rw [rowTo_0]) ?_
  refine aw_sub (lv' := [(2, vi 0), (1, vi t), (0, vr f)]) (by simp) ?_
  exact lp_2 _ 0 (by omega) rfl
set_option maxHeartbeats 800000 in
set_option maxRecDepth 100000 in
theorem c_Ri_multiply {l : Launch} {G : a_G} {h : Hp} {I L : Nat → Int → Int} {f g p : Nat} (Zf : RwO h f) (Zg : RwO h g) (Zp : RwO h p) (qf : inQ (I f)) (qg : inQ (I g)) : AW l G M_Ri_multiply (Rx none (sD h (rowTo I p 256 (fun j => I f j * I g j % 8380417)) L)) 0 (a_ar 0 [vr f, vr g, vr p]) [] (sD h I L) := by
  suffices key : ∀ P : a_R → Hp → Prop, (P (.inl none) (sD h (rowTo I p 256 (fun j => I f j * I g j % 8380417)) L)) → AW l G M_Ri_multiply P 0 [(0, vr f), (1, vr g), (2, vr p)] [] (sD h I L) from key _ (⟨rfl, rfl⟩)
  intro P hP
  refine aw_iconst d_Ri_multiply_0 ⟨by decide, by decide⟩ ?_
  refine aw_istore_n (lv' := [(3, vi 0), (0, vr f), (1, vr g), (2, vr p)]) d_Ri_multiply_1 rfl (by decide) rfl ?_
  have lp_2 : ∀ (n_ : Nat) (i : Int), (0 ≤ i ∧ i ≤ 256) → ((256 - i).toNat) = n_ → AW l G M_Ri_multiply P 2 [(3, vi i), (2, vr p), (1, vr g), (0, vr f)] [] (sD h (rowTo I p i (fun j => I f j * I g j % 8380417)) L) := by
    intro n_
    induction n_ using Nat.strongRecOn with
    | _ n_ ih_2 =>
    intro i hi hm_2
    refine aw_iload_n d_Ri_multiply_2 rfl rfl ?_
    refine aw_sipush d_Ri_multiply_3 ⟨by decide, by decide⟩ (by decide) ?_
    refine aw_icmp_ge (tgt := 32) d_Ri_multiply_6 (by decide) (fun c_6 => ?_) (fun c_6 => ?_)
    · skip
      exact aw_vret d_Ri_multiply_32 rfl (by rw [show i = 256 by omega]; exact hP)
    · skip
      have a_ := qf i hi.1 (by omega)
      have b_ := qg i hi.1 (by omega)
      have m_ := mulq a_.1 a_.2 b_.1 b_.2
      refine aw_aload_n d_Ri_multiply_9 rfl rfl ?_
      refine aw_iload_n d_Ri_multiply_10 rfl rfl ?_
      refine aw_aload_n d_Ri_multiply_11 rfl rfl ?_
      refine aw_iload_n d_Ri_multiply_12 rfl rfl ?_
      refine ax_ialde (x := I f i) d_Ri_multiply_13 Zf.1 (by omega) (by omega) (rowTo_cur) ?_
      refine aw_i2l d_Ri_multiply_14 ?_
      refine aw_aload_n d_Ri_multiply_15 rfl rfl ?_
      refine aw_iload_n d_Ri_multiply_16 rfl rfl ?_
      refine ax_ialde (x := I g i) d_Ri_multiply_17 Zg.1 (by omega) (by omega) (rowTo_cur) ?_
      refine aw_i2l d_Ri_multiply_18 ?_
      refine ax_lmul d_Ri_multiply_19 ⟨(by omega), (by omega)⟩ ?_
      refine aw_ldc2 (n := 8380417) d_Ri_multiply_20 lc_Ri_19 ⟨by decide, by decide⟩ ?_
      refine ax_lrem d_Ri_multiply_23 (by omega) (by omega) ?_
      refine ax_l2i d_Ri_multiply_24 ⟨(by omega), (by omega)⟩ ?_
      refine ax_iast d_Ri_multiply_25 Zp.1 Zp.2.1 (by omega) (by omega) ?_
      rw [rowTo_1 (by omega) rfl]
      refine ax_iinc (lv' := [(3, vi (i + 1)), (2, vr p), (1, vr g), (0, vr f)]) d_Ri_multiply_26 rfl (by decide) ⟨(by omega), (by omega)⟩ rfl ?_
      refine aw_goto (tgt := 2) d_Ri_multiply_29 (by decide) ?_
      exact ih_2 _ (by omega) (i + 1) (by omega) rfl
  refine ax_hp (h' := sD h (rowTo I p 0 (fun j => I f j * I g j % 8380417)) L) (by rw [rowTo_0]) ?_
  refine aw_sub (lv' := [(3, vi 0), (2, vr p), (1, vr g), (0, vr f)]) (by simp) ?_
  exact lp_2 _ 0 (by omega) rfl
def mS (I : Nat → Int → Int) (s i : Int) : Nat → Int
  | 0 => 0
  | n + 1 => mS I s i n + I (45 + (s + n).toNat) i * I (119 + n) i
theorem mS_b {I : Nat → Int → Int} {s i : Int} {n : Nat} (h1 : ∀ k : Nat, k < n → 0 ≤ I (45 + (s + k).toNat) i ∧ I (45 + (s + k).toNat) i < 8380417) (h2 : ∀ k : Nat, k < n → 0 ≤ I (119 + k) i ∧ I (119 + k) i < 8380417) : 0 ≤ mS I s i n ∧ mS I s i n ≤ n * 70231389093889 := by
  induction n with
  | zero => exact ⟨Int.le_refl _, by simp [mS]⟩
  | succ n ih =>
    have a := ih (fun k hk => h1 k (by omega)) (fun k hk => h2 k (by omega))
    have b := mulq (h1 n (by omega)).1 (h1 n (by omega)).2 (h2 n (by omega)).1 (h2 n (by omega)).2
    show 0 ≤ mS I s i n + _ ∧ mS I s i n + _ ≤ _
    omega
set_option maxHeartbeats 800000 in
set_option maxRecDepth 100000 in
theorem c_Ri_multiplyRows {l : Launch} {G : a_G} {h : Hp} {I L : Nat → Int → Int} {f n : Nat} {s : Int} (S : Shp h) (Zf : RwO h f) (hn : 0 ≤ s ∧ s + n ≤ 56 ∧ n ≤ 7) (q1 : ∀ k : Nat, k < n → inQ (I (45 + (s + k).toNat))) (q2 : ∀ k : Nat, k < n → inQ (I (119 + k))) : AW l G M_Ri_multiplyRows (Rx none (sD h (rowTo I f 256 (fun j => mS I s j n % 8380417)) L)) 0 (a_ar 0 [vr 44, vi s, vr 118, vi (n : Int), vr f]) [] (sD h I L) := by
  suffices key : ∀ P : a_R → Hp → Prop, (P (.inl none) (sD h (rowTo I f 256 (fun j => mS I s j n % 8380417)) L)) → AW l G M_Ri_multiplyRows P 0 [(0, vr 44), (1, vi s), (2, vr 118), (3, vi (n : Int)), (4, vr f)] [] (sD h I L) from key _ (⟨rfl, rfl⟩)
  intro P hP
  refine aw_iconst d_Ri_multiplyRows_0 ⟨by decide, by decide⟩ ?_
  refine aw_istore (lv' := [(5, vi 0), (0, vr 44), (1, vi s), (2, vr 118), (3, vi (n : Int)), (4, vr f)]) d_Ri_multiplyRows_1 (by decide) rfl ?_
  have lp_3 : ∀ (n_ : Nat) (i : Int), (0 ≤ i ∧ i ≤ 256) → ((256 - i).toNat) = n_ → AW l G M_Ri_multiplyRows P 3 [(5, vi i), (4, vr f), (3, vi (n : Int)), (2, vr 118), (1, vi s), (0, vr 44)] [] (sD h (rowTo I f i (fun j => mS I s j n % 8380417)) L) := by
    intro n_
    induction n_ using Nat.strongRecOn with
    | _ n_ ih_3 =>
    intro i hi hm_3
    refine aw_iload d_Ri_multiplyRows_3 rfl ?_
    refine aw_sipush d_Ri_multiplyRows_5 ⟨by decide, by decide⟩ (by decide) ?_
    refine aw_icmp_ge (tgt := 71) d_Ri_multiplyRows_8 (by decide) (fun c_8 => ?_) (fun c_8 => ?_)
    · skip
      exact aw_vret d_Ri_multiplyRows_71 rfl (by rw [show i = 256 by omega]; exact hP)
    · skip
      refine aw_lconst (x := 0) d_Ri_multiplyRows_11 ⟨by decide, by decide⟩ (by decide) ?_
      refine aw_lstore (lv' := [(6, vl 0), (5, vi i), (4, vr f), (3, vi (n : Int)), (2, vr 118), (1, vi s), (0, vr 44)]) d_Ri_multiplyRows_12 (by decide) rfl ?_
      refine aw_iconst d_Ri_multiplyRows_14 ⟨by decide, by decide⟩ ?_
      refine aw_istore (lv' := [(8, vi 0), (6, vl 0), (5, vi i), (4, vr f), (3, vi (n : Int)), (2, vr 118), (1, vi s), (0, vr 44)]) d_Ri_multiplyRows_15 (by decide) rfl ?_
      have lp_17 : ∀ (n_ : Nat) (c : Int) (t : Int), (0 ≤ c ∧ c ≤ n) → (t = mS I s i c.toNat) → ((n - c).toNat) = n_ → AW l G M_Ri_multiplyRows P 17 [(8, vi c), (6, vl t), (5, vi i), (4, vr f), (3, vi (n : Int)), (2, vr 118), (1, vi s), (0, vr 44)] [] (sD h (rowTo I f i (fun j => mS I s j n % 8380417)) L) := by
        intro n_
        induction n_ using Nat.strongRecOn with
        | _ n_ ih_17 =>
        intro c t hc ht hm_17
        refine aw_iload d_Ri_multiplyRows_17 rfl ?_
        refine aw_iload_n d_Ri_multiplyRows_19 rfl rfl ?_
        refine aw_icmp_ge (tgt := 53) d_Ri_multiplyRows_20 (by decide) (fun c_20 => ?_) (fun c_20 => ?_)
        · skip
          have t_ := mS_b (I := I) (s := s) (i := i) (n := c.toNat) (fun k hk => q1 k (by omega) i hi.1 (by omega)) (fun k hk => q2 k (by omega) i hi.1 (by omega))
          rw [← ht] at t_
          refine aw_aload d_Ri_multiplyRows_53 rfl ?_
          refine aw_iload d_Ri_multiplyRows_55 rfl ?_
          refine aw_lload d_Ri_multiplyRows_57 rfl ?_
          refine aw_ldc2 (n := 8380417) d_Ri_multiplyRows_59 lc_Ri_19 ⟨by decide, by decide⟩ ?_
          refine ax_lrem d_Ri_multiplyRows_62 (by omega) (by omega) ?_
          refine ax_l2i d_Ri_multiplyRows_63 ⟨(by omega), (by omega)⟩ ?_
          refine ax_iast d_Ri_multiplyRows_64 Zf.1 Zf.2.1 (by omega) (by omega) ?_
          rw [rowTo_1 (v := t % 8380417) (by omega) (by rw [ht, show c.toNat = n by omega])]
          refine ax_iinc (lv' := [(5, vi (i + 1)), (8, vi c), (6, vl t), (4, vr f), (3, vi (n : Int)), (2, vr 118), (1, vi s), (0, vr 44)]) d_Ri_multiplyRows_65 rfl (by decide) ⟨(by omega), (by omega)⟩ rfl ?_
          refine aw_goto (tgt := 3) d_Ri_multiplyRows_68 (by decide) ?_
          refine aw_sub (lv' := [(5, vi (i + 1)), (4, vr f), (3, vi (n : Int)), (2, vr 118), (1, vi s), (0, vr 44)]) (by simp) ?_
          exact ih_3 _ (by omega) (i + 1) (by omega) rfl
        · skip
          have a_ := q1 c.toNat (by omega) i hi.1 (by omega)
          rw [Int.toNat_of_nonneg hc.1] at a_
          have b_ := q2 c.toNat (by omega) i hi.1 (by omega)
          have m_ := mulq a_.1 a_.2 b_.1 b_.2
          have t_ := mS_b (I := I) (s := s) (i := i) (n := c.toNat) (fun k hk => q1 k (by omega) i hi.1 (by omega)) (fun k hk => q2 k (by omega) i hi.1 (by omega))
          rw [← ht] at t_
          refine aw_lload d_Ri_multiplyRows_23 rfl ?_
          refine aw_aload_n d_Ri_multiplyRows_25 rfl rfl ?_
          refine aw_iload_n d_Ri_multiplyRows_26 rfl rfl ?_
          refine aw_iload d_Ri_multiplyRows_27 rfl ?_
          refine ax_iadd d_Ri_multiplyRows_29 ⟨(by omega), (by omega)⟩ ?_
          refine ax_aald (b := 45 + (s + c).toNat) d_Ri_multiplyRows_30 ⟨by rw [(k_44 S)]; decide, by rw [(k_44 S)]; decide⟩ (by omega) (by rw [n_44 S]; omega) (g_44 S (by omega) (by omega)) ?_
          refine aw_iload d_Ri_multiplyRows_31 rfl ?_
          refine ax_ialde (x := I (45 + (s + c).toNat) i) d_Ri_multiplyRows_33 (kr_44 S (by omega)) (by omega) (by rw [nr_44 S (by omega)]; omega) (Eq.trans (rowTo_cur) (rfl)) ?_
          refine aw_i2l d_Ri_multiplyRows_34 ?_
          refine aw_aload_n d_Ri_multiplyRows_35 rfl rfl ?_
          refine aw_iload d_Ri_multiplyRows_36 rfl ?_
          refine ax_aald (b := 119 + c.toNat) d_Ri_multiplyRows_38 ⟨by rw [(k_118 S)]; decide, by rw [(k_118 S)]; decide⟩ (by omega) (by rw [n_118 S]; omega) (g_118 S (by omega) (by omega)) ?_
          refine aw_iload d_Ri_multiplyRows_39 rfl ?_
          refine ax_ialde (x := I (119 + c.toNat) i) d_Ri_multiplyRows_41 (kr_118 S (by omega)) (by omega) (by rw [nr_118 S (by omega)]; omega) (Eq.trans (rowTo_cur) (rfl)) ?_
          refine aw_i2l d_Ri_multiplyRows_42 ?_
          refine ax_lmul d_Ri_multiplyRows_43 ⟨(by omega), (by omega)⟩ ?_
          refine ax_ladd d_Ri_multiplyRows_44 ⟨(by omega), (by omega)⟩ ?_
          refine aw_lstore (lv' := [(6, vl (t + ((I (45 + (s + c).toNat) i) * (I (119 + c.toNat) i)))), (8, vi c), (5, vi i), (4, vr f), (3, vi (n : Int)), (2, vr 118), (1, vi s), (0, vr 44)]) d_Ri_multiplyRows_45 (by decide) rfl ?_
          refine ax_iinc (lv' := [(8, vi (c + 1)), (6, vl (t + ((I (45 + (s + c).toNat) i) * (I (119 + c.toNat) i)))), (5, vi i), (4, vr f), (3, vi (n : Int)), (2, vr 118), (1, vi s), (0, vr 44)]) d_Ri_multiplyRows_47 rfl (by decide) ⟨(by omega), (by omega)⟩ rfl ?_
          refine aw_goto (tgt := 17) d_Ri_multiplyRows_50 (by decide) ?_
          exact ih_17 _ (by omega) (c + 1) (t + ((I (45 + (s + c).toNat) i) * (I (119 + c.toNat) i))) (by omega) (by rw [ht, show (c + 1).toNat = c.toNat + 1 by omega]; show _ = mS I s i c.toNat + I (45 + (s + (c.toNat : Int)).toNat) i * _; rw [Int.toNat_of_nonneg hc.1]) rfl
      skip
      exact lp_17 _ 0 0 (by omega) (rfl) rfl
  refine ax_hp (h' := sD h (rowTo I f 0 (fun j => mS I s j n % 8380417)) L) (by rw [rowTo_0]) ?_
  refine aw_sub (lv' := [(5, vi 0), (4, vr f), (3, vi (n : Int)), (2, vr 118), (1, vi s), (0, vr 44)]) (by simp) ?_
  exact lp_3 _ 0 (by omega) rfl
set_option maxHeartbeats 800000 in
set_option maxRecDepth 100000 in
theorem c_Ri_within {l : Launch} {G : a_G} {h : Hp} {I L : Nat → Int → Int} {f : Nat} {t : Int} (Zf : RwO h f) (ht : 0 ≤ t ∧ t < 8380417) : AW l G M_Ri_within (Ret (fun u : Int => some (vi u)) (fun _ => sD h I L) (fun u => (u = 0 ∨ u = 1) ∧ (u = 1 ↔ ∀ j, 0 ≤ j → j < 256 → ¬ (t ≤ I f j ∧ I f j ≤ 8380417 - t)))) 0 (a_ar 0 [vr f, vi t]) [] (sD h I L) := by
  suffices key : ∀ P : a_R → Hp → Prop, (∀ u : Int, (u = 0 ∨ u = 1) → (u = 1 ↔ ∀ j, 0 ≤ j → j < 256 → ¬ (t ≤ I f j ∧ I f j ≤ 8380417 - t)) → P (.inl (some (vi u))) (sD h I L)) → AW l G M_Ri_within P 0 [(0, vr f), (1, vi t)] [] (sD h I L) from key _ (fun u q1 q2 => ⟨u, rfl, rfl, q1, q2⟩)
  intro P hP
  refine aw_iconst d_Ri_within_0 ⟨by decide, by decide⟩ ?_
  refine aw_istore_n (lv' := [(2, vi 0), (0, vr f), (1, vi t)]) d_Ri_within_1 rfl (by decide) rfl ?_
  have lp_2 : ∀ (n_ : Nat) (i : Int), (0 ≤ i ∧ i ≤ 256) → (∀ j, 0 ≤ j → j < i → ¬ (t ≤ I f j ∧ I f j ≤ 8380417 - t)) → ((256 - i).toNat) = n_ → AW l G M_Ri_within P 2 [(2, vi i), (1, vi t), (0, vr f)] [] (sD h I L) := by
    intro n_
    induction n_ using Nat.strongRecOn with
    | _ n_ ih_2 =>
    intro i hi ha hm_2
    refine aw_iload_n d_Ri_within_2 rfl rfl ?_
    refine aw_sipush d_Ri_within_3 ⟨by decide, by decide⟩ (by decide) ?_
    refine aw_icmp_ge (tgt := 34) d_Ri_within_6 (by decide) (fun c_6 => ?_) (fun c_6 => ?_)
    · skip
      refine aw_iconst d_Ri_within_34 ⟨by decide, by decide⟩ ?_
      exact aw_zret d_Ri_within_35 rfl ⟨by decide, by decide⟩ (hP _ (Or.inr rfl) ⟨fun _ j a b => ha j a (by omega), fun _ => rfl⟩)
    · skip
      refine aw_aload_n d_Ri_within_9 rfl rfl ?_
      refine aw_iload_n d_Ri_within_10 rfl rfl ?_
      refine ax_ialde (x := I f i) d_Ri_within_11 Zf.1 (by omega) (by omega) (rfl) ?_
      refine aw_iload_n d_Ri_within_12 rfl rfl ?_
      refine aw_icmp_lt (tgt := 28) d_Ri_within_13 (by decide) (fun c_13 => ?_) (fun c_13 => ?_)
      · skip
        refine ax_iinc (lv' := [(2, vi (i + 1)), (1, vi t), (0, vr f)]) d_Ri_within_28 rfl (by decide) ⟨(by omega), (by omega)⟩ rfl ?_
        refine aw_goto (tgt := 2) d_Ri_within_31 (by decide) ?_
        exact ih_2 _ (by omega) (i + 1) (by omega) (a_upto ha (by omega)) rfl
      · skip
        refine aw_aload_n d_Ri_within_16 rfl rfl ?_
        refine aw_iload_n d_Ri_within_17 rfl rfl ?_
        refine ax_ialde (x := I f i) d_Ri_within_18 Zf.1 (by omega) (by omega) (rfl) ?_
        refine aw_ldc (n := 8380417) d_Ri_within_19 lc_Ri_21 ⟨by decide, by decide⟩ ?_
        refine aw_iload_n d_Ri_within_21 rfl rfl ?_
        refine ax_isub d_Ri_within_22 ⟨(by omega), (by omega)⟩ ?_
        refine aw_icmp_gt (tgt := 28) d_Ri_within_23 (by decide) (fun c_23 => ?_) (fun c_23 => ?_)
        · skip
          refine ax_iinc (lv' := [(2, vi (i + 1)), (1, vi t), (0, vr f)]) d_Ri_within_28 rfl (by decide) ⟨(by omega), (by omega)⟩ rfl ?_
          refine aw_goto (tgt := 2) d_Ri_within_31 (by decide) ?_
          exact ih_2 _ (by omega) (i + 1) (by omega) (a_upto ha (by omega)) rfl
        · skip
          refine aw_iconst d_Ri_within_26 ⟨by decide, by decide⟩ ?_
          exact aw_zret d_Ri_within_27 rfl ⟨by decide, by decide⟩ (hP _ (Or.inl rfl) ⟨fun q => absurd q (by decide), fun q => absurd (q i hi.1 (by omega)) (fun z => z ⟨by omega, by omega⟩)⟩)
  refine aw_sub (lv' := [(2, vi 0), (1, vi t), (0, vr f)]) (by simp) ?_
  exact lp_2 _ 0 (by omega) (fun j a b => by omega) rfl
set_option maxHeartbeats 800000 in
set_option maxRecDepth 100000 in
theorem c_Ri_copyRow {l : Launch} {G : a_G} {h : Hp} {I L : Nat → Int → Int} {f g : Nat} (Zf : RwO h f) (Zg : RwO h g) : AW l G M_Ri_copyRow (Rx none (sD h (rowTo I g 256 (I f)) L)) 0 (a_ar 0 [vr f, vr g]) [] (sD h I L) := by
  suffices key : ∀ P : a_R → Hp → Prop, (P (.inl none) (sD h (byCopy I f g 256) L)) → AW l G M_Ri_copyRow P 0 [(0, vr f), (1, vr g)] [] (sD h I L) from key _ (⟨rfl, rfl⟩)
  intro P hP
  refine aw_aload_n d_Ri_copyRow_0 rfl rfl ?_
  refine aw_iconst d_Ri_copyRow_1 ⟨by decide, by decide⟩ ?_
  refine aw_aload_n d_Ri_copyRow_2 rfl rfl ?_
  refine aw_iconst d_Ri_copyRow_3 ⟨by decide, by decide⟩ ?_
  refine aw_sipush d_Ri_copyRow_4 ⟨by decide, by decide⟩ (by decide) ?_
  refine ax_copy d_Ri_copyRow_7 ml_Ri_38 (Or.inl rfl) Zf.1 Zg.1 Zg.2.1 (by omega) (by omega) (by omega) (by decide) (by decide) ?_
  exact aw_vret d_Ri_copyRow_10 rfl hP
set_option maxHeartbeats 800000 in
set_option maxRecDepth 100000 in
theorem c_Ri_split {l : Launch} {G : a_G} {h : Hp} {I L : Nat → Int → Int} {f : Nat} {s d r : Int} {J : Nat → Int → Int} (Zf : RwO h f) (qf : inQ (I f)) (hd : 0 < d ∧ 0 ≤ s ∧ s + 2 * d ≤ 256) (hr : 0 ≤ r ∧ r < 8380417) (hJ : cset I f (spl (I f) s d r) = J) : AW l G M_Ri_split (Rx none (sD h J L)) 0 (a_ar 0 [vr f, vi s, vi d, vl r]) [] (sD h I L) := by
  suffices key : ∀ P : a_R → Hp → Prop, (∀ K, K = cset I f (spl (I f) s d r) → P (.inl none) (sD h K L)) → AW l G M_Ri_split P 0 [(0, vr f), (1, vi s), (2, vi d), (3, vl r)] [] (sD h I L) from key _ (fun K e => ⟨rfl, by rw [e, hJ]⟩)
  intro P hP
  refine aw_iload_n d_Ri_split_0 rfl rfl ?_
  refine aw_istore (lv' := [(5, vi s), (0, vr f), (1, vi s), (2, vi d), (3, vl r)]) d_Ri_split_1 (by decide) rfl ?_
  have lp_3 : ∀ (n_ : Nat) (i : Int) (K : Nat → Int → Int), (s ≤ i ∧ i ≤ s + d) → (∀ x j, x ≠ f → K x j = I x j) → (∀ j, K f j = splP (I f) s d r i j) → ((s + d - i).toNat) = n_ → AW l G M_Ri_split P 3 [(5, vi i), (3, vl r), (2, vi d), (1, vi s), (0, vr f)] [] (sD h K L) := by
    intro n_
    induction n_ using Nat.strongRecOn with
    | _ n_ ih_3 =>
    intro i K hi f1 g1 hm_3
    refine aw_iload d_Ri_split_3 rfl ?_
    refine aw_iload_n d_Ri_split_5 rfl rfl ?_
    refine aw_iload_n d_Ri_split_6 rfl rfl ?_
    refine ax_iadd d_Ri_split_7 ⟨(by omega), (by omega)⟩ ?_
    refine aw_icmp_ge (tgt := 61) d_Ri_split_8 (by decide) (fun c_8 => ?_) (fun c_8 => ?_)
    · skip
      exact aw_vret d_Ri_split_61 rfl (hP _ (cset_of f1 (fun j => by rw [g1 j, show i = s + d by omega, splP_end])))
    · skip
      have a_ := qf i (by omega) (by omega)
      have b_ := qf (i + d) (by omega) (by omega)
      have m_ := mulq hr.1 hr.2 b_.1 b_.2
      refine aw_lload_n d_Ri_split_11 rfl rfl ?_
      refine aw_aload_n d_Ri_split_12 rfl rfl ?_
      refine aw_iload d_Ri_split_13 rfl ?_
      refine aw_iload_n d_Ri_split_15 rfl rfl ?_
      refine ax_iadd d_Ri_split_16 ⟨(by omega), (by omega)⟩ ?_
      refine ax_ialde (x := I f (i + d)) d_Ri_split_17 Zf.1 (by omega) (by omega) ((g1 _).trans (splP_1 hi.1 (by omega)).2) ?_
      refine aw_i2l d_Ri_split_18 ?_
      refine ax_lmul d_Ri_split_19 ⟨(by omega), (by omega)⟩ ?_
      refine aw_ldc2 (n := 8380417) d_Ri_split_20 lc_Ri_19 ⟨by decide, by decide⟩ ?_
      refine ax_lrem d_Ri_split_23 (by omega) (by omega) ?_
      refine ax_l2i d_Ri_split_24 ⟨(by omega), (by omega)⟩ ?_
      refine aw_istore (lv' := [(6, vi ((r * (I f (i + d))) % 8380417)), (5, vi i), (3, vl r), (2, vi d), (1, vi s), (0, vr f)]) d_Ri_split_25 (by decide) rfl ?_
      refine aw_aload_n d_Ri_split_27 rfl rfl ?_
      refine aw_iload d_Ri_split_28 rfl ?_
      refine aw_iload_n d_Ri_split_30 rfl rfl ?_
      refine ax_iadd d_Ri_split_31 ⟨(by omega), (by omega)⟩ ?_
      refine aw_aload_n d_Ri_split_32 rfl rfl ?_
      refine aw_iload d_Ri_split_33 rfl ?_
      refine ax_ialde (x := I f i) d_Ri_split_35 Zf.1 (by omega) (by omega) ((g1 _).trans (splP_1 hi.1 (by omega)).1) ?_
      refine aw_iload d_Ri_split_36 rfl ?_
      refine ax_S (st := [vi (i + d), vr f]) (as := [vi (I f i), vi ((r * (I f (i + d))) % 8380417)]) (v := some (vi ((I f i - r * I f (i + d)) % 8380417))) (h' := sD h K L) d_Ri_split_38 cs_Ri_split_38 (c_Ri_minus (by omega) pm1) rfl rfl rfl ?_
      show AW l G M_Ri_split P 41 [(6, vi ((r * (I f (i + d))) % 8380417)), (5, vi i), (3, vl r), (2, vi d), (1, vi s), (0, vr f)] [vi ((I f i - r * I f (i + d)) % 8380417), vi (i + d), vr f] (sD h K L)
      refine ax_iast d_Ri_split_41 Zf.1 Zf.2.1 (by omega) (by omega) ?_
      refine aw_aload_n d_Ri_split_42 rfl rfl ?_
      refine aw_iload d_Ri_split_43 rfl ?_
      refine aw_aload_n d_Ri_split_45 rfl rfl ?_
      refine aw_iload d_Ri_split_46 rfl ?_
      refine ax_ialde (x := I f i) d_Ri_split_48 Zf.1 (by omega) (by omega) (Eq.trans (a_up_ne (Or.inr (by omega))) ((g1 _).trans (splP_1 hi.1 (by omega)).1)) ?_
      refine aw_iload d_Ri_split_49 rfl ?_
      refine ax_S (st := [vi i, vr f]) (as := [vi (I f i), vi ((r * (I f (i + d))) % 8380417)]) (v := some (vi ((I f i + r * I f (i + d)) % 8380417))) (h' := sD h (a_up K f (i + d) ((I f i - r * I f (i + d)) % 8380417)) L) d_Ri_split_51 cs_Ri_split_51 (c_Ri_plus (by omega) pm2) rfl rfl rfl ?_
      show AW l G M_Ri_split P 54 [(6, vi ((r * (I f (i + d))) % 8380417)), (5, vi i), (3, vl r), (2, vi d), (1, vi s), (0, vr f)] [vi ((I f i + r * I f (i + d)) % 8380417), vi i, vr f] (sD h (a_up K f (i + d) ((I f i - r * I f (i + d)) % 8380417)) L)
      refine ax_iast d_Ri_split_54 Zf.1 Zf.2.1 (by omega) (by omega) ?_
      refine ax_iinc (lv' := [(5, vi (i + 1)), (6, vi ((r * (I f (i + d))) % 8380417)), (3, vl r), (2, vi d), (1, vi s), (0, vr f)]) d_Ri_split_55 rfl (by decide) ⟨(by omega), (by omega)⟩ rfl ?_
      refine aw_goto (tgt := 3) d_Ri_split_58 (by decide) ?_
      refine aw_sub (lv' := [(5, vi (i + 1)), (3, vl r), (2, vi d), (1, vi s), (0, vr f)]) (by simp) ?_
      exact ih_3 _ (by omega) (i + 1) (a_up (a_up K f (i + d) ((I f i - r * I f (i + d)) % 8380417)) f i ((I f i + r * I f (i + d)) % 8380417)) (by omega) (up_frame2 f1) (spl_step hd.1 hi.1 (by omega) g1 rfl rfl) rfl
  skip
  refine aw_sub (lv' := [(5, vi s), (3, vl r), (2, vi d), (1, vi s), (0, vr f)]) (by simp) ?_
  exact lp_3 _ s I (by omega) (fun _ _ _ => rfl) (fun j => (splP_0 hd.1).symm) rfl
set_option maxHeartbeats 800000 in
set_option maxRecDepth 100000 in
theorem c_Ri_join {l : Launch} {G : a_G} {h : Hp} {I L : Nat → Int → Int} {f : Nat} {s d r : Int} {J : Nat → Int → Int} (Zf : RwO h f) (qf : inQ (I f)) (hd : 0 < d ∧ 0 ≤ s ∧ s + 2 * d ≤ 256) (hr : 0 ≤ r ∧ r < 8380417) (hJ : cset I f (jn (I f) s d r) = J) : AW l G M_Ri_join (Rx none (sD h J L)) 0 (a_ar 0 [vr f, vi s, vi d, vl r]) [] (sD h I L) := by
  suffices key : ∀ P : a_R → Hp → Prop, (∀ K, K = cset I f (jn (I f) s d r) → P (.inl none) (sD h K L)) → AW l G M_Ri_join P 0 [(0, vr f), (1, vi s), (2, vi d), (3, vl r)] [] (sD h I L) from key _ (fun K e => ⟨rfl, by rw [e, hJ]⟩)
  intro P hP
  refine aw_iload_n d_Ri_join_0 rfl rfl ?_
  refine aw_istore (lv' := [(5, vi s), (0, vr f), (1, vi s), (2, vi d), (3, vl r)]) d_Ri_join_1 (by decide) rfl ?_
  have lp_3 : ∀ (n_ : Nat) (i : Int) (K : Nat → Int → Int), (s ≤ i ∧ i ≤ s + d) → (∀ x j, x ≠ f → K x j = I x j) → (∀ j, K f j = jnP (I f) s d r i j) → ((s + d - i).toNat) = n_ → AW l G M_Ri_join P 3 [(5, vi i), (3, vl r), (2, vi d), (1, vi s), (0, vr f)] [] (sD h K L) := by
    intro n_
    induction n_ using Nat.strongRecOn with
    | _ n_ ih_3 =>
    intro i K hi f1 g1 hm_3
    refine aw_iload d_Ri_join_3 rfl ?_
    refine aw_iload_n d_Ri_join_5 rfl rfl ?_
    refine aw_iload_n d_Ri_join_6 rfl rfl ?_
    refine ax_iadd d_Ri_join_7 ⟨(by omega), (by omega)⟩ ?_
    refine aw_icmp_ge (tgt := 63) d_Ri_join_8 (by decide) (fun c_8 => ?_) (fun c_8 => ?_)
    · skip
      exact aw_vret d_Ri_join_63 rfl (hP _ (cset_of f1 (fun j => by rw [g1 j, show i = s + d by omega, jnP_end])))
    · skip
      have a_ := qf i (by omega) (by omega)
      have b_ := qf (i + d) (by omega) (by omega)
      have m_ := mulq hr.1 hr.2 b_.1 b_.2
      refine aw_aload_n d_Ri_join_11 rfl rfl ?_
      refine aw_iload d_Ri_join_12 rfl ?_
      refine ax_ialde (x := I f i) d_Ri_join_14 Zf.1 (by omega) (by omega) ((g1 _).trans (jnP_1 hi.1 (by omega)).1) ?_
      refine aw_istore (lv' := [(6, vi (I f i)), (5, vi i), (3, vl r), (2, vi d), (1, vi s), (0, vr f)]) d_Ri_join_15 (by decide) rfl ?_
      refine aw_aload_n d_Ri_join_17 rfl rfl ?_
      refine aw_iload d_Ri_join_18 rfl ?_
      refine aw_iload d_Ri_join_20 rfl ?_
      refine aw_aload_n d_Ri_join_22 rfl rfl ?_
      refine aw_iload d_Ri_join_23 rfl ?_
      refine aw_iload_n d_Ri_join_25 rfl rfl ?_
      refine ax_iadd d_Ri_join_26 ⟨(by omega), (by omega)⟩ ?_
      refine ax_ialde (x := I f (i + d)) d_Ri_join_27 Zf.1 (by omega) (by omega) ((g1 _).trans (jnP_1 hi.1 (by omega)).2) ?_
      refine ax_S (st := [vi i, vr f]) (as := [vi (I f i), vi (I f (i + d))]) (v := some (vi ((I f i + I f (i + d)) % 8380417))) (h' := sD h K L) d_Ri_join_28 cs_Ri_join_28 (c_Ri_plus (by omega) rfl) rfl rfl rfl ?_
      show AW l G M_Ri_join P 31 [(6, vi (I f i)), (5, vi i), (3, vl r), (2, vi d), (1, vi s), (0, vr f)] [vi ((I f i + I f (i + d)) % 8380417), vi i, vr f] (sD h K L)
      refine ax_iast d_Ri_join_31 Zf.1 Zf.2.1 (by omega) (by omega) ?_
      refine aw_aload_n d_Ri_join_32 rfl rfl ?_
      refine aw_iload d_Ri_join_33 rfl ?_
      refine aw_iload_n d_Ri_join_35 rfl rfl ?_
      refine ax_iadd d_Ri_join_36 ⟨(by omega), (by omega)⟩ ?_
      refine aw_lload_n d_Ri_join_37 rfl rfl ?_
      refine aw_aload_n d_Ri_join_38 rfl rfl ?_
      refine aw_iload d_Ri_join_39 rfl ?_
      refine aw_iload_n d_Ri_join_41 rfl rfl ?_
      refine ax_iadd d_Ri_join_42 ⟨(by omega), (by omega)⟩ ?_
      refine ax_ialde (x := I f (i + d)) d_Ri_join_43 Zf.1 (by omega) (by omega) (Eq.trans (a_up_ne (Or.inr (by omega))) ((g1 _).trans (jnP_1 hi.1 (by omega)).2)) ?_
      refine aw_iload d_Ri_join_44 rfl ?_
      refine ax_S (st := [vl r, vi (i + d), vr f]) (as := [vi (I f (i + d)), vi (I f i)]) (v := some (vi ((I f (i + d) - I f i) % 8380417))) (h' := sD h (a_up K f i ((I f i + I f (i + d)) % 8380417)) L) d_Ri_join_46 cs_Ri_join_46 (c_Ri_minus (by omega) rfl) rfl rfl rfl ?_
      show AW l G M_Ri_join P 49 [(6, vi (I f i)), (5, vi i), (3, vl r), (2, vi d), (1, vi s), (0, vr f)] [vi ((I f (i + d) - I f i) % 8380417), vl r, vi (i + d), vr f] (sD h (a_up K f i ((I f i + I f (i + d)) % 8380417)) L)
      have m2_ := mulq hr.1 hr.2 (show 0 ≤ (I f (i + d) - I f i) % 8380417 by omega) (show (I f (i + d) - I f i) % 8380417 < 8380417 by omega)
      refine aw_i2l d_Ri_join_49 ?_
      refine ax_lmul d_Ri_join_50 ⟨(by omega), (by omega)⟩ ?_
      refine aw_ldc2 (n := 8380417) d_Ri_join_51 lc_Ri_19 ⟨by decide, by decide⟩ ?_
      refine ax_lrem d_Ri_join_54 (by omega) (by omega) ?_
      refine ax_l2i d_Ri_join_55 ⟨(by omega), (by omega)⟩ ?_
      refine ax_iast d_Ri_join_56 Zf.1 Zf.2.1 (by omega) (by omega) ?_
      refine ax_iinc (lv' := [(5, vi (i + 1)), (6, vi (I f i)), (3, vl r), (2, vi d), (1, vi s), (0, vr f)]) d_Ri_join_57 rfl (by decide) ⟨(by omega), (by omega)⟩ rfl ?_
      refine aw_goto (tgt := 3) d_Ri_join_60 (by decide) ?_
      refine aw_sub (lv' := [(5, vi (i + 1)), (3, vl r), (2, vi d), (1, vi s), (0, vr f)]) (by simp) ?_
      exact ih_3 _ (by omega) (i + 1) (a_up (a_up K f i ((I f i + I f (i + d)) % 8380417)) f (i + d) ((r * ((I f (i + d) - I f i) % 8380417)) % 8380417)) (by omega) (up_frame2 f1) (jn_step hd.1 hi.1 (by omega) g1 rfl rfl) rfl
  skip
  refine aw_sub (lv' := [(5, vi s), (3, vl r), (2, vi d), (1, vi s), (0, vr f)]) (by simp) ?_
  exact lp_3 _ s I (by omega) (fun _ _ _ => rfl) (fun j => (jnP_0 hd.1).symm) rfl
set_option maxHeartbeats 800000 in
set_option maxRecDepth 100000 in
theorem c_Ri_forward {l : Launch} {G : a_G} {h : Hp} {I L : Nat → Int → Int} {f : Nat} (S : Shp h) (Zf : RwO h f) (hf : f ≠ 43) (qf : inQ (I f)) (hR : inQ (I 43)) : AW l G M_Ri_forward (Rx none (sD h (cset I f (fwd (I 43) (I f))) L)) 0 (a_ar 0 [vr 42, vr f]) [] (sD h I L) := by
  suffices key : ∀ P : a_R → Hp → Prop, (P (.inl none) (sD h (cset I f (fwd (I 43) (I f))) L)) → AW l G M_Ri_forward P 0 [(0, vr 42), (1, vr f)] [] (sD h I L) from key _ (⟨rfl, rfl⟩)
  intro P hP
  refine aw_iconst d_Ri_forward_0 ⟨by decide, by decide⟩ ?_
  refine aw_istore_n (lv' := [(2, vi 0), (0, vr 42), (1, vr f)]) d_Ri_forward_1 rfl (by decide) rfl ?_
  refine aw_sipush d_Ri_forward_2 ⟨by decide, by decide⟩ (by decide) ?_
  refine aw_istore_n (lv' := [(3, vi 128), (2, vi 0), (0, vr 42), (1, vr f)]) d_Ri_forward_5 rfl (by decide) rfl ?_
  have lp_6 : ∀ (n_ : Nat) (n : Nat) (d : Int) (rt : Int), (n ≤ 8) → (d = 128 / 2 ^ n) → (rt = 2 ^ n - 1) → (8 - n) = n_ → AW l G M_Ri_forward P 6 [(3, vi d), (2, vi rt), (1, vr f), (0, vr 42)] [] (sD h (cset I f (fwdL (I 43) (I f) n)) L) := by
    intro n_
    induction n_ using Nat.strongRecOn with
    | _ n_ ih_6 =>
    intro n d rt hn hd hr hm_6
    refine aw_iload_n d_Ri_forward_6 rfl rfl ?_
    refine aw_if_le (tgt := 56) d_Ri_forward_7 (by decide) (fun c_7 => ?_) (fun c_7 => ?_)
    · skip
      have hn8 : n = 8 := by rcases Nat.lt_or_ge n 8 with q | q; have := (lv8 q).2.1; omega; omega
      exact aw_vret d_Ri_forward_56 rfl (by rw [hn8]; exact hP)
    · skip
      have hn8 : n < 8 := by rcases Nat.lt_or_ge n 8 with q | q; exact q; exact absurd c_7 (by rw [hd, show n = 8 by omega]; decide)
      have l8 := lv8 hn8
      rw [← hd] at l8
      refine aw_iconst d_Ri_forward_10 ⟨by decide, by decide⟩ ?_
      refine aw_istore (lv' := [(4, vi 0), (3, vi d), (2, vi rt), (1, vr f), (0, vr 42)]) d_Ri_forward_11 (by decide) rfl ?_
      have lp_13 : ∀ (n_ : Nat) (b : Nat) (s : Int) (ru : Int), (s = 2 * d * b) → ((b : Int) ≤ 2 ^ n ∧ 0 ≤ s ∧ s ≤ 256) → (ru = 2 ^ n - 1 + b) → ((256 - s).toNat) = n_ → AW l G M_Ri_forward P 13 [(4, vi s), (3, vi d), (2, vi ru), (1, vr f), (0, vr 42)] [] (sD h (cset I f (fwdB (I 43) (fwdL (I 43) (I f) n) d (2 ^ n - 1) b)) L) := by
        intro n_
        induction n_ using Nat.strongRecOn with
        | _ n_ ih_13 =>
        intro b s ru hs hb hr2 hm_13
        refine aw_iload d_Ri_forward_13 rfl ?_
        refine aw_sipush d_Ri_forward_15 ⟨by decide, by decide⟩ (by decide) ?_
        refine aw_icmp_ge (tgt := 49) d_Ri_forward_18 (by decide) (fun c_18 => ?_) (fun c_18 => ?_)
        · skip
          have bg := blk_ge l8.2.1 hs l8.1 (by omega)
          have be : b = 2 ^ n := by have := l8.2.2.2.2.1; omega
          have e49 : fwdB (I 43) (fwdL (I 43) (I f) n) d (2 ^ n - 1) b = fwdL (I 43) (I f) (n + 1) := by rw [be, hd]; rfl
          rw [e49]
          refine aw_iload_n d_Ri_forward_49 rfl rfl ?_
          refine aw_iconst d_Ri_forward_50 ⟨by decide, by decide⟩ ?_
          refine aw_ishr d_Ri_forward_51 ?_
          refine ax_ti (x := d / 2) (a_shr' 1 rfl rfl (by decide) (by unfold okI; omega)) ?_
          refine aw_istore_n (lv' := [(3, vi (d / 2)), (4, vi s), (2, vi ru), (1, vr f), (0, vr 42)]) d_Ri_forward_52 rfl (by decide) rfl ?_
          refine aw_goto (tgt := 6) d_Ri_forward_53 (by decide) ?_
          refine aw_sub (lv' := [(3, vi (d / 2)), (2, vi ru), (1, vr f), (0, vr 42)]) (by simp) ?_
          exact ih_6 _ (by omega) (n + 1) (d / 2) ru (by omega) (l8.2.2.2.2.2.1) (by have := l8.2.2.2.2.1; omega) rfl
        · skip
          refine ax_iinc (lv' := [(2, vi (ru + 1)), (4, vi s), (3, vi d), (1, vr f), (0, vr 42)]) d_Ri_forward_21 rfl (by decide) ⟨(by omega), (by omega)⟩ rfl ?_
          have bl := blk_lt l8.2.1 hs l8.1 (by omega)
          have bf := blk_fit l8.2.1 hs l8.1 bl
          rw [l8.2.2.2.2.1] at bl
          have rq := hR (ru + 1) (by have := p2pos n; omega) (by omega)
          refine aw_aload_n d_Ri_forward_24 rfl rfl ?_
          refine aw_iload d_Ri_forward_25 rfl ?_
          refine aw_iload_n d_Ri_forward_27 rfl rfl ?_
          refine aw_aload_n d_Ri_forward_28 rfl rfl ?_
          refine ax_getR (b := 43) d_Ri_forward_29 fd_Ri_9 (k_42 S) (r_42_0 S) ?_
          refine aw_iload_n d_Ri_forward_32 rfl rfl ?_
          refine ax_ialde (x := I 43 (ru + 1)) d_Ri_forward_33 (k_43 S) (by omega) (by rw [n_43 S]; omega) (Eq.trans (cset_ne hf.symm) (rfl)) ?_
          refine aw_i2l d_Ri_forward_34 ?_
          refine ax_S (st := []) (as := [vr f, vi s, vi d, vl (I 43 (ru + 1))]) (v := none) (h' := sD h (cset I f (fwdB (I 43) (fwdL (I 43) (I f) n) d (2 ^ n - 1) (b + 1))) L) d_Ri_forward_35 cs_Ri_forward_35 (c_Ri_split Zf (by rw [cset_at]; exact fwdB_in (fwdL_in qf n) b) (by omega) rq (by rw [cset_at, cset_cset, hs, show ru + 1 = 2 ^ n - 1 + (b : Int) + 1 by omega]; rfl)) rfl rfl rfl ?_
          show AW l G M_Ri_forward P 38 [(2, vi (ru + 1)), (4, vi s), (3, vi d), (1, vr f), (0, vr 42)] [] (sD h (cset I f (fwdB (I 43) (fwdL (I 43) (I f) n) d (2 ^ n - 1) (b + 1))) L)
          refine aw_iload d_Ri_forward_38 rfl ?_
          refine aw_iconst d_Ri_forward_40 ⟨by decide, by decide⟩ ?_
          refine aw_iload_n d_Ri_forward_41 rfl rfl ?_
          refine ax_imul d_Ri_forward_42 ⟨(by omega), (by omega)⟩ ?_
          refine ax_iadd d_Ri_forward_43 ⟨(by omega), (by omega)⟩ ?_
          refine aw_istore (lv' := [(4, vi (s + (2 * d))), (2, vi (ru + 1)), (3, vi d), (1, vr f), (0, vr 42)]) d_Ri_forward_44 (by decide) rfl ?_
          refine aw_goto (tgt := 13) d_Ri_forward_46 (by decide) ?_
          refine aw_sub (lv' := [(4, vi (s + (2 * d))), (3, vi d), (2, vi (ru + 1)), (1, vr f), (0, vr 42)]) (by simp) ?_
          exact ih_13 _ (by omega) (b + 1) (s + 2 * d) (ru + 1) (by rw [hs, Int.natCast_add, Int.mul_add]; omega) (by omega) (by omega) rfl
      skip
      exact lp_13 _ 0 0 rt (by simp) (by have := p2pos n; omega) (by omega) rfl
  refine ax_hp (h' := sD h (cset I f (fwdL (I 43) (I f) 0)) L) (by rw [show fwdL (I 43) (I f) 0 = I f from rfl, cset_self]) ?_
  refine aw_sub (lv' := [(3, vi 128), (2, vi 0), (1, vr f), (0, vr 42)]) (by simp) ?_
  exact lp_6 _ 0 128 0 (by omega) (by decide) (by decide) rfl
set_option maxHeartbeats 800000 in
set_option maxRecDepth 100000 in
theorem c_Ri_back {l : Launch} {G : a_G} {h : Hp} {I L : Nat → Int → Int} {f : Nat} (S : Shp h) (Zf : RwO h f) (hf : f ≠ 43) (qf : inQ (I f)) (hR : inQ (I 43)) : AW l G M_Ri_back (Rx none (sD h (cset I f (bck (I 43) (I f))) L)) 0 (a_ar 0 [vr 42, vr f]) [] (sD h I L) := by
  suffices key : ∀ P : a_R → Hp → Prop, (P (.inl none) (sD h (cset I f (bck (I 43) (I f))) L)) → AW l G M_Ri_back P 0 [(0, vr 42), (1, vr f)] [] (sD h I L) from key _ (⟨rfl, rfl⟩)
  intro P hP
  refine aw_sipush d_Ri_back_0 ⟨by decide, by decide⟩ (by decide) ?_
  refine aw_istore_n (lv' := [(2, vi 256), (0, vr 42), (1, vr f)]) d_Ri_back_3 rfl (by decide) rfl ?_
  refine aw_iconst d_Ri_back_4 ⟨by decide, by decide⟩ ?_
  refine aw_istore_n (lv' := [(3, vi 1), (2, vi 256), (0, vr 42), (1, vr f)]) d_Ri_back_5 rfl (by decide) rfl ?_
  have lp_6 : ∀ (n_ : Nat) (n : Nat) (d : Int) (rt : Int), (n ≤ 8) → (d = 2 ^ n) → (rt = 256 / 2 ^ n) → (8 - n) = n_ → AW l G M_Ri_back P 6 [(3, vi d), (2, vi rt), (1, vr f), (0, vr 42)] [] (sD h (cset I f (bckL (I 43) (I f) n)) L) := by
    intro n_
    induction n_ using Nat.strongRecOn with
    | _ n_ ih_6 =>
    intro n d rt hn hd hr hm_6
    refine aw_iload_n d_Ri_back_6 rfl rfl ?_
    refine aw_sipush d_Ri_back_7 ⟨by decide, by decide⟩ (by decide) ?_
    refine aw_icmp_ge (tgt := 59) d_Ri_back_10 (by decide) (fun c_10 => ?_) (fun c_10 => ?_)
    · skip
      have hn8 : n = 8 := by rcases Nat.lt_or_ge n 8 with q | q; have := (lv8b q).2.2.1; omega; omega
      rw [hn8]
      refine aw_iconst d_Ri_back_59 ⟨by decide, by decide⟩ ?_
      refine aw_istore_n (lv' := [(3, vi 0), (2, vi rt), (1, vr f), (0, vr 42)]) d_Ri_back_60 rfl (by decide) rfl ?_
      have lp_61 : ∀ (n_ : Nat) (i : Int), (0 ≤ i ∧ i ≤ 256) → ((256 - i).toNat) = n_ → AW l G M_Ri_back P 61 [(3, vi i), (1, vr f), (0, vr 42)] [] (sD h (rowTo (cset I f (bckL (I 43) (I f) 8)) f i (fun j => 8347681 * bckL (I 43) (I f) 8 j % 8380417)) L) := by
        intro n_
        induction n_ using Nat.strongRecOn with
        | _ n_ ih_61 =>
        intro i hi hm_61
        refine aw_iload_n d_Ri_back_61 rfl rfl ?_
        refine aw_sipush d_Ri_back_62 ⟨by decide, by decide⟩ (by decide) ?_
        refine aw_icmp_ge (tgt := 90) d_Ri_back_65 (by decide) (fun c_65 => ?_) (fun c_65 => ?_)
        · skip
          exact aw_vret d_Ri_back_90 rfl (by rw [show i = 256 by omega, cset_row]; exact hP)
        · skip
          have q_ := bckL_in (R := I 43) qf 8 i hi.1 (by omega)
          have m_ := mulq (show (0 : Int) ≤ 8347681 by decide) (by decide) q_.1 q_.2
          refine aw_aload_n d_Ri_back_68 rfl rfl ?_
          refine aw_iload_n d_Ri_back_69 rfl rfl ?_
          refine aw_ldc2 (n := 8347681) d_Ri_back_70 lc_Ri_36 ⟨by decide, by decide⟩ ?_
          refine aw_aload_n d_Ri_back_73 rfl rfl ?_
          refine aw_iload_n d_Ri_back_74 rfl rfl ?_
          refine ax_ialde (x := bckL (I 43) (I f) 8 i) d_Ri_back_75 Zf.1 (by omega) (by omega) (rowTo_cur.trans (congrFun cset_at i)) ?_
          refine aw_i2l d_Ri_back_76 ?_
          refine ax_lmul d_Ri_back_77 ⟨(by omega), (by omega)⟩ ?_
          refine aw_ldc2 (n := 8380417) d_Ri_back_78 lc_Ri_19 ⟨by decide, by decide⟩ ?_
          refine ax_lrem d_Ri_back_81 (by omega) (by omega) ?_
          refine ax_l2i d_Ri_back_82 ⟨(by omega), (by omega)⟩ ?_
          refine ax_iast d_Ri_back_83 Zf.1 Zf.2.1 (by omega) (by omega) ?_
          rw [rowTo_1 (by omega) rfl]
          refine ax_iinc (lv' := [(3, vi (i + 1)), (1, vr f), (0, vr 42)]) d_Ri_back_84 rfl (by decide) ⟨(by omega), (by omega)⟩ rfl ?_
          refine aw_goto (tgt := 61) d_Ri_back_87 (by decide) ?_
          exact ih_61 _ (by omega) (i + 1) (by omega) rfl
      refine ax_hp (h' := sD h (rowTo (cset I f (bckL (I 43) (I f) 8)) f 0 (fun j => 8347681 * bckL (I 43) (I f) 8 j % 8380417)) L) (by rw [rowTo_0]) ?_
      refine aw_sub (lv' := [(3, vi 0), (1, vr f), (0, vr 42)]) (by simp) ?_
      exact lp_61 _ 0 (by omega) rfl
    · skip
      have hn8 : n < 8 := by rcases Nat.lt_or_ge n 8 with q | q; exact q; exact absurd c_10 (by rw [hd, show n = 8 by omega]; decide)
      have l8 := lv8b hn8
      have l8a := l8.1
      have l8b := l8.2.1
      rw [← hd] at l8a l8b
      refine aw_iconst d_Ri_back_13 ⟨by decide, by decide⟩ ?_
      refine aw_istore (lv' := [(4, vi 0), (3, vi d), (2, vi rt), (1, vr f), (0, vr 42)]) d_Ri_back_14 (by decide) rfl ?_
      have lp_16 : ∀ (n_ : Nat) (b : Nat) (s : Int) (ru : Int), (s = 2 * d * b) → ((b : Int) ≤ ((128 / 2 ^ n : Nat) : Int) ∧ 0 ≤ s ∧ s ≤ 256) → (ru = 256 / 2 ^ n - b) → ((256 - s).toNat) = n_ → AW l G M_Ri_back P 16 [(4, vi s), (3, vi d), (2, vi ru), (1, vr f), (0, vr 42)] [] (sD h (cset I f (bckB (I 43) (bckL (I 43) (I f) n) d (256 / 2 ^ n) b)) L) := by
        intro n_
        induction n_ using Nat.strongRecOn with
        | _ n_ ih_16 =>
        intro b s ru hs hb hr2 hm_16
        refine aw_iload d_Ri_back_16 rfl ?_
        refine aw_sipush d_Ri_back_18 ⟨by decide, by decide⟩ (by decide) ?_
        refine aw_icmp_ge (tgt := 52) d_Ri_back_21 (by decide) (fun c_21 => ?_) (fun c_21 => ?_)
        · skip
          have bg := blk_ge l8b hs l8a (by omega)
          have be : b = 128 / 2 ^ n := by omega
          have e49 : bckB (I 43) (bckL (I 43) (I f) n) d (256 / 2 ^ n) b = bckL (I 43) (I f) (n + 1) := by rw [be, hd]; rfl
          rw [e49]
          refine aw_iload_n d_Ri_back_52 rfl rfl ?_
          refine aw_iconst d_Ri_back_53 ⟨by decide, by decide⟩ ?_
          refine aw_ishl d_Ri_back_54 ?_
          refine ax_ti (x := d * 2) (a_shl' 1 rfl rfl (by decide) (by omega) (by omega)) ?_
          refine aw_istore_n (lv' := [(3, vi (d * 2)), (4, vi s), (2, vi ru), (1, vr f), (0, vr 42)]) d_Ri_back_55 rfl (by decide) rfl ?_
          refine aw_goto (tgt := 6) d_Ri_back_56 (by decide) ?_
          refine aw_sub (lv' := [(3, vi (d * 2)), (2, vi ru), (1, vr f), (0, vr 42)]) (by simp) ?_
          exact ih_6 _ (by omega) (n + 1) (d * 2) ru (by omega) (by rw [hd]; exact l8.2.2.2.2.1) (by have := l8.2.2.2.2.2.1; have := l8.2.2.2.1; omega) rfl
        · skip
          refine ax_iinc (lv' := [(2, vi (ru + (-1))), (4, vi s), (3, vi d), (1, vr f), (0, vr 42)]) d_Ri_back_24 rfl (by decide) ⟨(by omega), (by omega)⟩ rfl ?_
          have bl := blk_lt l8b hs l8a (by omega)
          have bf := blk_fit l8b hs l8a bl
          have rq := hR (ru + -1) (by have := l8.2.2.2.2.2.2.1; have := l8.2.2.2.1; omega) (by have := l8.2.2.2.2.2.2.2.1; omega)
          refine aw_aload_n d_Ri_back_27 rfl rfl ?_
          refine aw_iload d_Ri_back_28 rfl ?_
          refine aw_iload_n d_Ri_back_30 rfl rfl ?_
          refine aw_aload_n d_Ri_back_31 rfl rfl ?_
          refine ax_getR (b := 43) d_Ri_back_32 fd_Ri_9 (k_42 S) (r_42_0 S) ?_
          refine aw_iload_n d_Ri_back_35 rfl rfl ?_
          refine ax_ialde (x := I 43 (ru + (-1))) d_Ri_back_36 (k_43 S) (by omega) (by rw [n_43 S]; omega) (Eq.trans (cset_ne hf.symm) (rfl)) ?_
          refine aw_i2l d_Ri_back_37 ?_
          refine ax_S (st := []) (as := [vr f, vi s, vi d, vl (I 43 (ru + (-1)))]) (v := none) (h' := sD h (cset I f (bckB (I 43) (bckL (I 43) (I f) n) d (256 / 2 ^ n) (b + 1))) L) d_Ri_back_38 cs_Ri_back_38 (c_Ri_join Zf (by rw [cset_at]; exact bckB_in (bckL_in qf n) b) (by omega) rq (by rw [cset_at, cset_cset, hs, show ru + -1 = 256 / 2 ^ n - (b : Int) - 1 by omega]; rfl)) rfl rfl rfl ?_
          show AW l G M_Ri_back P 41 [(2, vi (ru + (-1))), (4, vi s), (3, vi d), (1, vr f), (0, vr 42)] [] (sD h (cset I f (bckB (I 43) (bckL (I 43) (I f) n) d (256 / 2 ^ n) (b + 1))) L)
          refine aw_iload d_Ri_back_41 rfl ?_
          refine aw_iconst d_Ri_back_43 ⟨by decide, by decide⟩ ?_
          refine aw_iload_n d_Ri_back_44 rfl rfl ?_
          refine ax_imul d_Ri_back_45 ⟨(by omega), (by omega)⟩ ?_
          refine ax_iadd d_Ri_back_46 ⟨(by omega), (by omega)⟩ ?_
          refine aw_istore (lv' := [(4, vi (s + (2 * d))), (2, vi (ru + (-1))), (3, vi d), (1, vr f), (0, vr 42)]) d_Ri_back_47 (by decide) rfl ?_
          refine aw_goto (tgt := 16) d_Ri_back_49 (by decide) ?_
          refine aw_sub (lv' := [(4, vi (s + (2 * d))), (3, vi d), (2, vi (ru + (-1))), (1, vr f), (0, vr 42)]) (by simp) ?_
          exact ih_16 _ (by omega) (b + 1) (s + 2 * d) (ru + -1) (by rw [hs, Int.natCast_add, Int.mul_add]; omega) (by omega) (by omega) rfl
      skip
      exact lp_16 _ 0 0 rt (by simp) (⟨Int.natCast_nonneg _, by omega, by omega⟩) (by omega) rfl
  refine ax_hp (h' := sD h (cset I f (bckL (I 43) (I f) 0)) L) (by rw [show bckL (I 43) (I f) 0 = I f from rfl, cset_self]) ?_
  refine aw_sub (lv' := [(3, vi 1), (2, vi 256), (1, vr f), (0, vr 42)]) (by simp) ?_
  exact lp_6 _ 0 1 256 (by omega) (by decide) (by decide) rfl
