/-! the class's bench -/
def FC (p : Nat → Prop) (I L I' L' : Nat → Int → Int) : Prop := (∀ a j, ¬ p a → I' a j = I a j) ∧ (∀ a j, a ≠ 39 → a ≠ 40 → a ≠ 41 → L' a j = L a j)
theorem FC.rfl' {p : Nat → Prop} {I L : Nat → Int → Int} : FC p I L I L := ⟨fun _ _ _ => rfl, fun _ _ _ _ _ => rfl⟩
theorem FC.tr {p q r : Nat → Prop} {I L I1 L1 I2 L2 : Nat → Int → Int} (h : FC p I L I1 L1) (h' : FC q I1 L1 I2 L2) (hr : ∀ a, ¬ r a → ¬ p a ∧ ¬ q a) : FC r I L I2 L2 := ⟨fun a j x => (h'.1 a j (hr a x).2).trans (h.1 a j (hr a x).1), fun a j x y z => (h'.2 a j x y z).trans (h.2 a j x y z)⟩
theorem FC.mono {p r : Nat → Prop} {I L I1 L1 : Nat → Int → Int} (h : FC p I L I1 L1) (hr : ∀ a, ¬ r a → ¬ p a) : FC r I L I1 L1 := ⟨fun a j x => h.1 a j (hr a x), h.2⟩
theorem SpF.fc {I L I' L' : Nat → Int → Int} (h : SpF I L I' L') : FC (fun a => a = 38) I L I' L' := ⟨fun a j x => h.1 a j x, h.2⟩
theorem FC.frc {p : Nat → Prop} {I L I1 L1 : Nat → Int → Int} (h : FC p I L I1 L1) (hr : ∀ a, (a < 36 ∨ a = 43 ∨ 175 ≤ a) → ¬ p a) : frC I L I1 L1 := ⟨fun a j x => h.1 a j (hr a x), h.2⟩
theorem FC.row {p : Nat → Prop} {I L : Nat → Int → Int} {f : Nat} {n : Int} {X : Int → Int} (hp : p f) : FC p I L (rowTo I f n X) L := ⟨fun a j x => rowTo_ne (fun e => x (e ▸ hp)), fun _ _ _ _ _ => rfl⟩
theorem FC.cs {p : Nat → Prop} {I L : Nat → Int → Int} {f : Nat} {X : Int → Int} (hp : p f) : FC p I L (cset I f X) L := ⟨fun a j x => cset_ne (fun e => x (e ▸ hp)), fun _ _ _ _ _ => rfl⟩
theorem FC.put {p : Nat → Prop} {I L : Nat → Int → Int} {b r : Nat} {n : Int} {g : Int → Int} (hb : p b) (hr : p r) : FC p I L (byPut I b r n g) L := ⟨fun a j x => byPut_ne (fun e => x (e ▸ hb)) (fun e => x (e ▸ hr)), fun _ _ _ _ _ => rfl⟩
theorem FC.up {p : Nat → Prop} {I L : Nat → Int → Int} {b : Nat} {j v : Int} (hb : p b) : FC p I L (a_up I b j v) L := ⟨fun a i x => a_up_ne (Or.inl (fun e => x (e ▸ hb))), fun _ _ _ _ _ => rfl⟩
theorem byAt_fc {p : Nat → Prop} {I L I' L' : Nat → Int → Int} {b r : Nat} {i : Int} (h : FC p I L I' L') (hb : ¬ p b) (hr : ¬ p r) : byAt I' b r i = byAt I b r i := by
  unfold byAt
  rw [h.1 b 1 hb, h.1 r i hr]
def tPl : List (Nat × Int × Int) := [(33, 0, 4), (33, 1, 4), (33, 2, 2), (33, 3, 39), (33, 4, 131072), (33, 5, 95232), (33, 6, 80), (33, 7, 32), (33, 8, 44), (33, 9, 78), (33, 10, 3), (33, 11, 18), (33, 12, 6), (33, 13, 1312), (33, 14, 2560), (33, 15, 2420), (34, 0, 6), (34, 1, 5), (34, 2, 4), (34, 3, 49), (34, 4, 524288), (34, 5, 261888), (34, 6, 55), (34, 7, 48), (34, 8, 16), (34, 9, 196), (34, 10, 4), (34, 11, 20), (34, 12, 4), (34, 13, 1952), (34, 14, 4032), (34, 15, 3309), (35, 0, 8), (35, 1, 7), (35, 2, 2), (35, 3, 60), (35, 4, 524288), (35, 5, 261888), (35, 6, 75), (35, 7, 64), (35, 8, 16), (35, 9, 120), (35, 10, 3), (35, 11, 20), (35, 12, 4), (35, 13, 2592), (35, 14, 4896), (35, 15, 4627)]
def ParD (I : Nat → Int → Int) : Prop := ∀ q ∈ tPl, I q.1 q.2.1 = q.2.2
theorem pc_33_0 {I : Nat → Int → Int} (D : ParD I) : I 33 0 = 4 := D (33, 0, 4) (List.mem_of_getElem? (i := 0) (by decide))
theorem pc_33_1 {I : Nat → Int → Int} (D : ParD I) : I 33 1 = 4 := D (33, 1, 4) (List.mem_of_getElem? (i := 1) (by decide))
theorem pc_33_2 {I : Nat → Int → Int} (D : ParD I) : I 33 2 = 2 := D (33, 2, 2) (List.mem_of_getElem? (i := 2) (by decide))
theorem pc_33_3 {I : Nat → Int → Int} (D : ParD I) : I 33 3 = 39 := D (33, 3, 39) (List.mem_of_getElem? (i := 3) (by decide))
theorem pc_33_4 {I : Nat → Int → Int} (D : ParD I) : I 33 4 = 131072 := D (33, 4, 131072) (List.mem_of_getElem? (i := 4) (by decide))
theorem pc_33_5 {I : Nat → Int → Int} (D : ParD I) : I 33 5 = 95232 := D (33, 5, 95232) (List.mem_of_getElem? (i := 5) (by decide))
theorem pc_33_6 {I : Nat → Int → Int} (D : ParD I) : I 33 6 = 80 := D (33, 6, 80) (List.mem_of_getElem? (i := 6) (by decide))
theorem pc_33_7 {I : Nat → Int → Int} (D : ParD I) : I 33 7 = 32 := D (33, 7, 32) (List.mem_of_getElem? (i := 7) (by decide))
theorem pc_33_8 {I : Nat → Int → Int} (D : ParD I) : I 33 8 = 44 := D (33, 8, 44) (List.mem_of_getElem? (i := 8) (by decide))
theorem pc_33_9 {I : Nat → Int → Int} (D : ParD I) : I 33 9 = 78 := D (33, 9, 78) (List.mem_of_getElem? (i := 9) (by decide))
theorem pc_33_10 {I : Nat → Int → Int} (D : ParD I) : I 33 10 = 3 := D (33, 10, 3) (List.mem_of_getElem? (i := 10) (by decide))
theorem pc_33_11 {I : Nat → Int → Int} (D : ParD I) : I 33 11 = 18 := D (33, 11, 18) (List.mem_of_getElem? (i := 11) (by decide))
theorem pc_33_12 {I : Nat → Int → Int} (D : ParD I) : I 33 12 = 6 := D (33, 12, 6) (List.mem_of_getElem? (i := 12) (by decide))
theorem pc_33_13 {I : Nat → Int → Int} (D : ParD I) : I 33 13 = 1312 := D (33, 13, 1312) (List.mem_of_getElem? (i := 13) (by decide))
theorem pc_33_14 {I : Nat → Int → Int} (D : ParD I) : I 33 14 = 2560 := D (33, 14, 2560) (List.mem_of_getElem? (i := 14) (by decide))
theorem pc_33_15 {I : Nat → Int → Int} (D : ParD I) : I 33 15 = 2420 := D (33, 15, 2420) (List.mem_of_getElem? (i := 15) (by decide))
theorem pc_34_0 {I : Nat → Int → Int} (D : ParD I) : I 34 0 = 6 := D (34, 0, 6) (List.mem_of_getElem? (i := 16) (by decide))
theorem pc_34_1 {I : Nat → Int → Int} (D : ParD I) : I 34 1 = 5 := D (34, 1, 5) (List.mem_of_getElem? (i := 17) (by decide))
theorem pc_34_2 {I : Nat → Int → Int} (D : ParD I) : I 34 2 = 4 := D (34, 2, 4) (List.mem_of_getElem? (i := 18) (by decide))
theorem pc_34_3 {I : Nat → Int → Int} (D : ParD I) : I 34 3 = 49 := D (34, 3, 49) (List.mem_of_getElem? (i := 19) (by decide))
theorem pc_34_4 {I : Nat → Int → Int} (D : ParD I) : I 34 4 = 524288 := D (34, 4, 524288) (List.mem_of_getElem? (i := 20) (by decide))
theorem pc_34_5 {I : Nat → Int → Int} (D : ParD I) : I 34 5 = 261888 := D (34, 5, 261888) (List.mem_of_getElem? (i := 21) (by decide))
theorem pc_34_6 {I : Nat → Int → Int} (D : ParD I) : I 34 6 = 55 := D (34, 6, 55) (List.mem_of_getElem? (i := 22) (by decide))
theorem pc_34_7 {I : Nat → Int → Int} (D : ParD I) : I 34 7 = 48 := D (34, 7, 48) (List.mem_of_getElem? (i := 23) (by decide))
theorem pc_34_8 {I : Nat → Int → Int} (D : ParD I) : I 34 8 = 16 := D (34, 8, 16) (List.mem_of_getElem? (i := 24) (by decide))
theorem pc_34_9 {I : Nat → Int → Int} (D : ParD I) : I 34 9 = 196 := D (34, 9, 196) (List.mem_of_getElem? (i := 25) (by decide))
theorem pc_34_10 {I : Nat → Int → Int} (D : ParD I) : I 34 10 = 4 := D (34, 10, 4) (List.mem_of_getElem? (i := 26) (by decide))
theorem pc_34_11 {I : Nat → Int → Int} (D : ParD I) : I 34 11 = 20 := D (34, 11, 20) (List.mem_of_getElem? (i := 27) (by decide))
theorem pc_34_12 {I : Nat → Int → Int} (D : ParD I) : I 34 12 = 4 := D (34, 12, 4) (List.mem_of_getElem? (i := 28) (by decide))
theorem pc_34_13 {I : Nat → Int → Int} (D : ParD I) : I 34 13 = 1952 := D (34, 13, 1952) (List.mem_of_getElem? (i := 29) (by decide))
theorem pc_34_14 {I : Nat → Int → Int} (D : ParD I) : I 34 14 = 4032 := D (34, 14, 4032) (List.mem_of_getElem? (i := 30) (by decide))
theorem pc_34_15 {I : Nat → Int → Int} (D : ParD I) : I 34 15 = 3309 := D (34, 15, 3309) (List.mem_of_getElem? (i := 31) (by decide))
theorem pc_35_0 {I : Nat → Int → Int} (D : ParD I) : I 35 0 = 8 := D (35, 0, 8) (List.mem_of_getElem? (i := 32) (by decide))
theorem pc_35_1 {I : Nat → Int → Int} (D : ParD I) : I 35 1 = 7 := D (35, 1, 7) (List.mem_of_getElem? (i := 33) (by decide))
theorem pc_35_2 {I : Nat → Int → Int} (D : ParD I) : I 35 2 = 2 := D (35, 2, 2) (List.mem_of_getElem? (i := 34) (by decide))
theorem pc_35_3 {I : Nat → Int → Int} (D : ParD I) : I 35 3 = 60 := D (35, 3, 60) (List.mem_of_getElem? (i := 35) (by decide))
theorem pc_35_4 {I : Nat → Int → Int} (D : ParD I) : I 35 4 = 524288 := D (35, 4, 524288) (List.mem_of_getElem? (i := 36) (by decide))
theorem pc_35_5 {I : Nat → Int → Int} (D : ParD I) : I 35 5 = 261888 := D (35, 5, 261888) (List.mem_of_getElem? (i := 37) (by decide))
theorem pc_35_6 {I : Nat → Int → Int} (D : ParD I) : I 35 6 = 75 := D (35, 6, 75) (List.mem_of_getElem? (i := 38) (by decide))
theorem pc_35_7 {I : Nat → Int → Int} (D : ParD I) : I 35 7 = 64 := D (35, 7, 64) (List.mem_of_getElem? (i := 39) (by decide))
theorem pc_35_8 {I : Nat → Int → Int} (D : ParD I) : I 35 8 = 16 := D (35, 8, 16) (List.mem_of_getElem? (i := 40) (by decide))
theorem pc_35_9 {I : Nat → Int → Int} (D : ParD I) : I 35 9 = 120 := D (35, 9, 120) (List.mem_of_getElem? (i := 41) (by decide))
theorem pc_35_10 {I : Nat → Int → Int} (D : ParD I) : I 35 10 = 3 := D (35, 10, 3) (List.mem_of_getElem? (i := 42) (by decide))
theorem pc_35_11 {I : Nat → Int → Int} (D : ParD I) : I 35 11 = 20 := D (35, 11, 20) (List.mem_of_getElem? (i := 43) (by decide))
theorem pc_35_12 {I : Nat → Int → Int} (D : ParD I) : I 35 12 = 4 := D (35, 12, 4) (List.mem_of_getElem? (i := 44) (by decide))
theorem pc_35_13 {I : Nat → Int → Int} (D : ParD I) : I 35 13 = 2592 := D (35, 13, 2592) (List.mem_of_getElem? (i := 45) (by decide))
theorem pc_35_14 {I : Nat → Int → Int} (D : ParD I) : I 35 14 = 4896 := D (35, 14, 4896) (List.mem_of_getElem? (i := 46) (by decide))
theorem pc_35_15 {I : Nat → Int → Int} (D : ParD I) : I 35 15 = 4627 := D (35, 15, 4627) (List.mem_of_getElem? (i := 47) (by decide))
def rtL : List Int := [1, 4808194, 3765607, 3761513, 5178923, 5496691, 5234739, 5178987, 7778734, 3542485, 2682288, 2129892, 3764867, 7375178, 557458, 7159240, 5010068, 4317364, 2663378, 6705802, 4855975, 7946292, 676590, 7044481, 5152541, 1714295, 2453983, 1460718, 7737789, 4795319, 2815639, 2283733, 3602218, 3182878, 2740543, 4793971, 5269599, 2101410, 3704823, 1159875, 394148, 928749, 1095468, 4874037, 2071829, 4361428, 3241972, 2156050, 3415069, 1759347, 7562881, 4805951, 3756790, 6444618, 6663429, 4430364, 5483103, 3192354, 556856, 3870317, 2917338, 1853806, 3345963, 1858416, 3073009, 1277625, 5744944, 3852015, 4183372, 5157610, 5258977, 8106357, 2508980, 2028118, 1937570, 4564692, 2811291, 5396636, 7270901, 4158088, 1528066, 482649, 1148858, 5418153, 7814814, 169688, 2462444, 5046034, 4213992, 4892034, 1987814, 5183169, 1736313, 235407, 5130263, 3258457, 5801164, 1787943, 5989328, 6125690, 3482206, 4197502, 7080401, 6018354, 7062739, 2461387, 3035980, 621164, 3901472, 7153756, 2925816, 3374250, 1356448, 5604662, 2683270, 5601629, 4912752, 2312838, 7727142, 7921254, 348812, 8052569, 1011223, 6026202, 4561790, 6458164, 6143691, 1744507, 1753, 6444997, 5720892, 6924527, 2660408, 6600190, 8321269, 2772600, 1182243, 87208, 636927, 4415111, 4423672, 6084020, 5095502, 4663471, 8352605, 822541, 1009365, 5926272, 6400920, 1596822, 4423473, 4620952, 6695264, 4969849, 2678278, 4611469, 4829411, 635956, 8129971, 5925040, 4234153, 6607829, 2192938, 6653329, 2387513, 4768667, 8111961, 5199961, 3747250, 2296099, 1239911, 4541938, 3195676, 2642980, 1254190, 8368000, 2998219, 141835, 8291116, 2513018, 7025525, 613238, 7070156, 6161950, 7921677, 6458423, 4040196, 4908348, 2039144, 6500539, 7561656, 6201452, 6757063, 2105286, 6006015, 6346610, 586241, 7200804, 527981, 5637006, 6903432, 1994046, 2491325, 6987258, 507927, 7192532, 7655613, 6545891, 5346675, 8041997, 2647994, 3009748, 5767564, 4148469, 749577, 4357667, 3980599, 2569011, 6764887, 1723229, 1665318, 2028038, 1163598, 5011144, 3994671, 8368538, 7009900, 3020393, 3363542, 214880, 545376, 7609976, 3105558, 7277073, 508145, 7826699, 860144, 3430436, 140244, 6866265, 6195333, 3123762, 2358373, 6187330, 5365997, 6663603, 2926054, 7987710, 8077412, 3531229, 4405932, 4606686, 1900052, 7598542, 1054478, 7648983]
def rt (j : Int) : Int := if 0 ≤ j ∧ j < 256 then rtL.getD j.toNat 0 else 0
theorem rt_in : inQ rt := fun j h0 h1 => by
  unfold rt
  rw [if_pos ⟨h0, h1⟩]
  exact (by decide +kernel : ∀ k : Nat, k < 256 → 0 ≤ rtL.getD k 0 ∧ rtL.getD k 0 < 8380417) j.toNat (by omega)
def Std (I L : Nat → Int → Int) : Prop := Sta I L ∧ ParD I ∧ I 43 = rt
theorem Std.of {I L I' L' : Nat → Int → Int} (h : Std I L) (hI : ∀ a j, (a < 12 ∨ 33 ≤ a ∧ a ≤ 35 ∨ a = 43) → I' a j = I a j) (hL : ∀ j, L' 8 j = L 8 j) : Std I' L' := ⟨h.1.of (fun k j hk => hI k j (Or.inl hk)) hL, fun q hq => (hI _ _ (Or.inr (Or.inl ((by decide : ∀ q ∈ tPl, 33 ≤ q.1 ∧ q.1 ≤ 35) q hq)))).trans (h.2.1 q hq), by rw [← h.2.2]; funext j; exact hI 43 j (Or.inr (Or.inr rfl))⟩
theorem Std.fc {p : Nat → Prop} {I L I' L' : Nat → Int → Int} (h : Std I L) (F : FC p I L I' L') (hp : ∀ a, (a < 12 ∨ 33 ≤ a ∧ a ≤ 35 ∨ a = 43) → ¬ p a) : Std I' L' := h.of (fun a j x => F.1 a j (hp a x)) (fun j => F.2 8 j (by decide) (by decide) (by decide))
theorem Std.R {I L : Nat → Int → Int} (h : Std I L) : inQ (I 43) := by rw [h.2.2]; exact rt_in
-- what lies out of 0 .. 255 doesn't matter
def eqQ (F G : Int → Int) : Prop := ∀ j, 0 ≤ j → j < 256 → F j = G j
theorem eqQ.inQ {F G : Int → Int} (h : eqQ F G) (q : inQ G) : inQ F := fun j a b => by rw [h j a b]; exact q j a b
theorem spl_eq {F G : Int → Int} {s d r : Int} (h : eqQ F G) (h0 : 0 ≤ s) (hd : 0 < d) (h1 : s + 2 * d ≤ 256) : eqQ (spl F s d r) (spl G s d r) := by
  intro j a b
  unfold spl
  by_cases c1 : s ≤ j ∧ j < s + d
  · rw [if_pos c1, if_pos c1, h j a b, h (j + d) (by omega) (by omega)]
  · rw [if_neg c1, if_neg c1]
    by_cases c2 : s + d ≤ j ∧ j < s + 2 * d
    · rw [if_pos c2, if_pos c2, h j a b, h (j - d) (by omega) (by omega)]
    · rw [if_neg c2, if_neg c2, h j a b]
theorem jn_eq {F G : Int → Int} {s d r : Int} (h : eqQ F G) (h0 : 0 ≤ s) (hd : 0 < d) (h1 : s + 2 * d ≤ 256) : eqQ (jn F s d r) (jn G s d r) := by
  intro j a b
  unfold jn
  by_cases c1 : s ≤ j ∧ j < s + d
  · rw [if_pos c1, if_pos c1, h j a b, h (j + d) (by omega) (by omega)]
  · rw [if_neg c1, if_neg c1]
    by_cases c2 : s + d ≤ j ∧ j < s + 2 * d
    · rw [if_pos c2, if_pos c2, h j a b, h (j - d) (by omega) (by omega)]
    · rw [if_neg c2, if_neg c2, h j a b]
theorem fwdB_eq {R F G : Int → Int} {d n0 : Int} (h : eqQ F G) (hd : 0 < d) : ∀ b : Nat, 2 * d * b ≤ 256 → eqQ (fwdB R F d n0 b) (fwdB R G d n0 b)
  | 0, _ => h
  | b + 1, hb => by
    have e : 2 * d * ((b + 1 : Nat) : Int) = 2 * d * b + 2 * d := by rw [Int.natCast_add, Int.mul_add]; omega
    exact spl_eq (fwdB_eq h hd b (by omega)) (Int.mul_nonneg (by omega) (by omega)) hd (by omega)
theorem bckB_eq {R F G : Int → Int} {d n0 : Int} (h : eqQ F G) (hd : 0 < d) : ∀ b : Nat, 2 * d * b ≤ 256 → eqQ (bckB R F d n0 b) (bckB R G d n0 b)
  | 0, _ => h
  | b + 1, hb => by
    have e : 2 * d * ((b + 1 : Nat) : Int) = 2 * d * b + 2 * d := by rw [Int.natCast_add, Int.mul_add]; omega
    exact jn_eq (bckB_eq h hd b (by omega)) (Int.mul_nonneg (by omega) (by omega)) hd (by omega)
theorem fwdL_eq {R F G : Int → Int} (h : eqQ F G) : ∀ n : Nat, n ≤ 8 → eqQ (fwdL R F n) (fwdL R G n)
  | 0, _ => h
  | n + 1, hn => by
    have l8 := lv8 (n := n) (by omega)
    exact fwdB_eq (fwdL_eq h n (by omega)) l8.2.1 _ (by rw [l8.1]; decide)
theorem bckL_eq {R F G : Int → Int} (h : eqQ F G) : ∀ n : Nat, n ≤ 8 → eqQ (bckL R F n) (bckL R G n)
  | 0, _ => h
  | n + 1, hn => by
    have l8 := lv8b (n := n) (by omega)
    exact bckB_eq (bckL_eq h n (by omega)) l8.2.1 _ (by rw [l8.1]; decide)
theorem fwd_eq {R F G : Int → Int} (h : eqQ F G) : eqQ (fwd R F) (fwd R G) := fwdL_eq h 8 (by decide)
theorem bck_eq {R F G : Int → Int} (h : eqQ F G) : eqQ (bck R F) (bck R G) := fun j a b => by rw [bck_at a b, bck_at a b, bckL_eq h 8 (by decide) j a b]
theorem fwd_in {R F : Int → Int} (h : inQ F) : inQ (fwd R F) := fwdL_in h 8
set_option maxHeartbeats 800000 in
set_option maxRecDepth 100000 in
theorem c_Sa_matrix0 {l : Launch} {G : a_G} {h : Hp} {I L : Nat → Int → Int} {b r : Nat} (S : Shp h) (hfl : l.flags = flags0) (rm : hX h + 1 ≤ a_NX ∧ hU h + 6 ≤ a_US) (SD : Std I L) (SB : ByO h b r) (hb : (b < 36 ∨ 101 ≤ b) ∧ (r < 36 ∨ 101 ≤ r)) (hc : I b 1 ≤ hN h r) : AW l G M_Sa_matrix (ThR h I L (∀ m, 0 ≤ m → m < 16 → (wide (fun x => byAt I b r (0 + x)) (m % 4) (m / 4)).2.1 = 256) (fun I' L' => FC (fun a => a = 38 ∨ 45 ≤ a ∧ a ≤ 100) I L I' L' ∧ ∀ m, 0 ≤ m → m < 16 → ∀ c, 0 ≤ c → c < 256 → I' (45 + m.toNat) c = (wide (fun x => byAt I b r (0 + x)) (m % 4) (m / 4)).2.2 c)) 0 (a_ar 0 [vr 37, vr b, vr 33, vr 44]) [] (sD h I L) := by
  suffices key : ∀ P : a_R → Hp → Prop, (∀ r_ h2_, ThR h I L (∀ m, 0 ≤ m → m < 16 → (wide (fun x => byAt I b r (0 + x)) (m % 4) (m / 4)).2.1 = 256) (fun I' L' => FC (fun a => a = 38 ∨ 45 ≤ a ∧ a ≤ 100) I L I' L' ∧ ∀ m, 0 ≤ m → m < 16 → ∀ c, 0 ≤ c → c < 256 → I' (45 + m.toNat) c = (wide (fun x => byAt I b r (0 + x)) (m % 4) (m / 4)).2.2 c) r_ h2_ → P r_ h2_) → AW l G M_Sa_matrix P 0 [(0, vr 37), (1, vr b), (2, vr 33), (3, vr 44)] [] (sD h I L) from key _ (fun _ _ q => q)
  intro P hP
  refine aw_iconst d_Sa_matrix_0 ⟨by decide, by decide⟩ ?_
  refine aw_istore (lv' := [(4, vi 0), (0, vr 37), (1, vr b), (2, vr 33), (3, vr 44)]) d_Sa_matrix_1 (by decide) rfl ?_
  have lp_3 : ∀ (n_ : Nat) (i : Int) (K : Nat → Int → Int) (M : Nat → Int → Int), (0 ≤ i ∧ i ≤ 4) → (FC (fun a => a = 38 ∨ 45 ≤ a ∧ a ≤ 100) I L K M) → (∀ m, 0 ≤ m → m < 4 * i → (wide (fun x => byAt I b r (0 + x)) (m % 4) (m / 4)).2.1 = 256 ∧ ∀ c, 0 ≤ c → c < 256 → K (45 + m.toNat) c = (wide (fun x => byAt I b r (0 + x)) (m % 4) (m / 4)).2.2 c) → ((4 - i).toNat) = n_ → AW l G M_Sa_matrix P 3 [(4, vi i), (3, vr 44), (2, vr 33), (1, vr b), (0, vr 37)] [] (sD h K M) := by
    intro n_
    induction n_ using Nat.strongRecOn with
    | _ n_ ih_3 =>
    intro i K M hi F gg hm_3
    refine aw_iload d_Sa_matrix_3 rfl ?_
    refine aw_aload_n d_Sa_matrix_5 rfl rfl ?_
    refine ax_getIe (x := 4) d_Sa_matrix_6 fd_Sa_18 (k_33 S) (Eq.trans (F.1 33 0 (by omega)) (pc_33_0 SD.2.1)) ?_
    refine aw_icmp_ge (tgt := 95) d_Sa_matrix_9 (by decide) (fun c_9 => ?_) (fun c_9 => ?_)
    · skip
      exact aw_vret d_Sa_matrix_95 rfl (hP _ _ (Or.inl ⟨fun m a b => (gg m a (by omega)).1, K, M, ⟨F, fun m a b c x y => (gg m a (by omega)).2 c x y⟩, rfl, rfl⟩))
    · skip
      refine aw_iconst d_Sa_matrix_12 ⟨by decide, by decide⟩ ?_
      refine aw_istore (lv' := [(5, vi 0), (4, vi i), (3, vr 44), (2, vr 33), (1, vr b), (0, vr 37)]) d_Sa_matrix_13 (by decide) rfl ?_
      have lp_15 : ∀ (n_ : Nat) (j : Int) (K : Nat → Int → Int) (M : Nat → Int → Int), (0 ≤ j ∧ j ≤ 4) → (FC (fun a => a = 38 ∨ 45 ≤ a ∧ a ≤ 100) I L K M) → (∀ m, 0 ≤ m → m < 4 * i + j → (wide (fun x => byAt I b r (0 + x)) (m % 4) (m / 4)).2.1 = 256 ∧ ∀ c, 0 ≤ c → c < 256 → K (45 + m.toNat) c = (wide (fun x => byAt I b r (0 + x)) (m % 4) (m / 4)).2.2 c) → ((4 - j).toNat) = n_ → AW l G M_Sa_matrix P 15 [(5, vi j), (4, vi i), (3, vr 44), (2, vr 33), (1, vr b), (0, vr 37)] [] (sD h K M) := by
        intro n_
        induction n_ using Nat.strongRecOn with
        | _ n_ ih_15 =>
        intro j K M hj F gg hm_15
        refine aw_iload d_Sa_matrix_15 rfl ?_
        refine aw_aload_n d_Sa_matrix_17 rfl rfl ?_
        refine ax_getIe (x := 4) d_Sa_matrix_18 fd_Sa_24 (k_33 S) (Eq.trans (F.1 33 1 (by omega)) (pc_33_1 SD.2.1)) ?_
        refine aw_icmp_ge (tgt := 89) d_Sa_matrix_21 (by decide) (fun c_21 => ?_) (fun c_21 => ?_)
        · skip
          refine ax_iinc (lv' := [(4, vi (i + 1)), (5, vi j), (3, vr 44), (2, vr 33), (1, vr b), (0, vr 37)]) d_Sa_matrix_89 rfl (by decide) ⟨(by omega), (by omega)⟩ rfl ?_
          refine aw_goto (tgt := 3) d_Sa_matrix_92 (by decide) ?_
          refine aw_sub (lv' := [(4, vi (i + 1)), (3, vr 44), (2, vr 33), (1, vr b), (0, vr 37)]) (by simp) ?_
          exact ih_3 _ (by omega) (i + 1) K M (by omega) (F) (fun m a b => gg m a (by omega)) rfl
        · skip
          refine aw_aload_n d_Sa_matrix_24 rfl rfl ?_
          refine ax_getR (b := 38) d_Sa_matrix_25 fd_Sa_12 (k_37 S) (r_37_0 S) ?_
          refine ax_Vr (st := []) (as := []) (b := 38) d_Sa_matrix_28 cs_Sa_matrix_28 (k_38 S) (c_Sp_start128 S) rfl rfl rfl (fun u_28 q_28 => ?_)
          obtain ⟨I1, L1⟩ := u_28
          obtain ⟨F1, e1⟩ := q_28
          dsimp only at F1 e1
          show AW l G M_Sa_matrix P 31 [(5, vi j), (4, vi i), (3, vr 44), (2, vr 33), (1, vr b), (0, vr 37)] [] (sD h I1 L1)
          refine aw_aload_n d_Sa_matrix_31 rfl rfl ?_
          refine ax_getR (b := 38) d_Sa_matrix_32 fd_Sa_12 (k_37 S) (r_37_0 S) ?_
          refine aw_aload_n d_Sa_matrix_35 rfl rfl ?_
          refine aw_iconst d_Sa_matrix_36 ⟨by decide, by decide⟩ ?_
          refine aw_bipush d_Sa_matrix_37 ⟨by decide, by decide⟩ (by decide) ?_
          refine ax_Vr (st := []) (as := [vr b, vi 0, vi 32]) (b := 38) d_Sa_matrix_39 cs_Sa_matrix_39 (k_38 S) (c_Sp_takePart S ((SD.fc F (by intro a x; omega)).1.sp F1) (by rw [e1]; exact (spStart_lt (by decide) (by decide)).1) SB ⟨by omega, by omega⟩ (by rw [F1.1 b 1 (by omega), F.1 b 1 (by omega)]; omega)) rfl rfl rfl (fun u_39 q_39 => ?_)
          obtain ⟨I2, L2⟩ := u_39
          obtain ⟨F2, e2⟩ := q_39
          dsimp only at F2 e2
          show AW l G M_Sa_matrix P 42 [(5, vi j), (4, vi i), (3, vr 44), (2, vr 33), (1, vr b), (0, vr 37)] [] (sD h I2 L2)
          refine aw_aload_n d_Sa_matrix_42 rfl rfl ?_
          refine ax_getR (b := 38) d_Sa_matrix_43 fd_Sa_12 (k_37 S) (r_37_0 S) ?_
          refine aw_iload d_Sa_matrix_46 rfl ?_
          refine ax_Vr (st := []) (as := [vi j]) (b := 38) d_Sa_matrix_48 cs_Sa_matrix_48 (k_38 S) (c_Sp_take S (((SD.fc F (by intro a x; omega)).1.sp F1).sp F2) (by rw [e2, e1]; exact spPart_ok (spStart_lt (by decide) (by decide)).1 _ _)) rfl rfl rfl (fun u_48 q_48 => ?_)
          obtain ⟨I3, L3⟩ := u_48
          obtain ⟨F3, e3⟩ := q_48
          dsimp only at F3 e3
          show AW l G M_Sa_matrix P 51 [(5, vi j), (4, vi i), (3, vr 44), (2, vr 33), (1, vr b), (0, vr 37)] [] (sD h I3 L3)
          refine aw_aload_n d_Sa_matrix_51 rfl rfl ?_
          refine ax_getR (b := 38) d_Sa_matrix_52 fd_Sa_12 (k_37 S) (r_37_0 S) ?_
          refine aw_iload d_Sa_matrix_55 rfl ?_
          refine ax_Vr (st := []) (as := [vi i]) (b := 38) d_Sa_matrix_57 cs_Sa_matrix_57 (k_38 S) (c_Sp_take S ((((SD.fc F (by intro a x; omega)).1.sp F1).sp F2).sp F3) (by rw [e3, e2, e1]; exact spTake_ok (spPart_ok (spStart_lt (by decide) (by decide)).1 _ _) _)) rfl rfl rfl (fun u_57 q_57 => ?_)
          obtain ⟨I4, L4⟩ := u_57
          obtain ⟨F4, e4⟩ := q_57
          dsimp only at F4 e4
          show AW l G M_Sa_matrix P 60 [(5, vi j), (4, vi i), (3, vr 44), (2, vr 33), (1, vr b), (0, vr 37)] [] (sD h I4 L4)
          refine aw_aload_n d_Sa_matrix_60 rfl rfl ?_
          refine ax_getR (b := 38) d_Sa_matrix_61 fd_Sa_12 (k_37 S) (r_37_0 S) ?_
          refine ax_Vr (st := []) (as := []) (b := 38) d_Sa_matrix_64 cs_Sa_matrix_64 (k_38 S) (c_Sp_turn S (((((SD.fc F (by intro a x; omega)).1.sp F1).sp F2).sp F3).sp F4) (by rw [e4, e3, e2, e1]; exact spTake_ok (spTake_ok (spPart_ok (spStart_lt (by decide) (by decide)).1 _ _) _) _)) rfl rfl rfl (fun u_64 q_64 => ?_)
          obtain ⟨I5, L5⟩ := u_64
          obtain ⟨F5, e5⟩ := q_64
          dsimp only at F5 e5
          show AW l G M_Sa_matrix P 67 [(5, vi j), (4, vi i), (3, vr 44), (2, vr 33), (1, vr b), (0, vr 37)] [] (sD h I5 L5)
          have F6k : ∀ a c, a ≠ 38 → I5 a c = K a c := ((((F1.tr F2).tr F3).tr F4).tr F5).1
          have F6 : FC (fun a => a = 38 ∨ 45 ≤ a ∧ a ≤ 100) I L I5 L5 := F.tr ((((F1.tr F2).tr F3).tr F4).tr F5).fc (fun a x => ⟨x, fun e => x (Or.inl e)⟩)
          have eS : spOf I5 L5 = wdS (fun x => byAt I b r (0 + x)) j i := by rw [e5, e4, e3, e2, e1, show (fun x => byAt I1 b r (0 + x)) = (fun x => byAt I b r (0 + x)) from funext (fun x => (byAt_sp F1.1 (by omega) (by omega)).trans (byAt_fc F (by omega) (by omega)))]; rfl
          refine aw_aload_n d_Sa_matrix_67 rfl rfl ?_
          refine aw_aload_n d_Sa_matrix_68 rfl rfl ?_
          refine aw_iload d_Sa_matrix_69 rfl ?_
          refine aw_aload_n d_Sa_matrix_71 rfl rfl ?_
          refine ax_getIe (x := 4) d_Sa_matrix_72 fd_Sa_24 (k_33 S) (Eq.trans (F5.1 33 1 (by decide)) (Eq.trans (F4.1 33 1 (by decide)) (Eq.trans (F3.1 33 1 (by decide)) (Eq.trans (F2.1 33 1 (by decide)) (Eq.trans (F1.1 33 1 (by decide)) (Eq.trans (F.1 33 1 (by omega)) (pc_33_1 SD.2.1))))))) ?_
          refine ax_imul d_Sa_matrix_75 ⟨(by omega), (by omega)⟩ ?_
          refine aw_iload d_Sa_matrix_76 rfl ?_
          refine ax_iadd d_Sa_matrix_78 ⟨(by omega), (by omega)⟩ ?_
          refine ax_aald (b := 45 + ((i * 4) + j).toNat) d_Sa_matrix_79 ⟨by rw [(k_44 S)]; decide, by rw [(k_44 S)]; decide⟩ (by omega) (by rw [n_44 S]; omega) (g_44 S (by omega) (by omega)) ?_
          refine ax_VtT (st := []) (as := [vr (45 + ((i * 4) + j).toNat)]) (b := 37) d_Sa_matrix_80 cs_Sa_matrix_80 (k_37 S) (c_Sa_sample S hfl rm (SD.fc F6 (by intro a x; omega)).1 (by rw [eS]; exact wdS_ok) ⟨kr_44 S (by omega), by omega, nr_44 S (by omega)⟩ (by omega)) rfl rfl rfl (fun ok_80 I_80 L_80 q_80 => ?_) (fun no_80 I_80 L_80 q_80 => at_leave rfl (hP _ _ (Or.inr ⟨fun z => no_80 (by rw [eS]; have y := z (4 * i + j) (by omega) (by omega); rw [show (4 * i + j) % 4 = j by omega, show (4 * i + j) / 4 = i by omega] at y; exact y), I_80, L_80, (F6.frc (by intro a x; omega)).tr q_80, rfl, rfl⟩)))
          have ok_80 : (wide (fun x => byAt I b r (0 + x)) j i).2.1 = 256 := by unfold wide; rw [← eS]; exact ok_80
          have q_80 := (show _ ∧ ∀ c, 0 ≤ c → c < 256 → I_80 (45 + (i * 4 + j).toNat) c = (wide (fun x => byAt I b r (0 + x)) j i).2.2 c from ⟨q_80.1, fun c x y => by unfold wide; rw [← eS]; exact q_80.2 c x y⟩)
          show AW l G M_Sa_matrix P 83 [(5, vi j), (4, vi i), (3, vr 44), (2, vr 33), (1, vr b), (0, vr 37)] [] (sD h I_80 L_80)
          refine ax_iinc (lv' := [(5, vi (j + 1)), (4, vi i), (3, vr 44), (2, vr 33), (1, vr b), (0, vr 37)]) d_Sa_matrix_83 rfl (by decide) ⟨(by omega), (by omega)⟩ rfl ?_
          refine aw_goto (tgt := 15) d_Sa_matrix_86 (by decide) ?_
          exact ih_15 _ (by omega) (j + 1) I_80 L_80 (by omega) ((F6.tr ⟨fun a c x => q_80.1.1 a c (fun e => x (Or.inl e)) (fun e => x (Or.inr (by omega))), q_80.1.2⟩ (fun a x => ⟨x, x⟩) : FC (fun a => a = 38 ∨ 45 ≤ a ∧ a ≤ 100) I L I_80 L_80)) (fun m a b => by by_cases z : m = 4 * i + j; exact (by rw [z, show (4 * i + j) % 4 = j by omega, show (4 * i + j) / 4 = i by omega]; exact ⟨ok_80, fun c x y => by rw [show (45 + (4 * i + j).toNat) = (45 + (i * 4 + j).toNat) by rw [Int.mul_comm]]; exact q_80.2 c x y⟩); exact ⟨(gg m a (by omega)).1, fun c x y => (q_80.1.1 _ c (by omega) (by omega)).trans ((F6k _ c (by omega)).trans ((gg m a (by omega)).2 c x y))⟩) rfl
      exact lp_15 _ 0 K M (by omega) (F) (fun m a b => gg m a (by omega)) rfl
  skip
  refine aw_sub (lv' := [(4, vi 0), (3, vr 44), (2, vr 33), (1, vr b), (0, vr 37)]) (by simp) ?_
  exact lp_3 _ 0 I L (by omega) (FC.rfl') (fun m a b => by omega) rfl
set_option maxHeartbeats 800000 in
set_option maxRecDepth 100000 in
theorem c_Sa_matrix1 {l : Launch} {G : a_G} {h : Hp} {I L : Nat → Int → Int} {b r : Nat} (S : Shp h) (hfl : l.flags = flags0) (rm : hX h + 1 ≤ a_NX ∧ hU h + 6 ≤ a_US) (SD : Std I L) (SB : ByO h b r) (hb : (b < 36 ∨ 101 ≤ b) ∧ (r < 36 ∨ 101 ≤ r)) (hc : I b 1 ≤ hN h r) : AW l G M_Sa_matrix (ThR h I L (∀ m, 0 ≤ m → m < 30 → (wide (fun x => byAt I b r (0 + x)) (m % 5) (m / 5)).2.1 = 256) (fun I' L' => FC (fun a => a = 38 ∨ 45 ≤ a ∧ a ≤ 100) I L I' L' ∧ ∀ m, 0 ≤ m → m < 30 → ∀ c, 0 ≤ c → c < 256 → I' (45 + m.toNat) c = (wide (fun x => byAt I b r (0 + x)) (m % 5) (m / 5)).2.2 c)) 0 (a_ar 0 [vr 37, vr b, vr 34, vr 44]) [] (sD h I L) := by
  suffices key : ∀ P : a_R → Hp → Prop, (∀ r_ h2_, ThR h I L (∀ m, 0 ≤ m → m < 30 → (wide (fun x => byAt I b r (0 + x)) (m % 5) (m / 5)).2.1 = 256) (fun I' L' => FC (fun a => a = 38 ∨ 45 ≤ a ∧ a ≤ 100) I L I' L' ∧ ∀ m, 0 ≤ m → m < 30 → ∀ c, 0 ≤ c → c < 256 → I' (45 + m.toNat) c = (wide (fun x => byAt I b r (0 + x)) (m % 5) (m / 5)).2.2 c) r_ h2_ → P r_ h2_) → AW l G M_Sa_matrix P 0 [(0, vr 37), (1, vr b), (2, vr 34), (3, vr 44)] [] (sD h I L) from key _ (fun _ _ q => q)
  intro P hP
  refine aw_iconst d_Sa_matrix_0 ⟨by decide, by decide⟩ ?_
  refine aw_istore (lv' := [(4, vi 0), (0, vr 37), (1, vr b), (2, vr 34), (3, vr 44)]) d_Sa_matrix_1 (by decide) rfl ?_
  have lp_3 : ∀ (n_ : Nat) (i : Int) (K : Nat → Int → Int) (M : Nat → Int → Int), (0 ≤ i ∧ i ≤ 6) → (FC (fun a => a = 38 ∨ 45 ≤ a ∧ a ≤ 100) I L K M) → (∀ m, 0 ≤ m → m < 5 * i → (wide (fun x => byAt I b r (0 + x)) (m % 5) (m / 5)).2.1 = 256 ∧ ∀ c, 0 ≤ c → c < 256 → K (45 + m.toNat) c = (wide (fun x => byAt I b r (0 + x)) (m % 5) (m / 5)).2.2 c) → ((6 - i).toNat) = n_ → AW l G M_Sa_matrix P 3 [(4, vi i), (3, vr 44), (2, vr 34), (1, vr b), (0, vr 37)] [] (sD h K M) := by
    intro n_
    induction n_ using Nat.strongRecOn with
    | _ n_ ih_3 =>
    intro i K M hi F gg hm_3
    refine aw_iload d_Sa_matrix_3 rfl ?_
    refine aw_aload_n d_Sa_matrix_5 rfl rfl ?_
    refine ax_getIe (x := 6) d_Sa_matrix_6 fd_Sa_18 (k_34 S) (Eq.trans (F.1 34 0 (by omega)) (pc_34_0 SD.2.1)) ?_
    refine aw_icmp_ge (tgt := 95) d_Sa_matrix_9 (by decide) (fun c_9 => ?_) (fun c_9 => ?_)
    · skip
      exact aw_vret d_Sa_matrix_95 rfl (hP _ _ (Or.inl ⟨fun m a b => (gg m a (by omega)).1, K, M, ⟨F, fun m a b c x y => (gg m a (by omega)).2 c x y⟩, rfl, rfl⟩))
    · skip
      refine aw_iconst d_Sa_matrix_12 ⟨by decide, by decide⟩ ?_
      refine aw_istore (lv' := [(5, vi 0), (4, vi i), (3, vr 44), (2, vr 34), (1, vr b), (0, vr 37)]) d_Sa_matrix_13 (by decide) rfl ?_
      have lp_15 : ∀ (n_ : Nat) (j : Int) (K : Nat → Int → Int) (M : Nat → Int → Int), (0 ≤ j ∧ j ≤ 5) → (FC (fun a => a = 38 ∨ 45 ≤ a ∧ a ≤ 100) I L K M) → (∀ m, 0 ≤ m → m < 5 * i + j → (wide (fun x => byAt I b r (0 + x)) (m % 5) (m / 5)).2.1 = 256 ∧ ∀ c, 0 ≤ c → c < 256 → K (45 + m.toNat) c = (wide (fun x => byAt I b r (0 + x)) (m % 5) (m / 5)).2.2 c) → ((5 - j).toNat) = n_ → AW l G M_Sa_matrix P 15 [(5, vi j), (4, vi i), (3, vr 44), (2, vr 34), (1, vr b), (0, vr 37)] [] (sD h K M) := by
        intro n_
        induction n_ using Nat.strongRecOn with
        | _ n_ ih_15 =>
        intro j K M hj F gg hm_15
        refine aw_iload d_Sa_matrix_15 rfl ?_
        refine aw_aload_n d_Sa_matrix_17 rfl rfl ?_
        refine ax_getIe (x := 5) d_Sa_matrix_18 fd_Sa_24 (k_34 S) (Eq.trans (F.1 34 1 (by omega)) (pc_34_1 SD.2.1)) ?_
        refine aw_icmp_ge (tgt := 89) d_Sa_matrix_21 (by decide) (fun c_21 => ?_) (fun c_21 => ?_)
        · skip
          refine ax_iinc (lv' := [(4, vi (i + 1)), (5, vi j), (3, vr 44), (2, vr 34), (1, vr b), (0, vr 37)]) d_Sa_matrix_89 rfl (by decide) ⟨(by omega), (by omega)⟩ rfl ?_
          refine aw_goto (tgt := 3) d_Sa_matrix_92 (by decide) ?_
          refine aw_sub (lv' := [(4, vi (i + 1)), (3, vr 44), (2, vr 34), (1, vr b), (0, vr 37)]) (by simp) ?_
          exact ih_3 _ (by omega) (i + 1) K M (by omega) (F) (fun m a b => gg m a (by omega)) rfl
        · skip
          refine aw_aload_n d_Sa_matrix_24 rfl rfl ?_
          refine ax_getR (b := 38) d_Sa_matrix_25 fd_Sa_12 (k_37 S) (r_37_0 S) ?_
          refine ax_Vr (st := []) (as := []) (b := 38) d_Sa_matrix_28 cs_Sa_matrix_28 (k_38 S) (c_Sp_start128 S) rfl rfl rfl (fun u_28 q_28 => ?_)
          obtain ⟨I1, L1⟩ := u_28
          obtain ⟨F1, e1⟩ := q_28
          dsimp only at F1 e1
          show AW l G M_Sa_matrix P 31 [(5, vi j), (4, vi i), (3, vr 44), (2, vr 34), (1, vr b), (0, vr 37)] [] (sD h I1 L1)
          refine aw_aload_n d_Sa_matrix_31 rfl rfl ?_
          refine ax_getR (b := 38) d_Sa_matrix_32 fd_Sa_12 (k_37 S) (r_37_0 S) ?_
          refine aw_aload_n d_Sa_matrix_35 rfl rfl ?_
          refine aw_iconst d_Sa_matrix_36 ⟨by decide, by decide⟩ ?_
          refine aw_bipush d_Sa_matrix_37 ⟨by decide, by decide⟩ (by decide) ?_
          refine ax_Vr (st := []) (as := [vr b, vi 0, vi 32]) (b := 38) d_Sa_matrix_39 cs_Sa_matrix_39 (k_38 S) (c_Sp_takePart S ((SD.fc F (by intro a x; omega)).1.sp F1) (by rw [e1]; exact (spStart_lt (by decide) (by decide)).1) SB ⟨by omega, by omega⟩ (by rw [F1.1 b 1 (by omega), F.1 b 1 (by omega)]; omega)) rfl rfl rfl (fun u_39 q_39 => ?_)
          obtain ⟨I2, L2⟩ := u_39
          obtain ⟨F2, e2⟩ := q_39
          dsimp only at F2 e2
          show AW l G M_Sa_matrix P 42 [(5, vi j), (4, vi i), (3, vr 44), (2, vr 34), (1, vr b), (0, vr 37)] [] (sD h I2 L2)
          refine aw_aload_n d_Sa_matrix_42 rfl rfl ?_
          refine ax_getR (b := 38) d_Sa_matrix_43 fd_Sa_12 (k_37 S) (r_37_0 S) ?_
          refine aw_iload d_Sa_matrix_46 rfl ?_
          refine ax_Vr (st := []) (as := [vi j]) (b := 38) d_Sa_matrix_48 cs_Sa_matrix_48 (k_38 S) (c_Sp_take S (((SD.fc F (by intro a x; omega)).1.sp F1).sp F2) (by rw [e2, e1]; exact spPart_ok (spStart_lt (by decide) (by decide)).1 _ _)) rfl rfl rfl (fun u_48 q_48 => ?_)
          obtain ⟨I3, L3⟩ := u_48
          obtain ⟨F3, e3⟩ := q_48
          dsimp only at F3 e3
          show AW l G M_Sa_matrix P 51 [(5, vi j), (4, vi i), (3, vr 44), (2, vr 34), (1, vr b), (0, vr 37)] [] (sD h I3 L3)
          refine aw_aload_n d_Sa_matrix_51 rfl rfl ?_
          refine ax_getR (b := 38) d_Sa_matrix_52 fd_Sa_12 (k_37 S) (r_37_0 S) ?_
          refine aw_iload d_Sa_matrix_55 rfl ?_
          refine ax_Vr (st := []) (as := [vi i]) (b := 38) d_Sa_matrix_57 cs_Sa_matrix_57 (k_38 S) (c_Sp_take S ((((SD.fc F (by intro a x; omega)).1.sp F1).sp F2).sp F3) (by rw [e3, e2, e1]; exact spTake_ok (spPart_ok (spStart_lt (by decide) (by decide)).1 _ _) _)) rfl rfl rfl (fun u_57 q_57 => ?_)
          obtain ⟨I4, L4⟩ := u_57
          obtain ⟨F4, e4⟩ := q_57
          dsimp only at F4 e4
          show AW l G M_Sa_matrix P 60 [(5, vi j), (4, vi i), (3, vr 44), (2, vr 34), (1, vr b), (0, vr 37)] [] (sD h I4 L4)
          refine aw_aload_n d_Sa_matrix_60 rfl rfl ?_
          refine ax_getR (b := 38) d_Sa_matrix_61 fd_Sa_12 (k_37 S) (r_37_0 S) ?_
          refine ax_Vr (st := []) (as := []) (b := 38) d_Sa_matrix_64 cs_Sa_matrix_64 (k_38 S) (c_Sp_turn S (((((SD.fc F (by intro a x; omega)).1.sp F1).sp F2).sp F3).sp F4) (by rw [e4, e3, e2, e1]; exact spTake_ok (spTake_ok (spPart_ok (spStart_lt (by decide) (by decide)).1 _ _) _) _)) rfl rfl rfl (fun u_64 q_64 => ?_)
          obtain ⟨I5, L5⟩ := u_64
          obtain ⟨F5, e5⟩ := q_64
          dsimp only at F5 e5
          show AW l G M_Sa_matrix P 67 [(5, vi j), (4, vi i), (3, vr 44), (2, vr 34), (1, vr b), (0, vr 37)] [] (sD h I5 L5)
          have F6k : ∀ a c, a ≠ 38 → I5 a c = K a c := ((((F1.tr F2).tr F3).tr F4).tr F5).1
          have F6 : FC (fun a => a = 38 ∨ 45 ≤ a ∧ a ≤ 100) I L I5 L5 := F.tr ((((F1.tr F2).tr F3).tr F4).tr F5).fc (fun a x => ⟨x, fun e => x (Or.inl e)⟩)
          have eS : spOf I5 L5 = wdS (fun x => byAt I b r (0 + x)) j i := by rw [e5, e4, e3, e2, e1, show (fun x => byAt I1 b r (0 + x)) = (fun x => byAt I b r (0 + x)) from funext (fun x => (byAt_sp F1.1 (by omega) (by omega)).trans (byAt_fc F (by omega) (by omega)))]; rfl
          refine aw_aload_n d_Sa_matrix_67 rfl rfl ?_
          refine aw_aload_n d_Sa_matrix_68 rfl rfl ?_
          refine aw_iload d_Sa_matrix_69 rfl ?_
          refine aw_aload_n d_Sa_matrix_71 rfl rfl ?_
          refine ax_getIe (x := 5) d_Sa_matrix_72 fd_Sa_24 (k_34 S) (Eq.trans (F5.1 34 1 (by decide)) (Eq.trans (F4.1 34 1 (by decide)) (Eq.trans (F3.1 34 1 (by decide)) (Eq.trans (F2.1 34 1 (by decide)) (Eq.trans (F1.1 34 1 (by decide)) (Eq.trans (F.1 34 1 (by omega)) (pc_34_1 SD.2.1))))))) ?_
          refine ax_imul d_Sa_matrix_75 ⟨(by omega), (by omega)⟩ ?_
          refine aw_iload d_Sa_matrix_76 rfl ?_
          refine ax_iadd d_Sa_matrix_78 ⟨(by omega), (by omega)⟩ ?_
          refine ax_aald (b := 45 + ((i * 5) + j).toNat) d_Sa_matrix_79 ⟨by rw [(k_44 S)]; decide, by rw [(k_44 S)]; decide⟩ (by omega) (by rw [n_44 S]; omega) (g_44 S (by omega) (by omega)) ?_
          refine ax_VtT (st := []) (as := [vr (45 + ((i * 5) + j).toNat)]) (b := 37) d_Sa_matrix_80 cs_Sa_matrix_80 (k_37 S) (c_Sa_sample S hfl rm (SD.fc F6 (by intro a x; omega)).1 (by rw [eS]; exact wdS_ok) ⟨kr_44 S (by omega), by omega, nr_44 S (by omega)⟩ (by omega)) rfl rfl rfl (fun ok_80 I_80 L_80 q_80 => ?_) (fun no_80 I_80 L_80 q_80 => at_leave rfl (hP _ _ (Or.inr ⟨fun z => no_80 (by rw [eS]; have y := z (5 * i + j) (by omega) (by omega); rw [show (5 * i + j) % 5 = j by omega, show (5 * i + j) / 5 = i by omega] at y; exact y), I_80, L_80, (F6.frc (by intro a x; omega)).tr q_80, rfl, rfl⟩)))
          have ok_80 : (wide (fun x => byAt I b r (0 + x)) j i).2.1 = 256 := by unfold wide; rw [← eS]; exact ok_80
          have q_80 := (show _ ∧ ∀ c, 0 ≤ c → c < 256 → I_80 (45 + (i * 5 + j).toNat) c = (wide (fun x => byAt I b r (0 + x)) j i).2.2 c from ⟨q_80.1, fun c x y => by unfold wide; rw [← eS]; exact q_80.2 c x y⟩)
          show AW l G M_Sa_matrix P 83 [(5, vi j), (4, vi i), (3, vr 44), (2, vr 34), (1, vr b), (0, vr 37)] [] (sD h I_80 L_80)
          refine ax_iinc (lv' := [(5, vi (j + 1)), (4, vi i), (3, vr 44), (2, vr 34), (1, vr b), (0, vr 37)]) d_Sa_matrix_83 rfl (by decide) ⟨(by omega), (by omega)⟩ rfl ?_
          refine aw_goto (tgt := 15) d_Sa_matrix_86 (by decide) ?_
          exact ih_15 _ (by omega) (j + 1) I_80 L_80 (by omega) ((F6.tr ⟨fun a c x => q_80.1.1 a c (fun e => x (Or.inl e)) (fun e => x (Or.inr (by omega))), q_80.1.2⟩ (fun a x => ⟨x, x⟩) : FC (fun a => a = 38 ∨ 45 ≤ a ∧ a ≤ 100) I L I_80 L_80)) (fun m a b => by by_cases z : m = 5 * i + j; exact (by rw [z, show (5 * i + j) % 5 = j by omega, show (5 * i + j) / 5 = i by omega]; exact ⟨ok_80, fun c x y => by rw [show (45 + (5 * i + j).toNat) = (45 + (i * 5 + j).toNat) by rw [Int.mul_comm]]; exact q_80.2 c x y⟩); exact ⟨(gg m a (by omega)).1, fun c x y => (q_80.1.1 _ c (by omega) (by omega)).trans ((F6k _ c (by omega)).trans ((gg m a (by omega)).2 c x y))⟩) rfl
      exact lp_15 _ 0 K M (by omega) (F) (fun m a b => gg m a (by omega)) rfl
  skip
  refine aw_sub (lv' := [(4, vi 0), (3, vr 44), (2, vr 34), (1, vr b), (0, vr 37)]) (by simp) ?_
  exact lp_3 _ 0 I L (by omega) (FC.rfl') (fun m a b => by omega) rfl
set_option maxHeartbeats 800000 in
set_option maxRecDepth 100000 in
theorem c_Sa_matrix2 {l : Launch} {G : a_G} {h : Hp} {I L : Nat → Int → Int} {b r : Nat} (S : Shp h) (hfl : l.flags = flags0) (rm : hX h + 1 ≤ a_NX ∧ hU h + 6 ≤ a_US) (SD : Std I L) (SB : ByO h b r) (hb : (b < 36 ∨ 101 ≤ b) ∧ (r < 36 ∨ 101 ≤ r)) (hc : I b 1 ≤ hN h r) : AW l G M_Sa_matrix (ThR h I L (∀ m, 0 ≤ m → m < 56 → (wide (fun x => byAt I b r (0 + x)) (m % 7) (m / 7)).2.1 = 256) (fun I' L' => FC (fun a => a = 38 ∨ 45 ≤ a ∧ a ≤ 100) I L I' L' ∧ ∀ m, 0 ≤ m → m < 56 → ∀ c, 0 ≤ c → c < 256 → I' (45 + m.toNat) c = (wide (fun x => byAt I b r (0 + x)) (m % 7) (m / 7)).2.2 c)) 0 (a_ar 0 [vr 37, vr b, vr 35, vr 44]) [] (sD h I L) := by
  suffices key : ∀ P : a_R → Hp → Prop, (∀ r_ h2_, ThR h I L (∀ m, 0 ≤ m → m < 56 → (wide (fun x => byAt I b r (0 + x)) (m % 7) (m / 7)).2.1 = 256) (fun I' L' => FC (fun a => a = 38 ∨ 45 ≤ a ∧ a ≤ 100) I L I' L' ∧ ∀ m, 0 ≤ m → m < 56 → ∀ c, 0 ≤ c → c < 256 → I' (45 + m.toNat) c = (wide (fun x => byAt I b r (0 + x)) (m % 7) (m / 7)).2.2 c) r_ h2_ → P r_ h2_) → AW l G M_Sa_matrix P 0 [(0, vr 37), (1, vr b), (2, vr 35), (3, vr 44)] [] (sD h I L) from key _ (fun _ _ q => q)
  intro P hP
  refine aw_iconst d_Sa_matrix_0 ⟨by decide, by decide⟩ ?_
  refine aw_istore (lv' := [(4, vi 0), (0, vr 37), (1, vr b), (2, vr 35), (3, vr 44)]) d_Sa_matrix_1 (by decide) rfl ?_
  have lp_3 : ∀ (n_ : Nat) (i : Int) (K : Nat → Int → Int) (M : Nat → Int → Int), (0 ≤ i ∧ i ≤ 8) → (FC (fun a => a = 38 ∨ 45 ≤ a ∧ a ≤ 100) I L K M) → (∀ m, 0 ≤ m → m < 7 * i → (wide (fun x => byAt I b r (0 + x)) (m % 7) (m / 7)).2.1 = 256 ∧ ∀ c, 0 ≤ c → c < 256 → K (45 + m.toNat) c = (wide (fun x => byAt I b r (0 + x)) (m % 7) (m / 7)).2.2 c) → ((8 - i).toNat) = n_ → AW l G M_Sa_matrix P 3 [(4, vi i), (3, vr 44), (2, vr 35), (1, vr b), (0, vr 37)] [] (sD h K M) := by
    intro n_
    induction n_ using Nat.strongRecOn with
    | _ n_ ih_3 =>
    intro i K M hi F gg hm_3
    refine aw_iload d_Sa_matrix_3 rfl ?_
    refine aw_aload_n d_Sa_matrix_5 rfl rfl ?_
    refine ax_getIe (x := 8) d_Sa_matrix_6 fd_Sa_18 (k_35 S) (Eq.trans (F.1 35 0 (by omega)) (pc_35_0 SD.2.1)) ?_
    refine aw_icmp_ge (tgt := 95) d_Sa_matrix_9 (by decide) (fun c_9 => ?_) (fun c_9 => ?_)
    · skip
      exact aw_vret d_Sa_matrix_95 rfl (hP _ _ (Or.inl ⟨fun m a b => (gg m a (by omega)).1, K, M, ⟨F, fun m a b c x y => (gg m a (by omega)).2 c x y⟩, rfl, rfl⟩))
    · skip
      refine aw_iconst d_Sa_matrix_12 ⟨by decide, by decide⟩ ?_
      refine aw_istore (lv' := [(5, vi 0), (4, vi i), (3, vr 44), (2, vr 35), (1, vr b), (0, vr 37)]) d_Sa_matrix_13 (by decide) rfl ?_
      have lp_15 : ∀ (n_ : Nat) (j : Int) (K : Nat → Int → Int) (M : Nat → Int → Int), (0 ≤ j ∧ j ≤ 7) → (FC (fun a => a = 38 ∨ 45 ≤ a ∧ a ≤ 100) I L K M) → (∀ m, 0 ≤ m → m < 7 * i + j → (wide (fun x => byAt I b r (0 + x)) (m % 7) (m / 7)).2.1 = 256 ∧ ∀ c, 0 ≤ c → c < 256 → K (45 + m.toNat) c = (wide (fun x => byAt I b r (0 + x)) (m % 7) (m / 7)).2.2 c) → ((7 - j).toNat) = n_ → AW l G M_Sa_matrix P 15 [(5, vi j), (4, vi i), (3, vr 44), (2, vr 35), (1, vr b), (0, vr 37)] [] (sD h K M) := by
        intro n_
        induction n_ using Nat.strongRecOn with
        | _ n_ ih_15 =>
        intro j K M hj F gg hm_15
        refine aw_iload d_Sa_matrix_15 rfl ?_
        refine aw_aload_n d_Sa_matrix_17 rfl rfl ?_
        refine ax_getIe (x := 7) d_Sa_matrix_18 fd_Sa_24 (k_35 S) (Eq.trans (F.1 35 1 (by omega)) (pc_35_1 SD.2.1)) ?_
        refine aw_icmp_ge (tgt := 89) d_Sa_matrix_21 (by decide) (fun c_21 => ?_) (fun c_21 => ?_)
        · skip
          refine ax_iinc (lv' := [(4, vi (i + 1)), (5, vi j), (3, vr 44), (2, vr 35), (1, vr b), (0, vr 37)]) d_Sa_matrix_89 rfl (by decide) ⟨(by omega), (by omega)⟩ rfl ?_
          refine aw_goto (tgt := 3) d_Sa_matrix_92 (by decide) ?_
          refine aw_sub (lv' := [(4, vi (i + 1)), (3, vr 44), (2, vr 35), (1, vr b), (0, vr 37)]) (by simp) ?_
          exact ih_3 _ (by omega) (i + 1) K M (by omega) (F) (fun m a b => gg m a (by omega)) rfl
        · skip
          refine aw_aload_n d_Sa_matrix_24 rfl rfl ?_
          refine ax_getR (b := 38) d_Sa_matrix_25 fd_Sa_12 (k_37 S) (r_37_0 S) ?_
          refine ax_Vr (st := []) (as := []) (b := 38) d_Sa_matrix_28 cs_Sa_matrix_28 (k_38 S) (c_Sp_start128 S) rfl rfl rfl (fun u_28 q_28 => ?_)
          obtain ⟨I1, L1⟩ := u_28
          obtain ⟨F1, e1⟩ := q_28
          dsimp only at F1 e1
          show AW l G M_Sa_matrix P 31 [(5, vi j), (4, vi i), (3, vr 44), (2, vr 35), (1, vr b), (0, vr 37)] [] (sD h I1 L1)
          refine aw_aload_n d_Sa_matrix_31 rfl rfl ?_
          refine ax_getR (b := 38) d_Sa_matrix_32 fd_Sa_12 (k_37 S) (r_37_0 S) ?_
          refine aw_aload_n d_Sa_matrix_35 rfl rfl ?_
          refine aw_iconst d_Sa_matrix_36 ⟨by decide, by decide⟩ ?_
          refine aw_bipush d_Sa_matrix_37 ⟨by decide, by decide⟩ (by decide) ?_
          refine ax_Vr (st := []) (as := [vr b, vi 0, vi 32]) (b := 38) d_Sa_matrix_39 cs_Sa_matrix_39 (k_38 S) (c_Sp_takePart S ((SD.fc F (by intro a x; omega)).1.sp F1) (by rw [e1]; exact (spStart_lt (by decide) (by decide)).1) SB ⟨by omega, by omega⟩ (by rw [F1.1 b 1 (by omega), F.1 b 1 (by omega)]; omega)) rfl rfl rfl (fun u_39 q_39 => ?_)
          obtain ⟨I2, L2⟩ := u_39
          obtain ⟨F2, e2⟩ := q_39
          dsimp only at F2 e2
          show AW l G M_Sa_matrix P 42 [(5, vi j), (4, vi i), (3, vr 44), (2, vr 35), (1, vr b), (0, vr 37)] [] (sD h I2 L2)
          refine aw_aload_n d_Sa_matrix_42 rfl rfl ?_
          refine ax_getR (b := 38) d_Sa_matrix_43 fd_Sa_12 (k_37 S) (r_37_0 S) ?_
          refine aw_iload d_Sa_matrix_46 rfl ?_
          refine ax_Vr (st := []) (as := [vi j]) (b := 38) d_Sa_matrix_48 cs_Sa_matrix_48 (k_38 S) (c_Sp_take S (((SD.fc F (by intro a x; omega)).1.sp F1).sp F2) (by rw [e2, e1]; exact spPart_ok (spStart_lt (by decide) (by decide)).1 _ _)) rfl rfl rfl (fun u_48 q_48 => ?_)
          obtain ⟨I3, L3⟩ := u_48
          obtain ⟨F3, e3⟩ := q_48
          dsimp only at F3 e3
          show AW l G M_Sa_matrix P 51 [(5, vi j), (4, vi i), (3, vr 44), (2, vr 35), (1, vr b), (0, vr 37)] [] (sD h I3 L3)
          refine aw_aload_n d_Sa_matrix_51 rfl rfl ?_
          refine ax_getR (b := 38) d_Sa_matrix_52 fd_Sa_12 (k_37 S) (r_37_0 S) ?_
          refine aw_iload d_Sa_matrix_55 rfl ?_
          refine ax_Vr (st := []) (as := [vi i]) (b := 38) d_Sa_matrix_57 cs_Sa_matrix_57 (k_38 S) (c_Sp_take S ((((SD.fc F (by intro a x; omega)).1.sp F1).sp F2).sp F3) (by rw [e3, e2, e1]; exact spTake_ok (spPart_ok (spStart_lt (by decide) (by decide)).1 _ _) _)) rfl rfl rfl (fun u_57 q_57 => ?_)
          obtain ⟨I4, L4⟩ := u_57
          obtain ⟨F4, e4⟩ := q_57
          dsimp only at F4 e4
          show AW l G M_Sa_matrix P 60 [(5, vi j), (4, vi i), (3, vr 44), (2, vr 35), (1, vr b), (0, vr 37)] [] (sD h I4 L4)
          refine aw_aload_n d_Sa_matrix_60 rfl rfl ?_
          refine ax_getR (b := 38) d_Sa_matrix_61 fd_Sa_12 (k_37 S) (r_37_0 S) ?_
          refine ax_Vr (st := []) (as := []) (b := 38) d_Sa_matrix_64 cs_Sa_matrix_64 (k_38 S) (c_Sp_turn S (((((SD.fc F (by intro a x; omega)).1.sp F1).sp F2).sp F3).sp F4) (by rw [e4, e3, e2, e1]; exact spTake_ok (spTake_ok (spPart_ok (spStart_lt (by decide) (by decide)).1 _ _) _) _)) rfl rfl rfl (fun u_64 q_64 => ?_)
          obtain ⟨I5, L5⟩ := u_64
          obtain ⟨F5, e5⟩ := q_64
          dsimp only at F5 e5
          show AW l G M_Sa_matrix P 67 [(5, vi j), (4, vi i), (3, vr 44), (2, vr 35), (1, vr b), (0, vr 37)] [] (sD h I5 L5)
          have F6k : ∀ a c, a ≠ 38 → I5 a c = K a c := ((((F1.tr F2).tr F3).tr F4).tr F5).1
          have F6 : FC (fun a => a = 38 ∨ 45 ≤ a ∧ a ≤ 100) I L I5 L5 := F.tr ((((F1.tr F2).tr F3).tr F4).tr F5).fc (fun a x => ⟨x, fun e => x (Or.inl e)⟩)
          have eS : spOf I5 L5 = wdS (fun x => byAt I b r (0 + x)) j i := by rw [e5, e4, e3, e2, e1, show (fun x => byAt I1 b r (0 + x)) = (fun x => byAt I b r (0 + x)) from funext (fun x => (byAt_sp F1.1 (by omega) (by omega)).trans (byAt_fc F (by omega) (by omega)))]; rfl
          refine aw_aload_n d_Sa_matrix_67 rfl rfl ?_
          refine aw_aload_n d_Sa_matrix_68 rfl rfl ?_
          refine aw_iload d_Sa_matrix_69 rfl ?_
          refine aw_aload_n d_Sa_matrix_71 rfl rfl ?_
          refine ax_getIe (x := 7) d_Sa_matrix_72 fd_Sa_24 (k_35 S) (Eq.trans (F5.1 35 1 (by decide)) (Eq.trans (F4.1 35 1 (by decide)) (Eq.trans (F3.1 35 1 (by decide)) (Eq.trans (F2.1 35 1 (by decide)) (Eq.trans (F1.1 35 1 (by decide)) (Eq.trans (F.1 35 1 (by omega)) (pc_35_1 SD.2.1))))))) ?_
          refine ax_imul d_Sa_matrix_75 ⟨(by omega), (by omega)⟩ ?_
          refine aw_iload d_Sa_matrix_76 rfl ?_
          refine ax_iadd d_Sa_matrix_78 ⟨(by omega), (by omega)⟩ ?_
          refine ax_aald (b := 45 + ((i * 7) + j).toNat) d_Sa_matrix_79 ⟨by rw [(k_44 S)]; decide, by rw [(k_44 S)]; decide⟩ (by omega) (by rw [n_44 S]; omega) (g_44 S (by omega) (by omega)) ?_
          refine ax_VtT (st := []) (as := [vr (45 + ((i * 7) + j).toNat)]) (b := 37) d_Sa_matrix_80 cs_Sa_matrix_80 (k_37 S) (c_Sa_sample S hfl rm (SD.fc F6 (by intro a x; omega)).1 (by rw [eS]; exact wdS_ok) ⟨kr_44 S (by omega), by omega, nr_44 S (by omega)⟩ (by omega)) rfl rfl rfl (fun ok_80 I_80 L_80 q_80 => ?_) (fun no_80 I_80 L_80 q_80 => at_leave rfl (hP _ _ (Or.inr ⟨fun z => no_80 (by rw [eS]; have y := z (7 * i + j) (by omega) (by omega); rw [show (7 * i + j) % 7 = j by omega, show (7 * i + j) / 7 = i by omega] at y; exact y), I_80, L_80, (F6.frc (by intro a x; omega)).tr q_80, rfl, rfl⟩)))
          have ok_80 : (wide (fun x => byAt I b r (0 + x)) j i).2.1 = 256 := by unfold wide; rw [← eS]; exact ok_80
          have q_80 := (show _ ∧ ∀ c, 0 ≤ c → c < 256 → I_80 (45 + (i * 7 + j).toNat) c = (wide (fun x => byAt I b r (0 + x)) j i).2.2 c from ⟨q_80.1, fun c x y => by unfold wide; rw [← eS]; exact q_80.2 c x y⟩)
          show AW l G M_Sa_matrix P 83 [(5, vi j), (4, vi i), (3, vr 44), (2, vr 35), (1, vr b), (0, vr 37)] [] (sD h I_80 L_80)
          refine ax_iinc (lv' := [(5, vi (j + 1)), (4, vi i), (3, vr 44), (2, vr 35), (1, vr b), (0, vr 37)]) d_Sa_matrix_83 rfl (by decide) ⟨(by omega), (by omega)⟩ rfl ?_
          refine aw_goto (tgt := 15) d_Sa_matrix_86 (by decide) ?_
          exact ih_15 _ (by omega) (j + 1) I_80 L_80 (by omega) ((F6.tr ⟨fun a c x => q_80.1.1 a c (fun e => x (Or.inl e)) (fun e => x (Or.inr (by omega))), q_80.1.2⟩ (fun a x => ⟨x, x⟩) : FC (fun a => a = 38 ∨ 45 ≤ a ∧ a ≤ 100) I L I_80 L_80)) (fun m a b => by by_cases z : m = 7 * i + j; exact (by rw [z, show (7 * i + j) % 7 = j by omega, show (7 * i + j) / 7 = i by omega]; exact ⟨ok_80, fun c x y => by rw [show (45 + (7 * i + j).toNat) = (45 + (i * 7 + j).toNat) by rw [Int.mul_comm]]; exact q_80.2 c x y⟩); exact ⟨(gg m a (by omega)).1, fun c x y => (q_80.1.1 _ c (by omega) (by omega)).trans ((F6k _ c (by omega)).trans ((gg m a (by omega)).2 c x y))⟩) rfl
      exact lp_15 _ 0 K M (by omega) (F) (fun m a b => gg m a (by omega)) rfl
  skip
  refine aw_sub (lv' := [(4, vi 0), (3, vr 44), (2, vr 35), (1, vr b), (0, vr 37)]) (by simp) ?_
  exact lp_3 _ 0 I L (by omega) (FC.rfl') (fun m a b => by omega) rfl
