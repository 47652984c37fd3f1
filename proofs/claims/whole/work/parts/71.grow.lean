/-! the heap while the constructors run -/
def tEv : List (Nat × Int × Nat) := [(12, 0, 13), (14, 0, 15), (13, 0, 14), (16, 0, 17), (13, 1, 16), (18, 0, 19), (13, 2, 18), (20, 0, 21), (13, 3, 20), (22, 0, 23), (13, 4, 22), (24, 0, 25), (13, 5, 24), (26, 0, 27), (13, 6, 26), (28, 0, 29), (13, 7, 28), (30, 0, 31), (12, 1, 30), (12, 2, 32), (32, 0, 33), (32, 1, 34), (32, 2, 35), (38, 0, 39), (38, 1, 40), (38, 2, 41), (37, 0, 38), (36, 0, 37), (36, 1, 38), (42, 0, 43), (36, 2, 42), (44, 0, 45), (44, 1, 46), (44, 2, 47), (44, 3, 48), (44, 4, 49), (44, 5, 50), (44, 6, 51), (44, 7, 52), (44, 8, 53), (44, 9, 54), (44, 10, 55), (44, 11, 56), (44, 12, 57), (44, 13, 58), (44, 14, 59), (44, 15, 60), (44, 16, 61), (44, 17, 62), (44, 18, 63), (44, 19, 64), (44, 20, 65), (44, 21, 66), (44, 22, 67), (44, 23, 68), (44, 24, 69), (44, 25, 70), (44, 26, 71), (44, 27, 72), (44, 28, 73), (44, 29, 74), (44, 30, 75), (44, 31, 76), (44, 32, 77), (44, 33, 78), (44, 34, 79), (44, 35, 80), (44, 36, 81), (44, 37, 82), (44, 38, 83), (44, 39, 84), (44, 40, 85), (44, 41, 86), (44, 42, 87), (44, 43, 88), (44, 44, 89), (44, 45, 90), (44, 46, 91), (44, 47, 92), (44, 48, 93), (44, 49, 94), (44, 50, 95), (44, 51, 96), (44, 52, 97), (44, 53, 98), (44, 54, 99), (44, 55, 100), (36, 3, 44), (101, 0, 102), (101, 1, 103), (101, 2, 104), (101, 3, 105), (101, 4, 106), (101, 5, 107), (101, 6, 108), (36, 4, 101), (109, 0, 110), (109, 1, 111), (109, 2, 112), (109, 3, 113), (109, 4, 114), (109, 5, 115), (109, 6, 116), (109, 7, 117), (36, 5, 109), (118, 0, 119), (118, 1, 120), (118, 2, 121), (118, 3, 122), (118, 4, 123), (118, 5, 124), (118, 6, 125), (36, 6, 118), (126, 0, 127), (126, 1, 128), (126, 2, 129), (126, 3, 130), (126, 4, 131), (126, 5, 132), (126, 6, 133), (126, 7, 134), (36, 7, 126), (36, 8, 135), (36, 9, 136), (137, 0, 138), (36, 10, 137), (139, 0, 140), (36, 11, 139), (141, 0, 142), (36, 12, 141), (144, 0, 145), (143, 1, 144), (143, 0, 36), (12, 3, 143), (147, 0, 148), (147, 1, 149), (147, 2, 150), (147, 3, 151), (147, 4, 152), (147, 5, 153), (147, 6, 154), (147, 7, 155), (146, 1, 147), (156, 0, 157), (156, 1, 158), (156, 2, 159), (156, 3, 160), (156, 4, 161), (156, 5, 162), (156, 6, 163), (146, 2, 156), (164, 0, 165), (146, 3, 164), (166, 0, 167), (146, 4, 166), (168, 0, 169), (146, 5, 168), (146, 0, 36), (12, 4, 146), (171, 0, 172), (170, 1, 171), (173, 0, 174), (170, 2, 173), (170, 0, 36), (12, 5, 170), (175, 0, 176), (177, 0, 178), (177, 1, 179), (177, 2, 180), (177, 3, 181), (177, 4, 182), (177, 5, 183), (177, 6, 184), (177, 7, 185), (175, 1, 177), (175, 2, 186), (175, 5, 187), (175, 6, 188), (175, 7, 189), (175, 8, 190), (175, 9, 191), (175, 10, 192), (175, 11, 193), (175, 12, 194), (175, 13, 195), (175, 14, 196), (175, 15, 197), (175, 16, 198), (175, 17, 199), (175, 22, 200), (175, 24, 201), (175, 25, 202), (175, 27, 203), (204, 0, 205), (204, 1, 206), (204, 2, 207), (204, 3, 208), (204, 4, 209), (204, 5, 210), (204, 6, 211), (204, 7, 212), (204, 8, 213), (204, 9, 214), (204, 10, 215), (204, 11, 216), (204, 12, 217), (204, 13, 218), (204, 14, 219), (204, 15, 220), (204, 16, 221), (204, 17, 222), (204, 18, 223), (204, 19, 224), (204, 20, 225), (204, 21, 226), (204, 22, 227), (204, 23, 228), (204, 24, 229), (204, 25, 230), (204, 26, 231), (204, 27, 232), (204, 28, 233), (204, 29, 234), (204, 30, 235), (204, 31, 236), (204, 32, 237), (204, 33, 238), (204, 34, 239), (204, 35, 240), (204, 36, 241), (204, 37, 242), (204, 38, 243), (204, 39, 244), (204, 40, 245), (204, 41, 246), (204, 42, 247), (204, 43, 248), (204, 44, 249), (204, 45, 250), (204, 46, 251), (204, 47, 252), (175, 28, 204), (253, 0, 254), (253, 1, 255), (253, 2, 256), (253, 3, 257), (253, 4, 258), (253, 5, 259), (253, 6, 260), (253, 7, 261), (175, 29, 253), (175, 30, 262), (175, 31, 263), (175, 40, 264), (175, 41, 265), (175, 42, 266), (175, 43, 267)]
def tF (a : Nat) (f : Int) : Nat := ((tEv.find? (fun q => q.1 == a && q.2.1 == f)).map (fun q => q.2.2)).getD 0
theorem tF_ok : ∀ q ∈ tEv, tF q.1 q.2.1 = q.2.2 := by decide +kernel
theorem tEv_in : ∀ q ∈ tRl, q ∈ tEv := by decide +kernel
def tU : Nat → Nat
  | 0 => 0
  | n + 1 => tU n + (if 12 ≤ n then tN n else 0)
theorem tU_s {n : Nat} (h : 12 ≤ n) : tU (n + 1) = tU n + tN n := by
  show tU n + (if 12 ≤ n then tN n else 0) = _
  rw [if_pos h]
theorem tU_269 : tU 269 = 216757 := by decide +kernel
theorem tU_mono (n : Nat) : ∀ d, tU n ≤ tU (n + d)
  | 0 => Nat.le_refl _
  | d + 1 => Nat.le_trans (tU_mono n d) (Nat.le_add_right _ _)
theorem tU_le {n : Nat} (h : n ≤ 269) : tU n ≤ 216757 := by
  have := tU_mono n (269 - n)
  rw [show n + (269 - n) = 269 by omega, tU_269] at this
  exact this
def Pt (N : Int) (n k s t : Nat) (h : Hp) : Prop := hX h = n ∧ hU h = tU n ∧ (12 ≤ n ∧ n ≤ 269) ∧ (∀ a, a < n → hK h a = tK a) ∧ (∀ a, a < n → a ≠ 11 → hN h a = (tN a : Nat)) ∧ hN h 11 = N ∧ (∀ i, i < k → ∀ q, tEv[i]? = some q → hR h q.1 q.2.1 = some q.2.2 ∧ q.1 < n) ∧ Sta (hI h) (hL h) ∧ (∀ a j, 12 ≤ a → a < n → ¬ (33 ≤ a ∧ a ≤ 35) → a ≠ 38 → a ≠ 43 → hI h a j = 0) ∧ (∀ a j, 12 ≤ a → a < n → hL h a j = 0) ∧ (∀ q ∈ tPl, q.1 < 33 + s → hI h q.1 q.2.1 = q.2.2) ∧ (s = 0 ∨ 33 + s ≤ n) ∧ (t = 1 → (∀ j, hI h 43 j = rt j) ∧ 43 < n)
theorem tPl_ge : ∀ q ∈ tPl, 33 ≤ q.1 := by decide +kernel
section PT
variable {N : Int} {n k s t : Nat} {h : Hp}
theorem Pt.x (E : Pt N n k s t h) : hX h = n := E.1
theorem Pt.u (E : Pt N n k s t h) : hU h = tU n := E.2.1
theorem Pt.n9 (E : Pt N n k s t h) : 12 ≤ n ∧ n ≤ 269 := E.2.2.1
theorem Pt.kk (E : Pt N n k s t h) : ∀ a, a < n → hK h a = tK a := E.2.2.2.1
theorem Pt.nn (E : Pt N n k s t h) : ∀ a, a < n → a ≠ 11 → hN h a = (tN a : Nat) := E.2.2.2.2.1
theorem Pt.n11 (E : Pt N n k s t h) : hN h 11 = N := E.2.2.2.2.2.1
theorem Pt.ev (E : Pt N n k s t h) : ∀ i, i < k → ∀ q, tEv[i]? = some q → hR h q.1 q.2.1 = some q.2.2 ∧ q.1 < n := E.2.2.2.2.2.2.1
theorem Pt.st (E : Pt N n k s t h) : Sta (hI h) (hL h) := E.2.2.2.2.2.2.2.1
theorem Pt.zI (E : Pt N n k s t h) : ∀ a j, 12 ≤ a → a < n → ¬ (33 ≤ a ∧ a ≤ 35) → a ≠ 38 → a ≠ 43 → hI h a j = 0 := E.2.2.2.2.2.2.2.2.1
theorem Pt.zL (E : Pt N n k s t h) : ∀ a j, 12 ≤ a → a < n → hL h a j = 0 := E.2.2.2.2.2.2.2.2.2.1
theorem Pt.pd (E : Pt N n k s t h) : ∀ q ∈ tPl, q.1 < 33 + s → hI h q.1 q.2.1 = q.2.2 := E.2.2.2.2.2.2.2.2.2.2.1
theorem Pt.ps (E : Pt N n k s t h) : s = 0 ∨ 33 + s ≤ n := E.2.2.2.2.2.2.2.2.2.2.2.1
theorem Pt.r43 (E : Pt N n k s t h) : t = 1 → (∀ j, hI h 43 j = rt j) ∧ 43 < n := E.2.2.2.2.2.2.2.2.2.2.2.2
theorem Pt.new {q m : Nat} (E : Pt N n k s t h) (hn : n < 269) (e1 : tK n = q) (e2 : tN n = m) : Pt N (n + 1) k s t (wN h q m) := by
  have x := E.x
  have n9 := E.n9
  refine ⟨?_, ?_, by omega, fun a ha => ?_, fun a ha h11 => ?_, ?_, fun i hi q_ hq => ?_, ⟨fun a j h1 h2 => ?_, fun j => ?_⟩, fun a j h1 h2 h3 h4 h5 => ?_, fun a j h1 h2 => ?_, fun q_ hq hs => ?_, ?_, fun ht => ⟨fun j => ?_, ?_⟩⟩
  · show hX h + 1 = n + 1
    omega
  · show hU h + m = tU (n + 1)
    rw [tU_s n9.1, E.u, e2]
  · show (if a = hX h then q else hK h a) = tK a
    by_cases c : a = n
    · rw [x, if_pos c, c, e1]
    · rw [x, if_neg c, E.kk a (by omega)]
  · show (if a = hX h then (m : Int) else hN h a) = (tN a : Nat)
    by_cases c : a = n
    · rw [x, if_pos c, c, e2]
    · rw [x, if_neg c, E.nn a (by omega) h11]
  · show (if 11 = hX h then (m : Int) else hN h 11) = N
    rw [if_neg (by omega), E.n11]
  · have z := E.ev i hi q_ hq
    refine ⟨?_, by omega⟩
    show (if q_.1 = hX h then none else hR h q_.1 q_.2.1) = _
    rw [if_neg (by omega), z.1]
  · show (if a = hX h then 0 else hI h a j) = _
    rw [if_neg (by omega)]
    exact E.st.1 a j h1 h2
  · show (if 8 = hX h then 0 else hL h 8 j) = _
    rw [if_neg (by omega)]
    exact E.st.2 j
  · show (if a = hX h then 0 else hI h a j) = _
    by_cases c : a = n
    · rw [x, if_pos c]
    · rw [x, if_neg c, E.zI a j h1 (by omega) h3 h4 h5]
  · show (if a = hX h then 0 else hL h a j) = _
    by_cases c : a = n
    · rw [x, if_pos c]
    · rw [x, if_neg c, E.zL a j h1 (by omega)]
  · show (if q_.1 = hX h then 0 else hI h q_.1 q_.2.1) = _
    have p := E.ps
    have g := tPl_ge q_ hq
    rw [if_neg (by omega)]
    exact E.pd q_ hq hs
  · have p := E.ps
    omega
  · show (if 43 = hX h then 0 else hI h 43 j) = _
    have z := E.r43 ht
    rw [if_neg (by omega)]
    exact z.1 j
  · have z := E.r43 ht
    omega
theorem Pt.mna {q r a w : Nat} (E : Pt N n k s t h) (hn : n + 1 + a ≤ 269) (e1 : tK n = q) (e2 : tN n = a) (e3 : ∀ i, i < a → tK (n + 1 + i) = r ∧ tN (n + 1 + i) = w) (e4 : ∀ i, i < a → tEv[k + i]? = some (n, (i : Int), n + 1 + i)) (e5 : tU (n + 1 + a) = tU n + a + a * w) : Pt N (n + 1 + a) (k + a) s t (wM h q r a w) := by
  have x := E.x
  have n9 := E.n9
  have e3' : ∀ b, n < b → b ≤ n + a → tK b = r ∧ tN b = w := fun b h1 h2 => by
    have z := e3 (b - n - 1) (by omega)
    rwa [show n + 1 + (b - n - 1) = b by omega] at z
  refine ⟨?_, ?_, by omega, fun b hb => ?_, fun b hb h11 => ?_, ?_, fun i hi q_ hq => ?_, ⟨fun b j h1 h2 => ?_, fun j => ?_⟩, fun b j h1 h2 h3 h4 h5 => ?_, fun b j h1 h2 => ?_, fun q_ hq hs => ?_, ?_, fun ht => ⟨fun j => ?_, ?_⟩⟩
  · show hX h + 1 + a = _
    omega
  · show hU h + a + a * w = _
    rw [E.u, e5]
  · show (if b = hX h then q else if hX h < b ∧ b ≤ hX h + a then r else hK h b) = _
    rw [x]
    by_cases c : b = n
    · rw [if_pos c, c, e1]
    · by_cases c2 : n < b ∧ b ≤ n + a
      · rw [if_neg c, if_pos c2, (e3' b c2.1 c2.2).1]
      · rw [if_neg c, if_neg c2, E.kk b (by omega)]
  · show (if b = hX h then (a : Int) else if hX h < b ∧ b ≤ hX h + a then (w : Int) else hN h b) = _
    rw [x]
    by_cases c : b = n
    · rw [if_pos c, c, e2]
    · by_cases c2 : n < b ∧ b ≤ n + a
      · rw [if_neg c, if_pos c2, (e3' b c2.1 c2.2).2]
      · rw [if_neg c, if_neg c2, E.nn b (by omega) h11]
  · show (if 11 = hX h then (a : Int) else if hX h < 11 ∧ 11 ≤ hX h + a then (w : Int) else hN h 11) = _
    rw [if_neg (by omega), if_neg (by omega), E.n11]
  · show (if q_.1 = hX h then (if 0 ≤ q_.2.1 ∧ q_.2.1 < (a : Int) then some (hX h + 1 + q_.2.1.toNat) else none) else if hX h < q_.1 ∧ q_.1 ≤ hX h + a then none else hR h q_.1 q_.2.1) = _ ∧ _
    by_cases c : i < k
    · have z := E.ev i c q_ hq
      refine ⟨?_, by omega⟩
      rw [if_neg (by omega), if_neg (by omega), z.1]
    · have z := e4 (i - k) (by omega)
      rw [show k + (i - k) = i by omega, hq] at z
      obtain rfl := Option.some.inj z
      refine ⟨?_, by show n < _; omega⟩
      rw [if_pos x.symm, if_pos (by show 0 ≤ ((i - k : Nat) : Int) ∧ ((i - k : Nat) : Int) < (a : Int); omega), x]
      rfl
  · show (if hX h ≤ b ∧ b ≤ hX h + a then 0 else hI h b j) = _
    rw [if_neg (by omega)]
    exact E.st.1 b j h1 h2
  · show (if hX h ≤ 8 ∧ 8 ≤ hX h + a then 0 else hL h 8 j) = _
    rw [if_neg (by omega)]
    exact E.st.2 j
  · show (if hX h ≤ b ∧ b ≤ hX h + a then 0 else hI h b j) = _
    by_cases c : hX h ≤ b ∧ b ≤ hX h + a
    · rw [if_pos c]
    · rw [if_neg c, E.zI b j h1 (by omega) h3 h4 h5]
  · show (if hX h ≤ b ∧ b ≤ hX h + a then 0 else hL h b j) = _
    by_cases c : hX h ≤ b ∧ b ≤ hX h + a
    · rw [if_pos c]
    · rw [if_neg c, E.zL b j h1 (by omega)]
  · show (if hX h ≤ q_.1 ∧ q_.1 ≤ hX h + a then 0 else hI h q_.1 q_.2.1) = _
    have p := E.ps
    have g := tPl_ge q_ hq
    rw [if_neg (by omega)]
    exact E.pd q_ hq hs
  · have p := E.ps
    omega
  · show (if hX h ≤ 43 ∧ 43 ≤ hX h + a then 0 else hI h 43 j) = _
    have z := E.r43 ht
    rw [if_neg (by omega)]
    exact z.1 j
  · have z := E.r43 ht
    omega
theorem Pt.putR {a b : Nat} {f : Int} (E : Pt N n k s t h) (he : tEv[k]? = some (a, f, b)) (ha : a < n) : Pt N n (k + 1) s t (wR h a f (some b)) := by
  refine ⟨E.x, E.u, E.n9, E.kk, E.nn, E.n11, fun i hi q_ hq => ?_, E.st, E.zI, E.zL, E.pd, E.ps, E.r43⟩
  show a_up (hR h) a f (some b) q_.1 q_.2.1 = _ ∧ _
  have m1 := tF_ok q_ (List.mem_of_getElem? hq)
  have m2 := tF_ok _ (List.mem_of_getElem? he)
  by_cases c : q_.1 = a ∧ q_.2.1 = f
  · rw [c.1, c.2] at m1 ⊢
    refine ⟨?_, ha⟩
    rw [a_up_at, ← m1]
    exact congrArg some m2.symm
  · have ci : i < k := by
      rcases Nat.lt_or_ge i k with z | z
      · exact z
      · exfalso
        rw [show i = k by omega, he] at hq
        exact c (by rw [← Option.some.inj hq]; exact ⟨rfl, rfl⟩)
    have z := E.ev i ci q_ hq
    refine ⟨?_, z.2⟩
    rw [a_up_ne (by by_cases c1 : q_.1 = a; exact Or.inr (fun c2 => c ⟨c1, c2⟩); exact Or.inl c1), z.1]
theorem Pt.putI {a : Nat} {f v : Int} (E : Pt N n k s t h) (hx : 33 + s ≤ a ∧ a ≤ 35 ∨ a = 38 ∨ a = 43 ∧ t = 0 ∨ 12 ≤ a ∧ v = 0 ∧ ¬ (33 ≤ a ∧ a ≤ 35) ∧ a ≠ 43) : Pt N n k s t (wI h a f v) := by
  have nE : ∀ b j, b ≠ a → a_up (hI h) a f v b j = hI h b j := fun b j c => a_up_ne (Or.inl c)
  refine ⟨E.x, E.u, E.n9, E.kk, E.nn, E.n11, E.ev, ⟨fun b j h1 h2 => (nE b j (by omega)).trans (E.st.1 b j h1 h2), E.st.2⟩, fun b j h1 h2 h3 h4 h5 => ?_, E.zL, fun q_ hq hs => ?_, E.ps, fun ht => ⟨fun j => ?_, (E.r43 ht).2⟩⟩
  · show a_up (hI h) a f v b j = 0
    by_cases c : b = a ∧ j = f
    · rw [c.1, c.2, a_up_at]
      omega
    · rw [a_up_ne (by by_cases c1 : b = a; exact Or.inr (fun c2 => c ⟨c1, c2⟩); exact Or.inl c1), E.zI b j h1 h2 h3 h4 h5]
  · show a_up (hI h) a f v q_.1 q_.2.1 = _
    have g := tPl_ge q_ hq
    rcases hx with z | z | z | z
    · rw [nE _ _ (by omega)]; exact E.pd q_ hq hs
    · have z2 : ∀ p ∈ tPl, p.1 ≤ 35 := by decide +kernel
      have z3 := z2 q_ hq
      rw [nE _ _ (by omega)]; exact E.pd q_ hq hs
    · have z2 : ∀ p ∈ tPl, p.1 ≤ 35 := by decide +kernel
      have z3 := z2 q_ hq
      rw [nE _ _ (by omega)]; exact E.pd q_ hq hs
    · have z2 : ∀ p ∈ tPl, p.1 ≤ 35 := by decide +kernel
      have z3 := z2 q_ hq
      rw [nE _ _ (by omega)]; exact E.pd q_ hq hs
  · show a_up (hI h) a f v 43 j = _
    rw [nE _ _ (by omega)]
    exact (E.r43 ht).1 j
theorem Pt.par {J : Nat → Int → Int} (E : Pt N n k s t h) (h1 : ∀ a j, a ≠ 33 + s → J a j = hI h a j) (h2 : ∀ q ∈ tPl, q.1 = 33 + s → J q.1 q.2.1 = q.2.2) (hs : s < 3) (hn : 33 + s < n) : Pt N n k (s + 1) t (sD h J (hL h)) := by
  refine ⟨E.x, E.u, E.n9, E.kk, E.nn, E.n11, E.ev, ⟨fun b j x y => (h1 b j (by omega)).trans (E.st.1 b j x y), E.st.2⟩, fun b j x1 x2 x3 x4 x5 => (h1 b j (by omega)).trans (E.zI b j x1 x2 x3 x4 x5), E.zL, fun q_ hq hz => ?_, Or.inr (by omega), fun ht => ⟨fun j => (h1 43 j (by omega)).trans ((E.r43 ht).1 j), (E.r43 ht).2⟩⟩
  by_cases c : q_.1 = 33 + s
  · exact h2 q_ hq c
  · exact (h1 _ _ c).trans (E.pd q_ hq (by omega))
theorem Pt.ring {J : Nat → Int → Int} (E : Pt N n k s 0 h) (h1 : ∀ a j, a ≠ 43 → J a j = hI h a j) (h2 : ∀ j, J 43 j = rt j) (hn : 43 < n) : Pt N n k s 1 (sD h J (hL h)) := by
  have z2 : ∀ p ∈ tPl, p.1 ≤ 35 := by decide +kernel
  exact ⟨E.x, E.u, E.n9, E.kk, E.nn, E.n11, E.ev, ⟨fun b j x y => (h1 b j (by omega)).trans (E.st.1 b j x y), E.st.2⟩, fun b j x1 x2 x3 x4 x5 => (h1 b j x5).trans (E.zI b j x1 x2 x3 x4 x5), E.zL, fun q_ hq hz => (h1 _ _ (by have := z2 q_ hq; omega)).trans (E.pd q_ hq hz), E.ps, fun _ => ⟨h2, hn⟩⟩
end PT
section PR
variable {l : Launch} {G : a_G} {M : a_M} {P : a_R → Hp → Prop} {pc : Nat} {lv : List (Nat × AV)} {st : List AV} {h : Hp} {N : Int} {n n' k k' s t : Nat}
theorem pt_new {i ci : Nat} (E : Pt N n k s t h) (en : n' = n + 1) (hd : decode (a_cc M) pc = .ok (.new i, 3)) (hc : ci < 11) (hw : Cond.classLink (a_ow M) i (a_cn ci) ∈ lw_tbl) (hn : n < 269) (e1 : tK n = 20 + ci) (e2 : tN n = a_F ci) (kk : ∀ h', Pt N n' k s t h' → AW l G M P (pc + 3) lv (vr n :: st) h') : AW l G M P pc lv st h := by
  subst en
  refine aw_new hd hc hw ?_ ?_ ?_
  · rw [E.x]; unfold a_NX; omega
  · rw [E.u, ← e2, ← tU_s E.n9.1]
    have := tU_le (n := n + 1) (by omega)
    unfold a_US; omega
  · rw [E.x]; exact kk _ (E.new hn e1 e2)
theorem pt_newa {atype : ArrayType} {q : Nat} {m : Int} (E : Pt N n k s t h) (en : n' = n + 1) (hd : decode (a_cc M) pc = .ok (.newarray atype, 2)) (hq : 1 ≤ q ∧ q ≤ 4) (ht : newarray.typeOf atype = a_ft q) (hw : Cond.arrayClass (a_ft q) ∈ lw_tbl) (h0 : 0 ≤ m) (hm : m ≤ 10000000) (hn : n < 269) (e1 : tK n = q) (e2 : tN n = m.toNat) (kk : ∀ h', Pt N n' k s t h' → AW l G M P (pc + 2) lv (vr n :: st) h') : AW l G M P pc lv (vi m :: st) h := by
  subst en
  refine aw_newa hd hq ht hw h0 hm ?_ ?_ ?_
  · rw [E.x]; unfold a_NX; omega
  · rw [E.u, ← e2, ← tU_s E.n9.1]
    have := tU_le (n := n + 1) (by omega)
    unfold a_US; omega
  · rw [E.x]; exact kk _ (E.new hn e1 e2)
theorem pt_anew {i q : Nat} {m : Int} (E : Pt N n k s t h) (en : n' = n + 1) (hd : decode (a_cc M) pc = .ok (.anewarray i, 3)) (C0 : String) (hq : q = 8 ∨ q = 9) (ht : a_ft q = .object C0) (hw : Cond.classLink (a_ow M) i C0 ∈ lw_tbl) (hw2 : Cond.arrayOver (.object C0) ∈ lw_tbl) (h0 : 0 ≤ m) (hm : m ≤ 10000000) (hn : n < 269) (e1 : tK n = q) (e2 : tN n = m.toNat) (kk : ∀ h', Pt N n' k s t h' → AW l G M P (pc + 3) lv (vr n :: st) h') : AW l G M P pc lv (vi m :: st) h := by
  subst en
  refine aw_anew hd C0 hq ht hw hw2 h0 hm ?_ ?_ ?_
  · rw [E.x]; unfold a_NX; omega
  · rw [E.u, ← e2, ← tU_s E.n9.1]
    have := tU_le (n := n + 1) (by omega)
    unfold a_US; omega
  · rw [E.x]; exact kk _ (E.new hn e1 e2)
theorem pt_mna {i q r : Nat} {a w : Int} (E : Pt N n k s t h) (en : n' = n + 1 + a.toNat) (ek : k' = k + a.toNat) (hd : decode (a_cc M) pc = .ok (.multianewarray i 2, 4)) (hqr : q = 5 ∧ r = 1 ∨ q = 6 ∧ r = 2 ∨ q = 7 ∧ r = 3) (hw1 : Cond.classLink (a_ow M) i ("[" ++ (FieldType.array (a_ft r)).toString) ∈ lw_tbl) (hw2 : Cond.arrayOver (.array (a_ft r)) ∈ lw_tbl) (hw3 : Cond.arrayClass (a_ft r) ∈ lw_tbl) (ha : 0 ≤ a ∧ a ≤ 100000) (hw : 0 ≤ w ∧ w ≤ 100000) (hn : n + 1 + a.toNat ≤ 269) (e1 : tK n = q) (e2 : tN n = a.toNat) (e3 : ∀ i, i < a.toNat → tK (n + 1 + i) = r ∧ tN (n + 1 + i) = w.toNat) (e4 : ∀ i, i < a.toNat → tEv[k + i]? = some (n, (i : Int), n + 1 + i)) (e5 : tU (n + 1 + a.toNat) = tU n + a.toNat + a.toNat * w.toNat) (kk : ∀ h', Pt N n' k' s t h' → AW l G M P (pc + 4) lv (vr n :: st) h') : AW l G M P pc lv (vi w :: vi a :: st) h := by
  subst en
  subst ek
  refine aw_mna hd hqr hw1 hw2 hw3 ha.1 ha.2 hw.1 hw.2 ?_ ?_ ?_
  · rw [E.x]; unfold a_NX; omega
  · rw [E.u, ← e5]
    have := tU_le (n := n + 1 + a.toNat) hn
    unfold a_US; omega
  · rw [E.x]; exact kk _ (E.mna hn e1 e2 e3 e4 e5)
theorem pt_putR {a b i ci f : Nat} (E : Pt N n k s t h) (ek : k' = k + 1) (hd : decode (a_cc M) pc = .ok (.putfield i, 3)) (F : a_Fd (a_ow M) i ci f 2) (hk : tK a = 20 + ci) (ha : 12 ≤ a ∧ a < n) (hf : (a_T ci f).2.2.2 = true) (hf2 : (a_T ci f).1 = a_ow M) (hf3 : (a_y M).name = "<init>") (he : tEv[k]? = some (a, (f : Int), b)) (kk : ∀ h', Pt N n k' s t h' → AW l G M P (pc + 3) lv st h') : AW l G M P pc lv (vr b :: vr a :: st) h := by
  subst ek
  exact aw_putRF hd F ((E.kk a ha.2).trans hk) ha.1 hf hf2 hf3 (kk _ (E.putR he ha.2))
theorem pt_putI {a i ci f : Nat} {v : Int} (E : Pt N n k s t h) (hd : decode (a_cc M) pc = .ok (.putfield i, 3)) (F : a_Fd (a_ow M) i ci f 0) (hk : tK a = 20 + ci) (ha : 12 ≤ a ∧ a < n) (hf : (a_T ci f).2.2.2 = false) (hx : 33 + s ≤ a ∧ a ≤ 35 ∨ a = 38 ∨ a = 43 ∧ t = 0 ∨ 12 ≤ a ∧ v = 0 ∧ ¬ (33 ≤ a ∧ a ≤ 35) ∧ a ≠ 43) (kk : ∀ h', Pt N n k s t h' → AW l G M P (pc + 3) lv st h') : AW l G M P pc lv (vi v :: vr a :: st) h :=
  aw_putI hd F ((E.kk a ha.2).trans hk) ha.1 hf (kk _ (E.putI hx))
theorem pt_getR {a b i ci f j : Nat} (E : Pt N n k s t h) (hd : decode (a_cc M) pc = .ok (.getfield i, 3)) (F : a_Fd (a_ow M) i ci f 2) (hk : tK a = 20 + ci) (ha : a < n) (hj : j < k) (he : tEv[j]? = some (a, (f : Int), b)) (kk : AW l G M P (pc + 3) lv (vr b :: st) h) : AW l G M P pc lv (vr a :: st) h :=
  aw_getR hd F ((E.kk a ha).trans hk) (E.ev j hj _ he).1 kk
theorem pt_aast {a b ci : Nat} {j : Int} (E : Pt N n k s t h) (ek : k' = k + 1) (hd : decode (a_cc M) pc = .ok (.aastore, 1)) (hk : tK a = 8 ∧ ci = 1 ∨ tK a = 9 ∧ ci = 2) (hkb : tK b = 20 + ci) (ha : 12 ≤ a ∧ a < n) (hb : b < n) (h0 : 0 ≤ j) (h1 : j < (tN a : Nat)) (he : tEv[k]? = some (a, j, b)) (kk : ∀ h', Pt N n k' s t h' → AW l G M P (pc + 1) lv st h') : AW l G M P pc lv (vr b :: vi j :: vr a :: st) h := by
  subst ek
  exact aw_aast hd (by rw [E.kk a ha.2]; exact hk) ((E.kk b hb).trans hkb) ha.1 h0 (by rw [E.nn a ha.2 (by omega)]; exact h1) (kk _ (E.putR he ha.2))
end PR
theorem ac_1 : Cond.arrayClass (a_ft 1) ∈ lw_tbl := List.mem_append_right _ (List.mem_of_getElem? (i := 217) (by decide +kernel))
theorem ac_2 : Cond.arrayClass (a_ft 2) ∈ lw_tbl := List.mem_append_right _ (List.mem_of_getElem? (i := 51) (by decide +kernel))
theorem ac_3 : Cond.arrayClass (a_ft 3) ∈ lw_tbl := List.mem_append_right _ (List.mem_of_getElem? (i := 1231) (by decide +kernel))
theorem ac_4 : Cond.arrayClass (a_ft 4) ∈ lw_tbl := List.mem_append_right _ (List.mem_of_getElem? (i := 196) (by decide +kernel))
theorem ao_1 : Cond.arrayOver (.array (a_ft 1)) ∈ lw_tbl := List.mem_append_right _ (List.mem_of_getElem? (i := 219) (by decide +kernel))
theorem ao_2 : Cond.arrayOver (.array (a_ft 2)) ∈ lw_tbl := List.mem_append_right _ (List.mem_of_getElem? (i := 1019) (by decide +kernel))
theorem ao_3 : Cond.arrayOver (.array (a_ft 3)) ∈ lw_tbl := List.mem_append_right _ (List.mem_of_getElem? (i := 1022) (by decide +kernel))
theorem ao_8 : Cond.arrayOver (.object "ModuleSigner$Bytes") ∈ lw_tbl := List.mem_append_right _ (List.mem_of_getElem? (i := 31) (by decide +kernel))
theorem ao_9 : Cond.arrayOver (.object "ModuleSigner$Parameters") ∈ lw_tbl := List.mem_append_right _ (List.mem_of_getElem? (i := 53) (by decide +kernel))
