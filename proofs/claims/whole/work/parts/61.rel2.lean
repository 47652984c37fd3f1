/-! the relation over dsaKeys, dsaSign, dsaVerify -/
theorem HB.raw {I : Nat → Int → Int} {b r : Nat} {n : Int} {g : Int → Int} (h : HB I b r n g) {k : Int} (h0 : 0 ≤ k) (h1 : k < n) : I r k % 256 = g k := by
  have z := h.2 k h0 h1
  unfold byAt at z
  rwa [h.1, if_pos ⟨h0, h1⟩] at z
theorem Slo.new {I2 : Nat → Int → Int} {u : Nat} {n : Int} {g : Int → Int} (h0 : 0 ≤ n ∧ n ≤ 8192) (h1 : I2 186 (u : Int) = n) (h2 : I2 (14 + 2 * u) 1 = n) (h3 : ∀ k, 0 ≤ k → k < n → I2 (15 + 2 * u) k % 256 = g k) (h4 : ∀ k, 0 ≤ k → k < n → I2 (178 + u) k % 256 = g k) (h5 : ∀ j, -128 ≤ I2 (178 + u) j ∧ I2 (178 + u) j ≤ 127) : Slo I2 u := by
  unfold Slo
  rw [h1]
  exact ⟨h0, h2, fun j x y => (h3 j x y).trans (h4 j x y).symm, h5⟩
theorem rng.b {X Y : Int → Int} (h : rng X Y) (hx : ∀ j, -128 ≤ X j ∧ X j ≤ 127) : ∀ j, -128 ≤ Y j ∧ Y j ≤ 127 := fun j => by
  rcases h j with e | e
  · rw [e]; exact hx j
  · exact e
theorem Slo.at {I : Nat → Int → Int} {s : Nat} (h : Slo I s) {x : Int} (h0 : 0 ≤ x) (h1 : x < I 186 s) : byAt I (14 + 2 * s) (15 + 2 * s) x = I (178 + s) x % 256 := by
  unfold byAt
  rw [h.2.1, if_pos ⟨h0, h1⟩]
  exact h.2.2.1 x h0 h1
theorem kgSd_congr {s : Int} {g g' : Int → Int} (h : ∀ k : Nat, k < 32 → g k % 256 = g' k % 256) : kgSd s g = kgSd s g' := by
  unfold kgSd ksS
  rw [spPart_congr h]
theorem kg_congr {s : Int} {g g' : Int → Int} (h : ∀ k : Nat, k < 32 → g k % 256 = g' k % 256) : kgOk s g = kgOk s g' ∧ kgPk s g = kgPk s g' ∧ kgSk s g = kgSk s g' := by
  have e := kgSd_congr (s := s) h
  have ea : kgA s g = kgA s g' := by unfold kgA; rw [e]
  have ey : kgY s g = kgY s g' := by unfold kgY; rw [e]
  have et : kgT s g = kgT s g' := by unfold kgT; rw [ea, ey]
  have ep : kgPk s g = kgPk s g' := by unfold kgPk; rw [e, et]
  refine ⟨by unfold kgOk; rw [e], ep, by unfold kgSk; rw [e, ep, ey, et]⟩
theorem cKeys_congr {s n : Int} {g g' : Int → Int} (h : n = 32 → ∀ k : Nat, k < 32 → g k % 256 = g' k % 256) : cKeys s n g = cKeys s n g' := by
  by_cases a : 0 ≤ s ∧ s < 3
  · by_cases b : n = 32
    · have e := (kg_congr (s := s) (h b)).1
      by_cases c : kgOk s g
      · rw [cKeys_0 a b c, cKeys_0 a b (by rw [← e]; exact c)]
      · rw [cKeys_3 a b c, cKeys_3 a b (by rw [← e]; exact c)]
    · rw [cKeys_2 a b, cKeys_2 a b]
  · rw [cKeys_1 a, cKeys_1 a]
/-- the reference's own cells stand as they were -/
def Ref0 (I I1 : Nat → Int → Int) : Prop := (∀ a j, 176 ≤ a → a ≤ 194 → I1 a j = I a j) ∧ I1 175 3 = I 175 3
theorem Rel.rb1 {I L I1 : Nat → Int → Int} (h : Rel I L) (e : Ref0 I I1) : RB I1 := ⟨fun s a b => by rw [e.1 186 s (by omega) (by omega)]; exact h.rb.1 s a b, by rw [e.2]; exact h.rb.2⟩
theorem Rel.rs1 {I L I1 L1 : Nat → Int → Int} (h : Rel I L) (e : Ref0 I I1) (hl : ∀ j, L1 194 j = L 194 j) : RSt I1 L1 := h.2.1.of (fun j => e.1 193 j (by omega) (by omega)) hl
theorem gW_e {I I1 : Nat → Int → Int} (e : Ref0 I I1) {s : Int} (hs : 0 ≤ s ∧ s < 8) : gW I1 s = gW I s := funext (fun x => by
  unfold gW
  rw [e.1 186 s (by omega) (by omega), e.1 (178 + s.toNat) x (by omega) (by omega)])
theorem keys_code {I L I1 : Nat → Int → Int} {s : Int} (h : Rel I L) (e : Ref0 I I1) : cKeys s (I1 186 0) (fun k => I1 178 (0 + k)) = cKeys s (I 14 1) (fun x => byAt I 14 15 (0 + x)) := by
  have S0 := h.2.2.1 0 (by decide)
  have n0 : I 14 1 = I 186 0 := S0.2.1
  rw [n0, e.1 186 0 (by omega) (by omega)]
  refine cKeys_congr (fun n k hk => ?_)
  rw [e.1 178 _ (by omega) (by omega)]
  have z := S0.at (x := 0 + (k : Int)) (by omega) (by have n : I 186 ((0 : Nat) : Int) = 32 := n; omega)
  have z : byAt I 14 15 (0 + (k : Int)) = I 178 (0 + (k : Int)) % 256 := z
  rw [z]
  omega
theorem sz_b (s : Int) : 0 ≤ 32 + 320 * pK s ∧ 32 + 320 * pK s ≤ 8192 ∧ 128 ≤ sSec s ∧ sSec s ≤ 8192 ∧ 0 ≤ sPkt s ∧ sPkt s ≤ 8192 := by
  unfold pK sSec sPkt
  (repeat' split) <;> omega
theorem rel_keys {I L I1 L1 I2 L2 : Nat → Int → Int} {s : Int} (h : Rel I L) (n0 : I 14 1 = 32) (F : FC (fun a => a = 16 ∨ a = 17 ∨ a = 18 ∨ a = 19 ∨ 36 ≤ a ∧ a ≤ 174 ∧ a ≠ 43) I L I1 L1) (P1 : HB I1 16 17 (32 + 320 * pK s) (kgPk s (fun x => byAt I 14 15 (0 + x)))) (P2 : HB I1 18 19 (sSec s) (kgSk s (fun x => byAt I 14 15 (0 + x)))) {x : Int} (R : fR0 (fun a => a = 179 ∨ a = 180 ∨ a = 186) I1 (a_up L1 268 0 x) I2 L2) (Q : ((∀ j, j ≠ 1 → j ≠ 2 → I2 186 j = I1 186 j) ∧ I2 186 1 = 32 + 320 * pK s ∧ I2 186 2 = sSec s) ∧ (HR I2 179 0 (32 + 320 * pK s) (kgPk s (fun k => I1 178 (0 + k))) ∧ rng (I1 179) (I2 179)) ∧ HR I2 180 0 (sSec s) (kgSk s (fun k => I1 178 (0 + k))) ∧ rng (I1 180) (I2 180)) : Rel I2 L2 := by
  have S0 := h.2.2.1 0 (by decide)
  have k0 : I 186 ((0 : Nat) : Int) = 32 := by rw [← S0.2.1]; exact n0
  have eg := kg_congr (s := s) (g := fun k => I1 178 (0 + k)) (g' := fun x => byAt I 14 15 (0 + x)) (fun k hk => by
    have z := S0.at (x := 0 + (k : Int)) (by omega) (by omega)
    have z : byAt I 14 15 (0 + (k : Int)) = I 178 (0 + (k : Int)) % 256 := z
    rw [z, F.1 178 _ (by omega)]
    omega)
  have sb := sz_b s
  have e1 : ∀ a j, (a < 16 ∨ 20 ≤ a ∧ a < 36 ∨ a = 43 ∨ 175 ≤ a) → I1 a j = I a j := fun a j y => F.1 a j (by omega)
  have e2 : ∀ a j, (a < 175 ∨ 176 ≤ a ∧ a ≤ 194) → a ≠ 179 → a ≠ 180 → a ≠ 186 → I2 a j = I1 a j := fun a j y p q r => R.1 a j (by omega) (by omega)
  obtain ⟨⟨l0, l1, l2⟩, ⟨h1, g1⟩, h2, g2⟩ := Q
  refine h.of (fun a j y => by rw [e2 a j (by omega) (by omega) (by omega) (by omega), e1 a j (by omega)]) (fun j => by rw [R.2.2 8 j (by omega), a_up_ne (Or.inl (by decide))]; exact F.2 8 j (by decide) (by decide) (by decide)) (fun j => by rw [R.2.2 194 j (by omega), a_up_ne (Or.inl (by decide))]; exact F.2 194 j (by decide) (by decide) (by decide)) (fun u hu => ?_) (h.2.2.2.keep (by rw [R.2.1, e1 175 3 (by omega)]) (fun j => by rw [e2 _ j (by omega) (by omega) (by omega) (by omega), e1 _ j (by omega)]) (fun j => by rw [e2 _ j (by omega) (by omega) (by omega) (by omega), e1 _ j (by omega)]) (fun j => by rw [e2 _ j (by omega) (by omega) (by omega) (by omega), e1 _ j (by omega)]))
  by_cases c1 : u = 1
  · subst c1
    refine Slo.new (n := 32 + 320 * pK s) (g := kgPk s (fun x => byAt I 14 15 (0 + x))) (by omega) l1 ((e2 16 1 (by omega) (by omega) (by omega) (by omega)).trans P1.1) (fun k x y => by rw [e2 17 k (by omega) (by omega) (by omega) (by omega)]; exact P1.raw x y) (fun k x y => ?_) (g1.b (fun j => by rw [e1 179 j (by omega)]; exact (h.2.2.1 1 (by decide)).2.2.2 j))
    have z := h1 k x y
    rw [Int.zero_add, eg.2.1] at z
    exact z
  · by_cases c2 : u = 2
    · subst c2
      refine Slo.new (n := sSec s) (g := kgSk s (fun x => byAt I 14 15 (0 + x))) (by omega) l2 ((e2 18 1 (by omega) (by omega) (by omega) (by omega)).trans P2.1) (fun k x y => by rw [e2 19 k (by omega) (by omega) (by omega) (by omega)]; exact P2.raw x y) (fun k x y => ?_) (g2.b (fun j => by rw [e1 180 j (by omega)]; exact (h.2.2.1 2 (by decide)).2.2.2 j))
      have z := h2 k x y
      rw [Int.zero_add, eg.2.2] at z
      exact z
    · exact (h.2.2.1 u hu).keep (by rw [l0 u (by omega) (by omega), e1 _ _ (by omega)]) (fun j => by rw [e2 _ j (by omega) (by omega) (by omega) (by omega), e1 _ j (by omega)]) (fun j => by rw [e2 _ j (by omega) (by omega) (by omega) (by omega), e1 _ j (by omega)]) (fun j => by rw [e2 _ j (by omega) (by omega) (by omega) (by omega), e1 _ j (by omega)])
theorem c4_congr {a b c d a' b' c' d' : Prop} (ha : a ↔ a') (hb : b ↔ b') (hc : c ↔ c') (hd : a → b → c → (d ↔ d')) : c4 a b c d = c4 a' b' c' d' := by
  by_cases xa : a
  · by_cases xb : b
    · by_cases xc : c
      · by_cases xd : d
        · rw [c4_0 xa xb xc xd, c4_0 (ha.1 xa) (hb.1 xb) (hc.1 xc) ((hd xa xb xc).1 xd)]
        · rw [c4_4 xa xb xc xd, c4_4 (ha.1 xa) (hb.1 xb) (hc.1 xc) (fun z => xd ((hd xa xb xc).2 z))]
      · rw [c4_3 xa xb xc, c4_3 (ha.1 xa) (hb.1 xb) (fun z => xc (hc.2 z))]
    · rw [c4_2 xa xb, c4_2 (ha.1 xa) (fun z => xb (hb.2 z))]
  · rw [c4_1 xa, c4_1 (fun z => xa (ha.2 z))]
theorem dgS_congr2 {gk gk' gc gc' gm gm' : Int → Int} {how nc nm : Int} (h : ∀ k : Nat, k < 64 → gk k % 256 = gk' k % 256) (h2 : ∀ k : Nat, (k : Int) < nc → gc k % 256 = gc' k % 256) (h3 : ∀ k : Nat, (k : Int) < nm → gm k % 256 = gm' k % 256) : dgS gk how gc nc gm nm = dgS gk' how gc' nc gm' nm := by
  unfold dgS
  rw [spPart_congr h, spPart_congr (f := gc) (g := gc') (fun k hk => h2 k (by omega)), spPart_congr (f := gm) (g := gm') (fun k hk => h3 k (by omega))]
theorem mu_e {I L I1 : Nat → Int → Int} {kh kh' : Int → Int} {how : Int} (h : Rel I L) (e : Ref0 I I1) (hk : ∀ k : Nat, k < 64 → kh k % 256 = kh' k % 256) : muC I kh how = muR I1 kh' how := by
  have S3 := h.2.2.1 3 (by decide)
  have S4 := h.2.2.1 4 (by decide)
  have n3 : I 20 1 = I 186 3 := S3.2.1
  have n4 : I 22 1 = I 186 4 := S4.2.1
  unfold muC muR
  rw [e.1 186 4 (by omega) (by omega), e.1 186 3 (by omega) (by omega), n3, n4, dgS_congr2 hk (gc' := fun k => I1 182 (0 + k)) (gm' := fun k => I1 181 (0 + k)) (fun k hk => by
    rw [e.1 182 _ (by omega) (by omega)]
    have z : byAt I 22 23 (0 + (k : Int)) = I 182 (0 + (k : Int)) % 256 := S4.at (by omega) (by have : I 186 ((4 : Nat) : Int) = I 186 4 := rfl; omega)
    rw [z]; omega) (fun k hk => by
    rw [e.1 181 _ (by omega) (by omega)]
    have z : byAt I 20 21 (0 + (k : Int)) = I 181 (0 + (k : Int)) % 256 := S3.at (by omega) (by have : I 186 ((3 : Nat) : Int) = I 186 3 := rfl; omega)
    rw [z]; omega)]
theorem sign_f {I L I1 : Nat → Int → Int} {how : Int} (h : Rel I L) (e : Ref0 I I1) (b0 : I 14 1 = 32 ∨ I 14 1 = 0) (b2 : 128 ≤ I 18 1) : byAt I 18 19 = rkR I1 ∧ muC I (fun k => byAt I 18 19 (64 + k)) how = muR I1 (fun k => I1 180 (64 + k)) how ∧ rhC I how = rhR I1 how := by
  have S0 := h.2.2.1 0 (by decide)
  have S2 := h.2.2.1 2 (by decide)
  have n0 : I 14 1 = I 186 0 := S0.2.1
  have n2 : I 18 1 = I 186 2 := S2.2.1
  have a2 : ∀ x, 0 ≤ x → x < 128 → byAt I 18 19 x = I 180 x % 256 := fun x x0 x1 => S2.at x0 (by have : I 186 ((2 : Nat) : Int) = I 186 2 := rfl; omega)
  have m : muC I (fun k => byAt I 18 19 (64 + k)) how = muR I1 (fun k => I1 180 (64 + k)) how := mu_e h e (fun k hk => by
    rw [e.1 180 _ (by omega) (by omega)]
    show byAt I 18 19 (64 + (k : Int)) % 256 = _
    rw [a2 _ (by omega) (by omega)]; omega)
  refine ⟨?_, m, ?_⟩
  · have z : byAt I 18 19 = gW I 2 := S2.by
    rw [z]
    exact (gW_e e (by omega)).symm
  · unfold rhC rhR
    rw [m]
    unfold rhS
    rw [spPart_congr (f := fun k => byAt I 18 19 (32 + k)) (g := fun k => I1 180 (32 + k)) (fun k hk => by
      rw [e.1 180 _ (by omega) (by omega)]
      show byAt I 18 19 (32 + (k : Int)) % 256 = _
      rw [a2 _ (by omega) (by omega)]; omega), spPart_congr (f := fun k => byAt I 14 15 (0 + k)) (g := rnR I1) (fun k hk => by
      unfold rnR
      rw [e.1 186 0 (by omega) (by omega), ← n0, e.1 178 _ (by omega) (by omega)]
      show byAt I 14 15 (0 + (k : Int)) % 256 = _
      by_cases c : I 14 1 = 0
      · rw [if_pos c]
        unfold byAt
        rw [if_neg (by omega)]
      · rw [if_neg c]
        have z : byAt I 14 15 (0 + (k : Int)) = I 178 (0 + (k : Int)) % 256 := S0.at (by omega) (by have : I 186 ((0 : Nat) : Int) = I 186 0 := rfl; omega)
        rw [z, Int.zero_add]; omega)]
theorem ver_f {I L I1 : Nat → Int → Int} {how : Int} (h : Rel I L) (e : Ref0 I I1) : byAt I 16 17 = rpR I1 ∧ byAt I 24 25 = rgR I1 ∧ muV I how = muW I1 how := by
  have S1 := h.2.2.1 1 (by decide)
  have S5 := h.2.2.1 5 (by decide)
  have n1 : I 16 1 = I 186 1 := S1.2.1
  refine ⟨?_, ?_, ?_⟩
  · have z : byAt I 16 17 = gW I 1 := S1.by
    rw [z]; exact (gW_e e (by omega)).symm
  · have z : byAt I 24 25 = gW I 5 := S5.by
    rw [z]; exact (gW_e e (by omega)).symm
  · unfold muV muW
    refine mu_e h e (fun k hk => ?_)
    rw [e.1 186 1 (by omega) (by omega), n1, blS_congr (g' := fun k => I1 179 (0 + k)) (fun k hk => by
      rw [e.1 179 _ (by omega) (by omega)]
      have z : byAt I 16 17 (0 + (k : Int)) = I 179 (0 + (k : Int)) % 256 := S1.at (by omega) (by have : I 186 ((1 : Nat) : Int) = I 186 1 := rfl; omega)
      rw [z]; omega)]
/-- one slot comes new on both sides -/
theorem rel_new {I L I1 L1 I2 L2 : Nat → Int → Int} (h : Rel I L) (u : Nat) (hu : u < 8) {n : Int} {g : Int → Int} (hn : 0 ≤ n ∧ n ≤ 8192) (F : ∀ a j, (a < 36 ∨ a = 43 ∨ 175 ≤ a) → a ≠ 14 + 2 * u → a ≠ 15 + 2 * u → I1 a j = I a j) (FL : ∀ a j, a ≠ 39 → a ≠ 40 → a ≠ 41 → L1 a j = L a j) (P1 : HB I1 (14 + 2 * u) (15 + 2 * u) n g) {x : Int} (R : fR0 (fun a => a = 178 + u ∨ a = 186) I1 (a_up L1 268 0 x) I2 L2) (Q0 : ∀ j : Int, j ≠ u → I2 186 j = I1 186 j) (Q1 : I2 186 u = n) (Q2 : ∀ k, 0 ≤ k → k < n → I2 (178 + u) k % 256 = g k) (Q3 : rng (I1 (178 + u)) (I2 (178 + u))) : Rel I2 L2 := by
  have e2 : ∀ a j, (a < 175 ∨ 176 ≤ a ∧ a ≤ 194) → a ≠ 178 + u → a ≠ 186 → I2 a j = I1 a j := fun a j y p q => R.1 a j (by omega) (by omega)
  refine h.one u (fun a j y p q r v => ?_) (by rw [R.2.1, F 175 3 (by omega) (by omega) (by omega)]) (fun j => by rw [R.2.2 8 j (by omega), a_up_ne (Or.inl (by decide))]; exact FL 8 j (by decide) (by decide) (by decide)) (fun j => by rw [R.2.2 194 j (by omega), a_up_ne (Or.inl (by decide))]; exact FL 194 j (by decide) (by decide) (by decide)) hu (Slo.new hn Q1 ((e2 _ 1 (by omega) (by omega) (by omega)).trans P1.1) (fun k x y => by rw [e2 _ k (by omega) (by omega) (by omega)]; exact P1.raw x y) Q2 (Q3.b (fun j => by rw [F _ j (by omega) (by omega) (by omega)]; exact (h.2.2.1 u hu).2.2.2 j)))
  by_cases c : a = 186
  · subst c
    rw [Q0 j (by omega), F 186 j (by omega) (by omega) (by omega)]
  · rw [e2 a j (by omega) r c, F a j (by omega) p q]
