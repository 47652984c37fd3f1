/-! the reference's sponge: the permutation -/
theorem lxor_0 {x : Int} (h : okL x) : a_lxor 0 x = x := by
  unfold a_lxor
  rw [show Int64.ofInt 0 = 0 from rfl, Int64.zero_xor, a_i64 h]
theorem kRot_0 {x : Int} (h : okL x) : kRot x 0 = x := by
  unfold kRot a_lshl a_lushr
  rw [show ((Int32.ofInt 0).toInt64 &&& 63) = 0 by decide, show ((Int32.ofInt (64 - 0)).toInt64.toUInt64 &&& Int64.toUInt64 63) = 0 by decide]
  simp only [Int64.shiftLeft_zero, UInt64.shiftRight_zero, Int64.toInt64_toUInt64]
  unfold a_lor
  rw [a_i64 h, Int64.or_self, a_i64 h]
theorem a_up_up {K : Nat → Int → Int} {c : Nat} {a v w : Int} : a_up (a_up K c a v) c a w = a_up K c a w := by
  funext b i
  unfold a_up
  split <;> rfl
theorem col_keep {K : Nat → Int → Int} {c : Nat} {a v0 v1 v2 v3 v4 j : Int} (h0 : 0 ≤ j) (h1 : j < 25) (h : j % 5 ≠ a % 5) : a_up (a_up (a_up (a_up (a_up K c (a + 0) v0) c (a + 5) v1) c (a + 10) v2) c (a + 15) v3) c (a + 20) v4 c j = K c j := by
  rw [a_up_ne (Or.inr (by omega)), a_up_ne (Or.inr (by omega)), a_up_ne (Or.inr (by omega)), a_up_ne (Or.inr (by omega)), a_up_ne (Or.inr (by omega))]
theorem col_in {K : Nat → Int → Int} {g : Int → Int} {c : Nat} {a v0 v1 v2 v3 v4 j : Int} (ha : 0 ≤ a) (ha5 : a < 5) (h0 : 0 ≤ j) (h1 : j < 25) (h : j % 5 = a) (e0 : v0 = g (a + 0)) (e1 : v1 = g (a + 5)) (e2 : v2 = g (a + 10)) (e3 : v3 = g (a + 15)) (e4 : v4 = g (a + 20)) : a_up (a_up (a_up (a_up (a_up K c (a + 0) v0) c (a + 5) v1) c (a + 10) v2) c (a + 15) v3) c (a + 20) v4 c j = g j := by
  by_cases q4 : j = a + 20
  · rw [q4, a_up_at, e4]
  · rw [a_up_ne (Or.inr q4)]
    by_cases q3 : j = a + 15
    · rw [q3, a_up_at, e3]
    · rw [a_up_ne (Or.inr q3)]
      by_cases q2 : j = a + 10
      · rw [q2, a_up_at, e2]
      · rw [a_up_ne (Or.inr q2)]
        by_cases q1 : j = a + 5
        · rw [q1, a_up_at, e1]
        · rw [a_up_ne (Or.inr q1), show j = a + 0 by omega, a_up_at, e0]
theorem col_step {K : Nat → Int → Int} {g : Int → Int} {c : Nat} {a v0 v1 v2 v3 v4 : Int} (ha : 0 ≤ a) (ha5 : a < 5) (h : ∀ j, 0 ≤ j → j < 25 → j % 5 < a → K c j = g j) (e0 : v0 = g (a + 0)) (e1 : v1 = g (a + 5)) (e2 : v2 = g (a + 10)) (e3 : v3 = g (a + 15)) (e4 : v4 = g (a + 20)) : ∀ j, 0 ≤ j → j < 25 → j % 5 < a + 1 → a_up (a_up (a_up (a_up (a_up K c (a + 0) v0) c (a + 5) v1) c (a + 10) v2) c (a + 15) v3) c (a + 20) v4 c j = g j := by
  intro j h0 h1 h2
  by_cases q : j % 5 = a
  · exact col_in ha ha5 h0 h1 q e0 e1 e2 e3 e4
  · rw [col_keep h0 h1 (by omega), h j h0 h1 (by omega)]
def kT (A : Int → Int) : Int → Int := fun j => a_lxor (A j) (kD A (j % 5))
theorem gl_eq {a b : Int} (h0 : 0 ≤ a) (h1 : a < 5) (h2 : 0 ≤ b) (h3 : b < 5) : b + 5 * ((2 * a + 3 * b) % 5) = a_sI 9 (a + 5 * b) := by
  have h : ∀ x : Nat, x < 5 → ∀ y : Nat, y < 5 → (y : Int) + 5 * ((2 * (x : Int) + 3 * (y : Int)) % 5) = a_sI 9 ((x : Int) + 5 * (y : Int)) := by decide +kernel
  have := h a.toNat (by omega) b.toNat (by omega)
  rwa [Int.toNat_of_nonneg h0, Int.toNat_of_nonneg h2] at this
theorem goal_col {K : Nat → Int → Int} {A : Int → Int} {a v0 v1 v2 v3 v4 p0 p1 p2 p3 p4 : Int} (ha : 0 ≤ a) (ha5 : a < 5) (h : ∀ k, 0 ≤ k → k < 25 → k % 5 < a → K 196 (a_sI 9 k) = kV A k) (e0 : v0 = kV A (a + 0)) (e1 : v1 = kV A (a + 5)) (e2 : v2 = kV A (a + 10)) (e3 : v3 = kV A (a + 15)) (e4 : v4 = kV A (a + 20)) (q0 : p0 = a_sI 9 (a + 0)) (q1 : p1 = a_sI 9 (a + 5)) (q2 : p2 = a_sI 9 (a + 10)) (q3 : p3 = a_sI 9 (a + 15)) (q4 : p4 = a_sI 9 (a + 20)) : ∀ k, 0 ≤ k → k < 25 → k % 5 < a + 1 → a_up (a_up (a_up (a_up (a_up K 196 p0 v0) 196 p1 v1) 196 p2 v2) 196 p3 v3) 196 p4 v4 196 (a_sI 9 k) = kV A k := by
  subst q0; subst q1; subst q2; subst q3; subst q4
  intro k h0 h1 h2
  by_cases z4 : k = a + 20
  · rw [z4, a_up_at, e4]
  · rw [a_up_ne (Or.inr (gl_ne h0 h1 (by omega) (by omega) z4))]
    by_cases z3 : k = a + 15
    · rw [z3, a_up_at, e3]
    · rw [a_up_ne (Or.inr (gl_ne h0 h1 (by omega) (by omega) z3))]
      by_cases z2 : k = a + 10
      · rw [z2, a_up_at, e2]
      · rw [a_up_ne (Or.inr (gl_ne h0 h1 (by omega) (by omega) z2))]
        by_cases z1 : k = a + 5
        · rw [z1, a_up_at, e1]
        · rw [a_up_ne (Or.inr (gl_ne h0 h1 (by omega) (by omega) z1))]
          by_cases z0 : k = a + 0
          · rw [z0, a_up_at, e0]
          · rw [a_up_ne (Or.inr (gl_ne h0 h1 (by omega) (by omega) z0)), h k h0 h1 (by omega)]
theorem kX_col (B : Int → Int) {a : Int} (c : Int) (h0 : 0 ≤ a) (h1 : a < 5) (hc : c % 5 = 0) : a_lxor (B (a + c)) (a_land (a_lxor (B ((a + 1) % 5 + c)) (-1)) (B ((a + 2) % 5 + c))) = kX B (a + c) := by
  unfold kX
  rw [show 5 * ((a + c) / 5) + (a + c + 1) % 5 = (a + 1) % 5 + c by omega, show 5 * ((a + c) / 5) + (a + c + 2) % 5 = (a + 2) % 5 + c by omega]
theorem round_endR {K K4 : Nat → Int → Int} {v rc : Int} (h : ∀ j, 0 ≤ j → j < 25 → K4 195 j = kX (kB (K 195)) j) (hv : v = a_lxor (kX (kB (K 195)) 0) rc) : cl (a_up K4 195 0 v 195) = kRound rc (cl (K 195)) := by
  rw [kRound_cl]
  unfold kRound
  refine cl_ext (fun j h0 h1 => ?_)
  by_cases q : j = 0
  · rw [q, a_up_at, if_pos rfl, hv]
  · rw [a_up_ne (Or.inr q), if_neg q, h j h0 h1]
def RSt (I L : Nat → Int → Int) : Prop := (∀ j, 0 ≤ j → j < 25 → I 193 j = a_sI 10 j) ∧ (∀ j, 0 ≤ j → j < 24 → L 194 j = a_sI 8 j)
set_option maxHeartbeats 800000 in
set_option maxRecDepth 100000 in
theorem c_Mo_left {l : Launch} {G : a_G} {h : Hp} {v n : Int} (hn : 0 ≤ n ∧ n < 64) : AW l G M_Mo_left (Rx (some (vl (kRot v n))) h) 0 (a_ar 0 [vl v, vi n]) [] (h) := by
  suffices key : ∀ P : a_R → Hp → Prop, (∀ u, u = kRot v n → P (.inl (some (vl u))) h) → AW l G M_Mo_left P 0 [(0, vl v), (2, vi n)] [] (h) from key _ (fun u e => ⟨by rw [e], rfl⟩)
  intro P hP
  refine aw_ok (fun _ okl _ _ _ => ?_)
  have hv : okL v := okl (0, vl v) (by simp)
  refine aw_iload_n d_Mo_left_0 rfl rfl ?_
  refine aw_if_ne (tgt := 8) d_Mo_left_1 (by decide) (fun c_1 => ?_) (fun c_1 => ?_)
  · skip
    refine aw_lload_n d_Mo_left_8 rfl rfl ?_
    refine aw_iload_n d_Mo_left_9 rfl rfl ?_
    refine aw_lshl d_Mo_left_10 ?_
    refine aw_lload_n d_Mo_left_11 rfl rfl ?_
    refine aw_bipush d_Mo_left_12 ⟨by decide, by decide⟩ (by decide) ?_
    refine aw_iload_n d_Mo_left_14 rfl rfl ?_
    refine ax_isub d_Mo_left_15 ⟨(by omega), (by omega)⟩ ?_
    refine aw_lushr d_Mo_left_16 ?_
    refine aw_lor d_Mo_left_17 ?_
    exact aw_lret d_Mo_left_18 rfl (hP _ rfl)
  · skip
    refine aw_lload_n d_Mo_left_4 rfl rfl ?_
    refine aw_goto (tgt := 18) d_Mo_left_5 (by decide) ?_
    exact aw_lret d_Mo_left_18 rfl (hP _ (by rw [show n = 0 by omega, kRot_0 hv]))
set_option maxHeartbeats 800000 in
set_option maxRecDepth 100000 in
theorem c_Mo_permute {l : Launch} {G : a_G} {h : Hp} {I L : Nat → Int → Int} (S : Shp h) (RS : RSt I L) : AW l G M_Mo_permute (Ret (fun _ : Nat → Int → Int => none) (fun K => sD h I K) (fun K => (∀ a j, a ≠ 195 → a ≠ 196 → a ≠ 197 → K a j = L a j) ∧ cl (K 195) = kPerm (cl (L 195)))) 0 (a_ar 0 [vr 175]) [] (sD h I L) := by
  suffices key : ∀ P : a_R → Hp → Prop, (∀ K : Nat → Int → Int, (∀ a j, a ≠ 195 → a ≠ 196 → a ≠ 197 → K a j = L a j) → cl (K 195) = kPerm (cl (L 195)) → P (.inl none) (sD h I K)) → AW l G M_Mo_permute P 0 [(0, vr 175)] [] (sD h I L) from key _ (fun K q1 q2 => ⟨K, rfl, rfl, q1, q2⟩)
  intro P hP
  refine aw_iconst d_Mo_permute_0 ⟨by decide, by decide⟩ ?_
  refine aw_istore_n (lv' := [(1, vi 0), (0, vr 175)]) d_Mo_permute_1 rfl (by decide) rfl ?_
  have lp_2 : ∀ (n_ : Nat) (n : Int) (K : Nat → Int → Int), (0 ≤ n ∧ n ≤ 24) → (∀ a j, a ≠ 195 → a ≠ 196 → a ≠ 197 → K a j = L a j) → (cl (K 195) = kIter (cl (L 195)) n.toNat) → ((24 - n).toNat) = n_ → AW l G M_Mo_permute P 2 [(1, vi n), (0, vr 175)] [] (sD h I K) := by
    intro n_
    induction n_ using Nat.strongRecOn with
    | _ n_ ih_2 =>
    intro n K hn fK gK hm_2
    refine aw_iload_n d_Mo_permute_2 rfl rfl ?_
    refine aw_bipush d_Mo_permute_3 ⟨by decide, by decide⟩ (by decide) ?_
    refine aw_icmp_ge (tgt := 292) d_Mo_permute_5 (by decide) (fun c_5 => ?_) (fun c_5 => ?_)
    · skip
      exact aw_vret d_Mo_permute_292 rfl (hP K fK (by rw [gK, show n = 24 by omega]; rfl))
    · skip
      refine aw_iconst d_Mo_permute_8 ⟨by decide, by decide⟩ ?_
      refine aw_istore_n (lv' := [(2, vi 0), (1, vi n), (0, vr 175)]) d_Mo_permute_9 rfl (by decide) rfl ?_
      have lp_10 : ∀ (n_ : Nat) (a : Int) (K1 : Nat → Int → Int), (0 ≤ a ∧ a ≤ 5) → (∀ b j, b ≠ 197 → K1 b j = K b j) → (∀ j, 0 ≤ j → j < a → K1 197 j = kC (K 195) j) → ((5 - a).toNat) = n_ → AW l G M_Mo_permute P 10 [(2, vi a), (1, vi n), (0, vr 175)] [] (sD h I K1) := by
        intro n_
        induction n_ using Nat.strongRecOn with
        | _ n_ ih_10 =>
        intro a K1 ha f1 g1 hm_10
        refine ax_ok (fun okk _ _ _ => ?_)
        refine aw_iload_n d_Mo_permute_10 rfl rfl ?_
        refine aw_iconst d_Mo_permute_11 ⟨by decide, by decide⟩ ?_
        refine aw_icmp_ge (tgt := 60) d_Mo_permute_12 (by decide) (fun c_12 => ?_) (fun c_12 => ?_)
        · skip
          refine aw_iconst d_Mo_permute_60 ⟨by decide, by decide⟩ ?_
          refine aw_istore_n (lv' := [(2, vi 0), (1, vi n), (0, vr 175)]) d_Mo_permute_61 rfl (by decide) rfl ?_
          have lp_62 : ∀ (n_ : Nat) (b : Int) (K2 : Nat → Int → Int), (0 ≤ b ∧ b ≤ 5) → (∀ c j, c ≠ 195 → K2 c j = K1 c j) → (∀ j, 0 ≤ j → j < 25 → j % 5 < b → K2 195 j = kT (K 195) j) → (∀ j, 0 ≤ j → j < 25 → b ≤ j % 5 → K2 195 j = K 195 j) → ((5 - b).toNat) = n_ → AW l G M_Mo_permute P 62 [(2, vi b), (1, vi n), (0, vr 175)] [] (sD h I K2) := by
            intro n_
            induction n_ using Nat.strongRecOn with
            | _ n_ ih_62 =>
            intro b K2 hb f2 g2 g2b hm_62
            refine aw_iload_n d_Mo_permute_62 rfl rfl ?_
            refine aw_iconst d_Mo_permute_63 ⟨by decide, by decide⟩ ?_
            refine aw_icmp_ge (tgt := 124) d_Mo_permute_64 (by decide) (fun c_64 => ?_) (fun c_64 => ?_)
            · skip
              have t2 : ∀ j, 0 ≤ j → j < 25 → K2 195 j = kT (K 195) j := fun j x y => g2 j x y (by omega)
              refine aw_iconst d_Mo_permute_124 ⟨by decide, by decide⟩ ?_
              refine aw_istore_n (lv' := [(2, vi 0), (1, vi n), (0, vr 175)]) d_Mo_permute_125 rfl (by decide) rfl ?_
              have lp_126 : ∀ (n_ : Nat) (c : Int) (K3 : Nat → Int → Int), (0 ≤ c ∧ c ≤ 5) → (∀ b j, b ≠ 196 → K3 b j = K2 b j) → (∀ k, 0 ≤ k → k < 25 → k % 5 < c → K3 196 (a_sI 9 k) = kV (K 195) k) → ((5 - c).toNat) = n_ → AW l G M_Mo_permute P 126 [(2, vi c), (1, vi n), (0, vr 175)] [] (sD h I K3) := by
                intro n_
                induction n_ using Nat.strongRecOn with
                | _ n_ ih_126 =>
                intro c K3 hc f3 g3 hm_126
                refine aw_iload_n d_Mo_permute_126 rfl rfl ?_
                refine aw_iconst d_Mo_permute_127 ⟨by decide, by decide⟩ ?_
                refine aw_icmp_ge (tgt := 191) d_Mo_permute_128 (by decide) (fun c_128 => ?_) (fun c_128 => ?_)
                · skip
                  have m3 : ∀ j, 0 ≤ j → j < 25 → K3 196 j = kB (K 195) j := fun j x y => by have z := ig_in x y; have z2 := g3 (ig j) z.1.1 z.1.2 (by omega); rw [z.2] at z2; exact z2
                  refine aw_iconst d_Mo_permute_191 ⟨by decide, by decide⟩ ?_
                  refine aw_istore_n (lv' := [(2, vi 0), (1, vi n), (0, vr 175)]) d_Mo_permute_192 rfl (by decide) rfl ?_
                  have lp_193 : ∀ (n_ : Nat) (d : Int) (K4 : Nat → Int → Int), (0 ≤ d ∧ d ≤ 5) → (∀ b j, b ≠ 195 → K4 b j = K3 b j) → (∀ j, 0 ≤ j → j < 25 → j % 5 < d → K4 195 j = kX (kB (K 195)) j) → ((5 - d).toNat) = n_ → AW l G M_Mo_permute P 193 [(2, vi d), (1, vi n), (0, vr 175)] [] (sD h I K4) := by
                    intro n_
                    induction n_ using Nat.strongRecOn with
                    | _ n_ ih_193 =>
                    intro d K4 hd f4 g4 hm_193
                    refine aw_iload_n d_Mo_permute_193 rfl rfl ?_
                    refine aw_iconst d_Mo_permute_194 ⟨by decide, by decide⟩ ?_
                    refine aw_icmp_ge (tgt := 271) d_Mo_permute_195 (by decide) (fun c_195 => ?_) (fun c_195 => ?_)
                    · skip
                      refine aw_aload_n d_Mo_permute_271 rfl rfl ?_
                      refine ax_getR (b := 195) d_Mo_permute_272 fd_Mo_47 (k_175 S) (r_175_13 S) ?_
                      refine aw_iconst d_Mo_permute_275 ⟨by decide, by decide⟩ ?_
                      refine aw_dup2 d_Mo_permute_276 rfl rfl ?_
                      refine ax_lalde (x := kX (kB (K 195)) 0) d_Mo_permute_277 (k_195 S) (by omega) (by rw [n_195 S]; omega) (g4 _ (by omega) (by omega) (by omega)) ?_
                      refine aw_aload_n d_Mo_permute_278 rfl rfl ?_
                      refine ax_getR (b := 194) d_Mo_permute_279 fd_Mo_44 (k_175 S) (r_175_12 S) ?_
                      refine aw_iload_n d_Mo_permute_282 rfl rfl ?_
                      refine ax_lalde (x := a_sI 8 n) d_Mo_permute_283 (k_194 S) (by omega) (by rw [n_194 S]; omega) (Eq.trans (f4 _ _ (by decide)) (Eq.trans (f3 _ _ (by decide)) (Eq.trans (f2 _ _ (by decide)) (Eq.trans (f1 _ _ (by decide)) ((fK _ _ (by decide) (by decide) (by decide)).trans (RS.2 _ (by omega) (by omega))))))) ?_
                      refine aw_lxor d_Mo_permute_284 ?_
                      refine ax_last d_Mo_permute_285 (k_195 S) (by decide) (by omega) (by rw [n_195 S]; omega) ?_
                      refine ax_iinc (lv' := [(1, vi (n + 1)), (2, vi d), (0, vr 175)]) d_Mo_permute_286 rfl (by decide) ⟨(by omega), (by omega)⟩ rfl ?_
                      refine aw_goto (tgt := 2) d_Mo_permute_289 (by decide) ?_
                      refine aw_sub (lv' := [(1, vi (n + 1)), (0, vr 175)]) (by simp) ?_
                      exact ih_2 _ (by omega) (n + 1) (a_up K4 195 0 (a_lxor (kX (kB (K 195)) 0) (a_sI 8 n))) (by omega) (fun a j a1 a2 a3 => (a_up_ne (Or.inl a1)).trans ((f4 _ _ a1).trans ((f3 _ _ a2).trans ((f2 _ _ a1).trans ((f1 _ _ a3).trans (fK _ _ a1 a2 a3)))))) (by rw [round_endR (rc := a_sI 8 n) (fun j a b => g4 j a b (by omega)) rfl, gK, show (n + 1).toNat = n.toNat + 1 by omega]; show _ = kRound (a_sI 8 (n.toNat : Int)) _; rw [Int.toNat_of_nonneg hn.1]) rfl
                    · skip
                      refine aw_iconst d_Mo_permute_198 ⟨by decide, by decide⟩ ?_
                      refine aw_istore_n (lv' := [(3, vi 0), (2, vi d), (1, vi n), (0, vr 175)]) d_Mo_permute_199 rfl (by decide) rfl ?_
                      refine aw_iload_n d_Mo_permute_200 rfl rfl ?_
                      refine aw_iconst d_Mo_permute_201 ⟨by decide, by decide⟩ ?_
                      refine aw_icmp_ge (tgt := 265) d_Mo_permute_202 (by decide) (fun c_202 => False.elim (by omega)) (fun c_202 => ?_)
                      refine aw_aload_n d_Mo_permute_205 rfl rfl ?_
                      refine ax_getR (b := 195) d_Mo_permute_206 fd_Mo_47 (k_175 S) (r_175_13 S) ?_
                      refine aw_iload_n d_Mo_permute_209 rfl rfl ?_
                      refine aw_iconst d_Mo_permute_210 ⟨by decide, by decide⟩ ?_
                      refine aw_iload_n d_Mo_permute_211 rfl rfl ?_
                      refine ax_imul d_Mo_permute_212 ⟨(by omega), (by omega)⟩ ?_
                      refine ax_ti (x := 0) (by decide) ?_
                      refine ax_iadd d_Mo_permute_213 ⟨(by omega), (by omega)⟩ ?_
                      refine aw_aload_n d_Mo_permute_214 rfl rfl ?_
                      refine ax_getR (b := 196) d_Mo_permute_215 fd_Mo_50 (k_175 S) (r_175_14 S) ?_
                      refine aw_iload_n d_Mo_permute_218 rfl rfl ?_
                      refine aw_iconst d_Mo_permute_219 ⟨by decide, by decide⟩ ?_
                      refine aw_iload_n d_Mo_permute_220 rfl rfl ?_
                      refine ax_imul d_Mo_permute_221 ⟨(by omega), (by omega)⟩ ?_
                      refine ax_ti (x := 0) (by decide) ?_
                      refine ax_iadd d_Mo_permute_222 ⟨(by omega), (by omega)⟩ ?_
                      refine ax_lalde (x := kB (K 195) (d + 0)) d_Mo_permute_223 (k_196 S) (by omega) (by rw [n_196 S]; omega) (Eq.trans (f4 _ _ (by decide)) (m3 _ (by omega) (by omega))) ?_
                      refine aw_aload_n d_Mo_permute_224 rfl rfl ?_
                      refine ax_getR (b := 196) d_Mo_permute_225 fd_Mo_50 (k_175 S) (r_175_14 S) ?_
                      refine aw_iload_n d_Mo_permute_228 rfl rfl ?_
                      refine aw_iconst d_Mo_permute_229 ⟨by decide, by decide⟩ ?_
                      refine ax_iadd d_Mo_permute_230 ⟨(by omega), (by omega)⟩ ?_
                      refine aw_iconst d_Mo_permute_231 ⟨by decide, by decide⟩ ?_
                      refine ax_irem d_Mo_permute_232 (by omega) (by omega) ?_
                      refine aw_iconst d_Mo_permute_233 ⟨by decide, by decide⟩ ?_
                      refine aw_iload_n d_Mo_permute_234 rfl rfl ?_
                      refine ax_imul d_Mo_permute_235 ⟨(by omega), (by omega)⟩ ?_
                      refine ax_ti (x := 0) (by decide) ?_
                      refine ax_iadd d_Mo_permute_236 ⟨(by omega), (by omega)⟩ ?_
                      refine ax_lalde (x := kB (K 195) (((d + 1) % 5) + 0)) d_Mo_permute_237 (k_196 S) (by omega) (by rw [n_196 S]; omega) (Eq.trans (f4 _ _ (by decide)) (m3 _ (by omega) (by omega))) ?_
                      refine aw_ldc2 (n := -1) d_Mo_permute_238 lc_Mo_201 ⟨by decide, by decide⟩ ?_
                      refine aw_lxor d_Mo_permute_241 ?_
                      refine aw_aload_n d_Mo_permute_242 rfl rfl ?_
                      refine ax_getR (b := 196) d_Mo_permute_243 fd_Mo_50 (k_175 S) (r_175_14 S) ?_
                      refine aw_iload_n d_Mo_permute_246 rfl rfl ?_
                      refine aw_iconst d_Mo_permute_247 ⟨by decide, by decide⟩ ?_
                      refine ax_iadd d_Mo_permute_248 ⟨(by omega), (by omega)⟩ ?_
                      refine aw_iconst d_Mo_permute_249 ⟨by decide, by decide⟩ ?_
                      refine ax_irem d_Mo_permute_250 (by omega) (by omega) ?_
                      refine aw_iconst d_Mo_permute_251 ⟨by decide, by decide⟩ ?_
                      refine aw_iload_n d_Mo_permute_252 rfl rfl ?_
                      refine ax_imul d_Mo_permute_253 ⟨(by omega), (by omega)⟩ ?_
                      refine ax_ti (x := 0) (by decide) ?_
                      refine ax_iadd d_Mo_permute_254 ⟨(by omega), (by omega)⟩ ?_
                      refine ax_lalde (x := kB (K 195) (((d + 2) % 5) + 0)) d_Mo_permute_255 (k_196 S) (by omega) (by rw [n_196 S]; omega) (Eq.trans (f4 _ _ (by decide)) (m3 _ (by omega) (by omega))) ?_
                      refine aw_land d_Mo_permute_256 ?_
                      refine aw_lxor d_Mo_permute_257 ?_
                      refine ax_last d_Mo_permute_258 (k_195 S) (by decide) (by omega) (by rw [n_195 S]; omega) ?_
                      refine ax_iinc (lv' := [(3, vi 1), (2, vi d), (1, vi n), (0, vr 175)]) d_Mo_permute_259 rfl (by decide) ⟨(by omega), (by omega)⟩ rfl ?_
                      refine aw_goto (tgt := 200) d_Mo_permute_262 (by decide) ?_
                      refine aw_iload_n d_Mo_permute_200 rfl rfl ?_
                      refine aw_iconst d_Mo_permute_201 ⟨by decide, by decide⟩ ?_
                      refine aw_icmp_ge (tgt := 265) d_Mo_permute_202 (by decide) (fun c_202 => False.elim (by omega)) (fun c_202 => ?_)
                      refine aw_aload_n d_Mo_permute_205 rfl rfl ?_
                      refine ax_getR (b := 195) d_Mo_permute_206 fd_Mo_47 (k_175 S) (r_175_13 S) ?_
                      refine aw_iload_n d_Mo_permute_209 rfl rfl ?_
                      refine aw_iconst d_Mo_permute_210 ⟨by decide, by decide⟩ ?_
                      refine aw_iload_n d_Mo_permute_211 rfl rfl ?_
                      refine ax_imul d_Mo_permute_212 ⟨(by omega), (by omega)⟩ ?_
                      refine ax_ti (x := 5) (by decide) ?_
                      refine ax_iadd d_Mo_permute_213 ⟨(by omega), (by omega)⟩ ?_
                      refine aw_aload_n d_Mo_permute_214 rfl rfl ?_
                      refine ax_getR (b := 196) d_Mo_permute_215 fd_Mo_50 (k_175 S) (r_175_14 S) ?_
                      refine aw_iload_n d_Mo_permute_218 rfl rfl ?_
                      refine aw_iconst d_Mo_permute_219 ⟨by decide, by decide⟩ ?_
                      refine aw_iload_n d_Mo_permute_220 rfl rfl ?_
                      refine ax_imul d_Mo_permute_221 ⟨(by omega), (by omega)⟩ ?_
                      refine ax_ti (x := 5) (by decide) ?_
                      refine ax_iadd d_Mo_permute_222 ⟨(by omega), (by omega)⟩ ?_
                      refine ax_lalde (x := kB (K 195) (d + 5)) d_Mo_permute_223 (k_196 S) (by omega) (by rw [n_196 S]; omega) (Eq.trans (a_up_ne (Or.inl (by decide))) (Eq.trans (f4 _ _ (by decide)) (m3 _ (by omega) (by omega)))) ?_
                      refine aw_aload_n d_Mo_permute_224 rfl rfl ?_
                      refine ax_getR (b := 196) d_Mo_permute_225 fd_Mo_50 (k_175 S) (r_175_14 S) ?_
                      refine aw_iload_n d_Mo_permute_228 rfl rfl ?_
                      refine aw_iconst d_Mo_permute_229 ⟨by decide, by decide⟩ ?_
                      refine ax_iadd d_Mo_permute_230 ⟨(by omega), (by omega)⟩ ?_
                      refine aw_iconst d_Mo_permute_231 ⟨by decide, by decide⟩ ?_
                      refine ax_irem d_Mo_permute_232 (by omega) (by omega) ?_
                      refine aw_iconst d_Mo_permute_233 ⟨by decide, by decide⟩ ?_
                      refine aw_iload_n d_Mo_permute_234 rfl rfl ?_
                      refine ax_imul d_Mo_permute_235 ⟨(by omega), (by omega)⟩ ?_
                      refine ax_ti (x := 5) (by decide) ?_
                      refine ax_iadd d_Mo_permute_236 ⟨(by omega), (by omega)⟩ ?_
                      refine ax_lalde (x := kB (K 195) (((d + 1) % 5) + 5)) d_Mo_permute_237 (k_196 S) (by omega) (by rw [n_196 S]; omega) (Eq.trans (a_up_ne (Or.inl (by decide))) (Eq.trans (f4 _ _ (by decide)) (m3 _ (by omega) (by omega)))) ?_
                      refine aw_ldc2 (n := -1) d_Mo_permute_238 lc_Mo_201 ⟨by decide, by decide⟩ ?_
                      refine aw_lxor d_Mo_permute_241 ?_
                      refine aw_aload_n d_Mo_permute_242 rfl rfl ?_
                      refine ax_getR (b := 196) d_Mo_permute_243 fd_Mo_50 (k_175 S) (r_175_14 S) ?_
                      refine aw_iload_n d_Mo_permute_246 rfl rfl ?_
                      refine aw_iconst d_Mo_permute_247 ⟨by decide, by decide⟩ ?_
                      refine ax_iadd d_Mo_permute_248 ⟨(by omega), (by omega)⟩ ?_
                      refine aw_iconst d_Mo_permute_249 ⟨by decide, by decide⟩ ?_
                      refine ax_irem d_Mo_permute_250 (by omega) (by omega) ?_
                      refine aw_iconst d_Mo_permute_251 ⟨by decide, by decide⟩ ?_
                      refine aw_iload_n d_Mo_permute_252 rfl rfl ?_
                      refine ax_imul d_Mo_permute_253 ⟨(by omega), (by omega)⟩ ?_
                      refine ax_ti (x := 5) (by decide) ?_
                      refine ax_iadd d_Mo_permute_254 ⟨(by omega), (by omega)⟩ ?_
                      refine ax_lalde (x := kB (K 195) (((d + 2) % 5) + 5)) d_Mo_permute_255 (k_196 S) (by omega) (by rw [n_196 S]; omega) (Eq.trans (a_up_ne (Or.inl (by decide))) (Eq.trans (f4 _ _ (by decide)) (m3 _ (by omega) (by omega)))) ?_
                      refine aw_land d_Mo_permute_256 ?_
                      refine aw_lxor d_Mo_permute_257 ?_
                      refine ax_last d_Mo_permute_258 (k_195 S) (by decide) (by omega) (by rw [n_195 S]; omega) ?_
                      refine ax_iinc (lv' := [(3, vi 2), (2, vi d), (1, vi n), (0, vr 175)]) d_Mo_permute_259 rfl (by decide) ⟨(by omega), (by omega)⟩ rfl ?_
                      refine aw_goto (tgt := 200) d_Mo_permute_262 (by decide) ?_
                      refine aw_iload_n d_Mo_permute_200 rfl rfl ?_
                      refine aw_iconst d_Mo_permute_201 ⟨by decide, by decide⟩ ?_
                      refine aw_icmp_ge (tgt := 265) d_Mo_permute_202 (by decide) (fun c_202 => False.elim (by omega)) (fun c_202 => ?_)
                      refine aw_aload_n d_Mo_permute_205 rfl rfl ?_
                      refine ax_getR (b := 195) d_Mo_permute_206 fd_Mo_47 (k_175 S) (r_175_13 S) ?_
                      refine aw_iload_n d_Mo_permute_209 rfl rfl ?_
                      refine aw_iconst d_Mo_permute_210 ⟨by decide, by decide⟩ ?_
                      refine aw_iload_n d_Mo_permute_211 rfl rfl ?_
                      refine ax_imul d_Mo_permute_212 ⟨(by omega), (by omega)⟩ ?_
                      refine ax_ti (x := 10) (by decide) ?_
                      refine ax_iadd d_Mo_permute_213 ⟨(by omega), (by omega)⟩ ?_
                      refine aw_aload_n d_Mo_permute_214 rfl rfl ?_
                      refine ax_getR (b := 196) d_Mo_permute_215 fd_Mo_50 (k_175 S) (r_175_14 S) ?_
                      refine aw_iload_n d_Mo_permute_218 rfl rfl ?_
                      refine aw_iconst d_Mo_permute_219 ⟨by decide, by decide⟩ ?_
                      refine aw_iload_n d_Mo_permute_220 rfl rfl ?_
                      refine ax_imul d_Mo_permute_221 ⟨(by omega), (by omega)⟩ ?_
                      refine ax_ti (x := 10) (by decide) ?_
                      refine ax_iadd d_Mo_permute_222 ⟨(by omega), (by omega)⟩ ?_
                      refine ax_lalde (x := kB (K 195) (d + 10)) d_Mo_permute_223 (k_196 S) (by omega) (by rw [n_196 S]; omega) (Eq.trans (a_up_ne (Or.inl (by decide))) (Eq.trans (a_up_ne (Or.inl (by decide))) (Eq.trans (f4 _ _ (by decide)) (m3 _ (by omega) (by omega))))) ?_
                      refine aw_aload_n d_Mo_permute_224 rfl rfl ?_
                      refine ax_getR (b := 196) d_Mo_permute_225 fd_Mo_50 (k_175 S) (r_175_14 S) ?_
                      refine aw_iload_n d_Mo_permute_228 rfl rfl ?_
                      refine aw_iconst d_Mo_permute_229 ⟨by decide, by decide⟩ ?_
                      refine ax_iadd d_Mo_permute_230 ⟨(by omega), (by omega)⟩ ?_
                      refine aw_iconst d_Mo_permute_231 ⟨by decide, by decide⟩ ?_
                      refine ax_irem d_Mo_permute_232 (by omega) (by omega) ?_
                      refine aw_iconst d_Mo_permute_233 ⟨by decide, by decide⟩ ?_
                      refine aw_iload_n d_Mo_permute_234 rfl rfl ?_
                      refine ax_imul d_Mo_permute_235 ⟨(by omega), (by omega)⟩ ?_
                      refine ax_ti (x := 10) (by decide) ?_
                      refine ax_iadd d_Mo_permute_236 ⟨(by omega), (by omega)⟩ ?_
                      refine ax_lalde (x := kB (K 195) (((d + 1) % 5) + 10)) d_Mo_permute_237 (k_196 S) (by omega) (by rw [n_196 S]; omega) (Eq.trans (a_up_ne (Or.inl (by decide))) (Eq.trans (a_up_ne (Or.inl (by decide))) (Eq.trans (f4 _ _ (by decide)) (m3 _ (by omega) (by omega))))) ?_
                      refine aw_ldc2 (n := -1) d_Mo_permute_238 lc_Mo_201 ⟨by decide, by decide⟩ ?_
                      refine aw_lxor d_Mo_permute_241 ?_
                      refine aw_aload_n d_Mo_permute_242 rfl rfl ?_
                      refine ax_getR (b := 196) d_Mo_permute_243 fd_Mo_50 (k_175 S) (r_175_14 S) ?_
                      refine aw_iload_n d_Mo_permute_246 rfl rfl ?_
                      refine aw_iconst d_Mo_permute_247 ⟨by decide, by decide⟩ ?_
                      refine ax_iadd d_Mo_permute_248 ⟨(by omega), (by omega)⟩ ?_
                      refine aw_iconst d_Mo_permute_249 ⟨by decide, by decide⟩ ?_
                      refine ax_irem d_Mo_permute_250 (by omega) (by omega) ?_
                      refine aw_iconst d_Mo_permute_251 ⟨by decide, by decide⟩ ?_
                      refine aw_iload_n d_Mo_permute_252 rfl rfl ?_
                      refine ax_imul d_Mo_permute_253 ⟨(by omega), (by omega)⟩ ?_
                      refine ax_ti (x := 10) (by decide) ?_
                      refine ax_iadd d_Mo_permute_254 ⟨(by omega), (by omega)⟩ ?_
                      refine ax_lalde (x := kB (K 195) (((d + 2) % 5) + 10)) d_Mo_permute_255 (k_196 S) (by omega) (by rw [n_196 S]; omega) (Eq.trans (a_up_ne (Or.inl (by decide))) (Eq.trans (a_up_ne (Or.inl (by decide))) (Eq.trans (f4 _ _ (by decide)) (m3 _ (by omega) (by omega))))) ?_
                      refine aw_land d_Mo_permute_256 ?_
                      refine aw_lxor d_Mo_permute_257 ?_
                      refine ax_last d_Mo_permute_258 (k_195 S) (by decide) (by omega) (by rw [n_195 S]; omega) ?_
                      refine ax_iinc (lv' := [(3, vi 3), (2, vi d), (1, vi n), (0, vr 175)]) d_Mo_permute_259 rfl (by decide) ⟨(by omega), (by omega)⟩ rfl ?_
                      refine aw_goto (tgt := 200) d_Mo_permute_262 (by decide) ?_
                      refine aw_iload_n d_Mo_permute_200 rfl rfl ?_
                      refine aw_iconst d_Mo_permute_201 ⟨by decide, by decide⟩ ?_
                      refine aw_icmp_ge (tgt := 265) d_Mo_permute_202 (by decide) (fun c_202 => False.elim (by omega)) (fun c_202 => ?_)
                      refine aw_aload_n d_Mo_permute_205 rfl rfl ?_
                      refine ax_getR (b := 195) d_Mo_permute_206 fd_Mo_47 (k_175 S) (r_175_13 S) ?_
                      refine aw_iload_n d_Mo_permute_209 rfl rfl ?_
                      refine aw_iconst d_Mo_permute_210 ⟨by decide, by decide⟩ ?_
                      refine aw_iload_n d_Mo_permute_211 rfl rfl ?_
                      refine ax_imul d_Mo_permute_212 ⟨(by omega), (by omega)⟩ ?_
                      refine ax_ti (x := 15) (by decide) ?_
                      refine ax_iadd d_Mo_permute_213 ⟨(by omega), (by omega)⟩ ?_
                      refine aw_aload_n d_Mo_permute_214 rfl rfl ?_
                      refine ax_getR (b := 196) d_Mo_permute_215 fd_Mo_50 (k_175 S) (r_175_14 S) ?_
                      refine aw_iload_n d_Mo_permute_218 rfl rfl ?_
                      refine aw_iconst d_Mo_permute_219 ⟨by decide, by decide⟩ ?_
                      refine aw_iload_n d_Mo_permute_220 rfl rfl ?_
                      refine ax_imul d_Mo_permute_221 ⟨(by omega), (by omega)⟩ ?_
                      refine ax_ti (x := 15) (by decide) ?_
                      refine ax_iadd d_Mo_permute_222 ⟨(by omega), (by omega)⟩ ?_
                      refine ax_lalde (x := kB (K 195) (d + 15)) d_Mo_permute_223 (k_196 S) (by omega) (by rw [n_196 S]; omega) (Eq.trans (a_up_ne (Or.inl (by decide))) (Eq.trans (a_up_ne (Or.inl (by decide))) (Eq.trans (a_up_ne (Or.inl (by decide))) (Eq.trans (f4 _ _ (by decide)) (m3 _ (by omega) (by omega)))))) ?_
                      refine aw_aload_n d_Mo_permute_224 rfl rfl ?_
                      refine ax_getR (b := 196) d_Mo_permute_225 fd_Mo_50 (k_175 S) (r_175_14 S) ?_
                      refine aw_iload_n d_Mo_permute_228 rfl rfl ?_
                      refine aw_iconst d_Mo_permute_229 ⟨by decide, by decide⟩ ?_
                      refine ax_iadd d_Mo_permute_230 ⟨(by omega), (by omega)⟩ ?_
                      refine aw_iconst d_Mo_permute_231 ⟨by decide, by decide⟩ ?_
                      refine ax_irem d_Mo_permute_232 (by omega) (by omega) ?_
                      refine aw_iconst d_Mo_permute_233 ⟨by decide, by decide⟩ ?_
                      refine aw_iload_n d_Mo_permute_234 rfl rfl ?_
                      refine ax_imul d_Mo_permute_235 ⟨(by omega), (by omega)⟩ ?_
                      refine ax_ti (x := 15) (by decide) ?_
                      refine ax_iadd d_Mo_permute_236 ⟨(by omega), (by omega)⟩ ?_
                      refine ax_lalde (x := kB (K 195) (((d + 1) % 5) + 15)) d_Mo_permute_237 (k_196 S) (by omega) (by rw [n_196 S]; omega) (Eq.trans (a_up_ne (Or.inl (by decide))) (Eq.trans (a_up_ne (Or.inl (by decide))) (Eq.trans (a_up_ne (Or.inl (by decide))) (Eq.trans (f4 _ _ (by decide)) (m3 _ (by omega) (by omega)))))) ?_
                      refine aw_ldc2 (n := -1) d_Mo_permute_238 lc_Mo_201 ⟨by decide, by decide⟩ ?_
                      refine aw_lxor d_Mo_permute_241 ?_
                      refine aw_aload_n d_Mo_permute_242 rfl rfl ?_
                      refine ax_getR (b := 196) d_Mo_permute_243 fd_Mo_50 (k_175 S) (r_175_14 S) ?_
                      refine aw_iload_n d_Mo_permute_246 rfl rfl ?_
                      refine aw_iconst d_Mo_permute_247 ⟨by decide, by decide⟩ ?_
                      refine ax_iadd d_Mo_permute_248 ⟨(by omega), (by omega)⟩ ?_
                      refine aw_iconst d_Mo_permute_249 ⟨by decide, by decide⟩ ?_
                      refine ax_irem d_Mo_permute_250 (by omega) (by omega) ?_
                      refine aw_iconst d_Mo_permute_251 ⟨by decide, by decide⟩ ?_
                      refine aw_iload_n d_Mo_permute_252 rfl rfl ?_
                      refine ax_imul d_Mo_permute_253 ⟨(by omega), (by omega)⟩ ?_
                      refine ax_ti (x := 15) (by decide) ?_
                      refine ax_iadd d_Mo_permute_254 ⟨(by omega), (by omega)⟩ ?_
                      refine ax_lalde (x := kB (K 195) (((d + 2) % 5) + 15)) d_Mo_permute_255 (k_196 S) (by omega) (by rw [n_196 S]; omega) (Eq.trans (a_up_ne (Or.inl (by decide))) (Eq.trans (a_up_ne (Or.inl (by decide))) (Eq.trans (a_up_ne (Or.inl (by decide))) (Eq.trans (f4 _ _ (by decide)) (m3 _ (by omega) (by omega)))))) ?_
                      refine aw_land d_Mo_permute_256 ?_
                      refine aw_lxor d_Mo_permute_257 ?_
                      refine ax_last d_Mo_permute_258 (k_195 S) (by decide) (by omega) (by rw [n_195 S]; omega) ?_
                      refine ax_iinc (lv' := [(3, vi 4), (2, vi d), (1, vi n), (0, vr 175)]) d_Mo_permute_259 rfl (by decide) ⟨(by omega), (by omega)⟩ rfl ?_
                      refine aw_goto (tgt := 200) d_Mo_permute_262 (by decide) ?_
                      refine aw_iload_n d_Mo_permute_200 rfl rfl ?_
                      refine aw_iconst d_Mo_permute_201 ⟨by decide, by decide⟩ ?_
                      refine aw_icmp_ge (tgt := 265) d_Mo_permute_202 (by decide) (fun c_202 => False.elim (by omega)) (fun c_202 => ?_)
                      refine aw_aload_n d_Mo_permute_205 rfl rfl ?_
                      refine ax_getR (b := 195) d_Mo_permute_206 fd_Mo_47 (k_175 S) (r_175_13 S) ?_
                      refine aw_iload_n d_Mo_permute_209 rfl rfl ?_
                      refine aw_iconst d_Mo_permute_210 ⟨by decide, by decide⟩ ?_
                      refine aw_iload_n d_Mo_permute_211 rfl rfl ?_
                      refine ax_imul d_Mo_permute_212 ⟨(by omega), (by omega)⟩ ?_
                      refine ax_ti (x := 20) (by decide) ?_
                      refine ax_iadd d_Mo_permute_213 ⟨(by omega), (by omega)⟩ ?_
                      refine aw_aload_n d_Mo_permute_214 rfl rfl ?_
                      refine ax_getR (b := 196) d_Mo_permute_215 fd_Mo_50 (k_175 S) (r_175_14 S) ?_
                      refine aw_iload_n d_Mo_permute_218 rfl rfl ?_
                      refine aw_iconst d_Mo_permute_219 ⟨by decide, by decide⟩ ?_
                      refine aw_iload_n d_Mo_permute_220 rfl rfl ?_
                      refine ax_imul d_Mo_permute_221 ⟨(by omega), (by omega)⟩ ?_
                      refine ax_ti (x := 20) (by decide) ?_
                      refine ax_iadd d_Mo_permute_222 ⟨(by omega), (by omega)⟩ ?_
                      refine ax_lalde (x := kB (K 195) (d + 20)) d_Mo_permute_223 (k_196 S) (by omega) (by rw [n_196 S]; omega) (Eq.trans (a_up_ne (Or.inl (by decide))) (Eq.trans (a_up_ne (Or.inl (by decide))) (Eq.trans (a_up_ne (Or.inl (by decide))) (Eq.trans (a_up_ne (Or.inl (by decide))) (Eq.trans (f4 _ _ (by decide)) (m3 _ (by omega) (by omega))))))) ?_
                      refine aw_aload_n d_Mo_permute_224 rfl rfl ?_
                      refine ax_getR (b := 196) d_Mo_permute_225 fd_Mo_50 (k_175 S) (r_175_14 S) ?_
                      refine aw_iload_n d_Mo_permute_228 rfl rfl ?_
                      refine aw_iconst d_Mo_permute_229 ⟨by decide, by decide⟩ ?_
                      refine ax_iadd d_Mo_permute_230 ⟨(by omega), (by omega)⟩ ?_
                      refine aw_iconst d_Mo_permute_231 ⟨by decide, by decide⟩ ?_
                      refine ax_irem d_Mo_permute_232 (by omega) (by omega) ?_
                      refine aw_iconst d_Mo_permute_233 ⟨by decide, by decide⟩ ?_
                      refine aw_iload_n d_Mo_permute_234 rfl rfl ?_
                      refine ax_imul d_Mo_permute_235 ⟨(by omega), (by omega)⟩ ?_
                      refine ax_ti (x := 20) (by decide) ?_
                      refine ax_iadd d_Mo_permute_236 ⟨(by omega), (by omega)⟩ ?_
                      refine ax_lalde (x := kB (K 195) (((d + 1) % 5) + 20)) d_Mo_permute_237 (k_196 S) (by omega) (by rw [n_196 S]; omega) (Eq.trans (a_up_ne (Or.inl (by decide))) (Eq.trans (a_up_ne (Or.inl (by decide))) (Eq.trans (a_up_ne (Or.inl (by decide))) (Eq.trans (a_up_ne (Or.inl (by decide))) (Eq.trans (f4 _ _ (by decide)) (m3 _ (by omega) (by omega))))))) ?_
                      refine aw_ldc2 (n := -1) d_Mo_permute_238 lc_Mo_201 ⟨by decide, by decide⟩ ?_
                      refine aw_lxor d_Mo_permute_241 ?_
                      refine aw_aload_n d_Mo_permute_242 rfl rfl ?_
                      refine ax_getR (b := 196) d_Mo_permute_243 fd_Mo_50 (k_175 S) (r_175_14 S) ?_
                      refine aw_iload_n d_Mo_permute_246 rfl rfl ?_
                      refine aw_iconst d_Mo_permute_247 ⟨by decide, by decide⟩ ?_
                      refine ax_iadd d_Mo_permute_248 ⟨(by omega), (by omega)⟩ ?_
                      refine aw_iconst d_Mo_permute_249 ⟨by decide, by decide⟩ ?_
                      refine ax_irem d_Mo_permute_250 (by omega) (by omega) ?_
                      refine aw_iconst d_Mo_permute_251 ⟨by decide, by decide⟩ ?_
                      refine aw_iload_n d_Mo_permute_252 rfl rfl ?_
                      refine ax_imul d_Mo_permute_253 ⟨(by omega), (by omega)⟩ ?_
                      refine ax_ti (x := 20) (by decide) ?_
                      refine ax_iadd d_Mo_permute_254 ⟨(by omega), (by omega)⟩ ?_
                      refine ax_lalde (x := kB (K 195) (((d + 2) % 5) + 20)) d_Mo_permute_255 (k_196 S) (by omega) (by rw [n_196 S]; omega) (Eq.trans (a_up_ne (Or.inl (by decide))) (Eq.trans (a_up_ne (Or.inl (by decide))) (Eq.trans (a_up_ne (Or.inl (by decide))) (Eq.trans (a_up_ne (Or.inl (by decide))) (Eq.trans (f4 _ _ (by decide)) (m3 _ (by omega) (by omega))))))) ?_
                      refine aw_land d_Mo_permute_256 ?_
                      refine aw_lxor d_Mo_permute_257 ?_
                      refine ax_last d_Mo_permute_258 (k_195 S) (by decide) (by omega) (by rw [n_195 S]; omega) ?_
                      refine ax_iinc (lv' := [(3, vi 5), (2, vi d), (1, vi n), (0, vr 175)]) d_Mo_permute_259 rfl (by decide) ⟨(by omega), (by omega)⟩ rfl ?_
                      refine aw_goto (tgt := 200) d_Mo_permute_262 (by decide) ?_
                      refine aw_iload_n d_Mo_permute_200 rfl rfl ?_
                      refine aw_iconst d_Mo_permute_201 ⟨by decide, by decide⟩ ?_
                      refine aw_icmp_ge (tgt := 265) d_Mo_permute_202 (by decide) (fun c_202 => ?_) (fun c_202 => False.elim (by omega))
                      refine ax_iinc (lv' := [(2, vi (d + 1)), (3, vi 5), (1, vi n), (0, vr 175)]) d_Mo_permute_265 rfl (by decide) ⟨(by omega), (by omega)⟩ rfl ?_
                      refine aw_goto (tgt := 193) d_Mo_permute_268 (by decide) ?_
                      refine aw_sub (lv' := [(2, vi (d + 1)), (1, vi n), (0, vr 175)]) (by simp) ?_
                      exact ih_193 _ (by omega) (d + 1) (a_up (a_up (a_up (a_up (a_up K4 195 (d + 0) (a_lxor (kB (K 195) (d + 0)) (a_land (a_lxor (kB (K 195) (((d + 1) % 5) + 0)) (-1)) (kB (K 195) (((d + 2) % 5) + 0))))) 195 (d + 5) (a_lxor (kB (K 195) (d + 5)) (a_land (a_lxor (kB (K 195) (((d + 1) % 5) + 5)) (-1)) (kB (K 195) (((d + 2) % 5) + 5))))) 195 (d + 10) (a_lxor (kB (K 195) (d + 10)) (a_land (a_lxor (kB (K 195) (((d + 1) % 5) + 10)) (-1)) (kB (K 195) (((d + 2) % 5) + 10))))) 195 (d + 15) (a_lxor (kB (K 195) (d + 15)) (a_land (a_lxor (kB (K 195) (((d + 1) % 5) + 15)) (-1)) (kB (K 195) (((d + 2) % 5) + 15))))) 195 (d + 20) (a_lxor (kB (K 195) (d + 20)) (a_land (a_lxor (kB (K 195) (((d + 1) % 5) + 20)) (-1)) (kB (K 195) (((d + 2) % 5) + 20))))) (by omega) (up_frame (up_frame (up_frame (up_frame (up_frame f4))))) (col_step hd.1 (by omega) g4 (kX_col _ 0 hd.1 (by omega) (by decide)) (kX_col _ 5 hd.1 (by omega) (by decide)) (kX_col _ 10 hd.1 (by omega) (by decide)) (kX_col _ 15 hd.1 (by omega) (by decide)) (kX_col _ 20 hd.1 (by omega) (by decide))) rfl
                  exact lp_193 _ 0 K3 (by omega) (fun _ _ _ => rfl) (fun j x y z => by omega) rfl
                · skip
                  refine aw_iconst d_Mo_permute_131 ⟨by decide, by decide⟩ ?_
                  refine aw_istore_n (lv' := [(3, vi 0), (2, vi c), (1, vi n), (0, vr 175)]) d_Mo_permute_132 rfl (by decide) rfl ?_
                  refine aw_iload_n d_Mo_permute_133 rfl rfl ?_
                  refine aw_iconst d_Mo_permute_134 ⟨by decide, by decide⟩ ?_
                  refine aw_icmp_ge (tgt := 185) d_Mo_permute_135 (by decide) (fun c_135 => False.elim (by omega)) (fun c_135 => ?_)
                  refine aw_aload_n d_Mo_permute_138 rfl rfl ?_
                  refine ax_getR (b := 196) d_Mo_permute_139 fd_Mo_50 (k_175 S) (r_175_14 S) ?_
                  refine aw_iload_n d_Mo_permute_142 rfl rfl ?_
                  refine aw_iconst d_Mo_permute_143 ⟨by decide, by decide⟩ ?_
                  refine aw_iconst d_Mo_permute_144 ⟨by decide, by decide⟩ ?_
                  refine aw_iload_n d_Mo_permute_145 rfl rfl ?_
                  refine ax_imul d_Mo_permute_146 ⟨(by omega), (by omega)⟩ ?_
                  refine aw_iconst d_Mo_permute_147 ⟨by decide, by decide⟩ ?_
                  refine aw_iload_n d_Mo_permute_148 rfl rfl ?_
                  refine ax_imul d_Mo_permute_149 ⟨(by omega), (by omega)⟩ ?_
                  refine ax_ti (x := 0) (by decide) ?_
                  refine ax_iadd d_Mo_permute_150 ⟨(by omega), (by omega)⟩ ?_
                  refine aw_iconst d_Mo_permute_151 ⟨by decide, by decide⟩ ?_
                  refine ax_irem d_Mo_permute_152 (by omega) (by omega) ?_
                  refine ax_imul d_Mo_permute_153 ⟨(by omega), (by omega)⟩ ?_
                  refine ax_iadd d_Mo_permute_154 ⟨(by omega), (by omega)⟩ ?_
                  refine aw_aload_n d_Mo_permute_155 rfl rfl ?_
                  refine ax_getR (b := 195) d_Mo_permute_156 fd_Mo_47 (k_175 S) (r_175_13 S) ?_
                  refine aw_iload_n d_Mo_permute_159 rfl rfl ?_
                  refine aw_iconst d_Mo_permute_160 ⟨by decide, by decide⟩ ?_
                  refine aw_iload_n d_Mo_permute_161 rfl rfl ?_
                  refine ax_imul d_Mo_permute_162 ⟨(by omega), (by omega)⟩ ?_
                  refine ax_ti (x := 0) (by decide) ?_
                  refine ax_iadd d_Mo_permute_163 ⟨(by omega), (by omega)⟩ ?_
                  refine ax_lalde (x := kT (K 195) (c + 0)) d_Mo_permute_164 (k_195 S) (by omega) (by rw [n_195 S]; omega) (Eq.trans (f3 _ _ (by decide)) (t2 _ (by omega) (by omega))) ?_
                  refine aw_aload_n d_Mo_permute_165 rfl rfl ?_
                  refine ax_getR (b := 193) d_Mo_permute_166 fd_Mo_41 (k_175 S) (r_175_11 S) ?_
                  refine aw_iload_n d_Mo_permute_169 rfl rfl ?_
                  refine aw_iconst d_Mo_permute_170 ⟨by decide, by decide⟩ ?_
                  refine aw_iload_n d_Mo_permute_171 rfl rfl ?_
                  refine ax_imul d_Mo_permute_172 ⟨(by omega), (by omega)⟩ ?_
                  refine ax_ti (x := 0) (by decide) ?_
                  refine ax_iadd d_Mo_permute_173 ⟨(by omega), (by omega)⟩ ?_
                  refine ax_ialde (x := a_sI 10 (c + 0)) d_Mo_permute_174 (k_193 S) (by omega) (by rw [n_193 S]; omega) (RS.1 _ (by omega) (by omega)) ?_
                  refine ax_S (st := [vi (0 + (5 * (((2 * c) + 0) % 5))), vr 196]) (as := [vl (kT (K 195) (c + 0)), vi (a_sI 10 (c + 0))]) (v := some (vl (kRot (kT (K 195) (c + 0)) (a_sI 10 (c + 0))))) (h' := sD h I K3) d_Mo_permute_175 cs_Mo_permute_175 (c_Mo_left (tn_in (by omega) (by omega))) rfl rfl rfl ?_
                  show AW l G M_Mo_permute P 178 [(3, vi 0), (2, vi c), (1, vi n), (0, vr 175)] [vl (kRot (kT (K 195) (c + 0)) (a_sI 10 (c + 0))), vi (0 + (5 * (((2 * c) + 0) % 5))), vr 196] (sD h I K3)
                  refine ax_last d_Mo_permute_178 (k_196 S) (by decide) (by omega) (by rw [n_196 S]; omega) ?_
                  refine ax_iinc (lv' := [(3, vi 1), (2, vi c), (1, vi n), (0, vr 175)]) d_Mo_permute_179 rfl (by decide) ⟨(by omega), (by omega)⟩ rfl ?_
                  refine aw_goto (tgt := 133) d_Mo_permute_182 (by decide) ?_
                  refine aw_iload_n d_Mo_permute_133 rfl rfl ?_
                  refine aw_iconst d_Mo_permute_134 ⟨by decide, by decide⟩ ?_
                  refine aw_icmp_ge (tgt := 185) d_Mo_permute_135 (by decide) (fun c_135 => False.elim (by omega)) (fun c_135 => ?_)
                  refine aw_aload_n d_Mo_permute_138 rfl rfl ?_
                  refine ax_getR (b := 196) d_Mo_permute_139 fd_Mo_50 (k_175 S) (r_175_14 S) ?_
                  refine aw_iload_n d_Mo_permute_142 rfl rfl ?_
                  refine aw_iconst d_Mo_permute_143 ⟨by decide, by decide⟩ ?_
                  refine aw_iconst d_Mo_permute_144 ⟨by decide, by decide⟩ ?_
                  refine aw_iload_n d_Mo_permute_145 rfl rfl ?_
                  refine ax_imul d_Mo_permute_146 ⟨(by omega), (by omega)⟩ ?_
                  refine aw_iconst d_Mo_permute_147 ⟨by decide, by decide⟩ ?_
                  refine aw_iload_n d_Mo_permute_148 rfl rfl ?_
                  refine ax_imul d_Mo_permute_149 ⟨(by omega), (by omega)⟩ ?_
                  refine ax_ti (x := 3) (by decide) ?_
                  refine ax_iadd d_Mo_permute_150 ⟨(by omega), (by omega)⟩ ?_
                  refine aw_iconst d_Mo_permute_151 ⟨by decide, by decide⟩ ?_
                  refine ax_irem d_Mo_permute_152 (by omega) (by omega) ?_
                  refine ax_imul d_Mo_permute_153 ⟨(by omega), (by omega)⟩ ?_
                  refine ax_iadd d_Mo_permute_154 ⟨(by omega), (by omega)⟩ ?_
                  refine aw_aload_n d_Mo_permute_155 rfl rfl ?_
                  refine ax_getR (b := 195) d_Mo_permute_156 fd_Mo_47 (k_175 S) (r_175_13 S) ?_
                  refine aw_iload_n d_Mo_permute_159 rfl rfl ?_
                  refine aw_iconst d_Mo_permute_160 ⟨by decide, by decide⟩ ?_
                  refine aw_iload_n d_Mo_permute_161 rfl rfl ?_
                  refine ax_imul d_Mo_permute_162 ⟨(by omega), (by omega)⟩ ?_
                  refine ax_ti (x := 5) (by decide) ?_
                  refine ax_iadd d_Mo_permute_163 ⟨(by omega), (by omega)⟩ ?_
                  refine ax_lalde (x := kT (K 195) (c + 5)) d_Mo_permute_164 (k_195 S) (by omega) (by rw [n_195 S]; omega) (Eq.trans (a_up_ne (Or.inl (by decide))) (Eq.trans (f3 _ _ (by decide)) (t2 _ (by omega) (by omega)))) ?_
                  refine aw_aload_n d_Mo_permute_165 rfl rfl ?_
                  refine ax_getR (b := 193) d_Mo_permute_166 fd_Mo_41 (k_175 S) (r_175_11 S) ?_
                  refine aw_iload_n d_Mo_permute_169 rfl rfl ?_
                  refine aw_iconst d_Mo_permute_170 ⟨by decide, by decide⟩ ?_
                  refine aw_iload_n d_Mo_permute_171 rfl rfl ?_
                  refine ax_imul d_Mo_permute_172 ⟨(by omega), (by omega)⟩ ?_
                  refine ax_ti (x := 5) (by decide) ?_
                  refine ax_iadd d_Mo_permute_173 ⟨(by omega), (by omega)⟩ ?_
                  refine ax_ialde (x := a_sI 10 (c + 5)) d_Mo_permute_174 (k_193 S) (by omega) (by rw [n_193 S]; omega) (RS.1 _ (by omega) (by omega)) ?_
                  refine ax_S (st := [vi (1 + (5 * (((2 * c) + 3) % 5))), vr 196]) (as := [vl (kT (K 195) (c + 5)), vi (a_sI 10 (c + 5))]) (v := some (vl (kRot (kT (K 195) (c + 5)) (a_sI 10 (c + 5))))) (h' := sD h I (a_up K3 196 (0 + (5 * (((2 * c) + 0) % 5))) (kRot (kT (K 195) (c + 0)) (a_sI 10 (c + 0))))) d_Mo_permute_175 cs_Mo_permute_175 (c_Mo_left (tn_in (by omega) (by omega))) rfl rfl rfl ?_
                  show AW l G M_Mo_permute P 178 [(3, vi 1), (2, vi c), (1, vi n), (0, vr 175)] [vl (kRot (kT (K 195) (c + 5)) (a_sI 10 (c + 5))), vi (1 + (5 * (((2 * c) + 3) % 5))), vr 196] (sD h I (a_up K3 196 (0 + (5 * (((2 * c) + 0) % 5))) (kRot (kT (K 195) (c + 0)) (a_sI 10 (c + 0)))))
                  refine ax_last d_Mo_permute_178 (k_196 S) (by decide) (by omega) (by rw [n_196 S]; omega) ?_
                  refine ax_iinc (lv' := [(3, vi 2), (2, vi c), (1, vi n), (0, vr 175)]) d_Mo_permute_179 rfl (by decide) ⟨(by omega), (by omega)⟩ rfl ?_
                  refine aw_goto (tgt := 133) d_Mo_permute_182 (by decide) ?_
                  refine aw_iload_n d_Mo_permute_133 rfl rfl ?_
                  refine aw_iconst d_Mo_permute_134 ⟨by decide, by decide⟩ ?_
                  refine aw_icmp_ge (tgt := 185) d_Mo_permute_135 (by decide) (fun c_135 => False.elim (by omega)) (fun c_135 => ?_)
                  refine aw_aload_n d_Mo_permute_138 rfl rfl ?_
                  refine ax_getR (b := 196) d_Mo_permute_139 fd_Mo_50 (k_175 S) (r_175_14 S) ?_
                  refine aw_iload_n d_Mo_permute_142 rfl rfl ?_
                  refine aw_iconst d_Mo_permute_143 ⟨by decide, by decide⟩ ?_
                  refine aw_iconst d_Mo_permute_144 ⟨by decide, by decide⟩ ?_
                  refine aw_iload_n d_Mo_permute_145 rfl rfl ?_
                  refine ax_imul d_Mo_permute_146 ⟨(by omega), (by omega)⟩ ?_
                  refine aw_iconst d_Mo_permute_147 ⟨by decide, by decide⟩ ?_
                  refine aw_iload_n d_Mo_permute_148 rfl rfl ?_
                  refine ax_imul d_Mo_permute_149 ⟨(by omega), (by omega)⟩ ?_
                  refine ax_ti (x := 6) (by decide) ?_
                  refine ax_iadd d_Mo_permute_150 ⟨(by omega), (by omega)⟩ ?_
                  refine aw_iconst d_Mo_permute_151 ⟨by decide, by decide⟩ ?_
                  refine ax_irem d_Mo_permute_152 (by omega) (by omega) ?_
                  refine ax_imul d_Mo_permute_153 ⟨(by omega), (by omega)⟩ ?_
                  refine ax_iadd d_Mo_permute_154 ⟨(by omega), (by omega)⟩ ?_
                  refine aw_aload_n d_Mo_permute_155 rfl rfl ?_
                  refine ax_getR (b := 195) d_Mo_permute_156 fd_Mo_47 (k_175 S) (r_175_13 S) ?_
                  refine aw_iload_n d_Mo_permute_159 rfl rfl ?_
                  refine aw_iconst d_Mo_permute_160 ⟨by decide, by decide⟩ ?_
                  refine aw_iload_n d_Mo_permute_161 rfl rfl ?_
                  refine ax_imul d_Mo_permute_162 ⟨(by omega), (by omega)⟩ ?_
                  refine ax_ti (x := 10) (by decide) ?_
                  refine ax_iadd d_Mo_permute_163 ⟨(by omega), (by omega)⟩ ?_
                  refine ax_lalde (x := kT (K 195) (c + 10)) d_Mo_permute_164 (k_195 S) (by omega) (by rw [n_195 S]; omega) (Eq.trans (a_up_ne (Or.inl (by decide))) (Eq.trans (a_up_ne (Or.inl (by decide))) (Eq.trans (f3 _ _ (by decide)) (t2 _ (by omega) (by omega))))) ?_
                  refine aw_aload_n d_Mo_permute_165 rfl rfl ?_
                  refine ax_getR (b := 193) d_Mo_permute_166 fd_Mo_41 (k_175 S) (r_175_11 S) ?_
                  refine aw_iload_n d_Mo_permute_169 rfl rfl ?_
                  refine aw_iconst d_Mo_permute_170 ⟨by decide, by decide⟩ ?_
                  refine aw_iload_n d_Mo_permute_171 rfl rfl ?_
                  refine ax_imul d_Mo_permute_172 ⟨(by omega), (by omega)⟩ ?_
                  refine ax_ti (x := 10) (by decide) ?_
                  refine ax_iadd d_Mo_permute_173 ⟨(by omega), (by omega)⟩ ?_
                  refine ax_ialde (x := a_sI 10 (c + 10)) d_Mo_permute_174 (k_193 S) (by omega) (by rw [n_193 S]; omega) (RS.1 _ (by omega) (by omega)) ?_
                  refine ax_S (st := [vi (2 + (5 * (((2 * c) + 6) % 5))), vr 196]) (as := [vl (kT (K 195) (c + 10)), vi (a_sI 10 (c + 10))]) (v := some (vl (kRot (kT (K 195) (c + 10)) (a_sI 10 (c + 10))))) (h' := sD h I (a_up (a_up K3 196 (0 + (5 * (((2 * c) + 0) % 5))) (kRot (kT (K 195) (c + 0)) (a_sI 10 (c + 0)))) 196 (1 + (5 * (((2 * c) + 3) % 5))) (kRot (kT (K 195) (c + 5)) (a_sI 10 (c + 5))))) d_Mo_permute_175 cs_Mo_permute_175 (c_Mo_left (tn_in (by omega) (by omega))) rfl rfl rfl ?_
                  show AW l G M_Mo_permute P 178 [(3, vi 2), (2, vi c), (1, vi n), (0, vr 175)] [vl (kRot (kT (K 195) (c + 10)) (a_sI 10 (c + 10))), vi (2 + (5 * (((2 * c) + 6) % 5))), vr 196] (sD h I (a_up (a_up K3 196 (0 + (5 * (((2 * c) + 0) % 5))) (kRot (kT (K 195) (c + 0)) (a_sI 10 (c + 0)))) 196 (1 + (5 * (((2 * c) + 3) % 5))) (kRot (kT (K 195) (c + 5)) (a_sI 10 (c + 5)))))
                  refine ax_last d_Mo_permute_178 (k_196 S) (by decide) (by omega) (by rw [n_196 S]; omega) ?_
                  refine ax_iinc (lv' := [(3, vi 3), (2, vi c), (1, vi n), (0, vr 175)]) d_Mo_permute_179 rfl (by decide) ⟨(by omega), (by omega)⟩ rfl ?_
                  refine aw_goto (tgt := 133) d_Mo_permute_182 (by decide) ?_
                  refine aw_iload_n d_Mo_permute_133 rfl rfl ?_
                  refine aw_iconst d_Mo_permute_134 ⟨by decide, by decide⟩ ?_
                  refine aw_icmp_ge (tgt := 185) d_Mo_permute_135 (by decide) (fun c_135 => False.elim (by omega)) (fun c_135 => ?_)
                  refine aw_aload_n d_Mo_permute_138 rfl rfl ?_
                  refine ax_getR (b := 196) d_Mo_permute_139 fd_Mo_50 (k_175 S) (r_175_14 S) ?_
                  refine aw_iload_n d_Mo_permute_142 rfl rfl ?_
                  refine aw_iconst d_Mo_permute_143 ⟨by decide, by decide⟩ ?_
                  refine aw_iconst d_Mo_permute_144 ⟨by decide, by decide⟩ ?_
                  refine aw_iload_n d_Mo_permute_145 rfl rfl ?_
                  refine ax_imul d_Mo_permute_146 ⟨(by omega), (by omega)⟩ ?_
                  refine aw_iconst d_Mo_permute_147 ⟨by decide, by decide⟩ ?_
                  refine aw_iload_n d_Mo_permute_148 rfl rfl ?_
                  refine ax_imul d_Mo_permute_149 ⟨(by omega), (by omega)⟩ ?_
                  refine ax_ti (x := 9) (by decide) ?_
                  refine ax_iadd d_Mo_permute_150 ⟨(by omega), (by omega)⟩ ?_
                  refine aw_iconst d_Mo_permute_151 ⟨by decide, by decide⟩ ?_
                  refine ax_irem d_Mo_permute_152 (by omega) (by omega) ?_
                  refine ax_imul d_Mo_permute_153 ⟨(by omega), (by omega)⟩ ?_
                  refine ax_iadd d_Mo_permute_154 ⟨(by omega), (by omega)⟩ ?_
                  refine aw_aload_n d_Mo_permute_155 rfl rfl ?_
                  refine ax_getR (b := 195) d_Mo_permute_156 fd_Mo_47 (k_175 S) (r_175_13 S) ?_
                  refine aw_iload_n d_Mo_permute_159 rfl rfl ?_
                  refine aw_iconst d_Mo_permute_160 ⟨by decide, by decide⟩ ?_
                  refine aw_iload_n d_Mo_permute_161 rfl rfl ?_
                  refine ax_imul d_Mo_permute_162 ⟨(by omega), (by omega)⟩ ?_
                  refine ax_ti (x := 15) (by decide) ?_
                  refine ax_iadd d_Mo_permute_163 ⟨(by omega), (by omega)⟩ ?_
                  refine ax_lalde (x := kT (K 195) (c + 15)) d_Mo_permute_164 (k_195 S) (by omega) (by rw [n_195 S]; omega) (Eq.trans (a_up_ne (Or.inl (by decide))) (Eq.trans (a_up_ne (Or.inl (by decide))) (Eq.trans (a_up_ne (Or.inl (by decide))) (Eq.trans (f3 _ _ (by decide)) (t2 _ (by omega) (by omega)))))) ?_
                  refine aw_aload_n d_Mo_permute_165 rfl rfl ?_
                  refine ax_getR (b := 193) d_Mo_permute_166 fd_Mo_41 (k_175 S) (r_175_11 S) ?_
                  refine aw_iload_n d_Mo_permute_169 rfl rfl ?_
                  refine aw_iconst d_Mo_permute_170 ⟨by decide, by decide⟩ ?_
                  refine aw_iload_n d_Mo_permute_171 rfl rfl ?_
                  refine ax_imul d_Mo_permute_172 ⟨(by omega), (by omega)⟩ ?_
                  refine ax_ti (x := 15) (by decide) ?_
                  refine ax_iadd d_Mo_permute_173 ⟨(by omega), (by omega)⟩ ?_
                  refine ax_ialde (x := a_sI 10 (c + 15)) d_Mo_permute_174 (k_193 S) (by omega) (by rw [n_193 S]; omega) (RS.1 _ (by omega) (by omega)) ?_
                  refine ax_S (st := [vi (3 + (5 * (((2 * c) + 9) % 5))), vr 196]) (as := [vl (kT (K 195) (c + 15)), vi (a_sI 10 (c + 15))]) (v := some (vl (kRot (kT (K 195) (c + 15)) (a_sI 10 (c + 15))))) (h' := sD h I (a_up (a_up (a_up K3 196 (0 + (5 * (((2 * c) + 0) % 5))) (kRot (kT (K 195) (c + 0)) (a_sI 10 (c + 0)))) 196 (1 + (5 * (((2 * c) + 3) % 5))) (kRot (kT (K 195) (c + 5)) (a_sI 10 (c + 5)))) 196 (2 + (5 * (((2 * c) + 6) % 5))) (kRot (kT (K 195) (c + 10)) (a_sI 10 (c + 10))))) d_Mo_permute_175 cs_Mo_permute_175 (c_Mo_left (tn_in (by omega) (by omega))) rfl rfl rfl ?_
                  show AW l G M_Mo_permute P 178 [(3, vi 3), (2, vi c), (1, vi n), (0, vr 175)] [vl (kRot (kT (K 195) (c + 15)) (a_sI 10 (c + 15))), vi (3 + (5 * (((2 * c) + 9) % 5))), vr 196] (sD h I (a_up (a_up (a_up K3 196 (0 + (5 * (((2 * c) + 0) % 5))) (kRot (kT (K 195) (c + 0)) (a_sI 10 (c + 0)))) 196 (1 + (5 * (((2 * c) + 3) % 5))) (kRot (kT (K 195) (c + 5)) (a_sI 10 (c + 5)))) 196 (2 + (5 * (((2 * c) + 6) % 5))) (kRot (kT (K 195) (c + 10)) (a_sI 10 (c + 10)))))
                  refine ax_last d_Mo_permute_178 (k_196 S) (by decide) (by omega) (by rw [n_196 S]; omega) ?_
                  refine ax_iinc (lv' := [(3, vi 4), (2, vi c), (1, vi n), (0, vr 175)]) d_Mo_permute_179 rfl (by decide) ⟨(by omega), (by omega)⟩ rfl ?_
                  refine aw_goto (tgt := 133) d_Mo_permute_182 (by decide) ?_
                  refine aw_iload_n d_Mo_permute_133 rfl rfl ?_
                  refine aw_iconst d_Mo_permute_134 ⟨by decide, by decide⟩ ?_
                  refine aw_icmp_ge (tgt := 185) d_Mo_permute_135 (by decide) (fun c_135 => False.elim (by omega)) (fun c_135 => ?_)
                  refine aw_aload_n d_Mo_permute_138 rfl rfl ?_
                  refine ax_getR (b := 196) d_Mo_permute_139 fd_Mo_50 (k_175 S) (r_175_14 S) ?_
                  refine aw_iload_n d_Mo_permute_142 rfl rfl ?_
                  refine aw_iconst d_Mo_permute_143 ⟨by decide, by decide⟩ ?_
                  refine aw_iconst d_Mo_permute_144 ⟨by decide, by decide⟩ ?_
                  refine aw_iload_n d_Mo_permute_145 rfl rfl ?_
                  refine ax_imul d_Mo_permute_146 ⟨(by omega), (by omega)⟩ ?_
                  refine aw_iconst d_Mo_permute_147 ⟨by decide, by decide⟩ ?_
                  refine aw_iload_n d_Mo_permute_148 rfl rfl ?_
                  refine ax_imul d_Mo_permute_149 ⟨(by omega), (by omega)⟩ ?_
                  refine ax_ti (x := 12) (by decide) ?_
                  refine ax_iadd d_Mo_permute_150 ⟨(by omega), (by omega)⟩ ?_
                  refine aw_iconst d_Mo_permute_151 ⟨by decide, by decide⟩ ?_
                  refine ax_irem d_Mo_permute_152 (by omega) (by omega) ?_
                  refine ax_imul d_Mo_permute_153 ⟨(by omega), (by omega)⟩ ?_
                  refine ax_iadd d_Mo_permute_154 ⟨(by omega), (by omega)⟩ ?_
                  refine aw_aload_n d_Mo_permute_155 rfl rfl ?_
                  refine ax_getR (b := 195) d_Mo_permute_156 fd_Mo_47 (k_175 S) (r_175_13 S) ?_
                  refine aw_iload_n d_Mo_permute_159 rfl rfl ?_
                  refine aw_iconst d_Mo_permute_160 ⟨by decide, by decide⟩ ?_
                  refine aw_iload_n d_Mo_permute_161 rfl rfl ?_
                  refine ax_imul d_Mo_permute_162 ⟨(by omega), (by omega)⟩ ?_
                  refine ax_ti (x := 20) (by decide) ?_
                  refine ax_iadd d_Mo_permute_163 ⟨(by omega), (by omega)⟩ ?_
                  refine ax_lalde (x := kT (K 195) (c + 20)) d_Mo_permute_164 (k_195 S) (by omega) (by rw [n_195 S]; omega) (Eq.trans (a_up_ne (Or.inl (by decide))) (Eq.trans (a_up_ne (Or.inl (by decide))) (Eq.trans (a_up_ne (Or.inl (by decide))) (Eq.trans (a_up_ne (Or.inl (by decide))) (Eq.trans (f3 _ _ (by decide)) (t2 _ (by omega) (by omega))))))) ?_
                  refine aw_aload_n d_Mo_permute_165 rfl rfl ?_
                  refine ax_getR (b := 193) d_Mo_permute_166 fd_Mo_41 (k_175 S) (r_175_11 S) ?_
                  refine aw_iload_n d_Mo_permute_169 rfl rfl ?_
                  refine aw_iconst d_Mo_permute_170 ⟨by decide, by decide⟩ ?_
                  refine aw_iload_n d_Mo_permute_171 rfl rfl ?_
                  refine ax_imul d_Mo_permute_172 ⟨(by omega), (by omega)⟩ ?_
                  refine ax_ti (x := 20) (by decide) ?_
                  refine ax_iadd d_Mo_permute_173 ⟨(by omega), (by omega)⟩ ?_
                  refine ax_ialde (x := a_sI 10 (c + 20)) d_Mo_permute_174 (k_193 S) (by omega) (by rw [n_193 S]; omega) (RS.1 _ (by omega) (by omega)) ?_
                  refine ax_S (st := [vi (4 + (5 * (((2 * c) + 12) % 5))), vr 196]) (as := [vl (kT (K 195) (c + 20)), vi (a_sI 10 (c + 20))]) (v := some (vl (kRot (kT (K 195) (c + 20)) (a_sI 10 (c + 20))))) (h' := sD h I (a_up (a_up (a_up (a_up K3 196 (0 + (5 * (((2 * c) + 0) % 5))) (kRot (kT (K 195) (c + 0)) (a_sI 10 (c + 0)))) 196 (1 + (5 * (((2 * c) + 3) % 5))) (kRot (kT (K 195) (c + 5)) (a_sI 10 (c + 5)))) 196 (2 + (5 * (((2 * c) + 6) % 5))) (kRot (kT (K 195) (c + 10)) (a_sI 10 (c + 10)))) 196 (3 + (5 * (((2 * c) + 9) % 5))) (kRot (kT (K 195) (c + 15)) (a_sI 10 (c + 15))))) d_Mo_permute_175 cs_Mo_permute_175 (c_Mo_left (tn_in (by omega) (by omega))) rfl rfl rfl ?_
                  show AW l G M_Mo_permute P 178 [(3, vi 4), (2, vi c), (1, vi n), (0, vr 175)] [vl (kRot (kT (K 195) (c + 20)) (a_sI 10 (c + 20))), vi (4 + (5 * (((2 * c) + 12) % 5))), vr 196] (sD h I (a_up (a_up (a_up (a_up K3 196 (0 + (5 * (((2 * c) + 0) % 5))) (kRot (kT (K 195) (c + 0)) (a_sI 10 (c + 0)))) 196 (1 + (5 * (((2 * c) + 3) % 5))) (kRot (kT (K 195) (c + 5)) (a_sI 10 (c + 5)))) 196 (2 + (5 * (((2 * c) + 6) % 5))) (kRot (kT (K 195) (c + 10)) (a_sI 10 (c + 10)))) 196 (3 + (5 * (((2 * c) + 9) % 5))) (kRot (kT (K 195) (c + 15)) (a_sI 10 (c + 15)))))
                  refine ax_last d_Mo_permute_178 (k_196 S) (by decide) (by omega) (by rw [n_196 S]; omega) ?_
                  refine ax_iinc (lv' := [(3, vi 5), (2, vi c), (1, vi n), (0, vr 175)]) d_Mo_permute_179 rfl (by decide) ⟨(by omega), (by omega)⟩ rfl ?_
                  refine aw_goto (tgt := 133) d_Mo_permute_182 (by decide) ?_
                  refine aw_iload_n d_Mo_permute_133 rfl rfl ?_
                  refine aw_iconst d_Mo_permute_134 ⟨by decide, by decide⟩ ?_
                  refine aw_icmp_ge (tgt := 185) d_Mo_permute_135 (by decide) (fun c_135 => ?_) (fun c_135 => False.elim (by omega))
                  refine ax_iinc (lv' := [(2, vi (c + 1)), (3, vi 5), (1, vi n), (0, vr 175)]) d_Mo_permute_185 rfl (by decide) ⟨(by omega), (by omega)⟩ rfl ?_
                  refine aw_goto (tgt := 126) d_Mo_permute_188 (by decide) ?_
                  refine aw_sub (lv' := [(2, vi (c + 1)), (1, vi n), (0, vr 175)]) (by simp) ?_
                  exact ih_126 _ (by omega) (c + 1) (a_up (a_up (a_up (a_up (a_up K3 196 (0 + (5 * (((2 * c) + 0) % 5))) (kRot (kT (K 195) (c + 0)) (a_sI 10 (c + 0)))) 196 (1 + (5 * (((2 * c) + 3) % 5))) (kRot (kT (K 195) (c + 5)) (a_sI 10 (c + 5)))) 196 (2 + (5 * (((2 * c) + 6) % 5))) (kRot (kT (K 195) (c + 10)) (a_sI 10 (c + 10)))) 196 (3 + (5 * (((2 * c) + 9) % 5))) (kRot (kT (K 195) (c + 15)) (a_sI 10 (c + 15)))) 196 (4 + (5 * (((2 * c) + 12) % 5))) (kRot (kT (K 195) (c + 20)) (a_sI 10 (c + 20)))) (by omega) (up_frame (up_frame (up_frame (up_frame (up_frame f3))))) (goal_col hc.1 (by omega) g3 rfl rfl rfl rfl rfl (gl_eq (b := 0) hc.1 (by omega) (by decide) (by decide)) (gl_eq (b := 1) hc.1 (by omega) (by decide) (by decide)) (gl_eq (b := 2) hc.1 (by omega) (by decide) (by decide)) (gl_eq (b := 3) hc.1 (by omega) (by decide) (by decide)) (gl_eq (b := 4) hc.1 (by omega) (by decide) (by decide))) rfl
              exact lp_126 _ 0 K2 (by omega) (fun _ _ _ => rfl) (fun j x y z => by omega) rfl
            · skip
              refine aw_iconst d_Mo_permute_67 ⟨by decide, by decide⟩ ?_
              refine aw_istore_n (lv' := [(3, vi 0), (2, vi b), (1, vi n), (0, vr 175)]) d_Mo_permute_68 rfl (by decide) rfl ?_
              refine aw_iload_n d_Mo_permute_69 rfl rfl ?_
              refine aw_iconst d_Mo_permute_70 ⟨by decide, by decide⟩ ?_
              refine aw_icmp_ge (tgt := 118) d_Mo_permute_71 (by decide) (fun c_71 => False.elim (by omega)) (fun c_71 => ?_)
              refine aw_aload_n d_Mo_permute_74 rfl rfl ?_
              refine ax_getR (b := 195) d_Mo_permute_75 fd_Mo_47 (k_175 S) (r_175_13 S) ?_
              refine aw_iload_n d_Mo_permute_78 rfl rfl ?_
              refine aw_iconst d_Mo_permute_79 ⟨by decide, by decide⟩ ?_
              refine aw_iload_n d_Mo_permute_80 rfl rfl ?_
              refine ax_imul d_Mo_permute_81 ⟨(by omega), (by omega)⟩ ?_
              refine ax_ti (x := 0) (by decide) ?_
              refine ax_iadd d_Mo_permute_82 ⟨(by omega), (by omega)⟩ ?_
              refine aw_dup2 d_Mo_permute_83 rfl rfl ?_
              refine ax_lalde (x := K 195 (b + 0)) d_Mo_permute_84 (k_195 S) (by omega) (by rw [n_195 S]; omega) (g2b _ (by omega) (by omega) (by omega)) ?_
              refine aw_aload_n d_Mo_permute_85 rfl rfl ?_
              refine ax_getR (b := 197) d_Mo_permute_86 fd_Mo_53 (k_175 S) (r_175_15 S) ?_
              refine aw_iload_n d_Mo_permute_89 rfl rfl ?_
              refine aw_iconst d_Mo_permute_90 ⟨by decide, by decide⟩ ?_
              refine ax_iadd d_Mo_permute_91 ⟨(by omega), (by omega)⟩ ?_
              refine aw_iconst d_Mo_permute_92 ⟨by decide, by decide⟩ ?_
              refine ax_irem d_Mo_permute_93 (by omega) (by omega) ?_
              refine ax_lalde (x := kC (K 195) ((b + 4) % 5)) d_Mo_permute_94 (k_197 S) (by omega) (by rw [n_197 S]; omega) (Eq.trans (f2 _ _ (by decide)) (g1 _ (by omega) (by omega))) ?_
              refine aw_aload_n d_Mo_permute_95 rfl rfl ?_
              refine ax_getR (b := 197) d_Mo_permute_96 fd_Mo_53 (k_175 S) (r_175_15 S) ?_
              refine aw_iload_n d_Mo_permute_99 rfl rfl ?_
              refine aw_iconst d_Mo_permute_100 ⟨by decide, by decide⟩ ?_
              refine ax_iadd d_Mo_permute_101 ⟨(by omega), (by omega)⟩ ?_
              refine aw_iconst d_Mo_permute_102 ⟨by decide, by decide⟩ ?_
              refine ax_irem d_Mo_permute_103 (by omega) (by omega) ?_
              refine ax_lalde (x := kC (K 195) ((b + 1) % 5)) d_Mo_permute_104 (k_197 S) (by omega) (by rw [n_197 S]; omega) (Eq.trans (f2 _ _ (by decide)) (g1 _ (by omega) (by omega))) ?_
              refine aw_iconst d_Mo_permute_105 ⟨by decide, by decide⟩ ?_
              refine ax_S (st := [vl (kC (K 195) ((b + 4) % 5)), vl (K 195 (b + 0)), vi (b + 0), vr 195]) (as := [vl (kC (K 195) ((b + 1) % 5)), vi 1]) (v := some (vl (kRot (kC (K 195) ((b + 1) % 5)) 1))) (h' := sD h I K2) d_Mo_permute_106 cs_Mo_permute_106 (c_Mo_left (by omega)) rfl rfl rfl ?_
              show AW l G M_Mo_permute P 109 [(3, vi 0), (2, vi b), (1, vi n), (0, vr 175)] [vl (kRot (kC (K 195) ((b + 1) % 5)) 1), vl (kC (K 195) ((b + 4) % 5)), vl (K 195 (b + 0)), vi (b + 0), vr 195] (sD h I K2)
              refine aw_lxor d_Mo_permute_109 ?_
              refine aw_lxor d_Mo_permute_110 ?_
              refine ax_last d_Mo_permute_111 (k_195 S) (by decide) (by omega) (by rw [n_195 S]; omega) ?_
              refine ax_iinc (lv' := [(3, vi 1), (2, vi b), (1, vi n), (0, vr 175)]) d_Mo_permute_112 rfl (by decide) ⟨(by omega), (by omega)⟩ rfl ?_
              refine aw_goto (tgt := 69) d_Mo_permute_115 (by decide) ?_
              refine aw_iload_n d_Mo_permute_69 rfl rfl ?_
              refine aw_iconst d_Mo_permute_70 ⟨by decide, by decide⟩ ?_
              refine aw_icmp_ge (tgt := 118) d_Mo_permute_71 (by decide) (fun c_71 => False.elim (by omega)) (fun c_71 => ?_)
              refine aw_aload_n d_Mo_permute_74 rfl rfl ?_
              refine ax_getR (b := 195) d_Mo_permute_75 fd_Mo_47 (k_175 S) (r_175_13 S) ?_
              refine aw_iload_n d_Mo_permute_78 rfl rfl ?_
              refine aw_iconst d_Mo_permute_79 ⟨by decide, by decide⟩ ?_
              refine aw_iload_n d_Mo_permute_80 rfl rfl ?_
              refine ax_imul d_Mo_permute_81 ⟨(by omega), (by omega)⟩ ?_
              refine ax_ti (x := 5) (by decide) ?_
              refine ax_iadd d_Mo_permute_82 ⟨(by omega), (by omega)⟩ ?_
              refine aw_dup2 d_Mo_permute_83 rfl rfl ?_
              refine ax_lalde (x := K 195 (b + 5)) d_Mo_permute_84 (k_195 S) (by omega) (by rw [n_195 S]; omega) (Eq.trans (a_up_ne (Or.inr (by omega))) (g2b _ (by omega) (by omega) (by omega))) ?_
              refine aw_aload_n d_Mo_permute_85 rfl rfl ?_
              refine ax_getR (b := 197) d_Mo_permute_86 fd_Mo_53 (k_175 S) (r_175_15 S) ?_
              refine aw_iload_n d_Mo_permute_89 rfl rfl ?_
              refine aw_iconst d_Mo_permute_90 ⟨by decide, by decide⟩ ?_
              refine ax_iadd d_Mo_permute_91 ⟨(by omega), (by omega)⟩ ?_
              refine aw_iconst d_Mo_permute_92 ⟨by decide, by decide⟩ ?_
              refine ax_irem d_Mo_permute_93 (by omega) (by omega) ?_
              refine ax_lalde (x := kC (K 195) ((b + 4) % 5)) d_Mo_permute_94 (k_197 S) (by omega) (by rw [n_197 S]; omega) (Eq.trans (a_up_ne (Or.inl (by decide))) (Eq.trans (f2 _ _ (by decide)) (g1 _ (by omega) (by omega)))) ?_
              refine aw_aload_n d_Mo_permute_95 rfl rfl ?_
              refine ax_getR (b := 197) d_Mo_permute_96 fd_Mo_53 (k_175 S) (r_175_15 S) ?_
              refine aw_iload_n d_Mo_permute_99 rfl rfl ?_
              refine aw_iconst d_Mo_permute_100 ⟨by decide, by decide⟩ ?_
              refine ax_iadd d_Mo_permute_101 ⟨(by omega), (by omega)⟩ ?_
              refine aw_iconst d_Mo_permute_102 ⟨by decide, by decide⟩ ?_
              refine ax_irem d_Mo_permute_103 (by omega) (by omega) ?_
              refine ax_lalde (x := kC (K 195) ((b + 1) % 5)) d_Mo_permute_104 (k_197 S) (by omega) (by rw [n_197 S]; omega) (Eq.trans (a_up_ne (Or.inl (by decide))) (Eq.trans (f2 _ _ (by decide)) (g1 _ (by omega) (by omega)))) ?_
              refine aw_iconst d_Mo_permute_105 ⟨by decide, by decide⟩ ?_
              refine ax_S (st := [vl (kC (K 195) ((b + 4) % 5)), vl (K 195 (b + 5)), vi (b + 5), vr 195]) (as := [vl (kC (K 195) ((b + 1) % 5)), vi 1]) (v := some (vl (kRot (kC (K 195) ((b + 1) % 5)) 1))) (h' := sD h I (a_up K2 195 (b + 0) (a_lxor (K 195 (b + 0)) (a_lxor (kC (K 195) ((b + 4) % 5)) (kRot (kC (K 195) ((b + 1) % 5)) 1))))) d_Mo_permute_106 cs_Mo_permute_106 (c_Mo_left (by omega)) rfl rfl rfl ?_
              show AW l G M_Mo_permute P 109 [(3, vi 1), (2, vi b), (1, vi n), (0, vr 175)] [vl (kRot (kC (K 195) ((b + 1) % 5)) 1), vl (kC (K 195) ((b + 4) % 5)), vl (K 195 (b + 5)), vi (b + 5), vr 195] (sD h I (a_up K2 195 (b + 0) (a_lxor (K 195 (b + 0)) (a_lxor (kC (K 195) ((b + 4) % 5)) (kRot (kC (K 195) ((b + 1) % 5)) 1)))))
              refine aw_lxor d_Mo_permute_109 ?_
              refine aw_lxor d_Mo_permute_110 ?_
              refine ax_last d_Mo_permute_111 (k_195 S) (by decide) (by omega) (by rw [n_195 S]; omega) ?_
              refine ax_iinc (lv' := [(3, vi 2), (2, vi b), (1, vi n), (0, vr 175)]) d_Mo_permute_112 rfl (by decide) ⟨(by omega), (by omega)⟩ rfl ?_
              refine aw_goto (tgt := 69) d_Mo_permute_115 (by decide) ?_
              refine aw_iload_n d_Mo_permute_69 rfl rfl ?_
              refine aw_iconst d_Mo_permute_70 ⟨by decide, by decide⟩ ?_
              refine aw_icmp_ge (tgt := 118) d_Mo_permute_71 (by decide) (fun c_71 => False.elim (by omega)) (fun c_71 => ?_)
              refine aw_aload_n d_Mo_permute_74 rfl rfl ?_
              refine ax_getR (b := 195) d_Mo_permute_75 fd_Mo_47 (k_175 S) (r_175_13 S) ?_
              refine aw_iload_n d_Mo_permute_78 rfl rfl ?_
              refine aw_iconst d_Mo_permute_79 ⟨by decide, by decide⟩ ?_
              refine aw_iload_n d_Mo_permute_80 rfl rfl ?_
              refine ax_imul d_Mo_permute_81 ⟨(by omega), (by omega)⟩ ?_
              refine ax_ti (x := 10) (by decide) ?_
              refine ax_iadd d_Mo_permute_82 ⟨(by omega), (by omega)⟩ ?_
              refine aw_dup2 d_Mo_permute_83 rfl rfl ?_
              refine ax_lalde (x := K 195 (b + 10)) d_Mo_permute_84 (k_195 S) (by omega) (by rw [n_195 S]; omega) (Eq.trans (a_up_ne (Or.inr (by omega))) (Eq.trans (a_up_ne (Or.inr (by omega))) (g2b _ (by omega) (by omega) (by omega)))) ?_
              refine aw_aload_n d_Mo_permute_85 rfl rfl ?_
              refine ax_getR (b := 197) d_Mo_permute_86 fd_Mo_53 (k_175 S) (r_175_15 S) ?_
              refine aw_iload_n d_Mo_permute_89 rfl rfl ?_
              refine aw_iconst d_Mo_permute_90 ⟨by decide, by decide⟩ ?_
              refine ax_iadd d_Mo_permute_91 ⟨(by omega), (by omega)⟩ ?_
              refine aw_iconst d_Mo_permute_92 ⟨by decide, by decide⟩ ?_
              refine ax_irem d_Mo_permute_93 (by omega) (by omega) ?_
              refine ax_lalde (x := kC (K 195) ((b + 4) % 5)) d_Mo_permute_94 (k_197 S) (by omega) (by rw [n_197 S]; omega) (Eq.trans (a_up_ne (Or.inl (by decide))) (Eq.trans (a_up_ne (Or.inl (by decide))) (Eq.trans (f2 _ _ (by decide)) (g1 _ (by omega) (by omega))))) ?_
              refine aw_aload_n d_Mo_permute_95 rfl rfl ?_
              refine ax_getR (b := 197) d_Mo_permute_96 fd_Mo_53 (k_175 S) (r_175_15 S) ?_
              refine aw_iload_n d_Mo_permute_99 rfl rfl ?_
              refine aw_iconst d_Mo_permute_100 ⟨by decide, by decide⟩ ?_
              refine ax_iadd d_Mo_permute_101 ⟨(by omega), (by omega)⟩ ?_
              refine aw_iconst d_Mo_permute_102 ⟨by decide, by decide⟩ ?_
              refine ax_irem d_Mo_permute_103 (by omega) (by omega) ?_
              refine ax_lalde (x := kC (K 195) ((b + 1) % 5)) d_Mo_permute_104 (k_197 S) (by omega) (by rw [n_197 S]; omega) (Eq.trans (a_up_ne (Or.inl (by decide))) (Eq.trans (a_up_ne (Or.inl (by decide))) (Eq.trans (f2 _ _ (by decide)) (g1 _ (by omega) (by omega))))) ?_
              refine aw_iconst d_Mo_permute_105 ⟨by decide, by decide⟩ ?_
              refine ax_S (st := [vl (kC (K 195) ((b + 4) % 5)), vl (K 195 (b + 10)), vi (b + 10), vr 195]) (as := [vl (kC (K 195) ((b + 1) % 5)), vi 1]) (v := some (vl (kRot (kC (K 195) ((b + 1) % 5)) 1))) (h' := sD h I (a_up (a_up K2 195 (b + 0) (a_lxor (K 195 (b + 0)) (a_lxor (kC (K 195) ((b + 4) % 5)) (kRot (kC (K 195) ((b + 1) % 5)) 1)))) 195 (b + 5) (a_lxor (K 195 (b + 5)) (a_lxor (kC (K 195) ((b + 4) % 5)) (kRot (kC (K 195) ((b + 1) % 5)) 1))))) d_Mo_permute_106 cs_Mo_permute_106 (c_Mo_left (by omega)) rfl rfl rfl ?_
              show AW l G M_Mo_permute P 109 [(3, vi 2), (2, vi b), (1, vi n), (0, vr 175)] [vl (kRot (kC (K 195) ((b + 1) % 5)) 1), vl (kC (K 195) ((b + 4) % 5)), vl (K 195 (b + 10)), vi (b + 10), vr 195] (sD h I (a_up (a_up K2 195 (b + 0) (a_lxor (K 195 (b + 0)) (a_lxor (kC (K 195) ((b + 4) % 5)) (kRot (kC (K 195) ((b + 1) % 5)) 1)))) 195 (b + 5) (a_lxor (K 195 (b + 5)) (a_lxor (kC (K 195) ((b + 4) % 5)) (kRot (kC (K 195) ((b + 1) % 5)) 1)))))
              refine aw_lxor d_Mo_permute_109 ?_
              refine aw_lxor d_Mo_permute_110 ?_
              refine ax_last d_Mo_permute_111 (k_195 S) (by decide) (by omega) (by rw [n_195 S]; omega) ?_
              refine ax_iinc (lv' := [(3, vi 3), (2, vi b), (1, vi n), (0, vr 175)]) d_Mo_permute_112 rfl (by decide) ⟨(by omega), (by omega)⟩ rfl ?_
              refine aw_goto (tgt := 69) d_Mo_permute_115 (by decide) ?_
              refine aw_iload_n d_Mo_permute_69 rfl rfl ?_
              refine aw_iconst d_Mo_permute_70 ⟨by decide, by decide⟩ ?_
              refine aw_icmp_ge (tgt := 118) d_Mo_permute_71 (by decide) (fun c_71 => False.elim (by omega)) (fun c_71 => ?_)
              refine aw_aload_n d_Mo_permute_74 rfl rfl ?_
              refine ax_getR (b := 195) d_Mo_permute_75 fd_Mo_47 (k_175 S) (r_175_13 S) ?_
              refine aw_iload_n d_Mo_permute_78 rfl rfl ?_
              refine aw_iconst d_Mo_permute_79 ⟨by decide, by decide⟩ ?_
              refine aw_iload_n d_Mo_permute_80 rfl rfl ?_
              refine ax_imul d_Mo_permute_81 ⟨(by omega), (by omega)⟩ ?_
              refine ax_ti (x := 15) (by decide) ?_
              refine ax_iadd d_Mo_permute_82 ⟨(by omega), (by omega)⟩ ?_
              refine aw_dup2 d_Mo_permute_83 rfl rfl ?_
              refine ax_lalde (x := K 195 (b + 15)) d_Mo_permute_84 (k_195 S) (by omega) (by rw [n_195 S]; omega) (Eq.trans (a_up_ne (Or.inr (by omega))) (Eq.trans (a_up_ne (Or.inr (by omega))) (Eq.trans (a_up_ne (Or.inr (by omega))) (g2b _ (by omega) (by omega) (by omega))))) ?_
              refine aw_aload_n d_Mo_permute_85 rfl rfl ?_
              refine ax_getR (b := 197) d_Mo_permute_86 fd_Mo_53 (k_175 S) (r_175_15 S) ?_
              refine aw_iload_n d_Mo_permute_89 rfl rfl ?_
              refine aw_iconst d_Mo_permute_90 ⟨by decide, by decide⟩ ?_
              refine ax_iadd d_Mo_permute_91 ⟨(by omega), (by omega)⟩ ?_
              refine aw_iconst d_Mo_permute_92 ⟨by decide, by decide⟩ ?_
              refine ax_irem d_Mo_permute_93 (by omega) (by omega) ?_
              refine ax_lalde (x := kC (K 195) ((b + 4) % 5)) d_Mo_permute_94 (k_197 S) (by omega) (by rw [n_197 S]; omega) (Eq.trans (a_up_ne (Or.inl (by decide))) (Eq.trans (a_up_ne (Or.inl (by decide))) (Eq.trans (a_up_ne (Or.inl (by decide))) (Eq.trans (f2 _ _ (by decide)) (g1 _ (by omega) (by omega)))))) ?_
              refine aw_aload_n d_Mo_permute_95 rfl rfl ?_
              refine ax_getR (b := 197) d_Mo_permute_96 fd_Mo_53 (k_175 S) (r_175_15 S) ?_
              refine aw_iload_n d_Mo_permute_99 rfl rfl ?_
              refine aw_iconst d_Mo_permute_100 ⟨by decide, by decide⟩ ?_
              refine ax_iadd d_Mo_permute_101 ⟨(by omega), (by omega)⟩ ?_
              refine aw_iconst d_Mo_permute_102 ⟨by decide, by decide⟩ ?_
              refine ax_irem d_Mo_permute_103 (by omega) (by omega) ?_
              refine ax_lalde (x := kC (K 195) ((b + 1) % 5)) d_Mo_permute_104 (k_197 S) (by omega) (by rw [n_197 S]; omega) (Eq.trans (a_up_ne (Or.inl (by decide))) (Eq.trans (a_up_ne (Or.inl (by decide))) (Eq.trans (a_up_ne (Or.inl (by decide))) (Eq.trans (f2 _ _ (by decide)) (g1 _ (by omega) (by omega)))))) ?_
              refine aw_iconst d_Mo_permute_105 ⟨by decide, by decide⟩ ?_
              refine ax_S (st := [vl (kC (K 195) ((b + 4) % 5)), vl (K 195 (b + 15)), vi (b + 15), vr 195]) (as := [vl (kC (K 195) ((b + 1) % 5)), vi 1]) (v := some (vl (kRot (kC (K 195) ((b + 1) % 5)) 1))) (h' := sD h I (a_up (a_up (a_up K2 195 (b + 0) (a_lxor (K 195 (b + 0)) (a_lxor (kC (K 195) ((b + 4) % 5)) (kRot (kC (K 195) ((b + 1) % 5)) 1)))) 195 (b + 5) (a_lxor (K 195 (b + 5)) (a_lxor (kC (K 195) ((b + 4) % 5)) (kRot (kC (K 195) ((b + 1) % 5)) 1)))) 195 (b + 10) (a_lxor (K 195 (b + 10)) (a_lxor (kC (K 195) ((b + 4) % 5)) (kRot (kC (K 195) ((b + 1) % 5)) 1))))) d_Mo_permute_106 cs_Mo_permute_106 (c_Mo_left (by omega)) rfl rfl rfl ?_
              show AW l G M_Mo_permute P 109 [(3, vi 3), (2, vi b), (1, vi n), (0, vr 175)] [vl (kRot (kC (K 195) ((b + 1) % 5)) 1), vl (kC (K 195) ((b + 4) % 5)), vl (K 195 (b + 15)), vi (b + 15), vr 195] (sD h I (a_up (a_up (a_up K2 195 (b + 0) (a_lxor (K 195 (b + 0)) (a_lxor (kC (K 195) ((b + 4) % 5)) (kRot (kC (K 195) ((b + 1) % 5)) 1)))) 195 (b + 5) (a_lxor (K 195 (b + 5)) (a_lxor (kC (K 195) ((b + 4) % 5)) (kRot (kC (K 195) ((b + 1) % 5)) 1)))) 195 (b + 10) (a_lxor (K 195 (b + 10)) (a_lxor (kC (K 195) ((b + 4) % 5)) (kRot (kC (K 195) ((b + 1) % 5)) 1)))))
              refine aw_lxor d_Mo_permute_109 ?_
              refine aw_lxor d_Mo_permute_110 ?_
              refine ax_last d_Mo_permute_111 (k_195 S) (by decide) (by omega) (by rw [n_195 S]; omega) ?_
              refine ax_iinc (lv' := [(3, vi 4), (2, vi b), (1, vi n), (0, vr 175)]) d_Mo_permute_112 rfl (by decide) ⟨(by omega), (by omega)⟩ rfl ?_
              refine aw_goto (tgt := 69) d_Mo_permute_115 (by decide) ?_
              refine aw_iload_n d_Mo_permute_69 rfl rfl ?_
              refine aw_iconst d_Mo_permute_70 ⟨by decide, by decide⟩ ?_
              refine aw_icmp_ge (tgt := 118) d_Mo_permute_71 (by decide) (fun c_71 => False.elim (by omega)) (fun c_71 => ?_)
              refine aw_aload_n d_Mo_permute_74 rfl rfl ?_
              refine ax_getR (b := 195) d_Mo_permute_75 fd_Mo_47 (k_175 S) (r_175_13 S) ?_
              refine aw_iload_n d_Mo_permute_78 rfl rfl ?_
              refine aw_iconst d_Mo_permute_79 ⟨by decide, by decide⟩ ?_
              refine aw_iload_n d_Mo_permute_80 rfl rfl ?_
              refine ax_imul d_Mo_permute_81 ⟨(by omega), (by omega)⟩ ?_
              refine ax_ti (x := 20) (by decide) ?_
              refine ax_iadd d_Mo_permute_82 ⟨(by omega), (by omega)⟩ ?_
              refine aw_dup2 d_Mo_permute_83 rfl rfl ?_
              refine ax_lalde (x := K 195 (b + 20)) d_Mo_permute_84 (k_195 S) (by omega) (by rw [n_195 S]; omega) (Eq.trans (a_up_ne (Or.inr (by omega))) (Eq.trans (a_up_ne (Or.inr (by omega))) (Eq.trans (a_up_ne (Or.inr (by omega))) (Eq.trans (a_up_ne (Or.inr (by omega))) (g2b _ (by omega) (by omega) (by omega)))))) ?_
              refine aw_aload_n d_Mo_permute_85 rfl rfl ?_
              refine ax_getR (b := 197) d_Mo_permute_86 fd_Mo_53 (k_175 S) (r_175_15 S) ?_
              refine aw_iload_n d_Mo_permute_89 rfl rfl ?_
              refine aw_iconst d_Mo_permute_90 ⟨by decide, by decide⟩ ?_
              refine ax_iadd d_Mo_permute_91 ⟨(by omega), (by omega)⟩ ?_
              refine aw_iconst d_Mo_permute_92 ⟨by decide, by decide⟩ ?_
              refine ax_irem d_Mo_permute_93 (by omega) (by omega) ?_
              refine ax_lalde (x := kC (K 195) ((b + 4) % 5)) d_Mo_permute_94 (k_197 S) (by omega) (by rw [n_197 S]; omega) (Eq.trans (a_up_ne (Or.inl (by decide))) (Eq.trans (a_up_ne (Or.inl (by decide))) (Eq.trans (a_up_ne (Or.inl (by decide))) (Eq.trans (a_up_ne (Or.inl (by decide))) (Eq.trans (f2 _ _ (by decide)) (g1 _ (by omega) (by omega))))))) ?_
              refine aw_aload_n d_Mo_permute_95 rfl rfl ?_
              refine ax_getR (b := 197) d_Mo_permute_96 fd_Mo_53 (k_175 S) (r_175_15 S) ?_
              refine aw_iload_n d_Mo_permute_99 rfl rfl ?_
              refine aw_iconst d_Mo_permute_100 ⟨by decide, by decide⟩ ?_
              refine ax_iadd d_Mo_permute_101 ⟨(by omega), (by omega)⟩ ?_
              refine aw_iconst d_Mo_permute_102 ⟨by decide, by decide⟩ ?_
              refine ax_irem d_Mo_permute_103 (by omega) (by omega) ?_
              refine ax_lalde (x := kC (K 195) ((b + 1) % 5)) d_Mo_permute_104 (k_197 S) (by omega) (by rw [n_197 S]; omega) (Eq.trans (a_up_ne (Or.inl (by decide))) (Eq.trans (a_up_ne (Or.inl (by decide))) (Eq.trans (a_up_ne (Or.inl (by decide))) (Eq.trans (a_up_ne (Or.inl (by decide))) (Eq.trans (f2 _ _ (by decide)) (g1 _ (by omega) (by omega))))))) ?_
              refine aw_iconst d_Mo_permute_105 ⟨by decide, by decide⟩ ?_
              refine ax_S (st := [vl (kC (K 195) ((b + 4) % 5)), vl (K 195 (b + 20)), vi (b + 20), vr 195]) (as := [vl (kC (K 195) ((b + 1) % 5)), vi 1]) (v := some (vl (kRot (kC (K 195) ((b + 1) % 5)) 1))) (h' := sD h I (a_up (a_up (a_up (a_up K2 195 (b + 0) (a_lxor (K 195 (b + 0)) (a_lxor (kC (K 195) ((b + 4) % 5)) (kRot (kC (K 195) ((b + 1) % 5)) 1)))) 195 (b + 5) (a_lxor (K 195 (b + 5)) (a_lxor (kC (K 195) ((b + 4) % 5)) (kRot (kC (K 195) ((b + 1) % 5)) 1)))) 195 (b + 10) (a_lxor (K 195 (b + 10)) (a_lxor (kC (K 195) ((b + 4) % 5)) (kRot (kC (K 195) ((b + 1) % 5)) 1)))) 195 (b + 15) (a_lxor (K 195 (b + 15)) (a_lxor (kC (K 195) ((b + 4) % 5)) (kRot (kC (K 195) ((b + 1) % 5)) 1))))) d_Mo_permute_106 cs_Mo_permute_106 (c_Mo_left (by omega)) rfl rfl rfl ?_
              show AW l G M_Mo_permute P 109 [(3, vi 4), (2, vi b), (1, vi n), (0, vr 175)] [vl (kRot (kC (K 195) ((b + 1) % 5)) 1), vl (kC (K 195) ((b + 4) % 5)), vl (K 195 (b + 20)), vi (b + 20), vr 195] (sD h I (a_up (a_up (a_up (a_up K2 195 (b + 0) (a_lxor (K 195 (b + 0)) (a_lxor (kC (K 195) ((b + 4) % 5)) (kRot (kC (K 195) ((b + 1) % 5)) 1)))) 195 (b + 5) (a_lxor (K 195 (b + 5)) (a_lxor (kC (K 195) ((b + 4) % 5)) (kRot (kC (K 195) ((b + 1) % 5)) 1)))) 195 (b + 10) (a_lxor (K 195 (b + 10)) (a_lxor (kC (K 195) ((b + 4) % 5)) (kRot (kC (K 195) ((b + 1) % 5)) 1)))) 195 (b + 15) (a_lxor (K 195 (b + 15)) (a_lxor (kC (K 195) ((b + 4) % 5)) (kRot (kC (K 195) ((b + 1) % 5)) 1)))))
              refine aw_lxor d_Mo_permute_109 ?_
              refine aw_lxor d_Mo_permute_110 ?_
              refine ax_last d_Mo_permute_111 (k_195 S) (by decide) (by omega) (by rw [n_195 S]; omega) ?_
              refine ax_iinc (lv' := [(3, vi 5), (2, vi b), (1, vi n), (0, vr 175)]) d_Mo_permute_112 rfl (by decide) ⟨(by omega), (by omega)⟩ rfl ?_
              refine aw_goto (tgt := 69) d_Mo_permute_115 (by decide) ?_
              refine aw_iload_n d_Mo_permute_69 rfl rfl ?_
              refine aw_iconst d_Mo_permute_70 ⟨by decide, by decide⟩ ?_
              refine aw_icmp_ge (tgt := 118) d_Mo_permute_71 (by decide) (fun c_71 => ?_) (fun c_71 => False.elim (by omega))
              refine ax_iinc (lv' := [(2, vi (b + 1)), (3, vi 5), (1, vi n), (0, vr 175)]) d_Mo_permute_118 rfl (by decide) ⟨(by omega), (by omega)⟩ rfl ?_
              refine aw_goto (tgt := 62) d_Mo_permute_121 (by decide) ?_
              refine aw_sub (lv' := [(2, vi (b + 1)), (1, vi n), (0, vr 175)]) (by simp) ?_
              exact ih_62 _ (by omega) (b + 1) (a_up (a_up (a_up (a_up (a_up K2 195 (b + 0) (a_lxor (K 195 (b + 0)) (a_lxor (kC (K 195) ((b + 4) % 5)) (kRot (kC (K 195) ((b + 1) % 5)) 1)))) 195 (b + 5) (a_lxor (K 195 (b + 5)) (a_lxor (kC (K 195) ((b + 4) % 5)) (kRot (kC (K 195) ((b + 1) % 5)) 1)))) 195 (b + 10) (a_lxor (K 195 (b + 10)) (a_lxor (kC (K 195) ((b + 4) % 5)) (kRot (kC (K 195) ((b + 1) % 5)) 1)))) 195 (b + 15) (a_lxor (K 195 (b + 15)) (a_lxor (kC (K 195) ((b + 4) % 5)) (kRot (kC (K 195) ((b + 1) % 5)) 1)))) 195 (b + 20) (a_lxor (K 195 (b + 20)) (a_lxor (kC (K 195) ((b + 4) % 5)) (kRot (kC (K 195) ((b + 1) % 5)) 1)))) (by omega) (up_frame (up_frame (up_frame (up_frame (up_frame f2))))) (col_step hb.1 (by omega) g2 (by unfold kT kD; rw [show (b + 0) % 5 = b by omega]; rfl) (by unfold kT kD; rw [show (b + 5) % 5 = b by omega]; rfl) (by unfold kT kD; rw [show (b + 10) % 5 = b by omega]; rfl) (by unfold kT kD; rw [show (b + 15) % 5 = b by omega]; rfl) (by unfold kT kD; rw [show (b + 20) % 5 = b by omega]; rfl)) (fun j x y z => (col_keep x y (by omega)).trans (g2b j x y (by omega))) rfl
          exact lp_62 _ 0 K1 (by omega) (fun _ _ _ => rfl) (fun k x y z => by omega) (fun j _ _ _ => f1 _ _ (by decide)) rfl
        · skip
          refine aw_aload_n d_Mo_permute_15 rfl rfl ?_
          refine ax_getR (b := 197) d_Mo_permute_16 fd_Mo_53 (k_175 S) (r_175_15 S) ?_
          refine aw_iload_n d_Mo_permute_19 rfl rfl ?_
          refine aw_lconst (x := 0) d_Mo_permute_20 ⟨by decide, by decide⟩ (by decide) ?_
          refine ax_last d_Mo_permute_21 (k_197 S) (by decide) (by omega) (by rw [n_197 S]; omega) ?_
          refine aw_iconst d_Mo_permute_22 ⟨by decide, by decide⟩ ?_
          refine aw_istore_n (lv' := [(3, vi 0), (2, vi a), (1, vi n), (0, vr 175)]) d_Mo_permute_23 rfl (by decide) rfl ?_
          refine aw_iload_n d_Mo_permute_24 rfl rfl ?_
          refine aw_iconst d_Mo_permute_25 ⟨by decide, by decide⟩ ?_
          refine aw_icmp_ge (tgt := 54) d_Mo_permute_26 (by decide) (fun c_26 => False.elim (by omega)) (fun c_26 => ?_)
          refine aw_aload_n d_Mo_permute_29 rfl rfl ?_
          refine ax_getR (b := 197) d_Mo_permute_30 fd_Mo_53 (k_175 S) (r_175_15 S) ?_
          refine aw_iload_n d_Mo_permute_33 rfl rfl ?_
          refine aw_dup2 d_Mo_permute_34 rfl rfl ?_
          refine ax_lalde (x := 0) d_Mo_permute_35 (k_197 S) (by omega) (by rw [n_197 S]; omega) (a_up_at) ?_
          refine aw_aload_n d_Mo_permute_36 rfl rfl ?_
          refine ax_getR (b := 195) d_Mo_permute_37 fd_Mo_47 (k_175 S) (r_175_13 S) ?_
          refine aw_iload_n d_Mo_permute_40 rfl rfl ?_
          refine aw_iconst d_Mo_permute_41 ⟨by decide, by decide⟩ ?_
          refine aw_iload_n d_Mo_permute_42 rfl rfl ?_
          refine ax_imul d_Mo_permute_43 ⟨(by omega), (by omega)⟩ ?_
          refine ax_ti (x := 0) (by decide) ?_
          refine ax_iadd d_Mo_permute_44 ⟨(by omega), (by omega)⟩ ?_
          refine ax_lalde (x := K 195 (a + 0)) d_Mo_permute_45 (k_195 S) (by omega) (by rw [n_195 S]; omega) (Eq.trans (a_up_ne (Or.inl (by decide))) (Eq.trans (f1 _ _ (by decide)) (rfl))) ?_
          refine aw_lxor d_Mo_permute_46 ?_
          refine ax_last d_Mo_permute_47 (k_197 S) (by decide) (by omega) (by rw [n_197 S]; omega) ?_
          refine ax_iinc (lv' := [(3, vi 1), (2, vi a), (1, vi n), (0, vr 175)]) d_Mo_permute_48 rfl (by decide) ⟨(by omega), (by omega)⟩ rfl ?_
          refine aw_goto (tgt := 24) d_Mo_permute_51 (by decide) ?_
          refine aw_iload_n d_Mo_permute_24 rfl rfl ?_
          refine aw_iconst d_Mo_permute_25 ⟨by decide, by decide⟩ ?_
          refine aw_icmp_ge (tgt := 54) d_Mo_permute_26 (by decide) (fun c_26 => False.elim (by omega)) (fun c_26 => ?_)
          refine aw_aload_n d_Mo_permute_29 rfl rfl ?_
          refine ax_getR (b := 197) d_Mo_permute_30 fd_Mo_53 (k_175 S) (r_175_15 S) ?_
          refine aw_iload_n d_Mo_permute_33 rfl rfl ?_
          refine aw_dup2 d_Mo_permute_34 rfl rfl ?_
          refine ax_lalde (x := a_lxor 0 (K 195 (a + 0))) d_Mo_permute_35 (k_197 S) (by omega) (by rw [n_197 S]; omega) (a_up_at) ?_
          refine aw_aload_n d_Mo_permute_36 rfl rfl ?_
          refine ax_getR (b := 195) d_Mo_permute_37 fd_Mo_47 (k_175 S) (r_175_13 S) ?_
          refine aw_iload_n d_Mo_permute_40 rfl rfl ?_
          refine aw_iconst d_Mo_permute_41 ⟨by decide, by decide⟩ ?_
          refine aw_iload_n d_Mo_permute_42 rfl rfl ?_
          refine ax_imul d_Mo_permute_43 ⟨(by omega), (by omega)⟩ ?_
          refine ax_ti (x := 5) (by decide) ?_
          refine ax_iadd d_Mo_permute_44 ⟨(by omega), (by omega)⟩ ?_
          refine ax_lalde (x := K 195 (a + 5)) d_Mo_permute_45 (k_195 S) (by omega) (by rw [n_195 S]; omega) (Eq.trans (a_up_ne (Or.inl (by decide))) (Eq.trans (a_up_ne (Or.inl (by decide))) (Eq.trans (f1 _ _ (by decide)) (rfl)))) ?_
          refine aw_lxor d_Mo_permute_46 ?_
          refine ax_last d_Mo_permute_47 (k_197 S) (by decide) (by omega) (by rw [n_197 S]; omega) ?_
          refine ax_iinc (lv' := [(3, vi 2), (2, vi a), (1, vi n), (0, vr 175)]) d_Mo_permute_48 rfl (by decide) ⟨(by omega), (by omega)⟩ rfl ?_
          refine aw_goto (tgt := 24) d_Mo_permute_51 (by decide) ?_
          refine aw_iload_n d_Mo_permute_24 rfl rfl ?_
          refine aw_iconst d_Mo_permute_25 ⟨by decide, by decide⟩ ?_
          refine aw_icmp_ge (tgt := 54) d_Mo_permute_26 (by decide) (fun c_26 => False.elim (by omega)) (fun c_26 => ?_)
          refine aw_aload_n d_Mo_permute_29 rfl rfl ?_
          refine ax_getR (b := 197) d_Mo_permute_30 fd_Mo_53 (k_175 S) (r_175_15 S) ?_
          refine aw_iload_n d_Mo_permute_33 rfl rfl ?_
          refine aw_dup2 d_Mo_permute_34 rfl rfl ?_
          refine ax_lalde (x := a_lxor (a_lxor 0 (K 195 (a + 0))) (K 195 (a + 5))) d_Mo_permute_35 (k_197 S) (by omega) (by rw [n_197 S]; omega) (a_up_at) ?_
          refine aw_aload_n d_Mo_permute_36 rfl rfl ?_
          refine ax_getR (b := 195) d_Mo_permute_37 fd_Mo_47 (k_175 S) (r_175_13 S) ?_
          refine aw_iload_n d_Mo_permute_40 rfl rfl ?_
          refine aw_iconst d_Mo_permute_41 ⟨by decide, by decide⟩ ?_
          refine aw_iload_n d_Mo_permute_42 rfl rfl ?_
          refine ax_imul d_Mo_permute_43 ⟨(by omega), (by omega)⟩ ?_
          refine ax_ti (x := 10) (by decide) ?_
          refine ax_iadd d_Mo_permute_44 ⟨(by omega), (by omega)⟩ ?_
          refine ax_lalde (x := K 195 (a + 10)) d_Mo_permute_45 (k_195 S) (by omega) (by rw [n_195 S]; omega) (Eq.trans (a_up_ne (Or.inl (by decide))) (Eq.trans (a_up_ne (Or.inl (by decide))) (Eq.trans (a_up_ne (Or.inl (by decide))) (Eq.trans (f1 _ _ (by decide)) (rfl))))) ?_
          refine aw_lxor d_Mo_permute_46 ?_
          refine ax_last d_Mo_permute_47 (k_197 S) (by decide) (by omega) (by rw [n_197 S]; omega) ?_
          refine ax_iinc (lv' := [(3, vi 3), (2, vi a), (1, vi n), (0, vr 175)]) d_Mo_permute_48 rfl (by decide) ⟨(by omega), (by omega)⟩ rfl ?_
          refine aw_goto (tgt := 24) d_Mo_permute_51 (by decide) ?_
          refine aw_iload_n d_Mo_permute_24 rfl rfl ?_
          refine aw_iconst d_Mo_permute_25 ⟨by decide, by decide⟩ ?_
          refine aw_icmp_ge (tgt := 54) d_Mo_permute_26 (by decide) (fun c_26 => False.elim (by omega)) (fun c_26 => ?_)
          refine aw_aload_n d_Mo_permute_29 rfl rfl ?_
          refine ax_getR (b := 197) d_Mo_permute_30 fd_Mo_53 (k_175 S) (r_175_15 S) ?_
          refine aw_iload_n d_Mo_permute_33 rfl rfl ?_
          refine aw_dup2 d_Mo_permute_34 rfl rfl ?_
          refine ax_lalde (x := a_lxor (a_lxor (a_lxor 0 (K 195 (a + 0))) (K 195 (a + 5))) (K 195 (a + 10))) d_Mo_permute_35 (k_197 S) (by omega) (by rw [n_197 S]; omega) (a_up_at) ?_
          refine aw_aload_n d_Mo_permute_36 rfl rfl ?_
          refine ax_getR (b := 195) d_Mo_permute_37 fd_Mo_47 (k_175 S) (r_175_13 S) ?_
          refine aw_iload_n d_Mo_permute_40 rfl rfl ?_
          refine aw_iconst d_Mo_permute_41 ⟨by decide, by decide⟩ ?_
          refine aw_iload_n d_Mo_permute_42 rfl rfl ?_
          refine ax_imul d_Mo_permute_43 ⟨(by omega), (by omega)⟩ ?_
          refine ax_ti (x := 15) (by decide) ?_
          refine ax_iadd d_Mo_permute_44 ⟨(by omega), (by omega)⟩ ?_
          refine ax_lalde (x := K 195 (a + 15)) d_Mo_permute_45 (k_195 S) (by omega) (by rw [n_195 S]; omega) (Eq.trans (a_up_ne (Or.inl (by decide))) (Eq.trans (a_up_ne (Or.inl (by decide))) (Eq.trans (a_up_ne (Or.inl (by decide))) (Eq.trans (a_up_ne (Or.inl (by decide))) (Eq.trans (f1 _ _ (by decide)) (rfl)))))) ?_
          refine aw_lxor d_Mo_permute_46 ?_
          refine ax_last d_Mo_permute_47 (k_197 S) (by decide) (by omega) (by rw [n_197 S]; omega) ?_
          refine ax_iinc (lv' := [(3, vi 4), (2, vi a), (1, vi n), (0, vr 175)]) d_Mo_permute_48 rfl (by decide) ⟨(by omega), (by omega)⟩ rfl ?_
          refine aw_goto (tgt := 24) d_Mo_permute_51 (by decide) ?_
          refine aw_iload_n d_Mo_permute_24 rfl rfl ?_
          refine aw_iconst d_Mo_permute_25 ⟨by decide, by decide⟩ ?_
          refine aw_icmp_ge (tgt := 54) d_Mo_permute_26 (by decide) (fun c_26 => False.elim (by omega)) (fun c_26 => ?_)
          refine aw_aload_n d_Mo_permute_29 rfl rfl ?_
          refine ax_getR (b := 197) d_Mo_permute_30 fd_Mo_53 (k_175 S) (r_175_15 S) ?_
          refine aw_iload_n d_Mo_permute_33 rfl rfl ?_
          refine aw_dup2 d_Mo_permute_34 rfl rfl ?_
          refine ax_lalde (x := a_lxor (a_lxor (a_lxor (a_lxor 0 (K 195 (a + 0))) (K 195 (a + 5))) (K 195 (a + 10))) (K 195 (a + 15))) d_Mo_permute_35 (k_197 S) (by omega) (by rw [n_197 S]; omega) (a_up_at) ?_
          refine aw_aload_n d_Mo_permute_36 rfl rfl ?_
          refine ax_getR (b := 195) d_Mo_permute_37 fd_Mo_47 (k_175 S) (r_175_13 S) ?_
          refine aw_iload_n d_Mo_permute_40 rfl rfl ?_
          refine aw_iconst d_Mo_permute_41 ⟨by decide, by decide⟩ ?_
          refine aw_iload_n d_Mo_permute_42 rfl rfl ?_
          refine ax_imul d_Mo_permute_43 ⟨(by omega), (by omega)⟩ ?_
          refine ax_ti (x := 20) (by decide) ?_
          refine ax_iadd d_Mo_permute_44 ⟨(by omega), (by omega)⟩ ?_
          refine ax_lalde (x := K 195 (a + 20)) d_Mo_permute_45 (k_195 S) (by omega) (by rw [n_195 S]; omega) (Eq.trans (a_up_ne (Or.inl (by decide))) (Eq.trans (a_up_ne (Or.inl (by decide))) (Eq.trans (a_up_ne (Or.inl (by decide))) (Eq.trans (a_up_ne (Or.inl (by decide))) (Eq.trans (a_up_ne (Or.inl (by decide))) (Eq.trans (f1 _ _ (by decide)) (rfl))))))) ?_
          refine aw_lxor d_Mo_permute_46 ?_
          refine ax_last d_Mo_permute_47 (k_197 S) (by decide) (by omega) (by rw [n_197 S]; omega) ?_
          refine ax_iinc (lv' := [(3, vi 5), (2, vi a), (1, vi n), (0, vr 175)]) d_Mo_permute_48 rfl (by decide) ⟨(by omega), (by omega)⟩ rfl ?_
          refine aw_goto (tgt := 24) d_Mo_permute_51 (by decide) ?_
          refine aw_iload_n d_Mo_permute_24 rfl rfl ?_
          refine aw_iconst d_Mo_permute_25 ⟨by decide, by decide⟩ ?_
          refine aw_icmp_ge (tgt := 54) d_Mo_permute_26 (by decide) (fun c_26 => ?_) (fun c_26 => False.elim (by omega))
          refine ax_iinc (lv' := [(2, vi (a + 1)), (3, vi 5), (1, vi n), (0, vr 175)]) d_Mo_permute_54 rfl (by decide) ⟨(by omega), (by omega)⟩ rfl ?_
          refine aw_goto (tgt := 10) d_Mo_permute_57 (by decide) ?_
          refine aw_sub (lv' := [(2, vi (a + 1)), (1, vi n), (0, vr 175)]) (by simp) ?_
          exact ih_10 _ (by omega) (a + 1) (a_up (a_up (a_up (a_up (a_up (a_up K1 197 a 0) 197 a (a_lxor 0 (K 195 (a + 0)))) 197 a (a_lxor (a_lxor 0 (K 195 (a + 0))) (K 195 (a + 5)))) 197 a (a_lxor (a_lxor (a_lxor 0 (K 195 (a + 0))) (K 195 (a + 5))) (K 195 (a + 10)))) 197 a (a_lxor (a_lxor (a_lxor (a_lxor 0 (K 195 (a + 0))) (K 195 (a + 5))) (K 195 (a + 10))) (K 195 (a + 15)))) 197 a (a_lxor (a_lxor (a_lxor (a_lxor (a_lxor 0 (K 195 (a + 0))) (K 195 (a + 5))) (K 195 (a + 10))) (K 195 (a + 15))) (K 195 (a + 20)))) (by omega) (up_frame (up_frame (up_frame (up_frame (up_frame (up_frame f1)))))) (by rw [a_up_up, a_up_up, a_up_up, a_up_up, a_up_up]; exact row_step g1 (by rw [lxor_0 (by rw [← f1 _ _ (by decide)]; exact okk.2.1 _ _), Int.add_zero]; rfl)) rfl
      exact lp_10 _ 0 K (by omega) (fun _ _ _ => rfl) (fun j x y => by omega) rfl
  exact lp_2 _ 0 L (by omega) (fun _ _ _ _ _ => rfl) (rfl) rfl
