/-! the sponge, as numbers -/
def Sta (I L : Nat → Int → Int) : Prop := (∀ k j, k < 11 → k ≠ 8 → I k j = a_sI k j) ∧ ∀ j, L 8 j = a_sI 8 j
def cl (A : Int → Int) : Int → Int := fun j => if 0 ≤ j ∧ j < 25 then A j else 0
theorem cl_in {A : Int → Int} {j : Int} (h0 : 0 ≤ j) (h1 : j < 25) : cl A j = A j := if_pos ⟨h0, h1⟩
theorem cl_ext {A B : Int → Int} (h : ∀ j, 0 ≤ j → j < 25 → A j = B j) : cl A = cl B := by
  funext j
  unfold cl
  split
  · rename_i e
    exact h j e.1 e.2
  · rfl
theorem cl_cl (A : Int → Int) : cl (cl A) = cl A := cl_ext (fun _ h0 h1 => cl_in h0 h1)
def kC (A : Int → Int) (a : Int) : Int := a_lxor (a_lxor (a_lxor (a_lxor (A a) (A (a + 5))) (A (a + 10))) (A (a + 15))) (A (a + 20))
def kD (A : Int → Int) (a : Int) : Int := a_lxor (kC A ((a + 4) % 5)) (a_lor (a_lshl (kC A ((a + 1) % 5)) 1) (a_lushr (kC A ((a + 1) % 5)) 63))
def kRot (x n : Int) : Int := a_lor (a_lshl x n) (a_lushr x (64 - n))
def kV (A : Int → Int) (i : Int) : Int := kRot (a_lxor (A i) (kD A (i % 5))) (a_sI 10 i)
def igL : List Int := [0, 6, 12, 18, 24, 3, 9, 10, 16, 22, 1, 7, 13, 19, 20, 4, 5, 11, 17, 23, 2, 8, 14, 15, 21]
def ig (j : Int) : Int := igL.getD j.toNat 0
def kB (A : Int → Int) (j : Int) : Int := kV A (ig j)
def kX (B : Int → Int) (j : Int) : Int := a_lxor (B j) (a_land (a_lxor (B (5 * (j / 5) + (j + 1) % 5)) (-1)) (B (5 * (j / 5) + (j + 2) % 5)))
def kRound (rc : Int) (A : Int → Int) : Int → Int := cl (fun j => if j = 0 then a_lxor (kX (kB A) 0) rc else kX (kB A) j)
def kIter (A : Int → Int) : Nat → Int → Int
  | 0 => A
  | n + 1 => kRound (a_sI 8 n) (kIter A n)
def kPerm (A : Int → Int) : Int → Int := kIter A 24
theorem up25 {p : Int → Prop} (h : ∀ k : Nat, k < 25 → p k) {i : Int} (h0 : 0 ≤ i) (h1 : i < 25) : p i := by
  have := h i.toNat (by omega)
  rwa [Int.toNat_of_nonneg h0] at this
theorem gl_in {i : Int} (h0 : 0 ≤ i) (h1 : i < 25) : 0 ≤ a_sI 9 i ∧ a_sI 9 i < 25 := up25 (p := fun i => 0 ≤ a_sI 9 i ∧ a_sI 9 i < 25) (by decide +kernel) h0 h1
theorem tn_in {i : Int} (h0 : 0 ≤ i) (h1 : i < 25) : 0 ≤ a_sI 10 i ∧ a_sI 10 i < 64 := up25 (p := fun i => 0 ≤ a_sI 10 i ∧ a_sI 10 i < 64) (by decide +kernel) h0 h1
theorem ig_in {i : Int} (h0 : 0 ≤ i) (h1 : i < 25) : (0 ≤ ig i ∧ ig i < 25) ∧ a_sI 9 (ig i) = i := up25 (p := fun i => (0 ≤ ig i ∧ ig i < 25) ∧ a_sI 9 (ig i) = i) (by decide +kernel) h0 h1
theorem gl_ig {i : Int} (h0 : 0 ≤ i) (h1 : i < 25) : ig (a_sI 9 i) = i := up25 (p := fun i => ig (a_sI 9 i) = i) (by decide +kernel) h0 h1
theorem gl_ne {i k : Int} (h0 : 0 ≤ i) (h1 : i < 25) (h2 : 0 ≤ k) (h3 : k < 25) (h : i ≠ k) : a_sI 9 i ≠ a_sI 9 k := fun e => h (by rw [← gl_ig h0 h1, e, gl_ig h2 h3])
theorem kC_cl (A : Int → Int) {a : Int} (h0 : 0 ≤ a) (h1 : a < 5) : kC (cl A) a = kC A a := by
  unfold kC
  rw [cl_in (by omega) (by omega), cl_in (by omega) (by omega), cl_in (by omega) (by omega), cl_in (by omega) (by omega), cl_in (by omega) (by omega)]
theorem kD_cl (A : Int → Int) {a : Int} (h0 : 0 ≤ a) (h1 : a < 5) : kD (cl A) a = kD A a := by
  unfold kD
  rw [kC_cl A (by omega) (by omega), kC_cl A (by omega) (by omega)]
theorem kB_cl (A : Int → Int) {j : Int} (h0 : 0 ≤ j) (h1 : j < 25) : kB (cl A) j = kB A j := by
  have := ig_in h0 h1
  unfold kB kV
  rw [cl_in (by omega) (by omega), kD_cl A (by omega) (by omega)]
theorem kX_congr {A B : Int → Int} (h : ∀ j, 0 ≤ j → j < 25 → A j = B j) {j : Int} (h0 : 0 ≤ j) (h1 : j < 25) : kX A j = kX B j := by
  unfold kX
  rw [h j h0 h1, h _ (by omega) (by omega), h _ (by omega) (by omega)]
theorem kRound_cl (rc : Int) (A : Int → Int) : kRound rc (cl A) = kRound rc A := by
  unfold kRound
  refine cl_ext (fun j h0 h1 => ?_)
  rw [kX_congr (fun i a b => kB_cl A a b) (by omega) (by omega : (0 : Int) < 25), kX_congr (fun i a b => kB_cl A a b) h0 h1]
theorem row_step {K : Nat → Int → Int} {c : Nat} {a v : Int} {g : Int → Int} (h : ∀ j, 0 ≤ j → j < a → K c j = g j) (hv : v = g a) : ∀ j, 0 ≤ j → j < a + 1 → a_up K c a v c j = g j := by
  intro j h0 h1
  by_cases q : j = a
  · rw [q, a_up_at, hv]
  · rw [a_up_ne (Or.inr q), h j h0 (by omega)]
theorem up_frame {K K1 : Nat → Int → Int} {c : Nat} {a v : Int} (h : ∀ b j, b ≠ c → K1 b j = K b j) : ∀ b j, b ≠ c → a_up K1 c a v b j = K b j := fun b j hb => (a_up_ne (Or.inl hb)).trans (h b j hb)
theorem goal_step {K3 : Nat → Int → Int} {A : Int → Int} {b i v : Int} (h : ∀ k, 0 ≤ k → k < 25 → (k % 5 < b ∨ k % 5 = b ∧ k < i) → K3 40 (a_sI 9 k) = kV A k) (h0 : 0 ≤ i) (h1 : i < 25) (hv : v = kV A i) : ∀ k, 0 ≤ k → k < 25 → (k % 5 < b ∨ k % 5 = b ∧ k < i + 5) → i % 5 = b → a_up K3 40 (a_sI 9 i) v 40 (a_sI 9 k) = kV A k := by
  intro k k0 k1 hk hb
  by_cases q : k = i
  · rw [q, a_up_at, hv]
  · rw [a_up_ne (Or.inr (gl_ne k0 k1 h0 h1 q)), h k k0 k1 (by omega)]
theorem chi_step {K : Nat → Int → Int} {g : Int → Int} {c v0 v1 v2 v3 v4 : Int} (h : ∀ j, 0 ≤ j → j < c → K 39 j = g j) (e0 : v0 = g c) (e1 : v1 = g (c + 1)) (e2 : v2 = g (c + 2)) (e3 : v3 = g (c + 3)) (e4 : v4 = g (c + 4)) : ∀ j, 0 ≤ j → j < c + 5 → a_up (a_up (a_up (a_up (a_up K 39 c v0) 39 (c + 1) v1) 39 (c + 2) v2) 39 (c + 3) v3) 39 (c + 4) v4 39 j = g j := by
  intro j h0 h1
  have s1 := row_step h e0
  have s2 := row_step s1 e1
  have s3 := row_step (a := c + 2) (fun j a b => s2 j a (by omega)) e2
  have s4 := row_step (a := c + 3) (fun j a b => s3 j a (by omega)) e3
  have s5 := row_step (a := c + 4) (fun j a b => s4 j a (by omega)) e4
  exact s5 j h0 (by omega)
theorem kX_at (B : Int → Int) {c : Int} (h : c % 5 = 0) : kX B c = a_lxor (B c) (a_land (a_lxor (B (c + 1)) (-1)) (B (c + 2))) ∧ kX B (c + 1) = a_lxor (B (c + 1)) (a_land (a_lxor (B (c + 2)) (-1)) (B (c + 3))) ∧ kX B (c + 2) = a_lxor (B (c + 2)) (a_land (a_lxor (B (c + 3)) (-1)) (B (c + 4))) ∧ kX B (c + 3) = a_lxor (B (c + 3)) (a_land (a_lxor (B (c + 4)) (-1)) (B c)) ∧ kX B (c + 4) = a_lxor (B (c + 4)) (a_land (a_lxor (B c) (-1)) (B (c + 1))) := by
  unfold kX
  refine ⟨?_, ?_, ?_, ?_, ?_⟩
  · rw [show 5 * (c / 5) + (c + 1) % 5 = c + 1 by omega, show 5 * (c / 5) + (c + 2) % 5 = c + 2 by omega]
  · rw [show 5 * ((c + 1) / 5) + (c + 1 + 1) % 5 = c + 2 by omega, show 5 * ((c + 1) / 5) + (c + 1 + 2) % 5 = c + 3 by omega]
  · rw [show 5 * ((c + 2) / 5) + (c + 2 + 1) % 5 = c + 3 by omega, show 5 * ((c + 2) / 5) + (c + 2 + 2) % 5 = c + 4 by omega]
  · rw [show 5 * ((c + 3) / 5) + (c + 3 + 1) % 5 = c + 4 by omega, show 5 * ((c + 3) / 5) + (c + 3 + 2) % 5 = c by omega]
  · rw [show 5 * ((c + 4) / 5) + (c + 4 + 1) % 5 = c by omega, show 5 * ((c + 4) / 5) + (c + 4 + 2) % 5 = c + 1 by omega]
theorem round_end {K K4 : Nat → Int → Int} {v rc : Int} (h : ∀ j, 0 ≤ j → j < 25 → K4 39 j = kX (kB (K 39)) j) (hv : v = a_lxor (kX (kB (K 39)) 0) rc) : cl (a_up K4 39 0 v 39) = kRound rc (cl (K 39)) := by
  rw [kRound_cl]
  unfold kRound
  refine cl_ext (fun j h0 h1 => ?_)
  by_cases q : j = 0
  · rw [q, a_up_at, if_pos rfl, hv]
  · rw [a_up_ne (Or.inr q), if_neg q, h j h0 h1]
set_option maxHeartbeats 4000000 in
set_option maxRecDepth 100000 in
theorem c_Sp_permute {l : Launch} {G : a_G} {h : Hp} {I L : Nat → Int → Int} (S : Shp h) (ST : Sta I L) : AW l G M_Sp_permute (Ret (fun _ : Nat → Int → Int => none) (fun K => sD h I K) (fun K => (∀ a j, a ≠ 39 → a ≠ 40 → a ≠ 41 → K a j = L a j) ∧ cl (K 39) = kPerm (cl (L 39)))) 0 (a_ar 0 [vr 38]) [] (sD h I L) := by
  suffices key : ∀ P : a_R → Hp → Prop, (∀ K : Nat → Int → Int, (∀ a j, a ≠ 39 → a ≠ 40 → a ≠ 41 → K a j = L a j) → cl (K 39) = kPerm (cl (L 39)) → P (.inl none) (sD h I K)) → AW l G M_Sp_permute P 0 [(0, vr 38)] [] (sD h I L) from key _ (fun K q1 q2 => ⟨K, rfl, rfl, q1, q2⟩)
  intro P hP
  refine aw_iconst d_Sp_permute_0 ⟨by decide, by decide⟩ ?_
  refine aw_istore_n (lv' := [(1, vi 0), (0, vr 38)]) d_Sp_permute_1 rfl (by decide) rfl ?_
  have lp_2 : ∀ (n_ : Nat) (n : Int) (K : Nat → Int → Int), (0 ≤ n ∧ n ≤ 24) → (True ∧ ∀ a j, a ≠ 39 → a ≠ 40 → a ≠ 41 → K a j = L a j) → (cl (K 39) = kIter (cl (L 39)) n.toNat) → ((24 - n).toNat) = n_ → AW l G M_Sp_permute P 2 [(1, vi n), (0, vr 38)] [] (sD h I K) := by
    intro n_
    induction n_ using Nat.strongRecOn with
    | _ n_ ih_2 =>
    intro n K hn fK gK hm_2
    refine aw_iload_n d_Sp_permute_2 rfl rfl ?_
    refine aw_gets (j := 8) d_Sp_permute_3 (by decide) gs_Sp_58 ?_
    refine ax_alen (n := 24) d_Sp_permute_6 ⟨by rw [(k_8 S)]; decide, by rw [(k_8 S)]; decide⟩ ((n_8 S)) ?_
    refine aw_icmp_ge (tgt := 380) d_Sp_permute_7 (by decide) (fun c_7 => ?_) (fun c_7 => ?_)
    · skip
      exact aw_vret d_Sp_permute_380 rfl (hP K (fun a j a1 a2 a3 => fK.2 a j a1 a2 a3) (by rw [gK, show n = 24 by omega]; rfl))
    · skip
      refine aw_iconst d_Sp_permute_10 ⟨by decide, by decide⟩ ?_
      refine aw_istore_n (lv' := [(2, vi 0), (1, vi n), (0, vr 38)]) d_Sp_permute_11 rfl (by decide) rfl ?_
      have lp_12 : ∀ (n_ : Nat) (a : Int) (K1 : Nat → Int → Int), (0 ≤ a ∧ a ≤ 5) → (∀ b j, b ≠ 41 → K1 b j = K b j) → (∀ j, 0 ≤ j → j < a → K1 41 j = kC (K 39) j) → ((5 - a).toNat) = n_ → AW l G M_Sp_permute P 12 [(2, vi a), (1, vi n), (0, vr 38)] [] (sD h I K1) := by
        intro n_
        induction n_ using Nat.strongRecOn with
        | _ n_ ih_12 =>
        intro a K1 ha f1 g1 hm_12
        refine aw_iload_n d_Sp_permute_12 rfl rfl ?_
        refine aw_iconst d_Sp_permute_13 ⟨by decide, by decide⟩ ?_
        refine aw_icmp_ge (tgt := 74) d_Sp_permute_14 (by decide) (fun c_14 => ?_) (fun c_14 => ?_)
        · skip
          refine aw_iconst d_Sp_permute_74 ⟨by decide, by decide⟩ ?_
          refine aw_istore_n (lv' := [(2, vi 0), (1, vi n), (0, vr 38)]) d_Sp_permute_75 rfl (by decide) rfl ?_
          have lp_76 : ∀ (n_ : Nat) (b : Int) (K2 : Nat → Int → Int), (0 ≤ b ∧ b ≤ 5) → (∀ c j, c ≠ 40 → K2 c j = K1 c j) → (∀ k, 0 ≤ k → k < 25 → k % 5 < b → K2 40 (a_sI 9 k) = kV (K 39) k) → ((5 - b).toNat) = n_ → AW l G M_Sp_permute P 76 [(2, vi b), (1, vi n), (0, vr 38)] [] (sD h I K2) := by
            intro n_
            induction n_ using Nat.strongRecOn with
            | _ n_ ih_76 =>
            intro b K2 hb f2 g2 hm_76
            refine aw_iload_n d_Sp_permute_76 rfl rfl ?_
            refine aw_iconst d_Sp_permute_77 ⟨by decide, by decide⟩ ?_
            refine aw_icmp_ge (tgt := 180) d_Sp_permute_78 (by decide) (fun c_78 => ?_) (fun c_78 => ?_)
            · skip
              have m2 : ∀ j, 0 ≤ j → j < 25 → K2 40 j = kB (K 39) j := fun j x y => by have z := ig_in x y; have z2 := g2 (ig j) z.1.1 z.1.2 (by omega); rw [z.2] at z2; exact z2
              refine aw_iconst d_Sp_permute_180 ⟨by decide, by decide⟩ ?_
              refine aw_istore_n (lv' := [(2, vi 0), (1, vi n), (0, vr 38)]) d_Sp_permute_181 rfl (by decide) rfl ?_
              have lp_182 : ∀ (n_ : Nat) (c : Int) (K4 : Nat → Int → Int), (0 ≤ c ∧ c ≤ 25 ∧ c % 5 = 0) → (∀ b j, b ≠ 39 → K4 b j = K2 b j) → (∀ j, 0 ≤ j → j < c → K4 39 j = kX (kB (K 39)) j) → ((25 - c).toNat) = n_ → AW l G M_Sp_permute P 182 [(2, vi c), (1, vi n), (0, vr 38)] [] (sD h I K4) := by
                intro n_
                induction n_ using Nat.strongRecOn with
                | _ n_ ih_182 =>
                intro c K4 hc f4 g4 hm_182
                refine aw_iload_n d_Sp_permute_182 rfl rfl ?_
                refine aw_bipush d_Sp_permute_183 ⟨by decide, by decide⟩ (by decide) ?_
                refine aw_icmp_ge (tgt := 360) d_Sp_permute_185 (by decide) (fun c_185 => ?_) (fun c_185 => ?_)
                · skip
                  refine aw_aload_n d_Sp_permute_360 rfl rfl ?_
                  refine ax_getR (b := 39) d_Sp_permute_361 fd_Sp_9 (k_38 S) (r_38_0 S) ?_
                  refine aw_iconst d_Sp_permute_364 ⟨by decide, by decide⟩ ?_
                  refine aw_dup2 d_Sp_permute_365 rfl rfl ?_
                  refine ax_lalde (x := kX (kB (K 39)) 0) d_Sp_permute_366 (k_39 S) (by omega) (by rw [n_39 S]; omega) (g4 _ (by omega) (by omega)) ?_
                  refine aw_gets (j := 8) d_Sp_permute_367 (by decide) gs_Sp_58 ?_
                  refine aw_iload_n d_Sp_permute_370 rfl rfl ?_
                  refine ax_lalde (x := a_sI 8 n) d_Sp_permute_371 (k_8 S) (by omega) (by rw [n_8 S]; omega) (Eq.trans (f4 _ _ (by decide)) (Eq.trans (f2 _ _ (by decide)) (Eq.trans (f1 _ _ (by decide)) ((fK.2 _ _ (by decide) (by decide) (by decide)).trans (ST.2 _))))) ?_
                  refine aw_lxor d_Sp_permute_372 ?_
                  refine ax_last d_Sp_permute_373 (k_39 S) (by decide) (by omega) (by rw [n_39 S]; omega) ?_
                  refine ax_iinc (lv' := [(1, vi (n + 1)), (2, vi c), (0, vr 38)]) d_Sp_permute_374 rfl (by decide) ⟨(by omega), (by omega)⟩ rfl ?_
                  refine aw_goto (tgt := 2) d_Sp_permute_377 (by decide) ?_
                  refine aw_sub (lv' := [(1, vi (n + 1)), (0, vr 38)]) (by simp) ?_
                  exact ih_2 _ (by omega) (n + 1) (a_up K4 39 0 (a_lxor (kX (kB (K 39)) 0) (a_sI 8 n))) (by omega) (⟨trivial, fun a j a1 a2 a3 => (a_up_ne (Or.inl a1)).trans ((f4 _ _ a1).trans ((f2 _ _ a2).trans ((f1 _ _ a3).trans (fK.2 _ _ a1 a2 a3))))⟩) (by rw [round_end (rc := a_sI 8 n) (fun j a b => g4 j a (by omega)) rfl, gK, show (n + 1).toNat = n.toNat + 1 by omega]; show _ = kRound (a_sI 8 (n.toNat : Int)) _; rw [Int.toNat_of_nonneg hn.1]) rfl
                · skip
                  refine aw_aload_n d_Sp_permute_188 rfl rfl ?_
                  refine ax_getR (b := 40) d_Sp_permute_189 fd_Sp_13 (k_38 S) (r_38_1 S) ?_
                  refine aw_iload_n d_Sp_permute_192 rfl rfl ?_
                  refine ax_lalde (x := kB (K 39) c) d_Sp_permute_193 (k_40 S) (by omega) (by rw [n_40 S]; omega) (Eq.trans (f4 _ _ (by decide)) (m2 _ (by omega) (by omega))) ?_
                  refine aw_lstore_n (lv' := [(3, vl (kB (K 39) c)), (2, vi c), (1, vi n), (0, vr 38)]) d_Sp_permute_194 rfl (by decide) rfl ?_
                  refine aw_aload_n d_Sp_permute_195 rfl rfl ?_
                  refine ax_getR (b := 40) d_Sp_permute_196 fd_Sp_13 (k_38 S) (r_38_1 S) ?_
                  refine aw_iload_n d_Sp_permute_199 rfl rfl ?_
                  refine aw_iconst d_Sp_permute_200 ⟨by decide, by decide⟩ ?_
                  refine ax_iadd d_Sp_permute_201 ⟨(by omega), (by omega)⟩ ?_
                  refine ax_lalde (x := kB (K 39) (c + 1)) d_Sp_permute_202 (k_40 S) (by omega) (by rw [n_40 S]; omega) (Eq.trans (f4 _ _ (by decide)) (m2 _ (by omega) (by omega))) ?_
                  refine aw_lstore (lv' := [(5, vl (kB (K 39) (c + 1))), (3, vl (kB (K 39) c)), (2, vi c), (1, vi n), (0, vr 38)]) d_Sp_permute_203 (by decide) rfl ?_
                  refine aw_aload_n d_Sp_permute_205 rfl rfl ?_
                  refine ax_getR (b := 39) d_Sp_permute_206 fd_Sp_9 (k_38 S) (r_38_0 S) ?_
                  refine aw_iload_n d_Sp_permute_209 rfl rfl ?_
                  refine aw_lload_n d_Sp_permute_210 rfl rfl ?_
                  refine aw_lload d_Sp_permute_211 rfl ?_
                  refine aw_ldc2 (n := -1) d_Sp_permute_213 lc_Sp_68 ⟨by decide, by decide⟩ ?_
                  refine aw_lxor d_Sp_permute_216 ?_
                  refine aw_aload_n d_Sp_permute_217 rfl rfl ?_
                  refine ax_getR (b := 40) d_Sp_permute_218 fd_Sp_13 (k_38 S) (r_38_1 S) ?_
                  refine aw_iload_n d_Sp_permute_221 rfl rfl ?_
                  refine aw_iconst d_Sp_permute_222 ⟨by decide, by decide⟩ ?_
                  refine ax_iadd d_Sp_permute_223 ⟨(by omega), (by omega)⟩ ?_
                  refine ax_lalde (x := kB (K 39) (c + 2)) d_Sp_permute_224 (k_40 S) (by omega) (by rw [n_40 S]; omega) (Eq.trans (f4 _ _ (by decide)) (m2 _ (by omega) (by omega))) ?_
                  refine aw_land d_Sp_permute_225 ?_
                  refine aw_lxor d_Sp_permute_226 ?_
                  refine ax_last d_Sp_permute_227 (k_39 S) (by decide) (by omega) (by rw [n_39 S]; omega) ?_
                  refine aw_aload_n d_Sp_permute_228 rfl rfl ?_
                  refine ax_getR (b := 39) d_Sp_permute_229 fd_Sp_9 (k_38 S) (r_38_0 S) ?_
                  refine aw_iload_n d_Sp_permute_232 rfl rfl ?_
                  refine aw_iconst d_Sp_permute_233 ⟨by decide, by decide⟩ ?_
                  refine ax_iadd d_Sp_permute_234 ⟨(by omega), (by omega)⟩ ?_
                  refine aw_lload d_Sp_permute_235 rfl ?_
                  refine aw_aload_n d_Sp_permute_237 rfl rfl ?_
                  refine ax_getR (b := 40) d_Sp_permute_238 fd_Sp_13 (k_38 S) (r_38_1 S) ?_
                  refine aw_iload_n d_Sp_permute_241 rfl rfl ?_
                  refine aw_iconst d_Sp_permute_242 ⟨by decide, by decide⟩ ?_
                  refine ax_iadd d_Sp_permute_243 ⟨(by omega), (by omega)⟩ ?_
                  refine ax_lalde (x := kB (K 39) (c + 2)) d_Sp_permute_244 (k_40 S) (by omega) (by rw [n_40 S]; omega) (Eq.trans (a_up_ne (Or.inl (by decide))) (Eq.trans (f4 _ _ (by decide)) (m2 _ (by omega) (by omega)))) ?_
                  refine aw_ldc2 (n := -1) d_Sp_permute_245 lc_Sp_68 ⟨by decide, by decide⟩ ?_
                  refine aw_lxor d_Sp_permute_248 ?_
                  refine aw_aload_n d_Sp_permute_249 rfl rfl ?_
                  refine ax_getR (b := 40) d_Sp_permute_250 fd_Sp_13 (k_38 S) (r_38_1 S) ?_
                  refine aw_iload_n d_Sp_permute_253 rfl rfl ?_
                  refine aw_iconst d_Sp_permute_254 ⟨by decide, by decide⟩ ?_
                  refine ax_iadd d_Sp_permute_255 ⟨(by omega), (by omega)⟩ ?_
                  refine ax_lalde (x := kB (K 39) (c + 3)) d_Sp_permute_256 (k_40 S) (by omega) (by rw [n_40 S]; omega) (Eq.trans (a_up_ne (Or.inl (by decide))) (Eq.trans (f4 _ _ (by decide)) (m2 _ (by omega) (by omega)))) ?_
                  refine aw_land d_Sp_permute_257 ?_
                  refine aw_lxor d_Sp_permute_258 ?_
                  refine ax_last d_Sp_permute_259 (k_39 S) (by decide) (by omega) (by rw [n_39 S]; omega) ?_
                  refine aw_aload_n d_Sp_permute_260 rfl rfl ?_
                  refine ax_getR (b := 39) d_Sp_permute_261 fd_Sp_9 (k_38 S) (r_38_0 S) ?_
                  refine aw_iload_n d_Sp_permute_264 rfl rfl ?_
                  refine aw_iconst d_Sp_permute_265 ⟨by decide, by decide⟩ ?_
                  refine ax_iadd d_Sp_permute_266 ⟨(by omega), (by omega)⟩ ?_
                  refine aw_aload_n d_Sp_permute_267 rfl rfl ?_
                  refine ax_getR (b := 40) d_Sp_permute_268 fd_Sp_13 (k_38 S) (r_38_1 S) ?_
                  refine aw_iload_n d_Sp_permute_271 rfl rfl ?_
                  refine aw_iconst d_Sp_permute_272 ⟨by decide, by decide⟩ ?_
                  refine ax_iadd d_Sp_permute_273 ⟨(by omega), (by omega)⟩ ?_
                  refine ax_lalde (x := kB (K 39) (c + 2)) d_Sp_permute_274 (k_40 S) (by omega) (by rw [n_40 S]; omega) (Eq.trans (a_up_ne (Or.inl (by decide))) (Eq.trans (a_up_ne (Or.inl (by decide))) (Eq.trans (f4 _ _ (by decide)) (m2 _ (by omega) (by omega))))) ?_
                  refine aw_aload_n d_Sp_permute_275 rfl rfl ?_
                  refine ax_getR (b := 40) d_Sp_permute_276 fd_Sp_13 (k_38 S) (r_38_1 S) ?_
                  refine aw_iload_n d_Sp_permute_279 rfl rfl ?_
                  refine aw_iconst d_Sp_permute_280 ⟨by decide, by decide⟩ ?_
                  refine ax_iadd d_Sp_permute_281 ⟨(by omega), (by omega)⟩ ?_
                  refine ax_lalde (x := kB (K 39) (c + 3)) d_Sp_permute_282 (k_40 S) (by omega) (by rw [n_40 S]; omega) (Eq.trans (a_up_ne (Or.inl (by decide))) (Eq.trans (a_up_ne (Or.inl (by decide))) (Eq.trans (f4 _ _ (by decide)) (m2 _ (by omega) (by omega))))) ?_
                  refine aw_ldc2 (n := -1) d_Sp_permute_283 lc_Sp_68 ⟨by decide, by decide⟩ ?_
                  refine aw_lxor d_Sp_permute_286 ?_
                  refine aw_aload_n d_Sp_permute_287 rfl rfl ?_
                  refine ax_getR (b := 40) d_Sp_permute_288 fd_Sp_13 (k_38 S) (r_38_1 S) ?_
                  refine aw_iload_n d_Sp_permute_291 rfl rfl ?_
                  refine aw_iconst d_Sp_permute_292 ⟨by decide, by decide⟩ ?_
                  refine ax_iadd d_Sp_permute_293 ⟨(by omega), (by omega)⟩ ?_
                  refine ax_lalde (x := kB (K 39) (c + 4)) d_Sp_permute_294 (k_40 S) (by omega) (by rw [n_40 S]; omega) (Eq.trans (a_up_ne (Or.inl (by decide))) (Eq.trans (a_up_ne (Or.inl (by decide))) (Eq.trans (f4 _ _ (by decide)) (m2 _ (by omega) (by omega))))) ?_
                  refine aw_land d_Sp_permute_295 ?_
                  refine aw_lxor d_Sp_permute_296 ?_
                  refine ax_last d_Sp_permute_297 (k_39 S) (by decide) (by omega) (by rw [n_39 S]; omega) ?_
                  refine aw_aload_n d_Sp_permute_298 rfl rfl ?_
                  refine ax_getR (b := 39) d_Sp_permute_299 fd_Sp_9 (k_38 S) (r_38_0 S) ?_
                  refine aw_iload_n d_Sp_permute_302 rfl rfl ?_
                  refine aw_iconst d_Sp_permute_303 ⟨by decide, by decide⟩ ?_
                  refine ax_iadd d_Sp_permute_304 ⟨(by omega), (by omega)⟩ ?_
                  refine aw_aload_n d_Sp_permute_305 rfl rfl ?_
                  refine ax_getR (b := 40) d_Sp_permute_306 fd_Sp_13 (k_38 S) (r_38_1 S) ?_
                  refine aw_iload_n d_Sp_permute_309 rfl rfl ?_
                  refine aw_iconst d_Sp_permute_310 ⟨by decide, by decide⟩ ?_
                  refine ax_iadd d_Sp_permute_311 ⟨(by omega), (by omega)⟩ ?_
                  refine ax_lalde (x := kB (K 39) (c + 3)) d_Sp_permute_312 (k_40 S) (by omega) (by rw [n_40 S]; omega) (Eq.trans (a_up_ne (Or.inl (by decide))) (Eq.trans (a_up_ne (Or.inl (by decide))) (Eq.trans (a_up_ne (Or.inl (by decide))) (Eq.trans (f4 _ _ (by decide)) (m2 _ (by omega) (by omega)))))) ?_
                  refine aw_aload_n d_Sp_permute_313 rfl rfl ?_
                  refine ax_getR (b := 40) d_Sp_permute_314 fd_Sp_13 (k_38 S) (r_38_1 S) ?_
                  refine aw_iload_n d_Sp_permute_317 rfl rfl ?_
                  refine aw_iconst d_Sp_permute_318 ⟨by decide, by decide⟩ ?_
                  refine ax_iadd d_Sp_permute_319 ⟨(by omega), (by omega)⟩ ?_
                  refine ax_lalde (x := kB (K 39) (c + 4)) d_Sp_permute_320 (k_40 S) (by omega) (by rw [n_40 S]; omega) (Eq.trans (a_up_ne (Or.inl (by decide))) (Eq.trans (a_up_ne (Or.inl (by decide))) (Eq.trans (a_up_ne (Or.inl (by decide))) (Eq.trans (f4 _ _ (by decide)) (m2 _ (by omega) (by omega)))))) ?_
                  refine aw_ldc2 (n := -1) d_Sp_permute_321 lc_Sp_68 ⟨by decide, by decide⟩ ?_
                  refine aw_lxor d_Sp_permute_324 ?_
                  refine aw_lload_n d_Sp_permute_325 rfl rfl ?_
                  refine aw_land d_Sp_permute_326 ?_
                  refine aw_lxor d_Sp_permute_327 ?_
                  refine ax_last d_Sp_permute_328 (k_39 S) (by decide) (by omega) (by rw [n_39 S]; omega) ?_
                  refine aw_aload_n d_Sp_permute_329 rfl rfl ?_
                  refine ax_getR (b := 39) d_Sp_permute_330 fd_Sp_9 (k_38 S) (r_38_0 S) ?_
                  refine aw_iload_n d_Sp_permute_333 rfl rfl ?_
                  refine aw_iconst d_Sp_permute_334 ⟨by decide, by decide⟩ ?_
                  refine ax_iadd d_Sp_permute_335 ⟨(by omega), (by omega)⟩ ?_
                  refine aw_aload_n d_Sp_permute_336 rfl rfl ?_
                  refine ax_getR (b := 40) d_Sp_permute_337 fd_Sp_13 (k_38 S) (r_38_1 S) ?_
                  refine aw_iload_n d_Sp_permute_340 rfl rfl ?_
                  refine aw_iconst d_Sp_permute_341 ⟨by decide, by decide⟩ ?_
                  refine ax_iadd d_Sp_permute_342 ⟨(by omega), (by omega)⟩ ?_
                  refine ax_lalde (x := kB (K 39) (c + 4)) d_Sp_permute_343 (k_40 S) (by omega) (by rw [n_40 S]; omega) (Eq.trans (a_up_ne (Or.inl (by decide))) (Eq.trans (a_up_ne (Or.inl (by decide))) (Eq.trans (a_up_ne (Or.inl (by decide))) (Eq.trans (a_up_ne (Or.inl (by decide))) (Eq.trans (f4 _ _ (by decide)) (m2 _ (by omega) (by omega))))))) ?_
                  refine aw_lload_n d_Sp_permute_344 rfl rfl ?_
                  refine aw_ldc2 (n := -1) d_Sp_permute_345 lc_Sp_68 ⟨by decide, by decide⟩ ?_
                  refine aw_lxor d_Sp_permute_348 ?_
                  refine aw_lload d_Sp_permute_349 rfl ?_
                  refine aw_land d_Sp_permute_351 ?_
                  refine aw_lxor d_Sp_permute_352 ?_
                  refine ax_last d_Sp_permute_353 (k_39 S) (by decide) (by omega) (by rw [n_39 S]; omega) ?_
                  refine ax_iinc (lv' := [(2, vi (c + 5)), (5, vl (kB (K 39) (c + 1))), (3, vl (kB (K 39) c)), (1, vi n), (0, vr 38)]) d_Sp_permute_354 rfl (by decide) ⟨(by omega), (by omega)⟩ rfl ?_
                  refine aw_goto (tgt := 182) d_Sp_permute_357 (by decide) ?_
                  refine aw_sub (lv' := [(2, vi (c + 5)), (1, vi n), (0, vr 38)]) (by simp) ?_
                  exact ih_182 _ (by omega) (c + 5) (a_up (a_up (a_up (a_up (a_up K4 39 c (a_lxor (kB (K 39) c) (a_land (a_lxor (kB (K 39) (c + 1)) (-1)) (kB (K 39) (c + 2))))) 39 (c + 1) (a_lxor (kB (K 39) (c + 1)) (a_land (a_lxor (kB (K 39) (c + 2)) (-1)) (kB (K 39) (c + 3))))) 39 (c + 2) (a_lxor (kB (K 39) (c + 2)) (a_land (a_lxor (kB (K 39) (c + 3)) (-1)) (kB (K 39) (c + 4))))) 39 (c + 3) (a_lxor (kB (K 39) (c + 3)) (a_land (a_lxor (kB (K 39) (c + 4)) (-1)) (kB (K 39) c)))) 39 (c + 4) (a_lxor (kB (K 39) (c + 4)) (a_land (a_lxor (kB (K 39) c) (-1)) (kB (K 39) (c + 1))))) (by omega) (up_frame (up_frame (up_frame (up_frame (up_frame f4))))) (chi_step g4 (kX_at _ hc.2.2).1.symm (kX_at _ hc.2.2).2.1.symm (kX_at _ hc.2.2).2.2.1.symm (kX_at _ hc.2.2).2.2.2.1.symm (kX_at _ hc.2.2).2.2.2.2.symm) rfl
              exact lp_182 _ 0 K2 (by omega) (fun _ _ _ => rfl) (fun j x y => by omega) rfl
            · skip
              refine aw_aload_n d_Sp_permute_81 rfl rfl ?_
              refine ax_getR (b := 41) d_Sp_permute_82 fd_Sp_16 (k_38 S) (r_38_2 S) ?_
              refine aw_iload_n d_Sp_permute_85 rfl rfl ?_
              refine aw_iconst d_Sp_permute_86 ⟨by decide, by decide⟩ ?_
              refine ax_iadd d_Sp_permute_87 ⟨(by omega), (by omega)⟩ ?_
              refine aw_iconst d_Sp_permute_88 ⟨by decide, by decide⟩ ?_
              refine ax_irem d_Sp_permute_89 (by omega) (by omega) ?_
              refine ax_lalde (x := kC (K 39) ((b + 1) % 5)) d_Sp_permute_90 (k_41 S) (by omega) (by rw [n_41 S]; omega) (Eq.trans (f2 _ _ (by decide)) (g1 _ (by omega) (by omega))) ?_
              refine aw_lstore_n (lv' := [(3, vl (kC (K 39) ((b + 1) % 5))), (2, vi b), (1, vi n), (0, vr 38)]) d_Sp_permute_91 rfl (by decide) rfl ?_
              refine aw_aload_n d_Sp_permute_92 rfl rfl ?_
              refine ax_getR (b := 41) d_Sp_permute_93 fd_Sp_16 (k_38 S) (r_38_2 S) ?_
              refine aw_iload_n d_Sp_permute_96 rfl rfl ?_
              refine aw_iconst d_Sp_permute_97 ⟨by decide, by decide⟩ ?_
              refine ax_iadd d_Sp_permute_98 ⟨(by omega), (by omega)⟩ ?_
              refine aw_iconst d_Sp_permute_99 ⟨by decide, by decide⟩ ?_
              refine ax_irem d_Sp_permute_100 (by omega) (by omega) ?_
              refine ax_lalde (x := kC (K 39) ((b + 4) % 5)) d_Sp_permute_101 (k_41 S) (by omega) (by rw [n_41 S]; omega) (Eq.trans (f2 _ _ (by decide)) (g1 _ (by omega) (by omega))) ?_
              refine aw_lload_n d_Sp_permute_102 rfl rfl ?_
              refine aw_iconst d_Sp_permute_103 ⟨by decide, by decide⟩ ?_
              refine aw_lshl d_Sp_permute_104 ?_
              refine aw_lload_n d_Sp_permute_105 rfl rfl ?_
              refine aw_bipush d_Sp_permute_106 ⟨by decide, by decide⟩ (by decide) ?_
              refine aw_lushr d_Sp_permute_108 ?_
              refine aw_lor d_Sp_permute_109 ?_
              refine aw_lxor d_Sp_permute_110 ?_
              refine ax_tl (x := kD (K 39) b) (rfl) ?_
              refine aw_lstore (lv' := [(5, vl (kD (K 39) b)), (3, vl (kC (K 39) ((b + 1) % 5))), (2, vi b), (1, vi n), (0, vr 38)]) d_Sp_permute_111 (by decide) rfl ?_
              refine aw_iload_n d_Sp_permute_113 rfl rfl ?_
              refine aw_istore (lv' := [(7, vi b), (5, vl (kD (K 39) b)), (3, vl (kC (K 39) ((b + 1) % 5))), (2, vi b), (1, vi n), (0, vr 38)]) d_Sp_permute_114 (by decide) rfl ?_
              have lp_116 : ∀ (n_ : Nat) (i : Int) (K3 : Nat → Int → Int), (0 ≤ i ∧ i < 30 ∧ i % 5 = b) → (∀ c j, c ≠ 40 → K3 c j = K2 c j) → (∀ k, 0 ≤ k → k < 25 → (k % 5 < b ∨ k % 5 = b ∧ k < i) → K3 40 (a_sI 9 k) = kV (K 39) k) → ((30 - i).toNat) = n_ → AW l G M_Sp_permute P 116 [(7, vi i), (5, vl (kD (K 39) b)), (2, vi b), (1, vi n), (0, vr 38)] [] (sD h I K3) := by
                intro n_
                induction n_ using Nat.strongRecOn with
                | _ n_ ih_116 =>
                intro i K3 hi f3 g3 hm_116
                refine aw_iload d_Sp_permute_116 rfl ?_
                refine aw_bipush d_Sp_permute_118 ⟨by decide, by decide⟩ (by decide) ?_
                refine aw_icmp_ge (tgt := 174) d_Sp_permute_120 (by decide) (fun c_120 => ?_) (fun c_120 => ?_)
                · skip
                  refine ax_iinc (lv' := [(2, vi (b + 1)), (7, vi i), (5, vl (kD (K 39) b)), (1, vi n), (0, vr 38)]) d_Sp_permute_174 rfl (by decide) ⟨(by omega), (by omega)⟩ rfl ?_
                  refine aw_goto (tgt := 76) d_Sp_permute_177 (by decide) ?_
                  refine aw_sub (lv' := [(2, vi (b + 1)), (1, vi n), (0, vr 38)]) (by simp) ?_
                  exact ih_76 _ (by omega) (b + 1) K3 (by omega) (fun c j hc => (f3 c j hc).trans (f2 c j hc)) (fun k x y z => g3 k x y (by omega)) rfl
                · skip
                  refine aw_aload_n d_Sp_permute_123 rfl rfl ?_
                  refine ax_getR (b := 39) d_Sp_permute_124 fd_Sp_9 (k_38 S) (r_38_0 S) ?_
                  refine aw_iload d_Sp_permute_127 rfl ?_
                  refine ax_lalde (x := K 39 i) d_Sp_permute_129 (k_39 S) (by omega) (by rw [n_39 S]; omega) (Eq.trans (f3 _ _ (by decide)) (Eq.trans (f2 _ _ (by decide)) (Eq.trans (f1 _ _ (by decide)) (rfl)))) ?_
                  refine aw_lload d_Sp_permute_130 rfl ?_
                  refine aw_lxor d_Sp_permute_132 ?_
                  refine aw_lstore (lv' := [(8, vl (a_lxor (K 39 i) (kD (K 39) b))), (7, vi i), (5, vl (kD (K 39) b)), (2, vi b), (1, vi n), (0, vr 38)]) d_Sp_permute_133 (by decide) rfl ?_
                  refine aw_aload_n d_Sp_permute_135 rfl rfl ?_
                  refine ax_getR (b := 40) d_Sp_permute_136 fd_Sp_13 (k_38 S) (r_38_1 S) ?_
                  refine aw_gets (j := 9) d_Sp_permute_139 (by decide) gs_Sp_61 ?_
                  refine aw_iload d_Sp_permute_142 rfl ?_
                  refine ax_ialde (x := a_sI 9 i) d_Sp_permute_144 (k_9 S) (by omega) (by rw [n_9 S]; omega) (ST.1 9 _ (by decide) (by decide)) ?_
                  refine aw_lload d_Sp_permute_145 rfl ?_
                  refine aw_gets (j := 10) d_Sp_permute_147 (by decide) gs_Sp_65 ?_
                  refine aw_iload d_Sp_permute_150 rfl ?_
                  refine ax_ialde (x := a_sI 10 i) d_Sp_permute_152 (k_10 S) (by omega) (by rw [n_10 S]; omega) (ST.1 10 _ (by decide) (by decide)) ?_
                  refine aw_lshl d_Sp_permute_153 ?_
                  refine aw_lload d_Sp_permute_154 rfl ?_
                  refine aw_bipush d_Sp_permute_156 ⟨by decide, by decide⟩ (by decide) ?_
                  refine aw_gets (j := 10) d_Sp_permute_158 (by decide) gs_Sp_65 ?_
                  refine aw_iload d_Sp_permute_161 rfl ?_
                  refine ax_ialde (x := a_sI 10 i) d_Sp_permute_163 (k_10 S) (by omega) (by rw [n_10 S]; omega) (ST.1 10 _ (by decide) (by decide)) ?_
                  refine ax_isub d_Sp_permute_164 ⟨(by have := tn_in (i := i) (by omega) (by omega); omega), (by have := tn_in (i := i) (by omega) (by omega); omega)⟩ ?_
                  refine aw_lushr d_Sp_permute_165 ?_
                  refine aw_lor d_Sp_permute_166 ?_
                  refine ax_last d_Sp_permute_167 (k_40 S) (by decide) ((gl_in (by omega) (by omega)).1) (by rw [n_40 S]; exact (gl_in (by omega) (by omega)).2) ?_
                  refine ax_iinc (lv' := [(7, vi (i + 5)), (8, vl (a_lxor (K 39 i) (kD (K 39) b))), (5, vl (kD (K 39) b)), (2, vi b), (1, vi n), (0, vr 38)]) d_Sp_permute_168 rfl (by decide) ⟨(by omega), (by omega)⟩ rfl ?_
                  refine aw_goto (tgt := 116) d_Sp_permute_171 (by decide) ?_
                  refine aw_sub (lv' := [(7, vi (i + 5)), (5, vl (kD (K 39) b)), (2, vi b), (1, vi n), (0, vr 38)]) (by simp) ?_
                  exact ih_116 _ (by omega) (i + 5) (a_up K3 40 (a_sI 9 i) (a_lor (a_lshl (a_lxor (K 39 i) (kD (K 39) b)) (a_sI 10 i)) (a_lushr (a_lxor (K 39 i) (kD (K 39) b)) (64 - (a_sI 10 i))))) (by omega) (up_frame f3) (fun k x y z => goal_step g3 (by omega) (by omega) (by unfold kV; rw [hi.2.2]; rfl) k x y z hi.2.2) rfl
              refine aw_sub (lv' := [(7, vi b), (5, vl (kD (K 39) b)), (2, vi b), (1, vi n), (0, vr 38)]) (by simp) ?_
              exact lp_116 _ b K2 (by omega) (fun _ _ _ => rfl) (fun k x y z => g2 k x y (by omega)) rfl
          exact lp_76 _ 0 K1 (by omega) (fun _ _ _ => rfl) (fun k x y z => by omega) rfl
        · skip
          refine aw_aload_n d_Sp_permute_17 rfl rfl ?_
          refine ax_getR (b := 41) d_Sp_permute_18 fd_Sp_16 (k_38 S) (r_38_2 S) ?_
          refine aw_iload_n d_Sp_permute_21 rfl rfl ?_
          refine aw_aload_n d_Sp_permute_22 rfl rfl ?_
          refine ax_getR (b := 39) d_Sp_permute_23 fd_Sp_9 (k_38 S) (r_38_0 S) ?_
          refine aw_iload_n d_Sp_permute_26 rfl rfl ?_
          refine ax_lalde (x := K 39 a) d_Sp_permute_27 (k_39 S) (by omega) (by rw [n_39 S]; omega) (Eq.trans (f1 _ _ (by decide)) (rfl)) ?_
          refine aw_aload_n d_Sp_permute_28 rfl rfl ?_
          refine ax_getR (b := 39) d_Sp_permute_29 fd_Sp_9 (k_38 S) (r_38_0 S) ?_
          refine aw_iload_n d_Sp_permute_32 rfl rfl ?_
          refine aw_iconst d_Sp_permute_33 ⟨by decide, by decide⟩ ?_
          refine ax_iadd d_Sp_permute_34 ⟨(by omega), (by omega)⟩ ?_
          refine ax_lalde (x := K 39 (a + 5)) d_Sp_permute_35 (k_39 S) (by omega) (by rw [n_39 S]; omega) (Eq.trans (f1 _ _ (by decide)) (rfl)) ?_
          refine aw_lxor d_Sp_permute_36 ?_
          refine aw_aload_n d_Sp_permute_37 rfl rfl ?_
          refine ax_getR (b := 39) d_Sp_permute_38 fd_Sp_9 (k_38 S) (r_38_0 S) ?_
          refine aw_iload_n d_Sp_permute_41 rfl rfl ?_
          refine aw_bipush d_Sp_permute_42 ⟨by decide, by decide⟩ (by decide) ?_
          refine ax_iadd d_Sp_permute_44 ⟨(by omega), (by omega)⟩ ?_
          refine ax_lalde (x := K 39 (a + 10)) d_Sp_permute_45 (k_39 S) (by omega) (by rw [n_39 S]; omega) (Eq.trans (f1 _ _ (by decide)) (rfl)) ?_
          refine aw_lxor d_Sp_permute_46 ?_
          refine aw_aload_n d_Sp_permute_47 rfl rfl ?_
          refine ax_getR (b := 39) d_Sp_permute_48 fd_Sp_9 (k_38 S) (r_38_0 S) ?_
          refine aw_iload_n d_Sp_permute_51 rfl rfl ?_
          refine aw_bipush d_Sp_permute_52 ⟨by decide, by decide⟩ (by decide) ?_
          refine ax_iadd d_Sp_permute_54 ⟨(by omega), (by omega)⟩ ?_
          refine ax_lalde (x := K 39 (a + 15)) d_Sp_permute_55 (k_39 S) (by omega) (by rw [n_39 S]; omega) (Eq.trans (f1 _ _ (by decide)) (rfl)) ?_
          refine aw_lxor d_Sp_permute_56 ?_
          refine aw_aload_n d_Sp_permute_57 rfl rfl ?_
          refine ax_getR (b := 39) d_Sp_permute_58 fd_Sp_9 (k_38 S) (r_38_0 S) ?_
          refine aw_iload_n d_Sp_permute_61 rfl rfl ?_
          refine aw_bipush d_Sp_permute_62 ⟨by decide, by decide⟩ (by decide) ?_
          refine ax_iadd d_Sp_permute_64 ⟨(by omega), (by omega)⟩ ?_
          refine ax_lalde (x := K 39 (a + 20)) d_Sp_permute_65 (k_39 S) (by omega) (by rw [n_39 S]; omega) (Eq.trans (f1 _ _ (by decide)) (rfl)) ?_
          refine aw_lxor d_Sp_permute_66 ?_
          refine ax_last d_Sp_permute_67 (k_41 S) (by decide) (by omega) (by rw [n_41 S]; omega) ?_
          refine ax_iinc (lv' := [(2, vi (a + 1)), (1, vi n), (0, vr 38)]) d_Sp_permute_68 rfl (by decide) ⟨(by omega), (by omega)⟩ rfl ?_
          refine aw_goto (tgt := 12) d_Sp_permute_71 (by decide) ?_
          exact ih_12 _ (by omega) (a + 1) (a_up K1 41 a (a_lxor (a_lxor (a_lxor (a_lxor (K 39 a) (K 39 (a + 5))) (K 39 (a + 10))) (K 39 (a + 15))) (K 39 (a + 20)))) (by omega) (up_frame f1) (row_step g1 rfl) rfl
      exact lp_12 _ 0 K (by omega) (fun _ _ _ => rfl) (fun j x y => by omega) rfl
  exact lp_2 _ 0 L (by omega) (⟨trivial, fun _ _ _ _ _ => rfl⟩) (rfl) rfl
