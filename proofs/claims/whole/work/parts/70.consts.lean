/-! the reference's constants() -/
def pnB (n : Nat) : Bool := (List.range 33).all fun d => decide (d < 2) || decide (n < d * d) || decide (n % d ≠ 0)
theorem pnB_iff {p : Int} (h : 0 ≤ p ∧ p ≤ 1000) : prP p ↔ pnB p.toNat = true := by
  unfold pnB prP
  rw [List.all_eq_true]
  constructor
  · intro q d hd
    have h1 := List.mem_range.mp hd
    by_cases c : d < 2
    · simp [c]
    by_cases c2 : p.toNat < d * d
    · simp [c2]
    have := q (d : Int) (by omega) (by have : ((d * d : Nat) : Int) ≤ p := (by omega); rwa [Int.natCast_mul] at this)
    have e : ¬ (p.toNat % d = 0) := by
      intro z
      apply this
      have : ((p.toNat % d : Nat) : Int) = 0 := by rw [z]; rfl
      rwa [Int.natCast_emod, Int.toNat_of_nonneg h.1] at this
    simp [e]
  · intro q d h2 hd hz
    have dl : d < 33 := by
      rcases Int.lt_or_le d 33 with z | z
      · exact z
      · have := dd_ge (d := d) (by omega); omega
    have z := q d.toNat (List.mem_range.mpr (by omega))
    have e1 : ¬ d.toNat < 2 := by omega
    have e2 : ¬ p.toNat < d.toNat * d.toNat := by
      have : ((d.toNat * d.toNat : Nat) : Int) = d * d := by rw [Int.natCast_mul, Int.toNat_of_nonneg (by omega)]
      omega
    have e3 : p.toNat % d.toNat = 0 := by
      have : ((p.toNat % d.toNat : Nat) : Int) = p % d := by rw [Int.natCast_emod, Int.toNat_of_nonneg h.1, Int.toNat_of_nonneg (by omega)]
      omega
    simp [e1, e2, e3] at z
def pcnt : Nat → Nat
  | 0 => 0
  | k + 1 => pcnt k + (if pnB (k + 2) = true then 1 else 0)
theorem pcnt_408 : pcnt 408 = 80 := by decide +kernel
def tq : Nat → Int × Int
  | 0 => (1, 0)
  | k + 1 => ((tq k).2, (2 * (tq k).1 + 3 * (tq k).2) % 5)
def pq (k : Nat) : Int := (tq k).1 + 5 * (tq k).2
theorem pq_v : ∀ k : Nat, k < 24 → (((k : Int) + 1) * ((k : Int) + 2) / 2) % 64 = a_sI 10 (pq k) ∧ pq k ≠ 0 := by decide +kernel
theorem pq_all : ∀ j : Nat, j < 25 → j = 0 ∨ ∃ k : Nat, k < 24 ∧ pq k = (j : Int) := by decide +kernel
theorem pq_0 : a_sI 10 0 = 0 := by decide +kernel
def rq (i : Nat) : Nat → Int
  | 0 => 0
  | j + 1 => if bvS ((j + 7 * i) % 255) % 2 = 1 then a_lor (rq i j) (a_lshl 1 (a_shl 1 (j : Int) - 1)) else rq i j
theorem shl1 {j : Int} (h : 0 ≤ j ∧ j ≤ 6) : 1 ≤ a_shl 1 j ∧ a_shl 1 j ≤ 64 := by
  have z : ∀ k : Nat, k < 7 → 1 ≤ a_shl 1 (k : Int) ∧ a_shl 1 (k : Int) ≤ 64 := by decide +kernel
  have y := z j.toNat (by omega)
  rwa [Int.toNat_of_nonneg h.1] at y
theorem rq_v : ∀ i : Nat, i < 24 → rq i 7 = a_sI 8 (i : Int) := by decide +kernel
def GqI (I J : Nat → Int → Int) : Prop := ∀ a j, a ≠ 199 → a ≠ 193 → (a = 175 → j ≠ 18 ∧ j ≠ 19 ∧ j ≠ 20) → J a j = I a j
def GqL (L K : Nat → Int → Int) : Prop := ∀ a j, a ≠ 175 → ¬ (187 ≤ a ∧ a ≤ 192) → a ≠ 194 → a ≠ 195 → a ≠ 198 → K a j = L a j
set_option maxHeartbeats 800000 in
set_option maxRecDepth 100000 in
theorem c_Mo_constants {l : Launch} {G : a_G} {h : Hp} {I L : Nat → Int → Int} (S : Shq h) (hI : ∀ j, I 193 j = 0) (hL : ∀ j, L 194 j = 0) : AW l G M_Mo_constants (Ret (fun _ : (Nat → Int → Int) × (Nat → Int → Int) => none) (fun u => sD h u.1 u.2) (fun u => GqI I u.1 ∧ GqL L u.2 ∧ RSt u.1 u.2)) 0 (a_ar 0 [vr 175]) [] (sD h I L) := by
  suffices key : ∀ P : a_R → Hp → Prop, (∀ J K : Nat → Int → Int, GqI I J → GqL L K → RSt J K → P (.inl none) (sD h J K)) → AW l G M_Mo_constants P 0 [(0, vr 175)] [] (sD h I L) from key _ (fun J K q1 q2 q3 => ⟨(J, K), rfl, rfl, q1, q2, q3⟩)
  intro P hP
  refine aw_iconst d_Mo_constants_0 ⟨by decide, by decide⟩ ?_
  refine aw_istore_n (lv' := [(1, vi 0), (0, vr 175)]) d_Mo_constants_1 rfl (by decide) rfl ?_
  refine aw_iconst d_Mo_constants_2 ⟨by decide, by decide⟩ ?_
  refine aw_istore_n (lv' := [(2, vi 2), (1, vi 0), (0, vr 175)]) d_Mo_constants_3 rfl (by decide) rfl ?_
  have lp_4 : ∀ (n_ : Nat) (n : Int) (p : Int) (K : Nat → Int → Int), (0 ≤ n ∧ n ≤ 80 ∧ 2 ≤ p ∧ p ≤ 410) → (n = (pcnt (p - 2).toNat : Int)) → (∀ a j, a ≠ 175 → ¬ (187 ≤ a ∧ a ≤ 192) → a ≠ 195 → a ≠ 198 → K a j = L a j) → ((410 - p).toNat) = n_ → AW l G M_Mo_constants P 4 [(2, vi p), (1, vi n), (0, vr 175)] [] (sD h I K) := by
    intro n_
    induction n_ using Nat.strongRecOn with
    | _ n_ ih_4 =>
    intro n p K hp_ hc f1 hm_4
    refine aw_iload_n d_Mo_constants_4 rfl rfl ?_
    refine aw_bipush d_Mo_constants_5 ⟨by decide, by decide⟩ (by decide) ?_
    refine aw_icmp_ge (tgt := 59) d_Mo_constants_7 (by decide) (fun c_7 => ?_) (fun c_7 => ?_)
    · skip
      refine aw_iconst d_Mo_constants_59 ⟨by decide, by decide⟩ ?_
      refine aw_istore_n (lv' := [(2, vi 1), (1, vi n), (0, vr 175)]) d_Mo_constants_60 rfl (by decide) rfl ?_
      refine aw_iconst d_Mo_constants_61 ⟨by decide, by decide⟩ ?_
      refine aw_istore_n (lv' := [(3, vi 0), (2, vi 1), (1, vi n), (0, vr 175)]) d_Mo_constants_62 rfl (by decide) rfl ?_
      refine aw_iconst d_Mo_constants_63 ⟨by decide, by decide⟩ ?_
      refine aw_istore (lv' := [(4, vi 0), (3, vi 0), (2, vi 1), (1, vi n), (0, vr 175)]) d_Mo_constants_64 (by decide) rfl ?_
      have lp_66 : ∀ (n_ : Nat) (t : Int) (a : Int) (b : Int) (J : Nat → Int → Int), (0 ≤ t ∧ t ≤ 24) → (0 ≤ a ∧ a < 5 ∧ 0 ≤ b ∧ b < 5) → (a = (tq t.toNat).1) → (b = (tq t.toNat).2) → (∀ a j, a ≠ 193 → J a j = I a j) → (∀ k : Nat, k < t.toNat → J 193 (pq k) = a_sI 10 (pq k)) → (J 193 0 = 0) → ((24 - t).toNat) = n_ → AW l G M_Mo_constants P 66 [(4, vi t), (3, vi b), (2, vi a), (0, vr 175)] [] (sD h J K) := by
        intro n_
        induction n_ using Nat.strongRecOn with
        | _ n_ ih_66 =>
        intro t a b J ht hab ea eb fJ v1 v0 hm_66
        refine aw_iload d_Mo_constants_66 rfl ?_
        refine aw_bipush d_Mo_constants_68 ⟨by decide, by decide⟩ (by decide) ?_
        refine aw_icmp_ge (tgt := 119) d_Mo_constants_70 (by decide) (fun c_70 => ?_) (fun c_70 => ?_)
        · skip
          refine aw_iconst d_Mo_constants_119 ⟨by decide, by decide⟩ ?_
          refine aw_istore (lv' := [(4, vi 0), (3, vi b), (2, vi a), (0, vr 175)]) d_Mo_constants_120 (by decide) rfl ?_
          have lp_122 : ∀ (n_ : Nat) (i : Int) (K2 : Nat → Int → Int), (0 ≤ i ∧ i ≤ 24) → (GqL L K2) → (∀ m, 0 ≤ m → m < i → K2 194 m = a_sI 8 m) → (∀ m, i ≤ m → K2 194 m = 0) → ((24 - i).toNat) = n_ → AW l G M_Mo_constants P 122 [(4, vi i), (0, vr 175)] [] (sD h J K2) := by
            intro n_
            induction n_ using Nat.strongRecOn with
            | _ n_ ih_122 =>
            intro i K2 hi f2 g2 z2 hm_122
            refine aw_iload d_Mo_constants_122 rfl ?_
            refine aw_bipush d_Mo_constants_124 ⟨by decide, by decide⟩ (by decide) ?_
            refine aw_icmp_ge (tgt := 184) d_Mo_constants_126 (by decide) (fun c_126 => ?_) (fun c_126 => ?_)
            · skip
              refine aw_aload_n d_Mo_constants_184 rfl rfl ?_
              refine aw_aload_n d_Mo_constants_185 rfl rfl ?_
              refine ax_getR (b := 189) d_Mo_constants_186 fd_Mo_29 (kq_175 S) (rq_175_7 S) ?_
              refine aw_bipush d_Mo_constants_189 ⟨by decide, by decide⟩ (by decide) ?_
              refine aw_bipush d_Mo_constants_191 ⟨by decide, by decide⟩ (by decide) ?_
              refine ax_Vr (st := []) (as := [vr 189, vi 50, vi 52]) (b := 175) d_Mo_constants_193 cs_Mo_constants_193 (kq_175 S) (c_Mo_named_189 S) rfl rfl rfl (fun u_193 q_193 => ?_)
              obtain ⟨J_1, K_1⟩ := u_193
              dsimp only at q_193
              show AW l G M_Mo_constants P 196 [(4, vi i), (0, vr 175)] [] (sD h J_1 K_1)
              refine aw_aload_n d_Mo_constants_196 rfl rfl ?_
              refine aw_aload_n d_Mo_constants_197 rfl rfl ?_
              refine ax_getR (b := 190) d_Mo_constants_198 fd_Mo_32 (kq_175 S) (rq_175_8 S) ?_
              refine aw_bipush d_Mo_constants_201 ⟨by decide, by decide⟩ (by decide) ?_
              refine aw_bipush d_Mo_constants_203 ⟨by decide, by decide⟩ (by decide) ?_
              refine ax_Vr (st := []) (as := [vr 190, vi 53, vi 54]) (b := 175) d_Mo_constants_205 cs_Mo_constants_205 (kq_175 S) (c_Mo_named_190 S) rfl rfl rfl (fun u_205 q_205 => ?_)
              obtain ⟨J_2, K_2⟩ := u_205
              dsimp only at q_205
              have fq := Fq.tr q_193 q_205
              show AW l G M_Mo_constants P 208 [(4, vi i), (0, vr 175)] [] (sD h J_2 K_2)
              exact aw_vret d_Mo_constants_208 rfl (hP J_2 K_2 (fun a j p q r => (fq.1 a j p r).trans (fJ a j q)) (fun a j p q r s_ u => (fq.2 a j p q s_ u).trans (f2 a j p q r s_ u)) ⟨fun j a b => (fq.1 193 j (by decide) (fun z => absurd z (by decide))).trans (by rcases pq_all j.toNat (by omega) with z | ⟨k, z1, z2⟩; exact (by rw [show j = 0 by omega, v0, pq_0]); exact (by rw [Int.toNat_of_nonneg a] at z2; rw [← z2]; exact v1 k (by omega))), fun j a b => (fq.2 194 j (by decide) (by decide) (by decide) (by decide)).trans (g2 j a (by omega))⟩)
            · skip
              refine aw_iconst d_Mo_constants_129 ⟨by decide, by decide⟩ ?_
              refine aw_istore (lv' := [(5, vi 0), (4, vi i), (0, vr 175)]) d_Mo_constants_130 (by decide) rfl ?_
              have lp_132 : ∀ (n_ : Nat) (j : Int) (K3 : Nat → Int → Int), (0 ≤ j ∧ j ≤ 7 ∧ i < 24) → (GqL L K3) → (∀ m, 0 ≤ m → m < i → K3 194 m = a_sI 8 m) → (∀ m, i < m → K3 194 m = 0) → (K3 194 i = rq i.toNat j.toNat) → ((7 - j).toNat) = n_ → AW l G M_Mo_constants P 132 [(5, vi j), (4, vi i), (0, vr 175)] [] (sD h J K3) := by
                intro n_
                induction n_ using Nat.strongRecOn with
                | _ n_ ih_132 =>
                intro j K3 hj f3 g3 z3 e3 hm_132
                refine aw_iload d_Mo_constants_132 rfl ?_
                refine aw_bipush d_Mo_constants_134 ⟨by decide, by decide⟩ (by decide) ?_
                refine aw_icmp_gt (tgt := 178) d_Mo_constants_136 (by decide) (fun c_136 => ?_) (fun c_136 => ?_)
                · skip
                  refine ax_iinc (lv' := [(4, vi (i + 1)), (5, vi j), (0, vr 175)]) d_Mo_constants_178 rfl (by decide) ⟨(by omega), (by omega)⟩ rfl ?_
                  refine aw_goto (tgt := 122) d_Mo_constants_181 (by decide) ?_
                  refine aw_sub (lv' := [(4, vi (i + 1)), (0, vr 175)]) (by simp) ?_
                  exact ih_122 _ (by omega) (i + 1) K3 (by omega) (f3) (fun m a b => by by_cases z : m = i; exact (by rw [z, e3, show j.toNat = 7 by omega, rq_v i.toNat (by omega), Int.toNat_of_nonneg hi.1]); exact g3 m a (by omega)) (fun m a => z3 m (by omega)) rfl
                · skip
                  refine aw_iload d_Mo_constants_139 rfl ?_
                  refine aw_bipush d_Mo_constants_141 ⟨by decide, by decide⟩ (by decide) ?_
                  refine aw_iload d_Mo_constants_143 rfl ?_
                  refine ax_imul d_Mo_constants_145 ⟨(by omega), (by omega)⟩ ?_
                  refine ax_iadd d_Mo_constants_146 ⟨(by omega), (by omega)⟩ ?_
                  refine ax_S (st := []) (as := [vi (j + (7 * i))]) (v := some (vi (bvS ((j + (7 * i)) % 255).toNat % 2))) (h' := sD h J K3) d_Mo_constants_147 cs_Mo_constants_147 (c_Mo_bit (by omega)) rfl rfl rfl ?_
                  show AW l G M_Mo_constants P 150 [(5, vi j), (4, vi i), (0, vr 175)] [vi (bvS ((j + (7 * i)) % 255).toNat % 2)] (sD h J K3)
                  refine aw_iconst d_Mo_constants_150 ⟨by decide, by decide⟩ ?_
                  refine aw_icmp_ne (tgt := 172) d_Mo_constants_151 (by decide) (fun c_151 => ?_) (fun c_151 => ?_)
                  · skip
                    refine ax_iinc (lv' := [(5, vi (j + 1)), (4, vi i), (0, vr 175)]) d_Mo_constants_172 rfl (by decide) ⟨(by omega), (by omega)⟩ rfl ?_
                    refine aw_goto (tgt := 132) d_Mo_constants_175 (by decide) ?_
                    exact ih_132 _ (by omega) (j + 1) K3 (by omega) (f3) (g3) (z3) (by rw [show (j + 1).toNat = j.toNat + 1 by omega]; show _ = (if bvS ((j.toNat + 7 * i.toNat) % 255) % 2 = 1 then a_lor (rq i.toNat j.toNat) (a_lshl 1 (a_shl 1 (j.toNat : Int) - 1)) else rq i.toNat j.toNat); rw [show (j.toNat + 7 * i.toNat) % 255 = ((j + 7 * i) % 255).toNat by omega, if_neg c_151]; exact e3) rfl
                  · skip
                    refine aw_aload_n d_Mo_constants_154 rfl rfl ?_
                    refine ax_getR (b := 194) d_Mo_constants_155 fd_Mo_44 (kq_175 S) (rq_175_12 S) ?_
                    refine aw_iload d_Mo_constants_158 rfl ?_
                    refine aw_dup2 d_Mo_constants_160 rfl rfl ?_
                    refine ax_lalde (x := K3 194 i) d_Mo_constants_161 (kq_194 S) (by omega) (by rw [nq_194 S]; omega) (rfl) ?_
                    refine aw_lconst (x := 1) d_Mo_constants_162 ⟨by decide, by decide⟩ (by decide) ?_
                    refine aw_iconst d_Mo_constants_163 ⟨by decide, by decide⟩ ?_
                    refine aw_iload d_Mo_constants_164 rfl ?_
                    refine aw_ishl d_Mo_constants_166 ?_
                    refine aw_iconst d_Mo_constants_167 ⟨by decide, by decide⟩ ?_
                    have s1 := shl1 (j := j) (by omega)
                    refine ax_isub d_Mo_constants_168 ⟨(by omega), (by omega)⟩ ?_
                    refine aw_lshl d_Mo_constants_169 ?_
                    refine aw_lor d_Mo_constants_170 ?_
                    refine ax_last d_Mo_constants_171 (kq_194 S) (by decide) (by omega) (by rw [nq_194 S]; omega) ?_
                    refine ax_iinc (lv' := [(5, vi (j + 1)), (4, vi i), (0, vr 175)]) d_Mo_constants_172 rfl (by decide) ⟨(by omega), (by omega)⟩ rfl ?_
                    refine aw_goto (tgt := 132) d_Mo_constants_175 (by decide) ?_
                    exact ih_132 _ (by omega) (j + 1) (a_up K3 194 i (a_lor (K3 194 i) (a_lshl 1 ((a_shl 1 j) - 1)))) (by omega) (fun a j p q r s_ u => (a_up_ne (Or.inl (by omega))).trans (f3 a j p q r s_ u)) (fun m a b => (a_up_ne (Or.inr (by omega))).trans (g3 m a b)) (fun m a => (a_up_ne (Or.inr (by omega))).trans (z3 m a)) (by rw [a_up_at, show (j + 1).toNat = j.toNat + 1 by omega]; show _ = (if bvS ((j.toNat + 7 * i.toNat) % 255) % 2 = 1 then a_lor (rq i.toNat j.toNat) (a_lshl 1 (a_shl 1 (j.toNat : Int) - 1)) else rq i.toNat j.toNat); rw [show (j.toNat + 7 * i.toNat) % 255 = ((j + 7 * i) % 255).toNat by omega, if_pos (by omega), e3, Int.toNat_of_nonneg hj.1]) rfl
              exact lp_132 _ 0 K2 (by omega) (f2) (g2) (fun m a => z2 m (by omega)) (z2 i (by omega)) rfl
          refine aw_sub (lv' := [(4, vi 0), (0, vr 175)]) (by simp) ?_
          exact lp_122 _ 0 K (by omega) (fun a j p q r s_ u => f1 a j p q s_ u) (fun m a b => by omega) (fun m _ => (f1 194 m (by decide) (by decide) (by decide) (by decide)).trans (hL m)) rfl
        · skip
          refine aw_aload_n d_Mo_constants_73 rfl rfl ?_
          refine ax_getR (b := 193) d_Mo_constants_74 fd_Mo_41 (kq_175 S) (rq_175_11 S) ?_
          refine aw_iload_n d_Mo_constants_77 rfl rfl ?_
          refine aw_iconst d_Mo_constants_78 ⟨by decide, by decide⟩ ?_
          refine aw_iload_n d_Mo_constants_79 rfl rfl ?_
          refine ax_imul d_Mo_constants_80 ⟨(by omega), (by omega)⟩ ?_
          refine ax_iadd d_Mo_constants_81 ⟨(by omega), (by omega)⟩ ?_
          refine aw_iload d_Mo_constants_82 rfl ?_
          refine aw_iconst d_Mo_constants_84 ⟨by decide, by decide⟩ ?_
          refine ax_iadd d_Mo_constants_85 ⟨(by omega), (by omega)⟩ ?_
          refine aw_iload d_Mo_constants_86 rfl ?_
          refine aw_iconst d_Mo_constants_88 ⟨by decide, by decide⟩ ?_
          refine ax_iadd d_Mo_constants_89 ⟨(by omega), (by omega)⟩ ?_
          have mm : 0 ≤ (t + 1) * (t + 2) ∧ (t + 1) * (t + 2) ≤ 1000 := ⟨Int.mul_nonneg (by omega) (by omega), Int.le_trans (Int.mul_le_mul (by omega : t + 1 ≤ 25) (by omega : t + 2 ≤ 26) (by omega) (by omega)) (by decide)⟩
          refine ax_imul d_Mo_constants_90 ⟨(by omega), (by omega)⟩ ?_
          refine aw_iconst d_Mo_constants_91 ⟨by decide, by decide⟩ ?_
          refine ax_idiv d_Mo_constants_92 ⟨(by omega), (by omega)⟩ (by omega) ?_
          refine aw_bipush d_Mo_constants_93 ⟨by decide, by decide⟩ (by decide) ?_
          refine ax_irem d_Mo_constants_95 (by omega) (by omega) ?_
          refine ax_iast d_Mo_constants_96 (kq_193 S) (by decide) (by omega) (by rw [nq_193 S]; omega) ?_
          refine aw_iconst d_Mo_constants_97 ⟨by decide, by decide⟩ ?_
          refine aw_iload_n d_Mo_constants_98 rfl rfl ?_
          refine ax_imul d_Mo_constants_99 ⟨(by omega), (by omega)⟩ ?_
          refine aw_iconst d_Mo_constants_100 ⟨by decide, by decide⟩ ?_
          refine aw_iload_n d_Mo_constants_101 rfl rfl ?_
          refine ax_imul d_Mo_constants_102 ⟨(by omega), (by omega)⟩ ?_
          refine ax_iadd d_Mo_constants_103 ⟨(by omega), (by omega)⟩ ?_
          refine aw_iconst d_Mo_constants_104 ⟨by decide, by decide⟩ ?_
          refine ax_irem d_Mo_constants_105 (by omega) (by omega) ?_
          refine aw_istore (lv' := [(5, vi (((2 * a) + (3 * b)) % 5)), (4, vi t), (3, vi b), (2, vi a), (0, vr 175)]) d_Mo_constants_106 (by decide) rfl ?_
          refine aw_iload_n d_Mo_constants_108 rfl rfl ?_
          refine aw_istore_n (lv' := [(2, vi b), (5, vi (((2 * a) + (3 * b)) % 5)), (4, vi t), (3, vi b), (0, vr 175)]) d_Mo_constants_109 rfl (by decide) rfl ?_
          refine aw_iload d_Mo_constants_110 rfl ?_
          refine aw_istore_n (lv' := [(3, vi (((2 * a) + (3 * b)) % 5)), (2, vi b), (5, vi (((2 * a) + (3 * b)) % 5)), (4, vi t), (0, vr 175)]) d_Mo_constants_112 rfl (by decide) rfl ?_
          refine ax_iinc (lv' := [(4, vi (t + 1)), (3, vi (((2 * a) + (3 * b)) % 5)), (2, vi b), (5, vi (((2 * a) + (3 * b)) % 5)), (0, vr 175)]) d_Mo_constants_113 rfl (by decide) ⟨(by omega), (by omega)⟩ rfl ?_
          refine aw_goto (tgt := 66) d_Mo_constants_116 (by decide) ?_
          refine aw_sub (lv' := [(4, vi (t + 1)), (3, vi (((2 * a) + (3 * b)) % 5)), (2, vi b), (0, vr 175)]) (by simp) ?_
          exact ih_66 _ (by omega) (t + 1) b (((2 * a) + (3 * b)) % 5) (a_up J 193 (a + (5 * b)) ((((t + 1) * (t + 2)) / 2) % 64)) (by omega) (by omega) (by rw [show (t + 1).toNat = t.toNat + 1 by omega]; exact eb) (by rw [show (t + 1).toNat = t.toNat + 1 by omega]; show _ = (2 * (tq t.toNat).1 + 3 * (tq t.toNat).2) % 5; rw [ea, eb]) (fun x j q => (a_up_ne (Or.inl q)).trans (fJ x j q)) (fun k hk => by have e : a + 5 * b = pq t.toNat := (by rw [ea, eb]; rfl); rw [e]; by_cases z : pq k = pq t.toNat; exact (by rw [z, a_up_at]; have y := (pq_v t.toNat (by omega)).1; rw [Int.toNat_of_nonneg ht.1] at y; exact y); exact (by rw [a_up_ne (Or.inr z)]; by_cases y : k = t.toNat; exact absurd (congrArg pq y) z; exact v1 k (by omega))) (by have e : a + 5 * b = pq t.toNat := (by rw [ea, eb]; rfl); rw [e, a_up_ne (Or.inr (fun z => (pq_v t.toNat (by omega)).2 z.symm))]; exact v0) rfl
      skip
      refine aw_sub (lv' := [(4, vi 0), (3, vi 0), (2, vi 1), (0, vr 175)]) (by simp) ?_
      exact lp_66 _ 0 1 0 I (by omega) (by omega) (rfl) (rfl) (fun _ _ _ => rfl) (fun k hk => absurd hk (by omega)) (hI 0) rfl
    · skip
      have p9 : p ≤ 409 := by rcases Int.lt_or_le p 410 with z | z; exact (by omega); exact (by exfalso; have : p = 410 := (by omega); rw [this, show ((410 : Int) - 2).toNat = 408 from rfl, pcnt_408] at hc; omega)
      refine aw_iload_n d_Mo_constants_10 rfl rfl ?_
      refine ax_Sr (st := []) (as := [vi p]) d_Mo_constants_11 cs_Mo_constants_11 (c_Mo_prime (n := p) (by omega)) rfl rfl rfl (fun u_11 q_11 => ?_)
      obtain ⟨pr1, pr2⟩ := q_11
      have pr3 := pr2.trans (pnB_iff (by omega))
      show AW l G M_Mo_constants P 14 [(2, vi p), (1, vi n), (0, vr 175)] [vi u_11] (sD h I K)
      refine aw_if_ne (tgt := 20) d_Mo_constants_14 (by decide) (fun c_14 => ?_) (fun c_14 => ?_)
      · skip
        refine aw_iload_n d_Mo_constants_20 rfl rfl ?_
        refine aw_bipush d_Mo_constants_21 ⟨by decide, by decide⟩ (by decide) ?_
        refine aw_icmp_ge (tgt := 38) d_Mo_constants_23 (by decide) (fun c_23 => ?_) (fun c_23 => ?_)
        · skip
          refine aw_aload_n d_Mo_constants_38 rfl rfl ?_
          refine ax_getR (b := 188) d_Mo_constants_39 fd_Mo_26 (kq_175 S) (rq_175_6 S) ?_
          refine aw_iload_n d_Mo_constants_42 rfl rfl ?_
          refine aw_aload_n d_Mo_constants_43 rfl rfl ?_
          refine aw_iload_n d_Mo_constants_44 rfl rfl ?_
          refine aw_iconst d_Mo_constants_45 ⟨by decide, by decide⟩ ?_
          refine ax_Vr (st := [vi n, vr 188]) (as := [vi p, vi 3]) (b := 175) d_Mo_constants_46 cs_Mo_constants_46 (kq_175 S) (c_Mo_root S (Or.inr rfl) (by omega)) rfl rfl rfl (fun u_46 q_46 => ?_)
          obtain ⟨v_46, M_46⟩ := u_46
          dsimp only at q_46
          show AW l G M_Mo_constants P 49 [(2, vi p), (1, vi n), (0, vr 175)] [vl v_46, vi n, vr 188] (sD h I M_46)
          refine ax_last d_Mo_constants_49 (kq_188 S) (by decide) (by omega) (by rw [nq_188 S]; omega) ?_
          refine ax_iinc (lv' := [(1, vi (n + 1)), (2, vi p), (0, vr 175)]) d_Mo_constants_50 rfl (by decide) ⟨(by omega), (by omega)⟩ rfl ?_
          refine ax_iinc (lv' := [(2, vi (p + 1)), (1, vi (n + 1)), (0, vr 175)]) d_Mo_constants_53 rfl (by decide) ⟨(by omega), (by omega)⟩ rfl ?_
          refine aw_goto (tgt := 4) d_Mo_constants_56 (by decide) ?_
          exact ih_4 _ (by omega) (n + 1) (p + 1) (a_up M_46 188 n v_46) (by omega) (by rw [show (p + 1 - 2).toNat = (p - 2).toNat + 1 by omega]; show n + 1 = ((pcnt (p - 2).toNat + (if pnB ((p - 2).toNat + 2) = true then 1 else 0) : Nat) : Int); rw [if_pos (by rw [show (p - 2).toNat + 2 = p.toNat by omega]; exact pr3.mp (by omega))]; omega) ((fun a j p_ q_ r_ s_ => (a_up_ne (Or.inl (by omega))).trans ((q_46 a j (by omega) (by omega)).trans (f1 a j p_ q_ r_ s_)))) rfl
        · skip
          refine aw_aload_n d_Mo_constants_26 rfl rfl ?_
          refine ax_getR (b := 187) d_Mo_constants_27 fd_Mo_22 (kq_175 S) (rq_175_5 S) ?_
          refine aw_iload_n d_Mo_constants_30 rfl rfl ?_
          refine aw_aload_n d_Mo_constants_31 rfl rfl ?_
          refine aw_iload_n d_Mo_constants_32 rfl rfl ?_
          refine aw_iconst d_Mo_constants_33 ⟨by decide, by decide⟩ ?_
          refine ax_Vr (st := [vi n, vr 187]) (as := [vi p, vi 2]) (b := 175) d_Mo_constants_34 cs_Mo_constants_34 (kq_175 S) (c_Mo_root S (Or.inl rfl) (by omega)) rfl rfl rfl (fun u_34 q_34 => ?_)
          obtain ⟨v_34, M_34⟩ := u_34
          dsimp only at q_34
          show AW l G M_Mo_constants P 37 [(2, vi p), (1, vi n), (0, vr 175)] [vl v_34, vi n, vr 187] (sD h I M_34)
          refine ax_last d_Mo_constants_37 (kq_187 S) (by decide) (by omega) (by rw [nq_187 S]; omega) ?_
          refine aw_aload_n d_Mo_constants_38 rfl rfl ?_
          refine ax_getR (b := 188) d_Mo_constants_39 fd_Mo_26 (kq_175 S) (rq_175_6 S) ?_
          refine aw_iload_n d_Mo_constants_42 rfl rfl ?_
          refine aw_aload_n d_Mo_constants_43 rfl rfl ?_
          refine aw_iload_n d_Mo_constants_44 rfl rfl ?_
          refine aw_iconst d_Mo_constants_45 ⟨by decide, by decide⟩ ?_
          refine ax_Vr (st := [vi n, vr 188]) (as := [vi p, vi 3]) (b := 175) d_Mo_constants_46 cs_Mo_constants_46 (kq_175 S) (c_Mo_root S (Or.inr rfl) (by omega)) rfl rfl rfl (fun u_46 q_46 => ?_)
          obtain ⟨v_46, M_46⟩ := u_46
          dsimp only at q_46
          show AW l G M_Mo_constants P 49 [(2, vi p), (1, vi n), (0, vr 175)] [vl v_46, vi n, vr 188] (sD h I M_46)
          refine ax_last d_Mo_constants_49 (kq_188 S) (by decide) (by omega) (by rw [nq_188 S]; omega) ?_
          refine ax_iinc (lv' := [(1, vi (n + 1)), (2, vi p), (0, vr 175)]) d_Mo_constants_50 rfl (by decide) ⟨(by omega), (by omega)⟩ rfl ?_
          refine ax_iinc (lv' := [(2, vi (p + 1)), (1, vi (n + 1)), (0, vr 175)]) d_Mo_constants_53 rfl (by decide) ⟨(by omega), (by omega)⟩ rfl ?_
          refine aw_goto (tgt := 4) d_Mo_constants_56 (by decide) ?_
          exact ih_4 _ (by omega) (n + 1) (p + 1) (a_up M_46 188 n v_46) (by omega) (by rw [show (p + 1 - 2).toNat = (p - 2).toNat + 1 by omega]; show n + 1 = ((pcnt (p - 2).toNat + (if pnB ((p - 2).toNat + 2) = true then 1 else 0) : Nat) : Int); rw [if_pos (by rw [show (p - 2).toNat + 2 = p.toNat by omega]; exact pr3.mp (by omega))]; omega) ((fun a j p_ q_ r_ s_ => (a_up_ne (Or.inl (by omega))).trans ((q_46 a j (by omega) (by omega)).trans ((a_up_ne (Or.inl (by omega))).trans ((q_34 a j (by omega) (by omega)).trans (f1 a j p_ q_ r_ s_)))))) rfl
      · skip
        refine aw_goto (tgt := 53) d_Mo_constants_17 (by decide) ?_
        refine ax_iinc (lv' := [(2, vi (p + 1)), (1, vi n), (0, vr 175)]) d_Mo_constants_53 rfl (by decide) ⟨(by omega), (by omega)⟩ rfl ?_
        refine aw_goto (tgt := 4) d_Mo_constants_56 (by decide) ?_
        exact ih_4 _ (by omega) n (p + 1) K (by omega) (by rw [show (p + 1 - 2).toNat = (p - 2).toNat + 1 by omega]; show n = ((pcnt (p - 2).toNat + (if pnB ((p - 2).toNat + 2) = true then 1 else 0) : Nat) : Int); rw [if_neg (by rw [show (p - 2).toNat + 2 = p.toNat by omega]; intro z; exact absurd (pr3.mpr z) (by omega))]; exact hc) (f1) rfl
  exact lp_4 _ 0 2 L (by omega) (rfl) (fun _ _ _ _ _ _ => rfl) rfl
