/-! the reference's hints -/
def rgR (I : Nat → Int → Int) : Int → Int := gW I 5
def rpR (I : Nat → Int → Int) : Int → Int := gW I 1
theorem rg_in {I : Nat → Int → Int} {n x : Int} (h : I 186 5 = n) (h0 : 0 ≤ x) (h1 : x < n) : rgR I x = I 183 x % 256 := gW_in (s := 5) h0 (by rw [h]; exact h1)
theorem rp_in {I : Nat → Int → Int} {n x : Int} (h : I 186 1 = n) (h0 : 0 ≤ x) (h1 : x < n) : rpR I x = I 179 x % 256 := gW_in (s := 1) h0 (by rw [h]; exact h1)
def tbl (K : Nat → Int → Int) (g : Int → Int) (o3 w m : Int) : Prop := ∀ c, 0 ≤ c → c < 256 → (K (254 + m.toNat) c = 0 ∨ K (254 + m.toNat) c = 1) ∧ (K (254 + m.toNat) c = 1 ↔ hin g o3 w m c)
set_option maxHeartbeats 800000 in
set_option maxRecDepth 100000 in
theorem c_Mo_challengeR0_30 {l : Launch} {G : a_G} {h : Hp} {I L : Nat → Int → Int} {mu : Int → Int} {X : Int → Int → Int} (S : Shp h) (D : RD I L 0) (hX : ∀ m, 0 ≤ m → m < 4 → eqQ (I (205 + (30 + m).toNat)) (X m)) (bX : ∀ m, 0 ≤ m → m < 4 → ∀ j, 0 ≤ j → j < 256 → 0 ≤ X m j ∧ X m j < 2 ^ 6) (hm : HR I 265 0 64 mu) (hmm : ∀ k, 0 ≤ k → k < 64 → mu k % 256 = mu k) : AW l G M_Mo_challenge (Ret (fun _ : (Nat → Int → Int) × (Nat → Int → Int) => none) (fun u => sD h u.1 u.2) (fun u => FR (fun a => a = 262 ∨ a = 267) I L u.1 u.2 ∧ HR u.1 267 0 32 (spOut (hhS mu (fun x => gB (X (x / 192)) 6 (x % 192)) 768)) ∧ (∀ k, 0 ≤ k → k < 32 → -128 ≤ u.1 267 (0 + k) ∧ u.1 267 (0 + k) ≤ 127) ∧ u.1 175 4 = I 175 4)) 0 (a_ar 0 [vr 175, vi 30, vr 267]) [] (sD h I L) := by
  suffices key : ∀ P : a_R → Hp → Prop, (∀ I2 L2, FR (fun a => a = 262 ∨ a = 267) I L I2 L2 → HR I2 267 0 32 (spOut (hhS mu (fun x => gB (X (x / 192)) 6 (x % 192)) 768)) → (∀ k, 0 ≤ k → k < 32 → -128 ≤ I2 267 (0 + k) ∧ I2 267 (0 + k) ≤ 127) → I2 175 4 = I 175 4 → P (.inl none) (sD h I2 L2)) → AW l G M_Mo_challenge P 0 [(0, vr 175), (1, vi 30), (2, vr 267)] [] (sD h I L) from key _ (fun I2 L2 q1 q2 q3 q4 => ⟨(I2, L2), rfl, rfl, q1, q2, q3, q4⟩)
  intro P hP
  refine aw_aload_n d_Mo_challenge_0 rfl rfl ?_
  refine aw_iconst d_Mo_challenge_1 ⟨by decide, by decide⟩ ?_
  refine ax_putI d_Mo_challenge_2 fd_Mo_216 (k_175 S) (by decide) rfl ?_
  refine aw_aload_n d_Mo_challenge_5 rfl rfl ?_
  refine ax_getIe (x := 95232) d_Mo_challenge_6 fd_Mo_242 (k_175 S) (Eq.trans (a_up_ne (Or.inr (by decide))) (dr0_36 D)) ?_
  refine aw_ldc (n := 261888) d_Mo_challenge_9 lc_Mo_241 ⟨by decide, by decide⟩ ?_
  refine aw_icmp_ne (tgt := 18) d_Mo_challenge_11 (by decide) (fun c_11 => ?_) (fun c_11 => False.elim (by omega))
  refine aw_bipush d_Mo_challenge_18 ⟨by decide, by decide⟩ (by decide) ?_
  refine aw_istore_n (lv' := [(3, vi 6), (0, vr 175), (1, vi 30), (2, vr 267)]) d_Mo_challenge_20 rfl (by decide) rfl ?_
  refine aw_iconst d_Mo_challenge_21 ⟨by decide, by decide⟩ ?_
  refine aw_istore (lv' := [(4, vi 0), (3, vi 6), (0, vr 175), (1, vi 30), (2, vr 267)]) d_Mo_challenge_22 (by decide) rfl ?_
  have lp_24 : ∀ (n_ : Nat) (i : Int) (K : Nat → Int → Int), (0 ≤ i ∧ i ≤ 4) → (FR (fun a => a = 262) I L K L) → (K 175 23 = 8 * (192 * i)) → (HR K 262 0 (192 * i) (fun x => gB (X (x / 192)) 6 (x % 192))) → (K 175 4 = I 175 4) → ((4 - i).toNat) = n_ → AW l G M_Mo_challenge P 24 [(4, vi i), (3, vi 6), (2, vr 267), (1, vi 30), (0, vr 175)] [] (sD h K L) := by
    intro n_
    induction n_ using Nat.strongRecOn with
    | _ n_ ih_24 =>
    intro i K hi F b1 HK z4 hm_24
    refine aw_iload d_Mo_challenge_24 rfl ?_
    refine aw_aload_n d_Mo_challenge_26 rfl rfl ?_
    refine ax_getIe (x := 4) d_Mo_challenge_27 fd_Mo_223 (k_175 S) (Eq.trans (F.1 175 26 (by omega) (Or.inr (by decide))) (dr0_26 D)) ?_
    refine aw_icmp_ge (tgt := 78) d_Mo_challenge_30 (by decide) (fun c_30 => ?_) (fun c_30 => ?_)
    · skip
      refine aw_aload_n d_Mo_challenge_78 rfl rfl ?_
      refine aw_bipush d_Mo_challenge_79 ⟨by decide, by decide⟩ (by decide) ?_
      have RS := D.1.fr F (by decide)
      refine ax_Vr (st := []) (as := [vi 12]) (b := 175) d_Mo_challenge_81 cs_Mo_challenge_81 (k_175 S) (c_Mo_begin12 S) rfl rfl rfl (fun u_81 q_81 => ?_)
      obtain ⟨I1, L1⟩ := u_81
      obtain ⟨F1, e1, k1⟩ := q_81
      dsimp only at F1 e1 k1
      show AW l G M_Mo_challenge P 84 [(4, vi i), (3, vi 6), (2, vr 267), (1, vi 30), (0, vr 175)] [] (sD h I1 L1)
      refine aw_aload_n d_Mo_challenge_84 rfl rfl ?_
      refine aw_aload_n d_Mo_challenge_85 rfl rfl ?_
      refine ax_getR (b := 265) d_Mo_challenge_86 fd_Mo_93 (k_175 S) (r_175_41 S) ?_
      refine aw_iconst d_Mo_challenge_89 ⟨by decide, by decide⟩ ?_
      refine aw_bipush d_Mo_challenge_90 ⟨by decide, by decide⟩ (by decide) ?_
      refine ax_Vr (st := []) (as := [vr 265, vi 0, vi 64]) (b := 175) d_Mo_challenge_92 cs_Mo_challenge_92 (k_175 S) (c_Mo_put3 S (RS.rf F1) (by omega) (by rw [e1]; exact spStart_lt (by decide) (by decide)) ⟨k_265 S, by decide, by decide⟩ (by rw [n_265 S]; decide)) rfl rfl rfl (fun u_92 q_92 => ?_)
      obtain ⟨I2, L2⟩ := u_92
      obtain ⟨F2, e2, k2⟩ := q_92
      dsimp only at F2 e2 k2
      show AW l G M_Mo_challenge P 95 [(4, vi i), (3, vi 6), (2, vr 267), (1, vi 30), (0, vr 175)] [] (sD h I2 L2)
      refine aw_aload_n d_Mo_challenge_95 rfl rfl ?_
      refine aw_aload_n d_Mo_challenge_96 rfl rfl ?_
      refine ax_getR (b := 262) d_Mo_challenge_97 fd_Mo_84 (k_175 S) (r_175_30 S) ?_
      refine aw_iconst d_Mo_challenge_100 ⟨by decide, by decide⟩ ?_
      refine aw_bipush d_Mo_challenge_101 ⟨by decide, by decide⟩ (by decide) ?_
      refine aw_iload_n d_Mo_challenge_103 rfl rfl ?_
      refine ax_imul d_Mo_challenge_104 ⟨(by omega), (by omega)⟩ ?_
      refine ax_ti (x := 192) (by decide) ?_
      refine aw_aload_n d_Mo_challenge_105 rfl rfl ?_
      refine ax_getIe (x := 4) d_Mo_challenge_106 fd_Mo_223 (k_175 S) (Eq.trans ((F1.tr F2).1 175 26 (Or.inr (by decide))) (Eq.trans (F.1 175 26 (by omega) (Or.inr (by decide))) (dr0_26 D))) ?_
      refine ax_imul d_Mo_challenge_109 ⟨(by omega), (by omega)⟩ ?_
      refine ax_ti (x := 768) (by decide) ?_
      refine ax_Vr (st := []) (as := [vr 262, vi 0, vi 768]) (b := 175) d_Mo_challenge_110 cs_Mo_challenge_110 (k_175 S) (c_Mo_put3 S ((RS.rf F1).rf F2) (by omega) (by rw [e2, e1]; exact spPart_lt (spStart_lt (by decide) (by decide)) _ _) ⟨k_262 S, by decide, by decide⟩ (by rw [n_262 S]; decide)) rfl rfl rfl (fun u_110 q_110 => ?_)
      obtain ⟨I3, L3⟩ := u_110
      obtain ⟨F3, e3, k3⟩ := q_110
      dsimp only at F3 e3 k3
      show AW l G M_Mo_challenge P 113 [(4, vi i), (3, vi 6), (2, vr 267), (1, vi 30), (0, vr 175)] [] (sD h I3 L3)
      have eS : spTurn (spR I3 L3) = hhS mu (fun x => gB (X (x / 192)) 6 (x % 192)) 768 := by rw [e3, e2, e1]; unfold hhS; rw [spPart_congr (f := fun k => I1 265 (0 + k)) (g := mu) (fun k hk => by rw [F1.1 265 _ (Or.inl (by decide)), F.1 265 _ (by decide) (Or.inl (by decide)), hm k (by omega) (by omega), hmm k (by omega) (by omega)]), spPart_congr (f := fun k => I2 262 (0 + k)) (g := (fun x => gB (X (x / 192)) 6 (x % 192))) (fun k hk => by rw [(F1.tr F2).1 262 _ (Or.inl (by decide)), HK k (by omega) (by omega), gB_m])]; rfl
      refine aw_aload_n d_Mo_challenge_113 rfl rfl ?_
      refine aw_aload_n d_Mo_challenge_114 rfl rfl ?_
      refine aw_iconst d_Mo_challenge_115 ⟨by decide, by decide⟩ ?_
      refine aw_aload_n d_Mo_challenge_116 rfl rfl ?_
      refine ax_getIe (x := 32) d_Mo_challenge_117 fd_Mo_248 (k_175 S) (Eq.trans (((F1.tr F2).tr F3).1 175 38 (Or.inr (by decide))) (Eq.trans (F.1 175 38 (by omega) (Or.inr (by decide))) (dr0_38 D))) ?_
      refine ax_Vr (st := []) (as := [vr 267, vi 0, vi 32]) (b := 175) d_Mo_challenge_120 cs_Mo_challenge_120 (k_175 S) (c_Mo_give S (((RS.rf F1).rf F2).rf F3) (by omega) (by rw [e3, e2, e1]; exact (spPart_lt (spPart_lt (spStart_lt (by decide) (by decide)) _ _) _ _).1) ⟨k_267 S, by decide, by decide, by decide⟩ (by rw [n_267 S]; decide)) rfl rfl rfl (fun u_120 q_120 => ?_)
      obtain ⟨I4, L4⟩ := u_120
      obtain ⟨F4, f4, e4, k4⟩ := q_120
      dsimp only at F4 f4 e4 k4
      rw [eS] at F4
      show AW l G M_Mo_challenge P 123 [(4, vi i), (3, vi 6), (2, vr 267), (1, vi 30), (0, vr 175)] [] (sD h I4 L4)
      exact aw_vret d_Mo_challenge_123 rfl (hP I4 L4 ((F.tr (((F1.tr F2).tr F3).fr (p := fun a => a = 262)) (r := fun a => a = 262 ∨ a = 267) (by intro a x; omega)).tr (FR.give (p := fun a => a = 267) F4 f4 rfl) (by intro a x; omega)) (HR.give F4 (by decide)) (fun k x y => by rw [F4 267 _ (Or.inl (by decide)), putRow_in (by omega) (by omega)]; exact a_w8r _) (by rw [F4 175 4 (Or.inr (by decide)), putRow_ne (by decide), ((F1.tr F2).tr F3).1 175 4 (Or.inr (by decide))]; exact z4))
    · skip
      refine aw_iconst d_Mo_challenge_33 ⟨by decide, by decide⟩ ?_
      refine aw_istore (lv' := [(5, vi 0), (4, vi i), (3, vi 6), (2, vr 267), (1, vi 30), (0, vr 175)]) d_Mo_challenge_34 (by decide) rfl ?_
      have lp_36 : ∀ (n_ : Nat) (c : Int) (K2 : Nat → Int → Int), (0 ≤ c ∧ c ≤ 256) → (FR (fun a => a = 262) I L K2 L) → (∀ a j, (a ≠ 262 ∨ j < 0 + 192 * i) → (a ≠ 175 ∨ j ≠ 23) → K2 a j = K a j) → (K2 175 23 = 8 * (192 * i) + 6 * c) → (bIn (K2 262) (0 + 192 * i) (bV (X i) 6 c.toNat) (6 * c.toNat)) → ((256 - c).toNat) = n_ → AW l G M_Mo_challenge P 36 [(5, vi c), (4, vi i), (3, vi 6), (2, vr 267), (1, vi 30), (0, vr 175)] [] (sD h K2 L) := by
        intro n_
        induction n_ using Nat.strongRecOn with
        | _ n_ ih_36 =>
        intro c K2 hc Gx f1 b2 g1 hm_36
        refine aw_iload d_Mo_challenge_36 rfl ?_
        refine aw_sipush d_Mo_challenge_38 ⟨by decide, by decide⟩ (by decide) ?_
        refine aw_icmp_ge (tgt := 72) d_Mo_challenge_41 (by decide) (fun c_41 => ?_) (fun c_41 => ?_)
        · skip
          refine ax_iinc (lv' := [(4, vi (i + 1)), (5, vi c), (3, vi 6), (2, vr 267), (1, vi 30), (0, vr 175)]) d_Mo_challenge_72 rfl (by decide) ⟨(by omega), (by omega)⟩ rfl ?_
          refine aw_goto (tgt := 24) d_Mo_challenge_75 (by decide) ?_
          refine aw_sub (lv' := [(4, vi (i + 1)), (3, vi 6), (2, vr 267), (1, vi 30), (0, vr 175)]) (by simp) ?_
          exact ih_24 _ (by omega) (i + 1) K2 (by omega) (Gx) (by omega) (fun z x y => by by_cases v : z < 192 * i; exact (by rw [f1 262 _ (Or.inr (by omega)) (Or.inl (by decide))]; exact HK z x v); exact (by have y2 := gB_of (by have w_ := g1; rw [show c.toNat = 256 by omega] at w_; exact w_) (z - 192 * i) (by omega) (by omega); rw [show (0 + 192 * i + (z - 192 * i) : Int) = 0 + z by omega] at y2; rw [y2]; show _ = gB (X (z / 192)) 6 (z % 192); rw [show z / 192 = i by omega, show z % 192 = z - 192 * i by omega])) ((f1 175 4 (Or.inl (by decide)) (Or.inr (by decide))).trans z4) rfl
        · skip
          refine aw_aload_n d_Mo_challenge_44 rfl rfl ?_
          refine aw_aload_n d_Mo_challenge_45 rfl rfl ?_
          refine ax_getR (b := 262) d_Mo_challenge_46 fd_Mo_84 (k_175 S) (r_175_30 S) ?_
          refine aw_iconst d_Mo_challenge_49 ⟨by decide, by decide⟩ ?_
          refine aw_aload_n d_Mo_challenge_50 rfl rfl ?_
          refine ax_getR (b := 204) d_Mo_challenge_51 fd_Mo_76 (k_175 S) (r_175_28 S) ?_
          refine aw_iload_n d_Mo_challenge_54 rfl rfl ?_
          refine aw_iload d_Mo_challenge_55 rfl ?_
          refine ax_iadd d_Mo_challenge_57 ⟨(by omega), (by omega)⟩ ?_
          refine ax_aald (b := 205 + (30 + i).toNat) d_Mo_challenge_58 ⟨by rw [(k_204 S)]; decide, by rw [(k_204 S)]; decide⟩ (by omega) (by rw [n_204 S]; omega) (g_204 S (by omega) (by omega)) ?_
          refine aw_iload d_Mo_challenge_59 rfl ?_
          refine ax_ialde (x := X i c) d_Mo_challenge_61 (kr_204 S (by omega)) (by omega) (by rw [nr_204 S (by omega)]; omega) ((Gx.1 _ _ (by omega) (Or.inl (by omega))).trans (hX i hi.1 (by omega) c hc.1 (by omega))) ?_
          refine aw_iload_n d_Mo_challenge_62 rfl rfl ?_
          refine ax_Vr (st := []) (as := [vr 262, vi 0, vi (X i c), vi 6]) (b := 175) d_Mo_challenge_63 cs_Mo_challenge_63 (k_175 S) (c_Mo_putBits (q := 6 * c.toNat) (V := bV (X i) 6 c.toNat) (c := 192 * i) (d := 6) S ⟨k_262 S, by decide, by decide⟩ (by decide) (bX i hi.1 (by omega) c hc.1 (by omega)) (by omega) g1 (by rw [n_262 S]; omega)) rfl rfl rfl (fun u_63 q_63 => ?_)
          obtain ⟨q1, q2, q3⟩ := q_63
          show AW l G M_Mo_challenge P 66 [(5, vi c), (4, vi i), (3, vi 6), (2, vr 267), (1, vi 30), (0, vr 175)] [] (sD h u_63 L)
          refine ax_iinc (lv' := [(5, vi (c + 1)), (4, vi i), (3, vi 6), (2, vr 267), (1, vi 30), (0, vr 175)]) d_Mo_challenge_66 rfl (by decide) ⟨(by omega), (by omega)⟩ rfl ?_
          refine aw_goto (tgt := 36) d_Mo_challenge_69 (by decide) ?_
          exact ih_36 _ (by omega) (c + 1) u_63 (by omega) (Gx.tr (FR.bits (p := fun a => a = 262) q1 rfl) (fun a x => ⟨x, x⟩)) (fun a j x y => (q1 a j x y).trans (f1 a j x y)) (by omega) (by rw [show (c + 1).toNat = c.toNat + 1 by omega]; show bIn _ _ (bV (X i) 6 c.toNat + X i (c.toNat : Int) * 2 ^ (6 * c.toNat)) _; rw [Int.toNat_of_nonneg hc.1]; exact q3) rfl
      skip
      exact lp_36 _ 0 K (by omega) (F) (fun _ _ _ _ => rfl) (by omega) (⟨⟨Int.le_refl _, by simp [bV]⟩, fun m hm => absurd hm (by simp)⟩) rfl
  skip
  refine aw_sub (lv' := [(4, vi 0), (3, vi 6), (2, vr 267), (1, vi 30), (0, vr 175)]) (by simp) ?_
  exact lp_24 _ 0 (a_up I 175 23 0) (by omega) (FR.b0) (by rw [a_up_at]; rfl) (fun z x y => by omega) (a_up_ne (Or.inr (by decide))) rfl
set_option maxHeartbeats 800000 in
set_option maxRecDepth 100000 in
theorem c_Mo_challengeR1_30 {l : Launch} {G : a_G} {h : Hp} {I L : Nat → Int → Int} {mu : Int → Int} {X : Int → Int → Int} (S : Shp h) (D : RD I L 1) (hX : ∀ m, 0 ≤ m → m < 6 → eqQ (I (205 + (30 + m).toNat)) (X m)) (bX : ∀ m, 0 ≤ m → m < 6 → ∀ j, 0 ≤ j → j < 256 → 0 ≤ X m j ∧ X m j < 2 ^ 4) (hm : HR I 265 0 64 mu) (hmm : ∀ k, 0 ≤ k → k < 64 → mu k % 256 = mu k) : AW l G M_Mo_challenge (Ret (fun _ : (Nat → Int → Int) × (Nat → Int → Int) => none) (fun u => sD h u.1 u.2) (fun u => FR (fun a => a = 262 ∨ a = 267) I L u.1 u.2 ∧ HR u.1 267 0 48 (spOut (hhS mu (fun x => gB (X (x / 128)) 4 (x % 128)) 768)) ∧ (∀ k, 0 ≤ k → k < 48 → -128 ≤ u.1 267 (0 + k) ∧ u.1 267 (0 + k) ≤ 127) ∧ u.1 175 4 = I 175 4)) 0 (a_ar 0 [vr 175, vi 30, vr 267]) [] (sD h I L) := by
  suffices key : ∀ P : a_R → Hp → Prop, (∀ I2 L2, FR (fun a => a = 262 ∨ a = 267) I L I2 L2 → HR I2 267 0 48 (spOut (hhS mu (fun x => gB (X (x / 128)) 4 (x % 128)) 768)) → (∀ k, 0 ≤ k → k < 48 → -128 ≤ I2 267 (0 + k) ∧ I2 267 (0 + k) ≤ 127) → I2 175 4 = I 175 4 → P (.inl none) (sD h I2 L2)) → AW l G M_Mo_challenge P 0 [(0, vr 175), (1, vi 30), (2, vr 267)] [] (sD h I L) from key _ (fun I2 L2 q1 q2 q3 q4 => ⟨(I2, L2), rfl, rfl, q1, q2, q3, q4⟩)
  intro P hP
  refine aw_aload_n d_Mo_challenge_0 rfl rfl ?_
  refine aw_iconst d_Mo_challenge_1 ⟨by decide, by decide⟩ ?_
  refine ax_putI d_Mo_challenge_2 fd_Mo_216 (k_175 S) (by decide) rfl ?_
  refine aw_aload_n d_Mo_challenge_5 rfl rfl ?_
  refine ax_getIe (x := 261888) d_Mo_challenge_6 fd_Mo_242 (k_175 S) (Eq.trans (a_up_ne (Or.inr (by decide))) (dr1_36 D)) ?_
  refine aw_ldc (n := 261888) d_Mo_challenge_9 lc_Mo_241 ⟨by decide, by decide⟩ ?_
  refine aw_icmp_ne (tgt := 18) d_Mo_challenge_11 (by decide) (fun c_11 => False.elim (by omega)) (fun c_11 => ?_)
  refine aw_iconst d_Mo_challenge_14 ⟨by decide, by decide⟩ ?_
  refine aw_goto (tgt := 20) d_Mo_challenge_15 (by decide) ?_
  refine aw_istore_n (lv' := [(3, vi 4), (0, vr 175), (1, vi 30), (2, vr 267)]) d_Mo_challenge_20 rfl (by decide) rfl ?_
  refine aw_iconst d_Mo_challenge_21 ⟨by decide, by decide⟩ ?_
  refine aw_istore (lv' := [(4, vi 0), (3, vi 4), (0, vr 175), (1, vi 30), (2, vr 267)]) d_Mo_challenge_22 (by decide) rfl ?_
  have lp_24 : ∀ (n_ : Nat) (i : Int) (K : Nat → Int → Int), (0 ≤ i ∧ i ≤ 6) → (FR (fun a => a = 262) I L K L) → (K 175 23 = 8 * (128 * i)) → (HR K 262 0 (128 * i) (fun x => gB (X (x / 128)) 4 (x % 128))) → (K 175 4 = I 175 4) → ((6 - i).toNat) = n_ → AW l G M_Mo_challenge P 24 [(4, vi i), (3, vi 4), (2, vr 267), (1, vi 30), (0, vr 175)] [] (sD h K L) := by
    intro n_
    induction n_ using Nat.strongRecOn with
    | _ n_ ih_24 =>
    intro i K hi F b1 HK z4 hm_24
    refine aw_iload d_Mo_challenge_24 rfl ?_
    refine aw_aload_n d_Mo_challenge_26 rfl rfl ?_
    refine ax_getIe (x := 6) d_Mo_challenge_27 fd_Mo_223 (k_175 S) (Eq.trans (F.1 175 26 (by omega) (Or.inr (by decide))) (dr1_26 D)) ?_
    refine aw_icmp_ge (tgt := 78) d_Mo_challenge_30 (by decide) (fun c_30 => ?_) (fun c_30 => ?_)
    · skip
      refine aw_aload_n d_Mo_challenge_78 rfl rfl ?_
      refine aw_bipush d_Mo_challenge_79 ⟨by decide, by decide⟩ (by decide) ?_
      have RS := D.1.fr F (by decide)
      refine ax_Vr (st := []) (as := [vi 12]) (b := 175) d_Mo_challenge_81 cs_Mo_challenge_81 (k_175 S) (c_Mo_begin12 S) rfl rfl rfl (fun u_81 q_81 => ?_)
      obtain ⟨I1, L1⟩ := u_81
      obtain ⟨F1, e1, k1⟩ := q_81
      dsimp only at F1 e1 k1
      show AW l G M_Mo_challenge P 84 [(4, vi i), (3, vi 4), (2, vr 267), (1, vi 30), (0, vr 175)] [] (sD h I1 L1)
      refine aw_aload_n d_Mo_challenge_84 rfl rfl ?_
      refine aw_aload_n d_Mo_challenge_85 rfl rfl ?_
      refine ax_getR (b := 265) d_Mo_challenge_86 fd_Mo_93 (k_175 S) (r_175_41 S) ?_
      refine aw_iconst d_Mo_challenge_89 ⟨by decide, by decide⟩ ?_
      refine aw_bipush d_Mo_challenge_90 ⟨by decide, by decide⟩ (by decide) ?_
      refine ax_Vr (st := []) (as := [vr 265, vi 0, vi 64]) (b := 175) d_Mo_challenge_92 cs_Mo_challenge_92 (k_175 S) (c_Mo_put3 S (RS.rf F1) (by omega) (by rw [e1]; exact spStart_lt (by decide) (by decide)) ⟨k_265 S, by decide, by decide⟩ (by rw [n_265 S]; decide)) rfl rfl rfl (fun u_92 q_92 => ?_)
      obtain ⟨I2, L2⟩ := u_92
      obtain ⟨F2, e2, k2⟩ := q_92
      dsimp only at F2 e2 k2
      show AW l G M_Mo_challenge P 95 [(4, vi i), (3, vi 4), (2, vr 267), (1, vi 30), (0, vr 175)] [] (sD h I2 L2)
      refine aw_aload_n d_Mo_challenge_95 rfl rfl ?_
      refine aw_aload_n d_Mo_challenge_96 rfl rfl ?_
      refine ax_getR (b := 262) d_Mo_challenge_97 fd_Mo_84 (k_175 S) (r_175_30 S) ?_
      refine aw_iconst d_Mo_challenge_100 ⟨by decide, by decide⟩ ?_
      refine aw_bipush d_Mo_challenge_101 ⟨by decide, by decide⟩ (by decide) ?_
      refine aw_iload_n d_Mo_challenge_103 rfl rfl ?_
      refine ax_imul d_Mo_challenge_104 ⟨(by omega), (by omega)⟩ ?_
      refine ax_ti (x := 128) (by decide) ?_
      refine aw_aload_n d_Mo_challenge_105 rfl rfl ?_
      refine ax_getIe (x := 6) d_Mo_challenge_106 fd_Mo_223 (k_175 S) (Eq.trans ((F1.tr F2).1 175 26 (Or.inr (by decide))) (Eq.trans (F.1 175 26 (by omega) (Or.inr (by decide))) (dr1_26 D))) ?_
      refine ax_imul d_Mo_challenge_109 ⟨(by omega), (by omega)⟩ ?_
      refine ax_ti (x := 768) (by decide) ?_
      refine ax_Vr (st := []) (as := [vr 262, vi 0, vi 768]) (b := 175) d_Mo_challenge_110 cs_Mo_challenge_110 (k_175 S) (c_Mo_put3 S ((RS.rf F1).rf F2) (by omega) (by rw [e2, e1]; exact spPart_lt (spStart_lt (by decide) (by decide)) _ _) ⟨k_262 S, by decide, by decide⟩ (by rw [n_262 S]; decide)) rfl rfl rfl (fun u_110 q_110 => ?_)
      obtain ⟨I3, L3⟩ := u_110
      obtain ⟨F3, e3, k3⟩ := q_110
      dsimp only at F3 e3 k3
      show AW l G M_Mo_challenge P 113 [(4, vi i), (3, vi 4), (2, vr 267), (1, vi 30), (0, vr 175)] [] (sD h I3 L3)
      have eS : spTurn (spR I3 L3) = hhS mu (fun x => gB (X (x / 128)) 4 (x % 128)) 768 := by rw [e3, e2, e1]; unfold hhS; rw [spPart_congr (f := fun k => I1 265 (0 + k)) (g := mu) (fun k hk => by rw [F1.1 265 _ (Or.inl (by decide)), F.1 265 _ (by decide) (Or.inl (by decide)), hm k (by omega) (by omega), hmm k (by omega) (by omega)]), spPart_congr (f := fun k => I2 262 (0 + k)) (g := (fun x => gB (X (x / 128)) 4 (x % 128))) (fun k hk => by rw [(F1.tr F2).1 262 _ (Or.inl (by decide)), HK k (by omega) (by omega), gB_m])]; rfl
      refine aw_aload_n d_Mo_challenge_113 rfl rfl ?_
      refine aw_aload_n d_Mo_challenge_114 rfl rfl ?_
      refine aw_iconst d_Mo_challenge_115 ⟨by decide, by decide⟩ ?_
      refine aw_aload_n d_Mo_challenge_116 rfl rfl ?_
      refine ax_getIe (x := 48) d_Mo_challenge_117 fd_Mo_248 (k_175 S) (Eq.trans (((F1.tr F2).tr F3).1 175 38 (Or.inr (by decide))) (Eq.trans (F.1 175 38 (by omega) (Or.inr (by decide))) (dr1_38 D))) ?_
      refine ax_Vr (st := []) (as := [vr 267, vi 0, vi 48]) (b := 175) d_Mo_challenge_120 cs_Mo_challenge_120 (k_175 S) (c_Mo_give S (((RS.rf F1).rf F2).rf F3) (by omega) (by rw [e3, e2, e1]; exact (spPart_lt (spPart_lt (spStart_lt (by decide) (by decide)) _ _) _ _).1) ⟨k_267 S, by decide, by decide, by decide⟩ (by rw [n_267 S]; decide)) rfl rfl rfl (fun u_120 q_120 => ?_)
      obtain ⟨I4, L4⟩ := u_120
      obtain ⟨F4, f4, e4, k4⟩ := q_120
      dsimp only at F4 f4 e4 k4
      rw [eS] at F4
      show AW l G M_Mo_challenge P 123 [(4, vi i), (3, vi 4), (2, vr 267), (1, vi 30), (0, vr 175)] [] (sD h I4 L4)
      exact aw_vret d_Mo_challenge_123 rfl (hP I4 L4 ((F.tr (((F1.tr F2).tr F3).fr (p := fun a => a = 262)) (r := fun a => a = 262 ∨ a = 267) (by intro a x; omega)).tr (FR.give (p := fun a => a = 267) F4 f4 rfl) (by intro a x; omega)) (HR.give F4 (by decide)) (fun k x y => by rw [F4 267 _ (Or.inl (by decide)), putRow_in (by omega) (by omega)]; exact a_w8r _) (by rw [F4 175 4 (Or.inr (by decide)), putRow_ne (by decide), ((F1.tr F2).tr F3).1 175 4 (Or.inr (by decide))]; exact z4))
    · skip
      refine aw_iconst d_Mo_challenge_33 ⟨by decide, by decide⟩ ?_
      refine aw_istore (lv' := [(5, vi 0), (4, vi i), (3, vi 4), (2, vr 267), (1, vi 30), (0, vr 175)]) d_Mo_challenge_34 (by decide) rfl ?_
      have lp_36 : ∀ (n_ : Nat) (c : Int) (K2 : Nat → Int → Int), (0 ≤ c ∧ c ≤ 256) → (FR (fun a => a = 262) I L K2 L) → (∀ a j, (a ≠ 262 ∨ j < 0 + 128 * i) → (a ≠ 175 ∨ j ≠ 23) → K2 a j = K a j) → (K2 175 23 = 8 * (128 * i) + 4 * c) → (bIn (K2 262) (0 + 128 * i) (bV (X i) 4 c.toNat) (4 * c.toNat)) → ((256 - c).toNat) = n_ → AW l G M_Mo_challenge P 36 [(5, vi c), (4, vi i), (3, vi 4), (2, vr 267), (1, vi 30), (0, vr 175)] [] (sD h K2 L) := by
        intro n_
        induction n_ using Nat.strongRecOn with
        | _ n_ ih_36 =>
        intro c K2 hc Gx f1 b2 g1 hm_36
        refine aw_iload d_Mo_challenge_36 rfl ?_
        refine aw_sipush d_Mo_challenge_38 ⟨by decide, by decide⟩ (by decide) ?_
        refine aw_icmp_ge (tgt := 72) d_Mo_challenge_41 (by decide) (fun c_41 => ?_) (fun c_41 => ?_)
        · skip
          refine ax_iinc (lv' := [(4, vi (i + 1)), (5, vi c), (3, vi 4), (2, vr 267), (1, vi 30), (0, vr 175)]) d_Mo_challenge_72 rfl (by decide) ⟨(by omega), (by omega)⟩ rfl ?_
          refine aw_goto (tgt := 24) d_Mo_challenge_75 (by decide) ?_
          refine aw_sub (lv' := [(4, vi (i + 1)), (3, vi 4), (2, vr 267), (1, vi 30), (0, vr 175)]) (by simp) ?_
          exact ih_24 _ (by omega) (i + 1) K2 (by omega) (Gx) (by omega) (fun z x y => by by_cases v : z < 128 * i; exact (by rw [f1 262 _ (Or.inr (by omega)) (Or.inl (by decide))]; exact HK z x v); exact (by have y2 := gB_of (by have w_ := g1; rw [show c.toNat = 256 by omega] at w_; exact w_) (z - 128 * i) (by omega) (by omega); rw [show (0 + 128 * i + (z - 128 * i) : Int) = 0 + z by omega] at y2; rw [y2]; show _ = gB (X (z / 128)) 4 (z % 128); rw [show z / 128 = i by omega, show z % 128 = z - 128 * i by omega])) ((f1 175 4 (Or.inl (by decide)) (Or.inr (by decide))).trans z4) rfl
        · skip
          refine aw_aload_n d_Mo_challenge_44 rfl rfl ?_
          refine aw_aload_n d_Mo_challenge_45 rfl rfl ?_
          refine ax_getR (b := 262) d_Mo_challenge_46 fd_Mo_84 (k_175 S) (r_175_30 S) ?_
          refine aw_iconst d_Mo_challenge_49 ⟨by decide, by decide⟩ ?_
          refine aw_aload_n d_Mo_challenge_50 rfl rfl ?_
          refine ax_getR (b := 204) d_Mo_challenge_51 fd_Mo_76 (k_175 S) (r_175_28 S) ?_
          refine aw_iload_n d_Mo_challenge_54 rfl rfl ?_
          refine aw_iload d_Mo_challenge_55 rfl ?_
          refine ax_iadd d_Mo_challenge_57 ⟨(by omega), (by omega)⟩ ?_
          refine ax_aald (b := 205 + (30 + i).toNat) d_Mo_challenge_58 ⟨by rw [(k_204 S)]; decide, by rw [(k_204 S)]; decide⟩ (by omega) (by rw [n_204 S]; omega) (g_204 S (by omega) (by omega)) ?_
          refine aw_iload d_Mo_challenge_59 rfl ?_
          refine ax_ialde (x := X i c) d_Mo_challenge_61 (kr_204 S (by omega)) (by omega) (by rw [nr_204 S (by omega)]; omega) ((Gx.1 _ _ (by omega) (Or.inl (by omega))).trans (hX i hi.1 (by omega) c hc.1 (by omega))) ?_
          refine aw_iload_n d_Mo_challenge_62 rfl rfl ?_
          refine ax_Vr (st := []) (as := [vr 262, vi 0, vi (X i c), vi 4]) (b := 175) d_Mo_challenge_63 cs_Mo_challenge_63 (k_175 S) (c_Mo_putBits (q := 4 * c.toNat) (V := bV (X i) 4 c.toNat) (c := 128 * i) (d := 4) S ⟨k_262 S, by decide, by decide⟩ (by decide) (bX i hi.1 (by omega) c hc.1 (by omega)) (by omega) g1 (by rw [n_262 S]; omega)) rfl rfl rfl (fun u_63 q_63 => ?_)
          obtain ⟨q1, q2, q3⟩ := q_63
          show AW l G M_Mo_challenge P 66 [(5, vi c), (4, vi i), (3, vi 4), (2, vr 267), (1, vi 30), (0, vr 175)] [] (sD h u_63 L)
          refine ax_iinc (lv' := [(5, vi (c + 1)), (4, vi i), (3, vi 4), (2, vr 267), (1, vi 30), (0, vr 175)]) d_Mo_challenge_66 rfl (by decide) ⟨(by omega), (by omega)⟩ rfl ?_
          refine aw_goto (tgt := 36) d_Mo_challenge_69 (by decide) ?_
          exact ih_36 _ (by omega) (c + 1) u_63 (by omega) (Gx.tr (FR.bits (p := fun a => a = 262) q1 rfl) (fun a x => ⟨x, x⟩)) (fun a j x y => (q1 a j x y).trans (f1 a j x y)) (by omega) (by rw [show (c + 1).toNat = c.toNat + 1 by omega]; show bIn _ _ (bV (X i) 4 c.toNat + X i (c.toNat : Int) * 2 ^ (4 * c.toNat)) _; rw [Int.toNat_of_nonneg hc.1]; exact q3) rfl
      skip
      exact lp_36 _ 0 K (by omega) (F) (fun _ _ _ _ => rfl) (by omega) (⟨⟨Int.le_refl _, by simp [bV]⟩, fun m hm => absurd hm (by simp)⟩) rfl
  skip
  refine aw_sub (lv' := [(4, vi 0), (3, vi 4), (2, vr 267), (1, vi 30), (0, vr 175)]) (by simp) ?_
  exact lp_24 _ 0 (a_up I 175 23 0) (by omega) (FR.b0) (by rw [a_up_at]; rfl) (fun z x y => by omega) (a_up_ne (Or.inr (by decide))) rfl
set_option maxHeartbeats 800000 in
set_option maxRecDepth 100000 in
theorem c_Mo_challengeR2_30 {l : Launch} {G : a_G} {h : Hp} {I L : Nat → Int → Int} {mu : Int → Int} {X : Int → Int → Int} (S : Shp h) (D : RD I L 2) (hX : ∀ m, 0 ≤ m → m < 8 → eqQ (I (205 + (30 + m).toNat)) (X m)) (bX : ∀ m, 0 ≤ m → m < 8 → ∀ j, 0 ≤ j → j < 256 → 0 ≤ X m j ∧ X m j < 2 ^ 4) (hm : HR I 265 0 64 mu) (hmm : ∀ k, 0 ≤ k → k < 64 → mu k % 256 = mu k) : AW l G M_Mo_challenge (Ret (fun _ : (Nat → Int → Int) × (Nat → Int → Int) => none) (fun u => sD h u.1 u.2) (fun u => FR (fun a => a = 262 ∨ a = 267) I L u.1 u.2 ∧ HR u.1 267 0 64 (spOut (hhS mu (fun x => gB (X (x / 128)) 4 (x % 128)) 1024)) ∧ (∀ k, 0 ≤ k → k < 64 → -128 ≤ u.1 267 (0 + k) ∧ u.1 267 (0 + k) ≤ 127) ∧ u.1 175 4 = I 175 4)) 0 (a_ar 0 [vr 175, vi 30, vr 267]) [] (sD h I L) := by
  suffices key : ∀ P : a_R → Hp → Prop, (∀ I2 L2, FR (fun a => a = 262 ∨ a = 267) I L I2 L2 → HR I2 267 0 64 (spOut (hhS mu (fun x => gB (X (x / 128)) 4 (x % 128)) 1024)) → (∀ k, 0 ≤ k → k < 64 → -128 ≤ I2 267 (0 + k) ∧ I2 267 (0 + k) ≤ 127) → I2 175 4 = I 175 4 → P (.inl none) (sD h I2 L2)) → AW l G M_Mo_challenge P 0 [(0, vr 175), (1, vi 30), (2, vr 267)] [] (sD h I L) from key _ (fun I2 L2 q1 q2 q3 q4 => ⟨(I2, L2), rfl, rfl, q1, q2, q3, q4⟩)
  intro P hP
  refine aw_aload_n d_Mo_challenge_0 rfl rfl ?_
  refine aw_iconst d_Mo_challenge_1 ⟨by decide, by decide⟩ ?_
  refine ax_putI d_Mo_challenge_2 fd_Mo_216 (k_175 S) (by decide) rfl ?_
  refine aw_aload_n d_Mo_challenge_5 rfl rfl ?_
  refine ax_getIe (x := 261888) d_Mo_challenge_6 fd_Mo_242 (k_175 S) (Eq.trans (a_up_ne (Or.inr (by decide))) (dr2_36 D)) ?_
  refine aw_ldc (n := 261888) d_Mo_challenge_9 lc_Mo_241 ⟨by decide, by decide⟩ ?_
  refine aw_icmp_ne (tgt := 18) d_Mo_challenge_11 (by decide) (fun c_11 => False.elim (by omega)) (fun c_11 => ?_)
  refine aw_iconst d_Mo_challenge_14 ⟨by decide, by decide⟩ ?_
  refine aw_goto (tgt := 20) d_Mo_challenge_15 (by decide) ?_
  refine aw_istore_n (lv' := [(3, vi 4), (0, vr 175), (1, vi 30), (2, vr 267)]) d_Mo_challenge_20 rfl (by decide) rfl ?_
  refine aw_iconst d_Mo_challenge_21 ⟨by decide, by decide⟩ ?_
  refine aw_istore (lv' := [(4, vi 0), (3, vi 4), (0, vr 175), (1, vi 30), (2, vr 267)]) d_Mo_challenge_22 (by decide) rfl ?_
  have lp_24 : ∀ (n_ : Nat) (i : Int) (K : Nat → Int → Int), (0 ≤ i ∧ i ≤ 8) → (FR (fun a => a = 262) I L K L) → (K 175 23 = 8 * (128 * i)) → (HR K 262 0 (128 * i) (fun x => gB (X (x / 128)) 4 (x % 128))) → (K 175 4 = I 175 4) → ((8 - i).toNat) = n_ → AW l G M_Mo_challenge P 24 [(4, vi i), (3, vi 4), (2, vr 267), (1, vi 30), (0, vr 175)] [] (sD h K L) := by
    intro n_
    induction n_ using Nat.strongRecOn with
    | _ n_ ih_24 =>
    intro i K hi F b1 HK z4 hm_24
    refine aw_iload d_Mo_challenge_24 rfl ?_
    refine aw_aload_n d_Mo_challenge_26 rfl rfl ?_
    refine ax_getIe (x := 8) d_Mo_challenge_27 fd_Mo_223 (k_175 S) (Eq.trans (F.1 175 26 (by omega) (Or.inr (by decide))) (dr2_26 D)) ?_
    refine aw_icmp_ge (tgt := 78) d_Mo_challenge_30 (by decide) (fun c_30 => ?_) (fun c_30 => ?_)
    · skip
      refine aw_aload_n d_Mo_challenge_78 rfl rfl ?_
      refine aw_bipush d_Mo_challenge_79 ⟨by decide, by decide⟩ (by decide) ?_
      have RS := D.1.fr F (by decide)
      refine ax_Vr (st := []) (as := [vi 12]) (b := 175) d_Mo_challenge_81 cs_Mo_challenge_81 (k_175 S) (c_Mo_begin12 S) rfl rfl rfl (fun u_81 q_81 => ?_)
      obtain ⟨I1, L1⟩ := u_81
      obtain ⟨F1, e1, k1⟩ := q_81
      dsimp only at F1 e1 k1
      show AW l G M_Mo_challenge P 84 [(4, vi i), (3, vi 4), (2, vr 267), (1, vi 30), (0, vr 175)] [] (sD h I1 L1)
      refine aw_aload_n d_Mo_challenge_84 rfl rfl ?_
      refine aw_aload_n d_Mo_challenge_85 rfl rfl ?_
      refine ax_getR (b := 265) d_Mo_challenge_86 fd_Mo_93 (k_175 S) (r_175_41 S) ?_
      refine aw_iconst d_Mo_challenge_89 ⟨by decide, by decide⟩ ?_
      refine aw_bipush d_Mo_challenge_90 ⟨by decide, by decide⟩ (by decide) ?_
      refine ax_Vr (st := []) (as := [vr 265, vi 0, vi 64]) (b := 175) d_Mo_challenge_92 cs_Mo_challenge_92 (k_175 S) (c_Mo_put3 S (RS.rf F1) (by omega) (by rw [e1]; exact spStart_lt (by decide) (by decide)) ⟨k_265 S, by decide, by decide⟩ (by rw [n_265 S]; decide)) rfl rfl rfl (fun u_92 q_92 => ?_)
      obtain ⟨I2, L2⟩ := u_92
      obtain ⟨F2, e2, k2⟩ := q_92
      dsimp only at F2 e2 k2
      show AW l G M_Mo_challenge P 95 [(4, vi i), (3, vi 4), (2, vr 267), (1, vi 30), (0, vr 175)] [] (sD h I2 L2)
      refine aw_aload_n d_Mo_challenge_95 rfl rfl ?_
      refine aw_aload_n d_Mo_challenge_96 rfl rfl ?_
      refine ax_getR (b := 262) d_Mo_challenge_97 fd_Mo_84 (k_175 S) (r_175_30 S) ?_
      refine aw_iconst d_Mo_challenge_100 ⟨by decide, by decide⟩ ?_
      refine aw_bipush d_Mo_challenge_101 ⟨by decide, by decide⟩ (by decide) ?_
      refine aw_iload_n d_Mo_challenge_103 rfl rfl ?_
      refine ax_imul d_Mo_challenge_104 ⟨(by omega), (by omega)⟩ ?_
      refine ax_ti (x := 128) (by decide) ?_
      refine aw_aload_n d_Mo_challenge_105 rfl rfl ?_
      refine ax_getIe (x := 8) d_Mo_challenge_106 fd_Mo_223 (k_175 S) (Eq.trans ((F1.tr F2).1 175 26 (Or.inr (by decide))) (Eq.trans (F.1 175 26 (by omega) (Or.inr (by decide))) (dr2_26 D))) ?_
      refine ax_imul d_Mo_challenge_109 ⟨(by omega), (by omega)⟩ ?_
      refine ax_ti (x := 1024) (by decide) ?_
      refine ax_Vr (st := []) (as := [vr 262, vi 0, vi 1024]) (b := 175) d_Mo_challenge_110 cs_Mo_challenge_110 (k_175 S) (c_Mo_put3 S ((RS.rf F1).rf F2) (by omega) (by rw [e2, e1]; exact spPart_lt (spStart_lt (by decide) (by decide)) _ _) ⟨k_262 S, by decide, by decide⟩ (by rw [n_262 S]; decide)) rfl rfl rfl (fun u_110 q_110 => ?_)
      obtain ⟨I3, L3⟩ := u_110
      obtain ⟨F3, e3, k3⟩ := q_110
      dsimp only at F3 e3 k3
      show AW l G M_Mo_challenge P 113 [(4, vi i), (3, vi 4), (2, vr 267), (1, vi 30), (0, vr 175)] [] (sD h I3 L3)
      have eS : spTurn (spR I3 L3) = hhS mu (fun x => gB (X (x / 128)) 4 (x % 128)) 1024 := by rw [e3, e2, e1]; unfold hhS; rw [spPart_congr (f := fun k => I1 265 (0 + k)) (g := mu) (fun k hk => by rw [F1.1 265 _ (Or.inl (by decide)), F.1 265 _ (by decide) (Or.inl (by decide)), hm k (by omega) (by omega), hmm k (by omega) (by omega)]), spPart_congr (f := fun k => I2 262 (0 + k)) (g := (fun x => gB (X (x / 128)) 4 (x % 128))) (fun k hk => by rw [(F1.tr F2).1 262 _ (Or.inl (by decide)), HK k (by omega) (by omega), gB_m])]; rfl
      refine aw_aload_n d_Mo_challenge_113 rfl rfl ?_
      refine aw_aload_n d_Mo_challenge_114 rfl rfl ?_
      refine aw_iconst d_Mo_challenge_115 ⟨by decide, by decide⟩ ?_
      refine aw_aload_n d_Mo_challenge_116 rfl rfl ?_
      refine ax_getIe (x := 64) d_Mo_challenge_117 fd_Mo_248 (k_175 S) (Eq.trans (((F1.tr F2).tr F3).1 175 38 (Or.inr (by decide))) (Eq.trans (F.1 175 38 (by omega) (Or.inr (by decide))) (dr2_38 D))) ?_
      refine ax_Vr (st := []) (as := [vr 267, vi 0, vi 64]) (b := 175) d_Mo_challenge_120 cs_Mo_challenge_120 (k_175 S) (c_Mo_give S (((RS.rf F1).rf F2).rf F3) (by omega) (by rw [e3, e2, e1]; exact (spPart_lt (spPart_lt (spStart_lt (by decide) (by decide)) _ _) _ _).1) ⟨k_267 S, by decide, by decide, by decide⟩ (by rw [n_267 S]; decide)) rfl rfl rfl (fun u_120 q_120 => ?_)
      obtain ⟨I4, L4⟩ := u_120
      obtain ⟨F4, f4, e4, k4⟩ := q_120
      dsimp only at F4 f4 e4 k4
      rw [eS] at F4
      show AW l G M_Mo_challenge P 123 [(4, vi i), (3, vi 4), (2, vr 267), (1, vi 30), (0, vr 175)] [] (sD h I4 L4)
      exact aw_vret d_Mo_challenge_123 rfl (hP I4 L4 ((F.tr (((F1.tr F2).tr F3).fr (p := fun a => a = 262)) (r := fun a => a = 262 ∨ a = 267) (by intro a x; omega)).tr (FR.give (p := fun a => a = 267) F4 f4 rfl) (by intro a x; omega)) (HR.give F4 (by decide)) (fun k x y => by rw [F4 267 _ (Or.inl (by decide)), putRow_in (by omega) (by omega)]; exact a_w8r _) (by rw [F4 175 4 (Or.inr (by decide)), putRow_ne (by decide), ((F1.tr F2).tr F3).1 175 4 (Or.inr (by decide))]; exact z4))
    · skip
      refine aw_iconst d_Mo_challenge_33 ⟨by decide, by decide⟩ ?_
      refine aw_istore (lv' := [(5, vi 0), (4, vi i), (3, vi 4), (2, vr 267), (1, vi 30), (0, vr 175)]) d_Mo_challenge_34 (by decide) rfl ?_
      have lp_36 : ∀ (n_ : Nat) (c : Int) (K2 : Nat → Int → Int), (0 ≤ c ∧ c ≤ 256) → (FR (fun a => a = 262) I L K2 L) → (∀ a j, (a ≠ 262 ∨ j < 0 + 128 * i) → (a ≠ 175 ∨ j ≠ 23) → K2 a j = K a j) → (K2 175 23 = 8 * (128 * i) + 4 * c) → (bIn (K2 262) (0 + 128 * i) (bV (X i) 4 c.toNat) (4 * c.toNat)) → ((256 - c).toNat) = n_ → AW l G M_Mo_challenge P 36 [(5, vi c), (4, vi i), (3, vi 4), (2, vr 267), (1, vi 30), (0, vr 175)] [] (sD h K2 L) := by
        intro n_
        induction n_ using Nat.strongRecOn with
        | _ n_ ih_36 =>
        intro c K2 hc Gx f1 b2 g1 hm_36
        refine aw_iload d_Mo_challenge_36 rfl ?_
        refine aw_sipush d_Mo_challenge_38 ⟨by decide, by decide⟩ (by decide) ?_
        refine aw_icmp_ge (tgt := 72) d_Mo_challenge_41 (by decide) (fun c_41 => ?_) (fun c_41 => ?_)
        · skip
          refine ax_iinc (lv' := [(4, vi (i + 1)), (5, vi c), (3, vi 4), (2, vr 267), (1, vi 30), (0, vr 175)]) d_Mo_challenge_72 rfl (by decide) ⟨(by omega), (by omega)⟩ rfl ?_
          refine aw_goto (tgt := 24) d_Mo_challenge_75 (by decide) ?_
          refine aw_sub (lv' := [(4, vi (i + 1)), (3, vi 4), (2, vr 267), (1, vi 30), (0, vr 175)]) (by simp) ?_
          exact ih_24 _ (by omega) (i + 1) K2 (by omega) (Gx) (by omega) (fun z x y => by by_cases v : z < 128 * i; exact (by rw [f1 262 _ (Or.inr (by omega)) (Or.inl (by decide))]; exact HK z x v); exact (by have y2 := gB_of (by have w_ := g1; rw [show c.toNat = 256 by omega] at w_; exact w_) (z - 128 * i) (by omega) (by omega); rw [show (0 + 128 * i + (z - 128 * i) : Int) = 0 + z by omega] at y2; rw [y2]; show _ = gB (X (z / 128)) 4 (z % 128); rw [show z / 128 = i by omega, show z % 128 = z - 128 * i by omega])) ((f1 175 4 (Or.inl (by decide)) (Or.inr (by decide))).trans z4) rfl
        · skip
          refine aw_aload_n d_Mo_challenge_44 rfl rfl ?_
          refine aw_aload_n d_Mo_challenge_45 rfl rfl ?_
          refine ax_getR (b := 262) d_Mo_challenge_46 fd_Mo_84 (k_175 S) (r_175_30 S) ?_
          refine aw_iconst d_Mo_challenge_49 ⟨by decide, by decide⟩ ?_
          refine aw_aload_n d_Mo_challenge_50 rfl rfl ?_
          refine ax_getR (b := 204) d_Mo_challenge_51 fd_Mo_76 (k_175 S) (r_175_28 S) ?_
          refine aw_iload_n d_Mo_challenge_54 rfl rfl ?_
          refine aw_iload d_Mo_challenge_55 rfl ?_
          refine ax_iadd d_Mo_challenge_57 ⟨(by omega), (by omega)⟩ ?_
          refine ax_aald (b := 205 + (30 + i).toNat) d_Mo_challenge_58 ⟨by rw [(k_204 S)]; decide, by rw [(k_204 S)]; decide⟩ (by omega) (by rw [n_204 S]; omega) (g_204 S (by omega) (by omega)) ?_
          refine aw_iload d_Mo_challenge_59 rfl ?_
          refine ax_ialde (x := X i c) d_Mo_challenge_61 (kr_204 S (by omega)) (by omega) (by rw [nr_204 S (by omega)]; omega) ((Gx.1 _ _ (by omega) (Or.inl (by omega))).trans (hX i hi.1 (by omega) c hc.1 (by omega))) ?_
          refine aw_iload_n d_Mo_challenge_62 rfl rfl ?_
          refine ax_Vr (st := []) (as := [vr 262, vi 0, vi (X i c), vi 4]) (b := 175) d_Mo_challenge_63 cs_Mo_challenge_63 (k_175 S) (c_Mo_putBits (q := 4 * c.toNat) (V := bV (X i) 4 c.toNat) (c := 128 * i) (d := 4) S ⟨k_262 S, by decide, by decide⟩ (by decide) (bX i hi.1 (by omega) c hc.1 (by omega)) (by omega) g1 (by rw [n_262 S]; omega)) rfl rfl rfl (fun u_63 q_63 => ?_)
          obtain ⟨q1, q2, q3⟩ := q_63
          show AW l G M_Mo_challenge P 66 [(5, vi c), (4, vi i), (3, vi 4), (2, vr 267), (1, vi 30), (0, vr 175)] [] (sD h u_63 L)
          refine ax_iinc (lv' := [(5, vi (c + 1)), (4, vi i), (3, vi 4), (2, vr 267), (1, vi 30), (0, vr 175)]) d_Mo_challenge_66 rfl (by decide) ⟨(by omega), (by omega)⟩ rfl ?_
          refine aw_goto (tgt := 36) d_Mo_challenge_69 (by decide) ?_
          exact ih_36 _ (by omega) (c + 1) u_63 (by omega) (Gx.tr (FR.bits (p := fun a => a = 262) q1 rfl) (fun a x => ⟨x, x⟩)) (fun a j x y => (q1 a j x y).trans (f1 a j x y)) (by omega) (by rw [show (c + 1).toNat = c.toNat + 1 by omega]; show bIn _ _ (bV (X i) 4 c.toNat + X i (c.toNat : Int) * 2 ^ (4 * c.toNat)) _; rw [Int.toNat_of_nonneg hc.1]; exact q3) rfl
      skip
      exact lp_36 _ 0 K (by omega) (F) (fun _ _ _ _ => rfl) (by omega) (⟨⟨Int.le_refl _, by simp [bV]⟩, fun m hm => absurd hm (by simp)⟩) rfl
  skip
  refine aw_sub (lv' := [(4, vi 0), (3, vi 4), (2, vr 267), (1, vi 30), (0, vr 175)]) (by simp) ?_
  exact lp_24 _ 0 (a_up I 175 23 0) (by omega) (FR.b0) (by rw [a_up_at]; rfl) (fun z x y => by omega) (a_up_ne (Or.inr (by decide))) rfl
set_option maxHeartbeats 800000 in
set_option maxRecDepth 100000 in
theorem c_Mo_hints0 {l : Launch} {G : a_G} {h : Hp} {I L : Nat → Int → Int} (S : Shp h) (D : RD I L 0) (rg : ∀ j, -128 ≤ I 183 j ∧ I 183 j ≤ 127) (l5 : I 186 5 = 2420) : AW l G M_Mo_hints (Ret (fun u : Int × (Nat → Int → Int) => some (vi u.1)) (fun u => sD h u.2 L) (fun u => FR (fun a => 254 ≤ a ∧ a ≤ 261) I L u.2 L ∧ (∀ x, u.2 175 x = I 175 x) ∧ ((u.1 = 1 ∧ hSt (rgR I) 2336 80 4 ∧ ∀ m, 0 ≤ m → m < 4 → tbl u.2 (rgR I) 2336 80 m) ∨ (u.1 = 0 ∧ ¬ hSt (rgR I) 2336 80 4)))) 0 (a_ar 0 [vr 175, vr 183, vi 2336]) [] (sD h I L) := by
  suffices key : ∀ P : a_R → Hp → Prop, (∀ (v_ : Int) (K_ : Nat → Int → Int), FR (fun a => 254 ≤ a ∧ a ≤ 261) I L K_ L ∧ (∀ x, K_ 175 x = I 175 x) ∧ ((v_ = 1 ∧ hSt (rgR I) 2336 80 4 ∧ ∀ m, 0 ≤ m → m < 4 → tbl K_ (rgR I) 2336 80 m) ∨ (v_ = 0 ∧ ¬ hSt (rgR I) 2336 80 4)) → P (.inl (some (vi v_))) (sD h K_ L)) → AW l G M_Mo_hints P 0 [(0, vr 175), (1, vr 183), (2, vi 2336)] [] (sD h I L) from key _ (fun v K q => ⟨(v, K), rfl, rfl, q⟩)
  intro P hP
  refine aw_iconst d_Mo_hints_0 ⟨by decide, by decide⟩ ?_
  refine aw_istore_n (lv' := [(3, vi 0), (0, vr 175), (1, vr 183), (2, vi 2336)]) d_Mo_hints_1 rfl (by decide) rfl ?_
  refine aw_iconst d_Mo_hints_2 ⟨by decide, by decide⟩ ?_
  refine aw_istore (lv' := [(4, vi 0), (3, vi 0), (0, vr 175), (1, vr 183), (2, vi 2336)]) d_Mo_hints_3 (by decide) rfl ?_
  have lp_5 : ∀ (n_ : Nat) (i : Int) (n : Int) (K : Nat → Int → Int), (0 ≤ i ∧ i ≤ 4) → (n = hEn (rgR I) 2416 (i - 1) ∧ 0 ≤ n ∧ n < 256) → (FR (fun a => 254 ≤ a ∧ a ≤ 261) I L K L) → (∀ m, 0 ≤ m → m < i → hEn (rgR I) 2416 (m - 1) ≤ hEn (rgR I) 2416 m ∧ hEn (rgR I) 2416 m ≤ 80 ∧ rises (rgR I) (2336 + hEn (rgR I) 2416 (m - 1)) (2336 + hEn (rgR I) 2416 m)) → (∀ m, 0 ≤ m → m < i → tbl K (rgR I) 2336 80 m) → (∀ x, K 175 x = I 175 x) → ((4 - i).toNat) = n_ → AW l G M_Mo_hints P 5 [(4, vi i), (3, vi n), (2, vi 2336), (1, vr 183), (0, vr 175)] [] (sD h K L) := by
    intro n_
    induction n_ using Nat.strongRecOn with
    | _ n_ ih_5 =>
    intro i n K hi hn F gg tb p5 hm_5
    refine aw_iload d_Mo_hints_5 rfl ?_
    refine aw_aload_n d_Mo_hints_7 rfl rfl ?_
    refine ax_getIe (x := 4) d_Mo_hints_8 fd_Mo_223 (k_175 S) (Eq.trans (F.1 175 26 (by omega) (Or.inr (by decide))) (dr0_26 D)) ?_
    refine aw_icmp_ge (tgt := 153) d_Mo_hints_11 (by decide) (fun c_11 => ?_) (fun c_11 => ?_)
    · skip
      refine aw_iload_n d_Mo_hints_153 rfl rfl ?_
      refine aw_istore (lv' := [(4, vi n), (3, vi n), (2, vi 2336), (1, vr 183), (0, vr 175)]) d_Mo_hints_154 (by decide) rfl ?_
      have lp_156 : ∀ (n_ : Nat) (x : Int), (n ≤ x) → (∀ y, n ≤ y → y < x → rgR I (2336 + y) = 0) → ((80 - x).toNat) = n_ → AW l G M_Mo_hints P 156 [(4, vi x), (3, vi n), (2, vi 2336), (1, vr 183), (0, vr 175)] [] (sD h K L) := by
        intro n_
        induction n_ using Nat.strongRecOn with
        | _ n_ ih_156 =>
        intro x hx zz hm_156
        refine aw_iload d_Mo_hints_156 rfl ?_
        refine aw_aload_n d_Mo_hints_158 rfl rfl ?_
        refine ax_getIe (x := 80) d_Mo_hints_159 fd_Mo_245 (k_175 S) (Eq.trans (F.1 175 37 (by omega) (Or.inr (by decide))) (dr0_37 D)) ?_
        refine aw_icmp_ge (tgt := 182) d_Mo_hints_162 (by decide) (fun c_162 => ?_) (fun c_162 => ?_)
        · skip
          refine aw_iconst d_Mo_hints_182 ⟨by decide, by decide⟩ ?_
          exact aw_zret d_Mo_hints_183 rfl ⟨by decide, by decide⟩ (hP _ K ⟨F, p5, Or.inl ⟨rfl, ⟨fun m a b => gg m a (by omega), fun y a b => zz y (by have a : hEn (rgR I) 2416 (4 - 1) ≤ y := a; rw [show (4 - 1 : Int) = i - 1 by omega, ← hn.1] at a; exact a) (by omega)⟩, fun m a b => tb m a (by omega)⟩⟩)
        · skip
          have rz := rg (2336 + x)
          refine aw_aload_n d_Mo_hints_165 rfl rfl ?_
          refine aw_iload_n d_Mo_hints_166 rfl rfl ?_
          refine aw_iload d_Mo_hints_167 rfl ?_
          refine ax_iadd d_Mo_hints_169 ⟨(by omega), (by omega)⟩ ?_
          refine ax_balde (x := I 183 (2336 + x)) d_Mo_hints_170 (k_183 S) (by omega) (by rw [n_183 S]; omega) (Eq.trans (F.1 183 (2336 + x) (by omega) (Or.inl (by decide))) (rfl)) ?_
          refine aw_if_eq (tgt := 176) d_Mo_hints_171 (by decide) (fun c_171 => ?_) (fun c_171 => ?_)
          · skip
            refine ax_iinc (lv' := [(4, vi (x + 1)), (3, vi n), (2, vi 2336), (1, vr 183), (0, vr 175)]) d_Mo_hints_176 rfl (by decide) ⟨(by omega), (by omega)⟩ rfl ?_
            refine aw_goto (tgt := 156) d_Mo_hints_179 (by decide) ?_
            exact ih_156 _ (by omega) (x + 1) (by omega) (fun y a b => by by_cases z : y = x; exact (by rw [z, rg_in l5 (by omega) (by omega)]; omega); exact zz y a (by omega)) rfl
          · skip
            refine aw_iconst d_Mo_hints_174 ⟨by decide, by decide⟩ ?_
            exact aw_zret d_Mo_hints_175 rfl ⟨by decide, by decide⟩ (hP _ _ ⟨F, p5, Or.inr ⟨rfl, fun z => by have y := z.2 x (by show hEn (rgR I) 2416 (4 - 1) ≤ x; rw [show (4 - 1 : Int) = i - 1 by omega, ← hn.1]; exact hx) (by omega); rw [rg_in l5 (by omega) (by omega)] at y; omega⟩⟩)
      skip
      exact lp_156 _ n (by omega) (fun y a b => by omega) rfl
    · skip
      refine aw_iconst d_Mo_hints_14 ⟨by decide, by decide⟩ ?_
      refine aw_istore (lv' := [(5, vi 0), (4, vi i), (3, vi n), (2, vi 2336), (1, vr 183), (0, vr 175)]) d_Mo_hints_15 (by decide) rfl ?_
      have lp_17 : ∀ (n_ : Nat) (c : Int), (0 ≤ c ∧ c ≤ 256) → ((256 - c).toNat) = n_ → AW l G M_Mo_hints P 17 [(5, vi c), (4, vi i), (3, vi n), (2, vi 2336), (1, vr 183), (0, vr 175)] [] (sD h (rowTo K (254 + i.toNat) c (fun _ => 0)) L) := by
        intro n_
        induction n_ using Nat.strongRecOn with
        | _ n_ ih_17 =>
        intro c hc hm_17
        refine aw_iload d_Mo_hints_17 rfl ?_
        refine aw_sipush d_Mo_hints_19 ⟨by decide, by decide⟩ (by decide) ?_
        refine aw_icmp_ge (tgt := 42) d_Mo_hints_22 (by decide) (fun c_22 => ?_) (fun c_22 => ?_)
        · skip
          rw [show c = 256 by omega]
          refine aw_aload_n d_Mo_hints_42 rfl rfl ?_
          refine aw_iload_n d_Mo_hints_43 rfl rfl ?_
          refine aw_aload_n d_Mo_hints_44 rfl rfl ?_
          refine ax_getIe (x := 80) d_Mo_hints_45 fd_Mo_245 (k_175 S) (Eq.trans (rowTo_ne (by omega)) (Eq.trans (F.1 175 37 (by omega) (Or.inr (by decide))) (dr0_37 D))) ?_
          refine ax_iadd d_Mo_hints_48 ⟨(by omega), (by omega)⟩ ?_
          refine ax_ti (x := 2416) (by decide) ?_
          refine aw_iload d_Mo_hints_49 rfl ?_
          refine ax_iadd d_Mo_hints_51 ⟨(by omega), (by omega)⟩ ?_
          refine ax_balde (x := I 183 (2416 + i)) d_Mo_hints_52 (k_183 S) (by omega) (by rw [n_183 S]; omega) (Eq.trans (rowTo_ne (by omega)) (Eq.trans (F.1 183 (2416 + i) (by omega) (Or.inl (by decide))) (rfl))) ?_
          refine aw_sipush d_Mo_hints_53 ⟨by decide, by decide⟩ (by decide) ?_
          refine aw_iand d_Mo_hints_56 ?_
          refine ax_ti (x := (I 183 (2416 + i)) % 256) (a_and' 8 (by decide) (by decide) (by decide)) ?_
          refine aw_istore (lv' := [(5, vi ((I 183 (2416 + i)) % 256)), (4, vi i), (3, vi n), (2, vi 2336), (1, vr 183), (0, vr 175)]) d_Mo_hints_57 (by decide) rfl ?_
          have eE : hEn (rgR I) 2416 i = I 183 (2416 + i) % 256 := by unfold hEn; rw [if_neg (by omega)]; exact rg_in l5 (by omega) (by omega)
          refine aw_iload d_Mo_hints_59 rfl ?_
          refine aw_iload_n d_Mo_hints_61 rfl rfl ?_
          refine aw_icmp_lt (tgt := 74) d_Mo_hints_62 (by decide) (fun c_62 => ?_) (fun c_62 => ?_)
          · skip
            refine aw_iconst d_Mo_hints_74 ⟨by decide, by decide⟩ ?_
            exact aw_zret d_Mo_hints_75 rfl ⟨by decide, by decide⟩ (hP _ _ ⟨F.tr (FR.row (p := fun a => 254 ≤ a ∧ a ≤ 261) (by omega) (fun _ _ _ => rfl)) (fun a x => ⟨x, x⟩), fun x => (rowTo_ne (by omega)).trans (p5 x), Or.inr ⟨rfl, fun z => by have y := z.1 i hi.1 (by omega); rw [show (2336 + 80 : Int) = 2416 from rfl, ← hn.1, eE] at y;  omega⟩⟩)
          · skip
            refine aw_iload d_Mo_hints_65 rfl ?_
            refine aw_aload_n d_Mo_hints_67 rfl rfl ?_
            refine ax_getIe (x := 80) d_Mo_hints_68 fd_Mo_245 (k_175 S) (Eq.trans (rowTo_ne (by omega)) (Eq.trans (F.1 175 37 (by omega) (Or.inr (by decide))) (dr0_37 D))) ?_
            refine aw_icmp_le (tgt := 76) d_Mo_hints_71 (by decide) (fun c_71 => ?_) (fun c_71 => ?_)
            · skip
              refine aw_iload_n d_Mo_hints_76 rfl rfl ?_
              refine aw_istore (lv' := [(6, vi n), (5, vi ((I 183 (2416 + i)) % 256)), (4, vi i), (3, vi n), (2, vi 2336), (1, vr 183), (0, vr 175)]) d_Mo_hints_77 (by decide) rfl ?_
              have lp_79 : ∀ (n_ : Nat) (j : Int) (K2 : Nat → Int → Int), (n ≤ j ∧ j ≤ I 183 (2416 + i) % 256) → (FR (fun a => 254 ≤ a ∧ a ≤ 261) I L K2 L) → (∀ a x, a ≠ 254 + i.toNat → (a ≠ 175 ∨ x ≠ 23) → K2 a x = K a x) → (∀ x, n + 1 ≤ x → x < j → rgR I (2336 + (x - 1)) < rgR I (2336 + x)) → (∀ c, 0 ≤ c → c < 256 → (K2 (254 + i.toNat) c = 0 ∨ K2 (254 + i.toNat) c = 1) ∧ (K2 (254 + i.toNat) c = 1 ↔ ∃ x, n ≤ x ∧ x < j ∧ rgR I (2336 + x) = c)) → (∀ x, K2 175 x = I 175 x) → ((I 183 (2416 + i) % 256 - j).toNat) = n_ → AW l G M_Mo_hints P 79 [(6, vi j), (5, vi (I 183 (2416 + i) % 256)), (4, vi i), (3, vi n), (2, vi 2336), (1, vr 183), (0, vr 175)] [] (sD h K2 L) := by
                intro n_
                induction n_ using Nat.strongRecOn with
                | _ n_ ih_79 =>
                intro j K2 hj F2 f2 rs t2 p6 hm_79
                refine aw_iload d_Mo_hints_79 rfl ?_
                refine aw_iload d_Mo_hints_81 rfl ?_
                refine aw_icmp_ge (tgt := 144) d_Mo_hints_83 (by decide) (fun c_83 => ?_) (fun c_83 => ?_)
                · skip
                  refine aw_iload d_Mo_hints_144 rfl ?_
                  refine aw_istore_n (lv' := [(3, vi (I 183 (2416 + i) % 256)), (6, vi j), (5, vi (I 183 (2416 + i) % 256)), (4, vi i), (2, vi 2336), (1, vr 183), (0, vr 175)]) d_Mo_hints_146 rfl (by decide) rfl ?_
                  refine ax_iinc (lv' := [(4, vi (i + 1)), (3, vi (I 183 (2416 + i) % 256)), (6, vi j), (5, vi (I 183 (2416 + i) % 256)), (2, vi 2336), (1, vr 183), (0, vr 175)]) d_Mo_hints_147 rfl (by decide) ⟨(by omega), (by omega)⟩ rfl ?_
                  refine aw_goto (tgt := 5) d_Mo_hints_150 (by decide) ?_
                  refine aw_sub (lv' := [(4, vi (i + 1)), (3, vi (I 183 (2416 + i) % 256)), (2, vi 2336), (1, vr 183), (0, vr 175)]) (by simp) ?_
                  exact ih_5 _ (by omega) (i + 1) (I 183 (2416 + i) % 256) K2 (by omega) (⟨by rw [show i + 1 - 1 = i by omega]; exact eE.symm, by omega, by omega⟩) (F2) (fun m a b => by by_cases z : m = i; exact (by rw [z, ← hn.1, eE]; exact ⟨by omega, by omega, fun x x0 x1 => by have y := rs (x - 2336) (by omega) (by omega); rw [show 2336 + (x - 2336) = x by omega, show 2336 + (x - 2336 - 1) = x - 1 by omega] at y; exact y⟩); exact gg m a (by omega)) (fun m a b => by by_cases z : m = i; exact (by rw [z]; exact fun x x0 x1 => ⟨(t2 x x0 x1).1, (t2 x x0 x1).2.trans ⟨fun ⟨y, y1, y2, y3⟩ => ⟨y, by show hEn (rgR I) 2416 (i - 1) ≤ y; rw [← hn.1]; exact y1, by show y < hEn (rgR I) 2416 i; rw [eE]; omega, y3⟩, fun ⟨y, y1, y2, y3⟩ => ⟨y, by have y1 : hEn (rgR I) 2416 (i - 1) ≤ y := y1; rw [← hn.1] at y1; exact y1, by have y2 : y < hEn (rgR I) 2416 i := y2; rw [eE] at y2; omega, y3⟩⟩⟩); exact (fun x x0 x1 => by rw [f2 _ _ (by omega) (Or.inl (by omega))]; exact tb m a (by omega) x x0 x1)) (p6) rfl
                · skip
                  refine aw_iload d_Mo_hints_86 rfl ?_
                  refine aw_iload_n d_Mo_hints_88 rfl rfl ?_
                  refine aw_icmp_le (tgt := 119) d_Mo_hints_89 (by decide) (fun c_89 => ?_) (fun c_89 => ?_)
                  · skip
                    refine aw_aload_n d_Mo_hints_119 rfl rfl ?_
                    refine ax_getR (b := 253) d_Mo_hints_120 fd_Mo_81 (k_175 S) (r_175_29 S) ?_
                    refine aw_iload d_Mo_hints_123 rfl ?_
                    refine ax_aald (b := 254 + i.toNat) d_Mo_hints_125 ⟨by rw [(k_253 S)]; decide, by rw [(k_253 S)]; decide⟩ (by omega) (by rw [n_253 S]; omega) (g_253 S (by omega) (by omega)) ?_
                    refine aw_aload_n d_Mo_hints_126 rfl rfl ?_
                    refine aw_iload_n d_Mo_hints_127 rfl rfl ?_
                    refine aw_iload d_Mo_hints_128 rfl ?_
                    refine ax_iadd d_Mo_hints_130 ⟨(by omega), (by omega)⟩ ?_
                    refine ax_balde (x := I 183 (2336 + j)) d_Mo_hints_131 (k_183 S) (by omega) (by rw [n_183 S]; omega) (Eq.trans (F2.1 183 (2336 + j) (by omega) (Or.inl (by decide))) (rfl)) ?_
                    refine aw_sipush d_Mo_hints_132 ⟨by decide, by decide⟩ (by decide) ?_
                    refine aw_iand d_Mo_hints_135 ?_
                    refine ax_ti (x := (I 183 (2336 + j)) % 256) (a_and' 8 (by decide) (by decide) (by decide)) ?_
                    refine aw_iconst d_Mo_hints_136 ⟨by decide, by decide⟩ ?_
                    refine ax_zast d_Mo_hints_137 (kr_253 S (by omega)) (by omega) (by omega) (by rw [nr_253 S (by omega)]; omega) (by omega) ?_
                    refine ax_iinc (lv' := [(6, vi (j + 1)), (5, vi (I 183 (2416 + i) % 256)), (4, vi i), (3, vi n), (2, vi 2336), (1, vr 183), (0, vr 175)]) d_Mo_hints_138 rfl (by decide) ⟨(by omega), (by omega)⟩ rfl ?_
                    refine aw_goto (tgt := 79) d_Mo_hints_141 (by decide) ?_
                    exact ih_79 _ (by omega) (j + 1) (a_up K2 (254 + i.toNat) ((I 183 (2336 + j)) % 256) 1) (by omega) (F2.tr (FR.up (p := fun a => 254 ≤ a ∧ a ≤ 261) (by omega)) (fun a x => ⟨x, x⟩)) (fun a x y z => (a_up_ne (Or.inl y)).trans (f2 a x y z)) (fun x a b => by by_cases z : x = j; exact (by rw [z, rg_in l5 (by omega) (by omega), rg_in l5 (by omega) (by omega), show 2336 + (j - 1) = 2336 + j - 1 by omega]; omega); exact rs x a (by omega)) (fun c a b => by by_cases z : c = I 183 (2336 + j) % 256; exact (by rw [z, a_up_at]; exact ⟨Or.inr rfl, fun _ => ⟨j, by omega, by omega, rg_in l5 (by omega) (by omega)⟩, fun _ => rfl⟩); exact (by rw [a_up_ne (Or.inr z)]; exact ⟨(t2 c a b).1, (t2 c a b).2.trans ⟨fun ⟨x, x1, x2, x3⟩ => ⟨x, x1, by omega, x3⟩, fun ⟨x, x1, x2, x3⟩ => ⟨x, x1, by by_cases y : x = j; exact (by rw [y, rg_in l5 (by omega) (by omega)] at x3; exact absurd x3.symm z); omega, x3⟩⟩⟩)) (fun x => (a_up_ne (Or.inl (by omega))).trans (p6 x)) rfl
                  · skip
                    refine aw_aload_n d_Mo_hints_92 rfl rfl ?_
                    refine aw_iload_n d_Mo_hints_93 rfl rfl ?_
                    refine aw_iload d_Mo_hints_94 rfl ?_
                    refine ax_iadd d_Mo_hints_96 ⟨(by omega), (by omega)⟩ ?_
                    refine ax_balde (x := I 183 (2336 + j)) d_Mo_hints_97 (k_183 S) (by omega) (by rw [n_183 S]; omega) (Eq.trans (F2.1 183 (2336 + j) (by omega) (Or.inl (by decide))) (rfl)) ?_
                    refine aw_sipush d_Mo_hints_98 ⟨by decide, by decide⟩ (by decide) ?_
                    refine aw_iand d_Mo_hints_101 ?_
                    refine ax_ti (x := (I 183 (2336 + j)) % 256) (a_and' 8 (by decide) (by decide) (by decide)) ?_
                    refine aw_aload_n d_Mo_hints_102 rfl rfl ?_
                    refine aw_iload_n d_Mo_hints_103 rfl rfl ?_
                    refine aw_iload d_Mo_hints_104 rfl ?_
                    refine ax_iadd d_Mo_hints_106 ⟨(by omega), (by omega)⟩ ?_
                    refine aw_iconst d_Mo_hints_107 ⟨by decide, by decide⟩ ?_
                    refine ax_isub d_Mo_hints_108 ⟨(by omega), (by omega)⟩ ?_
                    refine ax_balde (x := I 183 ((2336 + j) - 1)) d_Mo_hints_109 (k_183 S) (by omega) (by rw [n_183 S]; omega) (Eq.trans (F2.1 183 ((2336 + j) - 1) (by omega) (Or.inl (by decide))) (rfl)) ?_
                    refine aw_sipush d_Mo_hints_110 ⟨by decide, by decide⟩ (by decide) ?_
                    refine aw_iand d_Mo_hints_113 ?_
                    refine ax_ti (x := (I 183 ((2336 + j) - 1)) % 256) (a_and' 8 (by decide) (by decide) (by decide)) ?_
                    refine aw_icmp_gt (tgt := 119) d_Mo_hints_114 (by decide) (fun c_114 => ?_) (fun c_114 => ?_)
                    · skip
                      refine aw_aload_n d_Mo_hints_119 rfl rfl ?_
                      refine ax_getR (b := 253) d_Mo_hints_120 fd_Mo_81 (k_175 S) (r_175_29 S) ?_
                      refine aw_iload d_Mo_hints_123 rfl ?_
                      refine ax_aald (b := 254 + i.toNat) d_Mo_hints_125 ⟨by rw [(k_253 S)]; decide, by rw [(k_253 S)]; decide⟩ (by omega) (by rw [n_253 S]; omega) (g_253 S (by omega) (by omega)) ?_
                      refine aw_aload_n d_Mo_hints_126 rfl rfl ?_
                      refine aw_iload_n d_Mo_hints_127 rfl rfl ?_
                      refine aw_iload d_Mo_hints_128 rfl ?_
                      refine ax_iadd d_Mo_hints_130 ⟨(by omega), (by omega)⟩ ?_
                      refine ax_balde (x := I 183 (2336 + j)) d_Mo_hints_131 (k_183 S) (by omega) (by rw [n_183 S]; omega) (Eq.trans (F2.1 183 (2336 + j) (by omega) (Or.inl (by decide))) (rfl)) ?_
                      refine aw_sipush d_Mo_hints_132 ⟨by decide, by decide⟩ (by decide) ?_
                      refine aw_iand d_Mo_hints_135 ?_
                      refine ax_ti (x := (I 183 (2336 + j)) % 256) (a_and' 8 (by decide) (by decide) (by decide)) ?_
                      refine aw_iconst d_Mo_hints_136 ⟨by decide, by decide⟩ ?_
                      refine ax_zast d_Mo_hints_137 (kr_253 S (by omega)) (by omega) (by omega) (by rw [nr_253 S (by omega)]; omega) (by omega) ?_
                      refine ax_iinc (lv' := [(6, vi (j + 1)), (5, vi (I 183 (2416 + i) % 256)), (4, vi i), (3, vi n), (2, vi 2336), (1, vr 183), (0, vr 175)]) d_Mo_hints_138 rfl (by decide) ⟨(by omega), (by omega)⟩ rfl ?_
                      refine aw_goto (tgt := 79) d_Mo_hints_141 (by decide) ?_
                      exact ih_79 _ (by omega) (j + 1) (a_up K2 (254 + i.toNat) ((I 183 (2336 + j)) % 256) 1) (by omega) (F2.tr (FR.up (p := fun a => 254 ≤ a ∧ a ≤ 261) (by omega)) (fun a x => ⟨x, x⟩)) (fun a x y z => (a_up_ne (Or.inl y)).trans (f2 a x y z)) (fun x a b => by by_cases z : x = j; exact (by rw [z, rg_in l5 (by omega) (by omega), rg_in l5 (by omega) (by omega), show 2336 + (j - 1) = 2336 + j - 1 by omega]; omega); exact rs x a (by omega)) (fun c a b => by by_cases z : c = I 183 (2336 + j) % 256; exact (by rw [z, a_up_at]; exact ⟨Or.inr rfl, fun _ => ⟨j, by omega, by omega, rg_in l5 (by omega) (by omega)⟩, fun _ => rfl⟩); exact (by rw [a_up_ne (Or.inr z)]; exact ⟨(t2 c a b).1, (t2 c a b).2.trans ⟨fun ⟨x, x1, x2, x3⟩ => ⟨x, x1, by omega, x3⟩, fun ⟨x, x1, x2, x3⟩ => ⟨x, x1, by by_cases y : x = j; exact (by rw [y, rg_in l5 (by omega) (by omega)] at x3; exact absurd x3.symm z); omega, x3⟩⟩⟩)) (fun x => (a_up_ne (Or.inl (by omega))).trans (p6 x)) rfl
                    · skip
                      refine aw_iconst d_Mo_hints_117 ⟨by decide, by decide⟩ ?_
                      exact aw_zret d_Mo_hints_118 rfl ⟨by decide, by decide⟩ (hP _ _ ⟨F2, p6, Or.inr ⟨rfl, fun z => by have y := z.1 i hi.1 (by omega); rw [show (2336 + 80 : Int) = 2416 from rfl, ← hn.1, eE] at y;  have y3 := y.2.2 (2336 + j) (by omega) (by omega); rw [rg_in l5 (by omega) (by omega), rg_in l5 (by omega) (by omega)] at y3; omega⟩⟩)
              skip
              exact lp_79 _ n (rowTo K (254 + i.toNat) 256 (fun _ => 0)) (by omega) (F.tr (FR.row (p := fun a => 254 ≤ a ∧ a ≤ 261) (by omega) (fun _ _ _ => rfl)) (fun a x => ⟨x, x⟩)) (fun a x y _ => rowTo_ne y) (fun x a b => by omega) (fun c a b => by rw [rowTo_in a b]; exact ⟨Or.inl rfl, fun z => absurd z (by decide), fun ⟨x, x1, x2, x3⟩ => by omega⟩) (fun x => (rowTo_ne (by omega)).trans (p5 x)) rfl
            · skip
              refine aw_iconst d_Mo_hints_74 ⟨by decide, by decide⟩ ?_
              exact aw_zret d_Mo_hints_75 rfl ⟨by decide, by decide⟩ (hP _ _ ⟨F.tr (FR.row (p := fun a => 254 ≤ a ∧ a ≤ 261) (by omega) (fun _ _ _ => rfl)) (fun a x => ⟨x, x⟩), fun x => (rowTo_ne (by omega)).trans (p5 x), Or.inr ⟨rfl, fun z => by have y := z.1 i hi.1 (by omega); rw [show (2336 + 80 : Int) = 2416 from rfl, ← hn.1, eE] at y;  omega⟩⟩)
        · skip
          refine aw_aload_n d_Mo_hints_25 rfl rfl ?_
          refine ax_getR (b := 253) d_Mo_hints_26 fd_Mo_81 (k_175 S) (r_175_29 S) ?_
          refine aw_iload d_Mo_hints_29 rfl ?_
          refine ax_aald (b := 254 + i.toNat) d_Mo_hints_31 ⟨by rw [(k_253 S)]; decide, by rw [(k_253 S)]; decide⟩ (by omega) (by rw [n_253 S]; omega) (g_253 S (by omega) (by omega)) ?_
          refine aw_iload d_Mo_hints_32 rfl ?_
          refine aw_iconst d_Mo_hints_34 ⟨by decide, by decide⟩ ?_
          refine ax_zast d_Mo_hints_35 (kr_253 S (by omega)) (by omega) (by omega) (by rw [nr_253 S (by omega)]; omega) (by omega) ?_
          rw [rowTo_1 (by omega) rfl]
          refine ax_iinc (lv' := [(5, vi (c + 1)), (4, vi i), (3, vi n), (2, vi 2336), (1, vr 183), (0, vr 175)]) d_Mo_hints_36 rfl (by decide) ⟨(by omega), (by omega)⟩ rfl ?_
          refine aw_goto (tgt := 17) d_Mo_hints_39 (by decide) ?_
          exact ih_17 _ (by omega) (c + 1) (by omega) rfl
      refine ax_hp (h' := sD h (rowTo K (254 + i.toNat) 0 (fun _ => 0)) L) (by rw [rowTo_0]) ?_
      exact lp_17 _ 0 (by omega) rfl
  skip
  refine aw_sub (lv' := [(4, vi 0), (3, vi 0), (2, vi 2336), (1, vr 183), (0, vr 175)]) (by simp) ?_
  exact lp_5 _ 0 0 I (by omega) (⟨by unfold hEn; rw [if_pos (by omega)], by omega, by omega⟩) (FR.rfl') (fun m a b => by omega) (fun m a b => by omega) (fun _ => rfl) rfl
set_option maxHeartbeats 800000 in
set_option maxRecDepth 100000 in
theorem c_Mo_hints1 {l : Launch} {G : a_G} {h : Hp} {I L : Nat → Int → Int} (S : Shp h) (D : RD I L 1) (rg : ∀ j, -128 ≤ I 183 j ∧ I 183 j ≤ 127) (l5 : I 186 5 = 3309) : AW l G M_Mo_hints (Ret (fun u : Int × (Nat → Int → Int) => some (vi u.1)) (fun u => sD h u.2 L) (fun u => FR (fun a => 254 ≤ a ∧ a ≤ 261) I L u.2 L ∧ (∀ x, u.2 175 x = I 175 x) ∧ ((u.1 = 1 ∧ hSt (rgR I) 3248 55 6 ∧ ∀ m, 0 ≤ m → m < 6 → tbl u.2 (rgR I) 3248 55 m) ∨ (u.1 = 0 ∧ ¬ hSt (rgR I) 3248 55 6)))) 0 (a_ar 0 [vr 175, vr 183, vi 3248]) [] (sD h I L) := by
  suffices key : ∀ P : a_R → Hp → Prop, (∀ (v_ : Int) (K_ : Nat → Int → Int), FR (fun a => 254 ≤ a ∧ a ≤ 261) I L K_ L ∧ (∀ x, K_ 175 x = I 175 x) ∧ ((v_ = 1 ∧ hSt (rgR I) 3248 55 6 ∧ ∀ m, 0 ≤ m → m < 6 → tbl K_ (rgR I) 3248 55 m) ∨ (v_ = 0 ∧ ¬ hSt (rgR I) 3248 55 6)) → P (.inl (some (vi v_))) (sD h K_ L)) → AW l G M_Mo_hints P 0 [(0, vr 175), (1, vr 183), (2, vi 3248)] [] (sD h I L) from key _ (fun v K q => ⟨(v, K), rfl, rfl, q⟩)
  intro P hP
  refine aw_iconst d_Mo_hints_0 ⟨by decide, by decide⟩ ?_
  refine aw_istore_n (lv' := [(3, vi 0), (0, vr 175), (1, vr 183), (2, vi 3248)]) d_Mo_hints_1 rfl (by decide) rfl ?_
  refine aw_iconst d_Mo_hints_2 ⟨by decide, by decide⟩ ?_
  refine aw_istore (lv' := [(4, vi 0), (3, vi 0), (0, vr 175), (1, vr 183), (2, vi 3248)]) d_Mo_hints_3 (by decide) rfl ?_
  have lp_5 : ∀ (n_ : Nat) (i : Int) (n : Int) (K : Nat → Int → Int), (0 ≤ i ∧ i ≤ 6) → (n = hEn (rgR I) 3303 (i - 1) ∧ 0 ≤ n ∧ n < 256) → (FR (fun a => 254 ≤ a ∧ a ≤ 261) I L K L) → (∀ m, 0 ≤ m → m < i → hEn (rgR I) 3303 (m - 1) ≤ hEn (rgR I) 3303 m ∧ hEn (rgR I) 3303 m ≤ 55 ∧ rises (rgR I) (3248 + hEn (rgR I) 3303 (m - 1)) (3248 + hEn (rgR I) 3303 m)) → (∀ m, 0 ≤ m → m < i → tbl K (rgR I) 3248 55 m) → (∀ x, K 175 x = I 175 x) → ((6 - i).toNat) = n_ → AW l G M_Mo_hints P 5 [(4, vi i), (3, vi n), (2, vi 3248), (1, vr 183), (0, vr 175)] [] (sD h K L) := by
    intro n_
    induction n_ using Nat.strongRecOn with
    | _ n_ ih_5 =>
    intro i n K hi hn F gg tb p5 hm_5
    refine aw_iload d_Mo_hints_5 rfl ?_
    refine aw_aload_n d_Mo_hints_7 rfl rfl ?_
    refine ax_getIe (x := 6) d_Mo_hints_8 fd_Mo_223 (k_175 S) (Eq.trans (F.1 175 26 (by omega) (Or.inr (by decide))) (dr1_26 D)) ?_
    refine aw_icmp_ge (tgt := 153) d_Mo_hints_11 (by decide) (fun c_11 => ?_) (fun c_11 => ?_)
    · skip
      refine aw_iload_n d_Mo_hints_153 rfl rfl ?_
      refine aw_istore (lv' := [(4, vi n), (3, vi n), (2, vi 3248), (1, vr 183), (0, vr 175)]) d_Mo_hints_154 (by decide) rfl ?_
      have lp_156 : ∀ (n_ : Nat) (x : Int), (n ≤ x) → (∀ y, n ≤ y → y < x → rgR I (3248 + y) = 0) → ((55 - x).toNat) = n_ → AW l G M_Mo_hints P 156 [(4, vi x), (3, vi n), (2, vi 3248), (1, vr 183), (0, vr 175)] [] (sD h K L) := by
        intro n_
        induction n_ using Nat.strongRecOn with
        | _ n_ ih_156 =>
        intro x hx zz hm_156
        refine aw_iload d_Mo_hints_156 rfl ?_
        refine aw_aload_n d_Mo_hints_158 rfl rfl ?_
        refine ax_getIe (x := 55) d_Mo_hints_159 fd_Mo_245 (k_175 S) (Eq.trans (F.1 175 37 (by omega) (Or.inr (by decide))) (dr1_37 D)) ?_
        refine aw_icmp_ge (tgt := 182) d_Mo_hints_162 (by decide) (fun c_162 => ?_) (fun c_162 => ?_)
        · skip
          refine aw_iconst d_Mo_hints_182 ⟨by decide, by decide⟩ ?_
          exact aw_zret d_Mo_hints_183 rfl ⟨by decide, by decide⟩ (hP _ K ⟨F, p5, Or.inl ⟨rfl, ⟨fun m a b => gg m a (by omega), fun y a b => zz y (by have a : hEn (rgR I) 3303 (6 - 1) ≤ y := a; rw [show (6 - 1 : Int) = i - 1 by omega, ← hn.1] at a; exact a) (by omega)⟩, fun m a b => tb m a (by omega)⟩⟩)
        · skip
          have rz := rg (3248 + x)
          refine aw_aload_n d_Mo_hints_165 rfl rfl ?_
          refine aw_iload_n d_Mo_hints_166 rfl rfl ?_
          refine aw_iload d_Mo_hints_167 rfl ?_
          refine ax_iadd d_Mo_hints_169 ⟨(by omega), (by omega)⟩ ?_
          refine ax_balde (x := I 183 (3248 + x)) d_Mo_hints_170 (k_183 S) (by omega) (by rw [n_183 S]; omega) (Eq.trans (F.1 183 (3248 + x) (by omega) (Or.inl (by decide))) (rfl)) ?_
          refine aw_if_eq (tgt := 176) d_Mo_hints_171 (by decide) (fun c_171 => ?_) (fun c_171 => ?_)
          · skip
            refine ax_iinc (lv' := [(4, vi (x + 1)), (3, vi n), (2, vi 3248), (1, vr 183), (0, vr 175)]) d_Mo_hints_176 rfl (by decide) ⟨(by omega), (by omega)⟩ rfl ?_
            refine aw_goto (tgt := 156) d_Mo_hints_179 (by decide) ?_
            exact ih_156 _ (by omega) (x + 1) (by omega) (fun y a b => by by_cases z : y = x; exact (by rw [z, rg_in l5 (by omega) (by omega)]; omega); exact zz y a (by omega)) rfl
          · skip
            refine aw_iconst d_Mo_hints_174 ⟨by decide, by decide⟩ ?_
            exact aw_zret d_Mo_hints_175 rfl ⟨by decide, by decide⟩ (hP _ _ ⟨F, p5, Or.inr ⟨rfl, fun z => by have y := z.2 x (by show hEn (rgR I) 3303 (6 - 1) ≤ x; rw [show (6 - 1 : Int) = i - 1 by omega, ← hn.1]; exact hx) (by omega); rw [rg_in l5 (by omega) (by omega)] at y; omega⟩⟩)
      skip
      exact lp_156 _ n (by omega) (fun y a b => by omega) rfl
    · skip
      refine aw_iconst d_Mo_hints_14 ⟨by decide, by decide⟩ ?_
      refine aw_istore (lv' := [(5, vi 0), (4, vi i), (3, vi n), (2, vi 3248), (1, vr 183), (0, vr 175)]) d_Mo_hints_15 (by decide) rfl ?_
      have lp_17 : ∀ (n_ : Nat) (c : Int), (0 ≤ c ∧ c ≤ 256) → ((256 - c).toNat) = n_ → AW l G M_Mo_hints P 17 [(5, vi c), (4, vi i), (3, vi n), (2, vi 3248), (1, vr 183), (0, vr 175)] [] (sD h (rowTo K (254 + i.toNat) c (fun _ => 0)) L) := by
        intro n_
        induction n_ using Nat.strongRecOn with
        | _ n_ ih_17 =>
        intro c hc hm_17
        refine aw_iload d_Mo_hints_17 rfl ?_
        refine aw_sipush d_Mo_hints_19 ⟨by decide, by decide⟩ (by decide) ?_
        refine aw_icmp_ge (tgt := 42) d_Mo_hints_22 (by decide) (fun c_22 => ?_) (fun c_22 => ?_)
        · skip
          rw [show c = 256 by omega]
          refine aw_aload_n d_Mo_hints_42 rfl rfl ?_
          refine aw_iload_n d_Mo_hints_43 rfl rfl ?_
          refine aw_aload_n d_Mo_hints_44 rfl rfl ?_
          refine ax_getIe (x := 55) d_Mo_hints_45 fd_Mo_245 (k_175 S) (Eq.trans (rowTo_ne (by omega)) (Eq.trans (F.1 175 37 (by omega) (Or.inr (by decide))) (dr1_37 D))) ?_
          refine ax_iadd d_Mo_hints_48 ⟨(by omega), (by omega)⟩ ?_
          refine ax_ti (x := 3303) (by decide) ?_
          refine aw_iload d_Mo_hints_49 rfl ?_
          refine ax_iadd d_Mo_hints_51 ⟨(by omega), (by omega)⟩ ?_
          refine ax_balde (x := I 183 (3303 + i)) d_Mo_hints_52 (k_183 S) (by omega) (by rw [n_183 S]; omega) (Eq.trans (rowTo_ne (by omega)) (Eq.trans (F.1 183 (3303 + i) (by omega) (Or.inl (by decide))) (rfl))) ?_
          refine aw_sipush d_Mo_hints_53 ⟨by decide, by decide⟩ (by decide) ?_
          refine aw_iand d_Mo_hints_56 ?_
          refine ax_ti (x := (I 183 (3303 + i)) % 256) (a_and' 8 (by decide) (by decide) (by decide)) ?_
          refine aw_istore (lv' := [(5, vi ((I 183 (3303 + i)) % 256)), (4, vi i), (3, vi n), (2, vi 3248), (1, vr 183), (0, vr 175)]) d_Mo_hints_57 (by decide) rfl ?_
          have eE : hEn (rgR I) 3303 i = I 183 (3303 + i) % 256 := by unfold hEn; rw [if_neg (by omega)]; exact rg_in l5 (by omega) (by omega)
          refine aw_iload d_Mo_hints_59 rfl ?_
          refine aw_iload_n d_Mo_hints_61 rfl rfl ?_
          refine aw_icmp_lt (tgt := 74) d_Mo_hints_62 (by decide) (fun c_62 => ?_) (fun c_62 => ?_)
          · skip
            refine aw_iconst d_Mo_hints_74 ⟨by decide, by decide⟩ ?_
            exact aw_zret d_Mo_hints_75 rfl ⟨by decide, by decide⟩ (hP _ _ ⟨F.tr (FR.row (p := fun a => 254 ≤ a ∧ a ≤ 261) (by omega) (fun _ _ _ => rfl)) (fun a x => ⟨x, x⟩), fun x => (rowTo_ne (by omega)).trans (p5 x), Or.inr ⟨rfl, fun z => by have y := z.1 i hi.1 (by omega); rw [show (3248 + 55 : Int) = 3303 from rfl, ← hn.1, eE] at y;  omega⟩⟩)
          · skip
            refine aw_iload d_Mo_hints_65 rfl ?_
            refine aw_aload_n d_Mo_hints_67 rfl rfl ?_
            refine ax_getIe (x := 55) d_Mo_hints_68 fd_Mo_245 (k_175 S) (Eq.trans (rowTo_ne (by omega)) (Eq.trans (F.1 175 37 (by omega) (Or.inr (by decide))) (dr1_37 D))) ?_
            refine aw_icmp_le (tgt := 76) d_Mo_hints_71 (by decide) (fun c_71 => ?_) (fun c_71 => ?_)
            · skip
              refine aw_iload_n d_Mo_hints_76 rfl rfl ?_
              refine aw_istore (lv' := [(6, vi n), (5, vi ((I 183 (3303 + i)) % 256)), (4, vi i), (3, vi n), (2, vi 3248), (1, vr 183), (0, vr 175)]) d_Mo_hints_77 (by decide) rfl ?_
              have lp_79 : ∀ (n_ : Nat) (j : Int) (K2 : Nat → Int → Int), (n ≤ j ∧ j ≤ I 183 (3303 + i) % 256) → (FR (fun a => 254 ≤ a ∧ a ≤ 261) I L K2 L) → (∀ a x, a ≠ 254 + i.toNat → (a ≠ 175 ∨ x ≠ 23) → K2 a x = K a x) → (∀ x, n + 1 ≤ x → x < j → rgR I (3248 + (x - 1)) < rgR I (3248 + x)) → (∀ c, 0 ≤ c → c < 256 → (K2 (254 + i.toNat) c = 0 ∨ K2 (254 + i.toNat) c = 1) ∧ (K2 (254 + i.toNat) c = 1 ↔ ∃ x, n ≤ x ∧ x < j ∧ rgR I (3248 + x) = c)) → (∀ x, K2 175 x = I 175 x) → ((I 183 (3303 + i) % 256 - j).toNat) = n_ → AW l G M_Mo_hints P 79 [(6, vi j), (5, vi (I 183 (3303 + i) % 256)), (4, vi i), (3, vi n), (2, vi 3248), (1, vr 183), (0, vr 175)] [] (sD h K2 L) := by
                intro n_
                induction n_ using Nat.strongRecOn with
                | _ n_ ih_79 =>
                intro j K2 hj F2 f2 rs t2 p6 hm_79
                refine aw_iload d_Mo_hints_79 rfl ?_
                refine aw_iload d_Mo_hints_81 rfl ?_
                refine aw_icmp_ge (tgt := 144) d_Mo_hints_83 (by decide) (fun c_83 => ?_) (fun c_83 => ?_)
                · skip
                  refine aw_iload d_Mo_hints_144 rfl ?_
                  refine aw_istore_n (lv' := [(3, vi (I 183 (3303 + i) % 256)), (6, vi j), (5, vi (I 183 (3303 + i) % 256)), (4, vi i), (2, vi 3248), (1, vr 183), (0, vr 175)]) d_Mo_hints_146 rfl (by decide) rfl ?_
                  refine ax_iinc (lv' := [(4, vi (i + 1)), (3, vi (I 183 (3303 + i) % 256)), (6, vi j), (5, vi (I 183 (3303 + i) % 256)), (2, vi 3248), (1, vr 183), (0, vr 175)]) d_Mo_hints_147 rfl (by decide) ⟨(by omega), (by omega)⟩ rfl ?_
                  refine aw_goto (tgt := 5) d_Mo_hints_150 (by decide) ?_
                  refine aw_sub (lv' := [(4, vi (i + 1)), (3, vi (I 183 (3303 + i) % 256)), (2, vi 3248), (1, vr 183), (0, vr 175)]) (by simp) ?_
                  exact ih_5 _ (by omega) (i + 1) (I 183 (3303 + i) % 256) K2 (by omega) (⟨by rw [show i + 1 - 1 = i by omega]; exact eE.symm, by omega, by omega⟩) (F2) (fun m a b => by by_cases z : m = i; exact (by rw [z, ← hn.1, eE]; exact ⟨by omega, by omega, fun x x0 x1 => by have y := rs (x - 3248) (by omega) (by omega); rw [show 3248 + (x - 3248) = x by omega, show 3248 + (x - 3248 - 1) = x - 1 by omega] at y; exact y⟩); exact gg m a (by omega)) (fun m a b => by by_cases z : m = i; exact (by rw [z]; exact fun x x0 x1 => ⟨(t2 x x0 x1).1, (t2 x x0 x1).2.trans ⟨fun ⟨y, y1, y2, y3⟩ => ⟨y, by show hEn (rgR I) 3303 (i - 1) ≤ y; rw [← hn.1]; exact y1, by show y < hEn (rgR I) 3303 i; rw [eE]; omega, y3⟩, fun ⟨y, y1, y2, y3⟩ => ⟨y, by have y1 : hEn (rgR I) 3303 (i - 1) ≤ y := y1; rw [← hn.1] at y1; exact y1, by have y2 : y < hEn (rgR I) 3303 i := y2; rw [eE] at y2; omega, y3⟩⟩⟩); exact (fun x x0 x1 => by rw [f2 _ _ (by omega) (Or.inl (by omega))]; exact tb m a (by omega) x x0 x1)) (p6) rfl
                · skip
                  refine aw_iload d_Mo_hints_86 rfl ?_
                  refine aw_iload_n d_Mo_hints_88 rfl rfl ?_
                  refine aw_icmp_le (tgt := 119) d_Mo_hints_89 (by decide) (fun c_89 => ?_) (fun c_89 => ?_)
                  · skip
                    refine aw_aload_n d_Mo_hints_119 rfl rfl ?_
                    refine ax_getR (b := 253) d_Mo_hints_120 fd_Mo_81 (k_175 S) (r_175_29 S) ?_
                    refine aw_iload d_Mo_hints_123 rfl ?_
                    refine ax_aald (b := 254 + i.toNat) d_Mo_hints_125 ⟨by rw [(k_253 S)]; decide, by rw [(k_253 S)]; decide⟩ (by omega) (by rw [n_253 S]; omega) (g_253 S (by omega) (by omega)) ?_
                    refine aw_aload_n d_Mo_hints_126 rfl rfl ?_
                    refine aw_iload_n d_Mo_hints_127 rfl rfl ?_
                    refine aw_iload d_Mo_hints_128 rfl ?_
                    refine ax_iadd d_Mo_hints_130 ⟨(by omega), (by omega)⟩ ?_
                    refine ax_balde (x := I 183 (3248 + j)) d_Mo_hints_131 (k_183 S) (by omega) (by rw [n_183 S]; omega) (Eq.trans (F2.1 183 (3248 + j) (by omega) (Or.inl (by decide))) (rfl)) ?_
                    refine aw_sipush d_Mo_hints_132 ⟨by decide, by decide⟩ (by decide) ?_
                    refine aw_iand d_Mo_hints_135 ?_
                    refine ax_ti (x := (I 183 (3248 + j)) % 256) (a_and' 8 (by decide) (by decide) (by decide)) ?_
                    refine aw_iconst d_Mo_hints_136 ⟨by decide, by decide⟩ ?_
                    refine ax_zast d_Mo_hints_137 (kr_253 S (by omega)) (by omega) (by omega) (by rw [nr_253 S (by omega)]; omega) (by omega) ?_
                    refine ax_iinc (lv' := [(6, vi (j + 1)), (5, vi (I 183 (3303 + i) % 256)), (4, vi i), (3, vi n), (2, vi 3248), (1, vr 183), (0, vr 175)]) d_Mo_hints_138 rfl (by decide) ⟨(by omega), (by omega)⟩ rfl ?_
                    refine aw_goto (tgt := 79) d_Mo_hints_141 (by decide) ?_
                    exact ih_79 _ (by omega) (j + 1) (a_up K2 (254 + i.toNat) ((I 183 (3248 + j)) % 256) 1) (by omega) (F2.tr (FR.up (p := fun a => 254 ≤ a ∧ a ≤ 261) (by omega)) (fun a x => ⟨x, x⟩)) (fun a x y z => (a_up_ne (Or.inl y)).trans (f2 a x y z)) (fun x a b => by by_cases z : x = j; exact (by rw [z, rg_in l5 (by omega) (by omega), rg_in l5 (by omega) (by omega), show 3248 + (j - 1) = 3248 + j - 1 by omega]; omega); exact rs x a (by omega)) (fun c a b => by by_cases z : c = I 183 (3248 + j) % 256; exact (by rw [z, a_up_at]; exact ⟨Or.inr rfl, fun _ => ⟨j, by omega, by omega, rg_in l5 (by omega) (by omega)⟩, fun _ => rfl⟩); exact (by rw [a_up_ne (Or.inr z)]; exact ⟨(t2 c a b).1, (t2 c a b).2.trans ⟨fun ⟨x, x1, x2, x3⟩ => ⟨x, x1, by omega, x3⟩, fun ⟨x, x1, x2, x3⟩ => ⟨x, x1, by by_cases y : x = j; exact (by rw [y, rg_in l5 (by omega) (by omega)] at x3; exact absurd x3.symm z); omega, x3⟩⟩⟩)) (fun x => (a_up_ne (Or.inl (by omega))).trans (p6 x)) rfl
                  · skip
                    refine aw_aload_n d_Mo_hints_92 rfl rfl ?_
                    refine aw_iload_n d_Mo_hints_93 rfl rfl ?_
                    refine aw_iload d_Mo_hints_94 rfl ?_
                    refine ax_iadd d_Mo_hints_96 ⟨(by omega), (by omega)⟩ ?_
                    refine ax_balde (x := I 183 (3248 + j)) d_Mo_hints_97 (k_183 S) (by omega) (by rw [n_183 S]; omega) (Eq.trans (F2.1 183 (3248 + j) (by omega) (Or.inl (by decide))) (rfl)) ?_
                    refine aw_sipush d_Mo_hints_98 ⟨by decide, by decide⟩ (by decide) ?_
                    refine aw_iand d_Mo_hints_101 ?_
                    refine ax_ti (x := (I 183 (3248 + j)) % 256) (a_and' 8 (by decide) (by decide) (by decide)) ?_
                    refine aw_aload_n d_Mo_hints_102 rfl rfl ?_
                    refine aw_iload_n d_Mo_hints_103 rfl rfl ?_
                    refine aw_iload d_Mo_hints_104 rfl ?_
                    refine ax_iadd d_Mo_hints_106 ⟨(by omega), (by omega)⟩ ?_
                    refine aw_iconst d_Mo_hints_107 ⟨by decide, by decide⟩ ?_
                    refine ax_isub d_Mo_hints_108 ⟨(by omega), (by omega)⟩ ?_
                    refine ax_balde (x := I 183 ((3248 + j) - 1)) d_Mo_hints_109 (k_183 S) (by omega) (by rw [n_183 S]; omega) (Eq.trans (F2.1 183 ((3248 + j) - 1) (by omega) (Or.inl (by decide))) (rfl)) ?_
                    refine aw_sipush d_Mo_hints_110 ⟨by decide, by decide⟩ (by decide) ?_
                    refine aw_iand d_Mo_hints_113 ?_
                    refine ax_ti (x := (I 183 ((3248 + j) - 1)) % 256) (a_and' 8 (by decide) (by decide) (by decide)) ?_
                    refine aw_icmp_gt (tgt := 119) d_Mo_hints_114 (by decide) (fun c_114 => ?_) (fun c_114 => ?_)
                    · skip
                      refine aw_aload_n d_Mo_hints_119 rfl rfl ?_
                      refine ax_getR (b := 253) d_Mo_hints_120 fd_Mo_81 (k_175 S) (r_175_29 S) ?_
                      refine aw_iload d_Mo_hints_123 rfl ?_
                      refine ax_aald (b := 254 + i.toNat) d_Mo_hints_125 ⟨by rw [(k_253 S)]; decide, by rw [(k_253 S)]; decide⟩ (by omega) (by rw [n_253 S]; omega) (g_253 S (by omega) (by omega)) ?_
                      refine aw_aload_n d_Mo_hints_126 rfl rfl ?_
                      refine aw_iload_n d_Mo_hints_127 rfl rfl ?_
                      refine aw_iload d_Mo_hints_128 rfl ?_
                      refine ax_iadd d_Mo_hints_130 ⟨(by omega), (by omega)⟩ ?_
                      refine ax_balde (x := I 183 (3248 + j)) d_Mo_hints_131 (k_183 S) (by omega) (by rw [n_183 S]; omega) (Eq.trans (F2.1 183 (3248 + j) (by omega) (Or.inl (by decide))) (rfl)) ?_
                      refine aw_sipush d_Mo_hints_132 ⟨by decide, by decide⟩ (by decide) ?_
                      refine aw_iand d_Mo_hints_135 ?_
                      refine ax_ti (x := (I 183 (3248 + j)) % 256) (a_and' 8 (by decide) (by decide) (by decide)) ?_
                      refine aw_iconst d_Mo_hints_136 ⟨by decide, by decide⟩ ?_
                      refine ax_zast d_Mo_hints_137 (kr_253 S (by omega)) (by omega) (by omega) (by rw [nr_253 S (by omega)]; omega) (by omega) ?_
                      refine ax_iinc (lv' := [(6, vi (j + 1)), (5, vi (I 183 (3303 + i) % 256)), (4, vi i), (3, vi n), (2, vi 3248), (1, vr 183), (0, vr 175)]) d_Mo_hints_138 rfl (by decide) ⟨(by omega), (by omega)⟩ rfl ?_
                      refine aw_goto (tgt := 79) d_Mo_hints_141 (by decide) ?_
                      exact ih_79 _ (by omega) (j + 1) (a_up K2 (254 + i.toNat) ((I 183 (3248 + j)) % 256) 1) (by omega) (F2.tr (FR.up (p := fun a => 254 ≤ a ∧ a ≤ 261) (by omega)) (fun a x => ⟨x, x⟩)) (fun a x y z => (a_up_ne (Or.inl y)).trans (f2 a x y z)) (fun x a b => by by_cases z : x = j; exact (by rw [z, rg_in l5 (by omega) (by omega), rg_in l5 (by omega) (by omega), show 3248 + (j - 1) = 3248 + j - 1 by omega]; omega); exact rs x a (by omega)) (fun c a b => by by_cases z : c = I 183 (3248 + j) % 256; exact (by rw [z, a_up_at]; exact ⟨Or.inr rfl, fun _ => ⟨j, by omega, by omega, rg_in l5 (by omega) (by omega)⟩, fun _ => rfl⟩); exact (by rw [a_up_ne (Or.inr z)]; exact ⟨(t2 c a b).1, (t2 c a b).2.trans ⟨fun ⟨x, x1, x2, x3⟩ => ⟨x, x1, by omega, x3⟩, fun ⟨x, x1, x2, x3⟩ => ⟨x, x1, by by_cases y : x = j; exact (by rw [y, rg_in l5 (by omega) (by omega)] at x3; exact absurd x3.symm z); omega, x3⟩⟩⟩)) (fun x => (a_up_ne (Or.inl (by omega))).trans (p6 x)) rfl
                    · skip
                      refine aw_iconst d_Mo_hints_117 ⟨by decide, by decide⟩ ?_
                      exact aw_zret d_Mo_hints_118 rfl ⟨by decide, by decide⟩ (hP _ _ ⟨F2, p6, Or.inr ⟨rfl, fun z => by have y := z.1 i hi.1 (by omega); rw [show (3248 + 55 : Int) = 3303 from rfl, ← hn.1, eE] at y;  have y3 := y.2.2 (3248 + j) (by omega) (by omega); rw [rg_in l5 (by omega) (by omega), rg_in l5 (by omega) (by omega)] at y3; omega⟩⟩)
              skip
              exact lp_79 _ n (rowTo K (254 + i.toNat) 256 (fun _ => 0)) (by omega) (F.tr (FR.row (p := fun a => 254 ≤ a ∧ a ≤ 261) (by omega) (fun _ _ _ => rfl)) (fun a x => ⟨x, x⟩)) (fun a x y _ => rowTo_ne y) (fun x a b => by omega) (fun c a b => by rw [rowTo_in a b]; exact ⟨Or.inl rfl, fun z => absurd z (by decide), fun ⟨x, x1, x2, x3⟩ => by omega⟩) (fun x => (rowTo_ne (by omega)).trans (p5 x)) rfl
            · skip
              refine aw_iconst d_Mo_hints_74 ⟨by decide, by decide⟩ ?_
              exact aw_zret d_Mo_hints_75 rfl ⟨by decide, by decide⟩ (hP _ _ ⟨F.tr (FR.row (p := fun a => 254 ≤ a ∧ a ≤ 261) (by omega) (fun _ _ _ => rfl)) (fun a x => ⟨x, x⟩), fun x => (rowTo_ne (by omega)).trans (p5 x), Or.inr ⟨rfl, fun z => by have y := z.1 i hi.1 (by omega); rw [show (3248 + 55 : Int) = 3303 from rfl, ← hn.1, eE] at y;  omega⟩⟩)
        · skip
          refine aw_aload_n d_Mo_hints_25 rfl rfl ?_
          refine ax_getR (b := 253) d_Mo_hints_26 fd_Mo_81 (k_175 S) (r_175_29 S) ?_
          refine aw_iload d_Mo_hints_29 rfl ?_
          refine ax_aald (b := 254 + i.toNat) d_Mo_hints_31 ⟨by rw [(k_253 S)]; decide, by rw [(k_253 S)]; decide⟩ (by omega) (by rw [n_253 S]; omega) (g_253 S (by omega) (by omega)) ?_
          refine aw_iload d_Mo_hints_32 rfl ?_
          refine aw_iconst d_Mo_hints_34 ⟨by decide, by decide⟩ ?_
          refine ax_zast d_Mo_hints_35 (kr_253 S (by omega)) (by omega) (by omega) (by rw [nr_253 S (by omega)]; omega) (by omega) ?_
          rw [rowTo_1 (by omega) rfl]
          refine ax_iinc (lv' := [(5, vi (c + 1)), (4, vi i), (3, vi n), (2, vi 3248), (1, vr 183), (0, vr 175)]) d_Mo_hints_36 rfl (by decide) ⟨(by omega), (by omega)⟩ rfl ?_
          refine aw_goto (tgt := 17) d_Mo_hints_39 (by decide) ?_
          exact ih_17 _ (by omega) (c + 1) (by omega) rfl
      refine ax_hp (h' := sD h (rowTo K (254 + i.toNat) 0 (fun _ => 0)) L) (by rw [rowTo_0]) ?_
      exact lp_17 _ 0 (by omega) rfl
  skip
  refine aw_sub (lv' := [(4, vi 0), (3, vi 0), (2, vi 3248), (1, vr 183), (0, vr 175)]) (by simp) ?_
  exact lp_5 _ 0 0 I (by omega) (⟨by unfold hEn; rw [if_pos (by omega)], by omega, by omega⟩) (FR.rfl') (fun m a b => by omega) (fun m a b => by omega) (fun _ => rfl) rfl
set_option maxHeartbeats 800000 in
set_option maxRecDepth 100000 in
theorem c_Mo_hints2 {l : Launch} {G : a_G} {h : Hp} {I L : Nat → Int → Int} (S : Shp h) (D : RD I L 2) (rg : ∀ j, -128 ≤ I 183 j ∧ I 183 j ≤ 127) (l5 : I 186 5 = 4627) : AW l G M_Mo_hints (Ret (fun u : Int × (Nat → Int → Int) => some (vi u.1)) (fun u => sD h u.2 L) (fun u => FR (fun a => 254 ≤ a ∧ a ≤ 261) I L u.2 L ∧ (∀ x, u.2 175 x = I 175 x) ∧ ((u.1 = 1 ∧ hSt (rgR I) 4544 75 8 ∧ ∀ m, 0 ≤ m → m < 8 → tbl u.2 (rgR I) 4544 75 m) ∨ (u.1 = 0 ∧ ¬ hSt (rgR I) 4544 75 8)))) 0 (a_ar 0 [vr 175, vr 183, vi 4544]) [] (sD h I L) := by
  suffices key : ∀ P : a_R → Hp → Prop, (∀ (v_ : Int) (K_ : Nat → Int → Int), FR (fun a => 254 ≤ a ∧ a ≤ 261) I L K_ L ∧ (∀ x, K_ 175 x = I 175 x) ∧ ((v_ = 1 ∧ hSt (rgR I) 4544 75 8 ∧ ∀ m, 0 ≤ m → m < 8 → tbl K_ (rgR I) 4544 75 m) ∨ (v_ = 0 ∧ ¬ hSt (rgR I) 4544 75 8)) → P (.inl (some (vi v_))) (sD h K_ L)) → AW l G M_Mo_hints P 0 [(0, vr 175), (1, vr 183), (2, vi 4544)] [] (sD h I L) from key _ (fun v K q => ⟨(v, K), rfl, rfl, q⟩)
  intro P hP
  refine aw_iconst d_Mo_hints_0 ⟨by decide, by decide⟩ ?_
  refine aw_istore_n (lv' := [(3, vi 0), (0, vr 175), (1, vr 183), (2, vi 4544)]) d_Mo_hints_1 rfl (by decide) rfl ?_
  refine aw_iconst d_Mo_hints_2 ⟨by decide, by decide⟩ ?_
  refine aw_istore (lv' := [(4, vi 0), (3, vi 0), (0, vr 175), (1, vr 183), (2, vi 4544)]) d_Mo_hints_3 (by decide) rfl ?_
  have lp_5 : ∀ (n_ : Nat) (i : Int) (n : Int) (K : Nat → Int → Int), (0 ≤ i ∧ i ≤ 8) → (n = hEn (rgR I) 4619 (i - 1) ∧ 0 ≤ n ∧ n < 256) → (FR (fun a => 254 ≤ a ∧ a ≤ 261) I L K L) → (∀ m, 0 ≤ m → m < i → hEn (rgR I) 4619 (m - 1) ≤ hEn (rgR I) 4619 m ∧ hEn (rgR I) 4619 m ≤ 75 ∧ rises (rgR I) (4544 + hEn (rgR I) 4619 (m - 1)) (4544 + hEn (rgR I) 4619 m)) → (∀ m, 0 ≤ m → m < i → tbl K (rgR I) 4544 75 m) → (∀ x, K 175 x = I 175 x) → ((8 - i).toNat) = n_ → AW l G M_Mo_hints P 5 [(4, vi i), (3, vi n), (2, vi 4544), (1, vr 183), (0, vr 175)] [] (sD h K L) := by
    intro n_
    induction n_ using Nat.strongRecOn with
    | _ n_ ih_5 =>
    intro i n K hi hn F gg tb p5 hm_5
    refine aw_iload d_Mo_hints_5 rfl ?_
    refine aw_aload_n d_Mo_hints_7 rfl rfl ?_
    refine ax_getIe (x := 8) d_Mo_hints_8 fd_Mo_223 (k_175 S) (Eq.trans (F.1 175 26 (by omega) (Or.inr (by decide))) (dr2_26 D)) ?_
    refine aw_icmp_ge (tgt := 153) d_Mo_hints_11 (by decide) (fun c_11 => ?_) (fun c_11 => ?_)
    · skip
      refine aw_iload_n d_Mo_hints_153 rfl rfl ?_
      refine aw_istore (lv' := [(4, vi n), (3, vi n), (2, vi 4544), (1, vr 183), (0, vr 175)]) d_Mo_hints_154 (by decide) rfl ?_
      have lp_156 : ∀ (n_ : Nat) (x : Int), (n ≤ x) → (∀ y, n ≤ y → y < x → rgR I (4544 + y) = 0) → ((75 - x).toNat) = n_ → AW l G M_Mo_hints P 156 [(4, vi x), (3, vi n), (2, vi 4544), (1, vr 183), (0, vr 175)] [] (sD h K L) := by
        intro n_
        induction n_ using Nat.strongRecOn with
        | _ n_ ih_156 =>
        intro x hx zz hm_156
        refine aw_iload d_Mo_hints_156 rfl ?_
        refine aw_aload_n d_Mo_hints_158 rfl rfl ?_
        refine ax_getIe (x := 75) d_Mo_hints_159 fd_Mo_245 (k_175 S) (Eq.trans (F.1 175 37 (by omega) (Or.inr (by decide))) (dr2_37 D)) ?_
        refine aw_icmp_ge (tgt := 182) d_Mo_hints_162 (by decide) (fun c_162 => ?_) (fun c_162 => ?_)
        · skip
          refine aw_iconst d_Mo_hints_182 ⟨by decide, by decide⟩ ?_
          exact aw_zret d_Mo_hints_183 rfl ⟨by decide, by decide⟩ (hP _ K ⟨F, p5, Or.inl ⟨rfl, ⟨fun m a b => gg m a (by omega), fun y a b => zz y (by have a : hEn (rgR I) 4619 (8 - 1) ≤ y := a; rw [show (8 - 1 : Int) = i - 1 by omega, ← hn.1] at a; exact a) (by omega)⟩, fun m a b => tb m a (by omega)⟩⟩)
        · skip
          have rz := rg (4544 + x)
          refine aw_aload_n d_Mo_hints_165 rfl rfl ?_
          refine aw_iload_n d_Mo_hints_166 rfl rfl ?_
          refine aw_iload d_Mo_hints_167 rfl ?_
          refine ax_iadd d_Mo_hints_169 ⟨(by omega), (by omega)⟩ ?_
          refine ax_balde (x := I 183 (4544 + x)) d_Mo_hints_170 (k_183 S) (by omega) (by rw [n_183 S]; omega) (Eq.trans (F.1 183 (4544 + x) (by omega) (Or.inl (by decide))) (rfl)) ?_
          refine aw_if_eq (tgt := 176) d_Mo_hints_171 (by decide) (fun c_171 => ?_) (fun c_171 => ?_)
          · skip
            refine ax_iinc (lv' := [(4, vi (x + 1)), (3, vi n), (2, vi 4544), (1, vr 183), (0, vr 175)]) d_Mo_hints_176 rfl (by decide) ⟨(by omega), (by omega)⟩ rfl ?_
            refine aw_goto (tgt := 156) d_Mo_hints_179 (by decide) ?_
            exact ih_156 _ (by omega) (x + 1) (by omega) (fun y a b => by by_cases z : y = x; exact (by rw [z, rg_in l5 (by omega) (by omega)]; omega); exact zz y a (by omega)) rfl
          · skip
            refine aw_iconst d_Mo_hints_174 ⟨by decide, by decide⟩ ?_
            exact aw_zret d_Mo_hints_175 rfl ⟨by decide, by decide⟩ (hP _ _ ⟨F, p5, Or.inr ⟨rfl, fun z => by have y := z.2 x (by show hEn (rgR I) 4619 (8 - 1) ≤ x; rw [show (8 - 1 : Int) = i - 1 by omega, ← hn.1]; exact hx) (by omega); rw [rg_in l5 (by omega) (by omega)] at y; omega⟩⟩)
      skip
      exact lp_156 _ n (by omega) (fun y a b => by omega) rfl
    · skip
      refine aw_iconst d_Mo_hints_14 ⟨by decide, by decide⟩ ?_
      refine aw_istore (lv' := [(5, vi 0), (4, vi i), (3, vi n), (2, vi 4544), (1, vr 183), (0, vr 175)]) d_Mo_hints_15 (by decide) rfl ?_
      have lp_17 : ∀ (n_ : Nat) (c : Int), (0 ≤ c ∧ c ≤ 256) → ((256 - c).toNat) = n_ → AW l G M_Mo_hints P 17 [(5, vi c), (4, vi i), (3, vi n), (2, vi 4544), (1, vr 183), (0, vr 175)] [] (sD h (rowTo K (254 + i.toNat) c (fun _ => 0)) L) := by
        intro n_
        induction n_ using Nat.strongRecOn with
        | _ n_ ih_17 =>
        intro c hc hm_17
        refine aw_iload d_Mo_hints_17 rfl ?_
        refine aw_sipush d_Mo_hints_19 ⟨by decide, by decide⟩ (by decide) ?_
        refine aw_icmp_ge (tgt := 42) d_Mo_hints_22 (by decide) (fun c_22 => ?_) (fun c_22 => ?_)
        · skip
          rw [show c = 256 by omega]
          refine aw_aload_n d_Mo_hints_42 rfl rfl ?_
          refine aw_iload_n d_Mo_hints_43 rfl rfl ?_
          refine aw_aload_n d_Mo_hints_44 rfl rfl ?_
          refine ax_getIe (x := 75) d_Mo_hints_45 fd_Mo_245 (k_175 S) (Eq.trans (rowTo_ne (by omega)) (Eq.trans (F.1 175 37 (by omega) (Or.inr (by decide))) (dr2_37 D))) ?_
          refine ax_iadd d_Mo_hints_48 ⟨(by omega), (by omega)⟩ ?_
          refine ax_ti (x := 4619) (by decide) ?_
          refine aw_iload d_Mo_hints_49 rfl ?_
          refine ax_iadd d_Mo_hints_51 ⟨(by omega), (by omega)⟩ ?_
          refine ax_balde (x := I 183 (4619 + i)) d_Mo_hints_52 (k_183 S) (by omega) (by rw [n_183 S]; omega) (Eq.trans (rowTo_ne (by omega)) (Eq.trans (F.1 183 (4619 + i) (by omega) (Or.inl (by decide))) (rfl))) ?_
          refine aw_sipush d_Mo_hints_53 ⟨by decide, by decide⟩ (by decide) ?_
          refine aw_iand d_Mo_hints_56 ?_
          refine ax_ti (x := (I 183 (4619 + i)) % 256) (a_and' 8 (by decide) (by decide) (by decide)) ?_
          refine aw_istore (lv' := [(5, vi ((I 183 (4619 + i)) % 256)), (4, vi i), (3, vi n), (2, vi 4544), (1, vr 183), (0, vr 175)]) d_Mo_hints_57 (by decide) rfl ?_
          have eE : hEn (rgR I) 4619 i = I 183 (4619 + i) % 256 := by unfold hEn; rw [if_neg (by omega)]; exact rg_in l5 (by omega) (by omega)
          refine aw_iload d_Mo_hints_59 rfl ?_
          refine aw_iload_n d_Mo_hints_61 rfl rfl ?_
          refine aw_icmp_lt (tgt := 74) d_Mo_hints_62 (by decide) (fun c_62 => ?_) (fun c_62 => ?_)
          · skip
            refine aw_iconst d_Mo_hints_74 ⟨by decide, by decide⟩ ?_
            exact aw_zret d_Mo_hints_75 rfl ⟨by decide, by decide⟩ (hP _ _ ⟨F.tr (FR.row (p := fun a => 254 ≤ a ∧ a ≤ 261) (by omega) (fun _ _ _ => rfl)) (fun a x => ⟨x, x⟩), fun x => (rowTo_ne (by omega)).trans (p5 x), Or.inr ⟨rfl, fun z => by have y := z.1 i hi.1 (by omega); rw [show (4544 + 75 : Int) = 4619 from rfl, ← hn.1, eE] at y;  omega⟩⟩)
          · skip
            refine aw_iload d_Mo_hints_65 rfl ?_
            refine aw_aload_n d_Mo_hints_67 rfl rfl ?_
            refine ax_getIe (x := 75) d_Mo_hints_68 fd_Mo_245 (k_175 S) (Eq.trans (rowTo_ne (by omega)) (Eq.trans (F.1 175 37 (by omega) (Or.inr (by decide))) (dr2_37 D))) ?_
            refine aw_icmp_le (tgt := 76) d_Mo_hints_71 (by decide) (fun c_71 => ?_) (fun c_71 => ?_)
            · skip
              refine aw_iload_n d_Mo_hints_76 rfl rfl ?_
              refine aw_istore (lv' := [(6, vi n), (5, vi ((I 183 (4619 + i)) % 256)), (4, vi i), (3, vi n), (2, vi 4544), (1, vr 183), (0, vr 175)]) d_Mo_hints_77 (by decide) rfl ?_
              have lp_79 : ∀ (n_ : Nat) (j : Int) (K2 : Nat → Int → Int), (n ≤ j ∧ j ≤ I 183 (4619 + i) % 256) → (FR (fun a => 254 ≤ a ∧ a ≤ 261) I L K2 L) → (∀ a x, a ≠ 254 + i.toNat → (a ≠ 175 ∨ x ≠ 23) → K2 a x = K a x) → (∀ x, n + 1 ≤ x → x < j → rgR I (4544 + (x - 1)) < rgR I (4544 + x)) → (∀ c, 0 ≤ c → c < 256 → (K2 (254 + i.toNat) c = 0 ∨ K2 (254 + i.toNat) c = 1) ∧ (K2 (254 + i.toNat) c = 1 ↔ ∃ x, n ≤ x ∧ x < j ∧ rgR I (4544 + x) = c)) → (∀ x, K2 175 x = I 175 x) → ((I 183 (4619 + i) % 256 - j).toNat) = n_ → AW l G M_Mo_hints P 79 [(6, vi j), (5, vi (I 183 (4619 + i) % 256)), (4, vi i), (3, vi n), (2, vi 4544), (1, vr 183), (0, vr 175)] [] (sD h K2 L) := by
                intro n_
                induction n_ using Nat.strongRecOn with
                | _ n_ ih_79 =>
                intro j K2 hj F2 f2 rs t2 p6 hm_79
                refine aw_iload d_Mo_hints_79 rfl ?_
                refine aw_iload d_Mo_hints_81 rfl ?_
                refine aw_icmp_ge (tgt := 144) d_Mo_hints_83 (by decide) (fun c_83 => ?_) (fun c_83 => ?_)
                · skip
                  refine aw_iload d_Mo_hints_144 rfl ?_
                  refine aw_istore_n (lv' := [(3, vi (I 183 (4619 + i) % 256)), (6, vi j), (5, vi (I 183 (4619 + i) % 256)), (4, vi i), (2, vi 4544), (1, vr 183), (0, vr 175)]) d_Mo_hints_146 rfl (by decide) rfl ?_
                  refine ax_iinc (lv' := [(4, vi (i + 1)), (3, vi (I 183 (4619 + i) % 256)), (6, vi j), (5, vi (I 183 (4619 + i) % 256)), (2, vi 4544), (1, vr 183), (0, vr 175)]) d_Mo_hints_147 rfl (by decide) ⟨(by omega), (by omega)⟩ rfl ?_
                  refine aw_goto (tgt := 5) d_Mo_hints_150 (by decide) ?_
                  refine aw_sub (lv' := [(4, vi (i + 1)), (3, vi (I 183 (4619 + i) % 256)), (2, vi 4544), (1, vr 183), (0, vr 175)]) (by simp) ?_
                  exact ih_5 _ (by omega) (i + 1) (I 183 (4619 + i) % 256) K2 (by omega) (⟨by rw [show i + 1 - 1 = i by omega]; exact eE.symm, by omega, by omega⟩) (F2) (fun m a b => by by_cases z : m = i; exact (by rw [z, ← hn.1, eE]; exact ⟨by omega, by omega, fun x x0 x1 => by have y := rs (x - 4544) (by omega) (by omega); rw [show 4544 + (x - 4544) = x by omega, show 4544 + (x - 4544 - 1) = x - 1 by omega] at y; exact y⟩); exact gg m a (by omega)) (fun m a b => by by_cases z : m = i; exact (by rw [z]; exact fun x x0 x1 => ⟨(t2 x x0 x1).1, (t2 x x0 x1).2.trans ⟨fun ⟨y, y1, y2, y3⟩ => ⟨y, by show hEn (rgR I) 4619 (i - 1) ≤ y; rw [← hn.1]; exact y1, by show y < hEn (rgR I) 4619 i; rw [eE]; omega, y3⟩, fun ⟨y, y1, y2, y3⟩ => ⟨y, by have y1 : hEn (rgR I) 4619 (i - 1) ≤ y := y1; rw [← hn.1] at y1; exact y1, by have y2 : y < hEn (rgR I) 4619 i := y2; rw [eE] at y2; omega, y3⟩⟩⟩); exact (fun x x0 x1 => by rw [f2 _ _ (by omega) (Or.inl (by omega))]; exact tb m a (by omega) x x0 x1)) (p6) rfl
                · skip
                  refine aw_iload d_Mo_hints_86 rfl ?_
                  refine aw_iload_n d_Mo_hints_88 rfl rfl ?_
                  refine aw_icmp_le (tgt := 119) d_Mo_hints_89 (by decide) (fun c_89 => ?_) (fun c_89 => ?_)
                  · skip
                    refine aw_aload_n d_Mo_hints_119 rfl rfl ?_
                    refine ax_getR (b := 253) d_Mo_hints_120 fd_Mo_81 (k_175 S) (r_175_29 S) ?_
                    refine aw_iload d_Mo_hints_123 rfl ?_
                    refine ax_aald (b := 254 + i.toNat) d_Mo_hints_125 ⟨by rw [(k_253 S)]; decide, by rw [(k_253 S)]; decide⟩ (by omega) (by rw [n_253 S]; omega) (g_253 S (by omega) (by omega)) ?_
                    refine aw_aload_n d_Mo_hints_126 rfl rfl ?_
                    refine aw_iload_n d_Mo_hints_127 rfl rfl ?_
                    refine aw_iload d_Mo_hints_128 rfl ?_
                    refine ax_iadd d_Mo_hints_130 ⟨(by omega), (by omega)⟩ ?_
                    refine ax_balde (x := I 183 (4544 + j)) d_Mo_hints_131 (k_183 S) (by omega) (by rw [n_183 S]; omega) (Eq.trans (F2.1 183 (4544 + j) (by omega) (Or.inl (by decide))) (rfl)) ?_
                    refine aw_sipush d_Mo_hints_132 ⟨by decide, by decide⟩ (by decide) ?_
                    refine aw_iand d_Mo_hints_135 ?_
                    refine ax_ti (x := (I 183 (4544 + j)) % 256) (a_and' 8 (by decide) (by decide) (by decide)) ?_
                    refine aw_iconst d_Mo_hints_136 ⟨by decide, by decide⟩ ?_
                    refine ax_zast d_Mo_hints_137 (kr_253 S (by omega)) (by omega) (by omega) (by rw [nr_253 S (by omega)]; omega) (by omega) ?_
                    refine ax_iinc (lv' := [(6, vi (j + 1)), (5, vi (I 183 (4619 + i) % 256)), (4, vi i), (3, vi n), (2, vi 4544), (1, vr 183), (0, vr 175)]) d_Mo_hints_138 rfl (by decide) ⟨(by omega), (by omega)⟩ rfl ?_
                    refine aw_goto (tgt := 79) d_Mo_hints_141 (by decide) ?_
                    exact ih_79 _ (by omega) (j + 1) (a_up K2 (254 + i.toNat) ((I 183 (4544 + j)) % 256) 1) (by omega) (F2.tr (FR.up (p := fun a => 254 ≤ a ∧ a ≤ 261) (by omega)) (fun a x => ⟨x, x⟩)) (fun a x y z => (a_up_ne (Or.inl y)).trans (f2 a x y z)) (fun x a b => by by_cases z : x = j; exact (by rw [z, rg_in l5 (by omega) (by omega), rg_in l5 (by omega) (by omega), show 4544 + (j - 1) = 4544 + j - 1 by omega]; omega); exact rs x a (by omega)) (fun c a b => by by_cases z : c = I 183 (4544 + j) % 256; exact (by rw [z, a_up_at]; exact ⟨Or.inr rfl, fun _ => ⟨j, by omega, by omega, rg_in l5 (by omega) (by omega)⟩, fun _ => rfl⟩); exact (by rw [a_up_ne (Or.inr z)]; exact ⟨(t2 c a b).1, (t2 c a b).2.trans ⟨fun ⟨x, x1, x2, x3⟩ => ⟨x, x1, by omega, x3⟩, fun ⟨x, x1, x2, x3⟩ => ⟨x, x1, by by_cases y : x = j; exact (by rw [y, rg_in l5 (by omega) (by omega)] at x3; exact absurd x3.symm z); omega, x3⟩⟩⟩)) (fun x => (a_up_ne (Or.inl (by omega))).trans (p6 x)) rfl
                  · skip
                    refine aw_aload_n d_Mo_hints_92 rfl rfl ?_
                    refine aw_iload_n d_Mo_hints_93 rfl rfl ?_
                    refine aw_iload d_Mo_hints_94 rfl ?_
                    refine ax_iadd d_Mo_hints_96 ⟨(by omega), (by omega)⟩ ?_
                    refine ax_balde (x := I 183 (4544 + j)) d_Mo_hints_97 (k_183 S) (by omega) (by rw [n_183 S]; omega) (Eq.trans (F2.1 183 (4544 + j) (by omega) (Or.inl (by decide))) (rfl)) ?_
                    refine aw_sipush d_Mo_hints_98 ⟨by decide, by decide⟩ (by decide) ?_
                    refine aw_iand d_Mo_hints_101 ?_
                    refine ax_ti (x := (I 183 (4544 + j)) % 256) (a_and' 8 (by decide) (by decide) (by decide)) ?_
                    refine aw_aload_n d_Mo_hints_102 rfl rfl ?_
                    refine aw_iload_n d_Mo_hints_103 rfl rfl ?_
                    refine aw_iload d_Mo_hints_104 rfl ?_
                    refine ax_iadd d_Mo_hints_106 ⟨(by omega), (by omega)⟩ ?_
                    refine aw_iconst d_Mo_hints_107 ⟨by decide, by decide⟩ ?_
                    refine ax_isub d_Mo_hints_108 ⟨(by omega), (by omega)⟩ ?_
                    refine ax_balde (x := I 183 ((4544 + j) - 1)) d_Mo_hints_109 (k_183 S) (by omega) (by rw [n_183 S]; omega) (Eq.trans (F2.1 183 ((4544 + j) - 1) (by omega) (Or.inl (by decide))) (rfl)) ?_
                    refine aw_sipush d_Mo_hints_110 ⟨by decide, by decide⟩ (by decide) ?_
                    refine aw_iand d_Mo_hints_113 ?_
                    refine ax_ti (x := (I 183 ((4544 + j) - 1)) % 256) (a_and' 8 (by decide) (by decide) (by decide)) ?_
                    refine aw_icmp_gt (tgt := 119) d_Mo_hints_114 (by decide) (fun c_114 => ?_) (fun c_114 => ?_)
                    · skip
                      refine aw_aload_n d_Mo_hints_119 rfl rfl ?_
                      refine ax_getR (b := 253) d_Mo_hints_120 fd_Mo_81 (k_175 S) (r_175_29 S) ?_
                      refine aw_iload d_Mo_hints_123 rfl ?_
                      refine ax_aald (b := 254 + i.toNat) d_Mo_hints_125 ⟨by rw [(k_253 S)]; decide, by rw [(k_253 S)]; decide⟩ (by omega) (by rw [n_253 S]; omega) (g_253 S (by omega) (by omega)) ?_
                      refine aw_aload_n d_Mo_hints_126 rfl rfl ?_
                      refine aw_iload_n d_Mo_hints_127 rfl rfl ?_
                      refine aw_iload d_Mo_hints_128 rfl ?_
                      refine ax_iadd d_Mo_hints_130 ⟨(by omega), (by omega)⟩ ?_
                      refine ax_balde (x := I 183 (4544 + j)) d_Mo_hints_131 (k_183 S) (by omega) (by rw [n_183 S]; omega) (Eq.trans (F2.1 183 (4544 + j) (by omega) (Or.inl (by decide))) (rfl)) ?_
                      refine aw_sipush d_Mo_hints_132 ⟨by decide, by decide⟩ (by decide) ?_
                      refine aw_iand d_Mo_hints_135 ?_
                      refine ax_ti (x := (I 183 (4544 + j)) % 256) (a_and' 8 (by decide) (by decide) (by decide)) ?_
                      refine aw_iconst d_Mo_hints_136 ⟨by decide, by decide⟩ ?_
                      refine ax_zast d_Mo_hints_137 (kr_253 S (by omega)) (by omega) (by omega) (by rw [nr_253 S (by omega)]; omega) (by omega) ?_
                      refine ax_iinc (lv' := [(6, vi (j + 1)), (5, vi (I 183 (4619 + i) % 256)), (4, vi i), (3, vi n), (2, vi 4544), (1, vr 183), (0, vr 175)]) d_Mo_hints_138 rfl (by decide) ⟨(by omega), (by omega)⟩ rfl ?_
                      refine aw_goto (tgt := 79) d_Mo_hints_141 (by decide) ?_
                      exact ih_79 _ (by omega) (j + 1) (a_up K2 (254 + i.toNat) ((I 183 (4544 + j)) % 256) 1) (by omega) (F2.tr (FR.up (p := fun a => 254 ≤ a ∧ a ≤ 261) (by omega)) (fun a x => ⟨x, x⟩)) (fun a x y z => (a_up_ne (Or.inl y)).trans (f2 a x y z)) (fun x a b => by by_cases z : x = j; exact (by rw [z, rg_in l5 (by omega) (by omega), rg_in l5 (by omega) (by omega), show 4544 + (j - 1) = 4544 + j - 1 by omega]; omega); exact rs x a (by omega)) (fun c a b => by by_cases z : c = I 183 (4544 + j) % 256; exact (by rw [z, a_up_at]; exact ⟨Or.inr rfl, fun _ => ⟨j, by omega, by omega, rg_in l5 (by omega) (by omega)⟩, fun _ => rfl⟩); exact (by rw [a_up_ne (Or.inr z)]; exact ⟨(t2 c a b).1, (t2 c a b).2.trans ⟨fun ⟨x, x1, x2, x3⟩ => ⟨x, x1, by omega, x3⟩, fun ⟨x, x1, x2, x3⟩ => ⟨x, x1, by by_cases y : x = j; exact (by rw [y, rg_in l5 (by omega) (by omega)] at x3; exact absurd x3.symm z); omega, x3⟩⟩⟩)) (fun x => (a_up_ne (Or.inl (by omega))).trans (p6 x)) rfl
                    · skip
                      refine aw_iconst d_Mo_hints_117 ⟨by decide, by decide⟩ ?_
                      exact aw_zret d_Mo_hints_118 rfl ⟨by decide, by decide⟩ (hP _ _ ⟨F2, p6, Or.inr ⟨rfl, fun z => by have y := z.1 i hi.1 (by omega); rw [show (4544 + 75 : Int) = 4619 from rfl, ← hn.1, eE] at y;  have y3 := y.2.2 (4544 + j) (by omega) (by omega); rw [rg_in l5 (by omega) (by omega), rg_in l5 (by omega) (by omega)] at y3; omega⟩⟩)
              skip
              exact lp_79 _ n (rowTo K (254 + i.toNat) 256 (fun _ => 0)) (by omega) (F.tr (FR.row (p := fun a => 254 ≤ a ∧ a ≤ 261) (by omega) (fun _ _ _ => rfl)) (fun a x => ⟨x, x⟩)) (fun a x y _ => rowTo_ne y) (fun x a b => by omega) (fun c a b => by rw [rowTo_in a b]; exact ⟨Or.inl rfl, fun z => absurd z (by decide), fun ⟨x, x1, x2, x3⟩ => by omega⟩) (fun x => (rowTo_ne (by omega)).trans (p5 x)) rfl
            · skip
              refine aw_iconst d_Mo_hints_74 ⟨by decide, by decide⟩ ?_
              exact aw_zret d_Mo_hints_75 rfl ⟨by decide, by decide⟩ (hP _ _ ⟨F.tr (FR.row (p := fun a => 254 ≤ a ∧ a ≤ 261) (by omega) (fun _ _ _ => rfl)) (fun a x => ⟨x, x⟩), fun x => (rowTo_ne (by omega)).trans (p5 x), Or.inr ⟨rfl, fun z => by have y := z.1 i hi.1 (by omega); rw [show (4544 + 75 : Int) = 4619 from rfl, ← hn.1, eE] at y;  omega⟩⟩)
        · skip
          refine aw_aload_n d_Mo_hints_25 rfl rfl ?_
          refine ax_getR (b := 253) d_Mo_hints_26 fd_Mo_81 (k_175 S) (r_175_29 S) ?_
          refine aw_iload d_Mo_hints_29 rfl ?_
          refine ax_aald (b := 254 + i.toNat) d_Mo_hints_31 ⟨by rw [(k_253 S)]; decide, by rw [(k_253 S)]; decide⟩ (by omega) (by rw [n_253 S]; omega) (g_253 S (by omega) (by omega)) ?_
          refine aw_iload d_Mo_hints_32 rfl ?_
          refine aw_iconst d_Mo_hints_34 ⟨by decide, by decide⟩ ?_
          refine ax_zast d_Mo_hints_35 (kr_253 S (by omega)) (by omega) (by omega) (by rw [nr_253 S (by omega)]; omega) (by omega) ?_
          rw [rowTo_1 (by omega) rfl]
          refine ax_iinc (lv' := [(5, vi (c + 1)), (4, vi i), (3, vi n), (2, vi 4544), (1, vr 183), (0, vr 175)]) d_Mo_hints_36 rfl (by decide) ⟨(by omega), (by omega)⟩ rfl ?_
          refine aw_goto (tgt := 17) d_Mo_hints_39 (by decide) ?_
          exact ih_17 _ (by omega) (c + 1) (by omega) rfl
      refine ax_hp (h' := sD h (rowTo K (254 + i.toNat) 0 (fun _ => 0)) L) (by rw [rowTo_0]) ?_
      exact lp_17 _ 0 (by omega) rfl
  skip
  refine aw_sub (lv' := [(4, vi 0), (3, vi 0), (2, vi 4544), (1, vr 183), (0, vr 175)]) (by simp) ?_
  exact lp_5 _ 0 0 I (by omega) (⟨by unfold hEn; rw [if_pos (by omega)], by omega, by omega⟩) (FR.rfl') (fun m a b => by omega) (fun m a b => by omega) (fun _ => rfl) rfl
