/-! the reference's dsaVerify -/
theorem zl0 {y t g : Int} (hg : 0 < t ∧ t ≤ g ∧ g ≤ 524288) (hy : -g < y ∧ y ≤ g) : (t ≤ y ∨ y ≤ -t) ↔ (t ≤ y % 8380417 ∧ y % 8380417 ≤ 8380417 - t) := by omega
theorem fR0.mono {q r : Nat → Prop} {I L K M : Nat → Int → Int} (h : fR0 q I L K M) (hr : ∀ a, ¬ r a → ¬ q a) : fR0 r I L K M := ⟨fun a j x y => h.1 a j x (hr a y), h.2⟩
theorem eva_neg {F G : Int → Int} {i : Int} (h : ∀ k : Nat, k < 256 → cq (G k) (-(F k))) : cq (eva G i) (-(eva F i)) := by
  unfold eva
  rw [evS_sG, evS_sG]
  refine (cq.m _).t ?_
  have z : cq (sG G (xp (2 * trn i + 1)) 0 256) (-1 * sG F (xp (2 * trn i + 1)) 0 256) := sG_scale 256 (fun t ht => by
    rw [Int.zero_add]
    refine ((h t ht).mul (cq.r _)).t (cq.e ?_)
    rw [Int.neg_mul, Int.neg_mul, Int.one_mul])
  refine z.t ?_
  unfold cq
  omega
def muW (I : Nat → Int → Int) (how : Int) : Int → Int := muR I (spOut (blS (fun k => I 179 (0 + k)) (I 186 1))) how
def vfZs (s : Int) (g : Int → Int) (m j : Int) : Int := pG1 s - gR (fun k => g (pC s + 32 * pB s * m + k)) (pB s).toNat j
theorem vfZs_b {s : Int} {g : Int → Int} {m j : Int} : pG1 s - 2 ^ (pB s).toNat < vfZs s g m j ∧ vfZs s g m j ≤ pG1 s := by
  have h := gR_p (g := fun k => g (pC s + 32 * pB s * m + k)) (w := (pB s).toNat) (j := j)
  unfold vfZs
  omega
theorem vfZ_Zs {s : Int} {g : Int → Int} {m j : Int} : vfZ s g m j = vfZs s g m j % 8380417 := rfl
theorem wide_pk {I K : Nat → Int → Int} {n j i : Int} (h : ∀ x, K 179 x = I 179 x) (hl : I 186 1 = n) (hn : 32 ≤ n) : wide (fun k => K 179 (0 + k)) j i = wide (rpR I) j i := wide_congr (fun k hk => by rw [h, Int.zero_add, rp_in hl (by omega) (by omega)]; omega)
theorem hh_y {g2 hs r : Int} (h : 0 < dLow g2 r) : hHigh g2 hs r = (dHigh g2 r + 1) % hs := if_pos h
theorem hh_n {g2 hs r : Int} (h : ¬ 0 < dLow g2 r) : hHigh g2 hs r = (dHigh g2 r + hs - 1) % hs := if_neg h
set_option maxHeartbeats 800000 in
set_option maxRecDepth 100000 in
theorem vE00 {l : Launch} {G : a_G} {P : a_R → Hp → Prop} {h : Hp} {I L K M : Nat → Int → Int} (S : Shp h) (R0 : fR0 qN I L K M) (D : RD K M 0) (rg : ∀ j, -128 ≤ I 183 j ∧ I 183 j ≤ 127) (b1 : (0 : Int) ≠ 0 ∨ I 186 4 ≤ 255) (b2 : I 186 1 = 32 + 320 * pK 0) (pre : vfPre 0 (rgR I) (I 186 5)) (vok : vfOk 0 (rpR I) (rgR I)) (hH : ∀ m, 0 ≤ m → m < 4 → eqQ (K (205 + (30 + m).toNat)) ((fun m j => hvV (rgR I) 2336 80 95232 44 m j ((vfW 0 (rpR I) (rgR I)) m j)) m)) (hm : HR K 265 0 64 (muW I (0 : Int))) (h4 : K 175 4 = 0) (hP : ∀ r_ h2_, RsR h I L (c4 ((0 ≤ (0 : Int) ∧ (0 : Int) < 3) ∧ ((0 : Int) = 0 ∨ (0 : Int) = -1)) ((0 : Int) ≠ 0 ∨ I 186 4 ≤ 255) (I 186 1 = 32 + 320 * pK (0 : Int)) (vfPre (0 : Int) (rgR I) (I 186 5) → vfOk (0 : Int) (rpR I) (rgR I))) (fun a => a = 184 ∨ a = 186) (fun v I' L' => (¬ vfPre (0 : Int) (rgR I) (I 186 5) ∧ v = 0 ∧ fR0 qN I L I' L') ∨ (vfPre (0 : Int) (rgR I) (I 186 5) ∧ ((∀ j, j ≠ 6 → I' 186 j = I 186 j) ∧ I' 186 6 = pC (0 : Int)) ∧ (HR I' 184 0 (pC (0 : Int)) (vfC (0 : Int) (rpR I) (rgR I) (muW I (0 : Int))) ∧ rng (I 184) (I' 184)) ∧ (v = 0 ∨ v = 1) ∧ (v = 1 ↔ ∀ j, 0 ≤ j → j < pC (0 : Int) → vfC (0 : Int) (rpR I) (rgR I) (muW I (0 : Int)) j = rgR I j))) r_ h2_ → P r_ h2_) : AW l G M_Mo_dsaVerify P 732 [(0, vr 175)] [] (sD h K M) := by
  refine aw_aload_n d_Mo_dsaVerify_732 rfl rfl ?_
  refine aw_bipush d_Mo_dsaVerify_733 ⟨by decide, by decide⟩ (by decide) ?_
  refine aw_aload_n d_Mo_dsaVerify_735 rfl rfl ?_
  refine ax_getR (b := 267) d_Mo_dsaVerify_736 fd_Mo_99 (k_175 S) (r_175_43 S) ?_
  refine ax_Vr (st := []) (as := [vi 30, vr 267]) (b := 175) d_Mo_dsaVerify_739 cs_Mo_dsaVerify_739 (k_175 S) (c_Mo_challengeR0_30 (mu := (muW I (0 : Int))) (X := (fun m j => hvV (rgR I) 2336 80 95232 44 m j ((vfW 0 (rpR I) (rgR I)) m j))) S D hH (fun m a b j x y => by have := hvV_a (g := (rgR I)) (o3 := 2336) (w := 80) (i := m) (j := j) (vfW_in (s := 0) (pk := (rpR I)) (g := (rgR I)) (m := m) j x y); show 0 ≤ hvV (rgR I) 2336 80 95232 44 m j ((vfW 0 (rpR I) (rgR I)) m j) ∧ hvV (rgR I) 2336 80 95232 44 m j ((vfW 0 (rpR I) (rgR I)) m j) < 2 ^ 6; omega) hm (fun k _ _ => spOut_m _ _)) rfl rfl rfl (fun u_739 q_739 => ?_)
  obtain ⟨I1, L1⟩ := u_739
  obtain ⟨F1, h1, g1_, z4_⟩ := q_739
  dsimp only at F1 h1 g1_ z4_
  have h1 : HR I1 267 0 32 (vfC 0 (rpR I) (rgR I) (muW I (0 : Int))) := h1
  have D1 := D.fr F1 (by decide)
  have c41 : I1 175 4 = 0 := z4_.trans h4
  show AW l G M_Mo_dsaVerify P 742 [(0, vr 175)] [] (sD h I1 L1)
  refine aw_aload_n d_Mo_dsaVerify_742 rfl rfl ?_
  refine ax_getR (b := 267) d_Mo_dsaVerify_743 fd_Mo_99 (k_175 S) (r_175_43 S) ?_
  refine aw_iconst d_Mo_dsaVerify_746 ⟨by decide, by decide⟩ ?_
  refine aw_aload_n d_Mo_dsaVerify_747 rfl rfl ?_
  refine ax_getR (b := 177) d_Mo_dsaVerify_748 fd_Mo_15 (k_175 S) (r_175_1 S) ?_
  refine aw_bipush d_Mo_dsaVerify_751 ⟨by decide, by decide⟩ (by decide) ?_
  refine ax_aald (b := 184) d_Mo_dsaVerify_753 ⟨by rw [(k_177 S)]; decide, by rw [(k_177 S)]; decide⟩ (by omega) (by rw [n_177 S]; omega) (g_177 S (j := 6) (by decide) (by decide)) ?_
  refine aw_iconst d_Mo_dsaVerify_754 ⟨by decide, by decide⟩ ?_
  refine aw_aload_n d_Mo_dsaVerify_755 rfl rfl ?_
  refine ax_getIe (x := 32) d_Mo_dsaVerify_756 fd_Mo_248 (k_175 S) (dr0_38 D1) ?_
  refine ax_S (st := []) (as := [vr 267, vi 0, vr 184, vi 0, vi 32]) (v := none) (h' := sD h (putRow I1 184 0 32 (fun k => I1 267 (0 + k))) L1) d_Mo_dsaVerify_759 cs_Mo_dsaVerify_759 (c_Mo_move ⟨k_267 S, by decide⟩ ⟨k_184 S, by decide, trivial⟩ (by decide) (by rw [n_267 S, n_184 S]; omega)) rfl rfl rfl ?_
  show AW l G M_Mo_dsaVerify P 762 [(0, vr 175)] [] (sD h (putRow I1 184 0 32 (fun k => I1 267 (0 + k))) L1)
  refine aw_aload_n d_Mo_dsaVerify_762 rfl rfl ?_
  refine ax_getR (b := 186) d_Mo_dsaVerify_763 fd_Mo_18 (k_175 S) (r_175_2 S) ?_
  refine aw_bipush d_Mo_dsaVerify_766 ⟨by decide, by decide⟩ (by decide) ?_
  refine aw_aload_n d_Mo_dsaVerify_768 rfl rfl ?_
  refine ax_getIe (x := 32) d_Mo_dsaVerify_769 fd_Mo_248 (k_175 S) (Eq.trans (putRow_ne (by decide)) (dr0_38 D1)) ?_
  refine ax_iast d_Mo_dsaVerify_772 (k_186 S) (by decide) (by omega) (by rw [n_186 S]; omega) ?_
  refine aw_aload_n d_Mo_dsaVerify_773 rfl rfl ?_
  refine ax_getR (b := 267) d_Mo_dsaVerify_774 fd_Mo_99 (k_175 S) (r_175_43 S) ?_
  refine aw_iconst d_Mo_dsaVerify_777 ⟨by decide, by decide⟩ ?_
  refine aw_aload_n d_Mo_dsaVerify_778 rfl rfl ?_
  refine ax_getR (b := 177) d_Mo_dsaVerify_779 fd_Mo_15 (k_175 S) (r_175_1 S) ?_
  refine aw_iconst d_Mo_dsaVerify_782 ⟨by decide, by decide⟩ ?_
  refine ax_aald (b := 183) d_Mo_dsaVerify_783 ⟨by rw [(k_177 S)]; decide, by rw [(k_177 S)]; decide⟩ (by omega) (by rw [n_177 S]; omega) (g_177 S (j := 5) (by decide) (by decide)) ?_
  refine aw_iconst d_Mo_dsaVerify_784 ⟨by decide, by decide⟩ ?_
  refine aw_aload_n d_Mo_dsaVerify_785 rfl rfl ?_
  refine ax_getIe (x := 32) d_Mo_dsaVerify_786 fd_Mo_248 (k_175 S) (Eq.trans (a_up_ne (Or.inl (by decide))) (Eq.trans (putRow_ne (by decide)) (dr0_38 D1))) ?_
  refine ax_Sr (st := []) (as := [vr 267, vi 0, vr 183, vi 0, vi 32]) d_Mo_dsaVerify_789 cs_Mo_dsaVerify_789 (c_Mo_alike ⟨k_267 S, by decide⟩ ⟨k_183 S, by decide⟩ (by rw [n_267 S, n_183 S]; decide)) rfl rfl rfl (fun u_789 q_789 => ?_)
  obtain ⟨ao, aa⟩ := q_789
  have l5 : I 186 5 = 2420 := pre.1
  have r183 : ∀ j, (a_up (putRow I1 184 0 32 (fun k => I1 267 (0 + k))) 186 6 32) 183 j = I 183 j := fun j => by rw [a_up_ne (Or.inl (by decide)), putRow_ne (by decide), F1.1 183 j (by decide) (Or.inl (by decide))]; exact R0.1 183 j (by omega) (fun z => z)
  have r267 : ∀ j, (a_up (putRow I1 184 0 32 (fun k => I1 267 (0 + k))) 186 6 32) 267 j = I1 267 j := fun j => by rw [a_up_ne (Or.inl (by decide)), putRow_ne (by decide)]
  have am : u_789 = 1 ↔ ∀ j, 0 ≤ j → j < 32 → (vfC 0 (rpR I) (rgR I) (muW I (0 : Int))) j = rgR I j := aa.trans ⟨fun z j x y => by have w_ := z j x y; rw [r183, r267] at w_; rw [← h1 j x y, w_, Int.zero_add, rg_in l5 x (by omega)], fun z j x y => by have w_ := z j x y; rw [← h1 j x y] at w_; have g_ := g1_ j x y; have r_ := rg (0 + j); rw [r183, r267]; rw [rg_in l5 x (by omega)] at w_; rw [Int.zero_add] at *; omega⟩
  show AW l G M_Mo_dsaVerify P 792 [(0, vr 175)] [vi u_789] (sD h (a_up (putRow I1 184 0 32 (fun k => I1 267 (0 + k))) 186 6 32) L1)
  exact aw_zret d_Mo_dsaVerify_792 rfl (by omega) (hP _ _ ⟨_, _, _, rfl, rfl, by rw [a_up_ne (Or.inl (by decide)), putRow_ne (by decide), c41, c4_0 ⟨by decide, by decide⟩ b1 b2 (fun _ => vok)], Or.inl ⟨c4_0 ⟨by decide, by decide⟩ b1 b2 (fun _ => vok), fR0.fr (fR0.fr (fR0.fr R0 F1 (r := qN) (by intro a x y; exact ⟨fun z => z, by omega⟩) (by decide)) (FR.put (p := fun a => a = 184) rfl) (r := fun a => a = 184 ∨ a = 186) (by intro a x y; exact ⟨fun z => z, by omega⟩) (by decide)) (FR.up (p := fun a => a = 186) rfl) (by intro a x y; exact ⟨y, by omega⟩) (by decide), Or.inr ⟨pre, ⟨fun j x => by rw [a_up_ne (Or.inr x), putRow_ne (by decide), F1.1 186 j (by decide) (Or.inl (by decide))]; exact R0.1 186 j (by omega) (fun z => z), by rw [a_up_at]; rfl⟩, ⟨fun z x y => by rw [a_up_ne (Or.inl (by decide))]; exact HR.put (g' := (vfC 0 (rpR I) (rgR I) (muW I (0 : Int)))) (fun z x y => h1 z x y) z x y, fun j => by rw [a_up_ne (Or.inl (by decide))]; have z := rng.p (I := I1) (f := 184) (o := 0) (n := 32) (g := fun k => I1 267 (0 + k)) j; rw [show I1 184 j = I 184 j from (F1.1 184 j (by decide) (Or.inl (by decide))).trans (R0.1 184 j (by omega) (fun z => z))] at z; exact z⟩, ao, am⟩⟩⟩)
theorem vsum {p e b f : Int} (h : cq e (-f)) : cq ((e * b + p) % 8380417) ((p % 8380417 - b * f % 8380417) % 8380417) := by
  refine (cq.m _).t (((h.mul (cq.r b)).add (cq.r p)).t ?_)
  rw [Int.neg_mul, Int.mul_comm f b]
  unfold cq
  omega
set_option maxHeartbeats 4000000 in
set_option maxRecDepth 100000 in
theorem vD00 {l : Launch} {G : a_G} {P : a_R → Hp → Prop} {h : Hp} {I L K M : Nat → Int → Int} (S : Shp h) (R0 : fR0 qN I L K M) (D : RD K M 0) (rg : ∀ j, -128 ≤ I 183 j ∧ I 183 j ≤ 127) (b1 : (0 : Int) ≠ 0 ∨ I 186 4 ≤ 255) (b2 : I 186 1 = 32 + 320 * pK 0) (pre : vfPre 0 (rgR I) (I 186 5)) (bn : bll 39 (vfBs 0 (rgR I)) ≠ none) (hB : eqQ (K 251) (vfB 0 (rgR I))) (hZ : ∀ m, 0 ≤ m → m < 4 → eqQ (K (205 + m.toNat)) (fwd rt ((vfZ 0 (rgR I)) m))) (b0 : K 175 23 = 8 * (320 * 0)) (hm : HR K 265 0 64 (muW I (0 : Int))) (h4 : K 175 4 = 0) (tb : ∀ m, 0 ≤ m → m < 4 → tbl K (rgR I) 2336 80 m) (hP : ∀ r_ h2_, RsR h I L (c4 ((0 ≤ (0 : Int) ∧ (0 : Int) < 3) ∧ ((0 : Int) = 0 ∨ (0 : Int) = -1)) ((0 : Int) ≠ 0 ∨ I 186 4 ≤ 255) (I 186 1 = 32 + 320 * pK (0 : Int)) (vfPre (0 : Int) (rgR I) (I 186 5) → vfOk (0 : Int) (rpR I) (rgR I))) (fun a => a = 184 ∨ a = 186) (fun v I' L' => (¬ vfPre (0 : Int) (rgR I) (I 186 5) ∧ v = 0 ∧ fR0 qN I L I' L') ∨ (vfPre (0 : Int) (rgR I) (I 186 5) ∧ ((∀ j, j ≠ 6 → I' 186 j = I 186 j) ∧ I' 186 6 = pC (0 : Int)) ∧ (HR I' 184 0 (pC (0 : Int)) (vfC (0 : Int) (rpR I) (rgR I) (muW I (0 : Int))) ∧ rng (I 184) (I' 184)) ∧ (v = 0 ∨ v = 1) ∧ (v = 1 ↔ ∀ j, 0 ≤ j → j < pC (0 : Int) → vfC (0 : Int) (rpR I) (rgR I) (muW I (0 : Int)) j = rgR I j))) r_ h2_ → P r_ h2_) : AW l G M_Mo_dsaVerify P 402 [(0, vr 175)] [] (sD h K M) := by
  refine aw_iconst d_Mo_dsaVerify_402 ⟨by decide, by decide⟩ ?_
  refine aw_istore (lv' := [(4, vi 0), (0, vr 175)]) d_Mo_dsaVerify_403 (by decide) rfl ?_
  have lp_405 : ∀ (n_ : Nat) (i : Int) (K2 : Nat → Int → Int) (M2 : Nat → Int → Int), (0 ≤ i ∧ i ≤ 4) → (FR (fun a => a = 250 ∨ a = 252 ∨ 235 ≤ a ∧ a ≤ 242) K M K2 M2) → (K2 175 23 = 8 * (320 * i)) → (∀ m, 0 ≤ m → m < i → eqQ (K2 (205 + (30 + m).toNat)) ((fun m j => hvV (rgR I) 2336 80 95232 44 m j ((vfW 0 (rpR I) (rgR I)) m j)) m)) → (∀ m, 0 ≤ m → m < 4 * i → (wide (rpR I) (m % 4) (m / 4)).2.1 = 256) → (K2 175 4 = 0) → ((4 - i).toNat) = n_ → AW l G M_Mo_dsaVerify P 405 [(4, vi i), (0, vr 175)] [] (sD h K2 M2) := by
    intro n_
    induction n_ using Nat.strongRecOn with
    | _ n_ ih_405 =>
    intro i K2 M2 hi F2 bb dn okA h42 hm_405
    have pk2 : ∀ x, K2 179 x = I 179 x := fun x => (F2.1 179 x (by omega) (Or.inl (by decide))).trans (R0.1 179 x (by omega) (fun z => z))
    refine aw_iload d_Mo_dsaVerify_405 rfl ?_
    refine aw_aload_n d_Mo_dsaVerify_407 rfl rfl ?_
    refine ax_getIe (x := 4) d_Mo_dsaVerify_408 fd_Mo_223 (k_175 S) (Eq.trans (F2.1 175 26 (by omega) (Or.inr (by decide))) (dr0_26 D)) ?_
    refine aw_icmp_ge (tgt := 732) d_Mo_dsaVerify_411 (by decide) (fun c_411 => ?_) (fun c_411 => ?_)
    · skip
      refine aw_sub (lv' := [(0, vr 175)]) (by simp) ?_
      exact vE00 S (fR0.fr R0 F2 (by intro a x y; exact ⟨fun z => z, by omega⟩) (by omega)) (D.fr F2 (by omega)) rg b1 b2 pre ⟨bn, fun m a b => okA m a (by have b2 : m < 16 := b; omega)⟩ (fun m a b => dn m a (by omega)) (hm.fr F2 (by omega) (by decide)) h42 hP
    · skip
      refine aw_iconst d_Mo_dsaVerify_414 ⟨by decide, by decide⟩ ?_
      refine aw_istore (lv' := [(5, vi 0), (4, vi i), (0, vr 175)]) d_Mo_dsaVerify_415 (by decide) rfl ?_
      have lp_417 : ∀ (n_ : Nat) (c : Int) (K3 : Nat → Int → Int), (0 ≤ c ∧ c ≤ 256) → (FR (fun a => a = 250) K2 M2 K3 M2) → (K3 175 23 = 8 * (320 * i) + 10 * c) → (∀ x, 0 ≤ x → x < c → K3 250 x = (fun x => (8380417 - gR (fun k => rpR I (32 + 320 * i + k)) 10 x * 8192 % 8380417) % 8380417) x) → (K3 175 4 = 0) → ((256 - c).toNat) = n_ → AW l G M_Mo_dsaVerify P 417 [(5, vi c), (4, vi i), (0, vr 175)] [] (sD h K3 M2) := by
        intro n_
        induction n_ using Nat.strongRecOn with
        | _ n_ ih_417 =>
        intro c K3 hc F3 b3 x3 h43 hm_417
        have pk3 : ∀ x, K3 179 x = I 179 x := fun x => by rw [F3.1 179 _ (by decide) (Or.inl (by decide)), pk2]
        refine aw_iload d_Mo_dsaVerify_417 rfl ?_
        refine aw_sipush d_Mo_dsaVerify_419 ⟨by decide, by decide⟩ (by decide) ?_
        refine aw_icmp_ge (tgt := 473) d_Mo_dsaVerify_422 (by decide) (fun c_422 => ?_) (fun c_422 => ?_)
        · skip
          refine aw_aload_n d_Mo_dsaVerify_473 rfl rfl ?_
          refine aw_aload_n d_Mo_dsaVerify_474 rfl rfl ?_
          refine ax_getR (b := 204) d_Mo_dsaVerify_475 fd_Mo_76 (k_175 S) (r_175_28 S) ?_
          refine aw_bipush d_Mo_dsaVerify_478 ⟨by decide, by decide⟩ (by decide) ?_
          refine ax_aald (b := 250) d_Mo_dsaVerify_480 ⟨by rw [(k_204 S)]; decide, by rw [(k_204 S)]; decide⟩ (by omega) (by rw [n_204 S]; omega) (g_204 S (j := 45) (by decide) (by decide)) ?_
          have D3 := (D.fr F2 (by omega)).fr F3 (by decide)
          refine ax_Vr (st := []) (as := [vr 250]) (b := 175) d_Mo_dsaVerify_481 cs_Mo_dsaVerify_481 (k_175 S) (c_Mo_evaluate S ⟨k_250 S, by decide, n_250 S⟩ (by decide) (fun x a b => by rw [x3 x a (by omega)]; show 0 ≤ _ % 8380417 ∧ _ % 8380417 < 8380417; exact ⟨Int.emod_nonneg _ (by decide), Int.emod_lt_of_pos _ (by decide)⟩) D3.2.2) rfl rfl rfl (fun u_481 q_481 => ?_)
          have l5 := q_481
          have ng : ∀ x, 0 ≤ x → x < 256 → cq (eva (K3 250) x) (-(fwd rt (tpF (rpR I) i) x)) := fun x a b => by rw [fwd_eva a b]; exact eva_neg (fun y hy => by rw [x3 y (by omega) (by omega)]; show cq ((8380417 - tpF (rpR I) i y % 8380417) % 8380417) (-(tpF (rpR I) i y)); unfold cq; omega)
          have F3b : FR (fun a => a = 250 ∨ a = 252 ∨ 235 ≤ a ∧ a ≤ 242) K3 M2 (rowTo (rowTo (rowTo K3 250 256 (eva (K3 250))) (205 + (30 + i).toNat) 256 (fun _ => 0)) (205 + (30 + i).toNat) 256 (fun x => ((rowTo (rowTo K3 250 256 (eva (K3 250))) (205 + (30 + i).toNat) 256 (fun _ => 0)) (205 + (30 + i).toNat) x + (rowTo (rowTo K3 250 256 (eva (K3 250))) (205 + (30 + i).toNat) 256 (fun _ => 0)) 250 x * (rowTo (rowTo K3 250 256 (eva (K3 250))) (205 + (30 + i).toNat) 256 (fun _ => 0)) 251 x) % 8380417)) u_481 := ((FR.row (p := fun a => a = 250 ∨ a = 252 ∨ 235 ≤ a ∧ a ≤ 242) (by omega) l5).tr (FR.row (p := fun a => a = 250 ∨ a = 252 ∨ 235 ≤ a ∧ a ≤ 242) (by omega) (fun _ _ _ => rfl)) (fun a x => ⟨x, x⟩)).tr (FR.row (p := fun a => a = 250 ∨ a = 252 ∨ 235 ≤ a ∧ a ≤ 242) (by omega) (fun _ _ _ => rfl)) (fun a x => ⟨x, x⟩)
          show AW l G M_Mo_dsaVerify P 484 [(5, vi c), (4, vi i), (0, vr 175)] [] (sD h (rowTo K3 250 256 (eva (K3 250))) u_481)
          refine aw_aload_n d_Mo_dsaVerify_484 rfl rfl ?_
          refine ax_getR (b := 204) d_Mo_dsaVerify_485 fd_Mo_76 (k_175 S) (r_175_28 S) ?_
          refine aw_bipush d_Mo_dsaVerify_488 ⟨by decide, by decide⟩ (by decide) ?_
          refine aw_iload d_Mo_dsaVerify_490 rfl ?_
          refine ax_iadd d_Mo_dsaVerify_492 ⟨(by omega), (by omega)⟩ ?_
          refine ax_aald (b := 205 + (30 + i).toNat) d_Mo_dsaVerify_493 ⟨by rw [(k_204 S)]; decide, by rw [(k_204 S)]; decide⟩ (by omega) (by rw [n_204 S]; omega) (g_204 S (by omega) (by omega)) ?_
          refine ax_S (st := []) (as := [vr (205 + (30 + i).toNat)]) (v := none) (h' := sD h (rowTo (rowTo K3 250 256 (eva (K3 250))) (205 + (30 + i).toNat) 256 (fun _ => 0)) u_481) d_Mo_dsaVerify_494 cs_Mo_dsaVerify_494 (c_Mo_clear ⟨kr_204 S (by omega), by omega, nr_204 S (by omega)⟩) rfl rfl rfl ?_
          show AW l G M_Mo_dsaVerify P 497 [(5, vi c), (4, vi i), (0, vr 175)] [] (sD h (rowTo (rowTo K3 250 256 (eva (K3 250))) (205 + (30 + i).toNat) 256 (fun _ => 0)) u_481)
          refine aw_aload_n d_Mo_dsaVerify_497 rfl rfl ?_
          refine ax_getR (b := 204) d_Mo_dsaVerify_498 fd_Mo_76 (k_175 S) (r_175_28 S) ?_
          refine aw_bipush d_Mo_dsaVerify_501 ⟨by decide, by decide⟩ (by decide) ?_
          refine aw_iload d_Mo_dsaVerify_503 rfl ?_
          refine ax_iadd d_Mo_dsaVerify_505 ⟨(by omega), (by omega)⟩ ?_
          refine ax_aald (b := 205 + (30 + i).toNat) d_Mo_dsaVerify_506 ⟨by rw [(k_204 S)]; decide, by rw [(k_204 S)]; decide⟩ (by omega) (by rw [n_204 S]; omega) (g_204 S (by omega) (by omega)) ?_
          refine aw_aload_n d_Mo_dsaVerify_507 rfl rfl ?_
          refine ax_getR (b := 204) d_Mo_dsaVerify_508 fd_Mo_76 (k_175 S) (r_175_28 S) ?_
          refine aw_bipush d_Mo_dsaVerify_511 ⟨by decide, by decide⟩ (by decide) ?_
          refine ax_aald (b := 250) d_Mo_dsaVerify_513 ⟨by rw [(k_204 S)]; decide, by rw [(k_204 S)]; decide⟩ (by omega) (by rw [n_204 S]; omega) (g_204 S (j := 45) (by decide) (by decide)) ?_
          refine aw_aload_n d_Mo_dsaVerify_514 rfl rfl ?_
          refine ax_getR (b := 204) d_Mo_dsaVerify_515 fd_Mo_76 (k_175 S) (r_175_28 S) ?_
          refine aw_bipush d_Mo_dsaVerify_518 ⟨by decide, by decide⟩ (by decide) ?_
          refine ax_aald (b := 251) d_Mo_dsaVerify_520 ⟨by rw [(k_204 S)]; decide, by rw [(k_204 S)]; decide⟩ (by omega) (by rw [n_204 S]; omega) (g_204 S (j := 46) (by decide) (by decide)) ?_
          refine ax_S (st := []) (as := [vr (205 + (30 + i).toNat), vr 250, vr 251]) (v := none) (h' := sD h (rowTo (rowTo (rowTo K3 250 256 (eva (K3 250))) (205 + (30 + i).toNat) 256 (fun _ => 0)) (205 + (30 + i).toNat) 256 (fun x => ((rowTo (rowTo K3 250 256 (eva (K3 250))) (205 + (30 + i).toNat) 256 (fun _ => 0)) (205 + (30 + i).toNat) x + (rowTo (rowTo K3 250 256 (eva (K3 250))) (205 + (30 + i).toNat) 256 (fun _ => 0)) 250 x * (rowTo (rowTo K3 250 256 (eva (K3 250))) (205 + (30 + i).toNat) 256 (fun _ => 0)) 251 x) % 8380417)) u_481) d_Mo_dsaVerify_521 cs_Mo_dsaVerify_521 (c_Mo_addProducts ⟨kr_204 S (by omega), by omega, nr_204 S (by omega)⟩ ⟨k_250 S, by decide, n_250 S⟩ ⟨k_251 S, by decide, n_251 S⟩ (fun x a b => by rw [rowTo_in a b]; decide) (fun x a b => by rw [rowTo_ne (by omega), rowTo_in a b]; exact eva_in) (fun x a b => by rw [rowTo_ne (by omega), rowTo_ne (by decide), F3.1 251 x (by decide) (Or.inl (by decide)), F2.1 251 x (by omega) (Or.inl (by decide)), hB x a b]; exact vfB_in x a b)) rfl rfl rfl ?_
          show AW l G M_Mo_dsaVerify P 524 [(5, vi c), (4, vi i), (0, vr 175)] [] (sD h (rowTo (rowTo (rowTo K3 250 256 (eva (K3 250))) (205 + (30 + i).toNat) 256 (fun _ => 0)) (205 + (30 + i).toNat) 256 (fun x => ((rowTo (rowTo K3 250 256 (eva (K3 250))) (205 + (30 + i).toNat) 256 (fun _ => 0)) (205 + (30 + i).toNat) x + (rowTo (rowTo K3 250 256 (eva (K3 250))) (205 + (30 + i).toNat) 256 (fun _ => 0)) 250 x * (rowTo (rowTo K3 250 256 (eva (K3 250))) (205 + (30 + i).toNat) 256 (fun _ => 0)) 251 x) % 8380417)) u_481)
          refine aw_iconst d_Mo_dsaVerify_524 ⟨by decide, by decide⟩ ?_
          refine aw_istore (lv' := [(5, vi 0), (4, vi i), (0, vr 175)]) d_Mo_dsaVerify_525 (by decide) rfl ?_
          have lp_527 : ∀ (n_ : Nat) (j : Int) (K4 : Nat → Int → Int) (M4 : Nat → Int → Int), (0 ≤ j ∧ j ≤ 4) → (FR (fun a => a = 205 + (30 + i).toNat ∨ a = 252) (rowTo (rowTo (rowTo K3 250 256 (eva (K3 250))) (205 + (30 + i).toNat) 256 (fun _ => 0)) (205 + (30 + i).toNat) 256 (fun x => ((rowTo (rowTo K3 250 256 (eva (K3 250))) (205 + (30 + i).toNat) 256 (fun _ => 0)) (205 + (30 + i).toNat) x + (rowTo (rowTo K3 250 256 (eva (K3 250))) (205 + (30 + i).toNat) 256 (fun _ => 0)) 250 x * (rowTo (rowTo K3 250 256 (eva (K3 250))) (205 + (30 + i).toNat) 256 (fun _ => 0)) 251 x) % 8380417)) u_481 K4 M4) → (∀ x, 0 ≤ x → x < 256 → K4 (205 + (30 + i).toNat) x = (eva (K3 250) x * (vfB 0 (rgR I)) x + pS (sgA 0 (rpR I)) (fun j => fwd rt ((vfZ 0 (rgR I)) j)) (i * 4) x j.toNat) % 8380417) → (∀ m, 0 ≤ m → m < j → (wide (rpR I) m i).2.1 = 256) → (K4 175 4 = 0) → (K4 175 23 = 8 * (320 * i) + 10 * 256) → ((4 - j).toNat) = n_ → AW l G M_Mo_dsaVerify P 527 [(5, vi j), (4, vi i), (0, vr 175)] [] (sD h K4 M4) := by
            intro n_
            induction n_ using Nat.strongRecOn with
            | _ n_ ih_527 =>
            intro j K4 M4 hj F4 r4 okJ h44 b4 hm_527
            have z4 : ∀ a j, (a ≠ 205 + (30 + i).toNat ∧ a ≠ 252 ∧ a ≠ 250 ∧ a < 235) → a ≠ 175 → K4 a j = K2 a j := fun a x y z => by rw [F4.1 _ _ (by omega) (Or.inl z), rowTo_ne (by omega), rowTo_ne (by omega), rowTo_ne (by omega), F3.1 _ _ (by omega) (Or.inl z)]
            have pk4 : ∀ x, K4 179 x = I 179 x := fun x => (z4 179 x (by omega) (by decide)).trans (pk2 x)
            have D4 := (D3.fr F3b (by omega)).fr F4 (by omega)
            refine aw_iload d_Mo_dsaVerify_527 rfl ?_
            refine aw_aload_n d_Mo_dsaVerify_529 rfl rfl ?_
            refine ax_getIe (x := 4) d_Mo_dsaVerify_530 fd_Mo_226 (k_175 S) (Eq.trans (F4.1 175 32 (by omega) (Or.inr (by decide))) (Eq.trans (rowTo_ne (by omega)) (Eq.trans (rowTo_ne (by omega)) (Eq.trans (rowTo_ne (by omega)) (Eq.trans (F3.1 175 32 (by omega) (Or.inr (by decide))) (Eq.trans (F2.1 175 32 (by omega) (Or.inr (by decide))) (dr0_32 D))))))) ?_
            refine aw_icmp_ge (tgt := 601) d_Mo_dsaVerify_533 (by decide) (fun c_533 => ?_) (fun c_533 => ?_)
            · skip
              refine aw_aload_n d_Mo_dsaVerify_601 rfl rfl ?_
              refine aw_aload_n d_Mo_dsaVerify_602 rfl rfl ?_
              refine ax_getR (b := 204) d_Mo_dsaVerify_603 fd_Mo_76 (k_175 S) (r_175_28 S) ?_
              refine aw_bipush d_Mo_dsaVerify_606 ⟨by decide, by decide⟩ (by decide) ?_
              refine aw_iload d_Mo_dsaVerify_608 rfl ?_
              refine ax_iadd d_Mo_dsaVerify_610 ⟨(by omega), (by omega)⟩ ?_
              refine ax_aald (b := 205 + (30 + i).toNat) d_Mo_dsaVerify_611 ⟨by rw [(k_204 S)]; decide, by rw [(k_204 S)]; decide⟩ (by omega) (by rw [n_204 S]; omega) (g_204 S (by omega) (by omega)) ?_
              refine ax_Vr (st := []) (as := [vr (205 + (30 + i).toNat)]) (b := 175) d_Mo_dsaVerify_612 cs_Mo_dsaVerify_612 (k_175 S) (c_Mo_interpolate S ⟨kr_204 S (by omega), by omega, nr_204 S (by omega)⟩ (by omega) (fun x a b => by rw [r4 x a b]; show 0 ≤ _ % 8380417 ∧ _ % 8380417 < 8380417; exact ⟨Int.emod_nonneg _ (by decide), Int.emod_lt_of_pos _ (by decide)⟩) D4.2.2) rfl rfl rfl (fun u_612 q_612 => ?_)
              have l7 := q_612
              have w7 : eqQ ((rowTo K4 (205 + (30 + i).toNat) 256 (itp (K4 (205 + (30 + i).toNat)))) (205 + (30 + i).toNat)) ((vfW 0 (rpR I) (rgR I)) i) := fun x a b => by rw [rowTo_in a b]; show itp _ x = bck rt (fun c => (pS (sgA 0 (rpR I)) (fun j => fwd rt ((vfZ 0 (rgR I)) j)) (i * 4) c 4 % 8380417 - (vfB 0 (rgR I)) c * fwd rt (tpF (rpR I) i) c % 8380417) % 8380417) x; rw [bck_itp a b]; exact itp_cq (fun y hy => by rw [r4 y (by omega) (by omega), show j.toNat = 4 by omega]; exact vsum (ng y (by omega) (by omega)))
              show AW l G M_Mo_dsaVerify P 615 [(5, vi j), (4, vi i), (0, vr 175)] [] (sD h (rowTo K4 (205 + (30 + i).toNat) 256 (itp (K4 (205 + (30 + i).toNat)))) u_612)
              refine aw_ldcw (n := 8380416) d_Mo_dsaVerify_615 lc_Mo_279 ⟨by decide, by decide⟩ ?_
              refine aw_iconst d_Mo_dsaVerify_618 ⟨by decide, by decide⟩ ?_
              refine aw_aload_n d_Mo_dsaVerify_619 rfl rfl ?_
              refine ax_getIe (x := 95232) d_Mo_dsaVerify_620 fd_Mo_242 (k_175 S) (Eq.trans (rowTo_ne (by omega)) (Eq.trans (F4.1 175 36 (by omega) (Or.inr (by decide))) (Eq.trans (rowTo_ne (by omega)) (Eq.trans (rowTo_ne (by omega)) (Eq.trans (rowTo_ne (by omega)) (Eq.trans (F3.1 175 36 (by omega) (Or.inr (by decide))) (Eq.trans (F2.1 175 36 (by omega) (Or.inr (by decide))) (dr0_36 D)))))))) ?_
              refine ax_imul d_Mo_dsaVerify_623 ⟨(by omega), (by omega)⟩ ?_
              refine ax_ti (x := 190464) (by decide) ?_
              refine ax_idiv d_Mo_dsaVerify_624 ⟨(by omega), (by omega)⟩ (by omega) ?_
              refine ax_ti (x := 44) (by decide) ?_
              refine aw_istore (lv' := [(5, vi 44), (4, vi i), (0, vr 175)]) d_Mo_dsaVerify_625 (by decide) rfl ?_
              refine aw_iconst d_Mo_dsaVerify_627 ⟨by decide, by decide⟩ ?_
              refine aw_istore (lv' := [(6, vi 0), (5, vi 44), (4, vi i), (0, vr 175)]) d_Mo_dsaVerify_628 (by decide) rfl ?_
              have lp_630 : ∀ (n_ : Nat) (c : Int) (K7 : Nat → Int → Int), (0 ≤ c ∧ c ≤ 256) → (FR (fun a => a = 205 + (30 + i).toNat) (rowTo K4 (205 + (30 + i).toNat) 256 (itp (K4 (205 + (30 + i).toNat)))) u_612 K7 u_612) → (∀ a x, a ≠ 205 + (30 + i).toNat → K7 a x = (rowTo K4 (205 + (30 + i).toNat) 256 (itp (K4 (205 + (30 + i).toNat)))) a x) → ((∀ x, 0 ≤ x → x < c → K7 (205 + (30 + i).toNat) x = hvV (rgR I) 2336 80 95232 44 i x ((vfW 0 (rpR I) (rgR I)) i x)) ∧ ∀ x, c ≤ x → x < 256 → K7 (205 + (30 + i).toNat) x = (vfW 0 (rpR I) (rgR I)) i x) → ((256 - c).toNat) = n_ → AW l G M_Mo_dsaVerify P 630 [(6, vi c), (5, vi 44), (4, vi i), (0, vr 175)] [] (sD h K7 u_612) := by
                intro n_
                induction n_ using Nat.strongRecOn with
                | _ n_ ih_630 =>
                intro c K7 hc7 F7 F7f r7 hm_630
                have gp7 : K7 175 36 = 95232 := by rw [F7f 175 36 (by omega), rowTo_ne (by omega)]; exact dr0_36 D4
                have tb7 : c < 256 → (K7 (254 + i.toNat) c = 0 ∨ K7 (254 + i.toNat) c = 1) ∧ (K7 (254 + i.toNat) c = 1 ↔ hin (rgR I) 2336 80 i c) := fun v => by rw [show K7 (254 + i.toNat) c = K (254 + i.toNat) c from by rw [F7f _ _ (by omega), rowTo_ne (by omega), F4.1 _ _ (by omega) (Or.inl (by omega)), rowTo_ne (by omega), rowTo_ne (by omega), rowTo_ne (by omega), F3.1 _ _ (by omega) (Or.inl (by omega)), F2.1 _ _ (by omega) (Or.inl (by omega))]]; exact tb i hi.1 (by omega) c hc7.1 v
                refine aw_iload d_Mo_dsaVerify_630 rfl ?_
                refine aw_sipush d_Mo_dsaVerify_632 ⟨by decide, by decide⟩ (by decide) ?_
                refine aw_icmp_ge (tgt := 726) d_Mo_dsaVerify_635 (by decide) (fun c_635 => ?_) (fun c_635 => ?_)
                · skip
                  refine ax_iinc (lv' := [(4, vi (i + 1)), (6, vi c), (5, vi 44), (0, vr 175)]) d_Mo_dsaVerify_726 rfl (by decide) ⟨(by omega), (by omega)⟩ rfl ?_
                  refine aw_goto (tgt := 405) d_Mo_dsaVerify_729 (by decide) ?_
                  refine aw_sub (lv' := [(4, vi (i + 1)), (0, vr 175)]) (by simp) ?_
                  exact ih_405 _ (by omega) (i + 1) K7 u_612 (by omega) (((((F2.tr (F3.mono (r := fun a => a = 250 ∨ a = 252 ∨ 235 ≤ a ∧ a ≤ 242) (by intro a x; omega)) (fun a x => ⟨x, x⟩)).tr F3b (fun a x => ⟨x, x⟩)).tr (F4.mono (r := fun a => a = 250 ∨ a = 252 ∨ 235 ≤ a ∧ a ≤ 242) (by intro a x; omega)) (fun a x => ⟨x, x⟩)).tr (FR.row (p := fun a => a = 250 ∨ a = 252 ∨ 235 ≤ a ∧ a ≤ 242) (by omega) l7) (fun a x => ⟨x, x⟩)).tr (F7.mono (r := fun a => a = 250 ∨ a = 252 ∨ 235 ≤ a ∧ a ≤ 242) (by intro a x; omega)) (fun a x => ⟨x, x⟩)) (by rw [F7f 175 23 (by omega), rowTo_ne (by omega), b4]; omega) (fun m a b x u v => by by_cases z : m = i; exact (by rw [z]; exact r7.1 x u (by omega)); exact (by rw [F7f _ _ (by omega), rowTo_ne (by omega), F4.1 _ _ (by omega) (Or.inl (by omega)), rowTo_ne (by omega), rowTo_ne (by omega), rowTo_ne (by omega), F3.1 _ _ (by omega) (Or.inl (by omega))]; exact dn m a (by omega) x u v)) (fun m a b => by by_cases v : m < 4 * i; exact okA m a v; exact (by have w_ := okJ (m - 4 * i) (by omega) (by omega); rw [show m % 4 = m - 4 * i by omega, show m / 4 = i by omega]; exact w_)) (by rw [F7f 175 4 (by omega), rowTo_ne (by omega)]; exact h44) rfl
                · skip
                  have wr := vfW_in (s := 0) (pk := (rpR I)) (g := (rgR I)) (m := i) c hc7.1 (by omega)
                  have hb_ := dHi44 wr
                  refine aw_aload_n d_Mo_dsaVerify_638 rfl rfl ?_
                  refine ax_getR (b := 204) d_Mo_dsaVerify_639 fd_Mo_76 (k_175 S) (r_175_28 S) ?_
                  refine aw_bipush d_Mo_dsaVerify_642 ⟨by decide, by decide⟩ (by decide) ?_
                  refine aw_iload d_Mo_dsaVerify_644 rfl ?_
                  refine ax_iadd d_Mo_dsaVerify_646 ⟨(by omega), (by omega)⟩ ?_
                  refine ax_aald (b := 205 + (30 + i).toNat) d_Mo_dsaVerify_647 ⟨by rw [(k_204 S)]; decide, by rw [(k_204 S)]; decide⟩ (by omega) (by rw [n_204 S]; omega) (g_204 S (by omega) (by omega)) ?_
                  refine aw_iload d_Mo_dsaVerify_648 rfl ?_
                  refine ax_ialde (x := (vfW 0 (rpR I) (rgR I)) i c) d_Mo_dsaVerify_650 (kr_204 S (by omega)) (by omega) (by rw [nr_204 S (by omega)]; omega) (r7.2 c (Int.le_refl _) (by omega)) ?_
                  refine aw_istore (lv' := [(7, vi ((vfW 0 (rpR I) (rgR I)) i c)), (6, vi c), (5, vi 44), (4, vi i), (0, vr 175)]) d_Mo_dsaVerify_651 (by decide) rfl ?_
                  refine aw_aload_n d_Mo_dsaVerify_653 rfl rfl ?_
                  refine aw_iload d_Mo_dsaVerify_654 rfl ?_
                  refine ax_V (st := []) (as := [vi ((vfW 0 (rpR I) (rgR I)) i c)]) (b := 175) (v := some (vi (dHigh 95232 ((vfW 0 (rpR I) (rgR I)) i c)))) (h' := sD h K7 u_612) d_Mo_dsaVerify_656 cs_Mo_dsaVerify_656 (k_175 S) (by have z := c_Mo_high (l := l) (G := G) (L := u_612) (I := K7) (r := (vfW 0 (rpR I) (rgR I)) i c) S (by rw [gp7]; decide) wr; rw [gp7] at z; exact z) rfl rfl rfl ?_
                  show AW l G M_Mo_dsaVerify P 659 [(7, vi ((vfW 0 (rpR I) (rgR I)) i c)), (6, vi c), (5, vi 44), (4, vi i), (0, vr 175)] [vi (dHigh 95232 ((vfW 0 (rpR I) (rgR I)) i c))] (sD h K7 u_612)
                  refine aw_istore (lv' := [(8, vi (dHigh 95232 ((vfW 0 (rpR I) (rgR I)) i c))), (7, vi ((vfW 0 (rpR I) (rgR I)) i c)), (6, vi c), (5, vi 44), (4, vi i), (0, vr 175)]) d_Mo_dsaVerify_659 (by decide) rfl ?_
                  refine aw_aload_n d_Mo_dsaVerify_661 rfl rfl ?_
                  refine ax_getR (b := 253) d_Mo_dsaVerify_662 fd_Mo_81 (k_175 S) (r_175_29 S) ?_
                  refine aw_iload d_Mo_dsaVerify_665 rfl ?_
                  refine ax_aald (b := 254 + i.toNat) d_Mo_dsaVerify_667 ⟨by rw [(k_253 S)]; decide, by rw [(k_253 S)]; decide⟩ (by omega) (by rw [n_253 S]; omega) (g_253 S (by omega) (by omega)) ?_
                  refine aw_iload d_Mo_dsaVerify_668 rfl ?_
                  refine ax_zalde (x := K7 (254 + i.toNat) c) d_Mo_dsaVerify_670 (kr_253 S (by omega)) (by omega) (by rw [nr_253 S (by omega)]; omega) (rfl) ?_
                  refine aw_if_eq (tgt := 705) d_Mo_dsaVerify_671 (by decide) (fun c_671 => ?_) (fun c_671 => ?_)
                  · skip
                    refine aw_aload_n d_Mo_dsaVerify_705 rfl rfl ?_
                    refine ax_getR (b := 204) d_Mo_dsaVerify_706 fd_Mo_76 (k_175 S) (r_175_28 S) ?_
                    refine aw_bipush d_Mo_dsaVerify_709 ⟨by decide, by decide⟩ (by decide) ?_
                    refine aw_iload d_Mo_dsaVerify_711 rfl ?_
                    refine ax_iadd d_Mo_dsaVerify_713 ⟨(by omega), (by omega)⟩ ?_
                    refine ax_aald (b := 205 + (30 + i).toNat) d_Mo_dsaVerify_714 ⟨by rw [(k_204 S)]; decide, by rw [(k_204 S)]; decide⟩ (by omega) (by rw [n_204 S]; omega) (g_204 S (by omega) (by omega)) ?_
                    refine aw_iload d_Mo_dsaVerify_715 rfl ?_
                    refine aw_iload d_Mo_dsaVerify_717 rfl ?_
                    refine ax_iast d_Mo_dsaVerify_719 (kr_204 S (by omega)) (by omega) (by omega) (by rw [nr_204 S (by omega)]; omega) ?_
                    refine ax_iinc (lv' := [(6, vi (c + 1)), (8, vi (dHigh 95232 ((vfW 0 (rpR I) (rgR I)) i c))), (7, vi ((vfW 0 (rpR I) (rgR I)) i c)), (5, vi 44), (4, vi i), (0, vr 175)]) d_Mo_dsaVerify_720 rfl (by decide) ⟨(by omega), (by omega)⟩ rfl ?_
                    refine aw_goto (tgt := 630) d_Mo_dsaVerify_723 (by decide) ?_
                    refine aw_sub (lv' := [(6, vi (c + 1)), (5, vi 44), (4, vi i), (0, vr 175)]) (by simp) ?_
                    exact ih_630 _ (by omega) (c + 1) (a_up K7 (205 + (30 + i).toNat) c (dHigh 95232 ((vfW 0 (rpR I) (rgR I)) i c))) (by omega) (F7.tr (FR.up (p := fun a => a = 205 + (30 + i).toNat) rfl) (fun a x => ⟨x, x⟩)) (fun a x y => (a_up_ne (Or.inl y)).trans (F7f a x y)) (⟨fun x a b => by by_cases z : x = c; exact (by rw [z, a_up_at]; exact (hvV_n (fun z => by have y := (tb7 (by omega)).2.2 z; omega)).symm); exact (by rw [a_up_ne (Or.inr z)]; exact r7.1 x a (by omega)), fun x a b => by rw [a_up_ne (Or.inr (by omega))]; exact r7.2 x (by omega) b⟩) rfl
                  · skip
                    refine aw_aload_n d_Mo_dsaVerify_674 rfl rfl ?_
                    refine aw_iload d_Mo_dsaVerify_675 rfl ?_
                    refine ax_V (st := []) (as := [vi ((vfW 0 (rpR I) (rgR I)) i c)]) (b := 175) (v := some (vi (dLow 95232 ((vfW 0 (rpR I) (rgR I)) i c)))) (h' := sD h K7 u_612) d_Mo_dsaVerify_677 cs_Mo_dsaVerify_677 (k_175 S) (by have z := c_Mo_low (l := l) (G := G) (L := u_612) (I := K7) (r := (vfW 0 (rpR I) (rgR I)) i c) S (by rw [gp7]; decide) wr; rw [gp7] at z; exact z) rfl rfl rfl ?_
                    show AW l G M_Mo_dsaVerify P 680 [(8, vi (dHigh 95232 ((vfW 0 (rpR I) (rgR I)) i c))), (7, vi ((vfW 0 (rpR I) (rgR I)) i c)), (6, vi c), (5, vi 44), (4, vi i), (0, vr 175)] [vi (dLow 95232 ((vfW 0 (rpR I) (rgR I)) i c))] (sD h K7 u_612)
                    refine aw_if_le (tgt := 693) d_Mo_dsaVerify_680 (by decide) (fun c_680 => ?_) (fun c_680 => ?_)
                    · skip
                      refine aw_iload d_Mo_dsaVerify_693 rfl ?_
                      refine aw_iload d_Mo_dsaVerify_695 rfl ?_
                      refine ax_iadd d_Mo_dsaVerify_697 ⟨(by omega), (by omega)⟩ ?_
                      refine aw_iconst d_Mo_dsaVerify_698 ⟨by decide, by decide⟩ ?_
                      refine ax_isub d_Mo_dsaVerify_699 ⟨(by omega), (by omega)⟩ ?_
                      refine aw_iload d_Mo_dsaVerify_700 rfl ?_
                      refine ax_irem d_Mo_dsaVerify_702 (by omega) (by omega) ?_
                      refine aw_istore (lv' := [(8, vi ((((dHigh 95232 ((vfW 0 (rpR I) (rgR I)) i c)) + 44) - 1) % 44)), (7, vi ((vfW 0 (rpR I) (rgR I)) i c)), (6, vi c), (5, vi 44), (4, vi i), (0, vr 175)]) d_Mo_dsaVerify_703 (by decide) rfl ?_
                      refine aw_aload_n d_Mo_dsaVerify_705 rfl rfl ?_
                      refine ax_getR (b := 204) d_Mo_dsaVerify_706 fd_Mo_76 (k_175 S) (r_175_28 S) ?_
                      refine aw_bipush d_Mo_dsaVerify_709 ⟨by decide, by decide⟩ (by decide) ?_
                      refine aw_iload d_Mo_dsaVerify_711 rfl ?_
                      refine ax_iadd d_Mo_dsaVerify_713 ⟨(by omega), (by omega)⟩ ?_
                      refine ax_aald (b := 205 + (30 + i).toNat) d_Mo_dsaVerify_714 ⟨by rw [(k_204 S)]; decide, by rw [(k_204 S)]; decide⟩ (by omega) (by rw [n_204 S]; omega) (g_204 S (by omega) (by omega)) ?_
                      refine aw_iload d_Mo_dsaVerify_715 rfl ?_
                      refine aw_iload d_Mo_dsaVerify_717 rfl ?_
                      refine ax_iast d_Mo_dsaVerify_719 (kr_204 S (by omega)) (by omega) (by omega) (by rw [nr_204 S (by omega)]; omega) ?_
                      refine ax_iinc (lv' := [(6, vi (c + 1)), (8, vi ((((dHigh 95232 ((vfW 0 (rpR I) (rgR I)) i c)) + 44) - 1) % 44)), (7, vi ((vfW 0 (rpR I) (rgR I)) i c)), (5, vi 44), (4, vi i), (0, vr 175)]) d_Mo_dsaVerify_720 rfl (by decide) ⟨(by omega), (by omega)⟩ rfl ?_
                      refine aw_goto (tgt := 630) d_Mo_dsaVerify_723 (by decide) ?_
                      refine aw_sub (lv' := [(6, vi (c + 1)), (5, vi 44), (4, vi i), (0, vr 175)]) (by simp) ?_
                      exact ih_630 _ (by omega) (c + 1) (a_up K7 (205 + (30 + i).toNat) c ((((dHigh 95232 ((vfW 0 (rpR I) (rgR I)) i c)) + 44) - 1) % 44)) (by omega) (F7.tr (FR.up (p := fun a => a = 205 + (30 + i).toNat) rfl) (fun a x => ⟨x, x⟩)) (fun a x y => (a_up_ne (Or.inl y)).trans (F7f a x y)) (⟨fun x a b => by by_cases z : x = c; exact (by rw [z, a_up_at]; rw [hvV_y ((tb7 (by omega)).2.1 (by have y := (tb7 (by omega)).1; omega)), hh_n (by omega)]); exact (by rw [a_up_ne (Or.inr z)]; exact r7.1 x a (by omega)), fun x a b => by rw [a_up_ne (Or.inr (by omega))]; exact r7.2 x (by omega) b⟩) rfl
                    · skip
                      refine aw_iload d_Mo_dsaVerify_683 rfl ?_
                      refine aw_iconst d_Mo_dsaVerify_685 ⟨by decide, by decide⟩ ?_
                      refine ax_iadd d_Mo_dsaVerify_686 ⟨(by omega), (by omega)⟩ ?_
                      refine aw_iload d_Mo_dsaVerify_687 rfl ?_
                      refine ax_irem d_Mo_dsaVerify_689 (by omega) (by omega) ?_
                      refine aw_goto (tgt := 703) d_Mo_dsaVerify_690 (by decide) ?_
                      refine aw_istore (lv' := [(8, vi (((dHigh 95232 ((vfW 0 (rpR I) (rgR I)) i c)) + 1) % 44)), (7, vi ((vfW 0 (rpR I) (rgR I)) i c)), (6, vi c), (5, vi 44), (4, vi i), (0, vr 175)]) d_Mo_dsaVerify_703 (by decide) rfl ?_
                      refine aw_aload_n d_Mo_dsaVerify_705 rfl rfl ?_
                      refine ax_getR (b := 204) d_Mo_dsaVerify_706 fd_Mo_76 (k_175 S) (r_175_28 S) ?_
                      refine aw_bipush d_Mo_dsaVerify_709 ⟨by decide, by decide⟩ (by decide) ?_
                      refine aw_iload d_Mo_dsaVerify_711 rfl ?_
                      refine ax_iadd d_Mo_dsaVerify_713 ⟨(by omega), (by omega)⟩ ?_
                      refine ax_aald (b := 205 + (30 + i).toNat) d_Mo_dsaVerify_714 ⟨by rw [(k_204 S)]; decide, by rw [(k_204 S)]; decide⟩ (by omega) (by rw [n_204 S]; omega) (g_204 S (by omega) (by omega)) ?_
                      refine aw_iload d_Mo_dsaVerify_715 rfl ?_
                      refine aw_iload d_Mo_dsaVerify_717 rfl ?_
                      refine ax_iast d_Mo_dsaVerify_719 (kr_204 S (by omega)) (by omega) (by omega) (by rw [nr_204 S (by omega)]; omega) ?_
                      refine ax_iinc (lv' := [(6, vi (c + 1)), (8, vi (((dHigh 95232 ((vfW 0 (rpR I) (rgR I)) i c)) + 1) % 44)), (7, vi ((vfW 0 (rpR I) (rgR I)) i c)), (5, vi 44), (4, vi i), (0, vr 175)]) d_Mo_dsaVerify_720 rfl (by decide) ⟨(by omega), (by omega)⟩ rfl ?_
                      refine aw_goto (tgt := 630) d_Mo_dsaVerify_723 (by decide) ?_
                      refine aw_sub (lv' := [(6, vi (c + 1)), (5, vi 44), (4, vi i), (0, vr 175)]) (by simp) ?_
                      exact ih_630 _ (by omega) (c + 1) (a_up K7 (205 + (30 + i).toNat) c (((dHigh 95232 ((vfW 0 (rpR I) (rgR I)) i c)) + 1) % 44)) (by omega) (F7.tr (FR.up (p := fun a => a = 205 + (30 + i).toNat) rfl) (fun a x => ⟨x, x⟩)) (fun a x y => (a_up_ne (Or.inl y)).trans (F7f a x y)) (⟨fun x a b => by by_cases z : x = c; exact (by rw [z, a_up_at]; rw [hvV_y ((tb7 (by omega)).2.1 (by have y := (tb7 (by omega)).1; omega)), hh_y (by omega)]); exact (by rw [a_up_ne (Or.inr z)]; exact r7.1 x a (by omega)), fun x a b => by rw [a_up_ne (Or.inr (by omega))]; exact r7.2 x (by omega) b⟩) rfl
              skip
              exact lp_630 _ 0 (rowTo K4 (205 + (30 + i).toNat) 256 (itp (K4 (205 + (30 + i).toNat)))) (by omega) (FR.rfl') (fun _ _ _ => rfl) (⟨fun x a b => by omega, fun x a b => w7 x (by omega) b⟩) rfl
            · skip
              refine aw_aload_n d_Mo_dsaVerify_536 rfl rfl ?_
              refine aw_aload_n d_Mo_dsaVerify_537 rfl rfl ?_
              refine aw_aload_n d_Mo_dsaVerify_538 rfl rfl ?_
              refine ax_getR (b := 204) d_Mo_dsaVerify_539 fd_Mo_76 (k_175 S) (r_175_28 S) ?_
              refine aw_bipush d_Mo_dsaVerify_542 ⟨by decide, by decide⟩ (by decide) ?_
              refine ax_aald (b := 252) d_Mo_dsaVerify_544 ⟨by rw [(k_204 S)]; decide, by rw [(k_204 S)]; decide⟩ (by omega) (by rw [n_204 S]; omega) (g_204 S (j := 47) (by decide) (by decide)) ?_
              refine aw_aload_n d_Mo_dsaVerify_545 rfl rfl ?_
              refine ax_getR (b := 177) d_Mo_dsaVerify_546 fd_Mo_15 (k_175 S) (r_175_1 S) ?_
              refine aw_iconst d_Mo_dsaVerify_549 ⟨by decide, by decide⟩ ?_
              refine ax_aald (b := 179) d_Mo_dsaVerify_550 ⟨by rw [(k_177 S)]; decide, by rw [(k_177 S)]; decide⟩ (by omega) (by rw [n_177 S]; omega) (g_177 S (j := 1) (by decide) (by decide)) ?_
              refine aw_iconst d_Mo_dsaVerify_551 ⟨by decide, by decide⟩ ?_
              refine aw_iload d_Mo_dsaVerify_552 rfl ?_
              refine aw_iload d_Mo_dsaVerify_554 rfl ?_
              refine ax_Vr (st := [vr 175]) (as := [vr 252, vr 179, vi 0, vi j, vi i]) (b := 175) d_Mo_dsaVerify_556 cs_Mo_dsaVerify_556 (k_175 S) (by have z := c_Mo_sampleWide (l := l) (G := G) (I := K4) (L := M4) (f := 252) (r := 179) (pa := 0) (x := j) (y := i) S D4.1 ⟨k_252 S, by decide, n_252 S⟩ (by decide) ⟨k_179 S, by decide, by decide⟩ (by rw [n_179 S]; decide); rw [wide_pk pk4 b2 (by decide)] at z; exact z) rfl rfl rfl (fun u_556 q_556 => ?_)
              obtain ⟨I6, L6⟩ := u_556
              obtain ⟨f6, r6⟩ := q_556
              dsimp only at f6 r6 ⊢
              by_cases ok_556 : (wide (rpR I) j i).2.1 = 256
              · skip
                rw [if_pos ok_556]
                show AW l G M_Mo_dsaVerify P 559 [(5, vi j), (4, vi i), (0, vr 175)] [vi 1, vr 175] (sD h I6 L6)
                refine aw_iconst d_Mo_dsaVerify_559 ⟨by decide, by decide⟩ ?_
                refine ax_V (st := []) (as := [vi 1, vi 4]) (b := 175) (v := some (vi 1)) (h' := sD h (a_up I6 175 4 0) L6) d_Mo_dsaVerify_560 cs_Mo_dsaVerify_560 (k_175 S) (c_good1 S rfl) rfl rfl rfl ?_
                show AW l G M_Mo_dsaVerify P 563 [(5, vi j), (4, vi i), (0, vr 175)] [vi 1] (sD h (a_up I6 175 4 0) L6)
                refine aw_if_ne (tgt := 568) d_Mo_dsaVerify_563 (by decide) (fun c_563 => ?_) (fun c_563 => False.elim (by omega))
                refine aw_aload_n d_Mo_dsaVerify_568 rfl rfl ?_
                refine ax_getR (b := 204) d_Mo_dsaVerify_569 fd_Mo_76 (k_175 S) (r_175_28 S) ?_
                refine aw_bipush d_Mo_dsaVerify_572 ⟨by decide, by decide⟩ (by decide) ?_
                refine aw_iload d_Mo_dsaVerify_574 rfl ?_
                refine ax_iadd d_Mo_dsaVerify_576 ⟨(by omega), (by omega)⟩ ?_
                refine ax_aald (b := 205 + (30 + i).toNat) d_Mo_dsaVerify_577 ⟨by rw [(k_204 S)]; decide, by rw [(k_204 S)]; decide⟩ (by omega) (by rw [n_204 S]; omega) (g_204 S (by omega) (by omega)) ?_
                refine aw_aload_n d_Mo_dsaVerify_578 rfl rfl ?_
                refine ax_getR (b := 204) d_Mo_dsaVerify_579 fd_Mo_76 (k_175 S) (r_175_28 S) ?_
                refine aw_bipush d_Mo_dsaVerify_582 ⟨by decide, by decide⟩ (by decide) ?_
                refine ax_aald (b := 252) d_Mo_dsaVerify_584 ⟨by rw [(k_204 S)]; decide, by rw [(k_204 S)]; decide⟩ (by omega) (by rw [n_204 S]; omega) (g_204 S (j := 47) (by decide) (by decide)) ?_
                refine aw_aload_n d_Mo_dsaVerify_585 rfl rfl ?_
                refine ax_getR (b := 204) d_Mo_dsaVerify_586 fd_Mo_76 (k_175 S) (r_175_28 S) ?_
                refine aw_iload d_Mo_dsaVerify_589 rfl ?_
                refine ax_aald (b := 205 + j.toNat) d_Mo_dsaVerify_591 ⟨by rw [(k_204 S)]; decide, by rw [(k_204 S)]; decide⟩ (by omega) (by rw [n_204 S]; omega) (g_204 S (by omega) (by omega)) ?_
                refine ax_S (st := []) (as := [vr (205 + (30 + i).toNat), vr 252, vr (205 + j.toNat)]) (v := none) (h' := sD h (rowTo (a_up I6 175 4 0) (205 + (30 + i).toNat) 256 (fun x => ((a_up I6 175 4 0) (205 + (30 + i).toNat) x + (a_up I6 175 4 0) 252 x * (a_up I6 175 4 0) (205 + j.toNat) x) % 8380417)) L6) d_Mo_dsaVerify_592 cs_Mo_dsaVerify_592 (c_Mo_addProducts ⟨kr_204 S (by omega), by omega, nr_204 S (by omega)⟩ ⟨k_252 S, by decide, n_252 S⟩ ⟨kr_204 S (by omega), by omega, nr_204 S (by omega)⟩ (fun x a b => by rw [a_up_ne (Or.inl (by omega)), f6.1 _ x (Or.inl (by omega)) (by omega), r4 x a b]; show 0 ≤ _ % 8380417 ∧ _ % 8380417 < 8380417; exact ⟨Int.emod_nonneg _ (by decide), Int.emod_lt_of_pos _ (by decide)⟩) (fun x a b => by rw [a_up_ne (Or.inl (by decide)), r6 x a (by rw [ok_556]; exact b)]; exact wide_b.2 x) (fun x a b => by rw [a_up_ne (Or.inl (by omega)), f6.1 _ x (Or.inl (by omega)) (by omega), z4 _ x (by omega) (by omega), F2.1 _ x (by omega) (Or.inl (by omega)), hZ j hj.1 (by omega) x a b]; exact fwd_in vfZ_in x a b)) rfl rfl rfl ?_
                show AW l G M_Mo_dsaVerify P 595 [(5, vi j), (4, vi i), (0, vr 175)] [] (sD h (rowTo (a_up I6 175 4 0) (205 + (30 + i).toNat) 256 (fun x => ((a_up I6 175 4 0) (205 + (30 + i).toNat) x + (a_up I6 175 4 0) 252 x * (a_up I6 175 4 0) (205 + j.toNat) x) % 8380417)) L6)
                refine ax_iinc (lv' := [(5, vi (j + 1)), (4, vi i), (0, vr 175)]) d_Mo_dsaVerify_595 rfl (by decide) ⟨(by omega), (by omega)⟩ rfl ?_
                refine aw_goto (tgt := 527) d_Mo_dsaVerify_598 (by decide) ?_
                exact ih_527 _ (by omega) (j + 1) (rowTo (a_up I6 175 4 0) (205 + (30 + i).toNat) 256 (fun x => ((a_up I6 175 4 0) (205 + (30 + i).toNat) x + (a_up I6 175 4 0) 252 x * (a_up I6 175 4 0) (205 + j.toNat) x) % 8380417)) L6 (by omega) (((F4.tr (FR.smp (p := fun a => a = 205 + (30 + i).toNat ∨ a = 252) f6 (by omega)) (fun a x => ⟨x, x⟩)).tr (FR.c0 (p := fun a => a = 205 + (30 + i).toNat ∨ a = 252)) (fun a x => ⟨x, x⟩)).tr (FR.row (p := fun a => a = 205 + (30 + i).toNat ∨ a = 252) (by omega) (fun _ _ _ => rfl)) (fun a x => ⟨x, x⟩)) (fun x a b => by rw [rowTo_in a b, a_up_ne (Or.inl (by omega)), a_up_ne (Or.inl (by decide)), a_up_ne (Or.inl (by omega)), f6.1 _ x (Or.inl (by omega)) (by omega), r4 x a b, r6 x a (by rw [ok_556]; exact b), f6.1 _ x (Or.inl (by omega)) (by omega), z4 _ x (by omega) (by omega), F2.1 _ x (by omega) (Or.inl (by omega)), hZ j hj.1 (by omega) x a b, show (j + 1).toNat = j.toNat + 1 by omega]; show _ = (_ + (pS (sgA 0 (rpR I)) (fun j => fwd rt ((vfZ 0 (rgR I)) j)) (i * 4) x j.toNat + (sgA 0 (rpR I)) (i * 4 + (j.toNat : Int)) x * (fwd rt ((vfZ 0 (rgR I)) (j.toNat : Int)) x))) % 8380417; rw [Int.toNat_of_nonneg hj.1, show (sgA 0 (rpR I)) (i * 4 + j) x = (wide (rpR I) j i).2.2 x from by unfold sgA; rw [show pL 0 = 4 from rfl, show (i * 4 + j) % 4 = j by omega, show (i * 4 + j) / 4 = i by omega], ← Int.add_assoc]; exact Int.emod_add_emod _ _ _) (fun m a b => by by_cases z : m = j; exact (by rw [z]; exact ok_556); exact okJ m a (by omega)) (by rw [rowTo_ne (by omega), a_up_at]) (by rw [rowTo_ne (by omega), a_up_ne (Or.inr (by decide)), f6.1 175 23 (Or.inr (by decide)) (by decide)]; exact b4) rfl
              · skip
                rw [if_neg ok_556]
                show AW l G M_Mo_dsaVerify P 559 [(5, vi j), (4, vi i), (0, vr 175)] [vi 0, vr 175] (sD h I6 L6)
                refine aw_iconst d_Mo_dsaVerify_559 ⟨by decide, by decide⟩ ?_
                refine ax_V (st := []) (as := [vi 0, vi 4]) (b := 175) (v := some (vi 0)) (h' := sD h (a_up I6 175 4 4) L6) d_Mo_dsaVerify_560 cs_Mo_dsaVerify_560 (k_175 S) (c_good0 S rfl) rfl rfl rfl ?_
                show AW l G M_Mo_dsaVerify P 563 [(5, vi j), (4, vi i), (0, vr 175)] [vi 0] (sD h (a_up I6 175 4 4) L6)
                refine aw_if_ne (tgt := 568) d_Mo_dsaVerify_563 (by decide) (fun c_563 => False.elim (by omega)) (fun c_563 => ?_)
                refine aw_iconst d_Mo_dsaVerify_566 ⟨by decide, by decide⟩ ?_
                exact aw_zret d_Mo_dsaVerify_567 rfl ⟨by decide, by decide⟩ (hP _ _ (rsNo 0 4 (c4_4 ⟨by decide, by decide⟩ b1 b2 (fun z => ok_556 (by have y := (z pre).2 (i * 4 + j) (by omega) (by show i * 4 + j < 16; omega); rw [show pL 0 = 4 from rfl, show (i * 4 + j) % 4 = j by omega, show (i * 4 + j) / 4 = i by omega] at y; exact y))) (by decide) a_up_at (fR0.fr (fR0.fr (fR0.fr (fR0.fr (fR0.fr (fR0.fr R0 F2 (r := qN) (by intro a x y; exact ⟨fun z => z, by omega⟩) (by omega)) F3 (r := qN) (by intro a x y; exact ⟨fun z => z, by omega⟩) (by decide)) F3b (r := qN) (by intro a x y; exact ⟨fun z => z, by omega⟩) (by omega)) F4 (r := qN) (by intro a x y; exact ⟨fun z => z, by omega⟩) (by omega)) (FR.smp (p := fun a => a = 252) f6 rfl) (r := qN) (by intro a x y; exact ⟨fun z => z, by omega⟩) (by decide)) (FR.c0 (p := fun _ => False)) (by intro a x y; exact ⟨fun z => z, fun z => z⟩) (fun z => z))))
          skip
          exact lp_527 _ 0 (rowTo (rowTo (rowTo K3 250 256 (eva (K3 250))) (205 + (30 + i).toNat) 256 (fun _ => 0)) (205 + (30 + i).toNat) 256 (fun x => ((rowTo (rowTo K3 250 256 (eva (K3 250))) (205 + (30 + i).toNat) 256 (fun _ => 0)) (205 + (30 + i).toNat) x + (rowTo (rowTo K3 250 256 (eva (K3 250))) (205 + (30 + i).toNat) 256 (fun _ => 0)) 250 x * (rowTo (rowTo K3 250 256 (eva (K3 250))) (205 + (30 + i).toNat) 256 (fun _ => 0)) 251 x) % 8380417)) u_481 (by omega) (FR.rfl') (fun x a b => by rw [rowTo_in a b, rowTo_in a b, rowTo_ne (by omega), rowTo_in a b, rowTo_ne (by omega), rowTo_ne (by decide), F3.1 251 x (by decide) (Or.inl (by decide)), F2.1 251 x (by omega) (Or.inl (by decide)), hB x a b]; show (0 + _) % _ = (_ + 0) % _; rw [Int.zero_add, Int.add_zero]) (fun m a b => by omega) (by rw [rowTo_ne (by omega), rowTo_ne (by omega), rowTo_ne (by omega)]; exact h43) (by rw [rowTo_ne (by omega), rowTo_ne (by omega), rowTo_ne (by omega), b3]; omega) rfl
        · skip
          refine aw_aload_n d_Mo_dsaVerify_425 rfl rfl ?_
          refine ax_getR (b := 204) d_Mo_dsaVerify_426 fd_Mo_76 (k_175 S) (r_175_28 S) ?_
          refine aw_bipush d_Mo_dsaVerify_429 ⟨by decide, by decide⟩ (by decide) ?_
          refine ax_aald (b := 250) d_Mo_dsaVerify_431 ⟨by rw [(k_204 S)]; decide, by rw [(k_204 S)]; decide⟩ (by omega) (by rw [n_204 S]; omega) (g_204 S (j := 45) (by decide) (by decide)) ?_
          refine aw_iload d_Mo_dsaVerify_432 rfl ?_
          have tp_ := tpF_in (g := (rpR I)) (i := i) c hc.1 (by omega)
          have tp_ : 0 ≤ gR (fun k => rpR I (32 + 320 * i + k)) 10 c * 8192 ∧ gR (fun k => rpR I (32 + 320 * i + k)) 10 c * 8192 < 8380417 := tp_
          refine aw_ldc2 (n := 8380417) d_Mo_dsaVerify_434 lc_Mo_256 ⟨by decide, by decide⟩ ?_
          refine aw_aload_n d_Mo_dsaVerify_437 rfl rfl ?_
          refine aw_aload_n d_Mo_dsaVerify_438 rfl rfl ?_
          refine ax_getR (b := 177) d_Mo_dsaVerify_439 fd_Mo_15 (k_175 S) (r_175_1 S) ?_
          refine aw_iconst d_Mo_dsaVerify_442 ⟨by decide, by decide⟩ ?_
          refine ax_aald (b := 179) d_Mo_dsaVerify_443 ⟨by rw [(k_177 S)]; decide, by rw [(k_177 S)]; decide⟩ (by omega) (by rw [n_177 S]; omega) (g_177 S (j := 1) (by decide) (by decide)) ?_
          refine aw_bipush d_Mo_dsaVerify_444 ⟨by decide, by decide⟩ (by decide) ?_
          refine aw_bipush d_Mo_dsaVerify_446 ⟨by decide, by decide⟩ (by decide) ?_
          refine ax_V (st := [vl 8380417, vi c, vr 250]) (as := [vr 179, vi 32, vi 10]) (b := 175) (v := some (vi (bV (fun j => K3 179 (32 + 320 * i + j) % 256) 8 (32 * 10) / 2 ^ (10 * c.toNat) % 2 ^ 10))) (h' := sD h (a_up K3 175 23 (8 * (320 * i) + ((10 * c.toNat : Nat) : Int) + 10)) M2) d_Mo_dsaVerify_448 cs_Mo_dsaVerify_448 (k_175 S) (c_Mo_takeBits (q := 10 * c.toNat) (N := 32 * 10) (c := 320 * i) (d := 10) S ⟨k_179 S, by decide⟩ (by decide) (by omega) (by rw [n_179 S]; omega)) rfl rfl rfl ?_
          show AW l G M_Mo_dsaVerify P 451 [(5, vi c), (4, vi i), (0, vr 175)] [vi (bV (fun j => K3 179 (32 + 320 * i + j) % 256) 8 (32 * 10) / 2 ^ (10 * c.toNat) % 2 ^ 10), vl 8380417, vi c, vr 250] (sD h (a_up K3 175 23 (8 * (320 * i) + ((10 * c.toNat : Nat) : Int) + 10)) M2)
          refine ax_ti (x := gR (fun k => rpR I (32 + 320 * i + k)) 10 c) (by show gR (fun j => K3 179 (32 + 320 * i + j) % 256) 10 c = _; exact gR_congr (fun y y0 y1 => by rw [pk3, rp_in (show I 186 1 = 1312 from b2) (by omega) (by omega)])) ?_
          refine aw_i2l d_Mo_dsaVerify_451 ?_
          refine aw_ldc2 (n := 8192) d_Mo_dsaVerify_452 lc_Mo_364 ⟨by decide, by decide⟩ ?_
          refine ax_lmul d_Mo_dsaVerify_455 ⟨(by omega), (by omega)⟩ ?_
          refine aw_ldc2 (n := 8380417) d_Mo_dsaVerify_456 lc_Mo_256 ⟨by decide, by decide⟩ ?_
          refine ax_lrem d_Mo_dsaVerify_459 (by omega) (by omega) ?_
          refine ax_lsub d_Mo_dsaVerify_460 ⟨(by omega), (by omega)⟩ ?_
          refine ax_l2i d_Mo_dsaVerify_461 ⟨(by omega), (by omega)⟩ ?_
          refine aw_ldcw (n := 8380417) d_Mo_dsaVerify_462 lc_Mo_264 ⟨by decide, by decide⟩ ?_
          refine ax_irem d_Mo_dsaVerify_465 (by omega) (by omega) ?_
          refine ax_iast d_Mo_dsaVerify_466 (k_250 S) (by decide) (by omega) (by rw [n_250 S]; omega) ?_
          refine ax_iinc (lv' := [(5, vi (c + 1)), (4, vi i), (0, vr 175)]) d_Mo_dsaVerify_467 rfl (by decide) ⟨(by omega), (by omega)⟩ rfl ?_
          refine aw_goto (tgt := 417) d_Mo_dsaVerify_470 (by decide) ?_
          exact ih_417 _ (by omega) (c + 1) (a_up (a_up K3 175 23 (8 * (320 * i) + ((10 * c.toNat : Nat) : Int) + 10)) 250 c ((8380417 - (((gR (fun k => rpR I (32 + 320 * i + k)) 10 c) * 8192) % 8380417)) % 8380417)) (by omega) ((F3.tr (FR.b0 (p := fun a => a = 250)) (fun a x => ⟨x, x⟩)).tr (FR.up (p := fun a => a = 250) rfl) (fun a x => ⟨x, x⟩)) (by rw [a_up_ne (Or.inl (by decide)), a_up_at]; omega) (fun x a b => by by_cases z : x = c; exact (by rw [z, a_up_at]); exact (by rw [a_up_ne (Or.inr z), a_up_ne (Or.inl (by decide))]; exact x3 x a (by omega))) (by rw [a_up_ne (Or.inl (by decide)), a_up_ne (Or.inr (by decide))]; exact h43) rfl
      skip
      exact lp_417 _ 0 K2 (by omega) (FR.rfl') (by omega) (fun x a b => by omega) (h42) rfl
  skip
  exact lp_405 _ 0 K M (by omega) (FR.rfl') (b0) (fun m a b => by omega) (fun m a b => by omega) (h4) rfl
set_option maxHeartbeats 800000 in
set_option maxRecDepth 100000 in
theorem vE0N {l : Launch} {G : a_G} {P : a_R → Hp → Prop} {h : Hp} {I L K M : Nat → Int → Int} (S : Shp h) (R0 : fR0 qN I L K M) (D : RD K M 0) (rg : ∀ j, -128 ≤ I 183 j ∧ I 183 j ≤ 127) (b1 : (-1 : Int) ≠ 0 ∨ I 186 4 ≤ 255) (b2 : I 186 1 = 32 + 320 * pK 0) (pre : vfPre 0 (rgR I) (I 186 5)) (vok : vfOk 0 (rpR I) (rgR I)) (hH : ∀ m, 0 ≤ m → m < 4 → eqQ (K (205 + (30 + m).toNat)) ((fun m j => hvV (rgR I) 2336 80 95232 44 m j ((vfW 0 (rpR I) (rgR I)) m j)) m)) (hm : HR K 265 0 64 (muW I (-1 : Int))) (h4 : K 175 4 = 0) (hP : ∀ r_ h2_, RsR h I L (c4 ((0 ≤ (0 : Int) ∧ (0 : Int) < 3) ∧ ((-1 : Int) = 0 ∨ (-1 : Int) = -1)) ((-1 : Int) ≠ 0 ∨ I 186 4 ≤ 255) (I 186 1 = 32 + 320 * pK (0 : Int)) (vfPre (0 : Int) (rgR I) (I 186 5) → vfOk (0 : Int) (rpR I) (rgR I))) (fun a => a = 184 ∨ a = 186) (fun v I' L' => (¬ vfPre (0 : Int) (rgR I) (I 186 5) ∧ v = 0 ∧ fR0 qN I L I' L') ∨ (vfPre (0 : Int) (rgR I) (I 186 5) ∧ ((∀ j, j ≠ 6 → I' 186 j = I 186 j) ∧ I' 186 6 = pC (0 : Int)) ∧ (HR I' 184 0 (pC (0 : Int)) (vfC (0 : Int) (rpR I) (rgR I) (muW I (-1 : Int))) ∧ rng (I 184) (I' 184)) ∧ (v = 0 ∨ v = 1) ∧ (v = 1 ↔ ∀ j, 0 ≤ j → j < pC (0 : Int) → vfC (0 : Int) (rpR I) (rgR I) (muW I (-1 : Int)) j = rgR I j))) r_ h2_ → P r_ h2_) : AW l G M_Mo_dsaVerify P 732 [(0, vr 175)] [] (sD h K M) := by
  refine aw_aload_n d_Mo_dsaVerify_732 rfl rfl ?_
  refine aw_bipush d_Mo_dsaVerify_733 ⟨by decide, by decide⟩ (by decide) ?_
  refine aw_aload_n d_Mo_dsaVerify_735 rfl rfl ?_
  refine ax_getR (b := 267) d_Mo_dsaVerify_736 fd_Mo_99 (k_175 S) (r_175_43 S) ?_
  refine ax_Vr (st := []) (as := [vi 30, vr 267]) (b := 175) d_Mo_dsaVerify_739 cs_Mo_dsaVerify_739 (k_175 S) (c_Mo_challengeR0_30 (mu := (muW I (-1 : Int))) (X := (fun m j => hvV (rgR I) 2336 80 95232 44 m j ((vfW 0 (rpR I) (rgR I)) m j))) S D hH (fun m a b j x y => by have := hvV_a (g := (rgR I)) (o3 := 2336) (w := 80) (i := m) (j := j) (vfW_in (s := 0) (pk := (rpR I)) (g := (rgR I)) (m := m) j x y); show 0 ≤ hvV (rgR I) 2336 80 95232 44 m j ((vfW 0 (rpR I) (rgR I)) m j) ∧ hvV (rgR I) 2336 80 95232 44 m j ((vfW 0 (rpR I) (rgR I)) m j) < 2 ^ 6; omega) hm (fun k _ _ => spOut_m _ _)) rfl rfl rfl (fun u_739 q_739 => ?_)
  obtain ⟨I1, L1⟩ := u_739
  obtain ⟨F1, h1, g1_, z4_⟩ := q_739
  dsimp only at F1 h1 g1_ z4_
  have h1 : HR I1 267 0 32 (vfC 0 (rpR I) (rgR I) (muW I (-1 : Int))) := h1
  have D1 := D.fr F1 (by decide)
  have c41 : I1 175 4 = 0 := z4_.trans h4
  show AW l G M_Mo_dsaVerify P 742 [(0, vr 175)] [] (sD h I1 L1)
  refine aw_aload_n d_Mo_dsaVerify_742 rfl rfl ?_
  refine ax_getR (b := 267) d_Mo_dsaVerify_743 fd_Mo_99 (k_175 S) (r_175_43 S) ?_
  refine aw_iconst d_Mo_dsaVerify_746 ⟨by decide, by decide⟩ ?_
  refine aw_aload_n d_Mo_dsaVerify_747 rfl rfl ?_
  refine ax_getR (b := 177) d_Mo_dsaVerify_748 fd_Mo_15 (k_175 S) (r_175_1 S) ?_
  refine aw_bipush d_Mo_dsaVerify_751 ⟨by decide, by decide⟩ (by decide) ?_
  refine ax_aald (b := 184) d_Mo_dsaVerify_753 ⟨by rw [(k_177 S)]; decide, by rw [(k_177 S)]; decide⟩ (by omega) (by rw [n_177 S]; omega) (g_177 S (j := 6) (by decide) (by decide)) ?_
  refine aw_iconst d_Mo_dsaVerify_754 ⟨by decide, by decide⟩ ?_
  refine aw_aload_n d_Mo_dsaVerify_755 rfl rfl ?_
  refine ax_getIe (x := 32) d_Mo_dsaVerify_756 fd_Mo_248 (k_175 S) (dr0_38 D1) ?_
  refine ax_S (st := []) (as := [vr 267, vi 0, vr 184, vi 0, vi 32]) (v := none) (h' := sD h (putRow I1 184 0 32 (fun k => I1 267 (0 + k))) L1) d_Mo_dsaVerify_759 cs_Mo_dsaVerify_759 (c_Mo_move ⟨k_267 S, by decide⟩ ⟨k_184 S, by decide, trivial⟩ (by decide) (by rw [n_267 S, n_184 S]; omega)) rfl rfl rfl ?_
  show AW l G M_Mo_dsaVerify P 762 [(0, vr 175)] [] (sD h (putRow I1 184 0 32 (fun k => I1 267 (0 + k))) L1)
  refine aw_aload_n d_Mo_dsaVerify_762 rfl rfl ?_
  refine ax_getR (b := 186) d_Mo_dsaVerify_763 fd_Mo_18 (k_175 S) (r_175_2 S) ?_
  refine aw_bipush d_Mo_dsaVerify_766 ⟨by decide, by decide⟩ (by decide) ?_
  refine aw_aload_n d_Mo_dsaVerify_768 rfl rfl ?_
  refine ax_getIe (x := 32) d_Mo_dsaVerify_769 fd_Mo_248 (k_175 S) (Eq.trans (putRow_ne (by decide)) (dr0_38 D1)) ?_
  refine ax_iast d_Mo_dsaVerify_772 (k_186 S) (by decide) (by omega) (by rw [n_186 S]; omega) ?_
  refine aw_aload_n d_Mo_dsaVerify_773 rfl rfl ?_
  refine ax_getR (b := 267) d_Mo_dsaVerify_774 fd_Mo_99 (k_175 S) (r_175_43 S) ?_
  refine aw_iconst d_Mo_dsaVerify_777 ⟨by decide, by decide⟩ ?_
  refine aw_aload_n d_Mo_dsaVerify_778 rfl rfl ?_
  refine ax_getR (b := 177) d_Mo_dsaVerify_779 fd_Mo_15 (k_175 S) (r_175_1 S) ?_
  refine aw_iconst d_Mo_dsaVerify_782 ⟨by decide, by decide⟩ ?_
  refine ax_aald (b := 183) d_Mo_dsaVerify_783 ⟨by rw [(k_177 S)]; decide, by rw [(k_177 S)]; decide⟩ (by omega) (by rw [n_177 S]; omega) (g_177 S (j := 5) (by decide) (by decide)) ?_
  refine aw_iconst d_Mo_dsaVerify_784 ⟨by decide, by decide⟩ ?_
  refine aw_aload_n d_Mo_dsaVerify_785 rfl rfl ?_
  refine ax_getIe (x := 32) d_Mo_dsaVerify_786 fd_Mo_248 (k_175 S) (Eq.trans (a_up_ne (Or.inl (by decide))) (Eq.trans (putRow_ne (by decide)) (dr0_38 D1))) ?_
  refine ax_Sr (st := []) (as := [vr 267, vi 0, vr 183, vi 0, vi 32]) d_Mo_dsaVerify_789 cs_Mo_dsaVerify_789 (c_Mo_alike ⟨k_267 S, by decide⟩ ⟨k_183 S, by decide⟩ (by rw [n_267 S, n_183 S]; decide)) rfl rfl rfl (fun u_789 q_789 => ?_)
  obtain ⟨ao, aa⟩ := q_789
  have l5 : I 186 5 = 2420 := pre.1
  have r183 : ∀ j, (a_up (putRow I1 184 0 32 (fun k => I1 267 (0 + k))) 186 6 32) 183 j = I 183 j := fun j => by rw [a_up_ne (Or.inl (by decide)), putRow_ne (by decide), F1.1 183 j (by decide) (Or.inl (by decide))]; exact R0.1 183 j (by omega) (fun z => z)
  have r267 : ∀ j, (a_up (putRow I1 184 0 32 (fun k => I1 267 (0 + k))) 186 6 32) 267 j = I1 267 j := fun j => by rw [a_up_ne (Or.inl (by decide)), putRow_ne (by decide)]
  have am : u_789 = 1 ↔ ∀ j, 0 ≤ j → j < 32 → (vfC 0 (rpR I) (rgR I) (muW I (-1 : Int))) j = rgR I j := aa.trans ⟨fun z j x y => by have w_ := z j x y; rw [r183, r267] at w_; rw [← h1 j x y, w_, Int.zero_add, rg_in l5 x (by omega)], fun z j x y => by have w_ := z j x y; rw [← h1 j x y] at w_; have g_ := g1_ j x y; have r_ := rg (0 + j); rw [r183, r267]; rw [rg_in l5 x (by omega)] at w_; rw [Int.zero_add] at *; omega⟩
  show AW l G M_Mo_dsaVerify P 792 [(0, vr 175)] [vi u_789] (sD h (a_up (putRow I1 184 0 32 (fun k => I1 267 (0 + k))) 186 6 32) L1)
  exact aw_zret d_Mo_dsaVerify_792 rfl (by omega) (hP _ _ ⟨_, _, _, rfl, rfl, by rw [a_up_ne (Or.inl (by decide)), putRow_ne (by decide), c41, c4_0 ⟨by decide, by decide⟩ b1 b2 (fun _ => vok)], Or.inl ⟨c4_0 ⟨by decide, by decide⟩ b1 b2 (fun _ => vok), fR0.fr (fR0.fr (fR0.fr R0 F1 (r := qN) (by intro a x y; exact ⟨fun z => z, by omega⟩) (by decide)) (FR.put (p := fun a => a = 184) rfl) (r := fun a => a = 184 ∨ a = 186) (by intro a x y; exact ⟨fun z => z, by omega⟩) (by decide)) (FR.up (p := fun a => a = 186) rfl) (by intro a x y; exact ⟨y, by omega⟩) (by decide), Or.inr ⟨pre, ⟨fun j x => by rw [a_up_ne (Or.inr x), putRow_ne (by decide), F1.1 186 j (by decide) (Or.inl (by decide))]; exact R0.1 186 j (by omega) (fun z => z), by rw [a_up_at]; rfl⟩, ⟨fun z x y => by rw [a_up_ne (Or.inl (by decide))]; exact HR.put (g' := (vfC 0 (rpR I) (rgR I) (muW I (-1 : Int)))) (fun z x y => h1 z x y) z x y, fun j => by rw [a_up_ne (Or.inl (by decide))]; have z := rng.p (I := I1) (f := 184) (o := 0) (n := 32) (g := fun k => I1 267 (0 + k)) j; rw [show I1 184 j = I 184 j from (F1.1 184 j (by decide) (Or.inl (by decide))).trans (R0.1 184 j (by omega) (fun z => z))] at z; exact z⟩, ao, am⟩⟩⟩)
set_option maxHeartbeats 4000000 in
set_option maxRecDepth 100000 in
theorem vD0N {l : Launch} {G : a_G} {P : a_R → Hp → Prop} {h : Hp} {I L K M : Nat → Int → Int} (S : Shp h) (R0 : fR0 qN I L K M) (D : RD K M 0) (rg : ∀ j, -128 ≤ I 183 j ∧ I 183 j ≤ 127) (b1 : (-1 : Int) ≠ 0 ∨ I 186 4 ≤ 255) (b2 : I 186 1 = 32 + 320 * pK 0) (pre : vfPre 0 (rgR I) (I 186 5)) (bn : bll 39 (vfBs 0 (rgR I)) ≠ none) (hB : eqQ (K 251) (vfB 0 (rgR I))) (hZ : ∀ m, 0 ≤ m → m < 4 → eqQ (K (205 + m.toNat)) (fwd rt ((vfZ 0 (rgR I)) m))) (b0 : K 175 23 = 8 * (320 * 0)) (hm : HR K 265 0 64 (muW I (-1 : Int))) (h4 : K 175 4 = 0) (tb : ∀ m, 0 ≤ m → m < 4 → tbl K (rgR I) 2336 80 m) (hP : ∀ r_ h2_, RsR h I L (c4 ((0 ≤ (0 : Int) ∧ (0 : Int) < 3) ∧ ((-1 : Int) = 0 ∨ (-1 : Int) = -1)) ((-1 : Int) ≠ 0 ∨ I 186 4 ≤ 255) (I 186 1 = 32 + 320 * pK (0 : Int)) (vfPre (0 : Int) (rgR I) (I 186 5) → vfOk (0 : Int) (rpR I) (rgR I))) (fun a => a = 184 ∨ a = 186) (fun v I' L' => (¬ vfPre (0 : Int) (rgR I) (I 186 5) ∧ v = 0 ∧ fR0 qN I L I' L') ∨ (vfPre (0 : Int) (rgR I) (I 186 5) ∧ ((∀ j, j ≠ 6 → I' 186 j = I 186 j) ∧ I' 186 6 = pC (0 : Int)) ∧ (HR I' 184 0 (pC (0 : Int)) (vfC (0 : Int) (rpR I) (rgR I) (muW I (-1 : Int))) ∧ rng (I 184) (I' 184)) ∧ (v = 0 ∨ v = 1) ∧ (v = 1 ↔ ∀ j, 0 ≤ j → j < pC (0 : Int) → vfC (0 : Int) (rpR I) (rgR I) (muW I (-1 : Int)) j = rgR I j))) r_ h2_ → P r_ h2_) : AW l G M_Mo_dsaVerify P 402 [(0, vr 175)] [] (sD h K M) := by
  refine aw_iconst d_Mo_dsaVerify_402 ⟨by decide, by decide⟩ ?_
  refine aw_istore (lv' := [(4, vi 0), (0, vr 175)]) d_Mo_dsaVerify_403 (by decide) rfl ?_
  have lp_405 : ∀ (n_ : Nat) (i : Int) (K2 : Nat → Int → Int) (M2 : Nat → Int → Int), (0 ≤ i ∧ i ≤ 4) → (FR (fun a => a = 250 ∨ a = 252 ∨ 235 ≤ a ∧ a ≤ 242) K M K2 M2) → (K2 175 23 = 8 * (320 * i)) → (∀ m, 0 ≤ m → m < i → eqQ (K2 (205 + (30 + m).toNat)) ((fun m j => hvV (rgR I) 2336 80 95232 44 m j ((vfW 0 (rpR I) (rgR I)) m j)) m)) → (∀ m, 0 ≤ m → m < 4 * i → (wide (rpR I) (m % 4) (m / 4)).2.1 = 256) → (K2 175 4 = 0) → ((4 - i).toNat) = n_ → AW l G M_Mo_dsaVerify P 405 [(4, vi i), (0, vr 175)] [] (sD h K2 M2) := by
    intro n_
    induction n_ using Nat.strongRecOn with
    | _ n_ ih_405 =>
    intro i K2 M2 hi F2 bb dn okA h42 hm_405
    have pk2 : ∀ x, K2 179 x = I 179 x := fun x => (F2.1 179 x (by omega) (Or.inl (by decide))).trans (R0.1 179 x (by omega) (fun z => z))
    refine aw_iload d_Mo_dsaVerify_405 rfl ?_
    refine aw_aload_n d_Mo_dsaVerify_407 rfl rfl ?_
    refine ax_getIe (x := 4) d_Mo_dsaVerify_408 fd_Mo_223 (k_175 S) (Eq.trans (F2.1 175 26 (by omega) (Or.inr (by decide))) (dr0_26 D)) ?_
    refine aw_icmp_ge (tgt := 732) d_Mo_dsaVerify_411 (by decide) (fun c_411 => ?_) (fun c_411 => ?_)
    · skip
      refine aw_sub (lv' := [(0, vr 175)]) (by simp) ?_
      exact vE0N S (fR0.fr R0 F2 (by intro a x y; exact ⟨fun z => z, by omega⟩) (by omega)) (D.fr F2 (by omega)) rg b1 b2 pre ⟨bn, fun m a b => okA m a (by have b2 : m < 16 := b; omega)⟩ (fun m a b => dn m a (by omega)) (hm.fr F2 (by omega) (by decide)) h42 hP
    · skip
      refine aw_iconst d_Mo_dsaVerify_414 ⟨by decide, by decide⟩ ?_
      refine aw_istore (lv' := [(5, vi 0), (4, vi i), (0, vr 175)]) d_Mo_dsaVerify_415 (by decide) rfl ?_
      have lp_417 : ∀ (n_ : Nat) (c : Int) (K3 : Nat → Int → Int), (0 ≤ c ∧ c ≤ 256) → (FR (fun a => a = 250) K2 M2 K3 M2) → (K3 175 23 = 8 * (320 * i) + 10 * c) → (∀ x, 0 ≤ x → x < c → K3 250 x = (fun x => (8380417 - gR (fun k => rpR I (32 + 320 * i + k)) 10 x * 8192 % 8380417) % 8380417) x) → (K3 175 4 = 0) → ((256 - c).toNat) = n_ → AW l G M_Mo_dsaVerify P 417 [(5, vi c), (4, vi i), (0, vr 175)] [] (sD h K3 M2) := by
        intro n_
        induction n_ using Nat.strongRecOn with
        | _ n_ ih_417 =>
        intro c K3 hc F3 b3 x3 h43 hm_417
        have pk3 : ∀ x, K3 179 x = I 179 x := fun x => by rw [F3.1 179 _ (by decide) (Or.inl (by decide)), pk2]
        refine aw_iload d_Mo_dsaVerify_417 rfl ?_
        refine aw_sipush d_Mo_dsaVerify_419 ⟨by decide, by decide⟩ (by decide) ?_
        refine aw_icmp_ge (tgt := 473) d_Mo_dsaVerify_422 (by decide) (fun c_422 => ?_) (fun c_422 => ?_)
        · skip
          refine aw_aload_n d_Mo_dsaVerify_473 rfl rfl ?_
          refine aw_aload_n d_Mo_dsaVerify_474 rfl rfl ?_
          refine ax_getR (b := 204) d_Mo_dsaVerify_475 fd_Mo_76 (k_175 S) (r_175_28 S) ?_
          refine aw_bipush d_Mo_dsaVerify_478 ⟨by decide, by decide⟩ (by decide) ?_
          refine ax_aald (b := 250) d_Mo_dsaVerify_480 ⟨by rw [(k_204 S)]; decide, by rw [(k_204 S)]; decide⟩ (by omega) (by rw [n_204 S]; omega) (g_204 S (j := 45) (by decide) (by decide)) ?_
          have D3 := (D.fr F2 (by omega)).fr F3 (by decide)
          refine ax_Vr (st := []) (as := [vr 250]) (b := 175) d_Mo_dsaVerify_481 cs_Mo_dsaVerify_481 (k_175 S) (c_Mo_evaluate S ⟨k_250 S, by decide, n_250 S⟩ (by decide) (fun x a b => by rw [x3 x a (by omega)]; show 0 ≤ _ % 8380417 ∧ _ % 8380417 < 8380417; exact ⟨Int.emod_nonneg _ (by decide), Int.emod_lt_of_pos _ (by decide)⟩) D3.2.2) rfl rfl rfl (fun u_481 q_481 => ?_)
          have l5 := q_481
          have ng : ∀ x, 0 ≤ x → x < 256 → cq (eva (K3 250) x) (-(fwd rt (tpF (rpR I) i) x)) := fun x a b => by rw [fwd_eva a b]; exact eva_neg (fun y hy => by rw [x3 y (by omega) (by omega)]; show cq ((8380417 - tpF (rpR I) i y % 8380417) % 8380417) (-(tpF (rpR I) i y)); unfold cq; omega)
          have F3b : FR (fun a => a = 250 ∨ a = 252 ∨ 235 ≤ a ∧ a ≤ 242) K3 M2 (rowTo (rowTo (rowTo K3 250 256 (eva (K3 250))) (205 + (30 + i).toNat) 256 (fun _ => 0)) (205 + (30 + i).toNat) 256 (fun x => ((rowTo (rowTo K3 250 256 (eva (K3 250))) (205 + (30 + i).toNat) 256 (fun _ => 0)) (205 + (30 + i).toNat) x + (rowTo (rowTo K3 250 256 (eva (K3 250))) (205 + (30 + i).toNat) 256 (fun _ => 0)) 250 x * (rowTo (rowTo K3 250 256 (eva (K3 250))) (205 + (30 + i).toNat) 256 (fun _ => 0)) 251 x) % 8380417)) u_481 := ((FR.row (p := fun a => a = 250 ∨ a = 252 ∨ 235 ≤ a ∧ a ≤ 242) (by omega) l5).tr (FR.row (p := fun a => a = 250 ∨ a = 252 ∨ 235 ≤ a ∧ a ≤ 242) (by omega) (fun _ _ _ => rfl)) (fun a x => ⟨x, x⟩)).tr (FR.row (p := fun a => a = 250 ∨ a = 252 ∨ 235 ≤ a ∧ a ≤ 242) (by omega) (fun _ _ _ => rfl)) (fun a x => ⟨x, x⟩)
          show AW l G M_Mo_dsaVerify P 484 [(5, vi c), (4, vi i), (0, vr 175)] [] (sD h (rowTo K3 250 256 (eva (K3 250))) u_481)
          refine aw_aload_n d_Mo_dsaVerify_484 rfl rfl ?_
          refine ax_getR (b := 204) d_Mo_dsaVerify_485 fd_Mo_76 (k_175 S) (r_175_28 S) ?_
          refine aw_bipush d_Mo_dsaVerify_488 ⟨by decide, by decide⟩ (by decide) ?_
          refine aw_iload d_Mo_dsaVerify_490 rfl ?_
          refine ax_iadd d_Mo_dsaVerify_492 ⟨(by omega), (by omega)⟩ ?_
          refine ax_aald (b := 205 + (30 + i).toNat) d_Mo_dsaVerify_493 ⟨by rw [(k_204 S)]; decide, by rw [(k_204 S)]; decide⟩ (by omega) (by rw [n_204 S]; omega) (g_204 S (by omega) (by omega)) ?_
          refine ax_S (st := []) (as := [vr (205 + (30 + i).toNat)]) (v := none) (h' := sD h (rowTo (rowTo K3 250 256 (eva (K3 250))) (205 + (30 + i).toNat) 256 (fun _ => 0)) u_481) d_Mo_dsaVerify_494 cs_Mo_dsaVerify_494 (c_Mo_clear ⟨kr_204 S (by omega), by omega, nr_204 S (by omega)⟩) rfl rfl rfl ?_
          show AW l G M_Mo_dsaVerify P 497 [(5, vi c), (4, vi i), (0, vr 175)] [] (sD h (rowTo (rowTo K3 250 256 (eva (K3 250))) (205 + (30 + i).toNat) 256 (fun _ => 0)) u_481)
          refine aw_aload_n d_Mo_dsaVerify_497 rfl rfl ?_
          refine ax_getR (b := 204) d_Mo_dsaVerify_498 fd_Mo_76 (k_175 S) (r_175_28 S) ?_
          refine aw_bipush d_Mo_dsaVerify_501 ⟨by decide, by decide⟩ (by decide) ?_
          refine aw_iload d_Mo_dsaVerify_503 rfl ?_
          refine ax_iadd d_Mo_dsaVerify_505 ⟨(by omega), (by omega)⟩ ?_
          refine ax_aald (b := 205 + (30 + i).toNat) d_Mo_dsaVerify_506 ⟨by rw [(k_204 S)]; decide, by rw [(k_204 S)]; decide⟩ (by omega) (by rw [n_204 S]; omega) (g_204 S (by omega) (by omega)) ?_
          refine aw_aload_n d_Mo_dsaVerify_507 rfl rfl ?_
          refine ax_getR (b := 204) d_Mo_dsaVerify_508 fd_Mo_76 (k_175 S) (r_175_28 S) ?_
          refine aw_bipush d_Mo_dsaVerify_511 ⟨by decide, by decide⟩ (by decide) ?_
          refine ax_aald (b := 250) d_Mo_dsaVerify_513 ⟨by rw [(k_204 S)]; decide, by rw [(k_204 S)]; decide⟩ (by omega) (by rw [n_204 S]; omega) (g_204 S (j := 45) (by decide) (by decide)) ?_
          refine aw_aload_n d_Mo_dsaVerify_514 rfl rfl ?_
          refine ax_getR (b := 204) d_Mo_dsaVerify_515 fd_Mo_76 (k_175 S) (r_175_28 S) ?_
          refine aw_bipush d_Mo_dsaVerify_518 ⟨by decide, by decide⟩ (by decide) ?_
          refine ax_aald (b := 251) d_Mo_dsaVerify_520 ⟨by rw [(k_204 S)]; decide, by rw [(k_204 S)]; decide⟩ (by omega) (by rw [n_204 S]; omega) (g_204 S (j := 46) (by decide) (by decide)) ?_
          refine ax_S (st := []) (as := [vr (205 + (30 + i).toNat), vr 250, vr 251]) (v := none) (h' := sD h (rowTo (rowTo (rowTo K3 250 256 (eva (K3 250))) (205 + (30 + i).toNat) 256 (fun _ => 0)) (205 + (30 + i).toNat) 256 (fun x => ((rowTo (rowTo K3 250 256 (eva (K3 250))) (205 + (30 + i).toNat) 256 (fun _ => 0)) (205 + (30 + i).toNat) x + (rowTo (rowTo K3 250 256 (eva (K3 250))) (205 + (30 + i).toNat) 256 (fun _ => 0)) 250 x * (rowTo (rowTo K3 250 256 (eva (K3 250))) (205 + (30 + i).toNat) 256 (fun _ => 0)) 251 x) % 8380417)) u_481) d_Mo_dsaVerify_521 cs_Mo_dsaVerify_521 (c_Mo_addProducts ⟨kr_204 S (by omega), by omega, nr_204 S (by omega)⟩ ⟨k_250 S, by decide, n_250 S⟩ ⟨k_251 S, by decide, n_251 S⟩ (fun x a b => by rw [rowTo_in a b]; decide) (fun x a b => by rw [rowTo_ne (by omega), rowTo_in a b]; exact eva_in) (fun x a b => by rw [rowTo_ne (by omega), rowTo_ne (by decide), F3.1 251 x (by decide) (Or.inl (by decide)), F2.1 251 x (by omega) (Or.inl (by decide)), hB x a b]; exact vfB_in x a b)) rfl rfl rfl ?_
          show AW l G M_Mo_dsaVerify P 524 [(5, vi c), (4, vi i), (0, vr 175)] [] (sD h (rowTo (rowTo (rowTo K3 250 256 (eva (K3 250))) (205 + (30 + i).toNat) 256 (fun _ => 0)) (205 + (30 + i).toNat) 256 (fun x => ((rowTo (rowTo K3 250 256 (eva (K3 250))) (205 + (30 + i).toNat) 256 (fun _ => 0)) (205 + (30 + i).toNat) x + (rowTo (rowTo K3 250 256 (eva (K3 250))) (205 + (30 + i).toNat) 256 (fun _ => 0)) 250 x * (rowTo (rowTo K3 250 256 (eva (K3 250))) (205 + (30 + i).toNat) 256 (fun _ => 0)) 251 x) % 8380417)) u_481)
          refine aw_iconst d_Mo_dsaVerify_524 ⟨by decide, by decide⟩ ?_
          refine aw_istore (lv' := [(5, vi 0), (4, vi i), (0, vr 175)]) d_Mo_dsaVerify_525 (by decide) rfl ?_
          have lp_527 : ∀ (n_ : Nat) (j : Int) (K4 : Nat → Int → Int) (M4 : Nat → Int → Int), (0 ≤ j ∧ j ≤ 4) → (FR (fun a => a = 205 + (30 + i).toNat ∨ a = 252) (rowTo (rowTo (rowTo K3 250 256 (eva (K3 250))) (205 + (30 + i).toNat) 256 (fun _ => 0)) (205 + (30 + i).toNat) 256 (fun x => ((rowTo (rowTo K3 250 256 (eva (K3 250))) (205 + (30 + i).toNat) 256 (fun _ => 0)) (205 + (30 + i).toNat) x + (rowTo (rowTo K3 250 256 (eva (K3 250))) (205 + (30 + i).toNat) 256 (fun _ => 0)) 250 x * (rowTo (rowTo K3 250 256 (eva (K3 250))) (205 + (30 + i).toNat) 256 (fun _ => 0)) 251 x) % 8380417)) u_481 K4 M4) → (∀ x, 0 ≤ x → x < 256 → K4 (205 + (30 + i).toNat) x = (eva (K3 250) x * (vfB 0 (rgR I)) x + pS (sgA 0 (rpR I)) (fun j => fwd rt ((vfZ 0 (rgR I)) j)) (i * 4) x j.toNat) % 8380417) → (∀ m, 0 ≤ m → m < j → (wide (rpR I) m i).2.1 = 256) → (K4 175 4 = 0) → (K4 175 23 = 8 * (320 * i) + 10 * 256) → ((4 - j).toNat) = n_ → AW l G M_Mo_dsaVerify P 527 [(5, vi j), (4, vi i), (0, vr 175)] [] (sD h K4 M4) := by
            intro n_
            induction n_ using Nat.strongRecOn with
            | _ n_ ih_527 =>
            intro j K4 M4 hj F4 r4 okJ h44 b4 hm_527
            have z4 : ∀ a j, (a ≠ 205 + (30 + i).toNat ∧ a ≠ 252 ∧ a ≠ 250 ∧ a < 235) → a ≠ 175 → K4 a j = K2 a j := fun a x y z => by rw [F4.1 _ _ (by omega) (Or.inl z), rowTo_ne (by omega), rowTo_ne (by omega), rowTo_ne (by omega), F3.1 _ _ (by omega) (Or.inl z)]
            have pk4 : ∀ x, K4 179 x = I 179 x := fun x => (z4 179 x (by omega) (by decide)).trans (pk2 x)
            have D4 := (D3.fr F3b (by omega)).fr F4 (by omega)
            refine aw_iload d_Mo_dsaVerify_527 rfl ?_
            refine aw_aload_n d_Mo_dsaVerify_529 rfl rfl ?_
            refine ax_getIe (x := 4) d_Mo_dsaVerify_530 fd_Mo_226 (k_175 S) (Eq.trans (F4.1 175 32 (by omega) (Or.inr (by decide))) (Eq.trans (rowTo_ne (by omega)) (Eq.trans (rowTo_ne (by omega)) (Eq.trans (rowTo_ne (by omega)) (Eq.trans (F3.1 175 32 (by omega) (Or.inr (by decide))) (Eq.trans (F2.1 175 32 (by omega) (Or.inr (by decide))) (dr0_32 D))))))) ?_
            refine aw_icmp_ge (tgt := 601) d_Mo_dsaVerify_533 (by decide) (fun c_533 => ?_) (fun c_533 => ?_)
            · skip
              refine aw_aload_n d_Mo_dsaVerify_601 rfl rfl ?_
              refine aw_aload_n d_Mo_dsaVerify_602 rfl rfl ?_
              refine ax_getR (b := 204) d_Mo_dsaVerify_603 fd_Mo_76 (k_175 S) (r_175_28 S) ?_
              refine aw_bipush d_Mo_dsaVerify_606 ⟨by decide, by decide⟩ (by decide) ?_
              refine aw_iload d_Mo_dsaVerify_608 rfl ?_
              refine ax_iadd d_Mo_dsaVerify_610 ⟨(by omega), (by omega)⟩ ?_
              refine ax_aald (b := 205 + (30 + i).toNat) d_Mo_dsaVerify_611 ⟨by rw [(k_204 S)]; decide, by rw [(k_204 S)]; decide⟩ (by omega) (by rw [n_204 S]; omega) (g_204 S (by omega) (by omega)) ?_
              refine ax_Vr (st := []) (as := [vr (205 + (30 + i).toNat)]) (b := 175) d_Mo_dsaVerify_612 cs_Mo_dsaVerify_612 (k_175 S) (c_Mo_interpolate S ⟨kr_204 S (by omega), by omega, nr_204 S (by omega)⟩ (by omega) (fun x a b => by rw [r4 x a b]; show 0 ≤ _ % 8380417 ∧ _ % 8380417 < 8380417; exact ⟨Int.emod_nonneg _ (by decide), Int.emod_lt_of_pos _ (by decide)⟩) D4.2.2) rfl rfl rfl (fun u_612 q_612 => ?_)
              have l7 := q_612
              have w7 : eqQ ((rowTo K4 (205 + (30 + i).toNat) 256 (itp (K4 (205 + (30 + i).toNat)))) (205 + (30 + i).toNat)) ((vfW 0 (rpR I) (rgR I)) i) := fun x a b => by rw [rowTo_in a b]; show itp _ x = bck rt (fun c => (pS (sgA 0 (rpR I)) (fun j => fwd rt ((vfZ 0 (rgR I)) j)) (i * 4) c 4 % 8380417 - (vfB 0 (rgR I)) c * fwd rt (tpF (rpR I) i) c % 8380417) % 8380417) x; rw [bck_itp a b]; exact itp_cq (fun y hy => by rw [r4 y (by omega) (by omega), show j.toNat = 4 by omega]; exact vsum (ng y (by omega) (by omega)))
              show AW l G M_Mo_dsaVerify P 615 [(5, vi j), (4, vi i), (0, vr 175)] [] (sD h (rowTo K4 (205 + (30 + i).toNat) 256 (itp (K4 (205 + (30 + i).toNat)))) u_612)
              refine aw_ldcw (n := 8380416) d_Mo_dsaVerify_615 lc_Mo_279 ⟨by decide, by decide⟩ ?_
              refine aw_iconst d_Mo_dsaVerify_618 ⟨by decide, by decide⟩ ?_
              refine aw_aload_n d_Mo_dsaVerify_619 rfl rfl ?_
              refine ax_getIe (x := 95232) d_Mo_dsaVerify_620 fd_Mo_242 (k_175 S) (Eq.trans (rowTo_ne (by omega)) (Eq.trans (F4.1 175 36 (by omega) (Or.inr (by decide))) (Eq.trans (rowTo_ne (by omega)) (Eq.trans (rowTo_ne (by omega)) (Eq.trans (rowTo_ne (by omega)) (Eq.trans (F3.1 175 36 (by omega) (Or.inr (by decide))) (Eq.trans (F2.1 175 36 (by omega) (Or.inr (by decide))) (dr0_36 D)))))))) ?_
              refine ax_imul d_Mo_dsaVerify_623 ⟨(by omega), (by omega)⟩ ?_
              refine ax_ti (x := 190464) (by decide) ?_
              refine ax_idiv d_Mo_dsaVerify_624 ⟨(by omega), (by omega)⟩ (by omega) ?_
              refine ax_ti (x := 44) (by decide) ?_
              refine aw_istore (lv' := [(5, vi 44), (4, vi i), (0, vr 175)]) d_Mo_dsaVerify_625 (by decide) rfl ?_
              refine aw_iconst d_Mo_dsaVerify_627 ⟨by decide, by decide⟩ ?_
              refine aw_istore (lv' := [(6, vi 0), (5, vi 44), (4, vi i), (0, vr 175)]) d_Mo_dsaVerify_628 (by decide) rfl ?_
              have lp_630 : ∀ (n_ : Nat) (c : Int) (K7 : Nat → Int → Int), (0 ≤ c ∧ c ≤ 256) → (FR (fun a => a = 205 + (30 + i).toNat) (rowTo K4 (205 + (30 + i).toNat) 256 (itp (K4 (205 + (30 + i).toNat)))) u_612 K7 u_612) → (∀ a x, a ≠ 205 + (30 + i).toNat → K7 a x = (rowTo K4 (205 + (30 + i).toNat) 256 (itp (K4 (205 + (30 + i).toNat)))) a x) → ((∀ x, 0 ≤ x → x < c → K7 (205 + (30 + i).toNat) x = hvV (rgR I) 2336 80 95232 44 i x ((vfW 0 (rpR I) (rgR I)) i x)) ∧ ∀ x, c ≤ x → x < 256 → K7 (205 + (30 + i).toNat) x = (vfW 0 (rpR I) (rgR I)) i x) → ((256 - c).toNat) = n_ → AW l G M_Mo_dsaVerify P 630 [(6, vi c), (5, vi 44), (4, vi i), (0, vr 175)] [] (sD h K7 u_612) := by
                intro n_
                induction n_ using Nat.strongRecOn with
                | _ n_ ih_630 =>
                intro c K7 hc7 F7 F7f r7 hm_630
                have gp7 : K7 175 36 = 95232 := by rw [F7f 175 36 (by omega), rowTo_ne (by omega)]; exact dr0_36 D4
                have tb7 : c < 256 → (K7 (254 + i.toNat) c = 0 ∨ K7 (254 + i.toNat) c = 1) ∧ (K7 (254 + i.toNat) c = 1 ↔ hin (rgR I) 2336 80 i c) := fun v => by rw [show K7 (254 + i.toNat) c = K (254 + i.toNat) c from by rw [F7f _ _ (by omega), rowTo_ne (by omega), F4.1 _ _ (by omega) (Or.inl (by omega)), rowTo_ne (by omega), rowTo_ne (by omega), rowTo_ne (by omega), F3.1 _ _ (by omega) (Or.inl (by omega)), F2.1 _ _ (by omega) (Or.inl (by omega))]]; exact tb i hi.1 (by omega) c hc7.1 v
                refine aw_iload d_Mo_dsaVerify_630 rfl ?_
                refine aw_sipush d_Mo_dsaVerify_632 ⟨by decide, by decide⟩ (by decide) ?_
                refine aw_icmp_ge (tgt := 726) d_Mo_dsaVerify_635 (by decide) (fun c_635 => ?_) (fun c_635 => ?_)
                · skip
                  refine ax_iinc (lv' := [(4, vi (i + 1)), (6, vi c), (5, vi 44), (0, vr 175)]) d_Mo_dsaVerify_726 rfl (by decide) ⟨(by omega), (by omega)⟩ rfl ?_
                  refine aw_goto (tgt := 405) d_Mo_dsaVerify_729 (by decide) ?_
                  refine aw_sub (lv' := [(4, vi (i + 1)), (0, vr 175)]) (by simp) ?_
                  exact ih_405 _ (by omega) (i + 1) K7 u_612 (by omega) (((((F2.tr (F3.mono (r := fun a => a = 250 ∨ a = 252 ∨ 235 ≤ a ∧ a ≤ 242) (by intro a x; omega)) (fun a x => ⟨x, x⟩)).tr F3b (fun a x => ⟨x, x⟩)).tr (F4.mono (r := fun a => a = 250 ∨ a = 252 ∨ 235 ≤ a ∧ a ≤ 242) (by intro a x; omega)) (fun a x => ⟨x, x⟩)).tr (FR.row (p := fun a => a = 250 ∨ a = 252 ∨ 235 ≤ a ∧ a ≤ 242) (by omega) l7) (fun a x => ⟨x, x⟩)).tr (F7.mono (r := fun a => a = 250 ∨ a = 252 ∨ 235 ≤ a ∧ a ≤ 242) (by intro a x; omega)) (fun a x => ⟨x, x⟩)) (by rw [F7f 175 23 (by omega), rowTo_ne (by omega), b4]; omega) (fun m a b x u v => by by_cases z : m = i; exact (by rw [z]; exact r7.1 x u (by omega)); exact (by rw [F7f _ _ (by omega), rowTo_ne (by omega), F4.1 _ _ (by omega) (Or.inl (by omega)), rowTo_ne (by omega), rowTo_ne (by omega), rowTo_ne (by omega), F3.1 _ _ (by omega) (Or.inl (by omega))]; exact dn m a (by omega) x u v)) (fun m a b => by by_cases v : m < 4 * i; exact okA m a v; exact (by have w_ := okJ (m - 4 * i) (by omega) (by omega); rw [show m % 4 = m - 4 * i by omega, show m / 4 = i by omega]; exact w_)) (by rw [F7f 175 4 (by omega), rowTo_ne (by omega)]; exact h44) rfl
                · skip
                  have wr := vfW_in (s := 0) (pk := (rpR I)) (g := (rgR I)) (m := i) c hc7.1 (by omega)
                  have hb_ := dHi44 wr
                  refine aw_aload_n d_Mo_dsaVerify_638 rfl rfl ?_
                  refine ax_getR (b := 204) d_Mo_dsaVerify_639 fd_Mo_76 (k_175 S) (r_175_28 S) ?_
                  refine aw_bipush d_Mo_dsaVerify_642 ⟨by decide, by decide⟩ (by decide) ?_
                  refine aw_iload d_Mo_dsaVerify_644 rfl ?_
                  refine ax_iadd d_Mo_dsaVerify_646 ⟨(by omega), (by omega)⟩ ?_
                  refine ax_aald (b := 205 + (30 + i).toNat) d_Mo_dsaVerify_647 ⟨by rw [(k_204 S)]; decide, by rw [(k_204 S)]; decide⟩ (by omega) (by rw [n_204 S]; omega) (g_204 S (by omega) (by omega)) ?_
                  refine aw_iload d_Mo_dsaVerify_648 rfl ?_
                  refine ax_ialde (x := (vfW 0 (rpR I) (rgR I)) i c) d_Mo_dsaVerify_650 (kr_204 S (by omega)) (by omega) (by rw [nr_204 S (by omega)]; omega) (r7.2 c (Int.le_refl _) (by omega)) ?_
                  refine aw_istore (lv' := [(7, vi ((vfW 0 (rpR I) (rgR I)) i c)), (6, vi c), (5, vi 44), (4, vi i), (0, vr 175)]) d_Mo_dsaVerify_651 (by decide) rfl ?_
                  refine aw_aload_n d_Mo_dsaVerify_653 rfl rfl ?_
                  refine aw_iload d_Mo_dsaVerify_654 rfl ?_
                  refine ax_V (st := []) (as := [vi ((vfW 0 (rpR I) (rgR I)) i c)]) (b := 175) (v := some (vi (dHigh 95232 ((vfW 0 (rpR I) (rgR I)) i c)))) (h' := sD h K7 u_612) d_Mo_dsaVerify_656 cs_Mo_dsaVerify_656 (k_175 S) (by have z := c_Mo_high (l := l) (G := G) (L := u_612) (I := K7) (r := (vfW 0 (rpR I) (rgR I)) i c) S (by rw [gp7]; decide) wr; rw [gp7] at z; exact z) rfl rfl rfl ?_
                  show AW l G M_Mo_dsaVerify P 659 [(7, vi ((vfW 0 (rpR I) (rgR I)) i c)), (6, vi c), (5, vi 44), (4, vi i), (0, vr 175)] [vi (dHigh 95232 ((vfW 0 (rpR I) (rgR I)) i c))] (sD h K7 u_612)
                  refine aw_istore (lv' := [(8, vi (dHigh 95232 ((vfW 0 (rpR I) (rgR I)) i c))), (7, vi ((vfW 0 (rpR I) (rgR I)) i c)), (6, vi c), (5, vi 44), (4, vi i), (0, vr 175)]) d_Mo_dsaVerify_659 (by decide) rfl ?_
                  refine aw_aload_n d_Mo_dsaVerify_661 rfl rfl ?_
                  refine ax_getR (b := 253) d_Mo_dsaVerify_662 fd_Mo_81 (k_175 S) (r_175_29 S) ?_
                  refine aw_iload d_Mo_dsaVerify_665 rfl ?_
                  refine ax_aald (b := 254 + i.toNat) d_Mo_dsaVerify_667 ⟨by rw [(k_253 S)]; decide, by rw [(k_253 S)]; decide⟩ (by omega) (by rw [n_253 S]; omega) (g_253 S (by omega) (by omega)) ?_
                  refine aw_iload d_Mo_dsaVerify_668 rfl ?_
                  refine ax_zalde (x := K7 (254 + i.toNat) c) d_Mo_dsaVerify_670 (kr_253 S (by omega)) (by omega) (by rw [nr_253 S (by omega)]; omega) (rfl) ?_
                  refine aw_if_eq (tgt := 705) d_Mo_dsaVerify_671 (by decide) (fun c_671 => ?_) (fun c_671 => ?_)
                  · skip
                    refine aw_aload_n d_Mo_dsaVerify_705 rfl rfl ?_
                    refine ax_getR (b := 204) d_Mo_dsaVerify_706 fd_Mo_76 (k_175 S) (r_175_28 S) ?_
                    refine aw_bipush d_Mo_dsaVerify_709 ⟨by decide, by decide⟩ (by decide) ?_
                    refine aw_iload d_Mo_dsaVerify_711 rfl ?_
                    refine ax_iadd d_Mo_dsaVerify_713 ⟨(by omega), (by omega)⟩ ?_
                    refine ax_aald (b := 205 + (30 + i).toNat) d_Mo_dsaVerify_714 ⟨by rw [(k_204 S)]; decide, by rw [(k_204 S)]; decide⟩ (by omega) (by rw [n_204 S]; omega) (g_204 S (by omega) (by omega)) ?_
                    refine aw_iload d_Mo_dsaVerify_715 rfl ?_
                    refine aw_iload d_Mo_dsaVerify_717 rfl ?_
                    refine ax_iast d_Mo_dsaVerify_719 (kr_204 S (by omega)) (by omega) (by omega) (by rw [nr_204 S (by omega)]; omega) ?_
                    refine ax_iinc (lv' := [(6, vi (c + 1)), (8, vi (dHigh 95232 ((vfW 0 (rpR I) (rgR I)) i c))), (7, vi ((vfW 0 (rpR I) (rgR I)) i c)), (5, vi 44), (4, vi i), (0, vr 175)]) d_Mo_dsaVerify_720 rfl (by decide) ⟨(by omega), (by omega)⟩ rfl ?_
                    refine aw_goto (tgt := 630) d_Mo_dsaVerify_723 (by decide) ?_
                    refine aw_sub (lv' := [(6, vi (c + 1)), (5, vi 44), (4, vi i), (0, vr 175)]) (by simp) ?_
                    exact ih_630 _ (by omega) (c + 1) (a_up K7 (205 + (30 + i).toNat) c (dHigh 95232 ((vfW 0 (rpR I) (rgR I)) i c))) (by omega) (F7.tr (FR.up (p := fun a => a = 205 + (30 + i).toNat) rfl) (fun a x => ⟨x, x⟩)) (fun a x y => (a_up_ne (Or.inl y)).trans (F7f a x y)) (⟨fun x a b => by by_cases z : x = c; exact (by rw [z, a_up_at]; exact (hvV_n (fun z => by have y := (tb7 (by omega)).2.2 z; omega)).symm); exact (by rw [a_up_ne (Or.inr z)]; exact r7.1 x a (by omega)), fun x a b => by rw [a_up_ne (Or.inr (by omega))]; exact r7.2 x (by omega) b⟩) rfl
                  · skip
                    refine aw_aload_n d_Mo_dsaVerify_674 rfl rfl ?_
                    refine aw_iload d_Mo_dsaVerify_675 rfl ?_
                    refine ax_V (st := []) (as := [vi ((vfW 0 (rpR I) (rgR I)) i c)]) (b := 175) (v := some (vi (dLow 95232 ((vfW 0 (rpR I) (rgR I)) i c)))) (h' := sD h K7 u_612) d_Mo_dsaVerify_677 cs_Mo_dsaVerify_677 (k_175 S) (by have z := c_Mo_low (l := l) (G := G) (L := u_612) (I := K7) (r := (vfW 0 (rpR I) (rgR I)) i c) S (by rw [gp7]; decide) wr; rw [gp7] at z; exact z) rfl rfl rfl ?_
                    show AW l G M_Mo_dsaVerify P 680 [(8, vi (dHigh 95232 ((vfW 0 (rpR I) (rgR I)) i c))), (7, vi ((vfW 0 (rpR I) (rgR I)) i c)), (6, vi c), (5, vi 44), (4, vi i), (0, vr 175)] [vi (dLow 95232 ((vfW 0 (rpR I) (rgR I)) i c))] (sD h K7 u_612)
                    refine aw_if_le (tgt := 693) d_Mo_dsaVerify_680 (by decide) (fun c_680 => ?_) (fun c_680 => ?_)
                    · skip
                      refine aw_iload d_Mo_dsaVerify_693 rfl ?_
                      refine aw_iload d_Mo_dsaVerify_695 rfl ?_
                      refine ax_iadd d_Mo_dsaVerify_697 ⟨(by omega), (by omega)⟩ ?_
                      refine aw_iconst d_Mo_dsaVerify_698 ⟨by decide, by decide⟩ ?_
                      refine ax_isub d_Mo_dsaVerify_699 ⟨(by omega), (by omega)⟩ ?_
                      refine aw_iload d_Mo_dsaVerify_700 rfl ?_
                      refine ax_irem d_Mo_dsaVerify_702 (by omega) (by omega) ?_
                      refine aw_istore (lv' := [(8, vi ((((dHigh 95232 ((vfW 0 (rpR I) (rgR I)) i c)) + 44) - 1) % 44)), (7, vi ((vfW 0 (rpR I) (rgR I)) i c)), (6, vi c), (5, vi 44), (4, vi i), (0, vr 175)]) d_Mo_dsaVerify_703 (by decide) rfl ?_
                      refine aw_aload_n d_Mo_dsaVerify_705 rfl rfl ?_
                      refine ax_getR (b := 204) d_Mo_dsaVerify_706 fd_Mo_76 (k_175 S) (r_175_28 S) ?_
                      refine aw_bipush d_Mo_dsaVerify_709 ⟨by decide, by decide⟩ (by decide) ?_
                      refine aw_iload d_Mo_dsaVerify_711 rfl ?_
                      refine ax_iadd d_Mo_dsaVerify_713 ⟨(by omega), (by omega)⟩ ?_
                      refine ax_aald (b := 205 + (30 + i).toNat) d_Mo_dsaVerify_714 ⟨by rw [(k_204 S)]; decide, by rw [(k_204 S)]; decide⟩ (by omega) (by rw [n_204 S]; omega) (g_204 S (by omega) (by omega)) ?_
                      refine aw_iload d_Mo_dsaVerify_715 rfl ?_
                      refine aw_iload d_Mo_dsaVerify_717 rfl ?_
                      refine ax_iast d_Mo_dsaVerify_719 (kr_204 S (by omega)) (by omega) (by omega) (by rw [nr_204 S (by omega)]; omega) ?_
                      refine ax_iinc (lv' := [(6, vi (c + 1)), (8, vi ((((dHigh 95232 ((vfW 0 (rpR I) (rgR I)) i c)) + 44) - 1) % 44)), (7, vi ((vfW 0 (rpR I) (rgR I)) i c)), (5, vi 44), (4, vi i), (0, vr 175)]) d_Mo_dsaVerify_720 rfl (by decide) ⟨(by omega), (by omega)⟩ rfl ?_
                      refine aw_goto (tgt := 630) d_Mo_dsaVerify_723 (by decide) ?_
                      refine aw_sub (lv' := [(6, vi (c + 1)), (5, vi 44), (4, vi i), (0, vr 175)]) (by simp) ?_
                      exact ih_630 _ (by omega) (c + 1) (a_up K7 (205 + (30 + i).toNat) c ((((dHigh 95232 ((vfW 0 (rpR I) (rgR I)) i c)) + 44) - 1) % 44)) (by omega) (F7.tr (FR.up (p := fun a => a = 205 + (30 + i).toNat) rfl) (fun a x => ⟨x, x⟩)) (fun a x y => (a_up_ne (Or.inl y)).trans (F7f a x y)) (⟨fun x a b => by by_cases z : x = c; exact (by rw [z, a_up_at]; rw [hvV_y ((tb7 (by omega)).2.1 (by have y := (tb7 (by omega)).1; omega)), hh_n (by omega)]); exact (by rw [a_up_ne (Or.inr z)]; exact r7.1 x a (by omega)), fun x a b => by rw [a_up_ne (Or.inr (by omega))]; exact r7.2 x (by omega) b⟩) rfl
                    · skip
                      refine aw_iload d_Mo_dsaVerify_683 rfl ?_
                      refine aw_iconst d_Mo_dsaVerify_685 ⟨by decide, by decide⟩ ?_
                      refine ax_iadd d_Mo_dsaVerify_686 ⟨(by omega), (by omega)⟩ ?_
                      refine aw_iload d_Mo_dsaVerify_687 rfl ?_
                      refine ax_irem d_Mo_dsaVerify_689 (by omega) (by omega) ?_
                      refine aw_goto (tgt := 703) d_Mo_dsaVerify_690 (by decide) ?_
                      refine aw_istore (lv' := [(8, vi (((dHigh 95232 ((vfW 0 (rpR I) (rgR I)) i c)) + 1) % 44)), (7, vi ((vfW 0 (rpR I) (rgR I)) i c)), (6, vi c), (5, vi 44), (4, vi i), (0, vr 175)]) d_Mo_dsaVerify_703 (by decide) rfl ?_
                      refine aw_aload_n d_Mo_dsaVerify_705 rfl rfl ?_
                      refine ax_getR (b := 204) d_Mo_dsaVerify_706 fd_Mo_76 (k_175 S) (r_175_28 S) ?_
                      refine aw_bipush d_Mo_dsaVerify_709 ⟨by decide, by decide⟩ (by decide) ?_
                      refine aw_iload d_Mo_dsaVerify_711 rfl ?_
                      refine ax_iadd d_Mo_dsaVerify_713 ⟨(by omega), (by omega)⟩ ?_
                      refine ax_aald (b := 205 + (30 + i).toNat) d_Mo_dsaVerify_714 ⟨by rw [(k_204 S)]; decide, by rw [(k_204 S)]; decide⟩ (by omega) (by rw [n_204 S]; omega) (g_204 S (by omega) (by omega)) ?_
                      refine aw_iload d_Mo_dsaVerify_715 rfl ?_
                      refine aw_iload d_Mo_dsaVerify_717 rfl ?_
                      refine ax_iast d_Mo_dsaVerify_719 (kr_204 S (by omega)) (by omega) (by omega) (by rw [nr_204 S (by omega)]; omega) ?_
                      refine ax_iinc (lv' := [(6, vi (c + 1)), (8, vi (((dHigh 95232 ((vfW 0 (rpR I) (rgR I)) i c)) + 1) % 44)), (7, vi ((vfW 0 (rpR I) (rgR I)) i c)), (5, vi 44), (4, vi i), (0, vr 175)]) d_Mo_dsaVerify_720 rfl (by decide) ⟨(by omega), (by omega)⟩ rfl ?_
                      refine aw_goto (tgt := 630) d_Mo_dsaVerify_723 (by decide) ?_
                      refine aw_sub (lv' := [(6, vi (c + 1)), (5, vi 44), (4, vi i), (0, vr 175)]) (by simp) ?_
                      exact ih_630 _ (by omega) (c + 1) (a_up K7 (205 + (30 + i).toNat) c (((dHigh 95232 ((vfW 0 (rpR I) (rgR I)) i c)) + 1) % 44)) (by omega) (F7.tr (FR.up (p := fun a => a = 205 + (30 + i).toNat) rfl) (fun a x => ⟨x, x⟩)) (fun a x y => (a_up_ne (Or.inl y)).trans (F7f a x y)) (⟨fun x a b => by by_cases z : x = c; exact (by rw [z, a_up_at]; rw [hvV_y ((tb7 (by omega)).2.1 (by have y := (tb7 (by omega)).1; omega)), hh_y (by omega)]); exact (by rw [a_up_ne (Or.inr z)]; exact r7.1 x a (by omega)), fun x a b => by rw [a_up_ne (Or.inr (by omega))]; exact r7.2 x (by omega) b⟩) rfl
              skip
              exact lp_630 _ 0 (rowTo K4 (205 + (30 + i).toNat) 256 (itp (K4 (205 + (30 + i).toNat)))) (by omega) (FR.rfl') (fun _ _ _ => rfl) (⟨fun x a b => by omega, fun x a b => w7 x (by omega) b⟩) rfl
            · skip
              refine aw_aload_n d_Mo_dsaVerify_536 rfl rfl ?_
              refine aw_aload_n d_Mo_dsaVerify_537 rfl rfl ?_
              refine aw_aload_n d_Mo_dsaVerify_538 rfl rfl ?_
              refine ax_getR (b := 204) d_Mo_dsaVerify_539 fd_Mo_76 (k_175 S) (r_175_28 S) ?_
              refine aw_bipush d_Mo_dsaVerify_542 ⟨by decide, by decide⟩ (by decide) ?_
              refine ax_aald (b := 252) d_Mo_dsaVerify_544 ⟨by rw [(k_204 S)]; decide, by rw [(k_204 S)]; decide⟩ (by omega) (by rw [n_204 S]; omega) (g_204 S (j := 47) (by decide) (by decide)) ?_
              refine aw_aload_n d_Mo_dsaVerify_545 rfl rfl ?_
              refine ax_getR (b := 177) d_Mo_dsaVerify_546 fd_Mo_15 (k_175 S) (r_175_1 S) ?_
              refine aw_iconst d_Mo_dsaVerify_549 ⟨by decide, by decide⟩ ?_
              refine ax_aald (b := 179) d_Mo_dsaVerify_550 ⟨by rw [(k_177 S)]; decide, by rw [(k_177 S)]; decide⟩ (by omega) (by rw [n_177 S]; omega) (g_177 S (j := 1) (by decide) (by decide)) ?_
              refine aw_iconst d_Mo_dsaVerify_551 ⟨by decide, by decide⟩ ?_
              refine aw_iload d_Mo_dsaVerify_552 rfl ?_
              refine aw_iload d_Mo_dsaVerify_554 rfl ?_
              refine ax_Vr (st := [vr 175]) (as := [vr 252, vr 179, vi 0, vi j, vi i]) (b := 175) d_Mo_dsaVerify_556 cs_Mo_dsaVerify_556 (k_175 S) (by have z := c_Mo_sampleWide (l := l) (G := G) (I := K4) (L := M4) (f := 252) (r := 179) (pa := 0) (x := j) (y := i) S D4.1 ⟨k_252 S, by decide, n_252 S⟩ (by decide) ⟨k_179 S, by decide, by decide⟩ (by rw [n_179 S]; decide); rw [wide_pk pk4 b2 (by decide)] at z; exact z) rfl rfl rfl (fun u_556 q_556 => ?_)
              obtain ⟨I6, L6⟩ := u_556
              obtain ⟨f6, r6⟩ := q_556
              dsimp only at f6 r6 ⊢
              by_cases ok_556 : (wide (rpR I) j i).2.1 = 256
              · skip
                rw [if_pos ok_556]
                show AW l G M_Mo_dsaVerify P 559 [(5, vi j), (4, vi i), (0, vr 175)] [vi 1, vr 175] (sD h I6 L6)
                refine aw_iconst d_Mo_dsaVerify_559 ⟨by decide, by decide⟩ ?_
                refine ax_V (st := []) (as := [vi 1, vi 4]) (b := 175) (v := some (vi 1)) (h' := sD h (a_up I6 175 4 0) L6) d_Mo_dsaVerify_560 cs_Mo_dsaVerify_560 (k_175 S) (c_good1 S rfl) rfl rfl rfl ?_
                show AW l G M_Mo_dsaVerify P 563 [(5, vi j), (4, vi i), (0, vr 175)] [vi 1] (sD h (a_up I6 175 4 0) L6)
                refine aw_if_ne (tgt := 568) d_Mo_dsaVerify_563 (by decide) (fun c_563 => ?_) (fun c_563 => False.elim (by omega))
                refine aw_aload_n d_Mo_dsaVerify_568 rfl rfl ?_
                refine ax_getR (b := 204) d_Mo_dsaVerify_569 fd_Mo_76 (k_175 S) (r_175_28 S) ?_
                refine aw_bipush d_Mo_dsaVerify_572 ⟨by decide, by decide⟩ (by decide) ?_
                refine aw_iload d_Mo_dsaVerify_574 rfl ?_
                refine ax_iadd d_Mo_dsaVerify_576 ⟨(by omega), (by omega)⟩ ?_
                refine ax_aald (b := 205 + (30 + i).toNat) d_Mo_dsaVerify_577 ⟨by rw [(k_204 S)]; decide, by rw [(k_204 S)]; decide⟩ (by omega) (by rw [n_204 S]; omega) (g_204 S (by omega) (by omega)) ?_
                refine aw_aload_n d_Mo_dsaVerify_578 rfl rfl ?_
                refine ax_getR (b := 204) d_Mo_dsaVerify_579 fd_Mo_76 (k_175 S) (r_175_28 S) ?_
                refine aw_bipush d_Mo_dsaVerify_582 ⟨by decide, by decide⟩ (by decide) ?_
                refine ax_aald (b := 252) d_Mo_dsaVerify_584 ⟨by rw [(k_204 S)]; decide, by rw [(k_204 S)]; decide⟩ (by omega) (by rw [n_204 S]; omega) (g_204 S (j := 47) (by decide) (by decide)) ?_
                refine aw_aload_n d_Mo_dsaVerify_585 rfl rfl ?_
                refine ax_getR (b := 204) d_Mo_dsaVerify_586 fd_Mo_76 (k_175 S) (r_175_28 S) ?_
                refine aw_iload d_Mo_dsaVerify_589 rfl ?_
                refine ax_aald (b := 205 + j.toNat) d_Mo_dsaVerify_591 ⟨by rw [(k_204 S)]; decide, by rw [(k_204 S)]; decide⟩ (by omega) (by rw [n_204 S]; omega) (g_204 S (by omega) (by omega)) ?_
                refine ax_S (st := []) (as := [vr (205 + (30 + i).toNat), vr 252, vr (205 + j.toNat)]) (v := none) (h' := sD h (rowTo (a_up I6 175 4 0) (205 + (30 + i).toNat) 256 (fun x => ((a_up I6 175 4 0) (205 + (30 + i).toNat) x + (a_up I6 175 4 0) 252 x * (a_up I6 175 4 0) (205 + j.toNat) x) % 8380417)) L6) d_Mo_dsaVerify_592 cs_Mo_dsaVerify_592 (c_Mo_addProducts ⟨kr_204 S (by omega), by omega, nr_204 S (by omega)⟩ ⟨k_252 S, by decide, n_252 S⟩ ⟨kr_204 S (by omega), by omega, nr_204 S (by omega)⟩ (fun x a b => by rw [a_up_ne (Or.inl (by omega)), f6.1 _ x (Or.inl (by omega)) (by omega), r4 x a b]; show 0 ≤ _ % 8380417 ∧ _ % 8380417 < 8380417; exact ⟨Int.emod_nonneg _ (by decide), Int.emod_lt_of_pos _ (by decide)⟩) (fun x a b => by rw [a_up_ne (Or.inl (by decide)), r6 x a (by rw [ok_556]; exact b)]; exact wide_b.2 x) (fun x a b => by rw [a_up_ne (Or.inl (by omega)), f6.1 _ x (Or.inl (by omega)) (by omega), z4 _ x (by omega) (by omega), F2.1 _ x (by omega) (Or.inl (by omega)), hZ j hj.1 (by omega) x a b]; exact fwd_in vfZ_in x a b)) rfl rfl rfl ?_
                show AW l G M_Mo_dsaVerify P 595 [(5, vi j), (4, vi i), (0, vr 175)] [] (sD h (rowTo (a_up I6 175 4 0) (205 + (30 + i).toNat) 256 (fun x => ((a_up I6 175 4 0) (205 + (30 + i).toNat) x + (a_up I6 175 4 0) 252 x * (a_up I6 175 4 0) (205 + j.toNat) x) % 8380417)) L6)
                refine ax_iinc (lv' := [(5, vi (j + 1)), (4, vi i), (0, vr 175)]) d_Mo_dsaVerify_595 rfl (by decide) ⟨(by omega), (by omega)⟩ rfl ?_
                refine aw_goto (tgt := 527) d_Mo_dsaVerify_598 (by decide) ?_
                exact ih_527 _ (by omega) (j + 1) (rowTo (a_up I6 175 4 0) (205 + (30 + i).toNat) 256 (fun x => ((a_up I6 175 4 0) (205 + (30 + i).toNat) x + (a_up I6 175 4 0) 252 x * (a_up I6 175 4 0) (205 + j.toNat) x) % 8380417)) L6 (by omega) (((F4.tr (FR.smp (p := fun a => a = 205 + (30 + i).toNat ∨ a = 252) f6 (by omega)) (fun a x => ⟨x, x⟩)).tr (FR.c0 (p := fun a => a = 205 + (30 + i).toNat ∨ a = 252)) (fun a x => ⟨x, x⟩)).tr (FR.row (p := fun a => a = 205 + (30 + i).toNat ∨ a = 252) (by omega) (fun _ _ _ => rfl)) (fun a x => ⟨x, x⟩)) (fun x a b => by rw [rowTo_in a b, a_up_ne (Or.inl (by omega)), a_up_ne (Or.inl (by decide)), a_up_ne (Or.inl (by omega)), f6.1 _ x (Or.inl (by omega)) (by omega), r4 x a b, r6 x a (by rw [ok_556]; exact b), f6.1 _ x (Or.inl (by omega)) (by omega), z4 _ x (by omega) (by omega), F2.1 _ x (by omega) (Or.inl (by omega)), hZ j hj.1 (by omega) x a b, show (j + 1).toNat = j.toNat + 1 by omega]; show _ = (_ + (pS (sgA 0 (rpR I)) (fun j => fwd rt ((vfZ 0 (rgR I)) j)) (i * 4) x j.toNat + (sgA 0 (rpR I)) (i * 4 + (j.toNat : Int)) x * (fwd rt ((vfZ 0 (rgR I)) (j.toNat : Int)) x))) % 8380417; rw [Int.toNat_of_nonneg hj.1, show (sgA 0 (rpR I)) (i * 4 + j) x = (wide (rpR I) j i).2.2 x from by unfold sgA; rw [show pL 0 = 4 from rfl, show (i * 4 + j) % 4 = j by omega, show (i * 4 + j) / 4 = i by omega], ← Int.add_assoc]; exact Int.emod_add_emod _ _ _) (fun m a b => by by_cases z : m = j; exact (by rw [z]; exact ok_556); exact okJ m a (by omega)) (by rw [rowTo_ne (by omega), a_up_at]) (by rw [rowTo_ne (by omega), a_up_ne (Or.inr (by decide)), f6.1 175 23 (Or.inr (by decide)) (by decide)]; exact b4) rfl
              · skip
                rw [if_neg ok_556]
                show AW l G M_Mo_dsaVerify P 559 [(5, vi j), (4, vi i), (0, vr 175)] [vi 0, vr 175] (sD h I6 L6)
                refine aw_iconst d_Mo_dsaVerify_559 ⟨by decide, by decide⟩ ?_
                refine ax_V (st := []) (as := [vi 0, vi 4]) (b := 175) (v := some (vi 0)) (h' := sD h (a_up I6 175 4 4) L6) d_Mo_dsaVerify_560 cs_Mo_dsaVerify_560 (k_175 S) (c_good0 S rfl) rfl rfl rfl ?_
                show AW l G M_Mo_dsaVerify P 563 [(5, vi j), (4, vi i), (0, vr 175)] [vi 0] (sD h (a_up I6 175 4 4) L6)
                refine aw_if_ne (tgt := 568) d_Mo_dsaVerify_563 (by decide) (fun c_563 => False.elim (by omega)) (fun c_563 => ?_)
                refine aw_iconst d_Mo_dsaVerify_566 ⟨by decide, by decide⟩ ?_
                exact aw_zret d_Mo_dsaVerify_567 rfl ⟨by decide, by decide⟩ (hP _ _ (rsNo 0 4 (c4_4 ⟨by decide, by decide⟩ b1 b2 (fun z => ok_556 (by have y := (z pre).2 (i * 4 + j) (by omega) (by show i * 4 + j < 16; omega); rw [show pL 0 = 4 from rfl, show (i * 4 + j) % 4 = j by omega, show (i * 4 + j) / 4 = i by omega] at y; exact y))) (by decide) a_up_at (fR0.fr (fR0.fr (fR0.fr (fR0.fr (fR0.fr (fR0.fr R0 F2 (r := qN) (by intro a x y; exact ⟨fun z => z, by omega⟩) (by omega)) F3 (r := qN) (by intro a x y; exact ⟨fun z => z, by omega⟩) (by decide)) F3b (r := qN) (by intro a x y; exact ⟨fun z => z, by omega⟩) (by omega)) F4 (r := qN) (by intro a x y; exact ⟨fun z => z, by omega⟩) (by omega)) (FR.smp (p := fun a => a = 252) f6 rfl) (r := qN) (by intro a x y; exact ⟨fun z => z, by omega⟩) (by decide)) (FR.c0 (p := fun _ => False)) (by intro a x y; exact ⟨fun z => z, fun z => z⟩) (fun z => z))))
          skip
          exact lp_527 _ 0 (rowTo (rowTo (rowTo K3 250 256 (eva (K3 250))) (205 + (30 + i).toNat) 256 (fun _ => 0)) (205 + (30 + i).toNat) 256 (fun x => ((rowTo (rowTo K3 250 256 (eva (K3 250))) (205 + (30 + i).toNat) 256 (fun _ => 0)) (205 + (30 + i).toNat) x + (rowTo (rowTo K3 250 256 (eva (K3 250))) (205 + (30 + i).toNat) 256 (fun _ => 0)) 250 x * (rowTo (rowTo K3 250 256 (eva (K3 250))) (205 + (30 + i).toNat) 256 (fun _ => 0)) 251 x) % 8380417)) u_481 (by omega) (FR.rfl') (fun x a b => by rw [rowTo_in a b, rowTo_in a b, rowTo_ne (by omega), rowTo_in a b, rowTo_ne (by omega), rowTo_ne (by decide), F3.1 251 x (by decide) (Or.inl (by decide)), F2.1 251 x (by omega) (Or.inl (by decide)), hB x a b]; show (0 + _) % _ = (_ + 0) % _; rw [Int.zero_add, Int.add_zero]) (fun m a b => by omega) (by rw [rowTo_ne (by omega), rowTo_ne (by omega), rowTo_ne (by omega)]; exact h43) (by rw [rowTo_ne (by omega), rowTo_ne (by omega), rowTo_ne (by omega), b3]; omega) rfl
        · skip
          refine aw_aload_n d_Mo_dsaVerify_425 rfl rfl ?_
          refine ax_getR (b := 204) d_Mo_dsaVerify_426 fd_Mo_76 (k_175 S) (r_175_28 S) ?_
          refine aw_bipush d_Mo_dsaVerify_429 ⟨by decide, by decide⟩ (by decide) ?_
          refine ax_aald (b := 250) d_Mo_dsaVerify_431 ⟨by rw [(k_204 S)]; decide, by rw [(k_204 S)]; decide⟩ (by omega) (by rw [n_204 S]; omega) (g_204 S (j := 45) (by decide) (by decide)) ?_
          refine aw_iload d_Mo_dsaVerify_432 rfl ?_
          have tp_ := tpF_in (g := (rpR I)) (i := i) c hc.1 (by omega)
          have tp_ : 0 ≤ gR (fun k => rpR I (32 + 320 * i + k)) 10 c * 8192 ∧ gR (fun k => rpR I (32 + 320 * i + k)) 10 c * 8192 < 8380417 := tp_
          refine aw_ldc2 (n := 8380417) d_Mo_dsaVerify_434 lc_Mo_256 ⟨by decide, by decide⟩ ?_
          refine aw_aload_n d_Mo_dsaVerify_437 rfl rfl ?_
          refine aw_aload_n d_Mo_dsaVerify_438 rfl rfl ?_
          refine ax_getR (b := 177) d_Mo_dsaVerify_439 fd_Mo_15 (k_175 S) (r_175_1 S) ?_
          refine aw_iconst d_Mo_dsaVerify_442 ⟨by decide, by decide⟩ ?_
          refine ax_aald (b := 179) d_Mo_dsaVerify_443 ⟨by rw [(k_177 S)]; decide, by rw [(k_177 S)]; decide⟩ (by omega) (by rw [n_177 S]; omega) (g_177 S (j := 1) (by decide) (by decide)) ?_
          refine aw_bipush d_Mo_dsaVerify_444 ⟨by decide, by decide⟩ (by decide) ?_
          refine aw_bipush d_Mo_dsaVerify_446 ⟨by decide, by decide⟩ (by decide) ?_
          refine ax_V (st := [vl 8380417, vi c, vr 250]) (as := [vr 179, vi 32, vi 10]) (b := 175) (v := some (vi (bV (fun j => K3 179 (32 + 320 * i + j) % 256) 8 (32 * 10) / 2 ^ (10 * c.toNat) % 2 ^ 10))) (h' := sD h (a_up K3 175 23 (8 * (320 * i) + ((10 * c.toNat : Nat) : Int) + 10)) M2) d_Mo_dsaVerify_448 cs_Mo_dsaVerify_448 (k_175 S) (c_Mo_takeBits (q := 10 * c.toNat) (N := 32 * 10) (c := 320 * i) (d := 10) S ⟨k_179 S, by decide⟩ (by decide) (by omega) (by rw [n_179 S]; omega)) rfl rfl rfl ?_
          show AW l G M_Mo_dsaVerify P 451 [(5, vi c), (4, vi i), (0, vr 175)] [vi (bV (fun j => K3 179 (32 + 320 * i + j) % 256) 8 (32 * 10) / 2 ^ (10 * c.toNat) % 2 ^ 10), vl 8380417, vi c, vr 250] (sD h (a_up K3 175 23 (8 * (320 * i) + ((10 * c.toNat : Nat) : Int) + 10)) M2)
          refine ax_ti (x := gR (fun k => rpR I (32 + 320 * i + k)) 10 c) (by show gR (fun j => K3 179 (32 + 320 * i + j) % 256) 10 c = _; exact gR_congr (fun y y0 y1 => by rw [pk3, rp_in (show I 186 1 = 1312 from b2) (by omega) (by omega)])) ?_
          refine aw_i2l d_Mo_dsaVerify_451 ?_
          refine aw_ldc2 (n := 8192) d_Mo_dsaVerify_452 lc_Mo_364 ⟨by decide, by decide⟩ ?_
          refine ax_lmul d_Mo_dsaVerify_455 ⟨(by omega), (by omega)⟩ ?_
          refine aw_ldc2 (n := 8380417) d_Mo_dsaVerify_456 lc_Mo_256 ⟨by decide, by decide⟩ ?_
          refine ax_lrem d_Mo_dsaVerify_459 (by omega) (by omega) ?_
          refine ax_lsub d_Mo_dsaVerify_460 ⟨(by omega), (by omega)⟩ ?_
          refine ax_l2i d_Mo_dsaVerify_461 ⟨(by omega), (by omega)⟩ ?_
          refine aw_ldcw (n := 8380417) d_Mo_dsaVerify_462 lc_Mo_264 ⟨by decide, by decide⟩ ?_
          refine ax_irem d_Mo_dsaVerify_465 (by omega) (by omega) ?_
          refine ax_iast d_Mo_dsaVerify_466 (k_250 S) (by decide) (by omega) (by rw [n_250 S]; omega) ?_
          refine ax_iinc (lv' := [(5, vi (c + 1)), (4, vi i), (0, vr 175)]) d_Mo_dsaVerify_467 rfl (by decide) ⟨(by omega), (by omega)⟩ rfl ?_
          refine aw_goto (tgt := 417) d_Mo_dsaVerify_470 (by decide) ?_
          exact ih_417 _ (by omega) (c + 1) (a_up (a_up K3 175 23 (8 * (320 * i) + ((10 * c.toNat : Nat) : Int) + 10)) 250 c ((8380417 - (((gR (fun k => rpR I (32 + 320 * i + k)) 10 c) * 8192) % 8380417)) % 8380417)) (by omega) ((F3.tr (FR.b0 (p := fun a => a = 250)) (fun a x => ⟨x, x⟩)).tr (FR.up (p := fun a => a = 250) rfl) (fun a x => ⟨x, x⟩)) (by rw [a_up_ne (Or.inl (by decide)), a_up_at]; omega) (fun x a b => by by_cases z : x = c; exact (by rw [z, a_up_at]); exact (by rw [a_up_ne (Or.inr z), a_up_ne (Or.inl (by decide))]; exact x3 x a (by omega))) (by rw [a_up_ne (Or.inl (by decide)), a_up_ne (Or.inr (by decide))]; exact h43) rfl
      skip
      exact lp_417 _ 0 K2 (by omega) (FR.rfl') (by omega) (fun x a b => by omega) (h42) rfl
  skip
  exact lp_405 _ 0 K M (by omega) (FR.rfl') (b0) (fun m a b => by omega) (fun m a b => by omega) (h4) rfl
set_option maxHeartbeats 800000 in
set_option maxRecDepth 100000 in
theorem vE10 {l : Launch} {G : a_G} {P : a_R → Hp → Prop} {h : Hp} {I L K M : Nat → Int → Int} (S : Shp h) (R0 : fR0 qN I L K M) (D : RD K M 1) (rg : ∀ j, -128 ≤ I 183 j ∧ I 183 j ≤ 127) (b1 : (0 : Int) ≠ 0 ∨ I 186 4 ≤ 255) (b2 : I 186 1 = 32 + 320 * pK 1) (pre : vfPre 1 (rgR I) (I 186 5)) (vok : vfOk 1 (rpR I) (rgR I)) (hH : ∀ m, 0 ≤ m → m < 6 → eqQ (K (205 + (30 + m).toNat)) ((fun m j => hvV (rgR I) 3248 55 261888 16 m j ((vfW 1 (rpR I) (rgR I)) m j)) m)) (hm : HR K 265 0 64 (muW I (0 : Int))) (h4 : K 175 4 = 0) (hP : ∀ r_ h2_, RsR h I L (c4 ((0 ≤ (1 : Int) ∧ (1 : Int) < 3) ∧ ((0 : Int) = 0 ∨ (0 : Int) = -1)) ((0 : Int) ≠ 0 ∨ I 186 4 ≤ 255) (I 186 1 = 32 + 320 * pK (1 : Int)) (vfPre (1 : Int) (rgR I) (I 186 5) → vfOk (1 : Int) (rpR I) (rgR I))) (fun a => a = 184 ∨ a = 186) (fun v I' L' => (¬ vfPre (1 : Int) (rgR I) (I 186 5) ∧ v = 0 ∧ fR0 qN I L I' L') ∨ (vfPre (1 : Int) (rgR I) (I 186 5) ∧ ((∀ j, j ≠ 6 → I' 186 j = I 186 j) ∧ I' 186 6 = pC (1 : Int)) ∧ (HR I' 184 0 (pC (1 : Int)) (vfC (1 : Int) (rpR I) (rgR I) (muW I (0 : Int))) ∧ rng (I 184) (I' 184)) ∧ (v = 0 ∨ v = 1) ∧ (v = 1 ↔ ∀ j, 0 ≤ j → j < pC (1 : Int) → vfC (1 : Int) (rpR I) (rgR I) (muW I (0 : Int)) j = rgR I j))) r_ h2_ → P r_ h2_) : AW l G M_Mo_dsaVerify P 732 [(0, vr 175)] [] (sD h K M) := by
  refine aw_aload_n d_Mo_dsaVerify_732 rfl rfl ?_
  refine aw_bipush d_Mo_dsaVerify_733 ⟨by decide, by decide⟩ (by decide) ?_
  refine aw_aload_n d_Mo_dsaVerify_735 rfl rfl ?_
  refine ax_getR (b := 267) d_Mo_dsaVerify_736 fd_Mo_99 (k_175 S) (r_175_43 S) ?_
  refine ax_Vr (st := []) (as := [vi 30, vr 267]) (b := 175) d_Mo_dsaVerify_739 cs_Mo_dsaVerify_739 (k_175 S) (c_Mo_challengeR1_30 (mu := (muW I (0 : Int))) (X := (fun m j => hvV (rgR I) 3248 55 261888 16 m j ((vfW 1 (rpR I) (rgR I)) m j))) S D hH (fun m a b j x y => by have := hvV_b (g := (rgR I)) (o3 := 3248) (w := 55) (i := m) (j := j) (vfW_in (s := 1) (pk := (rpR I)) (g := (rgR I)) (m := m) j x y); show 0 ≤ hvV (rgR I) 3248 55 261888 16 m j ((vfW 1 (rpR I) (rgR I)) m j) ∧ hvV (rgR I) 3248 55 261888 16 m j ((vfW 1 (rpR I) (rgR I)) m j) < 2 ^ 4; omega) hm (fun k _ _ => spOut_m _ _)) rfl rfl rfl (fun u_739 q_739 => ?_)
  obtain ⟨I1, L1⟩ := u_739
  obtain ⟨F1, h1, g1_, z4_⟩ := q_739
  dsimp only at F1 h1 g1_ z4_
  have h1 : HR I1 267 0 48 (vfC 1 (rpR I) (rgR I) (muW I (0 : Int))) := h1
  have D1 := D.fr F1 (by decide)
  have c41 : I1 175 4 = 0 := z4_.trans h4
  show AW l G M_Mo_dsaVerify P 742 [(0, vr 175)] [] (sD h I1 L1)
  refine aw_aload_n d_Mo_dsaVerify_742 rfl rfl ?_
  refine ax_getR (b := 267) d_Mo_dsaVerify_743 fd_Mo_99 (k_175 S) (r_175_43 S) ?_
  refine aw_iconst d_Mo_dsaVerify_746 ⟨by decide, by decide⟩ ?_
  refine aw_aload_n d_Mo_dsaVerify_747 rfl rfl ?_
  refine ax_getR (b := 177) d_Mo_dsaVerify_748 fd_Mo_15 (k_175 S) (r_175_1 S) ?_
  refine aw_bipush d_Mo_dsaVerify_751 ⟨by decide, by decide⟩ (by decide) ?_
  refine ax_aald (b := 184) d_Mo_dsaVerify_753 ⟨by rw [(k_177 S)]; decide, by rw [(k_177 S)]; decide⟩ (by omega) (by rw [n_177 S]; omega) (g_177 S (j := 6) (by decide) (by decide)) ?_
  refine aw_iconst d_Mo_dsaVerify_754 ⟨by decide, by decide⟩ ?_
  refine aw_aload_n d_Mo_dsaVerify_755 rfl rfl ?_
  refine ax_getIe (x := 48) d_Mo_dsaVerify_756 fd_Mo_248 (k_175 S) (dr1_38 D1) ?_
  refine ax_S (st := []) (as := [vr 267, vi 0, vr 184, vi 0, vi 48]) (v := none) (h' := sD h (putRow I1 184 0 48 (fun k => I1 267 (0 + k))) L1) d_Mo_dsaVerify_759 cs_Mo_dsaVerify_759 (c_Mo_move ⟨k_267 S, by decide⟩ ⟨k_184 S, by decide, trivial⟩ (by decide) (by rw [n_267 S, n_184 S]; omega)) rfl rfl rfl ?_
  show AW l G M_Mo_dsaVerify P 762 [(0, vr 175)] [] (sD h (putRow I1 184 0 48 (fun k => I1 267 (0 + k))) L1)
  refine aw_aload_n d_Mo_dsaVerify_762 rfl rfl ?_
  refine ax_getR (b := 186) d_Mo_dsaVerify_763 fd_Mo_18 (k_175 S) (r_175_2 S) ?_
  refine aw_bipush d_Mo_dsaVerify_766 ⟨by decide, by decide⟩ (by decide) ?_
  refine aw_aload_n d_Mo_dsaVerify_768 rfl rfl ?_
  refine ax_getIe (x := 48) d_Mo_dsaVerify_769 fd_Mo_248 (k_175 S) (Eq.trans (putRow_ne (by decide)) (dr1_38 D1)) ?_
  refine ax_iast d_Mo_dsaVerify_772 (k_186 S) (by decide) (by omega) (by rw [n_186 S]; omega) ?_
  refine aw_aload_n d_Mo_dsaVerify_773 rfl rfl ?_
  refine ax_getR (b := 267) d_Mo_dsaVerify_774 fd_Mo_99 (k_175 S) (r_175_43 S) ?_
  refine aw_iconst d_Mo_dsaVerify_777 ⟨by decide, by decide⟩ ?_
  refine aw_aload_n d_Mo_dsaVerify_778 rfl rfl ?_
  refine ax_getR (b := 177) d_Mo_dsaVerify_779 fd_Mo_15 (k_175 S) (r_175_1 S) ?_
  refine aw_iconst d_Mo_dsaVerify_782 ⟨by decide, by decide⟩ ?_
  refine ax_aald (b := 183) d_Mo_dsaVerify_783 ⟨by rw [(k_177 S)]; decide, by rw [(k_177 S)]; decide⟩ (by omega) (by rw [n_177 S]; omega) (g_177 S (j := 5) (by decide) (by decide)) ?_
  refine aw_iconst d_Mo_dsaVerify_784 ⟨by decide, by decide⟩ ?_
  refine aw_aload_n d_Mo_dsaVerify_785 rfl rfl ?_
  refine ax_getIe (x := 48) d_Mo_dsaVerify_786 fd_Mo_248 (k_175 S) (Eq.trans (a_up_ne (Or.inl (by decide))) (Eq.trans (putRow_ne (by decide)) (dr1_38 D1))) ?_
  refine ax_Sr (st := []) (as := [vr 267, vi 0, vr 183, vi 0, vi 48]) d_Mo_dsaVerify_789 cs_Mo_dsaVerify_789 (c_Mo_alike ⟨k_267 S, by decide⟩ ⟨k_183 S, by decide⟩ (by rw [n_267 S, n_183 S]; decide)) rfl rfl rfl (fun u_789 q_789 => ?_)
  obtain ⟨ao, aa⟩ := q_789
  have l5 : I 186 5 = 3309 := pre.1
  have r183 : ∀ j, (a_up (putRow I1 184 0 48 (fun k => I1 267 (0 + k))) 186 6 48) 183 j = I 183 j := fun j => by rw [a_up_ne (Or.inl (by decide)), putRow_ne (by decide), F1.1 183 j (by decide) (Or.inl (by decide))]; exact R0.1 183 j (by omega) (fun z => z)
  have r267 : ∀ j, (a_up (putRow I1 184 0 48 (fun k => I1 267 (0 + k))) 186 6 48) 267 j = I1 267 j := fun j => by rw [a_up_ne (Or.inl (by decide)), putRow_ne (by decide)]
  have am : u_789 = 1 ↔ ∀ j, 0 ≤ j → j < 48 → (vfC 1 (rpR I) (rgR I) (muW I (0 : Int))) j = rgR I j := aa.trans ⟨fun z j x y => by have w_ := z j x y; rw [r183, r267] at w_; rw [← h1 j x y, w_, Int.zero_add, rg_in l5 x (by omega)], fun z j x y => by have w_ := z j x y; rw [← h1 j x y] at w_; have g_ := g1_ j x y; have r_ := rg (0 + j); rw [r183, r267]; rw [rg_in l5 x (by omega)] at w_; rw [Int.zero_add] at *; omega⟩
  show AW l G M_Mo_dsaVerify P 792 [(0, vr 175)] [vi u_789] (sD h (a_up (putRow I1 184 0 48 (fun k => I1 267 (0 + k))) 186 6 48) L1)
  exact aw_zret d_Mo_dsaVerify_792 rfl (by omega) (hP _ _ ⟨_, _, _, rfl, rfl, by rw [a_up_ne (Or.inl (by decide)), putRow_ne (by decide), c41, c4_0 ⟨by decide, by decide⟩ b1 b2 (fun _ => vok)], Or.inl ⟨c4_0 ⟨by decide, by decide⟩ b1 b2 (fun _ => vok), fR0.fr (fR0.fr (fR0.fr R0 F1 (r := qN) (by intro a x y; exact ⟨fun z => z, by omega⟩) (by decide)) (FR.put (p := fun a => a = 184) rfl) (r := fun a => a = 184 ∨ a = 186) (by intro a x y; exact ⟨fun z => z, by omega⟩) (by decide)) (FR.up (p := fun a => a = 186) rfl) (by intro a x y; exact ⟨y, by omega⟩) (by decide), Or.inr ⟨pre, ⟨fun j x => by rw [a_up_ne (Or.inr x), putRow_ne (by decide), F1.1 186 j (by decide) (Or.inl (by decide))]; exact R0.1 186 j (by omega) (fun z => z), by rw [a_up_at]; rfl⟩, ⟨fun z x y => by rw [a_up_ne (Or.inl (by decide))]; exact HR.put (g' := (vfC 1 (rpR I) (rgR I) (muW I (0 : Int)))) (fun z x y => h1 z x y) z x y, fun j => by rw [a_up_ne (Or.inl (by decide))]; have z := rng.p (I := I1) (f := 184) (o := 0) (n := 48) (g := fun k => I1 267 (0 + k)) j; rw [show I1 184 j = I 184 j from (F1.1 184 j (by decide) (Or.inl (by decide))).trans (R0.1 184 j (by omega) (fun z => z))] at z; exact z⟩, ao, am⟩⟩⟩)
set_option maxHeartbeats 4000000 in
set_option maxRecDepth 100000 in
theorem vD10 {l : Launch} {G : a_G} {P : a_R → Hp → Prop} {h : Hp} {I L K M : Nat → Int → Int} (S : Shp h) (R0 : fR0 qN I L K M) (D : RD K M 1) (rg : ∀ j, -128 ≤ I 183 j ∧ I 183 j ≤ 127) (b1 : (0 : Int) ≠ 0 ∨ I 186 4 ≤ 255) (b2 : I 186 1 = 32 + 320 * pK 1) (pre : vfPre 1 (rgR I) (I 186 5)) (bn : bll 49 (vfBs 1 (rgR I)) ≠ none) (hB : eqQ (K 251) (vfB 1 (rgR I))) (hZ : ∀ m, 0 ≤ m → m < 5 → eqQ (K (205 + m.toNat)) (fwd rt ((vfZ 1 (rgR I)) m))) (b0 : K 175 23 = 8 * (320 * 0)) (hm : HR K 265 0 64 (muW I (0 : Int))) (h4 : K 175 4 = 0) (tb : ∀ m, 0 ≤ m → m < 6 → tbl K (rgR I) 3248 55 m) (hP : ∀ r_ h2_, RsR h I L (c4 ((0 ≤ (1 : Int) ∧ (1 : Int) < 3) ∧ ((0 : Int) = 0 ∨ (0 : Int) = -1)) ((0 : Int) ≠ 0 ∨ I 186 4 ≤ 255) (I 186 1 = 32 + 320 * pK (1 : Int)) (vfPre (1 : Int) (rgR I) (I 186 5) → vfOk (1 : Int) (rpR I) (rgR I))) (fun a => a = 184 ∨ a = 186) (fun v I' L' => (¬ vfPre (1 : Int) (rgR I) (I 186 5) ∧ v = 0 ∧ fR0 qN I L I' L') ∨ (vfPre (1 : Int) (rgR I) (I 186 5) ∧ ((∀ j, j ≠ 6 → I' 186 j = I 186 j) ∧ I' 186 6 = pC (1 : Int)) ∧ (HR I' 184 0 (pC (1 : Int)) (vfC (1 : Int) (rpR I) (rgR I) (muW I (0 : Int))) ∧ rng (I 184) (I' 184)) ∧ (v = 0 ∨ v = 1) ∧ (v = 1 ↔ ∀ j, 0 ≤ j → j < pC (1 : Int) → vfC (1 : Int) (rpR I) (rgR I) (muW I (0 : Int)) j = rgR I j))) r_ h2_ → P r_ h2_) : AW l G M_Mo_dsaVerify P 402 [(0, vr 175)] [] (sD h K M) := by
  refine aw_iconst d_Mo_dsaVerify_402 ⟨by decide, by decide⟩ ?_
  refine aw_istore (lv' := [(4, vi 0), (0, vr 175)]) d_Mo_dsaVerify_403 (by decide) rfl ?_
  have lp_405 : ∀ (n_ : Nat) (i : Int) (K2 : Nat → Int → Int) (M2 : Nat → Int → Int), (0 ≤ i ∧ i ≤ 6) → (FR (fun a => a = 250 ∨ a = 252 ∨ 235 ≤ a ∧ a ≤ 242) K M K2 M2) → (K2 175 23 = 8 * (320 * i)) → (∀ m, 0 ≤ m → m < i → eqQ (K2 (205 + (30 + m).toNat)) ((fun m j => hvV (rgR I) 3248 55 261888 16 m j ((vfW 1 (rpR I) (rgR I)) m j)) m)) → (∀ m, 0 ≤ m → m < 5 * i → (wide (rpR I) (m % 5) (m / 5)).2.1 = 256) → (K2 175 4 = 0) → ((6 - i).toNat) = n_ → AW l G M_Mo_dsaVerify P 405 [(4, vi i), (0, vr 175)] [] (sD h K2 M2) := by
    intro n_
    induction n_ using Nat.strongRecOn with
    | _ n_ ih_405 =>
    intro i K2 M2 hi F2 bb dn okA h42 hm_405
    have pk2 : ∀ x, K2 179 x = I 179 x := fun x => (F2.1 179 x (by omega) (Or.inl (by decide))).trans (R0.1 179 x (by omega) (fun z => z))
    refine aw_iload d_Mo_dsaVerify_405 rfl ?_
    refine aw_aload_n d_Mo_dsaVerify_407 rfl rfl ?_
    refine ax_getIe (x := 6) d_Mo_dsaVerify_408 fd_Mo_223 (k_175 S) (Eq.trans (F2.1 175 26 (by omega) (Or.inr (by decide))) (dr1_26 D)) ?_
    refine aw_icmp_ge (tgt := 732) d_Mo_dsaVerify_411 (by decide) (fun c_411 => ?_) (fun c_411 => ?_)
    · skip
      refine aw_sub (lv' := [(0, vr 175)]) (by simp) ?_
      exact vE10 S (fR0.fr R0 F2 (by intro a x y; exact ⟨fun z => z, by omega⟩) (by omega)) (D.fr F2 (by omega)) rg b1 b2 pre ⟨bn, fun m a b => okA m a (by have b2 : m < 30 := b; omega)⟩ (fun m a b => dn m a (by omega)) (hm.fr F2 (by omega) (by decide)) h42 hP
    · skip
      refine aw_iconst d_Mo_dsaVerify_414 ⟨by decide, by decide⟩ ?_
      refine aw_istore (lv' := [(5, vi 0), (4, vi i), (0, vr 175)]) d_Mo_dsaVerify_415 (by decide) rfl ?_
      have lp_417 : ∀ (n_ : Nat) (c : Int) (K3 : Nat → Int → Int), (0 ≤ c ∧ c ≤ 256) → (FR (fun a => a = 250) K2 M2 K3 M2) → (K3 175 23 = 8 * (320 * i) + 10 * c) → (∀ x, 0 ≤ x → x < c → K3 250 x = (fun x => (8380417 - gR (fun k => rpR I (32 + 320 * i + k)) 10 x * 8192 % 8380417) % 8380417) x) → (K3 175 4 = 0) → ((256 - c).toNat) = n_ → AW l G M_Mo_dsaVerify P 417 [(5, vi c), (4, vi i), (0, vr 175)] [] (sD h K3 M2) := by
        intro n_
        induction n_ using Nat.strongRecOn with
        | _ n_ ih_417 =>
        intro c K3 hc F3 b3 x3 h43 hm_417
        have pk3 : ∀ x, K3 179 x = I 179 x := fun x => by rw [F3.1 179 _ (by decide) (Or.inl (by decide)), pk2]
        refine aw_iload d_Mo_dsaVerify_417 rfl ?_
        refine aw_sipush d_Mo_dsaVerify_419 ⟨by decide, by decide⟩ (by decide) ?_
        refine aw_icmp_ge (tgt := 473) d_Mo_dsaVerify_422 (by decide) (fun c_422 => ?_) (fun c_422 => ?_)
        · skip
          refine aw_aload_n d_Mo_dsaVerify_473 rfl rfl ?_
          refine aw_aload_n d_Mo_dsaVerify_474 rfl rfl ?_
          refine ax_getR (b := 204) d_Mo_dsaVerify_475 fd_Mo_76 (k_175 S) (r_175_28 S) ?_
          refine aw_bipush d_Mo_dsaVerify_478 ⟨by decide, by decide⟩ (by decide) ?_
          refine ax_aald (b := 250) d_Mo_dsaVerify_480 ⟨by rw [(k_204 S)]; decide, by rw [(k_204 S)]; decide⟩ (by omega) (by rw [n_204 S]; omega) (g_204 S (j := 45) (by decide) (by decide)) ?_
          have D3 := (D.fr F2 (by omega)).fr F3 (by decide)
          refine ax_Vr (st := []) (as := [vr 250]) (b := 175) d_Mo_dsaVerify_481 cs_Mo_dsaVerify_481 (k_175 S) (c_Mo_evaluate S ⟨k_250 S, by decide, n_250 S⟩ (by decide) (fun x a b => by rw [x3 x a (by omega)]; show 0 ≤ _ % 8380417 ∧ _ % 8380417 < 8380417; exact ⟨Int.emod_nonneg _ (by decide), Int.emod_lt_of_pos _ (by decide)⟩) D3.2.2) rfl rfl rfl (fun u_481 q_481 => ?_)
          have l5 := q_481
          have ng : ∀ x, 0 ≤ x → x < 256 → cq (eva (K3 250) x) (-(fwd rt (tpF (rpR I) i) x)) := fun x a b => by rw [fwd_eva a b]; exact eva_neg (fun y hy => by rw [x3 y (by omega) (by omega)]; show cq ((8380417 - tpF (rpR I) i y % 8380417) % 8380417) (-(tpF (rpR I) i y)); unfold cq; omega)
          have F3b : FR (fun a => a = 250 ∨ a = 252 ∨ 235 ≤ a ∧ a ≤ 242) K3 M2 (rowTo (rowTo (rowTo K3 250 256 (eva (K3 250))) (205 + (30 + i).toNat) 256 (fun _ => 0)) (205 + (30 + i).toNat) 256 (fun x => ((rowTo (rowTo K3 250 256 (eva (K3 250))) (205 + (30 + i).toNat) 256 (fun _ => 0)) (205 + (30 + i).toNat) x + (rowTo (rowTo K3 250 256 (eva (K3 250))) (205 + (30 + i).toNat) 256 (fun _ => 0)) 250 x * (rowTo (rowTo K3 250 256 (eva (K3 250))) (205 + (30 + i).toNat) 256 (fun _ => 0)) 251 x) % 8380417)) u_481 := ((FR.row (p := fun a => a = 250 ∨ a = 252 ∨ 235 ≤ a ∧ a ≤ 242) (by omega) l5).tr (FR.row (p := fun a => a = 250 ∨ a = 252 ∨ 235 ≤ a ∧ a ≤ 242) (by omega) (fun _ _ _ => rfl)) (fun a x => ⟨x, x⟩)).tr (FR.row (p := fun a => a = 250 ∨ a = 252 ∨ 235 ≤ a ∧ a ≤ 242) (by omega) (fun _ _ _ => rfl)) (fun a x => ⟨x, x⟩)
          show AW l G M_Mo_dsaVerify P 484 [(5, vi c), (4, vi i), (0, vr 175)] [] (sD h (rowTo K3 250 256 (eva (K3 250))) u_481)
          refine aw_aload_n d_Mo_dsaVerify_484 rfl rfl ?_
          refine ax_getR (b := 204) d_Mo_dsaVerify_485 fd_Mo_76 (k_175 S) (r_175_28 S) ?_
          refine aw_bipush d_Mo_dsaVerify_488 ⟨by decide, by decide⟩ (by decide) ?_
          refine aw_iload d_Mo_dsaVerify_490 rfl ?_
          refine ax_iadd d_Mo_dsaVerify_492 ⟨(by omega), (by omega)⟩ ?_
          refine ax_aald (b := 205 + (30 + i).toNat) d_Mo_dsaVerify_493 ⟨by rw [(k_204 S)]; decide, by rw [(k_204 S)]; decide⟩ (by omega) (by rw [n_204 S]; omega) (g_204 S (by omega) (by omega)) ?_
          refine ax_S (st := []) (as := [vr (205 + (30 + i).toNat)]) (v := none) (h' := sD h (rowTo (rowTo K3 250 256 (eva (K3 250))) (205 + (30 + i).toNat) 256 (fun _ => 0)) u_481) d_Mo_dsaVerify_494 cs_Mo_dsaVerify_494 (c_Mo_clear ⟨kr_204 S (by omega), by omega, nr_204 S (by omega)⟩) rfl rfl rfl ?_
          show AW l G M_Mo_dsaVerify P 497 [(5, vi c), (4, vi i), (0, vr 175)] [] (sD h (rowTo (rowTo K3 250 256 (eva (K3 250))) (205 + (30 + i).toNat) 256 (fun _ => 0)) u_481)
          refine aw_aload_n d_Mo_dsaVerify_497 rfl rfl ?_
          refine ax_getR (b := 204) d_Mo_dsaVerify_498 fd_Mo_76 (k_175 S) (r_175_28 S) ?_
          refine aw_bipush d_Mo_dsaVerify_501 ⟨by decide, by decide⟩ (by decide) ?_
          refine aw_iload d_Mo_dsaVerify_503 rfl ?_
          refine ax_iadd d_Mo_dsaVerify_505 ⟨(by omega), (by omega)⟩ ?_
          refine ax_aald (b := 205 + (30 + i).toNat) d_Mo_dsaVerify_506 ⟨by rw [(k_204 S)]; decide, by rw [(k_204 S)]; decide⟩ (by omega) (by rw [n_204 S]; omega) (g_204 S (by omega) (by omega)) ?_
          refine aw_aload_n d_Mo_dsaVerify_507 rfl rfl ?_
          refine ax_getR (b := 204) d_Mo_dsaVerify_508 fd_Mo_76 (k_175 S) (r_175_28 S) ?_
          refine aw_bipush d_Mo_dsaVerify_511 ⟨by decide, by decide⟩ (by decide) ?_
          refine ax_aald (b := 250) d_Mo_dsaVerify_513 ⟨by rw [(k_204 S)]; decide, by rw [(k_204 S)]; decide⟩ (by omega) (by rw [n_204 S]; omega) (g_204 S (j := 45) (by decide) (by decide)) ?_
          refine aw_aload_n d_Mo_dsaVerify_514 rfl rfl ?_
          refine ax_getR (b := 204) d_Mo_dsaVerify_515 fd_Mo_76 (k_175 S) (r_175_28 S) ?_
          refine aw_bipush d_Mo_dsaVerify_518 ⟨by decide, by decide⟩ (by decide) ?_
          refine ax_aald (b := 251) d_Mo_dsaVerify_520 ⟨by rw [(k_204 S)]; decide, by rw [(k_204 S)]; decide⟩ (by omega) (by rw [n_204 S]; omega) (g_204 S (j := 46) (by decide) (by decide)) ?_
          refine ax_S (st := []) (as := [vr (205 + (30 + i).toNat), vr 250, vr 251]) (v := none) (h' := sD h (rowTo (rowTo (rowTo K3 250 256 (eva (K3 250))) (205 + (30 + i).toNat) 256 (fun _ => 0)) (205 + (30 + i).toNat) 256 (fun x => ((rowTo (rowTo K3 250 256 (eva (K3 250))) (205 + (30 + i).toNat) 256 (fun _ => 0)) (205 + (30 + i).toNat) x + (rowTo (rowTo K3 250 256 (eva (K3 250))) (205 + (30 + i).toNat) 256 (fun _ => 0)) 250 x * (rowTo (rowTo K3 250 256 (eva (K3 250))) (205 + (30 + i).toNat) 256 (fun _ => 0)) 251 x) % 8380417)) u_481) d_Mo_dsaVerify_521 cs_Mo_dsaVerify_521 (c_Mo_addProducts ⟨kr_204 S (by omega), by omega, nr_204 S (by omega)⟩ ⟨k_250 S, by decide, n_250 S⟩ ⟨k_251 S, by decide, n_251 S⟩ (fun x a b => by rw [rowTo_in a b]; decide) (fun x a b => by rw [rowTo_ne (by omega), rowTo_in a b]; exact eva_in) (fun x a b => by rw [rowTo_ne (by omega), rowTo_ne (by decide), F3.1 251 x (by decide) (Or.inl (by decide)), F2.1 251 x (by omega) (Or.inl (by decide)), hB x a b]; exact vfB_in x a b)) rfl rfl rfl ?_
          show AW l G M_Mo_dsaVerify P 524 [(5, vi c), (4, vi i), (0, vr 175)] [] (sD h (rowTo (rowTo (rowTo K3 250 256 (eva (K3 250))) (205 + (30 + i).toNat) 256 (fun _ => 0)) (205 + (30 + i).toNat) 256 (fun x => ((rowTo (rowTo K3 250 256 (eva (K3 250))) (205 + (30 + i).toNat) 256 (fun _ => 0)) (205 + (30 + i).toNat) x + (rowTo (rowTo K3 250 256 (eva (K3 250))) (205 + (30 + i).toNat) 256 (fun _ => 0)) 250 x * (rowTo (rowTo K3 250 256 (eva (K3 250))) (205 + (30 + i).toNat) 256 (fun _ => 0)) 251 x) % 8380417)) u_481)
          refine aw_iconst d_Mo_dsaVerify_524 ⟨by decide, by decide⟩ ?_
          refine aw_istore (lv' := [(5, vi 0), (4, vi i), (0, vr 175)]) d_Mo_dsaVerify_525 (by decide) rfl ?_
          have lp_527 : ∀ (n_ : Nat) (j : Int) (K4 : Nat → Int → Int) (M4 : Nat → Int → Int), (0 ≤ j ∧ j ≤ 5) → (FR (fun a => a = 205 + (30 + i).toNat ∨ a = 252) (rowTo (rowTo (rowTo K3 250 256 (eva (K3 250))) (205 + (30 + i).toNat) 256 (fun _ => 0)) (205 + (30 + i).toNat) 256 (fun x => ((rowTo (rowTo K3 250 256 (eva (K3 250))) (205 + (30 + i).toNat) 256 (fun _ => 0)) (205 + (30 + i).toNat) x + (rowTo (rowTo K3 250 256 (eva (K3 250))) (205 + (30 + i).toNat) 256 (fun _ => 0)) 250 x * (rowTo (rowTo K3 250 256 (eva (K3 250))) (205 + (30 + i).toNat) 256 (fun _ => 0)) 251 x) % 8380417)) u_481 K4 M4) → (∀ x, 0 ≤ x → x < 256 → K4 (205 + (30 + i).toNat) x = (eva (K3 250) x * (vfB 1 (rgR I)) x + pS (sgA 1 (rpR I)) (fun j => fwd rt ((vfZ 1 (rgR I)) j)) (i * 5) x j.toNat) % 8380417) → (∀ m, 0 ≤ m → m < j → (wide (rpR I) m i).2.1 = 256) → (K4 175 4 = 0) → (K4 175 23 = 8 * (320 * i) + 10 * 256) → ((5 - j).toNat) = n_ → AW l G M_Mo_dsaVerify P 527 [(5, vi j), (4, vi i), (0, vr 175)] [] (sD h K4 M4) := by
            intro n_
            induction n_ using Nat.strongRecOn with
            | _ n_ ih_527 =>
            intro j K4 M4 hj F4 r4 okJ h44 b4 hm_527
            have z4 : ∀ a j, (a ≠ 205 + (30 + i).toNat ∧ a ≠ 252 ∧ a ≠ 250 ∧ a < 235) → a ≠ 175 → K4 a j = K2 a j := fun a x y z => by rw [F4.1 _ _ (by omega) (Or.inl z), rowTo_ne (by omega), rowTo_ne (by omega), rowTo_ne (by omega), F3.1 _ _ (by omega) (Or.inl z)]
            have pk4 : ∀ x, K4 179 x = I 179 x := fun x => (z4 179 x (by omega) (by decide)).trans (pk2 x)
            have D4 := (D3.fr F3b (by omega)).fr F4 (by omega)
            refine aw_iload d_Mo_dsaVerify_527 rfl ?_
            refine aw_aload_n d_Mo_dsaVerify_529 rfl rfl ?_
            refine ax_getIe (x := 5) d_Mo_dsaVerify_530 fd_Mo_226 (k_175 S) (Eq.trans (F4.1 175 32 (by omega) (Or.inr (by decide))) (Eq.trans (rowTo_ne (by omega)) (Eq.trans (rowTo_ne (by omega)) (Eq.trans (rowTo_ne (by omega)) (Eq.trans (F3.1 175 32 (by omega) (Or.inr (by decide))) (Eq.trans (F2.1 175 32 (by omega) (Or.inr (by decide))) (dr1_32 D))))))) ?_
            refine aw_icmp_ge (tgt := 601) d_Mo_dsaVerify_533 (by decide) (fun c_533 => ?_) (fun c_533 => ?_)
            · skip
              refine aw_aload_n d_Mo_dsaVerify_601 rfl rfl ?_
              refine aw_aload_n d_Mo_dsaVerify_602 rfl rfl ?_
              refine ax_getR (b := 204) d_Mo_dsaVerify_603 fd_Mo_76 (k_175 S) (r_175_28 S) ?_
              refine aw_bipush d_Mo_dsaVerify_606 ⟨by decide, by decide⟩ (by decide) ?_
              refine aw_iload d_Mo_dsaVerify_608 rfl ?_
              refine ax_iadd d_Mo_dsaVerify_610 ⟨(by omega), (by omega)⟩ ?_
              refine ax_aald (b := 205 + (30 + i).toNat) d_Mo_dsaVerify_611 ⟨by rw [(k_204 S)]; decide, by rw [(k_204 S)]; decide⟩ (by omega) (by rw [n_204 S]; omega) (g_204 S (by omega) (by omega)) ?_
              refine ax_Vr (st := []) (as := [vr (205 + (30 + i).toNat)]) (b := 175) d_Mo_dsaVerify_612 cs_Mo_dsaVerify_612 (k_175 S) (c_Mo_interpolate S ⟨kr_204 S (by omega), by omega, nr_204 S (by omega)⟩ (by omega) (fun x a b => by rw [r4 x a b]; show 0 ≤ _ % 8380417 ∧ _ % 8380417 < 8380417; exact ⟨Int.emod_nonneg _ (by decide), Int.emod_lt_of_pos _ (by decide)⟩) D4.2.2) rfl rfl rfl (fun u_612 q_612 => ?_)
              have l7 := q_612
              have w7 : eqQ ((rowTo K4 (205 + (30 + i).toNat) 256 (itp (K4 (205 + (30 + i).toNat)))) (205 + (30 + i).toNat)) ((vfW 1 (rpR I) (rgR I)) i) := fun x a b => by rw [rowTo_in a b]; show itp _ x = bck rt (fun c => (pS (sgA 1 (rpR I)) (fun j => fwd rt ((vfZ 1 (rgR I)) j)) (i * 5) c 5 % 8380417 - (vfB 1 (rgR I)) c * fwd rt (tpF (rpR I) i) c % 8380417) % 8380417) x; rw [bck_itp a b]; exact itp_cq (fun y hy => by rw [r4 y (by omega) (by omega), show j.toNat = 5 by omega]; exact vsum (ng y (by omega) (by omega)))
              show AW l G M_Mo_dsaVerify P 615 [(5, vi j), (4, vi i), (0, vr 175)] [] (sD h (rowTo K4 (205 + (30 + i).toNat) 256 (itp (K4 (205 + (30 + i).toNat)))) u_612)
              refine aw_ldcw (n := 8380416) d_Mo_dsaVerify_615 lc_Mo_279 ⟨by decide, by decide⟩ ?_
              refine aw_iconst d_Mo_dsaVerify_618 ⟨by decide, by decide⟩ ?_
              refine aw_aload_n d_Mo_dsaVerify_619 rfl rfl ?_
              refine ax_getIe (x := 261888) d_Mo_dsaVerify_620 fd_Mo_242 (k_175 S) (Eq.trans (rowTo_ne (by omega)) (Eq.trans (F4.1 175 36 (by omega) (Or.inr (by decide))) (Eq.trans (rowTo_ne (by omega)) (Eq.trans (rowTo_ne (by omega)) (Eq.trans (rowTo_ne (by omega)) (Eq.trans (F3.1 175 36 (by omega) (Or.inr (by decide))) (Eq.trans (F2.1 175 36 (by omega) (Or.inr (by decide))) (dr1_36 D)))))))) ?_
              refine ax_imul d_Mo_dsaVerify_623 ⟨(by omega), (by omega)⟩ ?_
              refine ax_ti (x := 523776) (by decide) ?_
              refine ax_idiv d_Mo_dsaVerify_624 ⟨(by omega), (by omega)⟩ (by omega) ?_
              refine ax_ti (x := 16) (by decide) ?_
              refine aw_istore (lv' := [(5, vi 16), (4, vi i), (0, vr 175)]) d_Mo_dsaVerify_625 (by decide) rfl ?_
              refine aw_iconst d_Mo_dsaVerify_627 ⟨by decide, by decide⟩ ?_
              refine aw_istore (lv' := [(6, vi 0), (5, vi 16), (4, vi i), (0, vr 175)]) d_Mo_dsaVerify_628 (by decide) rfl ?_
              have lp_630 : ∀ (n_ : Nat) (c : Int) (K7 : Nat → Int → Int), (0 ≤ c ∧ c ≤ 256) → (FR (fun a => a = 205 + (30 + i).toNat) (rowTo K4 (205 + (30 + i).toNat) 256 (itp (K4 (205 + (30 + i).toNat)))) u_612 K7 u_612) → (∀ a x, a ≠ 205 + (30 + i).toNat → K7 a x = (rowTo K4 (205 + (30 + i).toNat) 256 (itp (K4 (205 + (30 + i).toNat)))) a x) → ((∀ x, 0 ≤ x → x < c → K7 (205 + (30 + i).toNat) x = hvV (rgR I) 3248 55 261888 16 i x ((vfW 1 (rpR I) (rgR I)) i x)) ∧ ∀ x, c ≤ x → x < 256 → K7 (205 + (30 + i).toNat) x = (vfW 1 (rpR I) (rgR I)) i x) → ((256 - c).toNat) = n_ → AW l G M_Mo_dsaVerify P 630 [(6, vi c), (5, vi 16), (4, vi i), (0, vr 175)] [] (sD h K7 u_612) := by
                intro n_
                induction n_ using Nat.strongRecOn with
                | _ n_ ih_630 =>
                intro c K7 hc7 F7 F7f r7 hm_630
                have gp7 : K7 175 36 = 261888 := by rw [F7f 175 36 (by omega), rowTo_ne (by omega)]; exact dr1_36 D4
                have tb7 : c < 256 → (K7 (254 + i.toNat) c = 0 ∨ K7 (254 + i.toNat) c = 1) ∧ (K7 (254 + i.toNat) c = 1 ↔ hin (rgR I) 3248 55 i c) := fun v => by rw [show K7 (254 + i.toNat) c = K (254 + i.toNat) c from by rw [F7f _ _ (by omega), rowTo_ne (by omega), F4.1 _ _ (by omega) (Or.inl (by omega)), rowTo_ne (by omega), rowTo_ne (by omega), rowTo_ne (by omega), F3.1 _ _ (by omega) (Or.inl (by omega)), F2.1 _ _ (by omega) (Or.inl (by omega))]]; exact tb i hi.1 (by omega) c hc7.1 v
                refine aw_iload d_Mo_dsaVerify_630 rfl ?_
                refine aw_sipush d_Mo_dsaVerify_632 ⟨by decide, by decide⟩ (by decide) ?_
                refine aw_icmp_ge (tgt := 726) d_Mo_dsaVerify_635 (by decide) (fun c_635 => ?_) (fun c_635 => ?_)
                · skip
                  refine ax_iinc (lv' := [(4, vi (i + 1)), (6, vi c), (5, vi 16), (0, vr 175)]) d_Mo_dsaVerify_726 rfl (by decide) ⟨(by omega), (by omega)⟩ rfl ?_
                  refine aw_goto (tgt := 405) d_Mo_dsaVerify_729 (by decide) ?_
                  refine aw_sub (lv' := [(4, vi (i + 1)), (0, vr 175)]) (by simp) ?_
                  exact ih_405 _ (by omega) (i + 1) K7 u_612 (by omega) (((((F2.tr (F3.mono (r := fun a => a = 250 ∨ a = 252 ∨ 235 ≤ a ∧ a ≤ 242) (by intro a x; omega)) (fun a x => ⟨x, x⟩)).tr F3b (fun a x => ⟨x, x⟩)).tr (F4.mono (r := fun a => a = 250 ∨ a = 252 ∨ 235 ≤ a ∧ a ≤ 242) (by intro a x; omega)) (fun a x => ⟨x, x⟩)).tr (FR.row (p := fun a => a = 250 ∨ a = 252 ∨ 235 ≤ a ∧ a ≤ 242) (by omega) l7) (fun a x => ⟨x, x⟩)).tr (F7.mono (r := fun a => a = 250 ∨ a = 252 ∨ 235 ≤ a ∧ a ≤ 242) (by intro a x; omega)) (fun a x => ⟨x, x⟩)) (by rw [F7f 175 23 (by omega), rowTo_ne (by omega), b4]; omega) (fun m a b x u v => by by_cases z : m = i; exact (by rw [z]; exact r7.1 x u (by omega)); exact (by rw [F7f _ _ (by omega), rowTo_ne (by omega), F4.1 _ _ (by omega) (Or.inl (by omega)), rowTo_ne (by omega), rowTo_ne (by omega), rowTo_ne (by omega), F3.1 _ _ (by omega) (Or.inl (by omega))]; exact dn m a (by omega) x u v)) (fun m a b => by by_cases v : m < 5 * i; exact okA m a v; exact (by have w_ := okJ (m - 5 * i) (by omega) (by omega); rw [show m % 5 = m - 5 * i by omega, show m / 5 = i by omega]; exact w_)) (by rw [F7f 175 4 (by omega), rowTo_ne (by omega)]; exact h44) rfl
                · skip
                  have wr := vfW_in (s := 1) (pk := (rpR I)) (g := (rgR I)) (m := i) c hc7.1 (by omega)
                  have hb_ := dHi16 wr
                  refine aw_aload_n d_Mo_dsaVerify_638 rfl rfl ?_
                  refine ax_getR (b := 204) d_Mo_dsaVerify_639 fd_Mo_76 (k_175 S) (r_175_28 S) ?_
                  refine aw_bipush d_Mo_dsaVerify_642 ⟨by decide, by decide⟩ (by decide) ?_
                  refine aw_iload d_Mo_dsaVerify_644 rfl ?_
                  refine ax_iadd d_Mo_dsaVerify_646 ⟨(by omega), (by omega)⟩ ?_
                  refine ax_aald (b := 205 + (30 + i).toNat) d_Mo_dsaVerify_647 ⟨by rw [(k_204 S)]; decide, by rw [(k_204 S)]; decide⟩ (by omega) (by rw [n_204 S]; omega) (g_204 S (by omega) (by omega)) ?_
                  refine aw_iload d_Mo_dsaVerify_648 rfl ?_
                  refine ax_ialde (x := (vfW 1 (rpR I) (rgR I)) i c) d_Mo_dsaVerify_650 (kr_204 S (by omega)) (by omega) (by rw [nr_204 S (by omega)]; omega) (r7.2 c (Int.le_refl _) (by omega)) ?_
                  refine aw_istore (lv' := [(7, vi ((vfW 1 (rpR I) (rgR I)) i c)), (6, vi c), (5, vi 16), (4, vi i), (0, vr 175)]) d_Mo_dsaVerify_651 (by decide) rfl ?_
                  refine aw_aload_n d_Mo_dsaVerify_653 rfl rfl ?_
                  refine aw_iload d_Mo_dsaVerify_654 rfl ?_
                  refine ax_V (st := []) (as := [vi ((vfW 1 (rpR I) (rgR I)) i c)]) (b := 175) (v := some (vi (dHigh 261888 ((vfW 1 (rpR I) (rgR I)) i c)))) (h' := sD h K7 u_612) d_Mo_dsaVerify_656 cs_Mo_dsaVerify_656 (k_175 S) (by have z := c_Mo_high (l := l) (G := G) (L := u_612) (I := K7) (r := (vfW 1 (rpR I) (rgR I)) i c) S (by rw [gp7]; decide) wr; rw [gp7] at z; exact z) rfl rfl rfl ?_
                  show AW l G M_Mo_dsaVerify P 659 [(7, vi ((vfW 1 (rpR I) (rgR I)) i c)), (6, vi c), (5, vi 16), (4, vi i), (0, vr 175)] [vi (dHigh 261888 ((vfW 1 (rpR I) (rgR I)) i c))] (sD h K7 u_612)
                  refine aw_istore (lv' := [(8, vi (dHigh 261888 ((vfW 1 (rpR I) (rgR I)) i c))), (7, vi ((vfW 1 (rpR I) (rgR I)) i c)), (6, vi c), (5, vi 16), (4, vi i), (0, vr 175)]) d_Mo_dsaVerify_659 (by decide) rfl ?_
                  refine aw_aload_n d_Mo_dsaVerify_661 rfl rfl ?_
                  refine ax_getR (b := 253) d_Mo_dsaVerify_662 fd_Mo_81 (k_175 S) (r_175_29 S) ?_
                  refine aw_iload d_Mo_dsaVerify_665 rfl ?_
                  refine ax_aald (b := 254 + i.toNat) d_Mo_dsaVerify_667 ⟨by rw [(k_253 S)]; decide, by rw [(k_253 S)]; decide⟩ (by omega) (by rw [n_253 S]; omega) (g_253 S (by omega) (by omega)) ?_
                  refine aw_iload d_Mo_dsaVerify_668 rfl ?_
                  refine ax_zalde (x := K7 (254 + i.toNat) c) d_Mo_dsaVerify_670 (kr_253 S (by omega)) (by omega) (by rw [nr_253 S (by omega)]; omega) (rfl) ?_
                  refine aw_if_eq (tgt := 705) d_Mo_dsaVerify_671 (by decide) (fun c_671 => ?_) (fun c_671 => ?_)
                  · skip
                    refine aw_aload_n d_Mo_dsaVerify_705 rfl rfl ?_
                    refine ax_getR (b := 204) d_Mo_dsaVerify_706 fd_Mo_76 (k_175 S) (r_175_28 S) ?_
                    refine aw_bipush d_Mo_dsaVerify_709 ⟨by decide, by decide⟩ (by decide) ?_
                    refine aw_iload d_Mo_dsaVerify_711 rfl ?_
                    refine ax_iadd d_Mo_dsaVerify_713 ⟨(by omega), (by omega)⟩ ?_
                    refine ax_aald (b := 205 + (30 + i).toNat) d_Mo_dsaVerify_714 ⟨by rw [(k_204 S)]; decide, by rw [(k_204 S)]; decide⟩ (by omega) (by rw [n_204 S]; omega) (g_204 S (by omega) (by omega)) ?_
                    refine aw_iload d_Mo_dsaVerify_715 rfl ?_
                    refine aw_iload d_Mo_dsaVerify_717 rfl ?_
                    refine ax_iast d_Mo_dsaVerify_719 (kr_204 S (by omega)) (by omega) (by omega) (by rw [nr_204 S (by omega)]; omega) ?_
                    refine ax_iinc (lv' := [(6, vi (c + 1)), (8, vi (dHigh 261888 ((vfW 1 (rpR I) (rgR I)) i c))), (7, vi ((vfW 1 (rpR I) (rgR I)) i c)), (5, vi 16), (4, vi i), (0, vr 175)]) d_Mo_dsaVerify_720 rfl (by decide) ⟨(by omega), (by omega)⟩ rfl ?_
                    refine aw_goto (tgt := 630) d_Mo_dsaVerify_723 (by decide) ?_
                    refine aw_sub (lv' := [(6, vi (c + 1)), (5, vi 16), (4, vi i), (0, vr 175)]) (by simp) ?_
                    exact ih_630 _ (by omega) (c + 1) (a_up K7 (205 + (30 + i).toNat) c (dHigh 261888 ((vfW 1 (rpR I) (rgR I)) i c))) (by omega) (F7.tr (FR.up (p := fun a => a = 205 + (30 + i).toNat) rfl) (fun a x => ⟨x, x⟩)) (fun a x y => (a_up_ne (Or.inl y)).trans (F7f a x y)) (⟨fun x a b => by by_cases z : x = c; exact (by rw [z, a_up_at]; exact (hvV_n (fun z => by have y := (tb7 (by omega)).2.2 z; omega)).symm); exact (by rw [a_up_ne (Or.inr z)]; exact r7.1 x a (by omega)), fun x a b => by rw [a_up_ne (Or.inr (by omega))]; exact r7.2 x (by omega) b⟩) rfl
                  · skip
                    refine aw_aload_n d_Mo_dsaVerify_674 rfl rfl ?_
                    refine aw_iload d_Mo_dsaVerify_675 rfl ?_
                    refine ax_V (st := []) (as := [vi ((vfW 1 (rpR I) (rgR I)) i c)]) (b := 175) (v := some (vi (dLow 261888 ((vfW 1 (rpR I) (rgR I)) i c)))) (h' := sD h K7 u_612) d_Mo_dsaVerify_677 cs_Mo_dsaVerify_677 (k_175 S) (by have z := c_Mo_low (l := l) (G := G) (L := u_612) (I := K7) (r := (vfW 1 (rpR I) (rgR I)) i c) S (by rw [gp7]; decide) wr; rw [gp7] at z; exact z) rfl rfl rfl ?_
                    show AW l G M_Mo_dsaVerify P 680 [(8, vi (dHigh 261888 ((vfW 1 (rpR I) (rgR I)) i c))), (7, vi ((vfW 1 (rpR I) (rgR I)) i c)), (6, vi c), (5, vi 16), (4, vi i), (0, vr 175)] [vi (dLow 261888 ((vfW 1 (rpR I) (rgR I)) i c))] (sD h K7 u_612)
                    refine aw_if_le (tgt := 693) d_Mo_dsaVerify_680 (by decide) (fun c_680 => ?_) (fun c_680 => ?_)
                    · skip
                      refine aw_iload d_Mo_dsaVerify_693 rfl ?_
                      refine aw_iload d_Mo_dsaVerify_695 rfl ?_
                      refine ax_iadd d_Mo_dsaVerify_697 ⟨(by omega), (by omega)⟩ ?_
                      refine aw_iconst d_Mo_dsaVerify_698 ⟨by decide, by decide⟩ ?_
                      refine ax_isub d_Mo_dsaVerify_699 ⟨(by omega), (by omega)⟩ ?_
                      refine aw_iload d_Mo_dsaVerify_700 rfl ?_
                      refine ax_irem d_Mo_dsaVerify_702 (by omega) (by omega) ?_
                      refine aw_istore (lv' := [(8, vi ((((dHigh 261888 ((vfW 1 (rpR I) (rgR I)) i c)) + 16) - 1) % 16)), (7, vi ((vfW 1 (rpR I) (rgR I)) i c)), (6, vi c), (5, vi 16), (4, vi i), (0, vr 175)]) d_Mo_dsaVerify_703 (by decide) rfl ?_
                      refine aw_aload_n d_Mo_dsaVerify_705 rfl rfl ?_
                      refine ax_getR (b := 204) d_Mo_dsaVerify_706 fd_Mo_76 (k_175 S) (r_175_28 S) ?_
                      refine aw_bipush d_Mo_dsaVerify_709 ⟨by decide, by decide⟩ (by decide) ?_
                      refine aw_iload d_Mo_dsaVerify_711 rfl ?_
                      refine ax_iadd d_Mo_dsaVerify_713 ⟨(by omega), (by omega)⟩ ?_
                      refine ax_aald (b := 205 + (30 + i).toNat) d_Mo_dsaVerify_714 ⟨by rw [(k_204 S)]; decide, by rw [(k_204 S)]; decide⟩ (by omega) (by rw [n_204 S]; omega) (g_204 S (by omega) (by omega)) ?_
                      refine aw_iload d_Mo_dsaVerify_715 rfl ?_
                      refine aw_iload d_Mo_dsaVerify_717 rfl ?_
                      refine ax_iast d_Mo_dsaVerify_719 (kr_204 S (by omega)) (by omega) (by omega) (by rw [nr_204 S (by omega)]; omega) ?_
                      refine ax_iinc (lv' := [(6, vi (c + 1)), (8, vi ((((dHigh 261888 ((vfW 1 (rpR I) (rgR I)) i c)) + 16) - 1) % 16)), (7, vi ((vfW 1 (rpR I) (rgR I)) i c)), (5, vi 16), (4, vi i), (0, vr 175)]) d_Mo_dsaVerify_720 rfl (by decide) ⟨(by omega), (by omega)⟩ rfl ?_
                      refine aw_goto (tgt := 630) d_Mo_dsaVerify_723 (by decide) ?_
                      refine aw_sub (lv' := [(6, vi (c + 1)), (5, vi 16), (4, vi i), (0, vr 175)]) (by simp) ?_
                      exact ih_630 _ (by omega) (c + 1) (a_up K7 (205 + (30 + i).toNat) c ((((dHigh 261888 ((vfW 1 (rpR I) (rgR I)) i c)) + 16) - 1) % 16)) (by omega) (F7.tr (FR.up (p := fun a => a = 205 + (30 + i).toNat) rfl) (fun a x => ⟨x, x⟩)) (fun a x y => (a_up_ne (Or.inl y)).trans (F7f a x y)) (⟨fun x a b => by by_cases z : x = c; exact (by rw [z, a_up_at]; rw [hvV_y ((tb7 (by omega)).2.1 (by have y := (tb7 (by omega)).1; omega)), hh_n (by omega)]); exact (by rw [a_up_ne (Or.inr z)]; exact r7.1 x a (by omega)), fun x a b => by rw [a_up_ne (Or.inr (by omega))]; exact r7.2 x (by omega) b⟩) rfl
                    · skip
                      refine aw_iload d_Mo_dsaVerify_683 rfl ?_
                      refine aw_iconst d_Mo_dsaVerify_685 ⟨by decide, by decide⟩ ?_
                      refine ax_iadd d_Mo_dsaVerify_686 ⟨(by omega), (by omega)⟩ ?_
                      refine aw_iload d_Mo_dsaVerify_687 rfl ?_
                      refine ax_irem d_Mo_dsaVerify_689 (by omega) (by omega) ?_
                      refine aw_goto (tgt := 703) d_Mo_dsaVerify_690 (by decide) ?_
                      refine aw_istore (lv' := [(8, vi (((dHigh 261888 ((vfW 1 (rpR I) (rgR I)) i c)) + 1) % 16)), (7, vi ((vfW 1 (rpR I) (rgR I)) i c)), (6, vi c), (5, vi 16), (4, vi i), (0, vr 175)]) d_Mo_dsaVerify_703 (by decide) rfl ?_
                      refine aw_aload_n d_Mo_dsaVerify_705 rfl rfl ?_
                      refine ax_getR (b := 204) d_Mo_dsaVerify_706 fd_Mo_76 (k_175 S) (r_175_28 S) ?_
                      refine aw_bipush d_Mo_dsaVerify_709 ⟨by decide, by decide⟩ (by decide) ?_
                      refine aw_iload d_Mo_dsaVerify_711 rfl ?_
                      refine ax_iadd d_Mo_dsaVerify_713 ⟨(by omega), (by omega)⟩ ?_
                      refine ax_aald (b := 205 + (30 + i).toNat) d_Mo_dsaVerify_714 ⟨by rw [(k_204 S)]; decide, by rw [(k_204 S)]; decide⟩ (by omega) (by rw [n_204 S]; omega) (g_204 S (by omega) (by omega)) ?_
                      refine aw_iload d_Mo_dsaVerify_715 rfl ?_
                      refine aw_iload d_Mo_dsaVerify_717 rfl ?_
                      refine ax_iast d_Mo_dsaVerify_719 (kr_204 S (by omega)) (by omega) (by omega) (by rw [nr_204 S (by omega)]; omega) ?_
                      refine ax_iinc (lv' := [(6, vi (c + 1)), (8, vi (((dHigh 261888 ((vfW 1 (rpR I) (rgR I)) i c)) + 1) % 16)), (7, vi ((vfW 1 (rpR I) (rgR I)) i c)), (5, vi 16), (4, vi i), (0, vr 175)]) d_Mo_dsaVerify_720 rfl (by decide) ⟨(by omega), (by omega)⟩ rfl ?_
                      refine aw_goto (tgt := 630) d_Mo_dsaVerify_723 (by decide) ?_
                      refine aw_sub (lv' := [(6, vi (c + 1)), (5, vi 16), (4, vi i), (0, vr 175)]) (by simp) ?_
                      exact ih_630 _ (by omega) (c + 1) (a_up K7 (205 + (30 + i).toNat) c (((dHigh 261888 ((vfW 1 (rpR I) (rgR I)) i c)) + 1) % 16)) (by omega) (F7.tr (FR.up (p := fun a => a = 205 + (30 + i).toNat) rfl) (fun a x => ⟨x, x⟩)) (fun a x y => (a_up_ne (Or.inl y)).trans (F7f a x y)) (⟨fun x a b => by by_cases z : x = c; exact (by rw [z, a_up_at]; rw [hvV_y ((tb7 (by omega)).2.1 (by have y := (tb7 (by omega)).1; omega)), hh_y (by omega)]); exact (by rw [a_up_ne (Or.inr z)]; exact r7.1 x a (by omega)), fun x a b => by rw [a_up_ne (Or.inr (by omega))]; exact r7.2 x (by omega) b⟩) rfl
              skip
              exact lp_630 _ 0 (rowTo K4 (205 + (30 + i).toNat) 256 (itp (K4 (205 + (30 + i).toNat)))) (by omega) (FR.rfl') (fun _ _ _ => rfl) (⟨fun x a b => by omega, fun x a b => w7 x (by omega) b⟩) rfl
            · skip
              refine aw_aload_n d_Mo_dsaVerify_536 rfl rfl ?_
              refine aw_aload_n d_Mo_dsaVerify_537 rfl rfl ?_
              refine aw_aload_n d_Mo_dsaVerify_538 rfl rfl ?_
              refine ax_getR (b := 204) d_Mo_dsaVerify_539 fd_Mo_76 (k_175 S) (r_175_28 S) ?_
              refine aw_bipush d_Mo_dsaVerify_542 ⟨by decide, by decide⟩ (by decide) ?_
              refine ax_aald (b := 252) d_Mo_dsaVerify_544 ⟨by rw [(k_204 S)]; decide, by rw [(k_204 S)]; decide⟩ (by omega) (by rw [n_204 S]; omega) (g_204 S (j := 47) (by decide) (by decide)) ?_
              refine aw_aload_n d_Mo_dsaVerify_545 rfl rfl ?_
              refine ax_getR (b := 177) d_Mo_dsaVerify_546 fd_Mo_15 (k_175 S) (r_175_1 S) ?_
              refine aw_iconst d_Mo_dsaVerify_549 ⟨by decide, by decide⟩ ?_
              refine ax_aald (b := 179) d_Mo_dsaVerify_550 ⟨by rw [(k_177 S)]; decide, by rw [(k_177 S)]; decide⟩ (by omega) (by rw [n_177 S]; omega) (g_177 S (j := 1) (by decide) (by decide)) ?_
              refine aw_iconst d_Mo_dsaVerify_551 ⟨by decide, by decide⟩ ?_
              refine aw_iload d_Mo_dsaVerify_552 rfl ?_
              refine aw_iload d_Mo_dsaVerify_554 rfl ?_
              refine ax_Vr (st := [vr 175]) (as := [vr 252, vr 179, vi 0, vi j, vi i]) (b := 175) d_Mo_dsaVerify_556 cs_Mo_dsaVerify_556 (k_175 S) (by have z := c_Mo_sampleWide (l := l) (G := G) (I := K4) (L := M4) (f := 252) (r := 179) (pa := 0) (x := j) (y := i) S D4.1 ⟨k_252 S, by decide, n_252 S⟩ (by decide) ⟨k_179 S, by decide, by decide⟩ (by rw [n_179 S]; decide); rw [wide_pk pk4 b2 (by decide)] at z; exact z) rfl rfl rfl (fun u_556 q_556 => ?_)
              obtain ⟨I6, L6⟩ := u_556
              obtain ⟨f6, r6⟩ := q_556
              dsimp only at f6 r6 ⊢
              by_cases ok_556 : (wide (rpR I) j i).2.1 = 256
              · skip
                rw [if_pos ok_556]
                show AW l G M_Mo_dsaVerify P 559 [(5, vi j), (4, vi i), (0, vr 175)] [vi 1, vr 175] (sD h I6 L6)
                refine aw_iconst d_Mo_dsaVerify_559 ⟨by decide, by decide⟩ ?_
                refine ax_V (st := []) (as := [vi 1, vi 4]) (b := 175) (v := some (vi 1)) (h' := sD h (a_up I6 175 4 0) L6) d_Mo_dsaVerify_560 cs_Mo_dsaVerify_560 (k_175 S) (c_good1 S rfl) rfl rfl rfl ?_
                show AW l G M_Mo_dsaVerify P 563 [(5, vi j), (4, vi i), (0, vr 175)] [vi 1] (sD h (a_up I6 175 4 0) L6)
                refine aw_if_ne (tgt := 568) d_Mo_dsaVerify_563 (by decide) (fun c_563 => ?_) (fun c_563 => False.elim (by omega))
                refine aw_aload_n d_Mo_dsaVerify_568 rfl rfl ?_
                refine ax_getR (b := 204) d_Mo_dsaVerify_569 fd_Mo_76 (k_175 S) (r_175_28 S) ?_
                refine aw_bipush d_Mo_dsaVerify_572 ⟨by decide, by decide⟩ (by decide) ?_
                refine aw_iload d_Mo_dsaVerify_574 rfl ?_
                refine ax_iadd d_Mo_dsaVerify_576 ⟨(by omega), (by omega)⟩ ?_
                refine ax_aald (b := 205 + (30 + i).toNat) d_Mo_dsaVerify_577 ⟨by rw [(k_204 S)]; decide, by rw [(k_204 S)]; decide⟩ (by omega) (by rw [n_204 S]; omega) (g_204 S (by omega) (by omega)) ?_
                refine aw_aload_n d_Mo_dsaVerify_578 rfl rfl ?_
                refine ax_getR (b := 204) d_Mo_dsaVerify_579 fd_Mo_76 (k_175 S) (r_175_28 S) ?_
                refine aw_bipush d_Mo_dsaVerify_582 ⟨by decide, by decide⟩ (by decide) ?_
                refine ax_aald (b := 252) d_Mo_dsaVerify_584 ⟨by rw [(k_204 S)]; decide, by rw [(k_204 S)]; decide⟩ (by omega) (by rw [n_204 S]; omega) (g_204 S (j := 47) (by decide) (by decide)) ?_
                refine aw_aload_n d_Mo_dsaVerify_585 rfl rfl ?_
                refine ax_getR (b := 204) d_Mo_dsaVerify_586 fd_Mo_76 (k_175 S) (r_175_28 S) ?_
                refine aw_iload d_Mo_dsaVerify_589 rfl ?_
                refine ax_aald (b := 205 + j.toNat) d_Mo_dsaVerify_591 ⟨by rw [(k_204 S)]; decide, by rw [(k_204 S)]; decide⟩ (by omega) (by rw [n_204 S]; omega) (g_204 S (by omega) (by omega)) ?_
                refine ax_S (st := []) (as := [vr (205 + (30 + i).toNat), vr 252, vr (205 + j.toNat)]) (v := none) (h' := sD h (rowTo (a_up I6 175 4 0) (205 + (30 + i).toNat) 256 (fun x => ((a_up I6 175 4 0) (205 + (30 + i).toNat) x + (a_up I6 175 4 0) 252 x * (a_up I6 175 4 0) (205 + j.toNat) x) % 8380417)) L6) d_Mo_dsaVerify_592 cs_Mo_dsaVerify_592 (c_Mo_addProducts ⟨kr_204 S (by omega), by omega, nr_204 S (by omega)⟩ ⟨k_252 S, by decide, n_252 S⟩ ⟨kr_204 S (by omega), by omega, nr_204 S (by omega)⟩ (fun x a b => by rw [a_up_ne (Or.inl (by omega)), f6.1 _ x (Or.inl (by omega)) (by omega), r4 x a b]; show 0 ≤ _ % 8380417 ∧ _ % 8380417 < 8380417; exact ⟨Int.emod_nonneg _ (by decide), Int.emod_lt_of_pos _ (by decide)⟩) (fun x a b => by rw [a_up_ne (Or.inl (by decide)), r6 x a (by rw [ok_556]; exact b)]; exact wide_b.2 x) (fun x a b => by rw [a_up_ne (Or.inl (by omega)), f6.1 _ x (Or.inl (by omega)) (by omega), z4 _ x (by omega) (by omega), F2.1 _ x (by omega) (Or.inl (by omega)), hZ j hj.1 (by omega) x a b]; exact fwd_in vfZ_in x a b)) rfl rfl rfl ?_
                show AW l G M_Mo_dsaVerify P 595 [(5, vi j), (4, vi i), (0, vr 175)] [] (sD h (rowTo (a_up I6 175 4 0) (205 + (30 + i).toNat) 256 (fun x => ((a_up I6 175 4 0) (205 + (30 + i).toNat) x + (a_up I6 175 4 0) 252 x * (a_up I6 175 4 0) (205 + j.toNat) x) % 8380417)) L6)
                refine ax_iinc (lv' := [(5, vi (j + 1)), (4, vi i), (0, vr 175)]) d_Mo_dsaVerify_595 rfl (by decide) ⟨(by omega), (by omega)⟩ rfl ?_
                refine aw_goto (tgt := 527) d_Mo_dsaVerify_598 (by decide) ?_
                exact ih_527 _ (by omega) (j + 1) (rowTo (a_up I6 175 4 0) (205 + (30 + i).toNat) 256 (fun x => ((a_up I6 175 4 0) (205 + (30 + i).toNat) x + (a_up I6 175 4 0) 252 x * (a_up I6 175 4 0) (205 + j.toNat) x) % 8380417)) L6 (by omega) (((F4.tr (FR.smp (p := fun a => a = 205 + (30 + i).toNat ∨ a = 252) f6 (by omega)) (fun a x => ⟨x, x⟩)).tr (FR.c0 (p := fun a => a = 205 + (30 + i).toNat ∨ a = 252)) (fun a x => ⟨x, x⟩)).tr (FR.row (p := fun a => a = 205 + (30 + i).toNat ∨ a = 252) (by omega) (fun _ _ _ => rfl)) (fun a x => ⟨x, x⟩)) (fun x a b => by rw [rowTo_in a b, a_up_ne (Or.inl (by omega)), a_up_ne (Or.inl (by decide)), a_up_ne (Or.inl (by omega)), f6.1 _ x (Or.inl (by omega)) (by omega), r4 x a b, r6 x a (by rw [ok_556]; exact b), f6.1 _ x (Or.inl (by omega)) (by omega), z4 _ x (by omega) (by omega), F2.1 _ x (by omega) (Or.inl (by omega)), hZ j hj.1 (by omega) x a b, show (j + 1).toNat = j.toNat + 1 by omega]; show _ = (_ + (pS (sgA 1 (rpR I)) (fun j => fwd rt ((vfZ 1 (rgR I)) j)) (i * 5) x j.toNat + (sgA 1 (rpR I)) (i * 5 + (j.toNat : Int)) x * (fwd rt ((vfZ 1 (rgR I)) (j.toNat : Int)) x))) % 8380417; rw [Int.toNat_of_nonneg hj.1, show (sgA 1 (rpR I)) (i * 5 + j) x = (wide (rpR I) j i).2.2 x from by unfold sgA; rw [show pL 1 = 5 from rfl, show (i * 5 + j) % 5 = j by omega, show (i * 5 + j) / 5 = i by omega], ← Int.add_assoc]; exact Int.emod_add_emod _ _ _) (fun m a b => by by_cases z : m = j; exact (by rw [z]; exact ok_556); exact okJ m a (by omega)) (by rw [rowTo_ne (by omega), a_up_at]) (by rw [rowTo_ne (by omega), a_up_ne (Or.inr (by decide)), f6.1 175 23 (Or.inr (by decide)) (by decide)]; exact b4) rfl
              · skip
                rw [if_neg ok_556]
                show AW l G M_Mo_dsaVerify P 559 [(5, vi j), (4, vi i), (0, vr 175)] [vi 0, vr 175] (sD h I6 L6)
                refine aw_iconst d_Mo_dsaVerify_559 ⟨by decide, by decide⟩ ?_
                refine ax_V (st := []) (as := [vi 0, vi 4]) (b := 175) (v := some (vi 0)) (h' := sD h (a_up I6 175 4 4) L6) d_Mo_dsaVerify_560 cs_Mo_dsaVerify_560 (k_175 S) (c_good0 S rfl) rfl rfl rfl ?_
                show AW l G M_Mo_dsaVerify P 563 [(5, vi j), (4, vi i), (0, vr 175)] [vi 0] (sD h (a_up I6 175 4 4) L6)
                refine aw_if_ne (tgt := 568) d_Mo_dsaVerify_563 (by decide) (fun c_563 => False.elim (by omega)) (fun c_563 => ?_)
                refine aw_iconst d_Mo_dsaVerify_566 ⟨by decide, by decide⟩ ?_
                exact aw_zret d_Mo_dsaVerify_567 rfl ⟨by decide, by decide⟩ (hP _ _ (rsNo 0 4 (c4_4 ⟨by decide, by decide⟩ b1 b2 (fun z => ok_556 (by have y := (z pre).2 (i * 5 + j) (by omega) (by show i * 5 + j < 30; omega); rw [show pL 1 = 5 from rfl, show (i * 5 + j) % 5 = j by omega, show (i * 5 + j) / 5 = i by omega] at y; exact y))) (by decide) a_up_at (fR0.fr (fR0.fr (fR0.fr (fR0.fr (fR0.fr (fR0.fr R0 F2 (r := qN) (by intro a x y; exact ⟨fun z => z, by omega⟩) (by omega)) F3 (r := qN) (by intro a x y; exact ⟨fun z => z, by omega⟩) (by decide)) F3b (r := qN) (by intro a x y; exact ⟨fun z => z, by omega⟩) (by omega)) F4 (r := qN) (by intro a x y; exact ⟨fun z => z, by omega⟩) (by omega)) (FR.smp (p := fun a => a = 252) f6 rfl) (r := qN) (by intro a x y; exact ⟨fun z => z, by omega⟩) (by decide)) (FR.c0 (p := fun _ => False)) (by intro a x y; exact ⟨fun z => z, fun z => z⟩) (fun z => z))))
          skip
          exact lp_527 _ 0 (rowTo (rowTo (rowTo K3 250 256 (eva (K3 250))) (205 + (30 + i).toNat) 256 (fun _ => 0)) (205 + (30 + i).toNat) 256 (fun x => ((rowTo (rowTo K3 250 256 (eva (K3 250))) (205 + (30 + i).toNat) 256 (fun _ => 0)) (205 + (30 + i).toNat) x + (rowTo (rowTo K3 250 256 (eva (K3 250))) (205 + (30 + i).toNat) 256 (fun _ => 0)) 250 x * (rowTo (rowTo K3 250 256 (eva (K3 250))) (205 + (30 + i).toNat) 256 (fun _ => 0)) 251 x) % 8380417)) u_481 (by omega) (FR.rfl') (fun x a b => by rw [rowTo_in a b, rowTo_in a b, rowTo_ne (by omega), rowTo_in a b, rowTo_ne (by omega), rowTo_ne (by decide), F3.1 251 x (by decide) (Or.inl (by decide)), F2.1 251 x (by omega) (Or.inl (by decide)), hB x a b]; show (0 + _) % _ = (_ + 0) % _; rw [Int.zero_add, Int.add_zero]) (fun m a b => by omega) (by rw [rowTo_ne (by omega), rowTo_ne (by omega), rowTo_ne (by omega)]; exact h43) (by rw [rowTo_ne (by omega), rowTo_ne (by omega), rowTo_ne (by omega), b3]; omega) rfl
        · skip
          refine aw_aload_n d_Mo_dsaVerify_425 rfl rfl ?_
          refine ax_getR (b := 204) d_Mo_dsaVerify_426 fd_Mo_76 (k_175 S) (r_175_28 S) ?_
          refine aw_bipush d_Mo_dsaVerify_429 ⟨by decide, by decide⟩ (by decide) ?_
          refine ax_aald (b := 250) d_Mo_dsaVerify_431 ⟨by rw [(k_204 S)]; decide, by rw [(k_204 S)]; decide⟩ (by omega) (by rw [n_204 S]; omega) (g_204 S (j := 45) (by decide) (by decide)) ?_
          refine aw_iload d_Mo_dsaVerify_432 rfl ?_
          have tp_ := tpF_in (g := (rpR I)) (i := i) c hc.1 (by omega)
          have tp_ : 0 ≤ gR (fun k => rpR I (32 + 320 * i + k)) 10 c * 8192 ∧ gR (fun k => rpR I (32 + 320 * i + k)) 10 c * 8192 < 8380417 := tp_
          refine aw_ldc2 (n := 8380417) d_Mo_dsaVerify_434 lc_Mo_256 ⟨by decide, by decide⟩ ?_
          refine aw_aload_n d_Mo_dsaVerify_437 rfl rfl ?_
          refine aw_aload_n d_Mo_dsaVerify_438 rfl rfl ?_
          refine ax_getR (b := 177) d_Mo_dsaVerify_439 fd_Mo_15 (k_175 S) (r_175_1 S) ?_
          refine aw_iconst d_Mo_dsaVerify_442 ⟨by decide, by decide⟩ ?_
          refine ax_aald (b := 179) d_Mo_dsaVerify_443 ⟨by rw [(k_177 S)]; decide, by rw [(k_177 S)]; decide⟩ (by omega) (by rw [n_177 S]; omega) (g_177 S (j := 1) (by decide) (by decide)) ?_
          refine aw_bipush d_Mo_dsaVerify_444 ⟨by decide, by decide⟩ (by decide) ?_
          refine aw_bipush d_Mo_dsaVerify_446 ⟨by decide, by decide⟩ (by decide) ?_
          refine ax_V (st := [vl 8380417, vi c, vr 250]) (as := [vr 179, vi 32, vi 10]) (b := 175) (v := some (vi (bV (fun j => K3 179 (32 + 320 * i + j) % 256) 8 (32 * 10) / 2 ^ (10 * c.toNat) % 2 ^ 10))) (h' := sD h (a_up K3 175 23 (8 * (320 * i) + ((10 * c.toNat : Nat) : Int) + 10)) M2) d_Mo_dsaVerify_448 cs_Mo_dsaVerify_448 (k_175 S) (c_Mo_takeBits (q := 10 * c.toNat) (N := 32 * 10) (c := 320 * i) (d := 10) S ⟨k_179 S, by decide⟩ (by decide) (by omega) (by rw [n_179 S]; omega)) rfl rfl rfl ?_
          show AW l G M_Mo_dsaVerify P 451 [(5, vi c), (4, vi i), (0, vr 175)] [vi (bV (fun j => K3 179 (32 + 320 * i + j) % 256) 8 (32 * 10) / 2 ^ (10 * c.toNat) % 2 ^ 10), vl 8380417, vi c, vr 250] (sD h (a_up K3 175 23 (8 * (320 * i) + ((10 * c.toNat : Nat) : Int) + 10)) M2)
          refine ax_ti (x := gR (fun k => rpR I (32 + 320 * i + k)) 10 c) (by show gR (fun j => K3 179 (32 + 320 * i + j) % 256) 10 c = _; exact gR_congr (fun y y0 y1 => by rw [pk3, rp_in (show I 186 1 = 1952 from b2) (by omega) (by omega)])) ?_
          refine aw_i2l d_Mo_dsaVerify_451 ?_
          refine aw_ldc2 (n := 8192) d_Mo_dsaVerify_452 lc_Mo_364 ⟨by decide, by decide⟩ ?_
          refine ax_lmul d_Mo_dsaVerify_455 ⟨(by omega), (by omega)⟩ ?_
          refine aw_ldc2 (n := 8380417) d_Mo_dsaVerify_456 lc_Mo_256 ⟨by decide, by decide⟩ ?_
          refine ax_lrem d_Mo_dsaVerify_459 (by omega) (by omega) ?_
          refine ax_lsub d_Mo_dsaVerify_460 ⟨(by omega), (by omega)⟩ ?_
          refine ax_l2i d_Mo_dsaVerify_461 ⟨(by omega), (by omega)⟩ ?_
          refine aw_ldcw (n := 8380417) d_Mo_dsaVerify_462 lc_Mo_264 ⟨by decide, by decide⟩ ?_
          refine ax_irem d_Mo_dsaVerify_465 (by omega) (by omega) ?_
          refine ax_iast d_Mo_dsaVerify_466 (k_250 S) (by decide) (by omega) (by rw [n_250 S]; omega) ?_
          refine ax_iinc (lv' := [(5, vi (c + 1)), (4, vi i), (0, vr 175)]) d_Mo_dsaVerify_467 rfl (by decide) ⟨(by omega), (by omega)⟩ rfl ?_
          refine aw_goto (tgt := 417) d_Mo_dsaVerify_470 (by decide) ?_
          exact ih_417 _ (by omega) (c + 1) (a_up (a_up K3 175 23 (8 * (320 * i) + ((10 * c.toNat : Nat) : Int) + 10)) 250 c ((8380417 - (((gR (fun k => rpR I (32 + 320 * i + k)) 10 c) * 8192) % 8380417)) % 8380417)) (by omega) ((F3.tr (FR.b0 (p := fun a => a = 250)) (fun a x => ⟨x, x⟩)).tr (FR.up (p := fun a => a = 250) rfl) (fun a x => ⟨x, x⟩)) (by rw [a_up_ne (Or.inl (by decide)), a_up_at]; omega) (fun x a b => by by_cases z : x = c; exact (by rw [z, a_up_at]); exact (by rw [a_up_ne (Or.inr z), a_up_ne (Or.inl (by decide))]; exact x3 x a (by omega))) (by rw [a_up_ne (Or.inl (by decide)), a_up_ne (Or.inr (by decide))]; exact h43) rfl
      skip
      exact lp_417 _ 0 K2 (by omega) (FR.rfl') (by omega) (fun x a b => by omega) (h42) rfl
  skip
  exact lp_405 _ 0 K M (by omega) (FR.rfl') (b0) (fun m a b => by omega) (fun m a b => by omega) (h4) rfl
set_option maxHeartbeats 800000 in
set_option maxRecDepth 100000 in
theorem vE1N {l : Launch} {G : a_G} {P : a_R → Hp → Prop} {h : Hp} {I L K M : Nat → Int → Int} (S : Shp h) (R0 : fR0 qN I L K M) (D : RD K M 1) (rg : ∀ j, -128 ≤ I 183 j ∧ I 183 j ≤ 127) (b1 : (-1 : Int) ≠ 0 ∨ I 186 4 ≤ 255) (b2 : I 186 1 = 32 + 320 * pK 1) (pre : vfPre 1 (rgR I) (I 186 5)) (vok : vfOk 1 (rpR I) (rgR I)) (hH : ∀ m, 0 ≤ m → m < 6 → eqQ (K (205 + (30 + m).toNat)) ((fun m j => hvV (rgR I) 3248 55 261888 16 m j ((vfW 1 (rpR I) (rgR I)) m j)) m)) (hm : HR K 265 0 64 (muW I (-1 : Int))) (h4 : K 175 4 = 0) (hP : ∀ r_ h2_, RsR h I L (c4 ((0 ≤ (1 : Int) ∧ (1 : Int) < 3) ∧ ((-1 : Int) = 0 ∨ (-1 : Int) = -1)) ((-1 : Int) ≠ 0 ∨ I 186 4 ≤ 255) (I 186 1 = 32 + 320 * pK (1 : Int)) (vfPre (1 : Int) (rgR I) (I 186 5) → vfOk (1 : Int) (rpR I) (rgR I))) (fun a => a = 184 ∨ a = 186) (fun v I' L' => (¬ vfPre (1 : Int) (rgR I) (I 186 5) ∧ v = 0 ∧ fR0 qN I L I' L') ∨ (vfPre (1 : Int) (rgR I) (I 186 5) ∧ ((∀ j, j ≠ 6 → I' 186 j = I 186 j) ∧ I' 186 6 = pC (1 : Int)) ∧ (HR I' 184 0 (pC (1 : Int)) (vfC (1 : Int) (rpR I) (rgR I) (muW I (-1 : Int))) ∧ rng (I 184) (I' 184)) ∧ (v = 0 ∨ v = 1) ∧ (v = 1 ↔ ∀ j, 0 ≤ j → j < pC (1 : Int) → vfC (1 : Int) (rpR I) (rgR I) (muW I (-1 : Int)) j = rgR I j))) r_ h2_ → P r_ h2_) : AW l G M_Mo_dsaVerify P 732 [(0, vr 175)] [] (sD h K M) := by
  refine aw_aload_n d_Mo_dsaVerify_732 rfl rfl ?_
  refine aw_bipush d_Mo_dsaVerify_733 ⟨by decide, by decide⟩ (by decide) ?_
  refine aw_aload_n d_Mo_dsaVerify_735 rfl rfl ?_
  refine ax_getR (b := 267) d_Mo_dsaVerify_736 fd_Mo_99 (k_175 S) (r_175_43 S) ?_
  refine ax_Vr (st := []) (as := [vi 30, vr 267]) (b := 175) d_Mo_dsaVerify_739 cs_Mo_dsaVerify_739 (k_175 S) (c_Mo_challengeR1_30 (mu := (muW I (-1 : Int))) (X := (fun m j => hvV (rgR I) 3248 55 261888 16 m j ((vfW 1 (rpR I) (rgR I)) m j))) S D hH (fun m a b j x y => by have := hvV_b (g := (rgR I)) (o3 := 3248) (w := 55) (i := m) (j := j) (vfW_in (s := 1) (pk := (rpR I)) (g := (rgR I)) (m := m) j x y); show 0 ≤ hvV (rgR I) 3248 55 261888 16 m j ((vfW 1 (rpR I) (rgR I)) m j) ∧ hvV (rgR I) 3248 55 261888 16 m j ((vfW 1 (rpR I) (rgR I)) m j) < 2 ^ 4; omega) hm (fun k _ _ => spOut_m _ _)) rfl rfl rfl (fun u_739 q_739 => ?_)
  obtain ⟨I1, L1⟩ := u_739
  obtain ⟨F1, h1, g1_, z4_⟩ := q_739
  dsimp only at F1 h1 g1_ z4_
  have h1 : HR I1 267 0 48 (vfC 1 (rpR I) (rgR I) (muW I (-1 : Int))) := h1
  have D1 := D.fr F1 (by decide)
  have c41 : I1 175 4 = 0 := z4_.trans h4
  show AW l G M_Mo_dsaVerify P 742 [(0, vr 175)] [] (sD h I1 L1)
  refine aw_aload_n d_Mo_dsaVerify_742 rfl rfl ?_
  refine ax_getR (b := 267) d_Mo_dsaVerify_743 fd_Mo_99 (k_175 S) (r_175_43 S) ?_
  refine aw_iconst d_Mo_dsaVerify_746 ⟨by decide, by decide⟩ ?_
  refine aw_aload_n d_Mo_dsaVerify_747 rfl rfl ?_
  refine ax_getR (b := 177) d_Mo_dsaVerify_748 fd_Mo_15 (k_175 S) (r_175_1 S) ?_
  refine aw_bipush d_Mo_dsaVerify_751 ⟨by decide, by decide⟩ (by decide) ?_
  refine ax_aald (b := 184) d_Mo_dsaVerify_753 ⟨by rw [(k_177 S)]; decide, by rw [(k_177 S)]; decide⟩ (by omega) (by rw [n_177 S]; omega) (g_177 S (j := 6) (by decide) (by decide)) ?_
  refine aw_iconst d_Mo_dsaVerify_754 ⟨by decide, by decide⟩ ?_
  refine aw_aload_n d_Mo_dsaVerify_755 rfl rfl ?_
  refine ax_getIe (x := 48) d_Mo_dsaVerify_756 fd_Mo_248 (k_175 S) (dr1_38 D1) ?_
  refine ax_S (st := []) (as := [vr 267, vi 0, vr 184, vi 0, vi 48]) (v := none) (h' := sD h (putRow I1 184 0 48 (fun k => I1 267 (0 + k))) L1) d_Mo_dsaVerify_759 cs_Mo_dsaVerify_759 (c_Mo_move ⟨k_267 S, by decide⟩ ⟨k_184 S, by decide, trivial⟩ (by decide) (by rw [n_267 S, n_184 S]; omega)) rfl rfl rfl ?_
  show AW l G M_Mo_dsaVerify P 762 [(0, vr 175)] [] (sD h (putRow I1 184 0 48 (fun k => I1 267 (0 + k))) L1)
  refine aw_aload_n d_Mo_dsaVerify_762 rfl rfl ?_
  refine ax_getR (b := 186) d_Mo_dsaVerify_763 fd_Mo_18 (k_175 S) (r_175_2 S) ?_
  refine aw_bipush d_Mo_dsaVerify_766 ⟨by decide, by decide⟩ (by decide) ?_
  refine aw_aload_n d_Mo_dsaVerify_768 rfl rfl ?_
  refine ax_getIe (x := 48) d_Mo_dsaVerify_769 fd_Mo_248 (k_175 S) (Eq.trans (putRow_ne (by decide)) (dr1_38 D1)) ?_
  refine ax_iast d_Mo_dsaVerify_772 (k_186 S) (by decide) (by omega) (by rw [n_186 S]; omega) ?_
  refine aw_aload_n d_Mo_dsaVerify_773 rfl rfl ?_
  refine ax_getR (b := 267) d_Mo_dsaVerify_774 fd_Mo_99 (k_175 S) (r_175_43 S) ?_
  refine aw_iconst d_Mo_dsaVerify_777 ⟨by decide, by decide⟩ ?_
  refine aw_aload_n d_Mo_dsaVerify_778 rfl rfl ?_
  refine ax_getR (b := 177) d_Mo_dsaVerify_779 fd_Mo_15 (k_175 S) (r_175_1 S) ?_
  refine aw_iconst d_Mo_dsaVerify_782 ⟨by decide, by decide⟩ ?_
  refine ax_aald (b := 183) d_Mo_dsaVerify_783 ⟨by rw [(k_177 S)]; decide, by rw [(k_177 S)]; decide⟩ (by omega) (by rw [n_177 S]; omega) (g_177 S (j := 5) (by decide) (by decide)) ?_
  refine aw_iconst d_Mo_dsaVerify_784 ⟨by decide, by decide⟩ ?_
  refine aw_aload_n d_Mo_dsaVerify_785 rfl rfl ?_
  refine ax_getIe (x := 48) d_Mo_dsaVerify_786 fd_Mo_248 (k_175 S) (Eq.trans (a_up_ne (Or.inl (by decide))) (Eq.trans (putRow_ne (by decide)) (dr1_38 D1))) ?_
  refine ax_Sr (st := []) (as := [vr 267, vi 0, vr 183, vi 0, vi 48]) d_Mo_dsaVerify_789 cs_Mo_dsaVerify_789 (c_Mo_alike ⟨k_267 S, by decide⟩ ⟨k_183 S, by decide⟩ (by rw [n_267 S, n_183 S]; decide)) rfl rfl rfl (fun u_789 q_789 => ?_)
  obtain ⟨ao, aa⟩ := q_789
  have l5 : I 186 5 = 3309 := pre.1
  have r183 : ∀ j, (a_up (putRow I1 184 0 48 (fun k => I1 267 (0 + k))) 186 6 48) 183 j = I 183 j := fun j => by rw [a_up_ne (Or.inl (by decide)), putRow_ne (by decide), F1.1 183 j (by decide) (Or.inl (by decide))]; exact R0.1 183 j (by omega) (fun z => z)
  have r267 : ∀ j, (a_up (putRow I1 184 0 48 (fun k => I1 267 (0 + k))) 186 6 48) 267 j = I1 267 j := fun j => by rw [a_up_ne (Or.inl (by decide)), putRow_ne (by decide)]
  have am : u_789 = 1 ↔ ∀ j, 0 ≤ j → j < 48 → (vfC 1 (rpR I) (rgR I) (muW I (-1 : Int))) j = rgR I j := aa.trans ⟨fun z j x y => by have w_ := z j x y; rw [r183, r267] at w_; rw [← h1 j x y, w_, Int.zero_add, rg_in l5 x (by omega)], fun z j x y => by have w_ := z j x y; rw [← h1 j x y] at w_; have g_ := g1_ j x y; have r_ := rg (0 + j); rw [r183, r267]; rw [rg_in l5 x (by omega)] at w_; rw [Int.zero_add] at *; omega⟩
  show AW l G M_Mo_dsaVerify P 792 [(0, vr 175)] [vi u_789] (sD h (a_up (putRow I1 184 0 48 (fun k => I1 267 (0 + k))) 186 6 48) L1)
  exact aw_zret d_Mo_dsaVerify_792 rfl (by omega) (hP _ _ ⟨_, _, _, rfl, rfl, by rw [a_up_ne (Or.inl (by decide)), putRow_ne (by decide), c41, c4_0 ⟨by decide, by decide⟩ b1 b2 (fun _ => vok)], Or.inl ⟨c4_0 ⟨by decide, by decide⟩ b1 b2 (fun _ => vok), fR0.fr (fR0.fr (fR0.fr R0 F1 (r := qN) (by intro a x y; exact ⟨fun z => z, by omega⟩) (by decide)) (FR.put (p := fun a => a = 184) rfl) (r := fun a => a = 184 ∨ a = 186) (by intro a x y; exact ⟨fun z => z, by omega⟩) (by decide)) (FR.up (p := fun a => a = 186) rfl) (by intro a x y; exact ⟨y, by omega⟩) (by decide), Or.inr ⟨pre, ⟨fun j x => by rw [a_up_ne (Or.inr x), putRow_ne (by decide), F1.1 186 j (by decide) (Or.inl (by decide))]; exact R0.1 186 j (by omega) (fun z => z), by rw [a_up_at]; rfl⟩, ⟨fun z x y => by rw [a_up_ne (Or.inl (by decide))]; exact HR.put (g' := (vfC 1 (rpR I) (rgR I) (muW I (-1 : Int)))) (fun z x y => h1 z x y) z x y, fun j => by rw [a_up_ne (Or.inl (by decide))]; have z := rng.p (I := I1) (f := 184) (o := 0) (n := 48) (g := fun k => I1 267 (0 + k)) j; rw [show I1 184 j = I 184 j from (F1.1 184 j (by decide) (Or.inl (by decide))).trans (R0.1 184 j (by omega) (fun z => z))] at z; exact z⟩, ao, am⟩⟩⟩)
set_option maxHeartbeats 4000000 in
set_option maxRecDepth 100000 in
theorem vD1N {l : Launch} {G : a_G} {P : a_R → Hp → Prop} {h : Hp} {I L K M : Nat → Int → Int} (S : Shp h) (R0 : fR0 qN I L K M) (D : RD K M 1) (rg : ∀ j, -128 ≤ I 183 j ∧ I 183 j ≤ 127) (b1 : (-1 : Int) ≠ 0 ∨ I 186 4 ≤ 255) (b2 : I 186 1 = 32 + 320 * pK 1) (pre : vfPre 1 (rgR I) (I 186 5)) (bn : bll 49 (vfBs 1 (rgR I)) ≠ none) (hB : eqQ (K 251) (vfB 1 (rgR I))) (hZ : ∀ m, 0 ≤ m → m < 5 → eqQ (K (205 + m.toNat)) (fwd rt ((vfZ 1 (rgR I)) m))) (b0 : K 175 23 = 8 * (320 * 0)) (hm : HR K 265 0 64 (muW I (-1 : Int))) (h4 : K 175 4 = 0) (tb : ∀ m, 0 ≤ m → m < 6 → tbl K (rgR I) 3248 55 m) (hP : ∀ r_ h2_, RsR h I L (c4 ((0 ≤ (1 : Int) ∧ (1 : Int) < 3) ∧ ((-1 : Int) = 0 ∨ (-1 : Int) = -1)) ((-1 : Int) ≠ 0 ∨ I 186 4 ≤ 255) (I 186 1 = 32 + 320 * pK (1 : Int)) (vfPre (1 : Int) (rgR I) (I 186 5) → vfOk (1 : Int) (rpR I) (rgR I))) (fun a => a = 184 ∨ a = 186) (fun v I' L' => (¬ vfPre (1 : Int) (rgR I) (I 186 5) ∧ v = 0 ∧ fR0 qN I L I' L') ∨ (vfPre (1 : Int) (rgR I) (I 186 5) ∧ ((∀ j, j ≠ 6 → I' 186 j = I 186 j) ∧ I' 186 6 = pC (1 : Int)) ∧ (HR I' 184 0 (pC (1 : Int)) (vfC (1 : Int) (rpR I) (rgR I) (muW I (-1 : Int))) ∧ rng (I 184) (I' 184)) ∧ (v = 0 ∨ v = 1) ∧ (v = 1 ↔ ∀ j, 0 ≤ j → j < pC (1 : Int) → vfC (1 : Int) (rpR I) (rgR I) (muW I (-1 : Int)) j = rgR I j))) r_ h2_ → P r_ h2_) : AW l G M_Mo_dsaVerify P 402 [(0, vr 175)] [] (sD h K M) := by
  refine aw_iconst d_Mo_dsaVerify_402 ⟨by decide, by decide⟩ ?_
  refine aw_istore (lv' := [(4, vi 0), (0, vr 175)]) d_Mo_dsaVerify_403 (by decide) rfl ?_
  have lp_405 : ∀ (n_ : Nat) (i : Int) (K2 : Nat → Int → Int) (M2 : Nat → Int → Int), (0 ≤ i ∧ i ≤ 6) → (FR (fun a => a = 250 ∨ a = 252 ∨ 235 ≤ a ∧ a ≤ 242) K M K2 M2) → (K2 175 23 = 8 * (320 * i)) → (∀ m, 0 ≤ m → m < i → eqQ (K2 (205 + (30 + m).toNat)) ((fun m j => hvV (rgR I) 3248 55 261888 16 m j ((vfW 1 (rpR I) (rgR I)) m j)) m)) → (∀ m, 0 ≤ m → m < 5 * i → (wide (rpR I) (m % 5) (m / 5)).2.1 = 256) → (K2 175 4 = 0) → ((6 - i).toNat) = n_ → AW l G M_Mo_dsaVerify P 405 [(4, vi i), (0, vr 175)] [] (sD h K2 M2) := by
    intro n_
    induction n_ using Nat.strongRecOn with
    | _ n_ ih_405 =>
    intro i K2 M2 hi F2 bb dn okA h42 hm_405
    have pk2 : ∀ x, K2 179 x = I 179 x := fun x => (F2.1 179 x (by omega) (Or.inl (by decide))).trans (R0.1 179 x (by omega) (fun z => z))
    refine aw_iload d_Mo_dsaVerify_405 rfl ?_
    refine aw_aload_n d_Mo_dsaVerify_407 rfl rfl ?_
    refine ax_getIe (x := 6) d_Mo_dsaVerify_408 fd_Mo_223 (k_175 S) (Eq.trans (F2.1 175 26 (by omega) (Or.inr (by decide))) (dr1_26 D)) ?_
    refine aw_icmp_ge (tgt := 732) d_Mo_dsaVerify_411 (by decide) (fun c_411 => ?_) (fun c_411 => ?_)
    · skip
      refine aw_sub (lv' := [(0, vr 175)]) (by simp) ?_
      exact vE1N S (fR0.fr R0 F2 (by intro a x y; exact ⟨fun z => z, by omega⟩) (by omega)) (D.fr F2 (by omega)) rg b1 b2 pre ⟨bn, fun m a b => okA m a (by have b2 : m < 30 := b; omega)⟩ (fun m a b => dn m a (by omega)) (hm.fr F2 (by omega) (by decide)) h42 hP
    · skip
      refine aw_iconst d_Mo_dsaVerify_414 ⟨by decide, by decide⟩ ?_
      refine aw_istore (lv' := [(5, vi 0), (4, vi i), (0, vr 175)]) d_Mo_dsaVerify_415 (by decide) rfl ?_
      have lp_417 : ∀ (n_ : Nat) (c : Int) (K3 : Nat → Int → Int), (0 ≤ c ∧ c ≤ 256) → (FR (fun a => a = 250) K2 M2 K3 M2) → (K3 175 23 = 8 * (320 * i) + 10 * c) → (∀ x, 0 ≤ x → x < c → K3 250 x = (fun x => (8380417 - gR (fun k => rpR I (32 + 320 * i + k)) 10 x * 8192 % 8380417) % 8380417) x) → (K3 175 4 = 0) → ((256 - c).toNat) = n_ → AW l G M_Mo_dsaVerify P 417 [(5, vi c), (4, vi i), (0, vr 175)] [] (sD h K3 M2) := by
        intro n_
        induction n_ using Nat.strongRecOn with
        | _ n_ ih_417 =>
        intro c K3 hc F3 b3 x3 h43 hm_417
        have pk3 : ∀ x, K3 179 x = I 179 x := fun x => by rw [F3.1 179 _ (by decide) (Or.inl (by decide)), pk2]
        refine aw_iload d_Mo_dsaVerify_417 rfl ?_
        refine aw_sipush d_Mo_dsaVerify_419 ⟨by decide, by decide⟩ (by decide) ?_
        refine aw_icmp_ge (tgt := 473) d_Mo_dsaVerify_422 (by decide) (fun c_422 => ?_) (fun c_422 => ?_)
        · skip
          refine aw_aload_n d_Mo_dsaVerify_473 rfl rfl ?_
          refine aw_aload_n d_Mo_dsaVerify_474 rfl rfl ?_
          refine ax_getR (b := 204) d_Mo_dsaVerify_475 fd_Mo_76 (k_175 S) (r_175_28 S) ?_
          refine aw_bipush d_Mo_dsaVerify_478 ⟨by decide, by decide⟩ (by decide) ?_
          refine ax_aald (b := 250) d_Mo_dsaVerify_480 ⟨by rw [(k_204 S)]; decide, by rw [(k_204 S)]; decide⟩ (by omega) (by rw [n_204 S]; omega) (g_204 S (j := 45) (by decide) (by decide)) ?_
          have D3 := (D.fr F2 (by omega)).fr F3 (by decide)
          refine ax_Vr (st := []) (as := [vr 250]) (b := 175) d_Mo_dsaVerify_481 cs_Mo_dsaVerify_481 (k_175 S) (c_Mo_evaluate S ⟨k_250 S, by decide, n_250 S⟩ (by decide) (fun x a b => by rw [x3 x a (by omega)]; show 0 ≤ _ % 8380417 ∧ _ % 8380417 < 8380417; exact ⟨Int.emod_nonneg _ (by decide), Int.emod_lt_of_pos _ (by decide)⟩) D3.2.2) rfl rfl rfl (fun u_481 q_481 => ?_)
          have l5 := q_481
          have ng : ∀ x, 0 ≤ x → x < 256 → cq (eva (K3 250) x) (-(fwd rt (tpF (rpR I) i) x)) := fun x a b => by rw [fwd_eva a b]; exact eva_neg (fun y hy => by rw [x3 y (by omega) (by omega)]; show cq ((8380417 - tpF (rpR I) i y % 8380417) % 8380417) (-(tpF (rpR I) i y)); unfold cq; omega)
          have F3b : FR (fun a => a = 250 ∨ a = 252 ∨ 235 ≤ a ∧ a ≤ 242) K3 M2 (rowTo (rowTo (rowTo K3 250 256 (eva (K3 250))) (205 + (30 + i).toNat) 256 (fun _ => 0)) (205 + (30 + i).toNat) 256 (fun x => ((rowTo (rowTo K3 250 256 (eva (K3 250))) (205 + (30 + i).toNat) 256 (fun _ => 0)) (205 + (30 + i).toNat) x + (rowTo (rowTo K3 250 256 (eva (K3 250))) (205 + (30 + i).toNat) 256 (fun _ => 0)) 250 x * (rowTo (rowTo K3 250 256 (eva (K3 250))) (205 + (30 + i).toNat) 256 (fun _ => 0)) 251 x) % 8380417)) u_481 := ((FR.row (p := fun a => a = 250 ∨ a = 252 ∨ 235 ≤ a ∧ a ≤ 242) (by omega) l5).tr (FR.row (p := fun a => a = 250 ∨ a = 252 ∨ 235 ≤ a ∧ a ≤ 242) (by omega) (fun _ _ _ => rfl)) (fun a x => ⟨x, x⟩)).tr (FR.row (p := fun a => a = 250 ∨ a = 252 ∨ 235 ≤ a ∧ a ≤ 242) (by omega) (fun _ _ _ => rfl)) (fun a x => ⟨x, x⟩)
          show AW l G M_Mo_dsaVerify P 484 [(5, vi c), (4, vi i), (0, vr 175)] [] (sD h (rowTo K3 250 256 (eva (K3 250))) u_481)
          refine aw_aload_n d_Mo_dsaVerify_484 rfl rfl ?_
          refine ax_getR (b := 204) d_Mo_dsaVerify_485 fd_Mo_76 (k_175 S) (r_175_28 S) ?_
          refine aw_bipush d_Mo_dsaVerify_488 ⟨by decide, by decide⟩ (by decide) ?_
          refine aw_iload d_Mo_dsaVerify_490 rfl ?_
          refine ax_iadd d_Mo_dsaVerify_492 ⟨(by omega), (by omega)⟩ ?_
          refine ax_aald (b := 205 + (30 + i).toNat) d_Mo_dsaVerify_493 ⟨by rw [(k_204 S)]; decide, by rw [(k_204 S)]; decide⟩ (by omega) (by rw [n_204 S]; omega) (g_204 S (by omega) (by omega)) ?_
          refine ax_S (st := []) (as := [vr (205 + (30 + i).toNat)]) (v := none) (h' := sD h (rowTo (rowTo K3 250 256 (eva (K3 250))) (205 + (30 + i).toNat) 256 (fun _ => 0)) u_481) d_Mo_dsaVerify_494 cs_Mo_dsaVerify_494 (c_Mo_clear ⟨kr_204 S (by omega), by omega, nr_204 S (by omega)⟩) rfl rfl rfl ?_
          show AW l G M_Mo_dsaVerify P 497 [(5, vi c), (4, vi i), (0, vr 175)] [] (sD h (rowTo (rowTo K3 250 256 (eva (K3 250))) (205 + (30 + i).toNat) 256 (fun _ => 0)) u_481)
          refine aw_aload_n d_Mo_dsaVerify_497 rfl rfl ?_
          refine ax_getR (b := 204) d_Mo_dsaVerify_498 fd_Mo_76 (k_175 S) (r_175_28 S) ?_
          refine aw_bipush d_Mo_dsaVerify_501 ⟨by decide, by decide⟩ (by decide) ?_
          refine aw_iload d_Mo_dsaVerify_503 rfl ?_
          refine ax_iadd d_Mo_dsaVerify_505 ⟨(by omega), (by omega)⟩ ?_
          refine ax_aald (b := 205 + (30 + i).toNat) d_Mo_dsaVerify_506 ⟨by rw [(k_204 S)]; decide, by rw [(k_204 S)]; decide⟩ (by omega) (by rw [n_204 S]; omega) (g_204 S (by omega) (by omega)) ?_
          refine aw_aload_n d_Mo_dsaVerify_507 rfl rfl ?_
          refine ax_getR (b := 204) d_Mo_dsaVerify_508 fd_Mo_76 (k_175 S) (r_175_28 S) ?_
          refine aw_bipush d_Mo_dsaVerify_511 ⟨by decide, by decide⟩ (by decide) ?_
          refine ax_aald (b := 250) d_Mo_dsaVerify_513 ⟨by rw [(k_204 S)]; decide, by rw [(k_204 S)]; decide⟩ (by omega) (by rw [n_204 S]; omega) (g_204 S (j := 45) (by decide) (by decide)) ?_
          refine aw_aload_n d_Mo_dsaVerify_514 rfl rfl ?_
          refine ax_getR (b := 204) d_Mo_dsaVerify_515 fd_Mo_76 (k_175 S) (r_175_28 S) ?_
          refine aw_bipush d_Mo_dsaVerify_518 ⟨by decide, by decide⟩ (by decide) ?_
          refine ax_aald (b := 251) d_Mo_dsaVerify_520 ⟨by rw [(k_204 S)]; decide, by rw [(k_204 S)]; decide⟩ (by omega) (by rw [n_204 S]; omega) (g_204 S (j := 46) (by decide) (by decide)) ?_
          refine ax_S (st := []) (as := [vr (205 + (30 + i).toNat), vr 250, vr 251]) (v := none) (h' := sD h (rowTo (rowTo (rowTo K3 250 256 (eva (K3 250))) (205 + (30 + i).toNat) 256 (fun _ => 0)) (205 + (30 + i).toNat) 256 (fun x => ((rowTo (rowTo K3 250 256 (eva (K3 250))) (205 + (30 + i).toNat) 256 (fun _ => 0)) (205 + (30 + i).toNat) x + (rowTo (rowTo K3 250 256 (eva (K3 250))) (205 + (30 + i).toNat) 256 (fun _ => 0)) 250 x * (rowTo (rowTo K3 250 256 (eva (K3 250))) (205 + (30 + i).toNat) 256 (fun _ => 0)) 251 x) % 8380417)) u_481) d_Mo_dsaVerify_521 cs_Mo_dsaVerify_521 (c_Mo_addProducts ⟨kr_204 S (by omega), by omega, nr_204 S (by omega)⟩ ⟨k_250 S, by decide, n_250 S⟩ ⟨k_251 S, by decide, n_251 S⟩ (fun x a b => by rw [rowTo_in a b]; decide) (fun x a b => by rw [rowTo_ne (by omega), rowTo_in a b]; exact eva_in) (fun x a b => by rw [rowTo_ne (by omega), rowTo_ne (by decide), F3.1 251 x (by decide) (Or.inl (by decide)), F2.1 251 x (by omega) (Or.inl (by decide)), hB x a b]; exact vfB_in x a b)) rfl rfl rfl ?_
          show AW l G M_Mo_dsaVerify P 524 [(5, vi c), (4, vi i), (0, vr 175)] [] (sD h (rowTo (rowTo (rowTo K3 250 256 (eva (K3 250))) (205 + (30 + i).toNat) 256 (fun _ => 0)) (205 + (30 + i).toNat) 256 (fun x => ((rowTo (rowTo K3 250 256 (eva (K3 250))) (205 + (30 + i).toNat) 256 (fun _ => 0)) (205 + (30 + i).toNat) x + (rowTo (rowTo K3 250 256 (eva (K3 250))) (205 + (30 + i).toNat) 256 (fun _ => 0)) 250 x * (rowTo (rowTo K3 250 256 (eva (K3 250))) (205 + (30 + i).toNat) 256 (fun _ => 0)) 251 x) % 8380417)) u_481)
          refine aw_iconst d_Mo_dsaVerify_524 ⟨by decide, by decide⟩ ?_
          refine aw_istore (lv' := [(5, vi 0), (4, vi i), (0, vr 175)]) d_Mo_dsaVerify_525 (by decide) rfl ?_
          have lp_527 : ∀ (n_ : Nat) (j : Int) (K4 : Nat → Int → Int) (M4 : Nat → Int → Int), (0 ≤ j ∧ j ≤ 5) → (FR (fun a => a = 205 + (30 + i).toNat ∨ a = 252) (rowTo (rowTo (rowTo K3 250 256 (eva (K3 250))) (205 + (30 + i).toNat) 256 (fun _ => 0)) (205 + (30 + i).toNat) 256 (fun x => ((rowTo (rowTo K3 250 256 (eva (K3 250))) (205 + (30 + i).toNat) 256 (fun _ => 0)) (205 + (30 + i).toNat) x + (rowTo (rowTo K3 250 256 (eva (K3 250))) (205 + (30 + i).toNat) 256 (fun _ => 0)) 250 x * (rowTo (rowTo K3 250 256 (eva (K3 250))) (205 + (30 + i).toNat) 256 (fun _ => 0)) 251 x) % 8380417)) u_481 K4 M4) → (∀ x, 0 ≤ x → x < 256 → K4 (205 + (30 + i).toNat) x = (eva (K3 250) x * (vfB 1 (rgR I)) x + pS (sgA 1 (rpR I)) (fun j => fwd rt ((vfZ 1 (rgR I)) j)) (i * 5) x j.toNat) % 8380417) → (∀ m, 0 ≤ m → m < j → (wide (rpR I) m i).2.1 = 256) → (K4 175 4 = 0) → (K4 175 23 = 8 * (320 * i) + 10 * 256) → ((5 - j).toNat) = n_ → AW l G M_Mo_dsaVerify P 527 [(5, vi j), (4, vi i), (0, vr 175)] [] (sD h K4 M4) := by
            intro n_
            induction n_ using Nat.strongRecOn with
            | _ n_ ih_527 =>
            intro j K4 M4 hj F4 r4 okJ h44 b4 hm_527
            have z4 : ∀ a j, (a ≠ 205 + (30 + i).toNat ∧ a ≠ 252 ∧ a ≠ 250 ∧ a < 235) → a ≠ 175 → K4 a j = K2 a j := fun a x y z => by rw [F4.1 _ _ (by omega) (Or.inl z), rowTo_ne (by omega), rowTo_ne (by omega), rowTo_ne (by omega), F3.1 _ _ (by omega) (Or.inl z)]
            have pk4 : ∀ x, K4 179 x = I 179 x := fun x => (z4 179 x (by omega) (by decide)).trans (pk2 x)
            have D4 := (D3.fr F3b (by omega)).fr F4 (by omega)
            refine aw_iload d_Mo_dsaVerify_527 rfl ?_
            refine aw_aload_n d_Mo_dsaVerify_529 rfl rfl ?_
            refine ax_getIe (x := 5) d_Mo_dsaVerify_530 fd_Mo_226 (k_175 S) (Eq.trans (F4.1 175 32 (by omega) (Or.inr (by decide))) (Eq.trans (rowTo_ne (by omega)) (Eq.trans (rowTo_ne (by omega)) (Eq.trans (rowTo_ne (by omega)) (Eq.trans (F3.1 175 32 (by omega) (Or.inr (by decide))) (Eq.trans (F2.1 175 32 (by omega) (Or.inr (by decide))) (dr1_32 D))))))) ?_
            refine aw_icmp_ge (tgt := 601) d_Mo_dsaVerify_533 (by decide) (fun c_533 => ?_) (fun c_533 => ?_)
            · skip
              refine aw_aload_n d_Mo_dsaVerify_601 rfl rfl ?_
              refine aw_aload_n d_Mo_dsaVerify_602 rfl rfl ?_
              refine ax_getR (b := 204) d_Mo_dsaVerify_603 fd_Mo_76 (k_175 S) (r_175_28 S) ?_
              refine aw_bipush d_Mo_dsaVerify_606 ⟨by decide, by decide⟩ (by decide) ?_
              refine aw_iload d_Mo_dsaVerify_608 rfl ?_
              refine ax_iadd d_Mo_dsaVerify_610 ⟨(by omega), (by omega)⟩ ?_
              refine ax_aald (b := 205 + (30 + i).toNat) d_Mo_dsaVerify_611 ⟨by rw [(k_204 S)]; decide, by rw [(k_204 S)]; decide⟩ (by omega) (by rw [n_204 S]; omega) (g_204 S (by omega) (by omega)) ?_
              refine ax_Vr (st := []) (as := [vr (205 + (30 + i).toNat)]) (b := 175) d_Mo_dsaVerify_612 cs_Mo_dsaVerify_612 (k_175 S) (c_Mo_interpolate S ⟨kr_204 S (by omega), by omega, nr_204 S (by omega)⟩ (by omega) (fun x a b => by rw [r4 x a b]; show 0 ≤ _ % 8380417 ∧ _ % 8380417 < 8380417; exact ⟨Int.emod_nonneg _ (by decide), Int.emod_lt_of_pos _ (by decide)⟩) D4.2.2) rfl rfl rfl (fun u_612 q_612 => ?_)
              have l7 := q_612
              have w7 : eqQ ((rowTo K4 (205 + (30 + i).toNat) 256 (itp (K4 (205 + (30 + i).toNat)))) (205 + (30 + i).toNat)) ((vfW 1 (rpR I) (rgR I)) i) := fun x a b => by rw [rowTo_in a b]; show itp _ x = bck rt (fun c => (pS (sgA 1 (rpR I)) (fun j => fwd rt ((vfZ 1 (rgR I)) j)) (i * 5) c 5 % 8380417 - (vfB 1 (rgR I)) c * fwd rt (tpF (rpR I) i) c % 8380417) % 8380417) x; rw [bck_itp a b]; exact itp_cq (fun y hy => by rw [r4 y (by omega) (by omega), show j.toNat = 5 by omega]; exact vsum (ng y (by omega) (by omega)))
              show AW l G M_Mo_dsaVerify P 615 [(5, vi j), (4, vi i), (0, vr 175)] [] (sD h (rowTo K4 (205 + (30 + i).toNat) 256 (itp (K4 (205 + (30 + i).toNat)))) u_612)
              refine aw_ldcw (n := 8380416) d_Mo_dsaVerify_615 lc_Mo_279 ⟨by decide, by decide⟩ ?_
              refine aw_iconst d_Mo_dsaVerify_618 ⟨by decide, by decide⟩ ?_
              refine aw_aload_n d_Mo_dsaVerify_619 rfl rfl ?_
              refine ax_getIe (x := 261888) d_Mo_dsaVerify_620 fd_Mo_242 (k_175 S) (Eq.trans (rowTo_ne (by omega)) (Eq.trans (F4.1 175 36 (by omega) (Or.inr (by decide))) (Eq.trans (rowTo_ne (by omega)) (Eq.trans (rowTo_ne (by omega)) (Eq.trans (rowTo_ne (by omega)) (Eq.trans (F3.1 175 36 (by omega) (Or.inr (by decide))) (Eq.trans (F2.1 175 36 (by omega) (Or.inr (by decide))) (dr1_36 D)))))))) ?_
              refine ax_imul d_Mo_dsaVerify_623 ⟨(by omega), (by omega)⟩ ?_
              refine ax_ti (x := 523776) (by decide) ?_
              refine ax_idiv d_Mo_dsaVerify_624 ⟨(by omega), (by omega)⟩ (by omega) ?_
              refine ax_ti (x := 16) (by decide) ?_
              refine aw_istore (lv' := [(5, vi 16), (4, vi i), (0, vr 175)]) d_Mo_dsaVerify_625 (by decide) rfl ?_
              refine aw_iconst d_Mo_dsaVerify_627 ⟨by decide, by decide⟩ ?_
              refine aw_istore (lv' := [(6, vi 0), (5, vi 16), (4, vi i), (0, vr 175)]) d_Mo_dsaVerify_628 (by decide) rfl ?_
              have lp_630 : ∀ (n_ : Nat) (c : Int) (K7 : Nat → Int → Int), (0 ≤ c ∧ c ≤ 256) → (FR (fun a => a = 205 + (30 + i).toNat) (rowTo K4 (205 + (30 + i).toNat) 256 (itp (K4 (205 + (30 + i).toNat)))) u_612 K7 u_612) → (∀ a x, a ≠ 205 + (30 + i).toNat → K7 a x = (rowTo K4 (205 + (30 + i).toNat) 256 (itp (K4 (205 + (30 + i).toNat)))) a x) → ((∀ x, 0 ≤ x → x < c → K7 (205 + (30 + i).toNat) x = hvV (rgR I) 3248 55 261888 16 i x ((vfW 1 (rpR I) (rgR I)) i x)) ∧ ∀ x, c ≤ x → x < 256 → K7 (205 + (30 + i).toNat) x = (vfW 1 (rpR I) (rgR I)) i x) → ((256 - c).toNat) = n_ → AW l G M_Mo_dsaVerify P 630 [(6, vi c), (5, vi 16), (4, vi i), (0, vr 175)] [] (sD h K7 u_612) := by
                intro n_
                induction n_ using Nat.strongRecOn with
                | _ n_ ih_630 =>
                intro c K7 hc7 F7 F7f r7 hm_630
                have gp7 : K7 175 36 = 261888 := by rw [F7f 175 36 (by omega), rowTo_ne (by omega)]; exact dr1_36 D4
                have tb7 : c < 256 → (K7 (254 + i.toNat) c = 0 ∨ K7 (254 + i.toNat) c = 1) ∧ (K7 (254 + i.toNat) c = 1 ↔ hin (rgR I) 3248 55 i c) := fun v => by rw [show K7 (254 + i.toNat) c = K (254 + i.toNat) c from by rw [F7f _ _ (by omega), rowTo_ne (by omega), F4.1 _ _ (by omega) (Or.inl (by omega)), rowTo_ne (by omega), rowTo_ne (by omega), rowTo_ne (by omega), F3.1 _ _ (by omega) (Or.inl (by omega)), F2.1 _ _ (by omega) (Or.inl (by omega))]]; exact tb i hi.1 (by omega) c hc7.1 v
                refine aw_iload d_Mo_dsaVerify_630 rfl ?_
                refine aw_sipush d_Mo_dsaVerify_632 ⟨by decide, by decide⟩ (by decide) ?_
                refine aw_icmp_ge (tgt := 726) d_Mo_dsaVerify_635 (by decide) (fun c_635 => ?_) (fun c_635 => ?_)
                · skip
                  refine ax_iinc (lv' := [(4, vi (i + 1)), (6, vi c), (5, vi 16), (0, vr 175)]) d_Mo_dsaVerify_726 rfl (by decide) ⟨(by omega), (by omega)⟩ rfl ?_
                  refine aw_goto (tgt := 405) d_Mo_dsaVerify_729 (by decide) ?_
                  refine aw_sub (lv' := [(4, vi (i + 1)), (0, vr 175)]) (by simp) ?_
                  exact ih_405 _ (by omega) (i + 1) K7 u_612 (by omega) (((((F2.tr (F3.mono (r := fun a => a = 250 ∨ a = 252 ∨ 235 ≤ a ∧ a ≤ 242) (by intro a x; omega)) (fun a x => ⟨x, x⟩)).tr F3b (fun a x => ⟨x, x⟩)).tr (F4.mono (r := fun a => a = 250 ∨ a = 252 ∨ 235 ≤ a ∧ a ≤ 242) (by intro a x; omega)) (fun a x => ⟨x, x⟩)).tr (FR.row (p := fun a => a = 250 ∨ a = 252 ∨ 235 ≤ a ∧ a ≤ 242) (by omega) l7) (fun a x => ⟨x, x⟩)).tr (F7.mono (r := fun a => a = 250 ∨ a = 252 ∨ 235 ≤ a ∧ a ≤ 242) (by intro a x; omega)) (fun a x => ⟨x, x⟩)) (by rw [F7f 175 23 (by omega), rowTo_ne (by omega), b4]; omega) (fun m a b x u v => by by_cases z : m = i; exact (by rw [z]; exact r7.1 x u (by omega)); exact (by rw [F7f _ _ (by omega), rowTo_ne (by omega), F4.1 _ _ (by omega) (Or.inl (by omega)), rowTo_ne (by omega), rowTo_ne (by omega), rowTo_ne (by omega), F3.1 _ _ (by omega) (Or.inl (by omega))]; exact dn m a (by omega) x u v)) (fun m a b => by by_cases v : m < 5 * i; exact okA m a v; exact (by have w_ := okJ (m - 5 * i) (by omega) (by omega); rw [show m % 5 = m - 5 * i by omega, show m / 5 = i by omega]; exact w_)) (by rw [F7f 175 4 (by omega), rowTo_ne (by omega)]; exact h44) rfl
                · skip
                  have wr := vfW_in (s := 1) (pk := (rpR I)) (g := (rgR I)) (m := i) c hc7.1 (by omega)
                  have hb_ := dHi16 wr
                  refine aw_aload_n d_Mo_dsaVerify_638 rfl rfl ?_
                  refine ax_getR (b := 204) d_Mo_dsaVerify_639 fd_Mo_76 (k_175 S) (r_175_28 S) ?_
                  refine aw_bipush d_Mo_dsaVerify_642 ⟨by decide, by decide⟩ (by decide) ?_
                  refine aw_iload d_Mo_dsaVerify_644 rfl ?_
                  refine ax_iadd d_Mo_dsaVerify_646 ⟨(by omega), (by omega)⟩ ?_
                  refine ax_aald (b := 205 + (30 + i).toNat) d_Mo_dsaVerify_647 ⟨by rw [(k_204 S)]; decide, by rw [(k_204 S)]; decide⟩ (by omega) (by rw [n_204 S]; omega) (g_204 S (by omega) (by omega)) ?_
                  refine aw_iload d_Mo_dsaVerify_648 rfl ?_
                  refine ax_ialde (x := (vfW 1 (rpR I) (rgR I)) i c) d_Mo_dsaVerify_650 (kr_204 S (by omega)) (by omega) (by rw [nr_204 S (by omega)]; omega) (r7.2 c (Int.le_refl _) (by omega)) ?_
                  refine aw_istore (lv' := [(7, vi ((vfW 1 (rpR I) (rgR I)) i c)), (6, vi c), (5, vi 16), (4, vi i), (0, vr 175)]) d_Mo_dsaVerify_651 (by decide) rfl ?_
                  refine aw_aload_n d_Mo_dsaVerify_653 rfl rfl ?_
                  refine aw_iload d_Mo_dsaVerify_654 rfl ?_
                  refine ax_V (st := []) (as := [vi ((vfW 1 (rpR I) (rgR I)) i c)]) (b := 175) (v := some (vi (dHigh 261888 ((vfW 1 (rpR I) (rgR I)) i c)))) (h' := sD h K7 u_612) d_Mo_dsaVerify_656 cs_Mo_dsaVerify_656 (k_175 S) (by have z := c_Mo_high (l := l) (G := G) (L := u_612) (I := K7) (r := (vfW 1 (rpR I) (rgR I)) i c) S (by rw [gp7]; decide) wr; rw [gp7] at z; exact z) rfl rfl rfl ?_
                  show AW l G M_Mo_dsaVerify P 659 [(7, vi ((vfW 1 (rpR I) (rgR I)) i c)), (6, vi c), (5, vi 16), (4, vi i), (0, vr 175)] [vi (dHigh 261888 ((vfW 1 (rpR I) (rgR I)) i c))] (sD h K7 u_612)
                  refine aw_istore (lv' := [(8, vi (dHigh 261888 ((vfW 1 (rpR I) (rgR I)) i c))), (7, vi ((vfW 1 (rpR I) (rgR I)) i c)), (6, vi c), (5, vi 16), (4, vi i), (0, vr 175)]) d_Mo_dsaVerify_659 (by decide) rfl ?_
                  refine aw_aload_n d_Mo_dsaVerify_661 rfl rfl ?_
                  refine ax_getR (b := 253) d_Mo_dsaVerify_662 fd_Mo_81 (k_175 S) (r_175_29 S) ?_
                  refine aw_iload d_Mo_dsaVerify_665 rfl ?_
                  refine ax_aald (b := 254 + i.toNat) d_Mo_dsaVerify_667 ⟨by rw [(k_253 S)]; decide, by rw [(k_253 S)]; decide⟩ (by omega) (by rw [n_253 S]; omega) (g_253 S (by omega) (by omega)) ?_
                  refine aw_iload d_Mo_dsaVerify_668 rfl ?_
                  refine ax_zalde (x := K7 (254 + i.toNat) c) d_Mo_dsaVerify_670 (kr_253 S (by omega)) (by omega) (by rw [nr_253 S (by omega)]; omega) (rfl) ?_
                  refine aw_if_eq (tgt := 705) d_Mo_dsaVerify_671 (by decide) (fun c_671 => ?_) (fun c_671 => ?_)
                  · skip
                    refine aw_aload_n d_Mo_dsaVerify_705 rfl rfl ?_
                    refine ax_getR (b := 204) d_Mo_dsaVerify_706 fd_Mo_76 (k_175 S) (r_175_28 S) ?_
                    refine aw_bipush d_Mo_dsaVerify_709 ⟨by decide, by decide⟩ (by decide) ?_
                    refine aw_iload d_Mo_dsaVerify_711 rfl ?_
                    refine ax_iadd d_Mo_dsaVerify_713 ⟨(by omega), (by omega)⟩ ?_
                    refine ax_aald (b := 205 + (30 + i).toNat) d_Mo_dsaVerify_714 ⟨by rw [(k_204 S)]; decide, by rw [(k_204 S)]; decide⟩ (by omega) (by rw [n_204 S]; omega) (g_204 S (by omega) (by omega)) ?_
                    refine aw_iload d_Mo_dsaVerify_715 rfl ?_
                    refine aw_iload d_Mo_dsaVerify_717 rfl ?_
                    refine ax_iast d_Mo_dsaVerify_719 (kr_204 S (by omega)) (by omega) (by omega) (by rw [nr_204 S (by omega)]; omega) ?_
                    refine ax_iinc (lv' := [(6, vi (c + 1)), (8, vi (dHigh 261888 ((vfW 1 (rpR I) (rgR I)) i c))), (7, vi ((vfW 1 (rpR I) (rgR I)) i c)), (5, vi 16), (4, vi i), (0, vr 175)]) d_Mo_dsaVerify_720 rfl (by decide) ⟨(by omega), (by omega)⟩ rfl ?_
                    refine aw_goto (tgt := 630) d_Mo_dsaVerify_723 (by decide) ?_
                    refine aw_sub (lv' := [(6, vi (c + 1)), (5, vi 16), (4, vi i), (0, vr 175)]) (by simp) ?_
                    exact ih_630 _ (by omega) (c + 1) (a_up K7 (205 + (30 + i).toNat) c (dHigh 261888 ((vfW 1 (rpR I) (rgR I)) i c))) (by omega) (F7.tr (FR.up (p := fun a => a = 205 + (30 + i).toNat) rfl) (fun a x => ⟨x, x⟩)) (fun a x y => (a_up_ne (Or.inl y)).trans (F7f a x y)) (⟨fun x a b => by by_cases z : x = c; exact (by rw [z, a_up_at]; exact (hvV_n (fun z => by have y := (tb7 (by omega)).2.2 z; omega)).symm); exact (by rw [a_up_ne (Or.inr z)]; exact r7.1 x a (by omega)), fun x a b => by rw [a_up_ne (Or.inr (by omega))]; exact r7.2 x (by omega) b⟩) rfl
                  · skip
                    refine aw_aload_n d_Mo_dsaVerify_674 rfl rfl ?_
                    refine aw_iload d_Mo_dsaVerify_675 rfl ?_
                    refine ax_V (st := []) (as := [vi ((vfW 1 (rpR I) (rgR I)) i c)]) (b := 175) (v := some (vi (dLow 261888 ((vfW 1 (rpR I) (rgR I)) i c)))) (h' := sD h K7 u_612) d_Mo_dsaVerify_677 cs_Mo_dsaVerify_677 (k_175 S) (by have z := c_Mo_low (l := l) (G := G) (L := u_612) (I := K7) (r := (vfW 1 (rpR I) (rgR I)) i c) S (by rw [gp7]; decide) wr; rw [gp7] at z; exact z) rfl rfl rfl ?_
                    show AW l G M_Mo_dsaVerify P 680 [(8, vi (dHigh 261888 ((vfW 1 (rpR I) (rgR I)) i c))), (7, vi ((vfW 1 (rpR I) (rgR I)) i c)), (6, vi c), (5, vi 16), (4, vi i), (0, vr 175)] [vi (dLow 261888 ((vfW 1 (rpR I) (rgR I)) i c))] (sD h K7 u_612)
                    refine aw_if_le (tgt := 693) d_Mo_dsaVerify_680 (by decide) (fun c_680 => ?_) (fun c_680 => ?_)
                    · skip
                      refine aw_iload d_Mo_dsaVerify_693 rfl ?_
                      refine aw_iload d_Mo_dsaVerify_695 rfl ?_
                      refine ax_iadd d_Mo_dsaVerify_697 ⟨(by omega), (by omega)⟩ ?_
                      refine aw_iconst d_Mo_dsaVerify_698 ⟨by decide, by decide⟩ ?_
                      refine ax_isub d_Mo_dsaVerify_699 ⟨(by omega), (by omega)⟩ ?_
                      refine aw_iload d_Mo_dsaVerify_700 rfl ?_
                      refine ax_irem d_Mo_dsaVerify_702 (by omega) (by omega) ?_
                      refine aw_istore (lv' := [(8, vi ((((dHigh 261888 ((vfW 1 (rpR I) (rgR I)) i c)) + 16) - 1) % 16)), (7, vi ((vfW 1 (rpR I) (rgR I)) i c)), (6, vi c), (5, vi 16), (4, vi i), (0, vr 175)]) d_Mo_dsaVerify_703 (by decide) rfl ?_
                      refine aw_aload_n d_Mo_dsaVerify_705 rfl rfl ?_
                      refine ax_getR (b := 204) d_Mo_dsaVerify_706 fd_Mo_76 (k_175 S) (r_175_28 S) ?_
                      refine aw_bipush d_Mo_dsaVerify_709 ⟨by decide, by decide⟩ (by decide) ?_
                      refine aw_iload d_Mo_dsaVerify_711 rfl ?_
                      refine ax_iadd d_Mo_dsaVerify_713 ⟨(by omega), (by omega)⟩ ?_
                      refine ax_aald (b := 205 + (30 + i).toNat) d_Mo_dsaVerify_714 ⟨by rw [(k_204 S)]; decide, by rw [(k_204 S)]; decide⟩ (by omega) (by rw [n_204 S]; omega) (g_204 S (by omega) (by omega)) ?_
                      refine aw_iload d_Mo_dsaVerify_715 rfl ?_
                      refine aw_iload d_Mo_dsaVerify_717 rfl ?_
                      refine ax_iast d_Mo_dsaVerify_719 (kr_204 S (by omega)) (by omega) (by omega) (by rw [nr_204 S (by omega)]; omega) ?_
                      refine ax_iinc (lv' := [(6, vi (c + 1)), (8, vi ((((dHigh 261888 ((vfW 1 (rpR I) (rgR I)) i c)) + 16) - 1) % 16)), (7, vi ((vfW 1 (rpR I) (rgR I)) i c)), (5, vi 16), (4, vi i), (0, vr 175)]) d_Mo_dsaVerify_720 rfl (by decide) ⟨(by omega), (by omega)⟩ rfl ?_
                      refine aw_goto (tgt := 630) d_Mo_dsaVerify_723 (by decide) ?_
                      refine aw_sub (lv' := [(6, vi (c + 1)), (5, vi 16), (4, vi i), (0, vr 175)]) (by simp) ?_
                      exact ih_630 _ (by omega) (c + 1) (a_up K7 (205 + (30 + i).toNat) c ((((dHigh 261888 ((vfW 1 (rpR I) (rgR I)) i c)) + 16) - 1) % 16)) (by omega) (F7.tr (FR.up (p := fun a => a = 205 + (30 + i).toNat) rfl) (fun a x => ⟨x, x⟩)) (fun a x y => (a_up_ne (Or.inl y)).trans (F7f a x y)) (⟨fun x a b => by by_cases z : x = c; exact (by rw [z, a_up_at]; rw [hvV_y ((tb7 (by omega)).2.1 (by have y := (tb7 (by omega)).1; omega)), hh_n (by omega)]); exact (by rw [a_up_ne (Or.inr z)]; exact r7.1 x a (by omega)), fun x a b => by rw [a_up_ne (Or.inr (by omega))]; exact r7.2 x (by omega) b⟩) rfl
                    · skip
                      refine aw_iload d_Mo_dsaVerify_683 rfl ?_
                      refine aw_iconst d_Mo_dsaVerify_685 ⟨by decide, by decide⟩ ?_
                      refine ax_iadd d_Mo_dsaVerify_686 ⟨(by omega), (by omega)⟩ ?_
                      refine aw_iload d_Mo_dsaVerify_687 rfl ?_
                      refine ax_irem d_Mo_dsaVerify_689 (by omega) (by omega) ?_
                      refine aw_goto (tgt := 703) d_Mo_dsaVerify_690 (by decide) ?_
                      refine aw_istore (lv' := [(8, vi (((dHigh 261888 ((vfW 1 (rpR I) (rgR I)) i c)) + 1) % 16)), (7, vi ((vfW 1 (rpR I) (rgR I)) i c)), (6, vi c), (5, vi 16), (4, vi i), (0, vr 175)]) d_Mo_dsaVerify_703 (by decide) rfl ?_
                      refine aw_aload_n d_Mo_dsaVerify_705 rfl rfl ?_
                      refine ax_getR (b := 204) d_Mo_dsaVerify_706 fd_Mo_76 (k_175 S) (r_175_28 S) ?_
                      refine aw_bipush d_Mo_dsaVerify_709 ⟨by decide, by decide⟩ (by decide) ?_
                      refine aw_iload d_Mo_dsaVerify_711 rfl ?_
                      refine ax_iadd d_Mo_dsaVerify_713 ⟨(by omega), (by omega)⟩ ?_
                      refine ax_aald (b := 205 + (30 + i).toNat) d_Mo_dsaVerify_714 ⟨by rw [(k_204 S)]; decide, by rw [(k_204 S)]; decide⟩ (by omega) (by rw [n_204 S]; omega) (g_204 S (by omega) (by omega)) ?_
                      refine aw_iload d_Mo_dsaVerify_715 rfl ?_
                      refine aw_iload d_Mo_dsaVerify_717 rfl ?_
                      refine ax_iast d_Mo_dsaVerify_719 (kr_204 S (by omega)) (by omega) (by omega) (by rw [nr_204 S (by omega)]; omega) ?_
                      refine ax_iinc (lv' := [(6, vi (c + 1)), (8, vi (((dHigh 261888 ((vfW 1 (rpR I) (rgR I)) i c)) + 1) % 16)), (7, vi ((vfW 1 (rpR I) (rgR I)) i c)), (5, vi 16), (4, vi i), (0, vr 175)]) d_Mo_dsaVerify_720 rfl (by decide) ⟨(by omega), (by omega)⟩ rfl ?_
                      refine aw_goto (tgt := 630) d_Mo_dsaVerify_723 (by decide) ?_
                      refine aw_sub (lv' := [(6, vi (c + 1)), (5, vi 16), (4, vi i), (0, vr 175)]) (by simp) ?_
                      exact ih_630 _ (by omega) (c + 1) (a_up K7 (205 + (30 + i).toNat) c (((dHigh 261888 ((vfW 1 (rpR I) (rgR I)) i c)) + 1) % 16)) (by omega) (F7.tr (FR.up (p := fun a => a = 205 + (30 + i).toNat) rfl) (fun a x => ⟨x, x⟩)) (fun a x y => (a_up_ne (Or.inl y)).trans (F7f a x y)) (⟨fun x a b => by by_cases z : x = c; exact (by rw [z, a_up_at]; rw [hvV_y ((tb7 (by omega)).2.1 (by have y := (tb7 (by omega)).1; omega)), hh_y (by omega)]); exact (by rw [a_up_ne (Or.inr z)]; exact r7.1 x a (by omega)), fun x a b => by rw [a_up_ne (Or.inr (by omega))]; exact r7.2 x (by omega) b⟩) rfl
              skip
              exact lp_630 _ 0 (rowTo K4 (205 + (30 + i).toNat) 256 (itp (K4 (205 + (30 + i).toNat)))) (by omega) (FR.rfl') (fun _ _ _ => rfl) (⟨fun x a b => by omega, fun x a b => w7 x (by omega) b⟩) rfl
            · skip
              refine aw_aload_n d_Mo_dsaVerify_536 rfl rfl ?_
              refine aw_aload_n d_Mo_dsaVerify_537 rfl rfl ?_
              refine aw_aload_n d_Mo_dsaVerify_538 rfl rfl ?_
              refine ax_getR (b := 204) d_Mo_dsaVerify_539 fd_Mo_76 (k_175 S) (r_175_28 S) ?_
              refine aw_bipush d_Mo_dsaVerify_542 ⟨by decide, by decide⟩ (by decide) ?_
              refine ax_aald (b := 252) d_Mo_dsaVerify_544 ⟨by rw [(k_204 S)]; decide, by rw [(k_204 S)]; decide⟩ (by omega) (by rw [n_204 S]; omega) (g_204 S (j := 47) (by decide) (by decide)) ?_
              refine aw_aload_n d_Mo_dsaVerify_545 rfl rfl ?_
              refine ax_getR (b := 177) d_Mo_dsaVerify_546 fd_Mo_15 (k_175 S) (r_175_1 S) ?_
              refine aw_iconst d_Mo_dsaVerify_549 ⟨by decide, by decide⟩ ?_
              refine ax_aald (b := 179) d_Mo_dsaVerify_550 ⟨by rw [(k_177 S)]; decide, by rw [(k_177 S)]; decide⟩ (by omega) (by rw [n_177 S]; omega) (g_177 S (j := 1) (by decide) (by decide)) ?_
              refine aw_iconst d_Mo_dsaVerify_551 ⟨by decide, by decide⟩ ?_
              refine aw_iload d_Mo_dsaVerify_552 rfl ?_
              refine aw_iload d_Mo_dsaVerify_554 rfl ?_
              refine ax_Vr (st := [vr 175]) (as := [vr 252, vr 179, vi 0, vi j, vi i]) (b := 175) d_Mo_dsaVerify_556 cs_Mo_dsaVerify_556 (k_175 S) (by have z := c_Mo_sampleWide (l := l) (G := G) (I := K4) (L := M4) (f := 252) (r := 179) (pa := 0) (x := j) (y := i) S D4.1 ⟨k_252 S, by decide, n_252 S⟩ (by decide) ⟨k_179 S, by decide, by decide⟩ (by rw [n_179 S]; decide); rw [wide_pk pk4 b2 (by decide)] at z; exact z) rfl rfl rfl (fun u_556 q_556 => ?_)
              obtain ⟨I6, L6⟩ := u_556
              obtain ⟨f6, r6⟩ := q_556
              dsimp only at f6 r6 ⊢
              by_cases ok_556 : (wide (rpR I) j i).2.1 = 256
              · skip
                rw [if_pos ok_556]
                show AW l G M_Mo_dsaVerify P 559 [(5, vi j), (4, vi i), (0, vr 175)] [vi 1, vr 175] (sD h I6 L6)
                refine aw_iconst d_Mo_dsaVerify_559 ⟨by decide, by decide⟩ ?_
                refine ax_V (st := []) (as := [vi 1, vi 4]) (b := 175) (v := some (vi 1)) (h' := sD h (a_up I6 175 4 0) L6) d_Mo_dsaVerify_560 cs_Mo_dsaVerify_560 (k_175 S) (c_good1 S rfl) rfl rfl rfl ?_
                show AW l G M_Mo_dsaVerify P 563 [(5, vi j), (4, vi i), (0, vr 175)] [vi 1] (sD h (a_up I6 175 4 0) L6)
                refine aw_if_ne (tgt := 568) d_Mo_dsaVerify_563 (by decide) (fun c_563 => ?_) (fun c_563 => False.elim (by omega))
                refine aw_aload_n d_Mo_dsaVerify_568 rfl rfl ?_
                refine ax_getR (b := 204) d_Mo_dsaVerify_569 fd_Mo_76 (k_175 S) (r_175_28 S) ?_
                refine aw_bipush d_Mo_dsaVerify_572 ⟨by decide, by decide⟩ (by decide) ?_
                refine aw_iload d_Mo_dsaVerify_574 rfl ?_
                refine ax_iadd d_Mo_dsaVerify_576 ⟨(by omega), (by omega)⟩ ?_
                refine ax_aald (b := 205 + (30 + i).toNat) d_Mo_dsaVerify_577 ⟨by rw [(k_204 S)]; decide, by rw [(k_204 S)]; decide⟩ (by omega) (by rw [n_204 S]; omega) (g_204 S (by omega) (by omega)) ?_
                refine aw_aload_n d_Mo_dsaVerify_578 rfl rfl ?_
                refine ax_getR (b := 204) d_Mo_dsaVerify_579 fd_Mo_76 (k_175 S) (r_175_28 S) ?_
                refine aw_bipush d_Mo_dsaVerify_582 ⟨by decide, by decide⟩ (by decide) ?_
                refine ax_aald (b := 252) d_Mo_dsaVerify_584 ⟨by rw [(k_204 S)]; decide, by rw [(k_204 S)]; decide⟩ (by omega) (by rw [n_204 S]; omega) (g_204 S (j := 47) (by decide) (by decide)) ?_
                refine aw_aload_n d_Mo_dsaVerify_585 rfl rfl ?_
                refine ax_getR (b := 204) d_Mo_dsaVerify_586 fd_Mo_76 (k_175 S) (r_175_28 S) ?_
                refine aw_iload d_Mo_dsaVerify_589 rfl ?_
                refine ax_aald (b := 205 + j.toNat) d_Mo_dsaVerify_591 ⟨by rw [(k_204 S)]; decide, by rw [(k_204 S)]; decide⟩ (by omega) (by rw [n_204 S]; omega) (g_204 S (by omega) (by omega)) ?_
                refine ax_S (st := []) (as := [vr (205 + (30 + i).toNat), vr 252, vr (205 + j.toNat)]) (v := none) (h' := sD h (rowTo (a_up I6 175 4 0) (205 + (30 + i).toNat) 256 (fun x => ((a_up I6 175 4 0) (205 + (30 + i).toNat) x + (a_up I6 175 4 0) 252 x * (a_up I6 175 4 0) (205 + j.toNat) x) % 8380417)) L6) d_Mo_dsaVerify_592 cs_Mo_dsaVerify_592 (c_Mo_addProducts ⟨kr_204 S (by omega), by omega, nr_204 S (by omega)⟩ ⟨k_252 S, by decide, n_252 S⟩ ⟨kr_204 S (by omega), by omega, nr_204 S (by omega)⟩ (fun x a b => by rw [a_up_ne (Or.inl (by omega)), f6.1 _ x (Or.inl (by omega)) (by omega), r4 x a b]; show 0 ≤ _ % 8380417 ∧ _ % 8380417 < 8380417; exact ⟨Int.emod_nonneg _ (by decide), Int.emod_lt_of_pos _ (by decide)⟩) (fun x a b => by rw [a_up_ne (Or.inl (by decide)), r6 x a (by rw [ok_556]; exact b)]; exact wide_b.2 x) (fun x a b => by rw [a_up_ne (Or.inl (by omega)), f6.1 _ x (Or.inl (by omega)) (by omega), z4 _ x (by omega) (by omega), F2.1 _ x (by omega) (Or.inl (by omega)), hZ j hj.1 (by omega) x a b]; exact fwd_in vfZ_in x a b)) rfl rfl rfl ?_
                show AW l G M_Mo_dsaVerify P 595 [(5, vi j), (4, vi i), (0, vr 175)] [] (sD h (rowTo (a_up I6 175 4 0) (205 + (30 + i).toNat) 256 (fun x => ((a_up I6 175 4 0) (205 + (30 + i).toNat) x + (a_up I6 175 4 0) 252 x * (a_up I6 175 4 0) (205 + j.toNat) x) % 8380417)) L6)
                refine ax_iinc (lv' := [(5, vi (j + 1)), (4, vi i), (0, vr 175)]) d_Mo_dsaVerify_595 rfl (by decide) ⟨(by omega), (by omega)⟩ rfl ?_
                refine aw_goto (tgt := 527) d_Mo_dsaVerify_598 (by decide) ?_
                exact ih_527 _ (by omega) (j + 1) (rowTo (a_up I6 175 4 0) (205 + (30 + i).toNat) 256 (fun x => ((a_up I6 175 4 0) (205 + (30 + i).toNat) x + (a_up I6 175 4 0) 252 x * (a_up I6 175 4 0) (205 + j.toNat) x) % 8380417)) L6 (by omega) (((F4.tr (FR.smp (p := fun a => a = 205 + (30 + i).toNat ∨ a = 252) f6 (by omega)) (fun a x => ⟨x, x⟩)).tr (FR.c0 (p := fun a => a = 205 + (30 + i).toNat ∨ a = 252)) (fun a x => ⟨x, x⟩)).tr (FR.row (p := fun a => a = 205 + (30 + i).toNat ∨ a = 252) (by omega) (fun _ _ _ => rfl)) (fun a x => ⟨x, x⟩)) (fun x a b => by rw [rowTo_in a b, a_up_ne (Or.inl (by omega)), a_up_ne (Or.inl (by decide)), a_up_ne (Or.inl (by omega)), f6.1 _ x (Or.inl (by omega)) (by omega), r4 x a b, r6 x a (by rw [ok_556]; exact b), f6.1 _ x (Or.inl (by omega)) (by omega), z4 _ x (by omega) (by omega), F2.1 _ x (by omega) (Or.inl (by omega)), hZ j hj.1 (by omega) x a b, show (j + 1).toNat = j.toNat + 1 by omega]; show _ = (_ + (pS (sgA 1 (rpR I)) (fun j => fwd rt ((vfZ 1 (rgR I)) j)) (i * 5) x j.toNat + (sgA 1 (rpR I)) (i * 5 + (j.toNat : Int)) x * (fwd rt ((vfZ 1 (rgR I)) (j.toNat : Int)) x))) % 8380417; rw [Int.toNat_of_nonneg hj.1, show (sgA 1 (rpR I)) (i * 5 + j) x = (wide (rpR I) j i).2.2 x from by unfold sgA; rw [show pL 1 = 5 from rfl, show (i * 5 + j) % 5 = j by omega, show (i * 5 + j) / 5 = i by omega], ← Int.add_assoc]; exact Int.emod_add_emod _ _ _) (fun m a b => by by_cases z : m = j; exact (by rw [z]; exact ok_556); exact okJ m a (by omega)) (by rw [rowTo_ne (by omega), a_up_at]) (by rw [rowTo_ne (by omega), a_up_ne (Or.inr (by decide)), f6.1 175 23 (Or.inr (by decide)) (by decide)]; exact b4) rfl
              · skip
                rw [if_neg ok_556]
                show AW l G M_Mo_dsaVerify P 559 [(5, vi j), (4, vi i), (0, vr 175)] [vi 0, vr 175] (sD h I6 L6)
                refine aw_iconst d_Mo_dsaVerify_559 ⟨by decide, by decide⟩ ?_
                refine ax_V (st := []) (as := [vi 0, vi 4]) (b := 175) (v := some (vi 0)) (h' := sD h (a_up I6 175 4 4) L6) d_Mo_dsaVerify_560 cs_Mo_dsaVerify_560 (k_175 S) (c_good0 S rfl) rfl rfl rfl ?_
                show AW l G M_Mo_dsaVerify P 563 [(5, vi j), (4, vi i), (0, vr 175)] [vi 0] (sD h (a_up I6 175 4 4) L6)
                refine aw_if_ne (tgt := 568) d_Mo_dsaVerify_563 (by decide) (fun c_563 => False.elim (by omega)) (fun c_563 => ?_)
                refine aw_iconst d_Mo_dsaVerify_566 ⟨by decide, by decide⟩ ?_
                exact aw_zret d_Mo_dsaVerify_567 rfl ⟨by decide, by decide⟩ (hP _ _ (rsNo 0 4 (c4_4 ⟨by decide, by decide⟩ b1 b2 (fun z => ok_556 (by have y := (z pre).2 (i * 5 + j) (by omega) (by show i * 5 + j < 30; omega); rw [show pL 1 = 5 from rfl, show (i * 5 + j) % 5 = j by omega, show (i * 5 + j) / 5 = i by omega] at y; exact y))) (by decide) a_up_at (fR0.fr (fR0.fr (fR0.fr (fR0.fr (fR0.fr (fR0.fr R0 F2 (r := qN) (by intro a x y; exact ⟨fun z => z, by omega⟩) (by omega)) F3 (r := qN) (by intro a x y; exact ⟨fun z => z, by omega⟩) (by decide)) F3b (r := qN) (by intro a x y; exact ⟨fun z => z, by omega⟩) (by omega)) F4 (r := qN) (by intro a x y; exact ⟨fun z => z, by omega⟩) (by omega)) (FR.smp (p := fun a => a = 252) f6 rfl) (r := qN) (by intro a x y; exact ⟨fun z => z, by omega⟩) (by decide)) (FR.c0 (p := fun _ => False)) (by intro a x y; exact ⟨fun z => z, fun z => z⟩) (fun z => z))))
          skip
          exact lp_527 _ 0 (rowTo (rowTo (rowTo K3 250 256 (eva (K3 250))) (205 + (30 + i).toNat) 256 (fun _ => 0)) (205 + (30 + i).toNat) 256 (fun x => ((rowTo (rowTo K3 250 256 (eva (K3 250))) (205 + (30 + i).toNat) 256 (fun _ => 0)) (205 + (30 + i).toNat) x + (rowTo (rowTo K3 250 256 (eva (K3 250))) (205 + (30 + i).toNat) 256 (fun _ => 0)) 250 x * (rowTo (rowTo K3 250 256 (eva (K3 250))) (205 + (30 + i).toNat) 256 (fun _ => 0)) 251 x) % 8380417)) u_481 (by omega) (FR.rfl') (fun x a b => by rw [rowTo_in a b, rowTo_in a b, rowTo_ne (by omega), rowTo_in a b, rowTo_ne (by omega), rowTo_ne (by decide), F3.1 251 x (by decide) (Or.inl (by decide)), F2.1 251 x (by omega) (Or.inl (by decide)), hB x a b]; show (0 + _) % _ = (_ + 0) % _; rw [Int.zero_add, Int.add_zero]) (fun m a b => by omega) (by rw [rowTo_ne (by omega), rowTo_ne (by omega), rowTo_ne (by omega)]; exact h43) (by rw [rowTo_ne (by omega), rowTo_ne (by omega), rowTo_ne (by omega), b3]; omega) rfl
        · skip
          refine aw_aload_n d_Mo_dsaVerify_425 rfl rfl ?_
          refine ax_getR (b := 204) d_Mo_dsaVerify_426 fd_Mo_76 (k_175 S) (r_175_28 S) ?_
          refine aw_bipush d_Mo_dsaVerify_429 ⟨by decide, by decide⟩ (by decide) ?_
          refine ax_aald (b := 250) d_Mo_dsaVerify_431 ⟨by rw [(k_204 S)]; decide, by rw [(k_204 S)]; decide⟩ (by omega) (by rw [n_204 S]; omega) (g_204 S (j := 45) (by decide) (by decide)) ?_
          refine aw_iload d_Mo_dsaVerify_432 rfl ?_
          have tp_ := tpF_in (g := (rpR I)) (i := i) c hc.1 (by omega)
          have tp_ : 0 ≤ gR (fun k => rpR I (32 + 320 * i + k)) 10 c * 8192 ∧ gR (fun k => rpR I (32 + 320 * i + k)) 10 c * 8192 < 8380417 := tp_
          refine aw_ldc2 (n := 8380417) d_Mo_dsaVerify_434 lc_Mo_256 ⟨by decide, by decide⟩ ?_
          refine aw_aload_n d_Mo_dsaVerify_437 rfl rfl ?_
          refine aw_aload_n d_Mo_dsaVerify_438 rfl rfl ?_
          refine ax_getR (b := 177) d_Mo_dsaVerify_439 fd_Mo_15 (k_175 S) (r_175_1 S) ?_
          refine aw_iconst d_Mo_dsaVerify_442 ⟨by decide, by decide⟩ ?_
          refine ax_aald (b := 179) d_Mo_dsaVerify_443 ⟨by rw [(k_177 S)]; decide, by rw [(k_177 S)]; decide⟩ (by omega) (by rw [n_177 S]; omega) (g_177 S (j := 1) (by decide) (by decide)) ?_
          refine aw_bipush d_Mo_dsaVerify_444 ⟨by decide, by decide⟩ (by decide) ?_
          refine aw_bipush d_Mo_dsaVerify_446 ⟨by decide, by decide⟩ (by decide) ?_
          refine ax_V (st := [vl 8380417, vi c, vr 250]) (as := [vr 179, vi 32, vi 10]) (b := 175) (v := some (vi (bV (fun j => K3 179 (32 + 320 * i + j) % 256) 8 (32 * 10) / 2 ^ (10 * c.toNat) % 2 ^ 10))) (h' := sD h (a_up K3 175 23 (8 * (320 * i) + ((10 * c.toNat : Nat) : Int) + 10)) M2) d_Mo_dsaVerify_448 cs_Mo_dsaVerify_448 (k_175 S) (c_Mo_takeBits (q := 10 * c.toNat) (N := 32 * 10) (c := 320 * i) (d := 10) S ⟨k_179 S, by decide⟩ (by decide) (by omega) (by rw [n_179 S]; omega)) rfl rfl rfl ?_
          show AW l G M_Mo_dsaVerify P 451 [(5, vi c), (4, vi i), (0, vr 175)] [vi (bV (fun j => K3 179 (32 + 320 * i + j) % 256) 8 (32 * 10) / 2 ^ (10 * c.toNat) % 2 ^ 10), vl 8380417, vi c, vr 250] (sD h (a_up K3 175 23 (8 * (320 * i) + ((10 * c.toNat : Nat) : Int) + 10)) M2)
          refine ax_ti (x := gR (fun k => rpR I (32 + 320 * i + k)) 10 c) (by show gR (fun j => K3 179 (32 + 320 * i + j) % 256) 10 c = _; exact gR_congr (fun y y0 y1 => by rw [pk3, rp_in (show I 186 1 = 1952 from b2) (by omega) (by omega)])) ?_
          refine aw_i2l d_Mo_dsaVerify_451 ?_
          refine aw_ldc2 (n := 8192) d_Mo_dsaVerify_452 lc_Mo_364 ⟨by decide, by decide⟩ ?_
          refine ax_lmul d_Mo_dsaVerify_455 ⟨(by omega), (by omega)⟩ ?_
          refine aw_ldc2 (n := 8380417) d_Mo_dsaVerify_456 lc_Mo_256 ⟨by decide, by decide⟩ ?_
          refine ax_lrem d_Mo_dsaVerify_459 (by omega) (by omega) ?_
          refine ax_lsub d_Mo_dsaVerify_460 ⟨(by omega), (by omega)⟩ ?_
          refine ax_l2i d_Mo_dsaVerify_461 ⟨(by omega), (by omega)⟩ ?_
          refine aw_ldcw (n := 8380417) d_Mo_dsaVerify_462 lc_Mo_264 ⟨by decide, by decide⟩ ?_
          refine ax_irem d_Mo_dsaVerify_465 (by omega) (by omega) ?_
          refine ax_iast d_Mo_dsaVerify_466 (k_250 S) (by decide) (by omega) (by rw [n_250 S]; omega) ?_
          refine ax_iinc (lv' := [(5, vi (c + 1)), (4, vi i), (0, vr 175)]) d_Mo_dsaVerify_467 rfl (by decide) ⟨(by omega), (by omega)⟩ rfl ?_
          refine aw_goto (tgt := 417) d_Mo_dsaVerify_470 (by decide) ?_
          exact ih_417 _ (by omega) (c + 1) (a_up (a_up K3 175 23 (8 * (320 * i) + ((10 * c.toNat : Nat) : Int) + 10)) 250 c ((8380417 - (((gR (fun k => rpR I (32 + 320 * i + k)) 10 c) * 8192) % 8380417)) % 8380417)) (by omega) ((F3.tr (FR.b0 (p := fun a => a = 250)) (fun a x => ⟨x, x⟩)).tr (FR.up (p := fun a => a = 250) rfl) (fun a x => ⟨x, x⟩)) (by rw [a_up_ne (Or.inl (by decide)), a_up_at]; omega) (fun x a b => by by_cases z : x = c; exact (by rw [z, a_up_at]); exact (by rw [a_up_ne (Or.inr z), a_up_ne (Or.inl (by decide))]; exact x3 x a (by omega))) (by rw [a_up_ne (Or.inl (by decide)), a_up_ne (Or.inr (by decide))]; exact h43) rfl
      skip
      exact lp_417 _ 0 K2 (by omega) (FR.rfl') (by omega) (fun x a b => by omega) (h42) rfl
  skip
  exact lp_405 _ 0 K M (by omega) (FR.rfl') (b0) (fun m a b => by omega) (fun m a b => by omega) (h4) rfl
set_option maxHeartbeats 800000 in
set_option maxRecDepth 100000 in
theorem vE20 {l : Launch} {G : a_G} {P : a_R → Hp → Prop} {h : Hp} {I L K M : Nat → Int → Int} (S : Shp h) (R0 : fR0 qN I L K M) (D : RD K M 2) (rg : ∀ j, -128 ≤ I 183 j ∧ I 183 j ≤ 127) (b1 : (0 : Int) ≠ 0 ∨ I 186 4 ≤ 255) (b2 : I 186 1 = 32 + 320 * pK 2) (pre : vfPre 2 (rgR I) (I 186 5)) (vok : vfOk 2 (rpR I) (rgR I)) (hH : ∀ m, 0 ≤ m → m < 8 → eqQ (K (205 + (30 + m).toNat)) ((fun m j => hvV (rgR I) 4544 75 261888 16 m j ((vfW 2 (rpR I) (rgR I)) m j)) m)) (hm : HR K 265 0 64 (muW I (0 : Int))) (h4 : K 175 4 = 0) (hP : ∀ r_ h2_, RsR h I L (c4 ((0 ≤ (2 : Int) ∧ (2 : Int) < 3) ∧ ((0 : Int) = 0 ∨ (0 : Int) = -1)) ((0 : Int) ≠ 0 ∨ I 186 4 ≤ 255) (I 186 1 = 32 + 320 * pK (2 : Int)) (vfPre (2 : Int) (rgR I) (I 186 5) → vfOk (2 : Int) (rpR I) (rgR I))) (fun a => a = 184 ∨ a = 186) (fun v I' L' => (¬ vfPre (2 : Int) (rgR I) (I 186 5) ∧ v = 0 ∧ fR0 qN I L I' L') ∨ (vfPre (2 : Int) (rgR I) (I 186 5) ∧ ((∀ j, j ≠ 6 → I' 186 j = I 186 j) ∧ I' 186 6 = pC (2 : Int)) ∧ (HR I' 184 0 (pC (2 : Int)) (vfC (2 : Int) (rpR I) (rgR I) (muW I (0 : Int))) ∧ rng (I 184) (I' 184)) ∧ (v = 0 ∨ v = 1) ∧ (v = 1 ↔ ∀ j, 0 ≤ j → j < pC (2 : Int) → vfC (2 : Int) (rpR I) (rgR I) (muW I (0 : Int)) j = rgR I j))) r_ h2_ → P r_ h2_) : AW l G M_Mo_dsaVerify P 732 [(0, vr 175)] [] (sD h K M) := by
  refine aw_aload_n d_Mo_dsaVerify_732 rfl rfl ?_
  refine aw_bipush d_Mo_dsaVerify_733 ⟨by decide, by decide⟩ (by decide) ?_
  refine aw_aload_n d_Mo_dsaVerify_735 rfl rfl ?_
  refine ax_getR (b := 267) d_Mo_dsaVerify_736 fd_Mo_99 (k_175 S) (r_175_43 S) ?_
  refine ax_Vr (st := []) (as := [vi 30, vr 267]) (b := 175) d_Mo_dsaVerify_739 cs_Mo_dsaVerify_739 (k_175 S) (c_Mo_challengeR2_30 (mu := (muW I (0 : Int))) (X := (fun m j => hvV (rgR I) 4544 75 261888 16 m j ((vfW 2 (rpR I) (rgR I)) m j))) S D hH (fun m a b j x y => by have := hvV_b (g := (rgR I)) (o3 := 4544) (w := 75) (i := m) (j := j) (vfW_in (s := 2) (pk := (rpR I)) (g := (rgR I)) (m := m) j x y); show 0 ≤ hvV (rgR I) 4544 75 261888 16 m j ((vfW 2 (rpR I) (rgR I)) m j) ∧ hvV (rgR I) 4544 75 261888 16 m j ((vfW 2 (rpR I) (rgR I)) m j) < 2 ^ 4; omega) hm (fun k _ _ => spOut_m _ _)) rfl rfl rfl (fun u_739 q_739 => ?_)
  obtain ⟨I1, L1⟩ := u_739
  obtain ⟨F1, h1, g1_, z4_⟩ := q_739
  dsimp only at F1 h1 g1_ z4_
  have h1 : HR I1 267 0 64 (vfC 2 (rpR I) (rgR I) (muW I (0 : Int))) := h1
  have D1 := D.fr F1 (by decide)
  have c41 : I1 175 4 = 0 := z4_.trans h4
  show AW l G M_Mo_dsaVerify P 742 [(0, vr 175)] [] (sD h I1 L1)
  refine aw_aload_n d_Mo_dsaVerify_742 rfl rfl ?_
  refine ax_getR (b := 267) d_Mo_dsaVerify_743 fd_Mo_99 (k_175 S) (r_175_43 S) ?_
  refine aw_iconst d_Mo_dsaVerify_746 ⟨by decide, by decide⟩ ?_
  refine aw_aload_n d_Mo_dsaVerify_747 rfl rfl ?_
  refine ax_getR (b := 177) d_Mo_dsaVerify_748 fd_Mo_15 (k_175 S) (r_175_1 S) ?_
  refine aw_bipush d_Mo_dsaVerify_751 ⟨by decide, by decide⟩ (by decide) ?_
  refine ax_aald (b := 184) d_Mo_dsaVerify_753 ⟨by rw [(k_177 S)]; decide, by rw [(k_177 S)]; decide⟩ (by omega) (by rw [n_177 S]; omega) (g_177 S (j := 6) (by decide) (by decide)) ?_
  refine aw_iconst d_Mo_dsaVerify_754 ⟨by decide, by decide⟩ ?_
  refine aw_aload_n d_Mo_dsaVerify_755 rfl rfl ?_
  refine ax_getIe (x := 64) d_Mo_dsaVerify_756 fd_Mo_248 (k_175 S) (dr2_38 D1) ?_
  refine ax_S (st := []) (as := [vr 267, vi 0, vr 184, vi 0, vi 64]) (v := none) (h' := sD h (putRow I1 184 0 64 (fun k => I1 267 (0 + k))) L1) d_Mo_dsaVerify_759 cs_Mo_dsaVerify_759 (c_Mo_move ⟨k_267 S, by decide⟩ ⟨k_184 S, by decide, trivial⟩ (by decide) (by rw [n_267 S, n_184 S]; omega)) rfl rfl rfl ?_
  show AW l G M_Mo_dsaVerify P 762 [(0, vr 175)] [] (sD h (putRow I1 184 0 64 (fun k => I1 267 (0 + k))) L1)
  refine aw_aload_n d_Mo_dsaVerify_762 rfl rfl ?_
  refine ax_getR (b := 186) d_Mo_dsaVerify_763 fd_Mo_18 (k_175 S) (r_175_2 S) ?_
  refine aw_bipush d_Mo_dsaVerify_766 ⟨by decide, by decide⟩ (by decide) ?_
  refine aw_aload_n d_Mo_dsaVerify_768 rfl rfl ?_
  refine ax_getIe (x := 64) d_Mo_dsaVerify_769 fd_Mo_248 (k_175 S) (Eq.trans (putRow_ne (by decide)) (dr2_38 D1)) ?_
  refine ax_iast d_Mo_dsaVerify_772 (k_186 S) (by decide) (by omega) (by rw [n_186 S]; omega) ?_
  refine aw_aload_n d_Mo_dsaVerify_773 rfl rfl ?_
  refine ax_getR (b := 267) d_Mo_dsaVerify_774 fd_Mo_99 (k_175 S) (r_175_43 S) ?_
  refine aw_iconst d_Mo_dsaVerify_777 ⟨by decide, by decide⟩ ?_
  refine aw_aload_n d_Mo_dsaVerify_778 rfl rfl ?_
  refine ax_getR (b := 177) d_Mo_dsaVerify_779 fd_Mo_15 (k_175 S) (r_175_1 S) ?_
  refine aw_iconst d_Mo_dsaVerify_782 ⟨by decide, by decide⟩ ?_
  refine ax_aald (b := 183) d_Mo_dsaVerify_783 ⟨by rw [(k_177 S)]; decide, by rw [(k_177 S)]; decide⟩ (by omega) (by rw [n_177 S]; omega) (g_177 S (j := 5) (by decide) (by decide)) ?_
  refine aw_iconst d_Mo_dsaVerify_784 ⟨by decide, by decide⟩ ?_
  refine aw_aload_n d_Mo_dsaVerify_785 rfl rfl ?_
  refine ax_getIe (x := 64) d_Mo_dsaVerify_786 fd_Mo_248 (k_175 S) (Eq.trans (a_up_ne (Or.inl (by decide))) (Eq.trans (putRow_ne (by decide)) (dr2_38 D1))) ?_
  refine ax_Sr (st := []) (as := [vr 267, vi 0, vr 183, vi 0, vi 64]) d_Mo_dsaVerify_789 cs_Mo_dsaVerify_789 (c_Mo_alike ⟨k_267 S, by decide⟩ ⟨k_183 S, by decide⟩ (by rw [n_267 S, n_183 S]; decide)) rfl rfl rfl (fun u_789 q_789 => ?_)
  obtain ⟨ao, aa⟩ := q_789
  have l5 : I 186 5 = 4627 := pre.1
  have r183 : ∀ j, (a_up (putRow I1 184 0 64 (fun k => I1 267 (0 + k))) 186 6 64) 183 j = I 183 j := fun j => by rw [a_up_ne (Or.inl (by decide)), putRow_ne (by decide), F1.1 183 j (by decide) (Or.inl (by decide))]; exact R0.1 183 j (by omega) (fun z => z)
  have r267 : ∀ j, (a_up (putRow I1 184 0 64 (fun k => I1 267 (0 + k))) 186 6 64) 267 j = I1 267 j := fun j => by rw [a_up_ne (Or.inl (by decide)), putRow_ne (by decide)]
  have am : u_789 = 1 ↔ ∀ j, 0 ≤ j → j < 64 → (vfC 2 (rpR I) (rgR I) (muW I (0 : Int))) j = rgR I j := aa.trans ⟨fun z j x y => by have w_ := z j x y; rw [r183, r267] at w_; rw [← h1 j x y, w_, Int.zero_add, rg_in l5 x (by omega)], fun z j x y => by have w_ := z j x y; rw [← h1 j x y] at w_; have g_ := g1_ j x y; have r_ := rg (0 + j); rw [r183, r267]; rw [rg_in l5 x (by omega)] at w_; rw [Int.zero_add] at *; omega⟩
  show AW l G M_Mo_dsaVerify P 792 [(0, vr 175)] [vi u_789] (sD h (a_up (putRow I1 184 0 64 (fun k => I1 267 (0 + k))) 186 6 64) L1)
  exact aw_zret d_Mo_dsaVerify_792 rfl (by omega) (hP _ _ ⟨_, _, _, rfl, rfl, by rw [a_up_ne (Or.inl (by decide)), putRow_ne (by decide), c41, c4_0 ⟨by decide, by decide⟩ b1 b2 (fun _ => vok)], Or.inl ⟨c4_0 ⟨by decide, by decide⟩ b1 b2 (fun _ => vok), fR0.fr (fR0.fr (fR0.fr R0 F1 (r := qN) (by intro a x y; exact ⟨fun z => z, by omega⟩) (by decide)) (FR.put (p := fun a => a = 184) rfl) (r := fun a => a = 184 ∨ a = 186) (by intro a x y; exact ⟨fun z => z, by omega⟩) (by decide)) (FR.up (p := fun a => a = 186) rfl) (by intro a x y; exact ⟨y, by omega⟩) (by decide), Or.inr ⟨pre, ⟨fun j x => by rw [a_up_ne (Or.inr x), putRow_ne (by decide), F1.1 186 j (by decide) (Or.inl (by decide))]; exact R0.1 186 j (by omega) (fun z => z), by rw [a_up_at]; rfl⟩, ⟨fun z x y => by rw [a_up_ne (Or.inl (by decide))]; exact HR.put (g' := (vfC 2 (rpR I) (rgR I) (muW I (0 : Int)))) (fun z x y => h1 z x y) z x y, fun j => by rw [a_up_ne (Or.inl (by decide))]; have z := rng.p (I := I1) (f := 184) (o := 0) (n := 64) (g := fun k => I1 267 (0 + k)) j; rw [show I1 184 j = I 184 j from (F1.1 184 j (by decide) (Or.inl (by decide))).trans (R0.1 184 j (by omega) (fun z => z))] at z; exact z⟩, ao, am⟩⟩⟩)
set_option maxHeartbeats 4000000 in
set_option maxRecDepth 100000 in
theorem vD20 {l : Launch} {G : a_G} {P : a_R → Hp → Prop} {h : Hp} {I L K M : Nat → Int → Int} (S : Shp h) (R0 : fR0 qN I L K M) (D : RD K M 2) (rg : ∀ j, -128 ≤ I 183 j ∧ I 183 j ≤ 127) (b1 : (0 : Int) ≠ 0 ∨ I 186 4 ≤ 255) (b2 : I 186 1 = 32 + 320 * pK 2) (pre : vfPre 2 (rgR I) (I 186 5)) (bn : bll 60 (vfBs 2 (rgR I)) ≠ none) (hB : eqQ (K 251) (vfB 2 (rgR I))) (hZ : ∀ m, 0 ≤ m → m < 7 → eqQ (K (205 + m.toNat)) (fwd rt ((vfZ 2 (rgR I)) m))) (b0 : K 175 23 = 8 * (320 * 0)) (hm : HR K 265 0 64 (muW I (0 : Int))) (h4 : K 175 4 = 0) (tb : ∀ m, 0 ≤ m → m < 8 → tbl K (rgR I) 4544 75 m) (hP : ∀ r_ h2_, RsR h I L (c4 ((0 ≤ (2 : Int) ∧ (2 : Int) < 3) ∧ ((0 : Int) = 0 ∨ (0 : Int) = -1)) ((0 : Int) ≠ 0 ∨ I 186 4 ≤ 255) (I 186 1 = 32 + 320 * pK (2 : Int)) (vfPre (2 : Int) (rgR I) (I 186 5) → vfOk (2 : Int) (rpR I) (rgR I))) (fun a => a = 184 ∨ a = 186) (fun v I' L' => (¬ vfPre (2 : Int) (rgR I) (I 186 5) ∧ v = 0 ∧ fR0 qN I L I' L') ∨ (vfPre (2 : Int) (rgR I) (I 186 5) ∧ ((∀ j, j ≠ 6 → I' 186 j = I 186 j) ∧ I' 186 6 = pC (2 : Int)) ∧ (HR I' 184 0 (pC (2 : Int)) (vfC (2 : Int) (rpR I) (rgR I) (muW I (0 : Int))) ∧ rng (I 184) (I' 184)) ∧ (v = 0 ∨ v = 1) ∧ (v = 1 ↔ ∀ j, 0 ≤ j → j < pC (2 : Int) → vfC (2 : Int) (rpR I) (rgR I) (muW I (0 : Int)) j = rgR I j))) r_ h2_ → P r_ h2_) : AW l G M_Mo_dsaVerify P 402 [(0, vr 175)] [] (sD h K M) := by
  refine aw_iconst d_Mo_dsaVerify_402 ⟨by decide, by decide⟩ ?_
  refine aw_istore (lv' := [(4, vi 0), (0, vr 175)]) d_Mo_dsaVerify_403 (by decide) rfl ?_
  have lp_405 : ∀ (n_ : Nat) (i : Int) (K2 : Nat → Int → Int) (M2 : Nat → Int → Int), (0 ≤ i ∧ i ≤ 8) → (FR (fun a => a = 250 ∨ a = 252 ∨ 235 ≤ a ∧ a ≤ 242) K M K2 M2) → (K2 175 23 = 8 * (320 * i)) → (∀ m, 0 ≤ m → m < i → eqQ (K2 (205 + (30 + m).toNat)) ((fun m j => hvV (rgR I) 4544 75 261888 16 m j ((vfW 2 (rpR I) (rgR I)) m j)) m)) → (∀ m, 0 ≤ m → m < 7 * i → (wide (rpR I) (m % 7) (m / 7)).2.1 = 256) → (K2 175 4 = 0) → ((8 - i).toNat) = n_ → AW l G M_Mo_dsaVerify P 405 [(4, vi i), (0, vr 175)] [] (sD h K2 M2) := by
    intro n_
    induction n_ using Nat.strongRecOn with
    | _ n_ ih_405 =>
    intro i K2 M2 hi F2 bb dn okA h42 hm_405
    have pk2 : ∀ x, K2 179 x = I 179 x := fun x => (F2.1 179 x (by omega) (Or.inl (by decide))).trans (R0.1 179 x (by omega) (fun z => z))
    refine aw_iload d_Mo_dsaVerify_405 rfl ?_
    refine aw_aload_n d_Mo_dsaVerify_407 rfl rfl ?_
    refine ax_getIe (x := 8) d_Mo_dsaVerify_408 fd_Mo_223 (k_175 S) (Eq.trans (F2.1 175 26 (by omega) (Or.inr (by decide))) (dr2_26 D)) ?_
    refine aw_icmp_ge (tgt := 732) d_Mo_dsaVerify_411 (by decide) (fun c_411 => ?_) (fun c_411 => ?_)
    · skip
      refine aw_sub (lv' := [(0, vr 175)]) (by simp) ?_
      exact vE20 S (fR0.fr R0 F2 (by intro a x y; exact ⟨fun z => z, by omega⟩) (by omega)) (D.fr F2 (by omega)) rg b1 b2 pre ⟨bn, fun m a b => okA m a (by have b2 : m < 56 := b; omega)⟩ (fun m a b => dn m a (by omega)) (hm.fr F2 (by omega) (by decide)) h42 hP
    · skip
      refine aw_iconst d_Mo_dsaVerify_414 ⟨by decide, by decide⟩ ?_
      refine aw_istore (lv' := [(5, vi 0), (4, vi i), (0, vr 175)]) d_Mo_dsaVerify_415 (by decide) rfl ?_
      have lp_417 : ∀ (n_ : Nat) (c : Int) (K3 : Nat → Int → Int), (0 ≤ c ∧ c ≤ 256) → (FR (fun a => a = 250) K2 M2 K3 M2) → (K3 175 23 = 8 * (320 * i) + 10 * c) → (∀ x, 0 ≤ x → x < c → K3 250 x = (fun x => (8380417 - gR (fun k => rpR I (32 + 320 * i + k)) 10 x * 8192 % 8380417) % 8380417) x) → (K3 175 4 = 0) → ((256 - c).toNat) = n_ → AW l G M_Mo_dsaVerify P 417 [(5, vi c), (4, vi i), (0, vr 175)] [] (sD h K3 M2) := by
        intro n_
        induction n_ using Nat.strongRecOn with
        | _ n_ ih_417 =>
        intro c K3 hc F3 b3 x3 h43 hm_417
        have pk3 : ∀ x, K3 179 x = I 179 x := fun x => by rw [F3.1 179 _ (by decide) (Or.inl (by decide)), pk2]
        refine aw_iload d_Mo_dsaVerify_417 rfl ?_
        refine aw_sipush d_Mo_dsaVerify_419 ⟨by decide, by decide⟩ (by decide) ?_
        refine aw_icmp_ge (tgt := 473) d_Mo_dsaVerify_422 (by decide) (fun c_422 => ?_) (fun c_422 => ?_)
        · skip
          refine aw_aload_n d_Mo_dsaVerify_473 rfl rfl ?_
          refine aw_aload_n d_Mo_dsaVerify_474 rfl rfl ?_
          refine ax_getR (b := 204) d_Mo_dsaVerify_475 fd_Mo_76 (k_175 S) (r_175_28 S) ?_
          refine aw_bipush d_Mo_dsaVerify_478 ⟨by decide, by decide⟩ (by decide) ?_
          refine ax_aald (b := 250) d_Mo_dsaVerify_480 ⟨by rw [(k_204 S)]; decide, by rw [(k_204 S)]; decide⟩ (by omega) (by rw [n_204 S]; omega) (g_204 S (j := 45) (by decide) (by decide)) ?_
          have D3 := (D.fr F2 (by omega)).fr F3 (by decide)
          refine ax_Vr (st := []) (as := [vr 250]) (b := 175) d_Mo_dsaVerify_481 cs_Mo_dsaVerify_481 (k_175 S) (c_Mo_evaluate S ⟨k_250 S, by decide, n_250 S⟩ (by decide) (fun x a b => by rw [x3 x a (by omega)]; show 0 ≤ _ % 8380417 ∧ _ % 8380417 < 8380417; exact ⟨Int.emod_nonneg _ (by decide), Int.emod_lt_of_pos _ (by decide)⟩) D3.2.2) rfl rfl rfl (fun u_481 q_481 => ?_)
          have l5 := q_481
          have ng : ∀ x, 0 ≤ x → x < 256 → cq (eva (K3 250) x) (-(fwd rt (tpF (rpR I) i) x)) := fun x a b => by rw [fwd_eva a b]; exact eva_neg (fun y hy => by rw [x3 y (by omega) (by omega)]; show cq ((8380417 - tpF (rpR I) i y % 8380417) % 8380417) (-(tpF (rpR I) i y)); unfold cq; omega)
          have F3b : FR (fun a => a = 250 ∨ a = 252 ∨ 235 ≤ a ∧ a ≤ 242) K3 M2 (rowTo (rowTo (rowTo K3 250 256 (eva (K3 250))) (205 + (30 + i).toNat) 256 (fun _ => 0)) (205 + (30 + i).toNat) 256 (fun x => ((rowTo (rowTo K3 250 256 (eva (K3 250))) (205 + (30 + i).toNat) 256 (fun _ => 0)) (205 + (30 + i).toNat) x + (rowTo (rowTo K3 250 256 (eva (K3 250))) (205 + (30 + i).toNat) 256 (fun _ => 0)) 250 x * (rowTo (rowTo K3 250 256 (eva (K3 250))) (205 + (30 + i).toNat) 256 (fun _ => 0)) 251 x) % 8380417)) u_481 := ((FR.row (p := fun a => a = 250 ∨ a = 252 ∨ 235 ≤ a ∧ a ≤ 242) (by omega) l5).tr (FR.row (p := fun a => a = 250 ∨ a = 252 ∨ 235 ≤ a ∧ a ≤ 242) (by omega) (fun _ _ _ => rfl)) (fun a x => ⟨x, x⟩)).tr (FR.row (p := fun a => a = 250 ∨ a = 252 ∨ 235 ≤ a ∧ a ≤ 242) (by omega) (fun _ _ _ => rfl)) (fun a x => ⟨x, x⟩)
          show AW l G M_Mo_dsaVerify P 484 [(5, vi c), (4, vi i), (0, vr 175)] [] (sD h (rowTo K3 250 256 (eva (K3 250))) u_481)
          refine aw_aload_n d_Mo_dsaVerify_484 rfl rfl ?_
          refine ax_getR (b := 204) d_Mo_dsaVerify_485 fd_Mo_76 (k_175 S) (r_175_28 S) ?_
          refine aw_bipush d_Mo_dsaVerify_488 ⟨by decide, by decide⟩ (by decide) ?_
          refine aw_iload d_Mo_dsaVerify_490 rfl ?_
          refine ax_iadd d_Mo_dsaVerify_492 ⟨(by omega), (by omega)⟩ ?_
          refine ax_aald (b := 205 + (30 + i).toNat) d_Mo_dsaVerify_493 ⟨by rw [(k_204 S)]; decide, by rw [(k_204 S)]; decide⟩ (by omega) (by rw [n_204 S]; omega) (g_204 S (by omega) (by omega)) ?_
          refine ax_S (st := []) (as := [vr (205 + (30 + i).toNat)]) (v := none) (h' := sD h (rowTo (rowTo K3 250 256 (eva (K3 250))) (205 + (30 + i).toNat) 256 (fun _ => 0)) u_481) d_Mo_dsaVerify_494 cs_Mo_dsaVerify_494 (c_Mo_clear ⟨kr_204 S (by omega), by omega, nr_204 S (by omega)⟩) rfl rfl rfl ?_
          show AW l G M_Mo_dsaVerify P 497 [(5, vi c), (4, vi i), (0, vr 175)] [] (sD h (rowTo (rowTo K3 250 256 (eva (K3 250))) (205 + (30 + i).toNat) 256 (fun _ => 0)) u_481)
          refine aw_aload_n d_Mo_dsaVerify_497 rfl rfl ?_
          refine ax_getR (b := 204) d_Mo_dsaVerify_498 fd_Mo_76 (k_175 S) (r_175_28 S) ?_
          refine aw_bipush d_Mo_dsaVerify_501 ⟨by decide, by decide⟩ (by decide) ?_
          refine aw_iload d_Mo_dsaVerify_503 rfl ?_
          refine ax_iadd d_Mo_dsaVerify_505 ⟨(by omega), (by omega)⟩ ?_
          refine ax_aald (b := 205 + (30 + i).toNat) d_Mo_dsaVerify_506 ⟨by rw [(k_204 S)]; decide, by rw [(k_204 S)]; decide⟩ (by omega) (by rw [n_204 S]; omega) (g_204 S (by omega) (by omega)) ?_
          refine aw_aload_n d_Mo_dsaVerify_507 rfl rfl ?_
          refine ax_getR (b := 204) d_Mo_dsaVerify_508 fd_Mo_76 (k_175 S) (r_175_28 S) ?_
          refine aw_bipush d_Mo_dsaVerify_511 ⟨by decide, by decide⟩ (by decide) ?_
          refine ax_aald (b := 250) d_Mo_dsaVerify_513 ⟨by rw [(k_204 S)]; decide, by rw [(k_204 S)]; decide⟩ (by omega) (by rw [n_204 S]; omega) (g_204 S (j := 45) (by decide) (by decide)) ?_
          refine aw_aload_n d_Mo_dsaVerify_514 rfl rfl ?_
          refine ax_getR (b := 204) d_Mo_dsaVerify_515 fd_Mo_76 (k_175 S) (r_175_28 S) ?_
          refine aw_bipush d_Mo_dsaVerify_518 ⟨by decide, by decide⟩ (by decide) ?_
          refine ax_aald (b := 251) d_Mo_dsaVerify_520 ⟨by rw [(k_204 S)]; decide, by rw [(k_204 S)]; decide⟩ (by omega) (by rw [n_204 S]; omega) (g_204 S (j := 46) (by decide) (by decide)) ?_
          refine ax_S (st := []) (as := [vr (205 + (30 + i).toNat), vr 250, vr 251]) (v := none) (h' := sD h (rowTo (rowTo (rowTo K3 250 256 (eva (K3 250))) (205 + (30 + i).toNat) 256 (fun _ => 0)) (205 + (30 + i).toNat) 256 (fun x => ((rowTo (rowTo K3 250 256 (eva (K3 250))) (205 + (30 + i).toNat) 256 (fun _ => 0)) (205 + (30 + i).toNat) x + (rowTo (rowTo K3 250 256 (eva (K3 250))) (205 + (30 + i).toNat) 256 (fun _ => 0)) 250 x * (rowTo (rowTo K3 250 256 (eva (K3 250))) (205 + (30 + i).toNat) 256 (fun _ => 0)) 251 x) % 8380417)) u_481) d_Mo_dsaVerify_521 cs_Mo_dsaVerify_521 (c_Mo_addProducts ⟨kr_204 S (by omega), by omega, nr_204 S (by omega)⟩ ⟨k_250 S, by decide, n_250 S⟩ ⟨k_251 S, by decide, n_251 S⟩ (fun x a b => by rw [rowTo_in a b]; decide) (fun x a b => by rw [rowTo_ne (by omega), rowTo_in a b]; exact eva_in) (fun x a b => by rw [rowTo_ne (by omega), rowTo_ne (by decide), F3.1 251 x (by decide) (Or.inl (by decide)), F2.1 251 x (by omega) (Or.inl (by decide)), hB x a b]; exact vfB_in x a b)) rfl rfl rfl ?_
          show AW l G M_Mo_dsaVerify P 524 [(5, vi c), (4, vi i), (0, vr 175)] [] (sD h (rowTo (rowTo (rowTo K3 250 256 (eva (K3 250))) (205 + (30 + i).toNat) 256 (fun _ => 0)) (205 + (30 + i).toNat) 256 (fun x => ((rowTo (rowTo K3 250 256 (eva (K3 250))) (205 + (30 + i).toNat) 256 (fun _ => 0)) (205 + (30 + i).toNat) x + (rowTo (rowTo K3 250 256 (eva (K3 250))) (205 + (30 + i).toNat) 256 (fun _ => 0)) 250 x * (rowTo (rowTo K3 250 256 (eva (K3 250))) (205 + (30 + i).toNat) 256 (fun _ => 0)) 251 x) % 8380417)) u_481)
          refine aw_iconst d_Mo_dsaVerify_524 ⟨by decide, by decide⟩ ?_
          refine aw_istore (lv' := [(5, vi 0), (4, vi i), (0, vr 175)]) d_Mo_dsaVerify_525 (by decide) rfl ?_
          have lp_527 : ∀ (n_ : Nat) (j : Int) (K4 : Nat → Int → Int) (M4 : Nat → Int → Int), (0 ≤ j ∧ j ≤ 7) → (FR (fun a => a = 205 + (30 + i).toNat ∨ a = 252) (rowTo (rowTo (rowTo K3 250 256 (eva (K3 250))) (205 + (30 + i).toNat) 256 (fun _ => 0)) (205 + (30 + i).toNat) 256 (fun x => ((rowTo (rowTo K3 250 256 (eva (K3 250))) (205 + (30 + i).toNat) 256 (fun _ => 0)) (205 + (30 + i).toNat) x + (rowTo (rowTo K3 250 256 (eva (K3 250))) (205 + (30 + i).toNat) 256 (fun _ => 0)) 250 x * (rowTo (rowTo K3 250 256 (eva (K3 250))) (205 + (30 + i).toNat) 256 (fun _ => 0)) 251 x) % 8380417)) u_481 K4 M4) → (∀ x, 0 ≤ x → x < 256 → K4 (205 + (30 + i).toNat) x = (eva (K3 250) x * (vfB 2 (rgR I)) x + pS (sgA 2 (rpR I)) (fun j => fwd rt ((vfZ 2 (rgR I)) j)) (i * 7) x j.toNat) % 8380417) → (∀ m, 0 ≤ m → m < j → (wide (rpR I) m i).2.1 = 256) → (K4 175 4 = 0) → (K4 175 23 = 8 * (320 * i) + 10 * 256) → ((7 - j).toNat) = n_ → AW l G M_Mo_dsaVerify P 527 [(5, vi j), (4, vi i), (0, vr 175)] [] (sD h K4 M4) := by
            intro n_
            induction n_ using Nat.strongRecOn with
            | _ n_ ih_527 =>
            intro j K4 M4 hj F4 r4 okJ h44 b4 hm_527
            have z4 : ∀ a j, (a ≠ 205 + (30 + i).toNat ∧ a ≠ 252 ∧ a ≠ 250 ∧ a < 235) → a ≠ 175 → K4 a j = K2 a j := fun a x y z => by rw [F4.1 _ _ (by omega) (Or.inl z), rowTo_ne (by omega), rowTo_ne (by omega), rowTo_ne (by omega), F3.1 _ _ (by omega) (Or.inl z)]
            have pk4 : ∀ x, K4 179 x = I 179 x := fun x => (z4 179 x (by omega) (by decide)).trans (pk2 x)
            have D4 := (D3.fr F3b (by omega)).fr F4 (by omega)
            refine aw_iload d_Mo_dsaVerify_527 rfl ?_
            refine aw_aload_n d_Mo_dsaVerify_529 rfl rfl ?_
            refine ax_getIe (x := 7) d_Mo_dsaVerify_530 fd_Mo_226 (k_175 S) (Eq.trans (F4.1 175 32 (by omega) (Or.inr (by decide))) (Eq.trans (rowTo_ne (by omega)) (Eq.trans (rowTo_ne (by omega)) (Eq.trans (rowTo_ne (by omega)) (Eq.trans (F3.1 175 32 (by omega) (Or.inr (by decide))) (Eq.trans (F2.1 175 32 (by omega) (Or.inr (by decide))) (dr2_32 D))))))) ?_
            refine aw_icmp_ge (tgt := 601) d_Mo_dsaVerify_533 (by decide) (fun c_533 => ?_) (fun c_533 => ?_)
            · skip
              refine aw_aload_n d_Mo_dsaVerify_601 rfl rfl ?_
              refine aw_aload_n d_Mo_dsaVerify_602 rfl rfl ?_
              refine ax_getR (b := 204) d_Mo_dsaVerify_603 fd_Mo_76 (k_175 S) (r_175_28 S) ?_
              refine aw_bipush d_Mo_dsaVerify_606 ⟨by decide, by decide⟩ (by decide) ?_
              refine aw_iload d_Mo_dsaVerify_608 rfl ?_
              refine ax_iadd d_Mo_dsaVerify_610 ⟨(by omega), (by omega)⟩ ?_
              refine ax_aald (b := 205 + (30 + i).toNat) d_Mo_dsaVerify_611 ⟨by rw [(k_204 S)]; decide, by rw [(k_204 S)]; decide⟩ (by omega) (by rw [n_204 S]; omega) (g_204 S (by omega) (by omega)) ?_
              refine ax_Vr (st := []) (as := [vr (205 + (30 + i).toNat)]) (b := 175) d_Mo_dsaVerify_612 cs_Mo_dsaVerify_612 (k_175 S) (c_Mo_interpolate S ⟨kr_204 S (by omega), by omega, nr_204 S (by omega)⟩ (by omega) (fun x a b => by rw [r4 x a b]; show 0 ≤ _ % 8380417 ∧ _ % 8380417 < 8380417; exact ⟨Int.emod_nonneg _ (by decide), Int.emod_lt_of_pos _ (by decide)⟩) D4.2.2) rfl rfl rfl (fun u_612 q_612 => ?_)
              have l7 := q_612
              have w7 : eqQ ((rowTo K4 (205 + (30 + i).toNat) 256 (itp (K4 (205 + (30 + i).toNat)))) (205 + (30 + i).toNat)) ((vfW 2 (rpR I) (rgR I)) i) := fun x a b => by rw [rowTo_in a b]; show itp _ x = bck rt (fun c => (pS (sgA 2 (rpR I)) (fun j => fwd rt ((vfZ 2 (rgR I)) j)) (i * 7) c 7 % 8380417 - (vfB 2 (rgR I)) c * fwd rt (tpF (rpR I) i) c % 8380417) % 8380417) x; rw [bck_itp a b]; exact itp_cq (fun y hy => by rw [r4 y (by omega) (by omega), show j.toNat = 7 by omega]; exact vsum (ng y (by omega) (by omega)))
              show AW l G M_Mo_dsaVerify P 615 [(5, vi j), (4, vi i), (0, vr 175)] [] (sD h (rowTo K4 (205 + (30 + i).toNat) 256 (itp (K4 (205 + (30 + i).toNat)))) u_612)
              refine aw_ldcw (n := 8380416) d_Mo_dsaVerify_615 lc_Mo_279 ⟨by decide, by decide⟩ ?_
              refine aw_iconst d_Mo_dsaVerify_618 ⟨by decide, by decide⟩ ?_
              refine aw_aload_n d_Mo_dsaVerify_619 rfl rfl ?_
              refine ax_getIe (x := 261888) d_Mo_dsaVerify_620 fd_Mo_242 (k_175 S) (Eq.trans (rowTo_ne (by omega)) (Eq.trans (F4.1 175 36 (by omega) (Or.inr (by decide))) (Eq.trans (rowTo_ne (by omega)) (Eq.trans (rowTo_ne (by omega)) (Eq.trans (rowTo_ne (by omega)) (Eq.trans (F3.1 175 36 (by omega) (Or.inr (by decide))) (Eq.trans (F2.1 175 36 (by omega) (Or.inr (by decide))) (dr2_36 D)))))))) ?_
              refine ax_imul d_Mo_dsaVerify_623 ⟨(by omega), (by omega)⟩ ?_
              refine ax_ti (x := 523776) (by decide) ?_
              refine ax_idiv d_Mo_dsaVerify_624 ⟨(by omega), (by omega)⟩ (by omega) ?_
              refine ax_ti (x := 16) (by decide) ?_
              refine aw_istore (lv' := [(5, vi 16), (4, vi i), (0, vr 175)]) d_Mo_dsaVerify_625 (by decide) rfl ?_
              refine aw_iconst d_Mo_dsaVerify_627 ⟨by decide, by decide⟩ ?_
              refine aw_istore (lv' := [(6, vi 0), (5, vi 16), (4, vi i), (0, vr 175)]) d_Mo_dsaVerify_628 (by decide) rfl ?_
              have lp_630 : ∀ (n_ : Nat) (c : Int) (K7 : Nat → Int → Int), (0 ≤ c ∧ c ≤ 256) → (FR (fun a => a = 205 + (30 + i).toNat) (rowTo K4 (205 + (30 + i).toNat) 256 (itp (K4 (205 + (30 + i).toNat)))) u_612 K7 u_612) → (∀ a x, a ≠ 205 + (30 + i).toNat → K7 a x = (rowTo K4 (205 + (30 + i).toNat) 256 (itp (K4 (205 + (30 + i).toNat)))) a x) → ((∀ x, 0 ≤ x → x < c → K7 (205 + (30 + i).toNat) x = hvV (rgR I) 4544 75 261888 16 i x ((vfW 2 (rpR I) (rgR I)) i x)) ∧ ∀ x, c ≤ x → x < 256 → K7 (205 + (30 + i).toNat) x = (vfW 2 (rpR I) (rgR I)) i x) → ((256 - c).toNat) = n_ → AW l G M_Mo_dsaVerify P 630 [(6, vi c), (5, vi 16), (4, vi i), (0, vr 175)] [] (sD h K7 u_612) := by
                intro n_
                induction n_ using Nat.strongRecOn with
                | _ n_ ih_630 =>
                intro c K7 hc7 F7 F7f r7 hm_630
                have gp7 : K7 175 36 = 261888 := by rw [F7f 175 36 (by omega), rowTo_ne (by omega)]; exact dr2_36 D4
                have tb7 : c < 256 → (K7 (254 + i.toNat) c = 0 ∨ K7 (254 + i.toNat) c = 1) ∧ (K7 (254 + i.toNat) c = 1 ↔ hin (rgR I) 4544 75 i c) := fun v => by rw [show K7 (254 + i.toNat) c = K (254 + i.toNat) c from by rw [F7f _ _ (by omega), rowTo_ne (by omega), F4.1 _ _ (by omega) (Or.inl (by omega)), rowTo_ne (by omega), rowTo_ne (by omega), rowTo_ne (by omega), F3.1 _ _ (by omega) (Or.inl (by omega)), F2.1 _ _ (by omega) (Or.inl (by omega))]]; exact tb i hi.1 (by omega) c hc7.1 v
                refine aw_iload d_Mo_dsaVerify_630 rfl ?_
                refine aw_sipush d_Mo_dsaVerify_632 ⟨by decide, by decide⟩ (by decide) ?_
                refine aw_icmp_ge (tgt := 726) d_Mo_dsaVerify_635 (by decide) (fun c_635 => ?_) (fun c_635 => ?_)
                · skip
                  refine ax_iinc (lv' := [(4, vi (i + 1)), (6, vi c), (5, vi 16), (0, vr 175)]) d_Mo_dsaVerify_726 rfl (by decide) ⟨(by omega), (by omega)⟩ rfl ?_
                  refine aw_goto (tgt := 405) d_Mo_dsaVerify_729 (by decide) ?_
                  refine aw_sub (lv' := [(4, vi (i + 1)), (0, vr 175)]) (by simp) ?_
                  exact ih_405 _ (by omega) (i + 1) K7 u_612 (by omega) (((((F2.tr (F3.mono (r := fun a => a = 250 ∨ a = 252 ∨ 235 ≤ a ∧ a ≤ 242) (by intro a x; omega)) (fun a x => ⟨x, x⟩)).tr F3b (fun a x => ⟨x, x⟩)).tr (F4.mono (r := fun a => a = 250 ∨ a = 252 ∨ 235 ≤ a ∧ a ≤ 242) (by intro a x; omega)) (fun a x => ⟨x, x⟩)).tr (FR.row (p := fun a => a = 250 ∨ a = 252 ∨ 235 ≤ a ∧ a ≤ 242) (by omega) l7) (fun a x => ⟨x, x⟩)).tr (F7.mono (r := fun a => a = 250 ∨ a = 252 ∨ 235 ≤ a ∧ a ≤ 242) (by intro a x; omega)) (fun a x => ⟨x, x⟩)) (by rw [F7f 175 23 (by omega), rowTo_ne (by omega), b4]; omega) (fun m a b x u v => by by_cases z : m = i; exact (by rw [z]; exact r7.1 x u (by omega)); exact (by rw [F7f _ _ (by omega), rowTo_ne (by omega), F4.1 _ _ (by omega) (Or.inl (by omega)), rowTo_ne (by omega), rowTo_ne (by omega), rowTo_ne (by omega), F3.1 _ _ (by omega) (Or.inl (by omega))]; exact dn m a (by omega) x u v)) (fun m a b => by by_cases v : m < 7 * i; exact okA m a v; exact (by have w_ := okJ (m - 7 * i) (by omega) (by omega); rw [show m % 7 = m - 7 * i by omega, show m / 7 = i by omega]; exact w_)) (by rw [F7f 175 4 (by omega), rowTo_ne (by omega)]; exact h44) rfl
                · skip
                  have wr := vfW_in (s := 2) (pk := (rpR I)) (g := (rgR I)) (m := i) c hc7.1 (by omega)
                  have hb_ := dHi16 wr
                  refine aw_aload_n d_Mo_dsaVerify_638 rfl rfl ?_
                  refine ax_getR (b := 204) d_Mo_dsaVerify_639 fd_Mo_76 (k_175 S) (r_175_28 S) ?_
                  refine aw_bipush d_Mo_dsaVerify_642 ⟨by decide, by decide⟩ (by decide) ?_
                  refine aw_iload d_Mo_dsaVerify_644 rfl ?_
                  refine ax_iadd d_Mo_dsaVerify_646 ⟨(by omega), (by omega)⟩ ?_
                  refine ax_aald (b := 205 + (30 + i).toNat) d_Mo_dsaVerify_647 ⟨by rw [(k_204 S)]; decide, by rw [(k_204 S)]; decide⟩ (by omega) (by rw [n_204 S]; omega) (g_204 S (by omega) (by omega)) ?_
                  refine aw_iload d_Mo_dsaVerify_648 rfl ?_
                  refine ax_ialde (x := (vfW 2 (rpR I) (rgR I)) i c) d_Mo_dsaVerify_650 (kr_204 S (by omega)) (by omega) (by rw [nr_204 S (by omega)]; omega) (r7.2 c (Int.le_refl _) (by omega)) ?_
                  refine aw_istore (lv' := [(7, vi ((vfW 2 (rpR I) (rgR I)) i c)), (6, vi c), (5, vi 16), (4, vi i), (0, vr 175)]) d_Mo_dsaVerify_651 (by decide) rfl ?_
                  refine aw_aload_n d_Mo_dsaVerify_653 rfl rfl ?_
                  refine aw_iload d_Mo_dsaVerify_654 rfl ?_
                  refine ax_V (st := []) (as := [vi ((vfW 2 (rpR I) (rgR I)) i c)]) (b := 175) (v := some (vi (dHigh 261888 ((vfW 2 (rpR I) (rgR I)) i c)))) (h' := sD h K7 u_612) d_Mo_dsaVerify_656 cs_Mo_dsaVerify_656 (k_175 S) (by have z := c_Mo_high (l := l) (G := G) (L := u_612) (I := K7) (r := (vfW 2 (rpR I) (rgR I)) i c) S (by rw [gp7]; decide) wr; rw [gp7] at z; exact z) rfl rfl rfl ?_
                  show AW l G M_Mo_dsaVerify P 659 [(7, vi ((vfW 2 (rpR I) (rgR I)) i c)), (6, vi c), (5, vi 16), (4, vi i), (0, vr 175)] [vi (dHigh 261888 ((vfW 2 (rpR I) (rgR I)) i c))] (sD h K7 u_612)
                  refine aw_istore (lv' := [(8, vi (dHigh 261888 ((vfW 2 (rpR I) (rgR I)) i c))), (7, vi ((vfW 2 (rpR I) (rgR I)) i c)), (6, vi c), (5, vi 16), (4, vi i), (0, vr 175)]) d_Mo_dsaVerify_659 (by decide) rfl ?_
                  refine aw_aload_n d_Mo_dsaVerify_661 rfl rfl ?_
                  refine ax_getR (b := 253) d_Mo_dsaVerify_662 fd_Mo_81 (k_175 S) (r_175_29 S) ?_
                  refine aw_iload d_Mo_dsaVerify_665 rfl ?_
                  refine ax_aald (b := 254 + i.toNat) d_Mo_dsaVerify_667 ⟨by rw [(k_253 S)]; decide, by rw [(k_253 S)]; decide⟩ (by omega) (by rw [n_253 S]; omega) (g_253 S (by omega) (by omega)) ?_
                  refine aw_iload d_Mo_dsaVerify_668 rfl ?_
                  refine ax_zalde (x := K7 (254 + i.toNat) c) d_Mo_dsaVerify_670 (kr_253 S (by omega)) (by omega) (by rw [nr_253 S (by omega)]; omega) (rfl) ?_
                  refine aw_if_eq (tgt := 705) d_Mo_dsaVerify_671 (by decide) (fun c_671 => ?_) (fun c_671 => ?_)
                  · skip
                    refine aw_aload_n d_Mo_dsaVerify_705 rfl rfl ?_
                    refine ax_getR (b := 204) d_Mo_dsaVerify_706 fd_Mo_76 (k_175 S) (r_175_28 S) ?_
                    refine aw_bipush d_Mo_dsaVerify_709 ⟨by decide, by decide⟩ (by decide) ?_
                    refine aw_iload d_Mo_dsaVerify_711 rfl ?_
                    refine ax_iadd d_Mo_dsaVerify_713 ⟨(by omega), (by omega)⟩ ?_
                    refine ax_aald (b := 205 + (30 + i).toNat) d_Mo_dsaVerify_714 ⟨by rw [(k_204 S)]; decide, by rw [(k_204 S)]; decide⟩ (by omega) (by rw [n_204 S]; omega) (g_204 S (by omega) (by omega)) ?_
                    refine aw_iload d_Mo_dsaVerify_715 rfl ?_
                    refine aw_iload d_Mo_dsaVerify_717 rfl ?_
                    refine ax_iast d_Mo_dsaVerify_719 (kr_204 S (by omega)) (by omega) (by omega) (by rw [nr_204 S (by omega)]; omega) ?_
                    refine ax_iinc (lv' := [(6, vi (c + 1)), (8, vi (dHigh 261888 ((vfW 2 (rpR I) (rgR I)) i c))), (7, vi ((vfW 2 (rpR I) (rgR I)) i c)), (5, vi 16), (4, vi i), (0, vr 175)]) d_Mo_dsaVerify_720 rfl (by decide) ⟨(by omega), (by omega)⟩ rfl ?_
                    refine aw_goto (tgt := 630) d_Mo_dsaVerify_723 (by decide) ?_
                    refine aw_sub (lv' := [(6, vi (c + 1)), (5, vi 16), (4, vi i), (0, vr 175)]) (by simp) ?_
                    exact ih_630 _ (by omega) (c + 1) (a_up K7 (205 + (30 + i).toNat) c (dHigh 261888 ((vfW 2 (rpR I) (rgR I)) i c))) (by omega) (F7.tr (FR.up (p := fun a => a = 205 + (30 + i).toNat) rfl) (fun a x => ⟨x, x⟩)) (fun a x y => (a_up_ne (Or.inl y)).trans (F7f a x y)) (⟨fun x a b => by by_cases z : x = c; exact (by rw [z, a_up_at]; exact (hvV_n (fun z => by have y := (tb7 (by omega)).2.2 z; omega)).symm); exact (by rw [a_up_ne (Or.inr z)]; exact r7.1 x a (by omega)), fun x a b => by rw [a_up_ne (Or.inr (by omega))]; exact r7.2 x (by omega) b⟩) rfl
                  · skip
                    refine aw_aload_n d_Mo_dsaVerify_674 rfl rfl ?_
                    refine aw_iload d_Mo_dsaVerify_675 rfl ?_
                    refine ax_V (st := []) (as := [vi ((vfW 2 (rpR I) (rgR I)) i c)]) (b := 175) (v := some (vi (dLow 261888 ((vfW 2 (rpR I) (rgR I)) i c)))) (h' := sD h K7 u_612) d_Mo_dsaVerify_677 cs_Mo_dsaVerify_677 (k_175 S) (by have z := c_Mo_low (l := l) (G := G) (L := u_612) (I := K7) (r := (vfW 2 (rpR I) (rgR I)) i c) S (by rw [gp7]; decide) wr; rw [gp7] at z; exact z) rfl rfl rfl ?_
                    show AW l G M_Mo_dsaVerify P 680 [(8, vi (dHigh 261888 ((vfW 2 (rpR I) (rgR I)) i c))), (7, vi ((vfW 2 (rpR I) (rgR I)) i c)), (6, vi c), (5, vi 16), (4, vi i), (0, vr 175)] [vi (dLow 261888 ((vfW 2 (rpR I) (rgR I)) i c))] (sD h K7 u_612)
                    refine aw_if_le (tgt := 693) d_Mo_dsaVerify_680 (by decide) (fun c_680 => ?_) (fun c_680 => ?_)
                    · skip
                      refine aw_iload d_Mo_dsaVerify_693 rfl ?_
                      refine aw_iload d_Mo_dsaVerify_695 rfl ?_
                      refine ax_iadd d_Mo_dsaVerify_697 ⟨(by omega), (by omega)⟩ ?_
                      refine aw_iconst d_Mo_dsaVerify_698 ⟨by decide, by decide⟩ ?_
                      refine ax_isub d_Mo_dsaVerify_699 ⟨(by omega), (by omega)⟩ ?_
                      refine aw_iload d_Mo_dsaVerify_700 rfl ?_
                      refine ax_irem d_Mo_dsaVerify_702 (by omega) (by omega) ?_
                      refine aw_istore (lv' := [(8, vi ((((dHigh 261888 ((vfW 2 (rpR I) (rgR I)) i c)) + 16) - 1) % 16)), (7, vi ((vfW 2 (rpR I) (rgR I)) i c)), (6, vi c), (5, vi 16), (4, vi i), (0, vr 175)]) d_Mo_dsaVerify_703 (by decide) rfl ?_
                      refine aw_aload_n d_Mo_dsaVerify_705 rfl rfl ?_
                      refine ax_getR (b := 204) d_Mo_dsaVerify_706 fd_Mo_76 (k_175 S) (r_175_28 S) ?_
                      refine aw_bipush d_Mo_dsaVerify_709 ⟨by decide, by decide⟩ (by decide) ?_
                      refine aw_iload d_Mo_dsaVerify_711 rfl ?_
                      refine ax_iadd d_Mo_dsaVerify_713 ⟨(by omega), (by omega)⟩ ?_
                      refine ax_aald (b := 205 + (30 + i).toNat) d_Mo_dsaVerify_714 ⟨by rw [(k_204 S)]; decide, by rw [(k_204 S)]; decide⟩ (by omega) (by rw [n_204 S]; omega) (g_204 S (by omega) (by omega)) ?_
                      refine aw_iload d_Mo_dsaVerify_715 rfl ?_
                      refine aw_iload d_Mo_dsaVerify_717 rfl ?_
                      refine ax_iast d_Mo_dsaVerify_719 (kr_204 S (by omega)) (by omega) (by omega) (by rw [nr_204 S (by omega)]; omega) ?_
                      refine ax_iinc (lv' := [(6, vi (c + 1)), (8, vi ((((dHigh 261888 ((vfW 2 (rpR I) (rgR I)) i c)) + 16) - 1) % 16)), (7, vi ((vfW 2 (rpR I) (rgR I)) i c)), (5, vi 16), (4, vi i), (0, vr 175)]) d_Mo_dsaVerify_720 rfl (by decide) ⟨(by omega), (by omega)⟩ rfl ?_
                      refine aw_goto (tgt := 630) d_Mo_dsaVerify_723 (by decide) ?_
                      refine aw_sub (lv' := [(6, vi (c + 1)), (5, vi 16), (4, vi i), (0, vr 175)]) (by simp) ?_
                      exact ih_630 _ (by omega) (c + 1) (a_up K7 (205 + (30 + i).toNat) c ((((dHigh 261888 ((vfW 2 (rpR I) (rgR I)) i c)) + 16) - 1) % 16)) (by omega) (F7.tr (FR.up (p := fun a => a = 205 + (30 + i).toNat) rfl) (fun a x => ⟨x, x⟩)) (fun a x y => (a_up_ne (Or.inl y)).trans (F7f a x y)) (⟨fun x a b => by by_cases z : x = c; exact (by rw [z, a_up_at]; rw [hvV_y ((tb7 (by omega)).2.1 (by have y := (tb7 (by omega)).1; omega)), hh_n (by omega)]); exact (by rw [a_up_ne (Or.inr z)]; exact r7.1 x a (by omega)), fun x a b => by rw [a_up_ne (Or.inr (by omega))]; exact r7.2 x (by omega) b⟩) rfl
                    · skip
                      refine aw_iload d_Mo_dsaVerify_683 rfl ?_
                      refine aw_iconst d_Mo_dsaVerify_685 ⟨by decide, by decide⟩ ?_
                      refine ax_iadd d_Mo_dsaVerify_686 ⟨(by omega), (by omega)⟩ ?_
                      refine aw_iload d_Mo_dsaVerify_687 rfl ?_
                      refine ax_irem d_Mo_dsaVerify_689 (by omega) (by omega) ?_
                      refine aw_goto (tgt := 703) d_Mo_dsaVerify_690 (by decide) ?_
                      refine aw_istore (lv' := [(8, vi (((dHigh 261888 ((vfW 2 (rpR I) (rgR I)) i c)) + 1) % 16)), (7, vi ((vfW 2 (rpR I) (rgR I)) i c)), (6, vi c), (5, vi 16), (4, vi i), (0, vr 175)]) d_Mo_dsaVerify_703 (by decide) rfl ?_
                      refine aw_aload_n d_Mo_dsaVerify_705 rfl rfl ?_
                      refine ax_getR (b := 204) d_Mo_dsaVerify_706 fd_Mo_76 (k_175 S) (r_175_28 S) ?_
                      refine aw_bipush d_Mo_dsaVerify_709 ⟨by decide, by decide⟩ (by decide) ?_
                      refine aw_iload d_Mo_dsaVerify_711 rfl ?_
                      refine ax_iadd d_Mo_dsaVerify_713 ⟨(by omega), (by omega)⟩ ?_
                      refine ax_aald (b := 205 + (30 + i).toNat) d_Mo_dsaVerify_714 ⟨by rw [(k_204 S)]; decide, by rw [(k_204 S)]; decide⟩ (by omega) (by rw [n_204 S]; omega) (g_204 S (by omega) (by omega)) ?_
                      refine aw_iload d_Mo_dsaVerify_715 rfl ?_
                      refine aw_iload d_Mo_dsaVerify_717 rfl ?_
                      refine ax_iast d_Mo_dsaVerify_719 (kr_204 S (by omega)) (by omega) (by omega) (by rw [nr_204 S (by omega)]; omega) ?_
                      refine ax_iinc (lv' := [(6, vi (c + 1)), (8, vi (((dHigh 261888 ((vfW 2 (rpR I) (rgR I)) i c)) + 1) % 16)), (7, vi ((vfW 2 (rpR I) (rgR I)) i c)), (5, vi 16), (4, vi i), (0, vr 175)]) d_Mo_dsaVerify_720 rfl (by decide) ⟨(by omega), (by omega)⟩ rfl ?_
                      refine aw_goto (tgt := 630) d_Mo_dsaVerify_723 (by decide) ?_
                      refine aw_sub (lv' := [(6, vi (c + 1)), (5, vi 16), (4, vi i), (0, vr 175)]) (by simp) ?_
                      exact ih_630 _ (by omega) (c + 1) (a_up K7 (205 + (30 + i).toNat) c (((dHigh 261888 ((vfW 2 (rpR I) (rgR I)) i c)) + 1) % 16)) (by omega) (F7.tr (FR.up (p := fun a => a = 205 + (30 + i).toNat) rfl) (fun a x => ⟨x, x⟩)) (fun a x y => (a_up_ne (Or.inl y)).trans (F7f a x y)) (⟨fun x a b => by by_cases z : x = c; exact (by rw [z, a_up_at]; rw [hvV_y ((tb7 (by omega)).2.1 (by have y := (tb7 (by omega)).1; omega)), hh_y (by omega)]); exact (by rw [a_up_ne (Or.inr z)]; exact r7.1 x a (by omega)), fun x a b => by rw [a_up_ne (Or.inr (by omega))]; exact r7.2 x (by omega) b⟩) rfl
              skip
              exact lp_630 _ 0 (rowTo K4 (205 + (30 + i).toNat) 256 (itp (K4 (205 + (30 + i).toNat)))) (by omega) (FR.rfl') (fun _ _ _ => rfl) (⟨fun x a b => by omega, fun x a b => w7 x (by omega) b⟩) rfl
            · skip
              refine aw_aload_n d_Mo_dsaVerify_536 rfl rfl ?_
              refine aw_aload_n d_Mo_dsaVerify_537 rfl rfl ?_
              refine aw_aload_n d_Mo_dsaVerify_538 rfl rfl ?_
              refine ax_getR (b := 204) d_Mo_dsaVerify_539 fd_Mo_76 (k_175 S) (r_175_28 S) ?_
              refine aw_bipush d_Mo_dsaVerify_542 ⟨by decide, by decide⟩ (by decide) ?_
              refine ax_aald (b := 252) d_Mo_dsaVerify_544 ⟨by rw [(k_204 S)]; decide, by rw [(k_204 S)]; decide⟩ (by omega) (by rw [n_204 S]; omega) (g_204 S (j := 47) (by decide) (by decide)) ?_
              refine aw_aload_n d_Mo_dsaVerify_545 rfl rfl ?_
              refine ax_getR (b := 177) d_Mo_dsaVerify_546 fd_Mo_15 (k_175 S) (r_175_1 S) ?_
              refine aw_iconst d_Mo_dsaVerify_549 ⟨by decide, by decide⟩ ?_
              refine ax_aald (b := 179) d_Mo_dsaVerify_550 ⟨by rw [(k_177 S)]; decide, by rw [(k_177 S)]; decide⟩ (by omega) (by rw [n_177 S]; omega) (g_177 S (j := 1) (by decide) (by decide)) ?_
              refine aw_iconst d_Mo_dsaVerify_551 ⟨by decide, by decide⟩ ?_
              refine aw_iload d_Mo_dsaVerify_552 rfl ?_
              refine aw_iload d_Mo_dsaVerify_554 rfl ?_
              refine ax_Vr (st := [vr 175]) (as := [vr 252, vr 179, vi 0, vi j, vi i]) (b := 175) d_Mo_dsaVerify_556 cs_Mo_dsaVerify_556 (k_175 S) (by have z := c_Mo_sampleWide (l := l) (G := G) (I := K4) (L := M4) (f := 252) (r := 179) (pa := 0) (x := j) (y := i) S D4.1 ⟨k_252 S, by decide, n_252 S⟩ (by decide) ⟨k_179 S, by decide, by decide⟩ (by rw [n_179 S]; decide); rw [wide_pk pk4 b2 (by decide)] at z; exact z) rfl rfl rfl (fun u_556 q_556 => ?_)
              obtain ⟨I6, L6⟩ := u_556
              obtain ⟨f6, r6⟩ := q_556
              dsimp only at f6 r6 ⊢
              by_cases ok_556 : (wide (rpR I) j i).2.1 = 256
              · skip
                rw [if_pos ok_556]
                show AW l G M_Mo_dsaVerify P 559 [(5, vi j), (4, vi i), (0, vr 175)] [vi 1, vr 175] (sD h I6 L6)
                refine aw_iconst d_Mo_dsaVerify_559 ⟨by decide, by decide⟩ ?_
                refine ax_V (st := []) (as := [vi 1, vi 4]) (b := 175) (v := some (vi 1)) (h' := sD h (a_up I6 175 4 0) L6) d_Mo_dsaVerify_560 cs_Mo_dsaVerify_560 (k_175 S) (c_good1 S rfl) rfl rfl rfl ?_
                show AW l G M_Mo_dsaVerify P 563 [(5, vi j), (4, vi i), (0, vr 175)] [vi 1] (sD h (a_up I6 175 4 0) L6)
                refine aw_if_ne (tgt := 568) d_Mo_dsaVerify_563 (by decide) (fun c_563 => ?_) (fun c_563 => False.elim (by omega))
                refine aw_aload_n d_Mo_dsaVerify_568 rfl rfl ?_
                refine ax_getR (b := 204) d_Mo_dsaVerify_569 fd_Mo_76 (k_175 S) (r_175_28 S) ?_
                refine aw_bipush d_Mo_dsaVerify_572 ⟨by decide, by decide⟩ (by decide) ?_
                refine aw_iload d_Mo_dsaVerify_574 rfl ?_
                refine ax_iadd d_Mo_dsaVerify_576 ⟨(by omega), (by omega)⟩ ?_
                refine ax_aald (b := 205 + (30 + i).toNat) d_Mo_dsaVerify_577 ⟨by rw [(k_204 S)]; decide, by rw [(k_204 S)]; decide⟩ (by omega) (by rw [n_204 S]; omega) (g_204 S (by omega) (by omega)) ?_
                refine aw_aload_n d_Mo_dsaVerify_578 rfl rfl ?_
                refine ax_getR (b := 204) d_Mo_dsaVerify_579 fd_Mo_76 (k_175 S) (r_175_28 S) ?_
                refine aw_bipush d_Mo_dsaVerify_582 ⟨by decide, by decide⟩ (by decide) ?_
                refine ax_aald (b := 252) d_Mo_dsaVerify_584 ⟨by rw [(k_204 S)]; decide, by rw [(k_204 S)]; decide⟩ (by omega) (by rw [n_204 S]; omega) (g_204 S (j := 47) (by decide) (by decide)) ?_
                refine aw_aload_n d_Mo_dsaVerify_585 rfl rfl ?_
                refine ax_getR (b := 204) d_Mo_dsaVerify_586 fd_Mo_76 (k_175 S) (r_175_28 S) ?_
                refine aw_iload d_Mo_dsaVerify_589 rfl ?_
                refine ax_aald (b := 205 + j.toNat) d_Mo_dsaVerify_591 ⟨by rw [(k_204 S)]; decide, by rw [(k_204 S)]; decide⟩ (by omega) (by rw [n_204 S]; omega) (g_204 S (by omega) (by omega)) ?_
                refine ax_S (st := []) (as := [vr (205 + (30 + i).toNat), vr 252, vr (205 + j.toNat)]) (v := none) (h' := sD h (rowTo (a_up I6 175 4 0) (205 + (30 + i).toNat) 256 (fun x => ((a_up I6 175 4 0) (205 + (30 + i).toNat) x + (a_up I6 175 4 0) 252 x * (a_up I6 175 4 0) (205 + j.toNat) x) % 8380417)) L6) d_Mo_dsaVerify_592 cs_Mo_dsaVerify_592 (c_Mo_addProducts ⟨kr_204 S (by omega), by omega, nr_204 S (by omega)⟩ ⟨k_252 S, by decide, n_252 S⟩ ⟨kr_204 S (by omega), by omega, nr_204 S (by omega)⟩ (fun x a b => by rw [a_up_ne (Or.inl (by omega)), f6.1 _ x (Or.inl (by omega)) (by omega), r4 x a b]; show 0 ≤ _ % 8380417 ∧ _ % 8380417 < 8380417; exact ⟨Int.emod_nonneg _ (by decide), Int.emod_lt_of_pos _ (by decide)⟩) (fun x a b => by rw [a_up_ne (Or.inl (by decide)), r6 x a (by rw [ok_556]; exact b)]; exact wide_b.2 x) (fun x a b => by rw [a_up_ne (Or.inl (by omega)), f6.1 _ x (Or.inl (by omega)) (by omega), z4 _ x (by omega) (by omega), F2.1 _ x (by omega) (Or.inl (by omega)), hZ j hj.1 (by omega) x a b]; exact fwd_in vfZ_in x a b)) rfl rfl rfl ?_
                show AW l G M_Mo_dsaVerify P 595 [(5, vi j), (4, vi i), (0, vr 175)] [] (sD h (rowTo (a_up I6 175 4 0) (205 + (30 + i).toNat) 256 (fun x => ((a_up I6 175 4 0) (205 + (30 + i).toNat) x + (a_up I6 175 4 0) 252 x * (a_up I6 175 4 0) (205 + j.toNat) x) % 8380417)) L6)
                refine ax_iinc (lv' := [(5, vi (j + 1)), (4, vi i), (0, vr 175)]) d_Mo_dsaVerify_595 rfl (by decide) ⟨(by omega), (by omega)⟩ rfl ?_
                refine aw_goto (tgt := 527) d_Mo_dsaVerify_598 (by decide) ?_
                exact ih_527 _ (by omega) (j + 1) (rowTo (a_up I6 175 4 0) (205 + (30 + i).toNat) 256 (fun x => ((a_up I6 175 4 0) (205 + (30 + i).toNat) x + (a_up I6 175 4 0) 252 x * (a_up I6 175 4 0) (205 + j.toNat) x) % 8380417)) L6 (by omega) (((F4.tr (FR.smp (p := fun a => a = 205 + (30 + i).toNat ∨ a = 252) f6 (by omega)) (fun a x => ⟨x, x⟩)).tr (FR.c0 (p := fun a => a = 205 + (30 + i).toNat ∨ a = 252)) (fun a x => ⟨x, x⟩)).tr (FR.row (p := fun a => a = 205 + (30 + i).toNat ∨ a = 252) (by omega) (fun _ _ _ => rfl)) (fun a x => ⟨x, x⟩)) (fun x a b => by rw [rowTo_in a b, a_up_ne (Or.inl (by omega)), a_up_ne (Or.inl (by decide)), a_up_ne (Or.inl (by omega)), f6.1 _ x (Or.inl (by omega)) (by omega), r4 x a b, r6 x a (by rw [ok_556]; exact b), f6.1 _ x (Or.inl (by omega)) (by omega), z4 _ x (by omega) (by omega), F2.1 _ x (by omega) (Or.inl (by omega)), hZ j hj.1 (by omega) x a b, show (j + 1).toNat = j.toNat + 1 by omega]; show _ = (_ + (pS (sgA 2 (rpR I)) (fun j => fwd rt ((vfZ 2 (rgR I)) j)) (i * 7) x j.toNat + (sgA 2 (rpR I)) (i * 7 + (j.toNat : Int)) x * (fwd rt ((vfZ 2 (rgR I)) (j.toNat : Int)) x))) % 8380417; rw [Int.toNat_of_nonneg hj.1, show (sgA 2 (rpR I)) (i * 7 + j) x = (wide (rpR I) j i).2.2 x from by unfold sgA; rw [show pL 2 = 7 from rfl, show (i * 7 + j) % 7 = j by omega, show (i * 7 + j) / 7 = i by omega], ← Int.add_assoc]; exact Int.emod_add_emod _ _ _) (fun m a b => by by_cases z : m = j; exact (by rw [z]; exact ok_556); exact okJ m a (by omega)) (by rw [rowTo_ne (by omega), a_up_at]) (by rw [rowTo_ne (by omega), a_up_ne (Or.inr (by decide)), f6.1 175 23 (Or.inr (by decide)) (by decide)]; exact b4) rfl
              · skip
                rw [if_neg ok_556]
                show AW l G M_Mo_dsaVerify P 559 [(5, vi j), (4, vi i), (0, vr 175)] [vi 0, vr 175] (sD h I6 L6)
                refine aw_iconst d_Mo_dsaVerify_559 ⟨by decide, by decide⟩ ?_
                refine ax_V (st := []) (as := [vi 0, vi 4]) (b := 175) (v := some (vi 0)) (h' := sD h (a_up I6 175 4 4) L6) d_Mo_dsaVerify_560 cs_Mo_dsaVerify_560 (k_175 S) (c_good0 S rfl) rfl rfl rfl ?_
                show AW l G M_Mo_dsaVerify P 563 [(5, vi j), (4, vi i), (0, vr 175)] [vi 0] (sD h (a_up I6 175 4 4) L6)
                refine aw_if_ne (tgt := 568) d_Mo_dsaVerify_563 (by decide) (fun c_563 => False.elim (by omega)) (fun c_563 => ?_)
                refine aw_iconst d_Mo_dsaVerify_566 ⟨by decide, by decide⟩ ?_
                exact aw_zret d_Mo_dsaVerify_567 rfl ⟨by decide, by decide⟩ (hP _ _ (rsNo 0 4 (c4_4 ⟨by decide, by decide⟩ b1 b2 (fun z => ok_556 (by have y := (z pre).2 (i * 7 + j) (by omega) (by show i * 7 + j < 56; omega); rw [show pL 2 = 7 from rfl, show (i * 7 + j) % 7 = j by omega, show (i * 7 + j) / 7 = i by omega] at y; exact y))) (by decide) a_up_at (fR0.fr (fR0.fr (fR0.fr (fR0.fr (fR0.fr (fR0.fr R0 F2 (r := qN) (by intro a x y; exact ⟨fun z => z, by omega⟩) (by omega)) F3 (r := qN) (by intro a x y; exact ⟨fun z => z, by omega⟩) (by decide)) F3b (r := qN) (by intro a x y; exact ⟨fun z => z, by omega⟩) (by omega)) F4 (r := qN) (by intro a x y; exact ⟨fun z => z, by omega⟩) (by omega)) (FR.smp (p := fun a => a = 252) f6 rfl) (r := qN) (by intro a x y; exact ⟨fun z => z, by omega⟩) (by decide)) (FR.c0 (p := fun _ => False)) (by intro a x y; exact ⟨fun z => z, fun z => z⟩) (fun z => z))))
          skip
          exact lp_527 _ 0 (rowTo (rowTo (rowTo K3 250 256 (eva (K3 250))) (205 + (30 + i).toNat) 256 (fun _ => 0)) (205 + (30 + i).toNat) 256 (fun x => ((rowTo (rowTo K3 250 256 (eva (K3 250))) (205 + (30 + i).toNat) 256 (fun _ => 0)) (205 + (30 + i).toNat) x + (rowTo (rowTo K3 250 256 (eva (K3 250))) (205 + (30 + i).toNat) 256 (fun _ => 0)) 250 x * (rowTo (rowTo K3 250 256 (eva (K3 250))) (205 + (30 + i).toNat) 256 (fun _ => 0)) 251 x) % 8380417)) u_481 (by omega) (FR.rfl') (fun x a b => by rw [rowTo_in a b, rowTo_in a b, rowTo_ne (by omega), rowTo_in a b, rowTo_ne (by omega), rowTo_ne (by decide), F3.1 251 x (by decide) (Or.inl (by decide)), F2.1 251 x (by omega) (Or.inl (by decide)), hB x a b]; show (0 + _) % _ = (_ + 0) % _; rw [Int.zero_add, Int.add_zero]) (fun m a b => by omega) (by rw [rowTo_ne (by omega), rowTo_ne (by omega), rowTo_ne (by omega)]; exact h43) (by rw [rowTo_ne (by omega), rowTo_ne (by omega), rowTo_ne (by omega), b3]; omega) rfl
        · skip
          refine aw_aload_n d_Mo_dsaVerify_425 rfl rfl ?_
          refine ax_getR (b := 204) d_Mo_dsaVerify_426 fd_Mo_76 (k_175 S) (r_175_28 S) ?_
          refine aw_bipush d_Mo_dsaVerify_429 ⟨by decide, by decide⟩ (by decide) ?_
          refine ax_aald (b := 250) d_Mo_dsaVerify_431 ⟨by rw [(k_204 S)]; decide, by rw [(k_204 S)]; decide⟩ (by omega) (by rw [n_204 S]; omega) (g_204 S (j := 45) (by decide) (by decide)) ?_
          refine aw_iload d_Mo_dsaVerify_432 rfl ?_
          have tp_ := tpF_in (g := (rpR I)) (i := i) c hc.1 (by omega)
          have tp_ : 0 ≤ gR (fun k => rpR I (32 + 320 * i + k)) 10 c * 8192 ∧ gR (fun k => rpR I (32 + 320 * i + k)) 10 c * 8192 < 8380417 := tp_
          refine aw_ldc2 (n := 8380417) d_Mo_dsaVerify_434 lc_Mo_256 ⟨by decide, by decide⟩ ?_
          refine aw_aload_n d_Mo_dsaVerify_437 rfl rfl ?_
          refine aw_aload_n d_Mo_dsaVerify_438 rfl rfl ?_
          refine ax_getR (b := 177) d_Mo_dsaVerify_439 fd_Mo_15 (k_175 S) (r_175_1 S) ?_
          refine aw_iconst d_Mo_dsaVerify_442 ⟨by decide, by decide⟩ ?_
          refine ax_aald (b := 179) d_Mo_dsaVerify_443 ⟨by rw [(k_177 S)]; decide, by rw [(k_177 S)]; decide⟩ (by omega) (by rw [n_177 S]; omega) (g_177 S (j := 1) (by decide) (by decide)) ?_
          refine aw_bipush d_Mo_dsaVerify_444 ⟨by decide, by decide⟩ (by decide) ?_
          refine aw_bipush d_Mo_dsaVerify_446 ⟨by decide, by decide⟩ (by decide) ?_
          refine ax_V (st := [vl 8380417, vi c, vr 250]) (as := [vr 179, vi 32, vi 10]) (b := 175) (v := some (vi (bV (fun j => K3 179 (32 + 320 * i + j) % 256) 8 (32 * 10) / 2 ^ (10 * c.toNat) % 2 ^ 10))) (h' := sD h (a_up K3 175 23 (8 * (320 * i) + ((10 * c.toNat : Nat) : Int) + 10)) M2) d_Mo_dsaVerify_448 cs_Mo_dsaVerify_448 (k_175 S) (c_Mo_takeBits (q := 10 * c.toNat) (N := 32 * 10) (c := 320 * i) (d := 10) S ⟨k_179 S, by decide⟩ (by decide) (by omega) (by rw [n_179 S]; omega)) rfl rfl rfl ?_
          show AW l G M_Mo_dsaVerify P 451 [(5, vi c), (4, vi i), (0, vr 175)] [vi (bV (fun j => K3 179 (32 + 320 * i + j) % 256) 8 (32 * 10) / 2 ^ (10 * c.toNat) % 2 ^ 10), vl 8380417, vi c, vr 250] (sD h (a_up K3 175 23 (8 * (320 * i) + ((10 * c.toNat : Nat) : Int) + 10)) M2)
          refine ax_ti (x := gR (fun k => rpR I (32 + 320 * i + k)) 10 c) (by show gR (fun j => K3 179 (32 + 320 * i + j) % 256) 10 c = _; exact gR_congr (fun y y0 y1 => by rw [pk3, rp_in (show I 186 1 = 2592 from b2) (by omega) (by omega)])) ?_
          refine aw_i2l d_Mo_dsaVerify_451 ?_
          refine aw_ldc2 (n := 8192) d_Mo_dsaVerify_452 lc_Mo_364 ⟨by decide, by decide⟩ ?_
          refine ax_lmul d_Mo_dsaVerify_455 ⟨(by omega), (by omega)⟩ ?_
          refine aw_ldc2 (n := 8380417) d_Mo_dsaVerify_456 lc_Mo_256 ⟨by decide, by decide⟩ ?_
          refine ax_lrem d_Mo_dsaVerify_459 (by omega) (by omega) ?_
          refine ax_lsub d_Mo_dsaVerify_460 ⟨(by omega), (by omega)⟩ ?_
          refine ax_l2i d_Mo_dsaVerify_461 ⟨(by omega), (by omega)⟩ ?_
          refine aw_ldcw (n := 8380417) d_Mo_dsaVerify_462 lc_Mo_264 ⟨by decide, by decide⟩ ?_
          refine ax_irem d_Mo_dsaVerify_465 (by omega) (by omega) ?_
          refine ax_iast d_Mo_dsaVerify_466 (k_250 S) (by decide) (by omega) (by rw [n_250 S]; omega) ?_
          refine ax_iinc (lv' := [(5, vi (c + 1)), (4, vi i), (0, vr 175)]) d_Mo_dsaVerify_467 rfl (by decide) ⟨(by omega), (by omega)⟩ rfl ?_
          refine aw_goto (tgt := 417) d_Mo_dsaVerify_470 (by decide) ?_
          exact ih_417 _ (by omega) (c + 1) (a_up (a_up K3 175 23 (8 * (320 * i) + ((10 * c.toNat : Nat) : Int) + 10)) 250 c ((8380417 - (((gR (fun k => rpR I (32 + 320 * i + k)) 10 c) * 8192) % 8380417)) % 8380417)) (by omega) ((F3.tr (FR.b0 (p := fun a => a = 250)) (fun a x => ⟨x, x⟩)).tr (FR.up (p := fun a => a = 250) rfl) (fun a x => ⟨x, x⟩)) (by rw [a_up_ne (Or.inl (by decide)), a_up_at]; omega) (fun x a b => by by_cases z : x = c; exact (by rw [z, a_up_at]); exact (by rw [a_up_ne (Or.inr z), a_up_ne (Or.inl (by decide))]; exact x3 x a (by omega))) (by rw [a_up_ne (Or.inl (by decide)), a_up_ne (Or.inr (by decide))]; exact h43) rfl
      skip
      exact lp_417 _ 0 K2 (by omega) (FR.rfl') (by omega) (fun x a b => by omega) (h42) rfl
  skip
  exact lp_405 _ 0 K M (by omega) (FR.rfl') (b0) (fun m a b => by omega) (fun m a b => by omega) (h4) rfl
set_option maxHeartbeats 800000 in
set_option maxRecDepth 100000 in
theorem vE2N {l : Launch} {G : a_G} {P : a_R → Hp → Prop} {h : Hp} {I L K M : Nat → Int → Int} (S : Shp h) (R0 : fR0 qN I L K M) (D : RD K M 2) (rg : ∀ j, -128 ≤ I 183 j ∧ I 183 j ≤ 127) (b1 : (-1 : Int) ≠ 0 ∨ I 186 4 ≤ 255) (b2 : I 186 1 = 32 + 320 * pK 2) (pre : vfPre 2 (rgR I) (I 186 5)) (vok : vfOk 2 (rpR I) (rgR I)) (hH : ∀ m, 0 ≤ m → m < 8 → eqQ (K (205 + (30 + m).toNat)) ((fun m j => hvV (rgR I) 4544 75 261888 16 m j ((vfW 2 (rpR I) (rgR I)) m j)) m)) (hm : HR K 265 0 64 (muW I (-1 : Int))) (h4 : K 175 4 = 0) (hP : ∀ r_ h2_, RsR h I L (c4 ((0 ≤ (2 : Int) ∧ (2 : Int) < 3) ∧ ((-1 : Int) = 0 ∨ (-1 : Int) = -1)) ((-1 : Int) ≠ 0 ∨ I 186 4 ≤ 255) (I 186 1 = 32 + 320 * pK (2 : Int)) (vfPre (2 : Int) (rgR I) (I 186 5) → vfOk (2 : Int) (rpR I) (rgR I))) (fun a => a = 184 ∨ a = 186) (fun v I' L' => (¬ vfPre (2 : Int) (rgR I) (I 186 5) ∧ v = 0 ∧ fR0 qN I L I' L') ∨ (vfPre (2 : Int) (rgR I) (I 186 5) ∧ ((∀ j, j ≠ 6 → I' 186 j = I 186 j) ∧ I' 186 6 = pC (2 : Int)) ∧ (HR I' 184 0 (pC (2 : Int)) (vfC (2 : Int) (rpR I) (rgR I) (muW I (-1 : Int))) ∧ rng (I 184) (I' 184)) ∧ (v = 0 ∨ v = 1) ∧ (v = 1 ↔ ∀ j, 0 ≤ j → j < pC (2 : Int) → vfC (2 : Int) (rpR I) (rgR I) (muW I (-1 : Int)) j = rgR I j))) r_ h2_ → P r_ h2_) : AW l G M_Mo_dsaVerify P 732 [(0, vr 175)] [] (sD h K M) := by
  refine aw_aload_n d_Mo_dsaVerify_732 rfl rfl ?_
  refine aw_bipush d_Mo_dsaVerify_733 ⟨by decide, by decide⟩ (by decide) ?_
  refine aw_aload_n d_Mo_dsaVerify_735 rfl rfl ?_
  refine ax_getR (b := 267) d_Mo_dsaVerify_736 fd_Mo_99 (k_175 S) (r_175_43 S) ?_
  refine ax_Vr (st := []) (as := [vi 30, vr 267]) (b := 175) d_Mo_dsaVerify_739 cs_Mo_dsaVerify_739 (k_175 S) (c_Mo_challengeR2_30 (mu := (muW I (-1 : Int))) (X := (fun m j => hvV (rgR I) 4544 75 261888 16 m j ((vfW 2 (rpR I) (rgR I)) m j))) S D hH (fun m a b j x y => by have := hvV_b (g := (rgR I)) (o3 := 4544) (w := 75) (i := m) (j := j) (vfW_in (s := 2) (pk := (rpR I)) (g := (rgR I)) (m := m) j x y); show 0 ≤ hvV (rgR I) 4544 75 261888 16 m j ((vfW 2 (rpR I) (rgR I)) m j) ∧ hvV (rgR I) 4544 75 261888 16 m j ((vfW 2 (rpR I) (rgR I)) m j) < 2 ^ 4; omega) hm (fun k _ _ => spOut_m _ _)) rfl rfl rfl (fun u_739 q_739 => ?_)
  obtain ⟨I1, L1⟩ := u_739
  obtain ⟨F1, h1, g1_, z4_⟩ := q_739
  dsimp only at F1 h1 g1_ z4_
  have h1 : HR I1 267 0 64 (vfC 2 (rpR I) (rgR I) (muW I (-1 : Int))) := h1
  have D1 := D.fr F1 (by decide)
  have c41 : I1 175 4 = 0 := z4_.trans h4
  show AW l G M_Mo_dsaVerify P 742 [(0, vr 175)] [] (sD h I1 L1)
  refine aw_aload_n d_Mo_dsaVerify_742 rfl rfl ?_
  refine ax_getR (b := 267) d_Mo_dsaVerify_743 fd_Mo_99 (k_175 S) (r_175_43 S) ?_
  refine aw_iconst d_Mo_dsaVerify_746 ⟨by decide, by decide⟩ ?_
  refine aw_aload_n d_Mo_dsaVerify_747 rfl rfl ?_
  refine ax_getR (b := 177) d_Mo_dsaVerify_748 fd_Mo_15 (k_175 S) (r_175_1 S) ?_
  refine aw_bipush d_Mo_dsaVerify_751 ⟨by decide, by decide⟩ (by decide) ?_
  refine ax_aald (b := 184) d_Mo_dsaVerify_753 ⟨by rw [(k_177 S)]; decide, by rw [(k_177 S)]; decide⟩ (by omega) (by rw [n_177 S]; omega) (g_177 S (j := 6) (by decide) (by decide)) ?_
  refine aw_iconst d_Mo_dsaVerify_754 ⟨by decide, by decide⟩ ?_
  refine aw_aload_n d_Mo_dsaVerify_755 rfl rfl ?_
  refine ax_getIe (x := 64) d_Mo_dsaVerify_756 fd_Mo_248 (k_175 S) (dr2_38 D1) ?_
  refine ax_S (st := []) (as := [vr 267, vi 0, vr 184, vi 0, vi 64]) (v := none) (h' := sD h (putRow I1 184 0 64 (fun k => I1 267 (0 + k))) L1) d_Mo_dsaVerify_759 cs_Mo_dsaVerify_759 (c_Mo_move ⟨k_267 S, by decide⟩ ⟨k_184 S, by decide, trivial⟩ (by decide) (by rw [n_267 S, n_184 S]; omega)) rfl rfl rfl ?_
  show AW l G M_Mo_dsaVerify P 762 [(0, vr 175)] [] (sD h (putRow I1 184 0 64 (fun k => I1 267 (0 + k))) L1)
  refine aw_aload_n d_Mo_dsaVerify_762 rfl rfl ?_
  refine ax_getR (b := 186) d_Mo_dsaVerify_763 fd_Mo_18 (k_175 S) (r_175_2 S) ?_
  refine aw_bipush d_Mo_dsaVerify_766 ⟨by decide, by decide⟩ (by decide) ?_
  refine aw_aload_n d_Mo_dsaVerify_768 rfl rfl ?_
  refine ax_getIe (x := 64) d_Mo_dsaVerify_769 fd_Mo_248 (k_175 S) (Eq.trans (putRow_ne (by decide)) (dr2_38 D1)) ?_
  refine ax_iast d_Mo_dsaVerify_772 (k_186 S) (by decide) (by omega) (by rw [n_186 S]; omega) ?_
  refine aw_aload_n d_Mo_dsaVerify_773 rfl rfl ?_
  refine ax_getR (b := 267) d_Mo_dsaVerify_774 fd_Mo_99 (k_175 S) (r_175_43 S) ?_
  refine aw_iconst d_Mo_dsaVerify_777 ⟨by decide, by decide⟩ ?_
  refine aw_aload_n d_Mo_dsaVerify_778 rfl rfl ?_
  refine ax_getR (b := 177) d_Mo_dsaVerify_779 fd_Mo_15 (k_175 S) (r_175_1 S) ?_
  refine aw_iconst d_Mo_dsaVerify_782 ⟨by decide, by decide⟩ ?_
  refine ax_aald (b := 183) d_Mo_dsaVerify_783 ⟨by rw [(k_177 S)]; decide, by rw [(k_177 S)]; decide⟩ (by omega) (by rw [n_177 S]; omega) (g_177 S (j := 5) (by decide) (by decide)) ?_
  refine aw_iconst d_Mo_dsaVerify_784 ⟨by decide, by decide⟩ ?_
  refine aw_aload_n d_Mo_dsaVerify_785 rfl rfl ?_
  refine ax_getIe (x := 64) d_Mo_dsaVerify_786 fd_Mo_248 (k_175 S) (Eq.trans (a_up_ne (Or.inl (by decide))) (Eq.trans (putRow_ne (by decide)) (dr2_38 D1))) ?_
  refine ax_Sr (st := []) (as := [vr 267, vi 0, vr 183, vi 0, vi 64]) d_Mo_dsaVerify_789 cs_Mo_dsaVerify_789 (c_Mo_alike ⟨k_267 S, by decide⟩ ⟨k_183 S, by decide⟩ (by rw [n_267 S, n_183 S]; decide)) rfl rfl rfl (fun u_789 q_789 => ?_)
  obtain ⟨ao, aa⟩ := q_789
  have l5 : I 186 5 = 4627 := pre.1
  have r183 : ∀ j, (a_up (putRow I1 184 0 64 (fun k => I1 267 (0 + k))) 186 6 64) 183 j = I 183 j := fun j => by rw [a_up_ne (Or.inl (by decide)), putRow_ne (by decide), F1.1 183 j (by decide) (Or.inl (by decide))]; exact R0.1 183 j (by omega) (fun z => z)
  have r267 : ∀ j, (a_up (putRow I1 184 0 64 (fun k => I1 267 (0 + k))) 186 6 64) 267 j = I1 267 j := fun j => by rw [a_up_ne (Or.inl (by decide)), putRow_ne (by decide)]
  have am : u_789 = 1 ↔ ∀ j, 0 ≤ j → j < 64 → (vfC 2 (rpR I) (rgR I) (muW I (-1 : Int))) j = rgR I j := aa.trans ⟨fun z j x y => by have w_ := z j x y; rw [r183, r267] at w_; rw [← h1 j x y, w_, Int.zero_add, rg_in l5 x (by omega)], fun z j x y => by have w_ := z j x y; rw [← h1 j x y] at w_; have g_ := g1_ j x y; have r_ := rg (0 + j); rw [r183, r267]; rw [rg_in l5 x (by omega)] at w_; rw [Int.zero_add] at *; omega⟩
  show AW l G M_Mo_dsaVerify P 792 [(0, vr 175)] [vi u_789] (sD h (a_up (putRow I1 184 0 64 (fun k => I1 267 (0 + k))) 186 6 64) L1)
  exact aw_zret d_Mo_dsaVerify_792 rfl (by omega) (hP _ _ ⟨_, _, _, rfl, rfl, by rw [a_up_ne (Or.inl (by decide)), putRow_ne (by decide), c41, c4_0 ⟨by decide, by decide⟩ b1 b2 (fun _ => vok)], Or.inl ⟨c4_0 ⟨by decide, by decide⟩ b1 b2 (fun _ => vok), fR0.fr (fR0.fr (fR0.fr R0 F1 (r := qN) (by intro a x y; exact ⟨fun z => z, by omega⟩) (by decide)) (FR.put (p := fun a => a = 184) rfl) (r := fun a => a = 184 ∨ a = 186) (by intro a x y; exact ⟨fun z => z, by omega⟩) (by decide)) (FR.up (p := fun a => a = 186) rfl) (by intro a x y; exact ⟨y, by omega⟩) (by decide), Or.inr ⟨pre, ⟨fun j x => by rw [a_up_ne (Or.inr x), putRow_ne (by decide), F1.1 186 j (by decide) (Or.inl (by decide))]; exact R0.1 186 j (by omega) (fun z => z), by rw [a_up_at]; rfl⟩, ⟨fun z x y => by rw [a_up_ne (Or.inl (by decide))]; exact HR.put (g' := (vfC 2 (rpR I) (rgR I) (muW I (-1 : Int)))) (fun z x y => h1 z x y) z x y, fun j => by rw [a_up_ne (Or.inl (by decide))]; have z := rng.p (I := I1) (f := 184) (o := 0) (n := 64) (g := fun k => I1 267 (0 + k)) j; rw [show I1 184 j = I 184 j from (F1.1 184 j (by decide) (Or.inl (by decide))).trans (R0.1 184 j (by omega) (fun z => z))] at z; exact z⟩, ao, am⟩⟩⟩)
set_option maxHeartbeats 4000000 in
set_option maxRecDepth 100000 in
theorem vD2N {l : Launch} {G : a_G} {P : a_R → Hp → Prop} {h : Hp} {I L K M : Nat → Int → Int} (S : Shp h) (R0 : fR0 qN I L K M) (D : RD K M 2) (rg : ∀ j, -128 ≤ I 183 j ∧ I 183 j ≤ 127) (b1 : (-1 : Int) ≠ 0 ∨ I 186 4 ≤ 255) (b2 : I 186 1 = 32 + 320 * pK 2) (pre : vfPre 2 (rgR I) (I 186 5)) (bn : bll 60 (vfBs 2 (rgR I)) ≠ none) (hB : eqQ (K 251) (vfB 2 (rgR I))) (hZ : ∀ m, 0 ≤ m → m < 7 → eqQ (K (205 + m.toNat)) (fwd rt ((vfZ 2 (rgR I)) m))) (b0 : K 175 23 = 8 * (320 * 0)) (hm : HR K 265 0 64 (muW I (-1 : Int))) (h4 : K 175 4 = 0) (tb : ∀ m, 0 ≤ m → m < 8 → tbl K (rgR I) 4544 75 m) (hP : ∀ r_ h2_, RsR h I L (c4 ((0 ≤ (2 : Int) ∧ (2 : Int) < 3) ∧ ((-1 : Int) = 0 ∨ (-1 : Int) = -1)) ((-1 : Int) ≠ 0 ∨ I 186 4 ≤ 255) (I 186 1 = 32 + 320 * pK (2 : Int)) (vfPre (2 : Int) (rgR I) (I 186 5) → vfOk (2 : Int) (rpR I) (rgR I))) (fun a => a = 184 ∨ a = 186) (fun v I' L' => (¬ vfPre (2 : Int) (rgR I) (I 186 5) ∧ v = 0 ∧ fR0 qN I L I' L') ∨ (vfPre (2 : Int) (rgR I) (I 186 5) ∧ ((∀ j, j ≠ 6 → I' 186 j = I 186 j) ∧ I' 186 6 = pC (2 : Int)) ∧ (HR I' 184 0 (pC (2 : Int)) (vfC (2 : Int) (rpR I) (rgR I) (muW I (-1 : Int))) ∧ rng (I 184) (I' 184)) ∧ (v = 0 ∨ v = 1) ∧ (v = 1 ↔ ∀ j, 0 ≤ j → j < pC (2 : Int) → vfC (2 : Int) (rpR I) (rgR I) (muW I (-1 : Int)) j = rgR I j))) r_ h2_ → P r_ h2_) : AW l G M_Mo_dsaVerify P 402 [(0, vr 175)] [] (sD h K M) := by
  refine aw_iconst d_Mo_dsaVerify_402 ⟨by decide, by decide⟩ ?_
  refine aw_istore (lv' := [(4, vi 0), (0, vr 175)]) d_Mo_dsaVerify_403 (by decide) rfl ?_
  have lp_405 : ∀ (n_ : Nat) (i : Int) (K2 : Nat → Int → Int) (M2 : Nat → Int → Int), (0 ≤ i ∧ i ≤ 8) → (FR (fun a => a = 250 ∨ a = 252 ∨ 235 ≤ a ∧ a ≤ 242) K M K2 M2) → (K2 175 23 = 8 * (320 * i)) → (∀ m, 0 ≤ m → m < i → eqQ (K2 (205 + (30 + m).toNat)) ((fun m j => hvV (rgR I) 4544 75 261888 16 m j ((vfW 2 (rpR I) (rgR I)) m j)) m)) → (∀ m, 0 ≤ m → m < 7 * i → (wide (rpR I) (m % 7) (m / 7)).2.1 = 256) → (K2 175 4 = 0) → ((8 - i).toNat) = n_ → AW l G M_Mo_dsaVerify P 405 [(4, vi i), (0, vr 175)] [] (sD h K2 M2) := by
    intro n_
    induction n_ using Nat.strongRecOn with
    | _ n_ ih_405 =>
    intro i K2 M2 hi F2 bb dn okA h42 hm_405
    have pk2 : ∀ x, K2 179 x = I 179 x := fun x => (F2.1 179 x (by omega) (Or.inl (by decide))).trans (R0.1 179 x (by omega) (fun z => z))
    refine aw_iload d_Mo_dsaVerify_405 rfl ?_
    refine aw_aload_n d_Mo_dsaVerify_407 rfl rfl ?_
    refine ax_getIe (x := 8) d_Mo_dsaVerify_408 fd_Mo_223 (k_175 S) (Eq.trans (F2.1 175 26 (by omega) (Or.inr (by decide))) (dr2_26 D)) ?_
    refine aw_icmp_ge (tgt := 732) d_Mo_dsaVerify_411 (by decide) (fun c_411 => ?_) (fun c_411 => ?_)
    · skip
      refine aw_sub (lv' := [(0, vr 175)]) (by simp) ?_
      exact vE2N S (fR0.fr R0 F2 (by intro a x y; exact ⟨fun z => z, by omega⟩) (by omega)) (D.fr F2 (by omega)) rg b1 b2 pre ⟨bn, fun m a b => okA m a (by have b2 : m < 56 := b; omega)⟩ (fun m a b => dn m a (by omega)) (hm.fr F2 (by omega) (by decide)) h42 hP
    · skip
      refine aw_iconst d_Mo_dsaVerify_414 ⟨by decide, by decide⟩ ?_
      refine aw_istore (lv' := [(5, vi 0), (4, vi i), (0, vr 175)]) d_Mo_dsaVerify_415 (by decide) rfl ?_
      have lp_417 : ∀ (n_ : Nat) (c : Int) (K3 : Nat → Int → Int), (0 ≤ c ∧ c ≤ 256) → (FR (fun a => a = 250) K2 M2 K3 M2) → (K3 175 23 = 8 * (320 * i) + 10 * c) → (∀ x, 0 ≤ x → x < c → K3 250 x = (fun x => (8380417 - gR (fun k => rpR I (32 + 320 * i + k)) 10 x * 8192 % 8380417) % 8380417) x) → (K3 175 4 = 0) → ((256 - c).toNat) = n_ → AW l G M_Mo_dsaVerify P 417 [(5, vi c), (4, vi i), (0, vr 175)] [] (sD h K3 M2) := by
        intro n_
        induction n_ using Nat.strongRecOn with
        | _ n_ ih_417 =>
        intro c K3 hc F3 b3 x3 h43 hm_417
        have pk3 : ∀ x, K3 179 x = I 179 x := fun x => by rw [F3.1 179 _ (by decide) (Or.inl (by decide)), pk2]
        refine aw_iload d_Mo_dsaVerify_417 rfl ?_
        refine aw_sipush d_Mo_dsaVerify_419 ⟨by decide, by decide⟩ (by decide) ?_
        refine aw_icmp_ge (tgt := 473) d_Mo_dsaVerify_422 (by decide) (fun c_422 => ?_) (fun c_422 => ?_)
        · skip
          refine aw_aload_n d_Mo_dsaVerify_473 rfl rfl ?_
          refine aw_aload_n d_Mo_dsaVerify_474 rfl rfl ?_
          refine ax_getR (b := 204) d_Mo_dsaVerify_475 fd_Mo_76 (k_175 S) (r_175_28 S) ?_
          refine aw_bipush d_Mo_dsaVerify_478 ⟨by decide, by decide⟩ (by decide) ?_
          refine ax_aald (b := 250) d_Mo_dsaVerify_480 ⟨by rw [(k_204 S)]; decide, by rw [(k_204 S)]; decide⟩ (by omega) (by rw [n_204 S]; omega) (g_204 S (j := 45) (by decide) (by decide)) ?_
          have D3 := (D.fr F2 (by omega)).fr F3 (by decide)
          refine ax_Vr (st := []) (as := [vr 250]) (b := 175) d_Mo_dsaVerify_481 cs_Mo_dsaVerify_481 (k_175 S) (c_Mo_evaluate S ⟨k_250 S, by decide, n_250 S⟩ (by decide) (fun x a b => by rw [x3 x a (by omega)]; show 0 ≤ _ % 8380417 ∧ _ % 8380417 < 8380417; exact ⟨Int.emod_nonneg _ (by decide), Int.emod_lt_of_pos _ (by decide)⟩) D3.2.2) rfl rfl rfl (fun u_481 q_481 => ?_)
          have l5 := q_481
          have ng : ∀ x, 0 ≤ x → x < 256 → cq (eva (K3 250) x) (-(fwd rt (tpF (rpR I) i) x)) := fun x a b => by rw [fwd_eva a b]; exact eva_neg (fun y hy => by rw [x3 y (by omega) (by omega)]; show cq ((8380417 - tpF (rpR I) i y % 8380417) % 8380417) (-(tpF (rpR I) i y)); unfold cq; omega)
          have F3b : FR (fun a => a = 250 ∨ a = 252 ∨ 235 ≤ a ∧ a ≤ 242) K3 M2 (rowTo (rowTo (rowTo K3 250 256 (eva (K3 250))) (205 + (30 + i).toNat) 256 (fun _ => 0)) (205 + (30 + i).toNat) 256 (fun x => ((rowTo (rowTo K3 250 256 (eva (K3 250))) (205 + (30 + i).toNat) 256 (fun _ => 0)) (205 + (30 + i).toNat) x + (rowTo (rowTo K3 250 256 (eva (K3 250))) (205 + (30 + i).toNat) 256 (fun _ => 0)) 250 x * (rowTo (rowTo K3 250 256 (eva (K3 250))) (205 + (30 + i).toNat) 256 (fun _ => 0)) 251 x) % 8380417)) u_481 := ((FR.row (p := fun a => a = 250 ∨ a = 252 ∨ 235 ≤ a ∧ a ≤ 242) (by omega) l5).tr (FR.row (p := fun a => a = 250 ∨ a = 252 ∨ 235 ≤ a ∧ a ≤ 242) (by omega) (fun _ _ _ => rfl)) (fun a x => ⟨x, x⟩)).tr (FR.row (p := fun a => a = 250 ∨ a = 252 ∨ 235 ≤ a ∧ a ≤ 242) (by omega) (fun _ _ _ => rfl)) (fun a x => ⟨x, x⟩)
          show AW l G M_Mo_dsaVerify P 484 [(5, vi c), (4, vi i), (0, vr 175)] [] (sD h (rowTo K3 250 256 (eva (K3 250))) u_481)
          refine aw_aload_n d_Mo_dsaVerify_484 rfl rfl ?_
          refine ax_getR (b := 204) d_Mo_dsaVerify_485 fd_Mo_76 (k_175 S) (r_175_28 S) ?_
          refine aw_bipush d_Mo_dsaVerify_488 ⟨by decide, by decide⟩ (by decide) ?_
          refine aw_iload d_Mo_dsaVerify_490 rfl ?_
          refine ax_iadd d_Mo_dsaVerify_492 ⟨(by omega), (by omega)⟩ ?_
          refine ax_aald (b := 205 + (30 + i).toNat) d_Mo_dsaVerify_493 ⟨by rw [(k_204 S)]; decide, by rw [(k_204 S)]; decide⟩ (by omega) (by rw [n_204 S]; omega) (g_204 S (by omega) (by omega)) ?_
          refine ax_S (st := []) (as := [vr (205 + (30 + i).toNat)]) (v := none) (h' := sD h (rowTo (rowTo K3 250 256 (eva (K3 250))) (205 + (30 + i).toNat) 256 (fun _ => 0)) u_481) d_Mo_dsaVerify_494 cs_Mo_dsaVerify_494 (c_Mo_clear ⟨kr_204 S (by omega), by omega, nr_204 S (by omega)⟩) rfl rfl rfl ?_
          show AW l G M_Mo_dsaVerify P 497 [(5, vi c), (4, vi i), (0, vr 175)] [] (sD h (rowTo (rowTo K3 250 256 (eva (K3 250))) (205 + (30 + i).toNat) 256 (fun _ => 0)) u_481)
          refine aw_aload_n d_Mo_dsaVerify_497 rfl rfl ?_
          refine ax_getR (b := 204) d_Mo_dsaVerify_498 fd_Mo_76 (k_175 S) (r_175_28 S) ?_
          refine aw_bipush d_Mo_dsaVerify_501 ⟨by decide, by decide⟩ (by decide) ?_
          refine aw_iload d_Mo_dsaVerify_503 rfl ?_
          refine ax_iadd d_Mo_dsaVerify_505 ⟨(by omega), (by omega)⟩ ?_
          refine ax_aald (b := 205 + (30 + i).toNat) d_Mo_dsaVerify_506 ⟨by rw [(k_204 S)]; decide, by rw [(k_204 S)]; decide⟩ (by omega) (by rw [n_204 S]; omega) (g_204 S (by omega) (by omega)) ?_
          refine aw_aload_n d_Mo_dsaVerify_507 rfl rfl ?_
          refine ax_getR (b := 204) d_Mo_dsaVerify_508 fd_Mo_76 (k_175 S) (r_175_28 S) ?_
          refine aw_bipush d_Mo_dsaVerify_511 ⟨by decide, by decide⟩ (by decide) ?_
          refine ax_aald (b := 250) d_Mo_dsaVerify_513 ⟨by rw [(k_204 S)]; decide, by rw [(k_204 S)]; decide⟩ (by omega) (by rw [n_204 S]; omega) (g_204 S (j := 45) (by decide) (by decide)) ?_
          refine aw_aload_n d_Mo_dsaVerify_514 rfl rfl ?_
          refine ax_getR (b := 204) d_Mo_dsaVerify_515 fd_Mo_76 (k_175 S) (r_175_28 S) ?_
          refine aw_bipush d_Mo_dsaVerify_518 ⟨by decide, by decide⟩ (by decide) ?_
          refine ax_aald (b := 251) d_Mo_dsaVerify_520 ⟨by rw [(k_204 S)]; decide, by rw [(k_204 S)]; decide⟩ (by omega) (by rw [n_204 S]; omega) (g_204 S (j := 46) (by decide) (by decide)) ?_
          refine ax_S (st := []) (as := [vr (205 + (30 + i).toNat), vr 250, vr 251]) (v := none) (h' := sD h (rowTo (rowTo (rowTo K3 250 256 (eva (K3 250))) (205 + (30 + i).toNat) 256 (fun _ => 0)) (205 + (30 + i).toNat) 256 (fun x => ((rowTo (rowTo K3 250 256 (eva (K3 250))) (205 + (30 + i).toNat) 256 (fun _ => 0)) (205 + (30 + i).toNat) x + (rowTo (rowTo K3 250 256 (eva (K3 250))) (205 + (30 + i).toNat) 256 (fun _ => 0)) 250 x * (rowTo (rowTo K3 250 256 (eva (K3 250))) (205 + (30 + i).toNat) 256 (fun _ => 0)) 251 x) % 8380417)) u_481) d_Mo_dsaVerify_521 cs_Mo_dsaVerify_521 (c_Mo_addProducts ⟨kr_204 S (by omega), by omega, nr_204 S (by omega)⟩ ⟨k_250 S, by decide, n_250 S⟩ ⟨k_251 S, by decide, n_251 S⟩ (fun x a b => by rw [rowTo_in a b]; decide) (fun x a b => by rw [rowTo_ne (by omega), rowTo_in a b]; exact eva_in) (fun x a b => by rw [rowTo_ne (by omega), rowTo_ne (by decide), F3.1 251 x (by decide) (Or.inl (by decide)), F2.1 251 x (by omega) (Or.inl (by decide)), hB x a b]; exact vfB_in x a b)) rfl rfl rfl ?_
          show AW l G M_Mo_dsaVerify P 524 [(5, vi c), (4, vi i), (0, vr 175)] [] (sD h (rowTo (rowTo (rowTo K3 250 256 (eva (K3 250))) (205 + (30 + i).toNat) 256 (fun _ => 0)) (205 + (30 + i).toNat) 256 (fun x => ((rowTo (rowTo K3 250 256 (eva (K3 250))) (205 + (30 + i).toNat) 256 (fun _ => 0)) (205 + (30 + i).toNat) x + (rowTo (rowTo K3 250 256 (eva (K3 250))) (205 + (30 + i).toNat) 256 (fun _ => 0)) 250 x * (rowTo (rowTo K3 250 256 (eva (K3 250))) (205 + (30 + i).toNat) 256 (fun _ => 0)) 251 x) % 8380417)) u_481)
          refine aw_iconst d_Mo_dsaVerify_524 ⟨by decide, by decide⟩ ?_
          refine aw_istore (lv' := [(5, vi 0), (4, vi i), (0, vr 175)]) d_Mo_dsaVerify_525 (by decide) rfl ?_
          have lp_527 : ∀ (n_ : Nat) (j : Int) (K4 : Nat → Int → Int) (M4 : Nat → Int → Int), (0 ≤ j ∧ j ≤ 7) → (FR (fun a => a = 205 + (30 + i).toNat ∨ a = 252) (rowTo (rowTo (rowTo K3 250 256 (eva (K3 250))) (205 + (30 + i).toNat) 256 (fun _ => 0)) (205 + (30 + i).toNat) 256 (fun x => ((rowTo (rowTo K3 250 256 (eva (K3 250))) (205 + (30 + i).toNat) 256 (fun _ => 0)) (205 + (30 + i).toNat) x + (rowTo (rowTo K3 250 256 (eva (K3 250))) (205 + (30 + i).toNat) 256 (fun _ => 0)) 250 x * (rowTo (rowTo K3 250 256 (eva (K3 250))) (205 + (30 + i).toNat) 256 (fun _ => 0)) 251 x) % 8380417)) u_481 K4 M4) → (∀ x, 0 ≤ x → x < 256 → K4 (205 + (30 + i).toNat) x = (eva (K3 250) x * (vfB 2 (rgR I)) x + pS (sgA 2 (rpR I)) (fun j => fwd rt ((vfZ 2 (rgR I)) j)) (i * 7) x j.toNat) % 8380417) → (∀ m, 0 ≤ m → m < j → (wide (rpR I) m i).2.1 = 256) → (K4 175 4 = 0) → (K4 175 23 = 8 * (320 * i) + 10 * 256) → ((7 - j).toNat) = n_ → AW l G M_Mo_dsaVerify P 527 [(5, vi j), (4, vi i), (0, vr 175)] [] (sD h K4 M4) := by
            intro n_
            induction n_ using Nat.strongRecOn with
            | _ n_ ih_527 =>
            intro j K4 M4 hj F4 r4 okJ h44 b4 hm_527
            have z4 : ∀ a j, (a ≠ 205 + (30 + i).toNat ∧ a ≠ 252 ∧ a ≠ 250 ∧ a < 235) → a ≠ 175 → K4 a j = K2 a j := fun a x y z => by rw [F4.1 _ _ (by omega) (Or.inl z), rowTo_ne (by omega), rowTo_ne (by omega), rowTo_ne (by omega), F3.1 _ _ (by omega) (Or.inl z)]
            have pk4 : ∀ x, K4 179 x = I 179 x := fun x => (z4 179 x (by omega) (by decide)).trans (pk2 x)
            have D4 := (D3.fr F3b (by omega)).fr F4 (by omega)
            refine aw_iload d_Mo_dsaVerify_527 rfl ?_
            refine aw_aload_n d_Mo_dsaVerify_529 rfl rfl ?_
            refine ax_getIe (x := 7) d_Mo_dsaVerify_530 fd_Mo_226 (k_175 S) (Eq.trans (F4.1 175 32 (by omega) (Or.inr (by decide))) (Eq.trans (rowTo_ne (by omega)) (Eq.trans (rowTo_ne (by omega)) (Eq.trans (rowTo_ne (by omega)) (Eq.trans (F3.1 175 32 (by omega) (Or.inr (by decide))) (Eq.trans (F2.1 175 32 (by omega) (Or.inr (by decide))) (dr2_32 D))))))) ?_
            refine aw_icmp_ge (tgt := 601) d_Mo_dsaVerify_533 (by decide) (fun c_533 => ?_) (fun c_533 => ?_)
            · skip
              refine aw_aload_n d_Mo_dsaVerify_601 rfl rfl ?_
              refine aw_aload_n d_Mo_dsaVerify_602 rfl rfl ?_
              refine ax_getR (b := 204) d_Mo_dsaVerify_603 fd_Mo_76 (k_175 S) (r_175_28 S) ?_
              refine aw_bipush d_Mo_dsaVerify_606 ⟨by decide, by decide⟩ (by decide) ?_
              refine aw_iload d_Mo_dsaVerify_608 rfl ?_
              refine ax_iadd d_Mo_dsaVerify_610 ⟨(by omega), (by omega)⟩ ?_
              refine ax_aald (b := 205 + (30 + i).toNat) d_Mo_dsaVerify_611 ⟨by rw [(k_204 S)]; decide, by rw [(k_204 S)]; decide⟩ (by omega) (by rw [n_204 S]; omega) (g_204 S (by omega) (by omega)) ?_
              refine ax_Vr (st := []) (as := [vr (205 + (30 + i).toNat)]) (b := 175) d_Mo_dsaVerify_612 cs_Mo_dsaVerify_612 (k_175 S) (c_Mo_interpolate S ⟨kr_204 S (by omega), by omega, nr_204 S (by omega)⟩ (by omega) (fun x a b => by rw [r4 x a b]; show 0 ≤ _ % 8380417 ∧ _ % 8380417 < 8380417; exact ⟨Int.emod_nonneg _ (by decide), Int.emod_lt_of_pos _ (by decide)⟩) D4.2.2) rfl rfl rfl (fun u_612 q_612 => ?_)
              have l7 := q_612
              have w7 : eqQ ((rowTo K4 (205 + (30 + i).toNat) 256 (itp (K4 (205 + (30 + i).toNat)))) (205 + (30 + i).toNat)) ((vfW 2 (rpR I) (rgR I)) i) := fun x a b => by rw [rowTo_in a b]; show itp _ x = bck rt (fun c => (pS (sgA 2 (rpR I)) (fun j => fwd rt ((vfZ 2 (rgR I)) j)) (i * 7) c 7 % 8380417 - (vfB 2 (rgR I)) c * fwd rt (tpF (rpR I) i) c % 8380417) % 8380417) x; rw [bck_itp a b]; exact itp_cq (fun y hy => by rw [r4 y (by omega) (by omega), show j.toNat = 7 by omega]; exact vsum (ng y (by omega) (by omega)))
              show AW l G M_Mo_dsaVerify P 615 [(5, vi j), (4, vi i), (0, vr 175)] [] (sD h (rowTo K4 (205 + (30 + i).toNat) 256 (itp (K4 (205 + (30 + i).toNat)))) u_612)
              refine aw_ldcw (n := 8380416) d_Mo_dsaVerify_615 lc_Mo_279 ⟨by decide, by decide⟩ ?_
              refine aw_iconst d_Mo_dsaVerify_618 ⟨by decide, by decide⟩ ?_
              refine aw_aload_n d_Mo_dsaVerify_619 rfl rfl ?_
              refine ax_getIe (x := 261888) d_Mo_dsaVerify_620 fd_Mo_242 (k_175 S) (Eq.trans (rowTo_ne (by omega)) (Eq.trans (F4.1 175 36 (by omega) (Or.inr (by decide))) (Eq.trans (rowTo_ne (by omega)) (Eq.trans (rowTo_ne (by omega)) (Eq.trans (rowTo_ne (by omega)) (Eq.trans (F3.1 175 36 (by omega) (Or.inr (by decide))) (Eq.trans (F2.1 175 36 (by omega) (Or.inr (by decide))) (dr2_36 D)))))))) ?_
              refine ax_imul d_Mo_dsaVerify_623 ⟨(by omega), (by omega)⟩ ?_
              refine ax_ti (x := 523776) (by decide) ?_
              refine ax_idiv d_Mo_dsaVerify_624 ⟨(by omega), (by omega)⟩ (by omega) ?_
              refine ax_ti (x := 16) (by decide) ?_
              refine aw_istore (lv' := [(5, vi 16), (4, vi i), (0, vr 175)]) d_Mo_dsaVerify_625 (by decide) rfl ?_
              refine aw_iconst d_Mo_dsaVerify_627 ⟨by decide, by decide⟩ ?_
              refine aw_istore (lv' := [(6, vi 0), (5, vi 16), (4, vi i), (0, vr 175)]) d_Mo_dsaVerify_628 (by decide) rfl ?_
              have lp_630 : ∀ (n_ : Nat) (c : Int) (K7 : Nat → Int → Int), (0 ≤ c ∧ c ≤ 256) → (FR (fun a => a = 205 + (30 + i).toNat) (rowTo K4 (205 + (30 + i).toNat) 256 (itp (K4 (205 + (30 + i).toNat)))) u_612 K7 u_612) → (∀ a x, a ≠ 205 + (30 + i).toNat → K7 a x = (rowTo K4 (205 + (30 + i).toNat) 256 (itp (K4 (205 + (30 + i).toNat)))) a x) → ((∀ x, 0 ≤ x → x < c → K7 (205 + (30 + i).toNat) x = hvV (rgR I) 4544 75 261888 16 i x ((vfW 2 (rpR I) (rgR I)) i x)) ∧ ∀ x, c ≤ x → x < 256 → K7 (205 + (30 + i).toNat) x = (vfW 2 (rpR I) (rgR I)) i x) → ((256 - c).toNat) = n_ → AW l G M_Mo_dsaVerify P 630 [(6, vi c), (5, vi 16), (4, vi i), (0, vr 175)] [] (sD h K7 u_612) := by
                intro n_
                induction n_ using Nat.strongRecOn with
                | _ n_ ih_630 =>
                intro c K7 hc7 F7 F7f r7 hm_630
                have gp7 : K7 175 36 = 261888 := by rw [F7f 175 36 (by omega), rowTo_ne (by omega)]; exact dr2_36 D4
                have tb7 : c < 256 → (K7 (254 + i.toNat) c = 0 ∨ K7 (254 + i.toNat) c = 1) ∧ (K7 (254 + i.toNat) c = 1 ↔ hin (rgR I) 4544 75 i c) := fun v => by rw [show K7 (254 + i.toNat) c = K (254 + i.toNat) c from by rw [F7f _ _ (by omega), rowTo_ne (by omega), F4.1 _ _ (by omega) (Or.inl (by omega)), rowTo_ne (by omega), rowTo_ne (by omega), rowTo_ne (by omega), F3.1 _ _ (by omega) (Or.inl (by omega)), F2.1 _ _ (by omega) (Or.inl (by omega))]]; exact tb i hi.1 (by omega) c hc7.1 v
                refine aw_iload d_Mo_dsaVerify_630 rfl ?_
                refine aw_sipush d_Mo_dsaVerify_632 ⟨by decide, by decide⟩ (by decide) ?_
                refine aw_icmp_ge (tgt := 726) d_Mo_dsaVerify_635 (by decide) (fun c_635 => ?_) (fun c_635 => ?_)
                · skip
                  refine ax_iinc (lv' := [(4, vi (i + 1)), (6, vi c), (5, vi 16), (0, vr 175)]) d_Mo_dsaVerify_726 rfl (by decide) ⟨(by omega), (by omega)⟩ rfl ?_
                  refine aw_goto (tgt := 405) d_Mo_dsaVerify_729 (by decide) ?_
                  refine aw_sub (lv' := [(4, vi (i + 1)), (0, vr 175)]) (by simp) ?_
                  exact ih_405 _ (by omega) (i + 1) K7 u_612 (by omega) (((((F2.tr (F3.mono (r := fun a => a = 250 ∨ a = 252 ∨ 235 ≤ a ∧ a ≤ 242) (by intro a x; omega)) (fun a x => ⟨x, x⟩)).tr F3b (fun a x => ⟨x, x⟩)).tr (F4.mono (r := fun a => a = 250 ∨ a = 252 ∨ 235 ≤ a ∧ a ≤ 242) (by intro a x; omega)) (fun a x => ⟨x, x⟩)).tr (FR.row (p := fun a => a = 250 ∨ a = 252 ∨ 235 ≤ a ∧ a ≤ 242) (by omega) l7) (fun a x => ⟨x, x⟩)).tr (F7.mono (r := fun a => a = 250 ∨ a = 252 ∨ 235 ≤ a ∧ a ≤ 242) (by intro a x; omega)) (fun a x => ⟨x, x⟩)) (by rw [F7f 175 23 (by omega), rowTo_ne (by omega), b4]; omega) (fun m a b x u v => by by_cases z : m = i; exact (by rw [z]; exact r7.1 x u (by omega)); exact (by rw [F7f _ _ (by omega), rowTo_ne (by omega), F4.1 _ _ (by omega) (Or.inl (by omega)), rowTo_ne (by omega), rowTo_ne (by omega), rowTo_ne (by omega), F3.1 _ _ (by omega) (Or.inl (by omega))]; exact dn m a (by omega) x u v)) (fun m a b => by by_cases v : m < 7 * i; exact okA m a v; exact (by have w_ := okJ (m - 7 * i) (by omega) (by omega); rw [show m % 7 = m - 7 * i by omega, show m / 7 = i by omega]; exact w_)) (by rw [F7f 175 4 (by omega), rowTo_ne (by omega)]; exact h44) rfl
                · skip
                  have wr := vfW_in (s := 2) (pk := (rpR I)) (g := (rgR I)) (m := i) c hc7.1 (by omega)
                  have hb_ := dHi16 wr
                  refine aw_aload_n d_Mo_dsaVerify_638 rfl rfl ?_
                  refine ax_getR (b := 204) d_Mo_dsaVerify_639 fd_Mo_76 (k_175 S) (r_175_28 S) ?_
                  refine aw_bipush d_Mo_dsaVerify_642 ⟨by decide, by decide⟩ (by decide) ?_
                  refine aw_iload d_Mo_dsaVerify_644 rfl ?_
                  refine ax_iadd d_Mo_dsaVerify_646 ⟨(by omega), (by omega)⟩ ?_
                  refine ax_aald (b := 205 + (30 + i).toNat) d_Mo_dsaVerify_647 ⟨by rw [(k_204 S)]; decide, by rw [(k_204 S)]; decide⟩ (by omega) (by rw [n_204 S]; omega) (g_204 S (by omega) (by omega)) ?_
                  refine aw_iload d_Mo_dsaVerify_648 rfl ?_
                  refine ax_ialde (x := (vfW 2 (rpR I) (rgR I)) i c) d_Mo_dsaVerify_650 (kr_204 S (by omega)) (by omega) (by rw [nr_204 S (by omega)]; omega) (r7.2 c (Int.le_refl _) (by omega)) ?_
                  refine aw_istore (lv' := [(7, vi ((vfW 2 (rpR I) (rgR I)) i c)), (6, vi c), (5, vi 16), (4, vi i), (0, vr 175)]) d_Mo_dsaVerify_651 (by decide) rfl ?_
                  refine aw_aload_n d_Mo_dsaVerify_653 rfl rfl ?_
                  refine aw_iload d_Mo_dsaVerify_654 rfl ?_
                  refine ax_V (st := []) (as := [vi ((vfW 2 (rpR I) (rgR I)) i c)]) (b := 175) (v := some (vi (dHigh 261888 ((vfW 2 (rpR I) (rgR I)) i c)))) (h' := sD h K7 u_612) d_Mo_dsaVerify_656 cs_Mo_dsaVerify_656 (k_175 S) (by have z := c_Mo_high (l := l) (G := G) (L := u_612) (I := K7) (r := (vfW 2 (rpR I) (rgR I)) i c) S (by rw [gp7]; decide) wr; rw [gp7] at z; exact z) rfl rfl rfl ?_
                  show AW l G M_Mo_dsaVerify P 659 [(7, vi ((vfW 2 (rpR I) (rgR I)) i c)), (6, vi c), (5, vi 16), (4, vi i), (0, vr 175)] [vi (dHigh 261888 ((vfW 2 (rpR I) (rgR I)) i c))] (sD h K7 u_612)
                  refine aw_istore (lv' := [(8, vi (dHigh 261888 ((vfW 2 (rpR I) (rgR I)) i c))), (7, vi ((vfW 2 (rpR I) (rgR I)) i c)), (6, vi c), (5, vi 16), (4, vi i), (0, vr 175)]) d_Mo_dsaVerify_659 (by decide) rfl ?_
                  refine aw_aload_n d_Mo_dsaVerify_661 rfl rfl ?_
                  refine ax_getR (b := 253) d_Mo_dsaVerify_662 fd_Mo_81 (k_175 S) (r_175_29 S) ?_
                  refine aw_iload d_Mo_dsaVerify_665 rfl ?_
                  refine ax_aald (b := 254 + i.toNat) d_Mo_dsaVerify_667 ⟨by rw [(k_253 S)]; decide, by rw [(k_253 S)]; decide⟩ (by omega) (by rw [n_253 S]; omega) (g_253 S (by omega) (by omega)) ?_
                  refine aw_iload d_Mo_dsaVerify_668 rfl ?_
                  refine ax_zalde (x := K7 (254 + i.toNat) c) d_Mo_dsaVerify_670 (kr_253 S (by omega)) (by omega) (by rw [nr_253 S (by omega)]; omega) (rfl) ?_
                  refine aw_if_eq (tgt := 705) d_Mo_dsaVerify_671 (by decide) (fun c_671 => ?_) (fun c_671 => ?_)
                  · skip
                    refine aw_aload_n d_Mo_dsaVerify_705 rfl rfl ?_
                    refine ax_getR (b := 204) d_Mo_dsaVerify_706 fd_Mo_76 (k_175 S) (r_175_28 S) ?_
                    refine aw_bipush d_Mo_dsaVerify_709 ⟨by decide, by decide⟩ (by decide) ?_
                    refine aw_iload d_Mo_dsaVerify_711 rfl ?_
                    refine ax_iadd d_Mo_dsaVerify_713 ⟨(by omega), (by omega)⟩ ?_
                    refine ax_aald (b := 205 + (30 + i).toNat) d_Mo_dsaVerify_714 ⟨by rw [(k_204 S)]; decide, by rw [(k_204 S)]; decide⟩ (by omega) (by rw [n_204 S]; omega) (g_204 S (by omega) (by omega)) ?_
                    refine aw_iload d_Mo_dsaVerify_715 rfl ?_
                    refine aw_iload d_Mo_dsaVerify_717 rfl ?_
                    refine ax_iast d_Mo_dsaVerify_719 (kr_204 S (by omega)) (by omega) (by omega) (by rw [nr_204 S (by omega)]; omega) ?_
                    refine ax_iinc (lv' := [(6, vi (c + 1)), (8, vi (dHigh 261888 ((vfW 2 (rpR I) (rgR I)) i c))), (7, vi ((vfW 2 (rpR I) (rgR I)) i c)), (5, vi 16), (4, vi i), (0, vr 175)]) d_Mo_dsaVerify_720 rfl (by decide) ⟨(by omega), (by omega)⟩ rfl ?_
                    refine aw_goto (tgt := 630) d_Mo_dsaVerify_723 (by decide) ?_
                    refine aw_sub (lv' := [(6, vi (c + 1)), (5, vi 16), (4, vi i), (0, vr 175)]) (by simp) ?_
                    exact ih_630 _ (by omega) (c + 1) (a_up K7 (205 + (30 + i).toNat) c (dHigh 261888 ((vfW 2 (rpR I) (rgR I)) i c))) (by omega) (F7.tr (FR.up (p := fun a => a = 205 + (30 + i).toNat) rfl) (fun a x => ⟨x, x⟩)) (fun a x y => (a_up_ne (Or.inl y)).trans (F7f a x y)) (⟨fun x a b => by by_cases z : x = c; exact (by rw [z, a_up_at]; exact (hvV_n (fun z => by have y := (tb7 (by omega)).2.2 z; omega)).symm); exact (by rw [a_up_ne (Or.inr z)]; exact r7.1 x a (by omega)), fun x a b => by rw [a_up_ne (Or.inr (by omega))]; exact r7.2 x (by omega) b⟩) rfl
                  · skip
                    refine aw_aload_n d_Mo_dsaVerify_674 rfl rfl ?_
                    refine aw_iload d_Mo_dsaVerify_675 rfl ?_
                    refine ax_V (st := []) (as := [vi ((vfW 2 (rpR I) (rgR I)) i c)]) (b := 175) (v := some (vi (dLow 261888 ((vfW 2 (rpR I) (rgR I)) i c)))) (h' := sD h K7 u_612) d_Mo_dsaVerify_677 cs_Mo_dsaVerify_677 (k_175 S) (by have z := c_Mo_low (l := l) (G := G) (L := u_612) (I := K7) (r := (vfW 2 (rpR I) (rgR I)) i c) S (by rw [gp7]; decide) wr; rw [gp7] at z; exact z) rfl rfl rfl ?_
                    show AW l G M_Mo_dsaVerify P 680 [(8, vi (dHigh 261888 ((vfW 2 (rpR I) (rgR I)) i c))), (7, vi ((vfW 2 (rpR I) (rgR I)) i c)), (6, vi c), (5, vi 16), (4, vi i), (0, vr 175)] [vi (dLow 261888 ((vfW 2 (rpR I) (rgR I)) i c))] (sD h K7 u_612)
                    refine aw_if_le (tgt := 693) d_Mo_dsaVerify_680 (by decide) (fun c_680 => ?_) (fun c_680 => ?_)
                    · skip
                      refine aw_iload d_Mo_dsaVerify_693 rfl ?_
                      refine aw_iload d_Mo_dsaVerify_695 rfl ?_
                      refine ax_iadd d_Mo_dsaVerify_697 ⟨(by omega), (by omega)⟩ ?_
                      refine aw_iconst d_Mo_dsaVerify_698 ⟨by decide, by decide⟩ ?_
                      refine ax_isub d_Mo_dsaVerify_699 ⟨(by omega), (by omega)⟩ ?_
                      refine aw_iload d_Mo_dsaVerify_700 rfl ?_
                      refine ax_irem d_Mo_dsaVerify_702 (by omega) (by omega) ?_
                      refine aw_istore (lv' := [(8, vi ((((dHigh 261888 ((vfW 2 (rpR I) (rgR I)) i c)) + 16) - 1) % 16)), (7, vi ((vfW 2 (rpR I) (rgR I)) i c)), (6, vi c), (5, vi 16), (4, vi i), (0, vr 175)]) d_Mo_dsaVerify_703 (by decide) rfl ?_
                      refine aw_aload_n d_Mo_dsaVerify_705 rfl rfl ?_
                      refine ax_getR (b := 204) d_Mo_dsaVerify_706 fd_Mo_76 (k_175 S) (r_175_28 S) ?_
                      refine aw_bipush d_Mo_dsaVerify_709 ⟨by decide, by decide⟩ (by decide) ?_
                      refine aw_iload d_Mo_dsaVerify_711 rfl ?_
                      refine ax_iadd d_Mo_dsaVerify_713 ⟨(by omega), (by omega)⟩ ?_
                      refine ax_aald (b := 205 + (30 + i).toNat) d_Mo_dsaVerify_714 ⟨by rw [(k_204 S)]; decide, by rw [(k_204 S)]; decide⟩ (by omega) (by rw [n_204 S]; omega) (g_204 S (by omega) (by omega)) ?_
                      refine aw_iload d_Mo_dsaVerify_715 rfl ?_
                      refine aw_iload d_Mo_dsaVerify_717 rfl ?_
                      refine ax_iast d_Mo_dsaVerify_719 (kr_204 S (by omega)) (by omega) (by omega) (by rw [nr_204 S (by omega)]; omega) ?_
                      refine ax_iinc (lv' := [(6, vi (c + 1)), (8, vi ((((dHigh 261888 ((vfW 2 (rpR I) (rgR I)) i c)) + 16) - 1) % 16)), (7, vi ((vfW 2 (rpR I) (rgR I)) i c)), (5, vi 16), (4, vi i), (0, vr 175)]) d_Mo_dsaVerify_720 rfl (by decide) ⟨(by omega), (by omega)⟩ rfl ?_
                      refine aw_goto (tgt := 630) d_Mo_dsaVerify_723 (by decide) ?_
                      refine aw_sub (lv' := [(6, vi (c + 1)), (5, vi 16), (4, vi i), (0, vr 175)]) (by simp) ?_
                      exact ih_630 _ (by omega) (c + 1) (a_up K7 (205 + (30 + i).toNat) c ((((dHigh 261888 ((vfW 2 (rpR I) (rgR I)) i c)) + 16) - 1) % 16)) (by omega) (F7.tr (FR.up (p := fun a => a = 205 + (30 + i).toNat) rfl) (fun a x => ⟨x, x⟩)) (fun a x y => (a_up_ne (Or.inl y)).trans (F7f a x y)) (⟨fun x a b => by by_cases z : x = c; exact (by rw [z, a_up_at]; rw [hvV_y ((tb7 (by omega)).2.1 (by have y := (tb7 (by omega)).1; omega)), hh_n (by omega)]); exact (by rw [a_up_ne (Or.inr z)]; exact r7.1 x a (by omega)), fun x a b => by rw [a_up_ne (Or.inr (by omega))]; exact r7.2 x (by omega) b⟩) rfl
                    · skip
                      refine aw_iload d_Mo_dsaVerify_683 rfl ?_
                      refine aw_iconst d_Mo_dsaVerify_685 ⟨by decide, by decide⟩ ?_
                      refine ax_iadd d_Mo_dsaVerify_686 ⟨(by omega), (by omega)⟩ ?_
                      refine aw_iload d_Mo_dsaVerify_687 rfl ?_
                      refine ax_irem d_Mo_dsaVerify_689 (by omega) (by omega) ?_
                      refine aw_goto (tgt := 703) d_Mo_dsaVerify_690 (by decide) ?_
                      refine aw_istore (lv' := [(8, vi (((dHigh 261888 ((vfW 2 (rpR I) (rgR I)) i c)) + 1) % 16)), (7, vi ((vfW 2 (rpR I) (rgR I)) i c)), (6, vi c), (5, vi 16), (4, vi i), (0, vr 175)]) d_Mo_dsaVerify_703 (by decide) rfl ?_
                      refine aw_aload_n d_Mo_dsaVerify_705 rfl rfl ?_
                      refine ax_getR (b := 204) d_Mo_dsaVerify_706 fd_Mo_76 (k_175 S) (r_175_28 S) ?_
                      refine aw_bipush d_Mo_dsaVerify_709 ⟨by decide, by decide⟩ (by decide) ?_
                      refine aw_iload d_Mo_dsaVerify_711 rfl ?_
                      refine ax_iadd d_Mo_dsaVerify_713 ⟨(by omega), (by omega)⟩ ?_
                      refine ax_aald (b := 205 + (30 + i).toNat) d_Mo_dsaVerify_714 ⟨by rw [(k_204 S)]; decide, by rw [(k_204 S)]; decide⟩ (by omega) (by rw [n_204 S]; omega) (g_204 S (by omega) (by omega)) ?_
                      refine aw_iload d_Mo_dsaVerify_715 rfl ?_
                      refine aw_iload d_Mo_dsaVerify_717 rfl ?_
                      refine ax_iast d_Mo_dsaVerify_719 (kr_204 S (by omega)) (by omega) (by omega) (by rw [nr_204 S (by omega)]; omega) ?_
                      refine ax_iinc (lv' := [(6, vi (c + 1)), (8, vi (((dHigh 261888 ((vfW 2 (rpR I) (rgR I)) i c)) + 1) % 16)), (7, vi ((vfW 2 (rpR I) (rgR I)) i c)), (5, vi 16), (4, vi i), (0, vr 175)]) d_Mo_dsaVerify_720 rfl (by decide) ⟨(by omega), (by omega)⟩ rfl ?_
                      refine aw_goto (tgt := 630) d_Mo_dsaVerify_723 (by decide) ?_
                      refine aw_sub (lv' := [(6, vi (c + 1)), (5, vi 16), (4, vi i), (0, vr 175)]) (by simp) ?_
                      exact ih_630 _ (by omega) (c + 1) (a_up K7 (205 + (30 + i).toNat) c (((dHigh 261888 ((vfW 2 (rpR I) (rgR I)) i c)) + 1) % 16)) (by omega) (F7.tr (FR.up (p := fun a => a = 205 + (30 + i).toNat) rfl) (fun a x => ⟨x, x⟩)) (fun a x y => (a_up_ne (Or.inl y)).trans (F7f a x y)) (⟨fun x a b => by by_cases z : x = c; exact (by rw [z, a_up_at]; rw [hvV_y ((tb7 (by omega)).2.1 (by have y := (tb7 (by omega)).1; omega)), hh_y (by omega)]); exact (by rw [a_up_ne (Or.inr z)]; exact r7.1 x a (by omega)), fun x a b => by rw [a_up_ne (Or.inr (by omega))]; exact r7.2 x (by omega) b⟩) rfl
              skip
              exact lp_630 _ 0 (rowTo K4 (205 + (30 + i).toNat) 256 (itp (K4 (205 + (30 + i).toNat)))) (by omega) (FR.rfl') (fun _ _ _ => rfl) (⟨fun x a b => by omega, fun x a b => w7 x (by omega) b⟩) rfl
            · skip
              refine aw_aload_n d_Mo_dsaVerify_536 rfl rfl ?_
              refine aw_aload_n d_Mo_dsaVerify_537 rfl rfl ?_
              refine aw_aload_n d_Mo_dsaVerify_538 rfl rfl ?_
              refine ax_getR (b := 204) d_Mo_dsaVerify_539 fd_Mo_76 (k_175 S) (r_175_28 S) ?_
              refine aw_bipush d_Mo_dsaVerify_542 ⟨by decide, by decide⟩ (by decide) ?_
              refine ax_aald (b := 252) d_Mo_dsaVerify_544 ⟨by rw [(k_204 S)]; decide, by rw [(k_204 S)]; decide⟩ (by omega) (by rw [n_204 S]; omega) (g_204 S (j := 47) (by decide) (by decide)) ?_
              refine aw_aload_n d_Mo_dsaVerify_545 rfl rfl ?_
              refine ax_getR (b := 177) d_Mo_dsaVerify_546 fd_Mo_15 (k_175 S) (r_175_1 S) ?_
              refine aw_iconst d_Mo_dsaVerify_549 ⟨by decide, by decide⟩ ?_
              refine ax_aald (b := 179) d_Mo_dsaVerify_550 ⟨by rw [(k_177 S)]; decide, by rw [(k_177 S)]; decide⟩ (by omega) (by rw [n_177 S]; omega) (g_177 S (j := 1) (by decide) (by decide)) ?_
              refine aw_iconst d_Mo_dsaVerify_551 ⟨by decide, by decide⟩ ?_
              refine aw_iload d_Mo_dsaVerify_552 rfl ?_
              refine aw_iload d_Mo_dsaVerify_554 rfl ?_
              refine ax_Vr (st := [vr 175]) (as := [vr 252, vr 179, vi 0, vi j, vi i]) (b := 175) d_Mo_dsaVerify_556 cs_Mo_dsaVerify_556 (k_175 S) (by have z := c_Mo_sampleWide (l := l) (G := G) (I := K4) (L := M4) (f := 252) (r := 179) (pa := 0) (x := j) (y := i) S D4.1 ⟨k_252 S, by decide, n_252 S⟩ (by decide) ⟨k_179 S, by decide, by decide⟩ (by rw [n_179 S]; decide); rw [wide_pk pk4 b2 (by decide)] at z; exact z) rfl rfl rfl (fun u_556 q_556 => ?_)
              obtain ⟨I6, L6⟩ := u_556
              obtain ⟨f6, r6⟩ := q_556
              dsimp only at f6 r6 ⊢
              by_cases ok_556 : (wide (rpR I) j i).2.1 = 256
              · skip
                rw [if_pos ok_556]
                show AW l G M_Mo_dsaVerify P 559 [(5, vi j), (4, vi i), (0, vr 175)] [vi 1, vr 175] (sD h I6 L6)
                refine aw_iconst d_Mo_dsaVerify_559 ⟨by decide, by decide⟩ ?_
                refine ax_V (st := []) (as := [vi 1, vi 4]) (b := 175) (v := some (vi 1)) (h' := sD h (a_up I6 175 4 0) L6) d_Mo_dsaVerify_560 cs_Mo_dsaVerify_560 (k_175 S) (c_good1 S rfl) rfl rfl rfl ?_
                show AW l G M_Mo_dsaVerify P 563 [(5, vi j), (4, vi i), (0, vr 175)] [vi 1] (sD h (a_up I6 175 4 0) L6)
                refine aw_if_ne (tgt := 568) d_Mo_dsaVerify_563 (by decide) (fun c_563 => ?_) (fun c_563 => False.elim (by omega))
                refine aw_aload_n d_Mo_dsaVerify_568 rfl rfl ?_
                refine ax_getR (b := 204) d_Mo_dsaVerify_569 fd_Mo_76 (k_175 S) (r_175_28 S) ?_
                refine aw_bipush d_Mo_dsaVerify_572 ⟨by decide, by decide⟩ (by decide) ?_
                refine aw_iload d_Mo_dsaVerify_574 rfl ?_
                refine ax_iadd d_Mo_dsaVerify_576 ⟨(by omega), (by omega)⟩ ?_
                refine ax_aald (b := 205 + (30 + i).toNat) d_Mo_dsaVerify_577 ⟨by rw [(k_204 S)]; decide, by rw [(k_204 S)]; decide⟩ (by omega) (by rw [n_204 S]; omega) (g_204 S (by omega) (by omega)) ?_
                refine aw_aload_n d_Mo_dsaVerify_578 rfl rfl ?_
                refine ax_getR (b := 204) d_Mo_dsaVerify_579 fd_Mo_76 (k_175 S) (r_175_28 S) ?_
                refine aw_bipush d_Mo_dsaVerify_582 ⟨by decide, by decide⟩ (by decide) ?_
                refine ax_aald (b := 252) d_Mo_dsaVerify_584 ⟨by rw [(k_204 S)]; decide, by rw [(k_204 S)]; decide⟩ (by omega) (by rw [n_204 S]; omega) (g_204 S (j := 47) (by decide) (by decide)) ?_
                refine aw_aload_n d_Mo_dsaVerify_585 rfl rfl ?_
                refine ax_getR (b := 204) d_Mo_dsaVerify_586 fd_Mo_76 (k_175 S) (r_175_28 S) ?_
                refine aw_iload d_Mo_dsaVerify_589 rfl ?_
                refine ax_aald (b := 205 + j.toNat) d_Mo_dsaVerify_591 ⟨by rw [(k_204 S)]; decide, by rw [(k_204 S)]; decide⟩ (by omega) (by rw [n_204 S]; omega) (g_204 S (by omega) (by omega)) ?_
                refine ax_S (st := []) (as := [vr (205 + (30 + i).toNat), vr 252, vr (205 + j.toNat)]) (v := none) (h' := sD h (rowTo (a_up I6 175 4 0) (205 + (30 + i).toNat) 256 (fun x => ((a_up I6 175 4 0) (205 + (30 + i).toNat) x + (a_up I6 175 4 0) 252 x * (a_up I6 175 4 0) (205 + j.toNat) x) % 8380417)) L6) d_Mo_dsaVerify_592 cs_Mo_dsaVerify_592 (c_Mo_addProducts ⟨kr_204 S (by omega), by omega, nr_204 S (by omega)⟩ ⟨k_252 S, by decide, n_252 S⟩ ⟨kr_204 S (by omega), by omega, nr_204 S (by omega)⟩ (fun x a b => by rw [a_up_ne (Or.inl (by omega)), f6.1 _ x (Or.inl (by omega)) (by omega), r4 x a b]; show 0 ≤ _ % 8380417 ∧ _ % 8380417 < 8380417; exact ⟨Int.emod_nonneg _ (by decide), Int.emod_lt_of_pos _ (by decide)⟩) (fun x a b => by rw [a_up_ne (Or.inl (by decide)), r6 x a (by rw [ok_556]; exact b)]; exact wide_b.2 x) (fun x a b => by rw [a_up_ne (Or.inl (by omega)), f6.1 _ x (Or.inl (by omega)) (by omega), z4 _ x (by omega) (by omega), F2.1 _ x (by omega) (Or.inl (by omega)), hZ j hj.1 (by omega) x a b]; exact fwd_in vfZ_in x a b)) rfl rfl rfl ?_
                show AW l G M_Mo_dsaVerify P 595 [(5, vi j), (4, vi i), (0, vr 175)] [] (sD h (rowTo (a_up I6 175 4 0) (205 + (30 + i).toNat) 256 (fun x => ((a_up I6 175 4 0) (205 + (30 + i).toNat) x + (a_up I6 175 4 0) 252 x * (a_up I6 175 4 0) (205 + j.toNat) x) % 8380417)) L6)
                refine ax_iinc (lv' := [(5, vi (j + 1)), (4, vi i), (0, vr 175)]) d_Mo_dsaVerify_595 rfl (by decide) ⟨(by omega), (by omega)⟩ rfl ?_
                refine aw_goto (tgt := 527) d_Mo_dsaVerify_598 (by decide) ?_
                exact ih_527 _ (by omega) (j + 1) (rowTo (a_up I6 175 4 0) (205 + (30 + i).toNat) 256 (fun x => ((a_up I6 175 4 0) (205 + (30 + i).toNat) x + (a_up I6 175 4 0) 252 x * (a_up I6 175 4 0) (205 + j.toNat) x) % 8380417)) L6 (by omega) (((F4.tr (FR.smp (p := fun a => a = 205 + (30 + i).toNat ∨ a = 252) f6 (by omega)) (fun a x => ⟨x, x⟩)).tr (FR.c0 (p := fun a => a = 205 + (30 + i).toNat ∨ a = 252)) (fun a x => ⟨x, x⟩)).tr (FR.row (p := fun a => a = 205 + (30 + i).toNat ∨ a = 252) (by omega) (fun _ _ _ => rfl)) (fun a x => ⟨x, x⟩)) (fun x a b => by rw [rowTo_in a b, a_up_ne (Or.inl (by omega)), a_up_ne (Or.inl (by decide)), a_up_ne (Or.inl (by omega)), f6.1 _ x (Or.inl (by omega)) (by omega), r4 x a b, r6 x a (by rw [ok_556]; exact b), f6.1 _ x (Or.inl (by omega)) (by omega), z4 _ x (by omega) (by omega), F2.1 _ x (by omega) (Or.inl (by omega)), hZ j hj.1 (by omega) x a b, show (j + 1).toNat = j.toNat + 1 by omega]; show _ = (_ + (pS (sgA 2 (rpR I)) (fun j => fwd rt ((vfZ 2 (rgR I)) j)) (i * 7) x j.toNat + (sgA 2 (rpR I)) (i * 7 + (j.toNat : Int)) x * (fwd rt ((vfZ 2 (rgR I)) (j.toNat : Int)) x))) % 8380417; rw [Int.toNat_of_nonneg hj.1, show (sgA 2 (rpR I)) (i * 7 + j) x = (wide (rpR I) j i).2.2 x from by unfold sgA; rw [show pL 2 = 7 from rfl, show (i * 7 + j) % 7 = j by omega, show (i * 7 + j) / 7 = i by omega], ← Int.add_assoc]; exact Int.emod_add_emod _ _ _) (fun m a b => by by_cases z : m = j; exact (by rw [z]; exact ok_556); exact okJ m a (by omega)) (by rw [rowTo_ne (by omega), a_up_at]) (by rw [rowTo_ne (by omega), a_up_ne (Or.inr (by decide)), f6.1 175 23 (Or.inr (by decide)) (by decide)]; exact b4) rfl
              · skip
                rw [if_neg ok_556]
                show AW l G M_Mo_dsaVerify P 559 [(5, vi j), (4, vi i), (0, vr 175)] [vi 0, vr 175] (sD h I6 L6)
                refine aw_iconst d_Mo_dsaVerify_559 ⟨by decide, by decide⟩ ?_
                refine ax_V (st := []) (as := [vi 0, vi 4]) (b := 175) (v := some (vi 0)) (h' := sD h (a_up I6 175 4 4) L6) d_Mo_dsaVerify_560 cs_Mo_dsaVerify_560 (k_175 S) (c_good0 S rfl) rfl rfl rfl ?_
                show AW l G M_Mo_dsaVerify P 563 [(5, vi j), (4, vi i), (0, vr 175)] [vi 0] (sD h (a_up I6 175 4 4) L6)
                refine aw_if_ne (tgt := 568) d_Mo_dsaVerify_563 (by decide) (fun c_563 => False.elim (by omega)) (fun c_563 => ?_)
                refine aw_iconst d_Mo_dsaVerify_566 ⟨by decide, by decide⟩ ?_
                exact aw_zret d_Mo_dsaVerify_567 rfl ⟨by decide, by decide⟩ (hP _ _ (rsNo 0 4 (c4_4 ⟨by decide, by decide⟩ b1 b2 (fun z => ok_556 (by have y := (z pre).2 (i * 7 + j) (by omega) (by show i * 7 + j < 56; omega); rw [show pL 2 = 7 from rfl, show (i * 7 + j) % 7 = j by omega, show (i * 7 + j) / 7 = i by omega] at y; exact y))) (by decide) a_up_at (fR0.fr (fR0.fr (fR0.fr (fR0.fr (fR0.fr (fR0.fr R0 F2 (r := qN) (by intro a x y; exact ⟨fun z => z, by omega⟩) (by omega)) F3 (r := qN) (by intro a x y; exact ⟨fun z => z, by omega⟩) (by decide)) F3b (r := qN) (by intro a x y; exact ⟨fun z => z, by omega⟩) (by omega)) F4 (r := qN) (by intro a x y; exact ⟨fun z => z, by omega⟩) (by omega)) (FR.smp (p := fun a => a = 252) f6 rfl) (r := qN) (by intro a x y; exact ⟨fun z => z, by omega⟩) (by decide)) (FR.c0 (p := fun _ => False)) (by intro a x y; exact ⟨fun z => z, fun z => z⟩) (fun z => z))))
          skip
          exact lp_527 _ 0 (rowTo (rowTo (rowTo K3 250 256 (eva (K3 250))) (205 + (30 + i).toNat) 256 (fun _ => 0)) (205 + (30 + i).toNat) 256 (fun x => ((rowTo (rowTo K3 250 256 (eva (K3 250))) (205 + (30 + i).toNat) 256 (fun _ => 0)) (205 + (30 + i).toNat) x + (rowTo (rowTo K3 250 256 (eva (K3 250))) (205 + (30 + i).toNat) 256 (fun _ => 0)) 250 x * (rowTo (rowTo K3 250 256 (eva (K3 250))) (205 + (30 + i).toNat) 256 (fun _ => 0)) 251 x) % 8380417)) u_481 (by omega) (FR.rfl') (fun x a b => by rw [rowTo_in a b, rowTo_in a b, rowTo_ne (by omega), rowTo_in a b, rowTo_ne (by omega), rowTo_ne (by decide), F3.1 251 x (by decide) (Or.inl (by decide)), F2.1 251 x (by omega) (Or.inl (by decide)), hB x a b]; show (0 + _) % _ = (_ + 0) % _; rw [Int.zero_add, Int.add_zero]) (fun m a b => by omega) (by rw [rowTo_ne (by omega), rowTo_ne (by omega), rowTo_ne (by omega)]; exact h43) (by rw [rowTo_ne (by omega), rowTo_ne (by omega), rowTo_ne (by omega), b3]; omega) rfl
        · skip
          refine aw_aload_n d_Mo_dsaVerify_425 rfl rfl ?_
          refine ax_getR (b := 204) d_Mo_dsaVerify_426 fd_Mo_76 (k_175 S) (r_175_28 S) ?_
          refine aw_bipush d_Mo_dsaVerify_429 ⟨by decide, by decide⟩ (by decide) ?_
          refine ax_aald (b := 250) d_Mo_dsaVerify_431 ⟨by rw [(k_204 S)]; decide, by rw [(k_204 S)]; decide⟩ (by omega) (by rw [n_204 S]; omega) (g_204 S (j := 45) (by decide) (by decide)) ?_
          refine aw_iload d_Mo_dsaVerify_432 rfl ?_
          have tp_ := tpF_in (g := (rpR I)) (i := i) c hc.1 (by omega)
          have tp_ : 0 ≤ gR (fun k => rpR I (32 + 320 * i + k)) 10 c * 8192 ∧ gR (fun k => rpR I (32 + 320 * i + k)) 10 c * 8192 < 8380417 := tp_
          refine aw_ldc2 (n := 8380417) d_Mo_dsaVerify_434 lc_Mo_256 ⟨by decide, by decide⟩ ?_
          refine aw_aload_n d_Mo_dsaVerify_437 rfl rfl ?_
          refine aw_aload_n d_Mo_dsaVerify_438 rfl rfl ?_
          refine ax_getR (b := 177) d_Mo_dsaVerify_439 fd_Mo_15 (k_175 S) (r_175_1 S) ?_
          refine aw_iconst d_Mo_dsaVerify_442 ⟨by decide, by decide⟩ ?_
          refine ax_aald (b := 179) d_Mo_dsaVerify_443 ⟨by rw [(k_177 S)]; decide, by rw [(k_177 S)]; decide⟩ (by omega) (by rw [n_177 S]; omega) (g_177 S (j := 1) (by decide) (by decide)) ?_
          refine aw_bipush d_Mo_dsaVerify_444 ⟨by decide, by decide⟩ (by decide) ?_
          refine aw_bipush d_Mo_dsaVerify_446 ⟨by decide, by decide⟩ (by decide) ?_
          refine ax_V (st := [vl 8380417, vi c, vr 250]) (as := [vr 179, vi 32, vi 10]) (b := 175) (v := some (vi (bV (fun j => K3 179 (32 + 320 * i + j) % 256) 8 (32 * 10) / 2 ^ (10 * c.toNat) % 2 ^ 10))) (h' := sD h (a_up K3 175 23 (8 * (320 * i) + ((10 * c.toNat : Nat) : Int) + 10)) M2) d_Mo_dsaVerify_448 cs_Mo_dsaVerify_448 (k_175 S) (c_Mo_takeBits (q := 10 * c.toNat) (N := 32 * 10) (c := 320 * i) (d := 10) S ⟨k_179 S, by decide⟩ (by decide) (by omega) (by rw [n_179 S]; omega)) rfl rfl rfl ?_
          show AW l G M_Mo_dsaVerify P 451 [(5, vi c), (4, vi i), (0, vr 175)] [vi (bV (fun j => K3 179 (32 + 320 * i + j) % 256) 8 (32 * 10) / 2 ^ (10 * c.toNat) % 2 ^ 10), vl 8380417, vi c, vr 250] (sD h (a_up K3 175 23 (8 * (320 * i) + ((10 * c.toNat : Nat) : Int) + 10)) M2)
          refine ax_ti (x := gR (fun k => rpR I (32 + 320 * i + k)) 10 c) (by show gR (fun j => K3 179 (32 + 320 * i + j) % 256) 10 c = _; exact gR_congr (fun y y0 y1 => by rw [pk3, rp_in (show I 186 1 = 2592 from b2) (by omega) (by omega)])) ?_
          refine aw_i2l d_Mo_dsaVerify_451 ?_
          refine aw_ldc2 (n := 8192) d_Mo_dsaVerify_452 lc_Mo_364 ⟨by decide, by decide⟩ ?_
          refine ax_lmul d_Mo_dsaVerify_455 ⟨(by omega), (by omega)⟩ ?_
          refine aw_ldc2 (n := 8380417) d_Mo_dsaVerify_456 lc_Mo_256 ⟨by decide, by decide⟩ ?_
          refine ax_lrem d_Mo_dsaVerify_459 (by omega) (by omega) ?_
          refine ax_lsub d_Mo_dsaVerify_460 ⟨(by omega), (by omega)⟩ ?_
          refine ax_l2i d_Mo_dsaVerify_461 ⟨(by omega), (by omega)⟩ ?_
          refine aw_ldcw (n := 8380417) d_Mo_dsaVerify_462 lc_Mo_264 ⟨by decide, by decide⟩ ?_
          refine ax_irem d_Mo_dsaVerify_465 (by omega) (by omega) ?_
          refine ax_iast d_Mo_dsaVerify_466 (k_250 S) (by decide) (by omega) (by rw [n_250 S]; omega) ?_
          refine ax_iinc (lv' := [(5, vi (c + 1)), (4, vi i), (0, vr 175)]) d_Mo_dsaVerify_467 rfl (by decide) ⟨(by omega), (by omega)⟩ rfl ?_
          refine aw_goto (tgt := 417) d_Mo_dsaVerify_470 (by decide) ?_
          exact ih_417 _ (by omega) (c + 1) (a_up (a_up K3 175 23 (8 * (320 * i) + ((10 * c.toNat : Nat) : Int) + 10)) 250 c ((8380417 - (((gR (fun k => rpR I (32 + 320 * i + k)) 10 c) * 8192) % 8380417)) % 8380417)) (by omega) ((F3.tr (FR.b0 (p := fun a => a = 250)) (fun a x => ⟨x, x⟩)).tr (FR.up (p := fun a => a = 250) rfl) (fun a x => ⟨x, x⟩)) (by rw [a_up_ne (Or.inl (by decide)), a_up_at]; omega) (fun x a b => by by_cases z : x = c; exact (by rw [z, a_up_at]); exact (by rw [a_up_ne (Or.inr z), a_up_ne (Or.inl (by decide))]; exact x3 x a (by omega))) (by rw [a_up_ne (Or.inl (by decide)), a_up_ne (Or.inr (by decide))]; exact h43) rfl
      skip
      exact lp_417 _ 0 K2 (by omega) (FR.rfl') (by omega) (fun x a b => by omega) (h42) rfl
  skip
  exact lp_405 _ 0 K M (by omega) (FR.rfl') (b0) (fun m a b => by omega) (fun m a b => by omega) (h4) rfl
