/-! signing -/
def sB (s : Int) : Nat := if s = 1 then 4 else 3
def sHb (s : Int) : Nat := if s = 0 then 6 else 4
def sBd (s : Int) : Int := pT s * pE s
def sPkt (s : Int) : Int := if s = 0 then 2420 else if s = 1 then 3309 else 4627
def sgA (s : Int) (sk : Int → Int) (m c : Int) : Int := (wide sk (m % pL s) (m / pL s)).2.2 c
def sgOk (s : Int) (sk : Int → Int) : Prop := ∀ m, 0 ≤ m → m < pK s * pL s → (wide sk (m % pL s) (m / pL s)).2.1 = 256
def sgV (s : Int) (sk : Int → Int) (m : Int) : Int → Int := fwd rt (mirF sk (128 + 32 * (sB s : Int) * m) (sB s) (pE s))
def sgD (s : Int) (sk : Int → Int) (m : Int) : Int → Int := fwd rt (mirF sk (128 + 32 * (sB s : Int) * (pK s + pL s) + 416 * m) 13 4096)
def sgM (s : Int) (rh : Int → Int) (n : Int) : Int → Int := mskF (pG1 s) (pB s).toNat rh n
def sgW (s : Int) (sk rh : Int → Int) (t : Int) : Int → Int → Int := imF (sgA s sk) (fun j => fwd rt (sgM s rh (t * pL s + j))) (pL s) (pL s).toNat
def sgC (s : Int) (sk rh mu : Int → Int) (t : Int) : Int → Int := spOut (hhS mu (hiB (pG2 s) (sHb s) (32 * (sHb s : Int)) (sgW s sk rh t)) (32 * (sHb s : Int) * pK s))
def sgBs (s : Int) (sk rh mu : Int → Int) (t : Int) : Sp := blS (sgC s sk rh mu t) (pC s)
def sgB (s : Int) (sk rh mu : Int → Int) (t : Int) : Int → Int := fwd rt (fun j => blX (pT s) (sgBs s sk rh mu t) j % 8380417)
def sgZ (s : Int) (sk rh mu : Int → Int) (t m j : Int) : Int := (sgM s rh (t * pL s + m) j + prB (sgB s sk rh mu t) (sgV s sk m) j) % 8380417
def sgR (s : Int) (sk rh mu : Int → Int) (t m j : Int) : Int := (sgW s sk rh t m j - prB (sgB s sk rh mu t) (sgV s sk (pL s + m)) j) % 8380417
def sgF (s : Int) (sk rh mu : Int → Int) (t : Int) (n : Nat) : Bool := decide (¬ dHigh (pG2 s) ((sgR s sk rh mu t ((n / 256 : Nat) : Int) ((n % 256 : Nat) : Int) + prB (sgB s sk rh mu t) (sgD s sk ((n / 256 : Nat) : Int)) ((n % 256 : Nat) : Int)) % 8380417) = dHigh (pG2 s) (sgR s sk rh mu t ((n / 256 : Nat) : Int) ((n % 256 : Nat) : Int)))
theorem sgF_at {s : Int} {sk rh mu : Int → Int} {t : Int} {m j : Nat} (hj : j < 256) : sgF s sk rh mu t (256 * m + j) = true ↔ ¬ dHigh (pG2 s) ((sgR s sk rh mu t m j + prB (sgB s sk rh mu t) (sgD s sk m) j) % 8380417) = dHigh (pG2 s) (sgR s sk rh mu t m j) := by
  unfold sgF
  rw [show (256 * m + j) / 256 = m by omega, show (256 * m + j) % 256 = j by omega]
  exact decide_eq_true_iff
def sgGood (s : Int) (sk rh mu : Int → Int) (t : Int) : Prop := (∀ m, 0 ≤ m → m < pL s → wiN (pG1 s - sBd s) (sgZ s sk rh mu t m)) ∧ (∀ m, 0 ≤ m → m < pK s → loN (pG2 s) (pG2 s - sBd s) (sgR s sk rh mu t m)) ∧ (∀ m, 0 ≤ m → m < pK s → wiN (pG2 s) (prB (sgB s sk rh mu t) (sgD s sk m))) ∧ (hIt (sgF s sk rh mu t) (256 * (pK s).toNat)).1 ≤ pW s
def sgPk (s : Int) (sk rh mu : Int → Int) (t : Int) : Int → Int := (if s = 0 then pcB0 else if s = 1 then pcB1 else pcB2) (sgC s sk rh mu t) (sgZ s sk rh mu t) (sgF s sk rh mu t)
noncomputable def sgRun (s : Int) (sk rh mu : Int → Int) : Nat → Int → Option Int
  | 0, _ => none
  | f + 1, t => @ite (Option Int) (bll (pT s) (sgBs s sk rh mu t) = none) (Classical.propDecidable _) none (@ite (Option Int) (sgGood s sk rh mu t) (Classical.propDecidable _) (some t) (sgRun s sk rh mu f (t + 1)))
theorem sgRun_x {s : Int} {sk rh mu : Int → Int} {f : Nat} {t : Int} (h : bll (pT s) (sgBs s sk rh mu t) = none) : sgRun s sk rh mu (f + 1) t = none := if_pos h
theorem sgRun_g {s : Int} {sk rh mu : Int → Int} {f : Nat} {t : Int} (h : bll (pT s) (sgBs s sk rh mu t) ≠ none) (hg : sgGood s sk rh mu t) : sgRun s sk rh mu (f + 1) t = some t := (if_neg h).trans (if_pos hg)
theorem sgRun_n {s : Int} {sk rh mu : Int → Int} {f : Nat} {t : Int} (h : bll (pT s) (sgBs s sk rh mu t) ≠ none) (hg : ¬ sgGood s sk rh mu t) : sgRun s sk rh mu (f + 1) t = sgRun s sk rh mu f (t + 1) := (if_neg h).trans (if_neg hg)
def DvR (h : Hp) (I L : Nat → Int → Int) (ok : Prop) (Q : Int → (Nat → Int → Int) → (Nat → Int → Int) → Prop) : a_R → Hp → Prop := fun r h2 => (ok ∧ ∃ v I' L', Q v I' L' ∧ r = .inl (some (vi v)) ∧ h2 = sD h I' L') ∨ (¬ ok ∧ ∃ I' L', frC I L I' L' ∧ r = .inr (hX h) ∧ h2 = wN (sD h I' L') 44 6)
theorem mskF_congr {g1 n : Int} {mb : Nat} {rh rh' : Int → Int} (h : ∀ k : Nat, k < 64 → rh k % 256 = rh' k % 256) : mskF g1 mb rh n = mskF g1 mb rh' n := by
  funext j
  unfold mskF
  rw [nmS_congr h]
theorem rhS_congr {gs gr gd gd' : Int → Int} (h : ∀ k : Nat, k < 64 → gd k % 256 = gd' k % 256) : rhS gs gr gd = rhS gs gr gd' := by
  unfold rhS
  rw [spPart_congr h]
theorem sgA_in {s : Int} {sk : Int → Int} {m : Int} : inQ (sgA s sk m) := fun j _ _ => by
  unfold sgA
  exact wide_b.2 j
theorem sgV_in {s : Int} {sk : Int → Int} {m : Int} : inQ (sgV s sk m) := fwd_in mirF_in
theorem sgD_in {s : Int} {sk : Int → Int} {m : Int} : inQ (sgD s sk m) := fwd_in mirF_in
theorem sgM_in {s : Int} {rh : Int → Int} {n : Int} : inQ (sgM s rh n) := mskF_in
theorem sgB_in {s : Int} {sk rh mu : Int → Int} {t : Int} : inQ (sgB s sk rh mu t) := fwd_in (fun j _ _ => ⟨Int.emod_nonneg _ (by decide), Int.emod_lt_of_pos _ (by decide)⟩)
theorem sgZ_in {s : Int} {sk rh mu : Int → Int} {t m : Int} : inQ (sgZ s sk rh mu t m) := fun j _ _ => by unfold sgZ; omega
theorem sgR_in {s : Int} {sk rh mu : Int → Int} {t m : Int} : inQ (sgR s sk rh mu t m) := fun j _ _ => by unfold sgR; omega
theorem b0_eq {I : Nat → Int → Int} {b r : Nat} : (fun x => byAt I b r (0 + x)) = byAt I b r := funext (fun x => by rw [Int.zero_add])
theorem wiN_18 {Z : Int → Int} (q : inQ Z) (h : wiN 130994 Z) {j : Int} (h0 : 0 ≤ j) (h1 : j < 256) : 0 ≤ (131072 - Z j) % 8380417 ∧ (131072 - Z j) % 8380417 < 2 ^ 18 := by
  have a := q j h0 h1
  have b := h j h0 h1
  rw [show (2 ^ 18 : Int) = 262144 by decide]
  omega
theorem wiN_20 {Z : Int → Int} {t : Int} (ht : t ≤ 524288) (q : inQ Z) (h : wiN t Z) {j : Int} (h0 : 0 ≤ j) (h1 : j < 256) : 0 ≤ (524288 - Z j) % 8380417 ∧ (524288 - Z j) % 8380417 < 2 ^ 20 := by
  have a := q j h0 h1
  have b := h j h0 h1
  rw [show (2 ^ 20 : Int) = 1048576 by decide]
  omega
def muC (I : Nat → Int → Int) (kh : Int → Int) (how : Int) : Int → Int := spOut (dgS kh how (fun k => byAt I 22 23 (0 + k)) (I 22 1) (fun k => byAt I 20 21 (0 + k)) (I 20 1))
def rhC (I : Nat → Int → Int) (how : Int) : Int → Int := spOut (rhS (fun k => byAt I 18 19 (32 + k)) (fun k => byAt I 14 15 (0 + k)) (muC I (fun k => byAt I 18 19 (64 + k)) how))
set_option maxHeartbeats 800000 in
set_option maxRecDepth 100000 in
theorem c_Si_sign00 {l : Launch} {G : a_G} {h : Hp} {I L : Nat → Int → Int} (S : Shp h) (hfl : l.flags = flags0) (rm : hX h + 1 ≤ a_NX ∧ hU h + 6 ≤ a_US) (SD : Std I L) (cb : CB I) : AW l G M_Si_sign (DvR h I L (sgOk 0 (byAt I 18 19) ∧ sgRun 0 (byAt I 18 19) (rhC I (0)) (muC I (fun k => byAt I 18 19 (64 + k)) (0)) 814 0 ≠ none) (fun v I' L' => FC (fun a => a = 24 ∨ a = 25 ∨ 36 ≤ a ∧ a ≤ 174 ∧ a ≠ 43) I L I' L' ∧ ∃ t, sgRun 0 (byAt I 18 19) (rhC I (0)) (muC I (fun k => byAt I 18 19 (64 + k)) (0)) 814 0 = some t ∧ v = t + 1 ∧ HB I' 24 25 (sPkt 0) (sgPk 0 (byAt I 18 19) (rhC I (0)) (muC I (fun k => byAt I 18 19 (64 + k)) (0)) t))) 0 (a_ar 0 [vr 146, vr 13, vr 33, vi 0]) [] (sD h I L) := by
  suffices key : ∀ P : a_R → Hp → Prop, (∀ r_ h2_, DvR h I L (sgOk 0 (byAt I 18 19) ∧ sgRun 0 (byAt I 18 19) (rhC I (0)) (muC I (fun k => byAt I 18 19 (64 + k)) (0)) 814 0 ≠ none) (fun v I' L' => FC (fun a => a = 24 ∨ a = 25 ∨ 36 ≤ a ∧ a ≤ 174 ∧ a ≠ 43) I L I' L' ∧ ∃ t, sgRun 0 (byAt I 18 19) (rhC I (0)) (muC I (fun k => byAt I 18 19 (64 + k)) (0)) 814 0 = some t ∧ v = t + 1 ∧ HB I' 24 25 (sPkt 0) (sgPk 0 (byAt I 18 19) (rhC I (0)) (muC I (fun k => byAt I 18 19 (64 + k)) (0)) t)) r_ h2_ → P r_ h2_) → AW l G M_Si_sign P 0 [(0, vr 146), (1, vr 13), (2, vr 33), (3, vi 0)] [] (sD h I L) from key _ (fun _ _ q => q)
  intro P hP
  have cb0 : 0 ≤ I 14 1 ∧ I 14 1 ≤ 8192 := cb.1 0 (by decide)
  have cb2 : 0 ≤ I 18 1 ∧ I 18 1 ≤ 8192 := cb.1 2 (by decide)
  refine aw_aload_n d_Si_sign_0 rfl rfl ?_
  refine aw_aload_n d_Si_sign_1 rfl rfl ?_
  refine aw_iconst d_Si_sign_2 ⟨by decide, by decide⟩ ?_
  refine ax_aald (b := 18) d_Si_sign_3 ⟨by rw [(k_13 S)]; decide, by rw [(k_13 S)]; decide⟩ (by omega) (by rw [n_13 S]; omega) (r_13_2 S) ?_
  refine aw_aload_n d_Si_sign_4 rfl rfl ?_
  refine ax_VtT (st := []) (as := [vr 18, vr 33]) (b := 146) d_Si_sign_5 cs_Si_sign_5 (k_146 S) (c_Si_readSecret0 S hfl rm SD (by omega)) rfl rfl rfl (fun ok_5 I_5 L_5 q_5 => ?_) (fun no_5 I_5 L_5 q_5 => at_leave rfl (hP _ _ (Or.inr ⟨fun z => no_5 (by rw [b0_eq]; exact z.1), I_5, L_5, q_5, rfl, rfl⟩)))
  obtain ⟨F0, m0, s0, r0, d0⟩ := q_5
  rw [b0_eq] at ok_5
  have okA : sgOk 0 (byAt I 18 19) := ok_5
  have G0 : FC (fun a => 36 ≤ a ∧ a ≤ 174 ∧ a ≠ 43) I L I_5 L_5 := F0.mono (by intro a x; omega)
  have m0 : ∀ m, 0 ≤ m → m < 16 → eqQ (I_5 (45 + m.toNat)) (sgA 0 (byAt I 18 19) m) := fun m a b c x y => by have z := m0 m a b c x y; rw [b0_eq] at z; exact z
  have s0 : ∀ m, 0 ≤ m → m < 4 → eqQ (I_5 (102 + m.toNat)) (sgV 0 (byAt I 18 19) m) := s0
  have r0 : ∀ m, 0 ≤ m → m < 4 → eqQ (I_5 (110 + m.toNat)) (sgV 0 (byAt I 18 19) (4 + m)) := r0
  have d0 : ∀ m, 0 ≤ m → m < 4 → eqQ (I_5 (148 + m.toNat)) (sgD 0 (byAt I 18 19) m) := d0
  show AW l G M_Si_sign P 8 [(0, vr 146), (1, vr 13), (2, vr 33), (3, vi 0)] [] (sD h I_5 L_5)
  refine aw_aload_n d_Si_sign_8 rfl rfl ?_
  refine ax_getR (b := 36) d_Si_sign_9 fd_Si_38 (k_146 S) (r_146_0 S) ?_
  refine aw_aload_n d_Si_sign_12 rfl rfl ?_
  refine aw_iconst d_Si_sign_13 ⟨by decide, by decide⟩ ?_
  refine ax_aald (b := 18) d_Si_sign_14 ⟨by rw [(k_13 S)]; decide, by rw [(k_13 S)]; decide⟩ (by omega) (by rw [n_13 S]; omega) (r_13_2 S) ?_
  refine aw_bipush d_Si_sign_15 ⟨by decide, by decide⟩ (by decide) ?_
  refine aw_aload_n d_Si_sign_17 rfl rfl ?_
  refine aw_iload_n d_Si_sign_18 rfl rfl ?_
  refine ax_Vr (st := []) (as := [vr 18, vi 64, vr 13, vi 0]) (b := 36) d_Si_sign_19 cs_Si_sign_19 (k_36 S) (c_Be_digestSigned0 S (SD.fc G0 (by intro a x; omega)) (ks S (i := 2) (by decide)) (by decide) (by rw [G0.1 18 1 (by omega), nks S (i := 2) (by decide)]; omega) ⟨fun s hs => by rw [G0.1 _ 1 (by omega)]; exact cb.1 s hs, by rw [G0.1 _ 1 (by omega)]; exact cb.2⟩) rfl rfl rfl (fun u_19 q_19 => ?_)
  obtain ⟨I1, L1⟩ := u_19
  obtain ⟨F1, a1, b1⟩ := q_19
  dsimp only at F1 a1 b1
  have H1 : HB I1 137 138 64 (muC I (fun k => byAt I 18 19 (64 + k)) (0)) := ⟨a1, fun z x y => (b1 z x y).trans (by unfold muC; rw [G0.1 22 1 (by omega), G0.1 20 1 (by omega), show (fun k => byAt I_5 22 23 (0 + k)) = (fun k => byAt I 22 23 (0 + k)) from funext (fun k => byAt_fc G0 (by omega) (by omega)), show (fun k => byAt I_5 20 21 (0 + k)) = (fun k => byAt I 20 21 (0 + k)) from funext (fun k => byAt_fc G0 (by omega) (by omega)), show (fun k => byAt I_5 18 (15 + 2 * 2) (64 + k)) = (fun k => byAt I 18 19 (64 + k)) from funext (fun k => byAt_fc G0 (by omega) (by omega))])⟩
  have G1 : FC (fun a => 36 ≤ a ∧ a ≤ 174 ∧ a ≠ 43) I L I1 L1 := G0.tr F1 (by intro a x; omega)
  show AW l G M_Si_sign P 22 [(0, vr 146), (1, vr 13), (2, vr 33), (3, vi 0)] [] (sD h I1 L1)
  refine aw_aload_n d_Si_sign_22 rfl rfl ?_
  refine aw_aload_n d_Si_sign_23 rfl rfl ?_
  refine aw_iconst d_Si_sign_24 ⟨by decide, by decide⟩ ?_
  refine ax_aald (b := 18) d_Si_sign_25 ⟨by rw [(k_13 S)]; decide, by rw [(k_13 S)]; decide⟩ (by omega) (by rw [n_13 S]; omega) (r_13_2 S) ?_
  refine aw_aload_n d_Si_sign_26 rfl rfl ?_
  refine aw_iconst d_Si_sign_27 ⟨by decide, by decide⟩ ?_
  refine ax_aald (b := 14) d_Si_sign_28 ⟨by rw [(k_13 S)]; decide, by rw [(k_13 S)]; decide⟩ (by omega) (by rw [n_13 S]; omega) (r_13_0 S) ?_
  refine ax_Vr (st := []) (as := [vr 18, vr 14]) (b := 146) d_Si_sign_29 cs_Si_sign_29 (k_146 S) (c_Si_drawMaskSeed S (SD.fc G1 (by intro a x; omega)) (by rw [G1.1 14 1 (by omega), G1.1 18 1 (by omega), H1.1]; omega)) rfl rfl rfl (fun u_29 q_29 => ?_)
  obtain ⟨I2, L2⟩ := u_29
  obtain ⟨F2, H2⟩ := q_29
  dsimp only at F2 H2
  have G2 : FC (fun a => 36 ≤ a ∧ a ≤ 174 ∧ a ≠ 43) I L I2 L2 := G1.tr F2 (by intro a x; omega)
  rw [show (fun k => byAt I1 18 19 (32 + k)) = (fun k => byAt I 18 19 (32 + k)) from funext (fun k => byAt_fc G1 (by omega) (by omega)), show (fun k => byAt I1 14 15 (0 + k)) = (fun k => byAt I 14 15 (0 + k)) from funext (fun k => byAt_fc G1 (by omega) (by omega)), rhS_congr (gd' := (muC I (fun k => byAt I 18 19 (64 + k)) (0))) (fun k hk => by rw [Int.zero_add, H1.2 k (by omega) (by omega)])] at H2
  have H2 : HB I2 164 165 64 (rhC I (0)) := H2
  show AW l G M_Si_sign P 32 [(0, vr 146), (1, vr 13), (2, vr 33), (3, vi 0)] [] (sD h I2 L2)
  refine aw_iconst d_Si_sign_32 ⟨by decide, by decide⟩ ?_
  refine aw_istore (lv' := [(4, vi 0), (0, vr 146), (1, vr 13), (2, vr 33), (3, vi 0)]) d_Si_sign_33 (by decide) rfl ?_
  have lp_35 : ∀ (n_ : Nat) (t : Int) (K : Nat → Int → Int) (M : Nat → Int → Int), (0 ≤ t ∧ t ≤ 814) → (FC (fun a => 36 ≤ a ∧ a ≤ 174 ∧ a ≠ 43) I L K M) → (∀ m, 0 ≤ m → m < 16 → eqQ (K (45 + m.toNat)) (sgA 0 (byAt I 18 19) m)) → (∀ m, 0 ≤ m → m < 4 → eqQ (K (102 + m.toNat)) (sgV 0 (byAt I 18 19) m)) → (∀ m, 0 ≤ m → m < 4 → eqQ (K (110 + m.toNat)) (sgV 0 (byAt I 18 19) (4 + m))) → (∀ m, 0 ≤ m → m < 4 → eqQ (K (148 + m.toNat)) (sgD 0 (byAt I 18 19) m)) → (HB K 137 138 64 (muC I (fun k => byAt I 18 19 (64 + k)) (0))) → (HB K 164 165 64 (rhC I (0))) → (sgRun 0 (byAt I 18 19) (rhC I (0)) (muC I (fun k => byAt I 18 19 (64 + k)) (0)) 814 0 = sgRun 0 (byAt I 18 19) (rhC I (0)) (muC I (fun k => byAt I 18 19 (64 + k)) (0)) (814 - t).toNat t) → ((814 - t).toNat) = n_ → AW l G M_Si_sign P 35 [(4, vi t), (3, vi 0), (2, vr 33), (1, vr 13), (0, vr 146)] [] (sD h K M) := by
    intro n_
    induction n_ using Nat.strongRecOn with
    | _ n_ ih_35 =>
    intro t K M ht F mt sc er dr hd hr run hm_35
    refine aw_iload d_Si_sign_35 rfl ?_
    refine aw_sipush d_Si_sign_37 ⟨by decide, by decide⟩ (by decide) ?_
    refine aw_icmp_ge (tgt := 111) d_Si_sign_40 (by decide) (fun c_40 => ?_) (fun c_40 => ?_)
    · skip
      exact ax_throw hfl th_Si_sign_111 rm.1 rm.2 (hP _ _ (Or.inr ⟨fun z => z.2 (by rw [run, show (814 - t).toNat = 0 by omega]; rfl), K, M, F.frc (by intro a x; omega), rfl, rfl⟩))
    · skip
      refine aw_aload_n d_Si_sign_43 rfl rfl ?_
      refine aw_aload_n d_Si_sign_44 rfl rfl ?_
      refine aw_iload d_Si_sign_45 rfl ?_
      refine aw_aload_n d_Si_sign_47 rfl rfl ?_
      refine ax_getIe (x := 4) d_Si_sign_48 fd_Si_56 (k_33 S) (Eq.trans (F.1 33 1 (by omega)) (pc_33_1 SD.2.1)) ?_
      refine ax_imul d_Si_sign_51 ⟨(by omega), (by omega)⟩ ?_
      refine ax_Vr (st := []) (as := [vr 33, vi (t * 4)]) (b := 146) d_Si_sign_52 cs_Si_sign_52 (k_146 S) (c_Si_drawMasks0 S (SD.fc F (by intro a x; omega)) (by rw [hr.1]; omega)) rfl rfl rfl (fun u_52 q_52 => ?_)
      obtain ⟨I3, L3⟩ := u_52
      obtain ⟨F3, k3, n3⟩ := q_52
      dsimp only at F3 k3 n3
      have T3 : FC (fun a => a = 38 ∨ 119 ≤ a ∧ a ≤ 136 ∨ 139 ≤ a ∧ a ≤ 142 ∨ 157 ≤ a ∧ a ≤ 163 ∨ 166 ≤ a ∧ a ≤ 169) K M I3 L3 := F3.mono (by intro a x; omega)
      have k3 : ∀ m, 0 ≤ m → m < 4 → eqQ (I3 (157 + m.toNat)) (sgM 0 (rhC I (0)) (t * 4 + m)) := fun m a b j x y => by rw [k3 m a b j x y, mskF_congr (rh' := (rhC I (0))) (fun k hk => by rw [Int.zero_add, hr.2 k (by omega) (by omega)])]; rfl
      have n3 : ∀ m, 0 ≤ m → m < 4 → eqQ (I3 (119 + m.toNat)) (fwd rt (sgM 0 (rhC I (0)) (t * 4 + m))) := fun m a b j x y => by rw [n3 m a b j x y, mskF_congr (rh' := (rhC I (0))) (fun k hk => by rw [Int.zero_add, hr.2 k (by omega) (by omega)])]; rfl
      show AW l G M_Si_sign P 55 [(4, vi t), (3, vi 0), (2, vr 33), (1, vr 13), (0, vr 146)] [] (sD h I3 L3)
      refine aw_aload_n d_Si_sign_55 rfl rfl ?_
      refine aw_aload_n d_Si_sign_56 rfl rfl ?_
      refine ax_Vr (st := []) (as := [vr 33]) (b := 146) d_Si_sign_57 cs_Si_sign_57 (k_146 S) (c_Si_commit0 (A := sgA 0 (byAt I 18 19)) (V := fun j => fwd rt (sgM 0 (rhC I (0)) (t * 4 + j))) S ((SD.fc F (by intro a x; omega)).fc T3 (by intro a x; omega)) (fun m a b j x y => (T3.1 _ j (by omega)).trans (mt m a b j x y)) (fun _ _ _ => sgA_in) n3 (fun _ _ _ => fwd_in sgM_in) (by rw [T3.1 137 1 (by omega), hd.1]; omega)) rfl rfl rfl (fun u_57 q_57 => ?_)
      obtain ⟨I4, L4⟩ := u_57
      obtain ⟨F4, w4, c4⟩ := q_57
      dsimp only at F4 w4 c4
      have T4 : FC (fun a => a = 38 ∨ 119 ≤ a ∧ a ≤ 136 ∨ 139 ≤ a ∧ a ≤ 142 ∨ 157 ≤ a ∧ a ≤ 163 ∨ 166 ≤ a ∧ a ≤ 169) K M I4 L4 := T3.tr F4 (by intro a x; omega)
      have w4 : ∀ m, 0 ≤ m → m < 4 → eqQ (I4 (127 + m.toNat)) (sgW 0 (byAt I 18 19) (rhC I (0)) t m) := w4
      rw [hhS_congr (gd' := (muC I (fun k => byAt I 18 19 (64 + k)) (0))) (fun k hk => by rw [Int.zero_add, byAt_fc T3 (by omega) (by omega), hd.2 k (by omega) (by omega)]) (fun k _ => rfl)] at c4
      have c4 : HB I4 139 140 32 (sgC 0 (byAt I 18 19) (rhC I (0)) (muC I (fun k => byAt I 18 19 (64 + k)) (0)) t) := c4
      have eB : blS (fun k => byAt I4 139 140 (0 + k)) (I4 139 1) = sgBs 0 (byAt I 18 19) (rhC I (0)) (muC I (fun k => byAt I 18 19 (64 + k)) (0)) t := by rw [c4.1]; exact blS_congr (fun k hk => by rw [Int.zero_add, c4.2 k (by omega) hk])
      show AW l G M_Si_sign P 60 [(4, vi t), (3, vi 0), (2, vr 33), (1, vr 13), (0, vr 146)] [] (sD h I4 L4)
      refine aw_aload_n d_Si_sign_60 rfl rfl ?_
      refine ax_getR (b := 36) d_Si_sign_61 fd_Si_38 (k_146 S) (r_146_0 S) ?_
      refine aw_aload_n d_Si_sign_64 rfl rfl ?_
      refine ax_VtT (st := []) (as := [vr 33]) (b := 36) d_Si_sign_65 cs_Si_sign_65 (k_36 S) (c_Be_castBall0 S hfl rm ((SD.fc F (by intro a x; omega)).fc T4 (by intro a x; omega)) (by rw [c4.1]; omega)) rfl rfl rfl (fun ok_65 I_65 L_65 q_65 => ?_) (fun no_65 I_65 L_65 q_65 => at_leave rfl (hP _ _ (Or.inr ⟨fun z => z.2 (by rw [run, show (814 - t).toNat = (814 - (t + 1)).toNat + 1 by omega]; rw [eB] at no_65; exact sgRun_x (Classical.byContradiction (fun y => no_65 y))), I_65, L_65, ((F.frc (by intro a x; omega)).tr (T4.frc (by intro a x; omega))).tr q_65, rfl, rfl⟩)))
      obtain ⟨F5, b5⟩ := q_65
      rw [eB] at ok_65 b5
      have ok5 : bll (pT 0) (sgBs 0 (byAt I 18 19) (rhC I (0)) (muC I (fun k => byAt I 18 19 (64 + k)) (0)) t) ≠ none := ok_65
      have T5 : FC (fun a => a = 38 ∨ 119 ≤ a ∧ a ≤ 136 ∨ 139 ≤ a ∧ a ≤ 142 ∨ 157 ≤ a ∧ a ≤ 163 ∨ 166 ≤ a ∧ a ≤ 169) K M I_65 L_65 := T4.tr F5 (by intro a x; omega)
      have b5 : eqQ (I_65 135) (sgB 0 (byAt I 18 19) (rhC I (0)) (muC I (fun k => byAt I 18 19 (64 + k)) (0)) t) := b5
      have w5 : ∀ m, 0 ≤ m → m < 4 → eqQ (I_65 (127 + m.toNat)) (sgW 0 (byAt I 18 19) (rhC I (0)) t m) := fun m a b j x y => (F5.1 _ j (by omega)).trans (w4 m a b j x y)
      have c5 := c4.fc F5 (by decide) (by decide)
      have k5 : ∀ m, 0 ≤ m → m < 4 → eqQ (I_65 (157 + m.toNat)) (sgM 0 (rhC I (0)) (t * 4 + m)) := fun m a b j x y => (F5.1 _ j (by omega)).trans ((F4.1 _ j (by omega)).trans (k3 m a b j x y))
      have eN : (814 - t).toNat = (814 - (t + 1)).toNat + 1 := by omega
      show AW l G M_Si_sign P 68 [(4, vi t), (3, vi 0), (2, vr 33), (1, vr 13), (0, vr 146)] [] (sD h I_65 L_65)
      refine aw_aload_n d_Si_sign_68 rfl rfl ?_
      refine aw_aload_n d_Si_sign_69 rfl rfl ?_
      refine ax_Vr (st := []) (as := [vr 33]) (b := 146) d_Si_sign_70 cs_Si_sign_70 (k_146 S) (c_Si_answersHide0 (B := (sgB 0 (byAt I 18 19) (rhC I (0)) (muC I (fun k => byAt I 18 19 (64 + k)) (0)) t)) (V := sgV 0 (byAt I 18 19)) (Mk := fun m => sgM 0 (rhC I (0)) (t * 4 + m)) S ((SD.fc F (by intro a x; omega)).fc T5 (by intro a x; omega)) b5 sgB_in k5 (fun _ _ _ => sgM_in) (fun m a b j x y => (T5.1 _ j (by omega)).trans (sc m a b j x y)) (fun _ _ _ => sgV_in)) rfl rfl rfl (fun u_70 q_70 => ?_)
      obtain ⟨v6, K6⟩ := u_70
      obtain ⟨F6, q6⟩ := q_70
      dsimp only at F6 q6
      have T6 : FC (fun a => a = 38 ∨ 119 ≤ a ∧ a ≤ 136 ∨ 139 ≤ a ∧ a ≤ 142 ∨ 157 ≤ a ∧ a ≤ 163 ∨ 166 ≤ a ∧ a ≤ 169) K M K6 L_65 := T5.tr F6 (by intro a x; omega)
      show AW l G M_Si_sign P 73 [(4, vi t), (3, vi 0), (2, vr 33), (1, vr 13), (0, vr 146)] [vi v6] (sD h K6 L_65)
      refine aw_if_eq (tgt := 105) d_Si_sign_73 (by decide) (fun c_73 => ?_) (fun c_73 => ?_)
      · skip
        refine ax_iinc (lv' := [(4, vi (t + 1)), (3, vi 0), (2, vr 33), (1, vr 13), (0, vr 146)]) d_Si_sign_105 rfl (by decide) ⟨(by omega), (by omega)⟩ rfl ?_
        refine aw_goto (tgt := 35) d_Si_sign_108 (by decide) ?_
        exact ih_35 _ (by omega) (t + 1) K6 L_65 (by omega) (F.tr T6 (by intro a x; omega)) (fun m a b j x y => (T6.1 _ j (by omega)).trans (mt m a b j x y)) (fun m a b j x y => (T6.1 _ j (by omega)).trans (sc m a b j x y)) (fun m a b j x y => (T6.1 _ j (by omega)).trans (er m a b j x y)) (fun m a b j x y => (T6.1 _ j (by omega)).trans (dr m a b j x y)) (hd.fc T6 (by omega) (by omega)) (hr.fc T6 (by omega) (by omega)) (by rw [run, eN]; exact sgRun_n ok5 (fun z => by rcases q6 with y | y; exact absurd y.1 (by omega); exact y.2 z.1)) rfl
      · skip
        refine aw_aload_n d_Si_sign_76 rfl rfl ?_
        refine aw_aload_n d_Si_sign_77 rfl rfl ?_
        have g6 := q6.resolve_right (fun z => c_73 z.1)
        refine ax_Vr (st := []) (as := [vr 33]) (b := 146) d_Si_sign_78 cs_Si_sign_78 (k_146 S) (c_Si_lowsHide0 (B := (sgB 0 (byAt I 18 19) (rhC I (0)) (muC I (fun k => byAt I 18 19 (64 + k)) (0)) t)) (V := fun m => sgV 0 (byAt I 18 19) (4 + m)) (W := sgW 0 (byAt I 18 19) (rhC I (0)) t) S ((SD.fc F (by intro a x; omega)).fc T6 (by intro a x; omega)) (fun j x y => (F6.1 _ j (by omega)).trans (b5 j x y)) sgB_in (fun m a b j x y => (F6.1 _ j (by omega)).trans (w5 m a b j x y)) (fun _ _ _ => imF_in) (fun m a b j x y => (T6.1 _ j (by omega)).trans (er m a b j x y)) (fun _ _ _ => sgV_in)) rfl rfl rfl (fun u_78 q_78 => ?_)
        obtain ⟨v7, K7⟩ := u_78
        obtain ⟨F7, q7⟩ := q_78
        dsimp only at F7 q7
        have T7 : FC (fun a => a = 38 ∨ 119 ≤ a ∧ a ≤ 136 ∨ 139 ≤ a ∧ a ≤ 142 ∨ 157 ≤ a ∧ a ≤ 163 ∨ 166 ≤ a ∧ a ≤ 169) K M K7 L_65 := T6.tr F7 (by intro a x; omega)
        show AW l G M_Si_sign P 81 [(4, vi t), (3, vi 0), (2, vr 33), (1, vr 13), (0, vr 146)] [vi v7] (sD h K7 L_65)
        refine aw_if_eq (tgt := 105) d_Si_sign_81 (by decide) (fun c_81 => ?_) (fun c_81 => ?_)
        · skip
          refine ax_iinc (lv' := [(4, vi (t + 1)), (3, vi 0), (2, vr 33), (1, vr 13), (0, vr 146)]) d_Si_sign_105 rfl (by decide) ⟨(by omega), (by omega)⟩ rfl ?_
          refine aw_goto (tgt := 35) d_Si_sign_108 (by decide) ?_
          exact ih_35 _ (by omega) (t + 1) K7 L_65 (by omega) (F.tr T7 (by intro a x; omega)) (fun m a b j x y => (T7.1 _ j (by omega)).trans (mt m a b j x y)) (fun m a b j x y => (T7.1 _ j (by omega)).trans (sc m a b j x y)) (fun m a b j x y => (T7.1 _ j (by omega)).trans (er m a b j x y)) (fun m a b j x y => (T7.1 _ j (by omega)).trans (dr m a b j x y)) (hd.fc T7 (by omega) (by omega)) (hr.fc T7 (by omega) (by omega)) (by rw [run, eN]; exact sgRun_n ok5 (fun z => by rcases q7 with y | y; exact absurd y.1 (by omega); exact y.2 z.2.1)) rfl
        · skip
          refine aw_aload_n d_Si_sign_84 rfl rfl ?_
          refine aw_aload_n d_Si_sign_85 rfl rfl ?_
          have g7 := q7.resolve_right (fun z => c_81 z.1)
          refine ax_Vr (st := []) (as := [vr 33]) (b := 146) d_Si_sign_86 cs_Si_sign_86 (k_146 S) (c_Si_hintsSuffice0 (B := (sgB 0 (byAt I 18 19) (rhC I (0)) (muC I (fun k => byAt I 18 19 (64 + k)) (0)) t)) (V := sgD 0 (byAt I 18 19)) (W := sgR 0 (byAt I 18 19) (rhC I (0)) (muC I (fun k => byAt I 18 19 (64 + k)) (0)) t) (fl := sgF 0 (byAt I 18 19) (rhC I (0)) (muC I (fun k => byAt I 18 19 (64 + k)) (0)) t) S ((SD.fc F (by intro a x; omega)).fc T7 (by intro a x; omega)) (fun j x y => (F7.1 _ j (by omega)).trans ((F6.1 _ j (by omega)).trans (b5 j x y))) sgB_in g7.2.2 (fun _ _ _ => sgR_in) (fun m a b j x y => (T7.1 _ j (by omega)).trans (dr m a b j x y)) (fun _ _ _ => sgD_in) (fun m hm j hj => sgF_at hj)) rfl rfl rfl (fun u_86 q_86 => ?_)
          obtain ⟨v8, K8⟩ := u_86
          obtain ⟨F8, q8⟩ := q_86
          dsimp only at F8 q8
          have T8 : FC (fun a => a = 38 ∨ 119 ≤ a ∧ a ≤ 136 ∨ 139 ≤ a ∧ a ≤ 142 ∨ 157 ≤ a ∧ a ≤ 163 ∨ 166 ≤ a ∧ a ≤ 169) K M K8 L_65 := T7.tr F8 (by intro a x; omega)
          show AW l G M_Si_sign P 89 [(4, vi t), (3, vi 0), (2, vr 33), (1, vr 13), (0, vr 146)] [vi v8] (sD h K8 L_65)
          refine aw_if_eq (tgt := 105) d_Si_sign_89 (by decide) (fun c_89 => ?_) (fun c_89 => ?_)
          · skip
            refine ax_iinc (lv' := [(4, vi (t + 1)), (3, vi 0), (2, vr 33), (1, vr 13), (0, vr 146)]) d_Si_sign_105 rfl (by decide) ⟨(by omega), (by omega)⟩ rfl ?_
            refine aw_goto (tgt := 35) d_Si_sign_108 (by decide) ?_
            exact ih_35 _ (by omega) (t + 1) K8 L_65 (by omega) (F.tr T8 (by intro a x; omega)) (fun m a b j x y => (T8.1 _ j (by omega)).trans (mt m a b j x y)) (fun m a b j x y => (T8.1 _ j (by omega)).trans (sc m a b j x y)) (fun m a b j x y => (T8.1 _ j (by omega)).trans (er m a b j x y)) (fun m a b j x y => (T8.1 _ j (by omega)).trans (dr m a b j x y)) (hd.fc T8 (by omega) (by omega)) (hr.fc T8 (by omega) (by omega)) (by rw [run, eN]; exact sgRun_n ok5 (fun z => by rcases q8 with y | y; exact absurd y.1 (by omega); exact y.2 z.2.2)) rfl
          · skip
            refine aw_aload_n d_Si_sign_92 rfl rfl ?_
            refine aw_aload_n d_Si_sign_93 rfl rfl ?_
            refine aw_iconst d_Si_sign_94 ⟨by decide, by decide⟩ ?_
            refine ax_aald (b := 24) d_Si_sign_95 ⟨by rw [(k_13 S)]; decide, by rw [(k_13 S)]; decide⟩ (by omega) (by rw [n_13 S]; omega) (r_13_5 S) ?_
            refine aw_aload_n d_Si_sign_96 rfl rfl ?_
            have g8 := q8.resolve_right (fun z => c_89 z.1)
            refine ax_Vr (st := []) (as := [vr 24, vr 33]) (b := 146) d_Si_sign_97 cs_Si_sign_97 (k_146 S) (c_Si_writePacket0 (ch := sgC 0 (byAt I 18 19) (rhC I (0)) (muC I (fun k => byAt I 18 19 (64 + k)) (0)) t) (Z := sgZ 0 (byAt I 18 19) (rhC I (0)) (muC I (fun k => byAt I 18 19 (64 + k)) (0)) t) (fl := sgF 0 (byAt I 18 19) (rhC I (0)) (muC I (fun k => byAt I 18 19 (64 + k)) (0)) t) S ((SD.fc F (by intro a x; omega)).fc T8 (by intro a x; omega)) (((c5.fc F6 (by decide) (by decide)).fc F7 (by decide) (by decide)).fc F8 (by decide) (by decide)) (fun m a b j x y => (F8.1 _ j (by omega)).trans ((F7.1 _ j (by omega)).trans (g6.2.2 m a b j x y))) (fun _ _ _ => sgZ_in) (fun m a b j x y => wiN_18 sgZ_in (g6.2.1 m a b) x y) g8.2.2.1 g8.2.1.2 g8.2.2.2) rfl rfl rfl (fun u_97 q_97 => ?_)
            obtain ⟨F9, H9⟩ := q_97
            have gd : sgGood 0 (byAt I 18 19) (rhC I (0)) (muC I (fun k => byAt I 18 19 (64 + k)) (0)) t := ⟨g6.2.1, g7.2.1, g8.2.1.1, g8.2.1.2⟩
            have rn : sgRun 0 (byAt I 18 19) (rhC I (0)) (muC I (fun k => byAt I 18 19 (64 + k)) (0)) 814 0 = some t := by rw [run, eN]; exact sgRun_g ok5 gd
            show AW l G M_Si_sign P 100 [(4, vi t), (3, vi 0), (2, vr 33), (1, vr 13), (0, vr 146)] [] (sD h u_97 L_65)
            refine aw_iload d_Si_sign_100 rfl ?_
            refine aw_iconst d_Si_sign_102 ⟨by decide, by decide⟩ ?_
            refine ax_iadd d_Si_sign_103 ⟨(by omega), (by omega)⟩ ?_
            exact aw_iret d_Si_sign_104 rfl (hP _ _ (Or.inl ⟨⟨okA, by rw [rn]; exact (fun z => by cases z)⟩, _, _, _, ⟨(F.tr T8 (r := fun a => 36 ≤ a ∧ a ≤ 174 ∧ a ≠ 43) (by intro a x; omega)).tr F9 (by intro a x; omega), t, rn, rfl, H9⟩, rfl, rfl⟩))
  skip
  refine aw_sub (lv' := [(4, vi 0), (3, vi 0), (2, vr 33), (1, vr 13), (0, vr 146)]) (by simp) ?_
  exact lp_35 _ 0 I2 L2 (by omega) (G2) (fun m a b j x y => (F2.1 _ j (by omega)).trans ((F1.1 _ j (by omega)).trans (m0 m a b j x y))) (fun m a b j x y => (F2.1 _ j (by omega)).trans ((F1.1 _ j (by omega)).trans (s0 m a b j x y))) (fun m a b j x y => (F2.1 _ j (by omega)).trans ((F1.1 _ j (by omega)).trans (r0 m a b j x y))) (fun m a b j x y => (F2.1 _ j (by omega)).trans ((F1.1 _ j (by omega)).trans (d0 m a b j x y))) (H1.fc F2 (by decide) (by decide)) (H2) (rfl) rfl
set_option maxHeartbeats 800000 in
set_option maxRecDepth 100000 in
theorem c_Si_sign0N {l : Launch} {G : a_G} {h : Hp} {I L : Nat → Int → Int} (S : Shp h) (hfl : l.flags = flags0) (rm : hX h + 1 ≤ a_NX ∧ hU h + 6 ≤ a_US) (SD : Std I L) (cb : CB I) : AW l G M_Si_sign (DvR h I L (sgOk 0 (byAt I 18 19) ∧ sgRun 0 (byAt I 18 19) (rhC I (-1)) (muC I (fun k => byAt I 18 19 (64 + k)) (-1)) 814 0 ≠ none) (fun v I' L' => FC (fun a => a = 24 ∨ a = 25 ∨ 36 ≤ a ∧ a ≤ 174 ∧ a ≠ 43) I L I' L' ∧ ∃ t, sgRun 0 (byAt I 18 19) (rhC I (-1)) (muC I (fun k => byAt I 18 19 (64 + k)) (-1)) 814 0 = some t ∧ v = t + 1 ∧ HB I' 24 25 (sPkt 0) (sgPk 0 (byAt I 18 19) (rhC I (-1)) (muC I (fun k => byAt I 18 19 (64 + k)) (-1)) t))) 0 (a_ar 0 [vr 146, vr 13, vr 33, vi (-1)]) [] (sD h I L) := by
  suffices key : ∀ P : a_R → Hp → Prop, (∀ r_ h2_, DvR h I L (sgOk 0 (byAt I 18 19) ∧ sgRun 0 (byAt I 18 19) (rhC I (-1)) (muC I (fun k => byAt I 18 19 (64 + k)) (-1)) 814 0 ≠ none) (fun v I' L' => FC (fun a => a = 24 ∨ a = 25 ∨ 36 ≤ a ∧ a ≤ 174 ∧ a ≠ 43) I L I' L' ∧ ∃ t, sgRun 0 (byAt I 18 19) (rhC I (-1)) (muC I (fun k => byAt I 18 19 (64 + k)) (-1)) 814 0 = some t ∧ v = t + 1 ∧ HB I' 24 25 (sPkt 0) (sgPk 0 (byAt I 18 19) (rhC I (-1)) (muC I (fun k => byAt I 18 19 (64 + k)) (-1)) t)) r_ h2_ → P r_ h2_) → AW l G M_Si_sign P 0 [(0, vr 146), (1, vr 13), (2, vr 33), (3, vi (-1))] [] (sD h I L) from key _ (fun _ _ q => q)
  intro P hP
  have cb0 : 0 ≤ I 14 1 ∧ I 14 1 ≤ 8192 := cb.1 0 (by decide)
  have cb2 : 0 ≤ I 18 1 ∧ I 18 1 ≤ 8192 := cb.1 2 (by decide)
  refine aw_aload_n d_Si_sign_0 rfl rfl ?_
  refine aw_aload_n d_Si_sign_1 rfl rfl ?_
  refine aw_iconst d_Si_sign_2 ⟨by decide, by decide⟩ ?_
  refine ax_aald (b := 18) d_Si_sign_3 ⟨by rw [(k_13 S)]; decide, by rw [(k_13 S)]; decide⟩ (by omega) (by rw [n_13 S]; omega) (r_13_2 S) ?_
  refine aw_aload_n d_Si_sign_4 rfl rfl ?_
  refine ax_VtT (st := []) (as := [vr 18, vr 33]) (b := 146) d_Si_sign_5 cs_Si_sign_5 (k_146 S) (c_Si_readSecret0 S hfl rm SD (by omega)) rfl rfl rfl (fun ok_5 I_5 L_5 q_5 => ?_) (fun no_5 I_5 L_5 q_5 => at_leave rfl (hP _ _ (Or.inr ⟨fun z => no_5 (by rw [b0_eq]; exact z.1), I_5, L_5, q_5, rfl, rfl⟩)))
  obtain ⟨F0, m0, s0, r0, d0⟩ := q_5
  rw [b0_eq] at ok_5
  have okA : sgOk 0 (byAt I 18 19) := ok_5
  have G0 : FC (fun a => 36 ≤ a ∧ a ≤ 174 ∧ a ≠ 43) I L I_5 L_5 := F0.mono (by intro a x; omega)
  have m0 : ∀ m, 0 ≤ m → m < 16 → eqQ (I_5 (45 + m.toNat)) (sgA 0 (byAt I 18 19) m) := fun m a b c x y => by have z := m0 m a b c x y; rw [b0_eq] at z; exact z
  have s0 : ∀ m, 0 ≤ m → m < 4 → eqQ (I_5 (102 + m.toNat)) (sgV 0 (byAt I 18 19) m) := s0
  have r0 : ∀ m, 0 ≤ m → m < 4 → eqQ (I_5 (110 + m.toNat)) (sgV 0 (byAt I 18 19) (4 + m)) := r0
  have d0 : ∀ m, 0 ≤ m → m < 4 → eqQ (I_5 (148 + m.toNat)) (sgD 0 (byAt I 18 19) m) := d0
  show AW l G M_Si_sign P 8 [(0, vr 146), (1, vr 13), (2, vr 33), (3, vi (-1))] [] (sD h I_5 L_5)
  refine aw_aload_n d_Si_sign_8 rfl rfl ?_
  refine ax_getR (b := 36) d_Si_sign_9 fd_Si_38 (k_146 S) (r_146_0 S) ?_
  refine aw_aload_n d_Si_sign_12 rfl rfl ?_
  refine aw_iconst d_Si_sign_13 ⟨by decide, by decide⟩ ?_
  refine ax_aald (b := 18) d_Si_sign_14 ⟨by rw [(k_13 S)]; decide, by rw [(k_13 S)]; decide⟩ (by omega) (by rw [n_13 S]; omega) (r_13_2 S) ?_
  refine aw_bipush d_Si_sign_15 ⟨by decide, by decide⟩ (by decide) ?_
  refine aw_aload_n d_Si_sign_17 rfl rfl ?_
  refine aw_iload_n d_Si_sign_18 rfl rfl ?_
  refine ax_Vr (st := []) (as := [vr 18, vi 64, vr 13, vi (-1)]) (b := 36) d_Si_sign_19 cs_Si_sign_19 (k_36 S) (c_Be_digestSignedN S (SD.fc G0 (by intro a x; omega)) (ks S (i := 2) (by decide)) (by decide) (by rw [G0.1 18 1 (by omega), nks S (i := 2) (by decide)]; omega) ⟨fun s hs => by rw [G0.1 _ 1 (by omega)]; exact cb.1 s hs, by rw [G0.1 _ 1 (by omega)]; exact cb.2⟩) rfl rfl rfl (fun u_19 q_19 => ?_)
  obtain ⟨I1, L1⟩ := u_19
  obtain ⟨F1, a1, b1⟩ := q_19
  dsimp only at F1 a1 b1
  have H1 : HB I1 137 138 64 (muC I (fun k => byAt I 18 19 (64 + k)) (-1)) := ⟨a1, fun z x y => (b1 z x y).trans (by unfold muC; rw [G0.1 22 1 (by omega), G0.1 20 1 (by omega), show (fun k => byAt I_5 22 23 (0 + k)) = (fun k => byAt I 22 23 (0 + k)) from funext (fun k => byAt_fc G0 (by omega) (by omega)), show (fun k => byAt I_5 20 21 (0 + k)) = (fun k => byAt I 20 21 (0 + k)) from funext (fun k => byAt_fc G0 (by omega) (by omega)), show (fun k => byAt I_5 18 (15 + 2 * 2) (64 + k)) = (fun k => byAt I 18 19 (64 + k)) from funext (fun k => byAt_fc G0 (by omega) (by omega))])⟩
  have G1 : FC (fun a => 36 ≤ a ∧ a ≤ 174 ∧ a ≠ 43) I L I1 L1 := G0.tr F1 (by intro a x; omega)
  show AW l G M_Si_sign P 22 [(0, vr 146), (1, vr 13), (2, vr 33), (3, vi (-1))] [] (sD h I1 L1)
  refine aw_aload_n d_Si_sign_22 rfl rfl ?_
  refine aw_aload_n d_Si_sign_23 rfl rfl ?_
  refine aw_iconst d_Si_sign_24 ⟨by decide, by decide⟩ ?_
  refine ax_aald (b := 18) d_Si_sign_25 ⟨by rw [(k_13 S)]; decide, by rw [(k_13 S)]; decide⟩ (by omega) (by rw [n_13 S]; omega) (r_13_2 S) ?_
  refine aw_aload_n d_Si_sign_26 rfl rfl ?_
  refine aw_iconst d_Si_sign_27 ⟨by decide, by decide⟩ ?_
  refine ax_aald (b := 14) d_Si_sign_28 ⟨by rw [(k_13 S)]; decide, by rw [(k_13 S)]; decide⟩ (by omega) (by rw [n_13 S]; omega) (r_13_0 S) ?_
  refine ax_Vr (st := []) (as := [vr 18, vr 14]) (b := 146) d_Si_sign_29 cs_Si_sign_29 (k_146 S) (c_Si_drawMaskSeed S (SD.fc G1 (by intro a x; omega)) (by rw [G1.1 14 1 (by omega), G1.1 18 1 (by omega), H1.1]; omega)) rfl rfl rfl (fun u_29 q_29 => ?_)
  obtain ⟨I2, L2⟩ := u_29
  obtain ⟨F2, H2⟩ := q_29
  dsimp only at F2 H2
  have G2 : FC (fun a => 36 ≤ a ∧ a ≤ 174 ∧ a ≠ 43) I L I2 L2 := G1.tr F2 (by intro a x; omega)
  rw [show (fun k => byAt I1 18 19 (32 + k)) = (fun k => byAt I 18 19 (32 + k)) from funext (fun k => byAt_fc G1 (by omega) (by omega)), show (fun k => byAt I1 14 15 (0 + k)) = (fun k => byAt I 14 15 (0 + k)) from funext (fun k => byAt_fc G1 (by omega) (by omega)), rhS_congr (gd' := (muC I (fun k => byAt I 18 19 (64 + k)) (-1))) (fun k hk => by rw [Int.zero_add, H1.2 k (by omega) (by omega)])] at H2
  have H2 : HB I2 164 165 64 (rhC I (-1)) := H2
  show AW l G M_Si_sign P 32 [(0, vr 146), (1, vr 13), (2, vr 33), (3, vi (-1))] [] (sD h I2 L2)
  refine aw_iconst d_Si_sign_32 ⟨by decide, by decide⟩ ?_
  refine aw_istore (lv' := [(4, vi 0), (0, vr 146), (1, vr 13), (2, vr 33), (3, vi (-1))]) d_Si_sign_33 (by decide) rfl ?_
  have lp_35 : ∀ (n_ : Nat) (t : Int) (K : Nat → Int → Int) (M : Nat → Int → Int), (0 ≤ t ∧ t ≤ 814) → (FC (fun a => 36 ≤ a ∧ a ≤ 174 ∧ a ≠ 43) I L K M) → (∀ m, 0 ≤ m → m < 16 → eqQ (K (45 + m.toNat)) (sgA 0 (byAt I 18 19) m)) → (∀ m, 0 ≤ m → m < 4 → eqQ (K (102 + m.toNat)) (sgV 0 (byAt I 18 19) m)) → (∀ m, 0 ≤ m → m < 4 → eqQ (K (110 + m.toNat)) (sgV 0 (byAt I 18 19) (4 + m))) → (∀ m, 0 ≤ m → m < 4 → eqQ (K (148 + m.toNat)) (sgD 0 (byAt I 18 19) m)) → (HB K 137 138 64 (muC I (fun k => byAt I 18 19 (64 + k)) (-1))) → (HB K 164 165 64 (rhC I (-1))) → (sgRun 0 (byAt I 18 19) (rhC I (-1)) (muC I (fun k => byAt I 18 19 (64 + k)) (-1)) 814 0 = sgRun 0 (byAt I 18 19) (rhC I (-1)) (muC I (fun k => byAt I 18 19 (64 + k)) (-1)) (814 - t).toNat t) → ((814 - t).toNat) = n_ → AW l G M_Si_sign P 35 [(4, vi t), (3, vi (-1)), (2, vr 33), (1, vr 13), (0, vr 146)] [] (sD h K M) := by
    intro n_
    induction n_ using Nat.strongRecOn with
    | _ n_ ih_35 =>
    intro t K M ht F mt sc er dr hd hr run hm_35
    refine aw_iload d_Si_sign_35 rfl ?_
    refine aw_sipush d_Si_sign_37 ⟨by decide, by decide⟩ (by decide) ?_
    refine aw_icmp_ge (tgt := 111) d_Si_sign_40 (by decide) (fun c_40 => ?_) (fun c_40 => ?_)
    · skip
      exact ax_throw hfl th_Si_sign_111 rm.1 rm.2 (hP _ _ (Or.inr ⟨fun z => z.2 (by rw [run, show (814 - t).toNat = 0 by omega]; rfl), K, M, F.frc (by intro a x; omega), rfl, rfl⟩))
    · skip
      refine aw_aload_n d_Si_sign_43 rfl rfl ?_
      refine aw_aload_n d_Si_sign_44 rfl rfl ?_
      refine aw_iload d_Si_sign_45 rfl ?_
      refine aw_aload_n d_Si_sign_47 rfl rfl ?_
      refine ax_getIe (x := 4) d_Si_sign_48 fd_Si_56 (k_33 S) (Eq.trans (F.1 33 1 (by omega)) (pc_33_1 SD.2.1)) ?_
      refine ax_imul d_Si_sign_51 ⟨(by omega), (by omega)⟩ ?_
      refine ax_Vr (st := []) (as := [vr 33, vi (t * 4)]) (b := 146) d_Si_sign_52 cs_Si_sign_52 (k_146 S) (c_Si_drawMasks0 S (SD.fc F (by intro a x; omega)) (by rw [hr.1]; omega)) rfl rfl rfl (fun u_52 q_52 => ?_)
      obtain ⟨I3, L3⟩ := u_52
      obtain ⟨F3, k3, n3⟩ := q_52
      dsimp only at F3 k3 n3
      have T3 : FC (fun a => a = 38 ∨ 119 ≤ a ∧ a ≤ 136 ∨ 139 ≤ a ∧ a ≤ 142 ∨ 157 ≤ a ∧ a ≤ 163 ∨ 166 ≤ a ∧ a ≤ 169) K M I3 L3 := F3.mono (by intro a x; omega)
      have k3 : ∀ m, 0 ≤ m → m < 4 → eqQ (I3 (157 + m.toNat)) (sgM 0 (rhC I (-1)) (t * 4 + m)) := fun m a b j x y => by rw [k3 m a b j x y, mskF_congr (rh' := (rhC I (-1))) (fun k hk => by rw [Int.zero_add, hr.2 k (by omega) (by omega)])]; rfl
      have n3 : ∀ m, 0 ≤ m → m < 4 → eqQ (I3 (119 + m.toNat)) (fwd rt (sgM 0 (rhC I (-1)) (t * 4 + m))) := fun m a b j x y => by rw [n3 m a b j x y, mskF_congr (rh' := (rhC I (-1))) (fun k hk => by rw [Int.zero_add, hr.2 k (by omega) (by omega)])]; rfl
      show AW l G M_Si_sign P 55 [(4, vi t), (3, vi (-1)), (2, vr 33), (1, vr 13), (0, vr 146)] [] (sD h I3 L3)
      refine aw_aload_n d_Si_sign_55 rfl rfl ?_
      refine aw_aload_n d_Si_sign_56 rfl rfl ?_
      refine ax_Vr (st := []) (as := [vr 33]) (b := 146) d_Si_sign_57 cs_Si_sign_57 (k_146 S) (c_Si_commit0 (A := sgA 0 (byAt I 18 19)) (V := fun j => fwd rt (sgM 0 (rhC I (-1)) (t * 4 + j))) S ((SD.fc F (by intro a x; omega)).fc T3 (by intro a x; omega)) (fun m a b j x y => (T3.1 _ j (by omega)).trans (mt m a b j x y)) (fun _ _ _ => sgA_in) n3 (fun _ _ _ => fwd_in sgM_in) (by rw [T3.1 137 1 (by omega), hd.1]; omega)) rfl rfl rfl (fun u_57 q_57 => ?_)
      obtain ⟨I4, L4⟩ := u_57
      obtain ⟨F4, w4, c4⟩ := q_57
      dsimp only at F4 w4 c4
      have T4 : FC (fun a => a = 38 ∨ 119 ≤ a ∧ a ≤ 136 ∨ 139 ≤ a ∧ a ≤ 142 ∨ 157 ≤ a ∧ a ≤ 163 ∨ 166 ≤ a ∧ a ≤ 169) K M I4 L4 := T3.tr F4 (by intro a x; omega)
      have w4 : ∀ m, 0 ≤ m → m < 4 → eqQ (I4 (127 + m.toNat)) (sgW 0 (byAt I 18 19) (rhC I (-1)) t m) := w4
      rw [hhS_congr (gd' := (muC I (fun k => byAt I 18 19 (64 + k)) (-1))) (fun k hk => by rw [Int.zero_add, byAt_fc T3 (by omega) (by omega), hd.2 k (by omega) (by omega)]) (fun k _ => rfl)] at c4
      have c4 : HB I4 139 140 32 (sgC 0 (byAt I 18 19) (rhC I (-1)) (muC I (fun k => byAt I 18 19 (64 + k)) (-1)) t) := c4
      have eB : blS (fun k => byAt I4 139 140 (0 + k)) (I4 139 1) = sgBs 0 (byAt I 18 19) (rhC I (-1)) (muC I (fun k => byAt I 18 19 (64 + k)) (-1)) t := by rw [c4.1]; exact blS_congr (fun k hk => by rw [Int.zero_add, c4.2 k (by omega) hk])
      show AW l G M_Si_sign P 60 [(4, vi t), (3, vi (-1)), (2, vr 33), (1, vr 13), (0, vr 146)] [] (sD h I4 L4)
      refine aw_aload_n d_Si_sign_60 rfl rfl ?_
      refine ax_getR (b := 36) d_Si_sign_61 fd_Si_38 (k_146 S) (r_146_0 S) ?_
      refine aw_aload_n d_Si_sign_64 rfl rfl ?_
      refine ax_VtT (st := []) (as := [vr 33]) (b := 36) d_Si_sign_65 cs_Si_sign_65 (k_36 S) (c_Be_castBall0 S hfl rm ((SD.fc F (by intro a x; omega)).fc T4 (by intro a x; omega)) (by rw [c4.1]; omega)) rfl rfl rfl (fun ok_65 I_65 L_65 q_65 => ?_) (fun no_65 I_65 L_65 q_65 => at_leave rfl (hP _ _ (Or.inr ⟨fun z => z.2 (by rw [run, show (814 - t).toNat = (814 - (t + 1)).toNat + 1 by omega]; rw [eB] at no_65; exact sgRun_x (Classical.byContradiction (fun y => no_65 y))), I_65, L_65, ((F.frc (by intro a x; omega)).tr (T4.frc (by intro a x; omega))).tr q_65, rfl, rfl⟩)))
      obtain ⟨F5, b5⟩ := q_65
      rw [eB] at ok_65 b5
      have ok5 : bll (pT 0) (sgBs 0 (byAt I 18 19) (rhC I (-1)) (muC I (fun k => byAt I 18 19 (64 + k)) (-1)) t) ≠ none := ok_65
      have T5 : FC (fun a => a = 38 ∨ 119 ≤ a ∧ a ≤ 136 ∨ 139 ≤ a ∧ a ≤ 142 ∨ 157 ≤ a ∧ a ≤ 163 ∨ 166 ≤ a ∧ a ≤ 169) K M I_65 L_65 := T4.tr F5 (by intro a x; omega)
      have b5 : eqQ (I_65 135) (sgB 0 (byAt I 18 19) (rhC I (-1)) (muC I (fun k => byAt I 18 19 (64 + k)) (-1)) t) := b5
      have w5 : ∀ m, 0 ≤ m → m < 4 → eqQ (I_65 (127 + m.toNat)) (sgW 0 (byAt I 18 19) (rhC I (-1)) t m) := fun m a b j x y => (F5.1 _ j (by omega)).trans (w4 m a b j x y)
      have c5 := c4.fc F5 (by decide) (by decide)
      have k5 : ∀ m, 0 ≤ m → m < 4 → eqQ (I_65 (157 + m.toNat)) (sgM 0 (rhC I (-1)) (t * 4 + m)) := fun m a b j x y => (F5.1 _ j (by omega)).trans ((F4.1 _ j (by omega)).trans (k3 m a b j x y))
      have eN : (814 - t).toNat = (814 - (t + 1)).toNat + 1 := by omega
      show AW l G M_Si_sign P 68 [(4, vi t), (3, vi (-1)), (2, vr 33), (1, vr 13), (0, vr 146)] [] (sD h I_65 L_65)
      refine aw_aload_n d_Si_sign_68 rfl rfl ?_
      refine aw_aload_n d_Si_sign_69 rfl rfl ?_
      refine ax_Vr (st := []) (as := [vr 33]) (b := 146) d_Si_sign_70 cs_Si_sign_70 (k_146 S) (c_Si_answersHide0 (B := (sgB 0 (byAt I 18 19) (rhC I (-1)) (muC I (fun k => byAt I 18 19 (64 + k)) (-1)) t)) (V := sgV 0 (byAt I 18 19)) (Mk := fun m => sgM 0 (rhC I (-1)) (t * 4 + m)) S ((SD.fc F (by intro a x; omega)).fc T5 (by intro a x; omega)) b5 sgB_in k5 (fun _ _ _ => sgM_in) (fun m a b j x y => (T5.1 _ j (by omega)).trans (sc m a b j x y)) (fun _ _ _ => sgV_in)) rfl rfl rfl (fun u_70 q_70 => ?_)
      obtain ⟨v6, K6⟩ := u_70
      obtain ⟨F6, q6⟩ := q_70
      dsimp only at F6 q6
      have T6 : FC (fun a => a = 38 ∨ 119 ≤ a ∧ a ≤ 136 ∨ 139 ≤ a ∧ a ≤ 142 ∨ 157 ≤ a ∧ a ≤ 163 ∨ 166 ≤ a ∧ a ≤ 169) K M K6 L_65 := T5.tr F6 (by intro a x; omega)
      show AW l G M_Si_sign P 73 [(4, vi t), (3, vi (-1)), (2, vr 33), (1, vr 13), (0, vr 146)] [vi v6] (sD h K6 L_65)
      refine aw_if_eq (tgt := 105) d_Si_sign_73 (by decide) (fun c_73 => ?_) (fun c_73 => ?_)
      · skip
        refine ax_iinc (lv' := [(4, vi (t + 1)), (3, vi (-1)), (2, vr 33), (1, vr 13), (0, vr 146)]) d_Si_sign_105 rfl (by decide) ⟨(by omega), (by omega)⟩ rfl ?_
        refine aw_goto (tgt := 35) d_Si_sign_108 (by decide) ?_
        exact ih_35 _ (by omega) (t + 1) K6 L_65 (by omega) (F.tr T6 (by intro a x; omega)) (fun m a b j x y => (T6.1 _ j (by omega)).trans (mt m a b j x y)) (fun m a b j x y => (T6.1 _ j (by omega)).trans (sc m a b j x y)) (fun m a b j x y => (T6.1 _ j (by omega)).trans (er m a b j x y)) (fun m a b j x y => (T6.1 _ j (by omega)).trans (dr m a b j x y)) (hd.fc T6 (by omega) (by omega)) (hr.fc T6 (by omega) (by omega)) (by rw [run, eN]; exact sgRun_n ok5 (fun z => by rcases q6 with y | y; exact absurd y.1 (by omega); exact y.2 z.1)) rfl
      · skip
        refine aw_aload_n d_Si_sign_76 rfl rfl ?_
        refine aw_aload_n d_Si_sign_77 rfl rfl ?_
        have g6 := q6.resolve_right (fun z => c_73 z.1)
        refine ax_Vr (st := []) (as := [vr 33]) (b := 146) d_Si_sign_78 cs_Si_sign_78 (k_146 S) (c_Si_lowsHide0 (B := (sgB 0 (byAt I 18 19) (rhC I (-1)) (muC I (fun k => byAt I 18 19 (64 + k)) (-1)) t)) (V := fun m => sgV 0 (byAt I 18 19) (4 + m)) (W := sgW 0 (byAt I 18 19) (rhC I (-1)) t) S ((SD.fc F (by intro a x; omega)).fc T6 (by intro a x; omega)) (fun j x y => (F6.1 _ j (by omega)).trans (b5 j x y)) sgB_in (fun m a b j x y => (F6.1 _ j (by omega)).trans (w5 m a b j x y)) (fun _ _ _ => imF_in) (fun m a b j x y => (T6.1 _ j (by omega)).trans (er m a b j x y)) (fun _ _ _ => sgV_in)) rfl rfl rfl (fun u_78 q_78 => ?_)
        obtain ⟨v7, K7⟩ := u_78
        obtain ⟨F7, q7⟩ := q_78
        dsimp only at F7 q7
        have T7 : FC (fun a => a = 38 ∨ 119 ≤ a ∧ a ≤ 136 ∨ 139 ≤ a ∧ a ≤ 142 ∨ 157 ≤ a ∧ a ≤ 163 ∨ 166 ≤ a ∧ a ≤ 169) K M K7 L_65 := T6.tr F7 (by intro a x; omega)
        show AW l G M_Si_sign P 81 [(4, vi t), (3, vi (-1)), (2, vr 33), (1, vr 13), (0, vr 146)] [vi v7] (sD h K7 L_65)
        refine aw_if_eq (tgt := 105) d_Si_sign_81 (by decide) (fun c_81 => ?_) (fun c_81 => ?_)
        · skip
          refine ax_iinc (lv' := [(4, vi (t + 1)), (3, vi (-1)), (2, vr 33), (1, vr 13), (0, vr 146)]) d_Si_sign_105 rfl (by decide) ⟨(by omega), (by omega)⟩ rfl ?_
          refine aw_goto (tgt := 35) d_Si_sign_108 (by decide) ?_
          exact ih_35 _ (by omega) (t + 1) K7 L_65 (by omega) (F.tr T7 (by intro a x; omega)) (fun m a b j x y => (T7.1 _ j (by omega)).trans (mt m a b j x y)) (fun m a b j x y => (T7.1 _ j (by omega)).trans (sc m a b j x y)) (fun m a b j x y => (T7.1 _ j (by omega)).trans (er m a b j x y)) (fun m a b j x y => (T7.1 _ j (by omega)).trans (dr m a b j x y)) (hd.fc T7 (by omega) (by omega)) (hr.fc T7 (by omega) (by omega)) (by rw [run, eN]; exact sgRun_n ok5 (fun z => by rcases q7 with y | y; exact absurd y.1 (by omega); exact y.2 z.2.1)) rfl
        · skip
          refine aw_aload_n d_Si_sign_84 rfl rfl ?_
          refine aw_aload_n d_Si_sign_85 rfl rfl ?_
          have g7 := q7.resolve_right (fun z => c_81 z.1)
          refine ax_Vr (st := []) (as := [vr 33]) (b := 146) d_Si_sign_86 cs_Si_sign_86 (k_146 S) (c_Si_hintsSuffice0 (B := (sgB 0 (byAt I 18 19) (rhC I (-1)) (muC I (fun k => byAt I 18 19 (64 + k)) (-1)) t)) (V := sgD 0 (byAt I 18 19)) (W := sgR 0 (byAt I 18 19) (rhC I (-1)) (muC I (fun k => byAt I 18 19 (64 + k)) (-1)) t) (fl := sgF 0 (byAt I 18 19) (rhC I (-1)) (muC I (fun k => byAt I 18 19 (64 + k)) (-1)) t) S ((SD.fc F (by intro a x; omega)).fc T7 (by intro a x; omega)) (fun j x y => (F7.1 _ j (by omega)).trans ((F6.1 _ j (by omega)).trans (b5 j x y))) sgB_in g7.2.2 (fun _ _ _ => sgR_in) (fun m a b j x y => (T7.1 _ j (by omega)).trans (dr m a b j x y)) (fun _ _ _ => sgD_in) (fun m hm j hj => sgF_at hj)) rfl rfl rfl (fun u_86 q_86 => ?_)
          obtain ⟨v8, K8⟩ := u_86
          obtain ⟨F8, q8⟩ := q_86
          dsimp only at F8 q8
          have T8 : FC (fun a => a = 38 ∨ 119 ≤ a ∧ a ≤ 136 ∨ 139 ≤ a ∧ a ≤ 142 ∨ 157 ≤ a ∧ a ≤ 163 ∨ 166 ≤ a ∧ a ≤ 169) K M K8 L_65 := T7.tr F8 (by intro a x; omega)
          show AW l G M_Si_sign P 89 [(4, vi t), (3, vi (-1)), (2, vr 33), (1, vr 13), (0, vr 146)] [vi v8] (sD h K8 L_65)
          refine aw_if_eq (tgt := 105) d_Si_sign_89 (by decide) (fun c_89 => ?_) (fun c_89 => ?_)
          · skip
            refine ax_iinc (lv' := [(4, vi (t + 1)), (3, vi (-1)), (2, vr 33), (1, vr 13), (0, vr 146)]) d_Si_sign_105 rfl (by decide) ⟨(by omega), (by omega)⟩ rfl ?_
            refine aw_goto (tgt := 35) d_Si_sign_108 (by decide) ?_
            exact ih_35 _ (by omega) (t + 1) K8 L_65 (by omega) (F.tr T8 (by intro a x; omega)) (fun m a b j x y => (T8.1 _ j (by omega)).trans (mt m a b j x y)) (fun m a b j x y => (T8.1 _ j (by omega)).trans (sc m a b j x y)) (fun m a b j x y => (T8.1 _ j (by omega)).trans (er m a b j x y)) (fun m a b j x y => (T8.1 _ j (by omega)).trans (dr m a b j x y)) (hd.fc T8 (by omega) (by omega)) (hr.fc T8 (by omega) (by omega)) (by rw [run, eN]; exact sgRun_n ok5 (fun z => by rcases q8 with y | y; exact absurd y.1 (by omega); exact y.2 z.2.2)) rfl
          · skip
            refine aw_aload_n d_Si_sign_92 rfl rfl ?_
            refine aw_aload_n d_Si_sign_93 rfl rfl ?_
            refine aw_iconst d_Si_sign_94 ⟨by decide, by decide⟩ ?_
            refine ax_aald (b := 24) d_Si_sign_95 ⟨by rw [(k_13 S)]; decide, by rw [(k_13 S)]; decide⟩ (by omega) (by rw [n_13 S]; omega) (r_13_5 S) ?_
            refine aw_aload_n d_Si_sign_96 rfl rfl ?_
            have g8 := q8.resolve_right (fun z => c_89 z.1)
            refine ax_Vr (st := []) (as := [vr 24, vr 33]) (b := 146) d_Si_sign_97 cs_Si_sign_97 (k_146 S) (c_Si_writePacket0 (ch := sgC 0 (byAt I 18 19) (rhC I (-1)) (muC I (fun k => byAt I 18 19 (64 + k)) (-1)) t) (Z := sgZ 0 (byAt I 18 19) (rhC I (-1)) (muC I (fun k => byAt I 18 19 (64 + k)) (-1)) t) (fl := sgF 0 (byAt I 18 19) (rhC I (-1)) (muC I (fun k => byAt I 18 19 (64 + k)) (-1)) t) S ((SD.fc F (by intro a x; omega)).fc T8 (by intro a x; omega)) (((c5.fc F6 (by decide) (by decide)).fc F7 (by decide) (by decide)).fc F8 (by decide) (by decide)) (fun m a b j x y => (F8.1 _ j (by omega)).trans ((F7.1 _ j (by omega)).trans (g6.2.2 m a b j x y))) (fun _ _ _ => sgZ_in) (fun m a b j x y => wiN_18 sgZ_in (g6.2.1 m a b) x y) g8.2.2.1 g8.2.1.2 g8.2.2.2) rfl rfl rfl (fun u_97 q_97 => ?_)
            obtain ⟨F9, H9⟩ := q_97
            have gd : sgGood 0 (byAt I 18 19) (rhC I (-1)) (muC I (fun k => byAt I 18 19 (64 + k)) (-1)) t := ⟨g6.2.1, g7.2.1, g8.2.1.1, g8.2.1.2⟩
            have rn : sgRun 0 (byAt I 18 19) (rhC I (-1)) (muC I (fun k => byAt I 18 19 (64 + k)) (-1)) 814 0 = some t := by rw [run, eN]; exact sgRun_g ok5 gd
            show AW l G M_Si_sign P 100 [(4, vi t), (3, vi (-1)), (2, vr 33), (1, vr 13), (0, vr 146)] [] (sD h u_97 L_65)
            refine aw_iload d_Si_sign_100 rfl ?_
            refine aw_iconst d_Si_sign_102 ⟨by decide, by decide⟩ ?_
            refine ax_iadd d_Si_sign_103 ⟨(by omega), (by omega)⟩ ?_
            exact aw_iret d_Si_sign_104 rfl (hP _ _ (Or.inl ⟨⟨okA, by rw [rn]; exact (fun z => by cases z)⟩, _, _, _, ⟨(F.tr T8 (r := fun a => 36 ≤ a ∧ a ≤ 174 ∧ a ≠ 43) (by intro a x; omega)).tr F9 (by intro a x; omega), t, rn, rfl, H9⟩, rfl, rfl⟩))
  skip
  refine aw_sub (lv' := [(4, vi 0), (3, vi (-1)), (2, vr 33), (1, vr 13), (0, vr 146)]) (by simp) ?_
  exact lp_35 _ 0 I2 L2 (by omega) (G2) (fun m a b j x y => (F2.1 _ j (by omega)).trans ((F1.1 _ j (by omega)).trans (m0 m a b j x y))) (fun m a b j x y => (F2.1 _ j (by omega)).trans ((F1.1 _ j (by omega)).trans (s0 m a b j x y))) (fun m a b j x y => (F2.1 _ j (by omega)).trans ((F1.1 _ j (by omega)).trans (r0 m a b j x y))) (fun m a b j x y => (F2.1 _ j (by omega)).trans ((F1.1 _ j (by omega)).trans (d0 m a b j x y))) (H1.fc F2 (by decide) (by decide)) (H2) (rfl) rfl
set_option maxHeartbeats 800000 in
set_option maxRecDepth 100000 in
theorem c_Si_sign10 {l : Launch} {G : a_G} {h : Hp} {I L : Nat → Int → Int} (S : Shp h) (hfl : l.flags = flags0) (rm : hX h + 1 ≤ a_NX ∧ hU h + 6 ≤ a_US) (SD : Std I L) (cb : CB I) : AW l G M_Si_sign (DvR h I L (sgOk 1 (byAt I 18 19) ∧ sgRun 1 (byAt I 18 19) (rhC I (0)) (muC I (fun k => byAt I 18 19 (64 + k)) (0)) 814 0 ≠ none) (fun v I' L' => FC (fun a => a = 24 ∨ a = 25 ∨ 36 ≤ a ∧ a ≤ 174 ∧ a ≠ 43) I L I' L' ∧ ∃ t, sgRun 1 (byAt I 18 19) (rhC I (0)) (muC I (fun k => byAt I 18 19 (64 + k)) (0)) 814 0 = some t ∧ v = t + 1 ∧ HB I' 24 25 (sPkt 1) (sgPk 1 (byAt I 18 19) (rhC I (0)) (muC I (fun k => byAt I 18 19 (64 + k)) (0)) t))) 0 (a_ar 0 [vr 146, vr 13, vr 34, vi 0]) [] (sD h I L) := by
  suffices key : ∀ P : a_R → Hp → Prop, (∀ r_ h2_, DvR h I L (sgOk 1 (byAt I 18 19) ∧ sgRun 1 (byAt I 18 19) (rhC I (0)) (muC I (fun k => byAt I 18 19 (64 + k)) (0)) 814 0 ≠ none) (fun v I' L' => FC (fun a => a = 24 ∨ a = 25 ∨ 36 ≤ a ∧ a ≤ 174 ∧ a ≠ 43) I L I' L' ∧ ∃ t, sgRun 1 (byAt I 18 19) (rhC I (0)) (muC I (fun k => byAt I 18 19 (64 + k)) (0)) 814 0 = some t ∧ v = t + 1 ∧ HB I' 24 25 (sPkt 1) (sgPk 1 (byAt I 18 19) (rhC I (0)) (muC I (fun k => byAt I 18 19 (64 + k)) (0)) t)) r_ h2_ → P r_ h2_) → AW l G M_Si_sign P 0 [(0, vr 146), (1, vr 13), (2, vr 34), (3, vi 0)] [] (sD h I L) from key _ (fun _ _ q => q)
  intro P hP
  have cb0 : 0 ≤ I 14 1 ∧ I 14 1 ≤ 8192 := cb.1 0 (by decide)
  have cb2 : 0 ≤ I 18 1 ∧ I 18 1 ≤ 8192 := cb.1 2 (by decide)
  refine aw_aload_n d_Si_sign_0 rfl rfl ?_
  refine aw_aload_n d_Si_sign_1 rfl rfl ?_
  refine aw_iconst d_Si_sign_2 ⟨by decide, by decide⟩ ?_
  refine ax_aald (b := 18) d_Si_sign_3 ⟨by rw [(k_13 S)]; decide, by rw [(k_13 S)]; decide⟩ (by omega) (by rw [n_13 S]; omega) (r_13_2 S) ?_
  refine aw_aload_n d_Si_sign_4 rfl rfl ?_
  refine ax_VtT (st := []) (as := [vr 18, vr 34]) (b := 146) d_Si_sign_5 cs_Si_sign_5 (k_146 S) (c_Si_readSecret1 S hfl rm SD (by omega)) rfl rfl rfl (fun ok_5 I_5 L_5 q_5 => ?_) (fun no_5 I_5 L_5 q_5 => at_leave rfl (hP _ _ (Or.inr ⟨fun z => no_5 (by rw [b0_eq]; exact z.1), I_5, L_5, q_5, rfl, rfl⟩)))
  obtain ⟨F0, m0, s0, r0, d0⟩ := q_5
  rw [b0_eq] at ok_5
  have okA : sgOk 1 (byAt I 18 19) := ok_5
  have G0 : FC (fun a => 36 ≤ a ∧ a ≤ 174 ∧ a ≠ 43) I L I_5 L_5 := F0.mono (by intro a x; omega)
  have m0 : ∀ m, 0 ≤ m → m < 30 → eqQ (I_5 (45 + m.toNat)) (sgA 1 (byAt I 18 19) m) := fun m a b c x y => by have z := m0 m a b c x y; rw [b0_eq] at z; exact z
  have s0 : ∀ m, 0 ≤ m → m < 5 → eqQ (I_5 (102 + m.toNat)) (sgV 1 (byAt I 18 19) m) := s0
  have r0 : ∀ m, 0 ≤ m → m < 6 → eqQ (I_5 (110 + m.toNat)) (sgV 1 (byAt I 18 19) (5 + m)) := r0
  have d0 : ∀ m, 0 ≤ m → m < 6 → eqQ (I_5 (148 + m.toNat)) (sgD 1 (byAt I 18 19) m) := d0
  show AW l G M_Si_sign P 8 [(0, vr 146), (1, vr 13), (2, vr 34), (3, vi 0)] [] (sD h I_5 L_5)
  refine aw_aload_n d_Si_sign_8 rfl rfl ?_
  refine ax_getR (b := 36) d_Si_sign_9 fd_Si_38 (k_146 S) (r_146_0 S) ?_
  refine aw_aload_n d_Si_sign_12 rfl rfl ?_
  refine aw_iconst d_Si_sign_13 ⟨by decide, by decide⟩ ?_
  refine ax_aald (b := 18) d_Si_sign_14 ⟨by rw [(k_13 S)]; decide, by rw [(k_13 S)]; decide⟩ (by omega) (by rw [n_13 S]; omega) (r_13_2 S) ?_
  refine aw_bipush d_Si_sign_15 ⟨by decide, by decide⟩ (by decide) ?_
  refine aw_aload_n d_Si_sign_17 rfl rfl ?_
  refine aw_iload_n d_Si_sign_18 rfl rfl ?_
  refine ax_Vr (st := []) (as := [vr 18, vi 64, vr 13, vi 0]) (b := 36) d_Si_sign_19 cs_Si_sign_19 (k_36 S) (c_Be_digestSigned0 S (SD.fc G0 (by intro a x; omega)) (ks S (i := 2) (by decide)) (by decide) (by rw [G0.1 18 1 (by omega), nks S (i := 2) (by decide)]; omega) ⟨fun s hs => by rw [G0.1 _ 1 (by omega)]; exact cb.1 s hs, by rw [G0.1 _ 1 (by omega)]; exact cb.2⟩) rfl rfl rfl (fun u_19 q_19 => ?_)
  obtain ⟨I1, L1⟩ := u_19
  obtain ⟨F1, a1, b1⟩ := q_19
  dsimp only at F1 a1 b1
  have H1 : HB I1 137 138 64 (muC I (fun k => byAt I 18 19 (64 + k)) (0)) := ⟨a1, fun z x y => (b1 z x y).trans (by unfold muC; rw [G0.1 22 1 (by omega), G0.1 20 1 (by omega), show (fun k => byAt I_5 22 23 (0 + k)) = (fun k => byAt I 22 23 (0 + k)) from funext (fun k => byAt_fc G0 (by omega) (by omega)), show (fun k => byAt I_5 20 21 (0 + k)) = (fun k => byAt I 20 21 (0 + k)) from funext (fun k => byAt_fc G0 (by omega) (by omega)), show (fun k => byAt I_5 18 (15 + 2 * 2) (64 + k)) = (fun k => byAt I 18 19 (64 + k)) from funext (fun k => byAt_fc G0 (by omega) (by omega))])⟩
  have G1 : FC (fun a => 36 ≤ a ∧ a ≤ 174 ∧ a ≠ 43) I L I1 L1 := G0.tr F1 (by intro a x; omega)
  show AW l G M_Si_sign P 22 [(0, vr 146), (1, vr 13), (2, vr 34), (3, vi 0)] [] (sD h I1 L1)
  refine aw_aload_n d_Si_sign_22 rfl rfl ?_
  refine aw_aload_n d_Si_sign_23 rfl rfl ?_
  refine aw_iconst d_Si_sign_24 ⟨by decide, by decide⟩ ?_
  refine ax_aald (b := 18) d_Si_sign_25 ⟨by rw [(k_13 S)]; decide, by rw [(k_13 S)]; decide⟩ (by omega) (by rw [n_13 S]; omega) (r_13_2 S) ?_
  refine aw_aload_n d_Si_sign_26 rfl rfl ?_
  refine aw_iconst d_Si_sign_27 ⟨by decide, by decide⟩ ?_
  refine ax_aald (b := 14) d_Si_sign_28 ⟨by rw [(k_13 S)]; decide, by rw [(k_13 S)]; decide⟩ (by omega) (by rw [n_13 S]; omega) (r_13_0 S) ?_
  refine ax_Vr (st := []) (as := [vr 18, vr 14]) (b := 146) d_Si_sign_29 cs_Si_sign_29 (k_146 S) (c_Si_drawMaskSeed S (SD.fc G1 (by intro a x; omega)) (by rw [G1.1 14 1 (by omega), G1.1 18 1 (by omega), H1.1]; omega)) rfl rfl rfl (fun u_29 q_29 => ?_)
  obtain ⟨I2, L2⟩ := u_29
  obtain ⟨F2, H2⟩ := q_29
  dsimp only at F2 H2
  have G2 : FC (fun a => 36 ≤ a ∧ a ≤ 174 ∧ a ≠ 43) I L I2 L2 := G1.tr F2 (by intro a x; omega)
  rw [show (fun k => byAt I1 18 19 (32 + k)) = (fun k => byAt I 18 19 (32 + k)) from funext (fun k => byAt_fc G1 (by omega) (by omega)), show (fun k => byAt I1 14 15 (0 + k)) = (fun k => byAt I 14 15 (0 + k)) from funext (fun k => byAt_fc G1 (by omega) (by omega)), rhS_congr (gd' := (muC I (fun k => byAt I 18 19 (64 + k)) (0))) (fun k hk => by rw [Int.zero_add, H1.2 k (by omega) (by omega)])] at H2
  have H2 : HB I2 164 165 64 (rhC I (0)) := H2
  show AW l G M_Si_sign P 32 [(0, vr 146), (1, vr 13), (2, vr 34), (3, vi 0)] [] (sD h I2 L2)
  refine aw_iconst d_Si_sign_32 ⟨by decide, by decide⟩ ?_
  refine aw_istore (lv' := [(4, vi 0), (0, vr 146), (1, vr 13), (2, vr 34), (3, vi 0)]) d_Si_sign_33 (by decide) rfl ?_
  have lp_35 : ∀ (n_ : Nat) (t : Int) (K : Nat → Int → Int) (M : Nat → Int → Int), (0 ≤ t ∧ t ≤ 814) → (FC (fun a => 36 ≤ a ∧ a ≤ 174 ∧ a ≠ 43) I L K M) → (∀ m, 0 ≤ m → m < 30 → eqQ (K (45 + m.toNat)) (sgA 1 (byAt I 18 19) m)) → (∀ m, 0 ≤ m → m < 5 → eqQ (K (102 + m.toNat)) (sgV 1 (byAt I 18 19) m)) → (∀ m, 0 ≤ m → m < 6 → eqQ (K (110 + m.toNat)) (sgV 1 (byAt I 18 19) (5 + m))) → (∀ m, 0 ≤ m → m < 6 → eqQ (K (148 + m.toNat)) (sgD 1 (byAt I 18 19) m)) → (HB K 137 138 64 (muC I (fun k => byAt I 18 19 (64 + k)) (0))) → (HB K 164 165 64 (rhC I (0))) → (sgRun 1 (byAt I 18 19) (rhC I (0)) (muC I (fun k => byAt I 18 19 (64 + k)) (0)) 814 0 = sgRun 1 (byAt I 18 19) (rhC I (0)) (muC I (fun k => byAt I 18 19 (64 + k)) (0)) (814 - t).toNat t) → ((814 - t).toNat) = n_ → AW l G M_Si_sign P 35 [(4, vi t), (3, vi 0), (2, vr 34), (1, vr 13), (0, vr 146)] [] (sD h K M) := by
    intro n_
    induction n_ using Nat.strongRecOn with
    | _ n_ ih_35 =>
    intro t K M ht F mt sc er dr hd hr run hm_35
    refine aw_iload d_Si_sign_35 rfl ?_
    refine aw_sipush d_Si_sign_37 ⟨by decide, by decide⟩ (by decide) ?_
    refine aw_icmp_ge (tgt := 111) d_Si_sign_40 (by decide) (fun c_40 => ?_) (fun c_40 => ?_)
    · skip
      exact ax_throw hfl th_Si_sign_111 rm.1 rm.2 (hP _ _ (Or.inr ⟨fun z => z.2 (by rw [run, show (814 - t).toNat = 0 by omega]; rfl), K, M, F.frc (by intro a x; omega), rfl, rfl⟩))
    · skip
      refine aw_aload_n d_Si_sign_43 rfl rfl ?_
      refine aw_aload_n d_Si_sign_44 rfl rfl ?_
      refine aw_iload d_Si_sign_45 rfl ?_
      refine aw_aload_n d_Si_sign_47 rfl rfl ?_
      refine ax_getIe (x := 5) d_Si_sign_48 fd_Si_56 (k_34 S) (Eq.trans (F.1 34 1 (by omega)) (pc_34_1 SD.2.1)) ?_
      refine ax_imul d_Si_sign_51 ⟨(by omega), (by omega)⟩ ?_
      refine ax_Vr (st := []) (as := [vr 34, vi (t * 5)]) (b := 146) d_Si_sign_52 cs_Si_sign_52 (k_146 S) (c_Si_drawMasks1 S (SD.fc F (by intro a x; omega)) (by rw [hr.1]; omega)) rfl rfl rfl (fun u_52 q_52 => ?_)
      obtain ⟨I3, L3⟩ := u_52
      obtain ⟨F3, k3, n3⟩ := q_52
      dsimp only at F3 k3 n3
      have T3 : FC (fun a => a = 38 ∨ 119 ≤ a ∧ a ≤ 136 ∨ 139 ≤ a ∧ a ≤ 142 ∨ 157 ≤ a ∧ a ≤ 163 ∨ 166 ≤ a ∧ a ≤ 169) K M I3 L3 := F3.mono (by intro a x; omega)
      have k3 : ∀ m, 0 ≤ m → m < 5 → eqQ (I3 (157 + m.toNat)) (sgM 1 (rhC I (0)) (t * 5 + m)) := fun m a b j x y => by rw [k3 m a b j x y, mskF_congr (rh' := (rhC I (0))) (fun k hk => by rw [Int.zero_add, hr.2 k (by omega) (by omega)])]; rfl
      have n3 : ∀ m, 0 ≤ m → m < 5 → eqQ (I3 (119 + m.toNat)) (fwd rt (sgM 1 (rhC I (0)) (t * 5 + m))) := fun m a b j x y => by rw [n3 m a b j x y, mskF_congr (rh' := (rhC I (0))) (fun k hk => by rw [Int.zero_add, hr.2 k (by omega) (by omega)])]; rfl
      show AW l G M_Si_sign P 55 [(4, vi t), (3, vi 0), (2, vr 34), (1, vr 13), (0, vr 146)] [] (sD h I3 L3)
      refine aw_aload_n d_Si_sign_55 rfl rfl ?_
      refine aw_aload_n d_Si_sign_56 rfl rfl ?_
      refine ax_Vr (st := []) (as := [vr 34]) (b := 146) d_Si_sign_57 cs_Si_sign_57 (k_146 S) (c_Si_commit1 (A := sgA 1 (byAt I 18 19)) (V := fun j => fwd rt (sgM 1 (rhC I (0)) (t * 5 + j))) S ((SD.fc F (by intro a x; omega)).fc T3 (by intro a x; omega)) (fun m a b j x y => (T3.1 _ j (by omega)).trans (mt m a b j x y)) (fun _ _ _ => sgA_in) n3 (fun _ _ _ => fwd_in sgM_in) (by rw [T3.1 137 1 (by omega), hd.1]; omega)) rfl rfl rfl (fun u_57 q_57 => ?_)
      obtain ⟨I4, L4⟩ := u_57
      obtain ⟨F4, w4, c4⟩ := q_57
      dsimp only at F4 w4 c4
      have T4 : FC (fun a => a = 38 ∨ 119 ≤ a ∧ a ≤ 136 ∨ 139 ≤ a ∧ a ≤ 142 ∨ 157 ≤ a ∧ a ≤ 163 ∨ 166 ≤ a ∧ a ≤ 169) K M I4 L4 := T3.tr F4 (by intro a x; omega)
      have w4 : ∀ m, 0 ≤ m → m < 6 → eqQ (I4 (127 + m.toNat)) (sgW 1 (byAt I 18 19) (rhC I (0)) t m) := w4
      rw [hhS_congr (gd' := (muC I (fun k => byAt I 18 19 (64 + k)) (0))) (fun k hk => by rw [Int.zero_add, byAt_fc T3 (by omega) (by omega), hd.2 k (by omega) (by omega)]) (fun k _ => rfl)] at c4
      have c4 : HB I4 139 140 48 (sgC 1 (byAt I 18 19) (rhC I (0)) (muC I (fun k => byAt I 18 19 (64 + k)) (0)) t) := c4
      have eB : blS (fun k => byAt I4 139 140 (0 + k)) (I4 139 1) = sgBs 1 (byAt I 18 19) (rhC I (0)) (muC I (fun k => byAt I 18 19 (64 + k)) (0)) t := by rw [c4.1]; exact blS_congr (fun k hk => by rw [Int.zero_add, c4.2 k (by omega) hk])
      show AW l G M_Si_sign P 60 [(4, vi t), (3, vi 0), (2, vr 34), (1, vr 13), (0, vr 146)] [] (sD h I4 L4)
      refine aw_aload_n d_Si_sign_60 rfl rfl ?_
      refine ax_getR (b := 36) d_Si_sign_61 fd_Si_38 (k_146 S) (r_146_0 S) ?_
      refine aw_aload_n d_Si_sign_64 rfl rfl ?_
      refine ax_VtT (st := []) (as := [vr 34]) (b := 36) d_Si_sign_65 cs_Si_sign_65 (k_36 S) (c_Be_castBall1 S hfl rm ((SD.fc F (by intro a x; omega)).fc T4 (by intro a x; omega)) (by rw [c4.1]; omega)) rfl rfl rfl (fun ok_65 I_65 L_65 q_65 => ?_) (fun no_65 I_65 L_65 q_65 => at_leave rfl (hP _ _ (Or.inr ⟨fun z => z.2 (by rw [run, show (814 - t).toNat = (814 - (t + 1)).toNat + 1 by omega]; rw [eB] at no_65; exact sgRun_x (Classical.byContradiction (fun y => no_65 y))), I_65, L_65, ((F.frc (by intro a x; omega)).tr (T4.frc (by intro a x; omega))).tr q_65, rfl, rfl⟩)))
      obtain ⟨F5, b5⟩ := q_65
      rw [eB] at ok_65 b5
      have ok5 : bll (pT 1) (sgBs 1 (byAt I 18 19) (rhC I (0)) (muC I (fun k => byAt I 18 19 (64 + k)) (0)) t) ≠ none := ok_65
      have T5 : FC (fun a => a = 38 ∨ 119 ≤ a ∧ a ≤ 136 ∨ 139 ≤ a ∧ a ≤ 142 ∨ 157 ≤ a ∧ a ≤ 163 ∨ 166 ≤ a ∧ a ≤ 169) K M I_65 L_65 := T4.tr F5 (by intro a x; omega)
      have b5 : eqQ (I_65 135) (sgB 1 (byAt I 18 19) (rhC I (0)) (muC I (fun k => byAt I 18 19 (64 + k)) (0)) t) := b5
      have w5 : ∀ m, 0 ≤ m → m < 6 → eqQ (I_65 (127 + m.toNat)) (sgW 1 (byAt I 18 19) (rhC I (0)) t m) := fun m a b j x y => (F5.1 _ j (by omega)).trans (w4 m a b j x y)
      have c5 := c4.fc F5 (by decide) (by decide)
      have k5 : ∀ m, 0 ≤ m → m < 5 → eqQ (I_65 (157 + m.toNat)) (sgM 1 (rhC I (0)) (t * 5 + m)) := fun m a b j x y => (F5.1 _ j (by omega)).trans ((F4.1 _ j (by omega)).trans (k3 m a b j x y))
      have eN : (814 - t).toNat = (814 - (t + 1)).toNat + 1 := by omega
      show AW l G M_Si_sign P 68 [(4, vi t), (3, vi 0), (2, vr 34), (1, vr 13), (0, vr 146)] [] (sD h I_65 L_65)
      refine aw_aload_n d_Si_sign_68 rfl rfl ?_
      refine aw_aload_n d_Si_sign_69 rfl rfl ?_
      refine ax_Vr (st := []) (as := [vr 34]) (b := 146) d_Si_sign_70 cs_Si_sign_70 (k_146 S) (c_Si_answersHide1 (B := (sgB 1 (byAt I 18 19) (rhC I (0)) (muC I (fun k => byAt I 18 19 (64 + k)) (0)) t)) (V := sgV 1 (byAt I 18 19)) (Mk := fun m => sgM 1 (rhC I (0)) (t * 5 + m)) S ((SD.fc F (by intro a x; omega)).fc T5 (by intro a x; omega)) b5 sgB_in k5 (fun _ _ _ => sgM_in) (fun m a b j x y => (T5.1 _ j (by omega)).trans (sc m a b j x y)) (fun _ _ _ => sgV_in)) rfl rfl rfl (fun u_70 q_70 => ?_)
      obtain ⟨v6, K6⟩ := u_70
      obtain ⟨F6, q6⟩ := q_70
      dsimp only at F6 q6
      have T6 : FC (fun a => a = 38 ∨ 119 ≤ a ∧ a ≤ 136 ∨ 139 ≤ a ∧ a ≤ 142 ∨ 157 ≤ a ∧ a ≤ 163 ∨ 166 ≤ a ∧ a ≤ 169) K M K6 L_65 := T5.tr F6 (by intro a x; omega)
      show AW l G M_Si_sign P 73 [(4, vi t), (3, vi 0), (2, vr 34), (1, vr 13), (0, vr 146)] [vi v6] (sD h K6 L_65)
      refine aw_if_eq (tgt := 105) d_Si_sign_73 (by decide) (fun c_73 => ?_) (fun c_73 => ?_)
      · skip
        refine ax_iinc (lv' := [(4, vi (t + 1)), (3, vi 0), (2, vr 34), (1, vr 13), (0, vr 146)]) d_Si_sign_105 rfl (by decide) ⟨(by omega), (by omega)⟩ rfl ?_
        refine aw_goto (tgt := 35) d_Si_sign_108 (by decide) ?_
        exact ih_35 _ (by omega) (t + 1) K6 L_65 (by omega) (F.tr T6 (by intro a x; omega)) (fun m a b j x y => (T6.1 _ j (by omega)).trans (mt m a b j x y)) (fun m a b j x y => (T6.1 _ j (by omega)).trans (sc m a b j x y)) (fun m a b j x y => (T6.1 _ j (by omega)).trans (er m a b j x y)) (fun m a b j x y => (T6.1 _ j (by omega)).trans (dr m a b j x y)) (hd.fc T6 (by omega) (by omega)) (hr.fc T6 (by omega) (by omega)) (by rw [run, eN]; exact sgRun_n ok5 (fun z => by rcases q6 with y | y; exact absurd y.1 (by omega); exact y.2 z.1)) rfl
      · skip
        refine aw_aload_n d_Si_sign_76 rfl rfl ?_
        refine aw_aload_n d_Si_sign_77 rfl rfl ?_
        have g6 := q6.resolve_right (fun z => c_73 z.1)
        refine ax_Vr (st := []) (as := [vr 34]) (b := 146) d_Si_sign_78 cs_Si_sign_78 (k_146 S) (c_Si_lowsHide1 (B := (sgB 1 (byAt I 18 19) (rhC I (0)) (muC I (fun k => byAt I 18 19 (64 + k)) (0)) t)) (V := fun m => sgV 1 (byAt I 18 19) (5 + m)) (W := sgW 1 (byAt I 18 19) (rhC I (0)) t) S ((SD.fc F (by intro a x; omega)).fc T6 (by intro a x; omega)) (fun j x y => (F6.1 _ j (by omega)).trans (b5 j x y)) sgB_in (fun m a b j x y => (F6.1 _ j (by omega)).trans (w5 m a b j x y)) (fun _ _ _ => imF_in) (fun m a b j x y => (T6.1 _ j (by omega)).trans (er m a b j x y)) (fun _ _ _ => sgV_in)) rfl rfl rfl (fun u_78 q_78 => ?_)
        obtain ⟨v7, K7⟩ := u_78
        obtain ⟨F7, q7⟩ := q_78
        dsimp only at F7 q7
        have T7 : FC (fun a => a = 38 ∨ 119 ≤ a ∧ a ≤ 136 ∨ 139 ≤ a ∧ a ≤ 142 ∨ 157 ≤ a ∧ a ≤ 163 ∨ 166 ≤ a ∧ a ≤ 169) K M K7 L_65 := T6.tr F7 (by intro a x; omega)
        show AW l G M_Si_sign P 81 [(4, vi t), (3, vi 0), (2, vr 34), (1, vr 13), (0, vr 146)] [vi v7] (sD h K7 L_65)
        refine aw_if_eq (tgt := 105) d_Si_sign_81 (by decide) (fun c_81 => ?_) (fun c_81 => ?_)
        · skip
          refine ax_iinc (lv' := [(4, vi (t + 1)), (3, vi 0), (2, vr 34), (1, vr 13), (0, vr 146)]) d_Si_sign_105 rfl (by decide) ⟨(by omega), (by omega)⟩ rfl ?_
          refine aw_goto (tgt := 35) d_Si_sign_108 (by decide) ?_
          exact ih_35 _ (by omega) (t + 1) K7 L_65 (by omega) (F.tr T7 (by intro a x; omega)) (fun m a b j x y => (T7.1 _ j (by omega)).trans (mt m a b j x y)) (fun m a b j x y => (T7.1 _ j (by omega)).trans (sc m a b j x y)) (fun m a b j x y => (T7.1 _ j (by omega)).trans (er m a b j x y)) (fun m a b j x y => (T7.1 _ j (by omega)).trans (dr m a b j x y)) (hd.fc T7 (by omega) (by omega)) (hr.fc T7 (by omega) (by omega)) (by rw [run, eN]; exact sgRun_n ok5 (fun z => by rcases q7 with y | y; exact absurd y.1 (by omega); exact y.2 z.2.1)) rfl
        · skip
          refine aw_aload_n d_Si_sign_84 rfl rfl ?_
          refine aw_aload_n d_Si_sign_85 rfl rfl ?_
          have g7 := q7.resolve_right (fun z => c_81 z.1)
          refine ax_Vr (st := []) (as := [vr 34]) (b := 146) d_Si_sign_86 cs_Si_sign_86 (k_146 S) (c_Si_hintsSuffice1 (B := (sgB 1 (byAt I 18 19) (rhC I (0)) (muC I (fun k => byAt I 18 19 (64 + k)) (0)) t)) (V := sgD 1 (byAt I 18 19)) (W := sgR 1 (byAt I 18 19) (rhC I (0)) (muC I (fun k => byAt I 18 19 (64 + k)) (0)) t) (fl := sgF 1 (byAt I 18 19) (rhC I (0)) (muC I (fun k => byAt I 18 19 (64 + k)) (0)) t) S ((SD.fc F (by intro a x; omega)).fc T7 (by intro a x; omega)) (fun j x y => (F7.1 _ j (by omega)).trans ((F6.1 _ j (by omega)).trans (b5 j x y))) sgB_in g7.2.2 (fun _ _ _ => sgR_in) (fun m a b j x y => (T7.1 _ j (by omega)).trans (dr m a b j x y)) (fun _ _ _ => sgD_in) (fun m hm j hj => sgF_at hj)) rfl rfl rfl (fun u_86 q_86 => ?_)
          obtain ⟨v8, K8⟩ := u_86
          obtain ⟨F8, q8⟩ := q_86
          dsimp only at F8 q8
          have T8 : FC (fun a => a = 38 ∨ 119 ≤ a ∧ a ≤ 136 ∨ 139 ≤ a ∧ a ≤ 142 ∨ 157 ≤ a ∧ a ≤ 163 ∨ 166 ≤ a ∧ a ≤ 169) K M K8 L_65 := T7.tr F8 (by intro a x; omega)
          show AW l G M_Si_sign P 89 [(4, vi t), (3, vi 0), (2, vr 34), (1, vr 13), (0, vr 146)] [vi v8] (sD h K8 L_65)
          refine aw_if_eq (tgt := 105) d_Si_sign_89 (by decide) (fun c_89 => ?_) (fun c_89 => ?_)
          · skip
            refine ax_iinc (lv' := [(4, vi (t + 1)), (3, vi 0), (2, vr 34), (1, vr 13), (0, vr 146)]) d_Si_sign_105 rfl (by decide) ⟨(by omega), (by omega)⟩ rfl ?_
            refine aw_goto (tgt := 35) d_Si_sign_108 (by decide) ?_
            exact ih_35 _ (by omega) (t + 1) K8 L_65 (by omega) (F.tr T8 (by intro a x; omega)) (fun m a b j x y => (T8.1 _ j (by omega)).trans (mt m a b j x y)) (fun m a b j x y => (T8.1 _ j (by omega)).trans (sc m a b j x y)) (fun m a b j x y => (T8.1 _ j (by omega)).trans (er m a b j x y)) (fun m a b j x y => (T8.1 _ j (by omega)).trans (dr m a b j x y)) (hd.fc T8 (by omega) (by omega)) (hr.fc T8 (by omega) (by omega)) (by rw [run, eN]; exact sgRun_n ok5 (fun z => by rcases q8 with y | y; exact absurd y.1 (by omega); exact y.2 z.2.2)) rfl
          · skip
            refine aw_aload_n d_Si_sign_92 rfl rfl ?_
            refine aw_aload_n d_Si_sign_93 rfl rfl ?_
            refine aw_iconst d_Si_sign_94 ⟨by decide, by decide⟩ ?_
            refine ax_aald (b := 24) d_Si_sign_95 ⟨by rw [(k_13 S)]; decide, by rw [(k_13 S)]; decide⟩ (by omega) (by rw [n_13 S]; omega) (r_13_5 S) ?_
            refine aw_aload_n d_Si_sign_96 rfl rfl ?_
            have g8 := q8.resolve_right (fun z => c_89 z.1)
            refine ax_Vr (st := []) (as := [vr 24, vr 34]) (b := 146) d_Si_sign_97 cs_Si_sign_97 (k_146 S) (c_Si_writePacket1 (ch := sgC 1 (byAt I 18 19) (rhC I (0)) (muC I (fun k => byAt I 18 19 (64 + k)) (0)) t) (Z := sgZ 1 (byAt I 18 19) (rhC I (0)) (muC I (fun k => byAt I 18 19 (64 + k)) (0)) t) (fl := sgF 1 (byAt I 18 19) (rhC I (0)) (muC I (fun k => byAt I 18 19 (64 + k)) (0)) t) S ((SD.fc F (by intro a x; omega)).fc T8 (by intro a x; omega)) (((c5.fc F6 (by decide) (by decide)).fc F7 (by decide) (by decide)).fc F8 (by decide) (by decide)) (fun m a b j x y => (F8.1 _ j (by omega)).trans ((F7.1 _ j (by omega)).trans (g6.2.2 m a b j x y))) (fun _ _ _ => sgZ_in) (fun m a b j x y => wiN_20 (by decide) sgZ_in (g6.2.1 m a b) x y) g8.2.2.1 g8.2.1.2 g8.2.2.2) rfl rfl rfl (fun u_97 q_97 => ?_)
            obtain ⟨F9, H9⟩ := q_97
            have gd : sgGood 1 (byAt I 18 19) (rhC I (0)) (muC I (fun k => byAt I 18 19 (64 + k)) (0)) t := ⟨g6.2.1, g7.2.1, g8.2.1.1, g8.2.1.2⟩
            have rn : sgRun 1 (byAt I 18 19) (rhC I (0)) (muC I (fun k => byAt I 18 19 (64 + k)) (0)) 814 0 = some t := by rw [run, eN]; exact sgRun_g ok5 gd
            show AW l G M_Si_sign P 100 [(4, vi t), (3, vi 0), (2, vr 34), (1, vr 13), (0, vr 146)] [] (sD h u_97 L_65)
            refine aw_iload d_Si_sign_100 rfl ?_
            refine aw_iconst d_Si_sign_102 ⟨by decide, by decide⟩ ?_
            refine ax_iadd d_Si_sign_103 ⟨(by omega), (by omega)⟩ ?_
            exact aw_iret d_Si_sign_104 rfl (hP _ _ (Or.inl ⟨⟨okA, by rw [rn]; exact (fun z => by cases z)⟩, _, _, _, ⟨(F.tr T8 (r := fun a => 36 ≤ a ∧ a ≤ 174 ∧ a ≠ 43) (by intro a x; omega)).tr F9 (by intro a x; omega), t, rn, rfl, H9⟩, rfl, rfl⟩))
  skip
  refine aw_sub (lv' := [(4, vi 0), (3, vi 0), (2, vr 34), (1, vr 13), (0, vr 146)]) (by simp) ?_
  exact lp_35 _ 0 I2 L2 (by omega) (G2) (fun m a b j x y => (F2.1 _ j (by omega)).trans ((F1.1 _ j (by omega)).trans (m0 m a b j x y))) (fun m a b j x y => (F2.1 _ j (by omega)).trans ((F1.1 _ j (by omega)).trans (s0 m a b j x y))) (fun m a b j x y => (F2.1 _ j (by omega)).trans ((F1.1 _ j (by omega)).trans (r0 m a b j x y))) (fun m a b j x y => (F2.1 _ j (by omega)).trans ((F1.1 _ j (by omega)).trans (d0 m a b j x y))) (H1.fc F2 (by decide) (by decide)) (H2) (rfl) rfl
set_option maxHeartbeats 800000 in
set_option maxRecDepth 100000 in
theorem c_Si_sign1N {l : Launch} {G : a_G} {h : Hp} {I L : Nat → Int → Int} (S : Shp h) (hfl : l.flags = flags0) (rm : hX h + 1 ≤ a_NX ∧ hU h + 6 ≤ a_US) (SD : Std I L) (cb : CB I) : AW l G M_Si_sign (DvR h I L (sgOk 1 (byAt I 18 19) ∧ sgRun 1 (byAt I 18 19) (rhC I (-1)) (muC I (fun k => byAt I 18 19 (64 + k)) (-1)) 814 0 ≠ none) (fun v I' L' => FC (fun a => a = 24 ∨ a = 25 ∨ 36 ≤ a ∧ a ≤ 174 ∧ a ≠ 43) I L I' L' ∧ ∃ t, sgRun 1 (byAt I 18 19) (rhC I (-1)) (muC I (fun k => byAt I 18 19 (64 + k)) (-1)) 814 0 = some t ∧ v = t + 1 ∧ HB I' 24 25 (sPkt 1) (sgPk 1 (byAt I 18 19) (rhC I (-1)) (muC I (fun k => byAt I 18 19 (64 + k)) (-1)) t))) 0 (a_ar 0 [vr 146, vr 13, vr 34, vi (-1)]) [] (sD h I L) := by
  suffices key : ∀ P : a_R → Hp → Prop, (∀ r_ h2_, DvR h I L (sgOk 1 (byAt I 18 19) ∧ sgRun 1 (byAt I 18 19) (rhC I (-1)) (muC I (fun k => byAt I 18 19 (64 + k)) (-1)) 814 0 ≠ none) (fun v I' L' => FC (fun a => a = 24 ∨ a = 25 ∨ 36 ≤ a ∧ a ≤ 174 ∧ a ≠ 43) I L I' L' ∧ ∃ t, sgRun 1 (byAt I 18 19) (rhC I (-1)) (muC I (fun k => byAt I 18 19 (64 + k)) (-1)) 814 0 = some t ∧ v = t + 1 ∧ HB I' 24 25 (sPkt 1) (sgPk 1 (byAt I 18 19) (rhC I (-1)) (muC I (fun k => byAt I 18 19 (64 + k)) (-1)) t)) r_ h2_ → P r_ h2_) → AW l G M_Si_sign P 0 [(0, vr 146), (1, vr 13), (2, vr 34), (3, vi (-1))] [] (sD h I L) from key _ (fun _ _ q => q)
  intro P hP
  have cb0 : 0 ≤ I 14 1 ∧ I 14 1 ≤ 8192 := cb.1 0 (by decide)
  have cb2 : 0 ≤ I 18 1 ∧ I 18 1 ≤ 8192 := cb.1 2 (by decide)
  refine aw_aload_n d_Si_sign_0 rfl rfl ?_
  refine aw_aload_n d_Si_sign_1 rfl rfl ?_
  refine aw_iconst d_Si_sign_2 ⟨by decide, by decide⟩ ?_
  refine ax_aald (b := 18) d_Si_sign_3 ⟨by rw [(k_13 S)]; decide, by rw [(k_13 S)]; decide⟩ (by omega) (by rw [n_13 S]; omega) (r_13_2 S) ?_
  refine aw_aload_n d_Si_sign_4 rfl rfl ?_
  refine ax_VtT (st := []) (as := [vr 18, vr 34]) (b := 146) d_Si_sign_5 cs_Si_sign_5 (k_146 S) (c_Si_readSecret1 S hfl rm SD (by omega)) rfl rfl rfl (fun ok_5 I_5 L_5 q_5 => ?_) (fun no_5 I_5 L_5 q_5 => at_leave rfl (hP _ _ (Or.inr ⟨fun z => no_5 (by rw [b0_eq]; exact z.1), I_5, L_5, q_5, rfl, rfl⟩)))
  obtain ⟨F0, m0, s0, r0, d0⟩ := q_5
  rw [b0_eq] at ok_5
  have okA : sgOk 1 (byAt I 18 19) := ok_5
  have G0 : FC (fun a => 36 ≤ a ∧ a ≤ 174 ∧ a ≠ 43) I L I_5 L_5 := F0.mono (by intro a x; omega)
  have m0 : ∀ m, 0 ≤ m → m < 30 → eqQ (I_5 (45 + m.toNat)) (sgA 1 (byAt I 18 19) m) := fun m a b c x y => by have z := m0 m a b c x y; rw [b0_eq] at z; exact z
  have s0 : ∀ m, 0 ≤ m → m < 5 → eqQ (I_5 (102 + m.toNat)) (sgV 1 (byAt I 18 19) m) := s0
  have r0 : ∀ m, 0 ≤ m → m < 6 → eqQ (I_5 (110 + m.toNat)) (sgV 1 (byAt I 18 19) (5 + m)) := r0
  have d0 : ∀ m, 0 ≤ m → m < 6 → eqQ (I_5 (148 + m.toNat)) (sgD 1 (byAt I 18 19) m) := d0
  show AW l G M_Si_sign P 8 [(0, vr 146), (1, vr 13), (2, vr 34), (3, vi (-1))] [] (sD h I_5 L_5)
  refine aw_aload_n d_Si_sign_8 rfl rfl ?_
  refine ax_getR (b := 36) d_Si_sign_9 fd_Si_38 (k_146 S) (r_146_0 S) ?_
  refine aw_aload_n d_Si_sign_12 rfl rfl ?_
  refine aw_iconst d_Si_sign_13 ⟨by decide, by decide⟩ ?_
  refine ax_aald (b := 18) d_Si_sign_14 ⟨by rw [(k_13 S)]; decide, by rw [(k_13 S)]; decide⟩ (by omega) (by rw [n_13 S]; omega) (r_13_2 S) ?_
  refine aw_bipush d_Si_sign_15 ⟨by decide, by decide⟩ (by decide) ?_
  refine aw_aload_n d_Si_sign_17 rfl rfl ?_
  refine aw_iload_n d_Si_sign_18 rfl rfl ?_
  refine ax_Vr (st := []) (as := [vr 18, vi 64, vr 13, vi (-1)]) (b := 36) d_Si_sign_19 cs_Si_sign_19 (k_36 S) (c_Be_digestSignedN S (SD.fc G0 (by intro a x; omega)) (ks S (i := 2) (by decide)) (by decide) (by rw [G0.1 18 1 (by omega), nks S (i := 2) (by decide)]; omega) ⟨fun s hs => by rw [G0.1 _ 1 (by omega)]; exact cb.1 s hs, by rw [G0.1 _ 1 (by omega)]; exact cb.2⟩) rfl rfl rfl (fun u_19 q_19 => ?_)
  obtain ⟨I1, L1⟩ := u_19
  obtain ⟨F1, a1, b1⟩ := q_19
  dsimp only at F1 a1 b1
  have H1 : HB I1 137 138 64 (muC I (fun k => byAt I 18 19 (64 + k)) (-1)) := ⟨a1, fun z x y => (b1 z x y).trans (by unfold muC; rw [G0.1 22 1 (by omega), G0.1 20 1 (by omega), show (fun k => byAt I_5 22 23 (0 + k)) = (fun k => byAt I 22 23 (0 + k)) from funext (fun k => byAt_fc G0 (by omega) (by omega)), show (fun k => byAt I_5 20 21 (0 + k)) = (fun k => byAt I 20 21 (0 + k)) from funext (fun k => byAt_fc G0 (by omega) (by omega)), show (fun k => byAt I_5 18 (15 + 2 * 2) (64 + k)) = (fun k => byAt I 18 19 (64 + k)) from funext (fun k => byAt_fc G0 (by omega) (by omega))])⟩
  have G1 : FC (fun a => 36 ≤ a ∧ a ≤ 174 ∧ a ≠ 43) I L I1 L1 := G0.tr F1 (by intro a x; omega)
  show AW l G M_Si_sign P 22 [(0, vr 146), (1, vr 13), (2, vr 34), (3, vi (-1))] [] (sD h I1 L1)
  refine aw_aload_n d_Si_sign_22 rfl rfl ?_
  refine aw_aload_n d_Si_sign_23 rfl rfl ?_
  refine aw_iconst d_Si_sign_24 ⟨by decide, by decide⟩ ?_
  refine ax_aald (b := 18) d_Si_sign_25 ⟨by rw [(k_13 S)]; decide, by rw [(k_13 S)]; decide⟩ (by omega) (by rw [n_13 S]; omega) (r_13_2 S) ?_
  refine aw_aload_n d_Si_sign_26 rfl rfl ?_
  refine aw_iconst d_Si_sign_27 ⟨by decide, by decide⟩ ?_
  refine ax_aald (b := 14) d_Si_sign_28 ⟨by rw [(k_13 S)]; decide, by rw [(k_13 S)]; decide⟩ (by omega) (by rw [n_13 S]; omega) (r_13_0 S) ?_
  refine ax_Vr (st := []) (as := [vr 18, vr 14]) (b := 146) d_Si_sign_29 cs_Si_sign_29 (k_146 S) (c_Si_drawMaskSeed S (SD.fc G1 (by intro a x; omega)) (by rw [G1.1 14 1 (by omega), G1.1 18 1 (by omega), H1.1]; omega)) rfl rfl rfl (fun u_29 q_29 => ?_)
  obtain ⟨I2, L2⟩ := u_29
  obtain ⟨F2, H2⟩ := q_29
  dsimp only at F2 H2
  have G2 : FC (fun a => 36 ≤ a ∧ a ≤ 174 ∧ a ≠ 43) I L I2 L2 := G1.tr F2 (by intro a x; omega)
  rw [show (fun k => byAt I1 18 19 (32 + k)) = (fun k => byAt I 18 19 (32 + k)) from funext (fun k => byAt_fc G1 (by omega) (by omega)), show (fun k => byAt I1 14 15 (0 + k)) = (fun k => byAt I 14 15 (0 + k)) from funext (fun k => byAt_fc G1 (by omega) (by omega)), rhS_congr (gd' := (muC I (fun k => byAt I 18 19 (64 + k)) (-1))) (fun k hk => by rw [Int.zero_add, H1.2 k (by omega) (by omega)])] at H2
  have H2 : HB I2 164 165 64 (rhC I (-1)) := H2
  show AW l G M_Si_sign P 32 [(0, vr 146), (1, vr 13), (2, vr 34), (3, vi (-1))] [] (sD h I2 L2)
  refine aw_iconst d_Si_sign_32 ⟨by decide, by decide⟩ ?_
  refine aw_istore (lv' := [(4, vi 0), (0, vr 146), (1, vr 13), (2, vr 34), (3, vi (-1))]) d_Si_sign_33 (by decide) rfl ?_
  have lp_35 : ∀ (n_ : Nat) (t : Int) (K : Nat → Int → Int) (M : Nat → Int → Int), (0 ≤ t ∧ t ≤ 814) → (FC (fun a => 36 ≤ a ∧ a ≤ 174 ∧ a ≠ 43) I L K M) → (∀ m, 0 ≤ m → m < 30 → eqQ (K (45 + m.toNat)) (sgA 1 (byAt I 18 19) m)) → (∀ m, 0 ≤ m → m < 5 → eqQ (K (102 + m.toNat)) (sgV 1 (byAt I 18 19) m)) → (∀ m, 0 ≤ m → m < 6 → eqQ (K (110 + m.toNat)) (sgV 1 (byAt I 18 19) (5 + m))) → (∀ m, 0 ≤ m → m < 6 → eqQ (K (148 + m.toNat)) (sgD 1 (byAt I 18 19) m)) → (HB K 137 138 64 (muC I (fun k => byAt I 18 19 (64 + k)) (-1))) → (HB K 164 165 64 (rhC I (-1))) → (sgRun 1 (byAt I 18 19) (rhC I (-1)) (muC I (fun k => byAt I 18 19 (64 + k)) (-1)) 814 0 = sgRun 1 (byAt I 18 19) (rhC I (-1)) (muC I (fun k => byAt I 18 19 (64 + k)) (-1)) (814 - t).toNat t) → ((814 - t).toNat) = n_ → AW l G M_Si_sign P 35 [(4, vi t), (3, vi (-1)), (2, vr 34), (1, vr 13), (0, vr 146)] [] (sD h K M) := by
    intro n_
    induction n_ using Nat.strongRecOn with
    | _ n_ ih_35 =>
    intro t K M ht F mt sc er dr hd hr run hm_35
    refine aw_iload d_Si_sign_35 rfl ?_
    refine aw_sipush d_Si_sign_37 ⟨by decide, by decide⟩ (by decide) ?_
    refine aw_icmp_ge (tgt := 111) d_Si_sign_40 (by decide) (fun c_40 => ?_) (fun c_40 => ?_)
    · skip
      exact ax_throw hfl th_Si_sign_111 rm.1 rm.2 (hP _ _ (Or.inr ⟨fun z => z.2 (by rw [run, show (814 - t).toNat = 0 by omega]; rfl), K, M, F.frc (by intro a x; omega), rfl, rfl⟩))
    · skip
      refine aw_aload_n d_Si_sign_43 rfl rfl ?_
      refine aw_aload_n d_Si_sign_44 rfl rfl ?_
      refine aw_iload d_Si_sign_45 rfl ?_
      refine aw_aload_n d_Si_sign_47 rfl rfl ?_
      refine ax_getIe (x := 5) d_Si_sign_48 fd_Si_56 (k_34 S) (Eq.trans (F.1 34 1 (by omega)) (pc_34_1 SD.2.1)) ?_
      refine ax_imul d_Si_sign_51 ⟨(by omega), (by omega)⟩ ?_
      refine ax_Vr (st := []) (as := [vr 34, vi (t * 5)]) (b := 146) d_Si_sign_52 cs_Si_sign_52 (k_146 S) (c_Si_drawMasks1 S (SD.fc F (by intro a x; omega)) (by rw [hr.1]; omega)) rfl rfl rfl (fun u_52 q_52 => ?_)
      obtain ⟨I3, L3⟩ := u_52
      obtain ⟨F3, k3, n3⟩ := q_52
      dsimp only at F3 k3 n3
      have T3 : FC (fun a => a = 38 ∨ 119 ≤ a ∧ a ≤ 136 ∨ 139 ≤ a ∧ a ≤ 142 ∨ 157 ≤ a ∧ a ≤ 163 ∨ 166 ≤ a ∧ a ≤ 169) K M I3 L3 := F3.mono (by intro a x; omega)
      have k3 : ∀ m, 0 ≤ m → m < 5 → eqQ (I3 (157 + m.toNat)) (sgM 1 (rhC I (-1)) (t * 5 + m)) := fun m a b j x y => by rw [k3 m a b j x y, mskF_congr (rh' := (rhC I (-1))) (fun k hk => by rw [Int.zero_add, hr.2 k (by omega) (by omega)])]; rfl
      have n3 : ∀ m, 0 ≤ m → m < 5 → eqQ (I3 (119 + m.toNat)) (fwd rt (sgM 1 (rhC I (-1)) (t * 5 + m))) := fun m a b j x y => by rw [n3 m a b j x y, mskF_congr (rh' := (rhC I (-1))) (fun k hk => by rw [Int.zero_add, hr.2 k (by omega) (by omega)])]; rfl
      show AW l G M_Si_sign P 55 [(4, vi t), (3, vi (-1)), (2, vr 34), (1, vr 13), (0, vr 146)] [] (sD h I3 L3)
      refine aw_aload_n d_Si_sign_55 rfl rfl ?_
      refine aw_aload_n d_Si_sign_56 rfl rfl ?_
      refine ax_Vr (st := []) (as := [vr 34]) (b := 146) d_Si_sign_57 cs_Si_sign_57 (k_146 S) (c_Si_commit1 (A := sgA 1 (byAt I 18 19)) (V := fun j => fwd rt (sgM 1 (rhC I (-1)) (t * 5 + j))) S ((SD.fc F (by intro a x; omega)).fc T3 (by intro a x; omega)) (fun m a b j x y => (T3.1 _ j (by omega)).trans (mt m a b j x y)) (fun _ _ _ => sgA_in) n3 (fun _ _ _ => fwd_in sgM_in) (by rw [T3.1 137 1 (by omega), hd.1]; omega)) rfl rfl rfl (fun u_57 q_57 => ?_)
      obtain ⟨I4, L4⟩ := u_57
      obtain ⟨F4, w4, c4⟩ := q_57
      dsimp only at F4 w4 c4
      have T4 : FC (fun a => a = 38 ∨ 119 ≤ a ∧ a ≤ 136 ∨ 139 ≤ a ∧ a ≤ 142 ∨ 157 ≤ a ∧ a ≤ 163 ∨ 166 ≤ a ∧ a ≤ 169) K M I4 L4 := T3.tr F4 (by intro a x; omega)
      have w4 : ∀ m, 0 ≤ m → m < 6 → eqQ (I4 (127 + m.toNat)) (sgW 1 (byAt I 18 19) (rhC I (-1)) t m) := w4
      rw [hhS_congr (gd' := (muC I (fun k => byAt I 18 19 (64 + k)) (-1))) (fun k hk => by rw [Int.zero_add, byAt_fc T3 (by omega) (by omega), hd.2 k (by omega) (by omega)]) (fun k _ => rfl)] at c4
      have c4 : HB I4 139 140 48 (sgC 1 (byAt I 18 19) (rhC I (-1)) (muC I (fun k => byAt I 18 19 (64 + k)) (-1)) t) := c4
      have eB : blS (fun k => byAt I4 139 140 (0 + k)) (I4 139 1) = sgBs 1 (byAt I 18 19) (rhC I (-1)) (muC I (fun k => byAt I 18 19 (64 + k)) (-1)) t := by rw [c4.1]; exact blS_congr (fun k hk => by rw [Int.zero_add, c4.2 k (by omega) hk])
      show AW l G M_Si_sign P 60 [(4, vi t), (3, vi (-1)), (2, vr 34), (1, vr 13), (0, vr 146)] [] (sD h I4 L4)
      refine aw_aload_n d_Si_sign_60 rfl rfl ?_
      refine ax_getR (b := 36) d_Si_sign_61 fd_Si_38 (k_146 S) (r_146_0 S) ?_
      refine aw_aload_n d_Si_sign_64 rfl rfl ?_
      refine ax_VtT (st := []) (as := [vr 34]) (b := 36) d_Si_sign_65 cs_Si_sign_65 (k_36 S) (c_Be_castBall1 S hfl rm ((SD.fc F (by intro a x; omega)).fc T4 (by intro a x; omega)) (by rw [c4.1]; omega)) rfl rfl rfl (fun ok_65 I_65 L_65 q_65 => ?_) (fun no_65 I_65 L_65 q_65 => at_leave rfl (hP _ _ (Or.inr ⟨fun z => z.2 (by rw [run, show (814 - t).toNat = (814 - (t + 1)).toNat + 1 by omega]; rw [eB] at no_65; exact sgRun_x (Classical.byContradiction (fun y => no_65 y))), I_65, L_65, ((F.frc (by intro a x; omega)).tr (T4.frc (by intro a x; omega))).tr q_65, rfl, rfl⟩)))
      obtain ⟨F5, b5⟩ := q_65
      rw [eB] at ok_65 b5
      have ok5 : bll (pT 1) (sgBs 1 (byAt I 18 19) (rhC I (-1)) (muC I (fun k => byAt I 18 19 (64 + k)) (-1)) t) ≠ none := ok_65
      have T5 : FC (fun a => a = 38 ∨ 119 ≤ a ∧ a ≤ 136 ∨ 139 ≤ a ∧ a ≤ 142 ∨ 157 ≤ a ∧ a ≤ 163 ∨ 166 ≤ a ∧ a ≤ 169) K M I_65 L_65 := T4.tr F5 (by intro a x; omega)
      have b5 : eqQ (I_65 135) (sgB 1 (byAt I 18 19) (rhC I (-1)) (muC I (fun k => byAt I 18 19 (64 + k)) (-1)) t) := b5
      have w5 : ∀ m, 0 ≤ m → m < 6 → eqQ (I_65 (127 + m.toNat)) (sgW 1 (byAt I 18 19) (rhC I (-1)) t m) := fun m a b j x y => (F5.1 _ j (by omega)).trans (w4 m a b j x y)
      have c5 := c4.fc F5 (by decide) (by decide)
      have k5 : ∀ m, 0 ≤ m → m < 5 → eqQ (I_65 (157 + m.toNat)) (sgM 1 (rhC I (-1)) (t * 5 + m)) := fun m a b j x y => (F5.1 _ j (by omega)).trans ((F4.1 _ j (by omega)).trans (k3 m a b j x y))
      have eN : (814 - t).toNat = (814 - (t + 1)).toNat + 1 := by omega
      show AW l G M_Si_sign P 68 [(4, vi t), (3, vi (-1)), (2, vr 34), (1, vr 13), (0, vr 146)] [] (sD h I_65 L_65)
      refine aw_aload_n d_Si_sign_68 rfl rfl ?_
      refine aw_aload_n d_Si_sign_69 rfl rfl ?_
      refine ax_Vr (st := []) (as := [vr 34]) (b := 146) d_Si_sign_70 cs_Si_sign_70 (k_146 S) (c_Si_answersHide1 (B := (sgB 1 (byAt I 18 19) (rhC I (-1)) (muC I (fun k => byAt I 18 19 (64 + k)) (-1)) t)) (V := sgV 1 (byAt I 18 19)) (Mk := fun m => sgM 1 (rhC I (-1)) (t * 5 + m)) S ((SD.fc F (by intro a x; omega)).fc T5 (by intro a x; omega)) b5 sgB_in k5 (fun _ _ _ => sgM_in) (fun m a b j x y => (T5.1 _ j (by omega)).trans (sc m a b j x y)) (fun _ _ _ => sgV_in)) rfl rfl rfl (fun u_70 q_70 => ?_)
      obtain ⟨v6, K6⟩ := u_70
      obtain ⟨F6, q6⟩ := q_70
      dsimp only at F6 q6
      have T6 : FC (fun a => a = 38 ∨ 119 ≤ a ∧ a ≤ 136 ∨ 139 ≤ a ∧ a ≤ 142 ∨ 157 ≤ a ∧ a ≤ 163 ∨ 166 ≤ a ∧ a ≤ 169) K M K6 L_65 := T5.tr F6 (by intro a x; omega)
      show AW l G M_Si_sign P 73 [(4, vi t), (3, vi (-1)), (2, vr 34), (1, vr 13), (0, vr 146)] [vi v6] (sD h K6 L_65)
      refine aw_if_eq (tgt := 105) d_Si_sign_73 (by decide) (fun c_73 => ?_) (fun c_73 => ?_)
      · skip
        refine ax_iinc (lv' := [(4, vi (t + 1)), (3, vi (-1)), (2, vr 34), (1, vr 13), (0, vr 146)]) d_Si_sign_105 rfl (by decide) ⟨(by omega), (by omega)⟩ rfl ?_
        refine aw_goto (tgt := 35) d_Si_sign_108 (by decide) ?_
        exact ih_35 _ (by omega) (t + 1) K6 L_65 (by omega) (F.tr T6 (by intro a x; omega)) (fun m a b j x y => (T6.1 _ j (by omega)).trans (mt m a b j x y)) (fun m a b j x y => (T6.1 _ j (by omega)).trans (sc m a b j x y)) (fun m a b j x y => (T6.1 _ j (by omega)).trans (er m a b j x y)) (fun m a b j x y => (T6.1 _ j (by omega)).trans (dr m a b j x y)) (hd.fc T6 (by omega) (by omega)) (hr.fc T6 (by omega) (by omega)) (by rw [run, eN]; exact sgRun_n ok5 (fun z => by rcases q6 with y | y; exact absurd y.1 (by omega); exact y.2 z.1)) rfl
      · skip
        refine aw_aload_n d_Si_sign_76 rfl rfl ?_
        refine aw_aload_n d_Si_sign_77 rfl rfl ?_
        have g6 := q6.resolve_right (fun z => c_73 z.1)
        refine ax_Vr (st := []) (as := [vr 34]) (b := 146) d_Si_sign_78 cs_Si_sign_78 (k_146 S) (c_Si_lowsHide1 (B := (sgB 1 (byAt I 18 19) (rhC I (-1)) (muC I (fun k => byAt I 18 19 (64 + k)) (-1)) t)) (V := fun m => sgV 1 (byAt I 18 19) (5 + m)) (W := sgW 1 (byAt I 18 19) (rhC I (-1)) t) S ((SD.fc F (by intro a x; omega)).fc T6 (by intro a x; omega)) (fun j x y => (F6.1 _ j (by omega)).trans (b5 j x y)) sgB_in (fun m a b j x y => (F6.1 _ j (by omega)).trans (w5 m a b j x y)) (fun _ _ _ => imF_in) (fun m a b j x y => (T6.1 _ j (by omega)).trans (er m a b j x y)) (fun _ _ _ => sgV_in)) rfl rfl rfl (fun u_78 q_78 => ?_)
        obtain ⟨v7, K7⟩ := u_78
        obtain ⟨F7, q7⟩ := q_78
        dsimp only at F7 q7
        have T7 : FC (fun a => a = 38 ∨ 119 ≤ a ∧ a ≤ 136 ∨ 139 ≤ a ∧ a ≤ 142 ∨ 157 ≤ a ∧ a ≤ 163 ∨ 166 ≤ a ∧ a ≤ 169) K M K7 L_65 := T6.tr F7 (by intro a x; omega)
        show AW l G M_Si_sign P 81 [(4, vi t), (3, vi (-1)), (2, vr 34), (1, vr 13), (0, vr 146)] [vi v7] (sD h K7 L_65)
        refine aw_if_eq (tgt := 105) d_Si_sign_81 (by decide) (fun c_81 => ?_) (fun c_81 => ?_)
        · skip
          refine ax_iinc (lv' := [(4, vi (t + 1)), (3, vi (-1)), (2, vr 34), (1, vr 13), (0, vr 146)]) d_Si_sign_105 rfl (by decide) ⟨(by omega), (by omega)⟩ rfl ?_
          refine aw_goto (tgt := 35) d_Si_sign_108 (by decide) ?_
          exact ih_35 _ (by omega) (t + 1) K7 L_65 (by omega) (F.tr T7 (by intro a x; omega)) (fun m a b j x y => (T7.1 _ j (by omega)).trans (mt m a b j x y)) (fun m a b j x y => (T7.1 _ j (by omega)).trans (sc m a b j x y)) (fun m a b j x y => (T7.1 _ j (by omega)).trans (er m a b j x y)) (fun m a b j x y => (T7.1 _ j (by omega)).trans (dr m a b j x y)) (hd.fc T7 (by omega) (by omega)) (hr.fc T7 (by omega) (by omega)) (by rw [run, eN]; exact sgRun_n ok5 (fun z => by rcases q7 with y | y; exact absurd y.1 (by omega); exact y.2 z.2.1)) rfl
        · skip
          refine aw_aload_n d_Si_sign_84 rfl rfl ?_
          refine aw_aload_n d_Si_sign_85 rfl rfl ?_
          have g7 := q7.resolve_right (fun z => c_81 z.1)
          refine ax_Vr (st := []) (as := [vr 34]) (b := 146) d_Si_sign_86 cs_Si_sign_86 (k_146 S) (c_Si_hintsSuffice1 (B := (sgB 1 (byAt I 18 19) (rhC I (-1)) (muC I (fun k => byAt I 18 19 (64 + k)) (-1)) t)) (V := sgD 1 (byAt I 18 19)) (W := sgR 1 (byAt I 18 19) (rhC I (-1)) (muC I (fun k => byAt I 18 19 (64 + k)) (-1)) t) (fl := sgF 1 (byAt I 18 19) (rhC I (-1)) (muC I (fun k => byAt I 18 19 (64 + k)) (-1)) t) S ((SD.fc F (by intro a x; omega)).fc T7 (by intro a x; omega)) (fun j x y => (F7.1 _ j (by omega)).trans ((F6.1 _ j (by omega)).trans (b5 j x y))) sgB_in g7.2.2 (fun _ _ _ => sgR_in) (fun m a b j x y => (T7.1 _ j (by omega)).trans (dr m a b j x y)) (fun _ _ _ => sgD_in) (fun m hm j hj => sgF_at hj)) rfl rfl rfl (fun u_86 q_86 => ?_)
          obtain ⟨v8, K8⟩ := u_86
          obtain ⟨F8, q8⟩ := q_86
          dsimp only at F8 q8
          have T8 : FC (fun a => a = 38 ∨ 119 ≤ a ∧ a ≤ 136 ∨ 139 ≤ a ∧ a ≤ 142 ∨ 157 ≤ a ∧ a ≤ 163 ∨ 166 ≤ a ∧ a ≤ 169) K M K8 L_65 := T7.tr F8 (by intro a x; omega)
          show AW l G M_Si_sign P 89 [(4, vi t), (3, vi (-1)), (2, vr 34), (1, vr 13), (0, vr 146)] [vi v8] (sD h K8 L_65)
          refine aw_if_eq (tgt := 105) d_Si_sign_89 (by decide) (fun c_89 => ?_) (fun c_89 => ?_)
          · skip
            refine ax_iinc (lv' := [(4, vi (t + 1)), (3, vi (-1)), (2, vr 34), (1, vr 13), (0, vr 146)]) d_Si_sign_105 rfl (by decide) ⟨(by omega), (by omega)⟩ rfl ?_
            refine aw_goto (tgt := 35) d_Si_sign_108 (by decide) ?_
            exact ih_35 _ (by omega) (t + 1) K8 L_65 (by omega) (F.tr T8 (by intro a x; omega)) (fun m a b j x y => (T8.1 _ j (by omega)).trans (mt m a b j x y)) (fun m a b j x y => (T8.1 _ j (by omega)).trans (sc m a b j x y)) (fun m a b j x y => (T8.1 _ j (by omega)).trans (er m a b j x y)) (fun m a b j x y => (T8.1 _ j (by omega)).trans (dr m a b j x y)) (hd.fc T8 (by omega) (by omega)) (hr.fc T8 (by omega) (by omega)) (by rw [run, eN]; exact sgRun_n ok5 (fun z => by rcases q8 with y | y; exact absurd y.1 (by omega); exact y.2 z.2.2)) rfl
          · skip
            refine aw_aload_n d_Si_sign_92 rfl rfl ?_
            refine aw_aload_n d_Si_sign_93 rfl rfl ?_
            refine aw_iconst d_Si_sign_94 ⟨by decide, by decide⟩ ?_
            refine ax_aald (b := 24) d_Si_sign_95 ⟨by rw [(k_13 S)]; decide, by rw [(k_13 S)]; decide⟩ (by omega) (by rw [n_13 S]; omega) (r_13_5 S) ?_
            refine aw_aload_n d_Si_sign_96 rfl rfl ?_
            have g8 := q8.resolve_right (fun z => c_89 z.1)
            refine ax_Vr (st := []) (as := [vr 24, vr 34]) (b := 146) d_Si_sign_97 cs_Si_sign_97 (k_146 S) (c_Si_writePacket1 (ch := sgC 1 (byAt I 18 19) (rhC I (-1)) (muC I (fun k => byAt I 18 19 (64 + k)) (-1)) t) (Z := sgZ 1 (byAt I 18 19) (rhC I (-1)) (muC I (fun k => byAt I 18 19 (64 + k)) (-1)) t) (fl := sgF 1 (byAt I 18 19) (rhC I (-1)) (muC I (fun k => byAt I 18 19 (64 + k)) (-1)) t) S ((SD.fc F (by intro a x; omega)).fc T8 (by intro a x; omega)) (((c5.fc F6 (by decide) (by decide)).fc F7 (by decide) (by decide)).fc F8 (by decide) (by decide)) (fun m a b j x y => (F8.1 _ j (by omega)).trans ((F7.1 _ j (by omega)).trans (g6.2.2 m a b j x y))) (fun _ _ _ => sgZ_in) (fun m a b j x y => wiN_20 (by decide) sgZ_in (g6.2.1 m a b) x y) g8.2.2.1 g8.2.1.2 g8.2.2.2) rfl rfl rfl (fun u_97 q_97 => ?_)
            obtain ⟨F9, H9⟩ := q_97
            have gd : sgGood 1 (byAt I 18 19) (rhC I (-1)) (muC I (fun k => byAt I 18 19 (64 + k)) (-1)) t := ⟨g6.2.1, g7.2.1, g8.2.1.1, g8.2.1.2⟩
            have rn : sgRun 1 (byAt I 18 19) (rhC I (-1)) (muC I (fun k => byAt I 18 19 (64 + k)) (-1)) 814 0 = some t := by rw [run, eN]; exact sgRun_g ok5 gd
            show AW l G M_Si_sign P 100 [(4, vi t), (3, vi (-1)), (2, vr 34), (1, vr 13), (0, vr 146)] [] (sD h u_97 L_65)
            refine aw_iload d_Si_sign_100 rfl ?_
            refine aw_iconst d_Si_sign_102 ⟨by decide, by decide⟩ ?_
            refine ax_iadd d_Si_sign_103 ⟨(by omega), (by omega)⟩ ?_
            exact aw_iret d_Si_sign_104 rfl (hP _ _ (Or.inl ⟨⟨okA, by rw [rn]; exact (fun z => by cases z)⟩, _, _, _, ⟨(F.tr T8 (r := fun a => 36 ≤ a ∧ a ≤ 174 ∧ a ≠ 43) (by intro a x; omega)).tr F9 (by intro a x; omega), t, rn, rfl, H9⟩, rfl, rfl⟩))
  skip
  refine aw_sub (lv' := [(4, vi 0), (3, vi (-1)), (2, vr 34), (1, vr 13), (0, vr 146)]) (by simp) ?_
  exact lp_35 _ 0 I2 L2 (by omega) (G2) (fun m a b j x y => (F2.1 _ j (by omega)).trans ((F1.1 _ j (by omega)).trans (m0 m a b j x y))) (fun m a b j x y => (F2.1 _ j (by omega)).trans ((F1.1 _ j (by omega)).trans (s0 m a b j x y))) (fun m a b j x y => (F2.1 _ j (by omega)).trans ((F1.1 _ j (by omega)).trans (r0 m a b j x y))) (fun m a b j x y => (F2.1 _ j (by omega)).trans ((F1.1 _ j (by omega)).trans (d0 m a b j x y))) (H1.fc F2 (by decide) (by decide)) (H2) (rfl) rfl
set_option maxHeartbeats 800000 in
set_option maxRecDepth 100000 in
theorem c_Si_sign20 {l : Launch} {G : a_G} {h : Hp} {I L : Nat → Int → Int} (S : Shp h) (hfl : l.flags = flags0) (rm : hX h + 1 ≤ a_NX ∧ hU h + 6 ≤ a_US) (SD : Std I L) (cb : CB I) : AW l G M_Si_sign (DvR h I L (sgOk 2 (byAt I 18 19) ∧ sgRun 2 (byAt I 18 19) (rhC I (0)) (muC I (fun k => byAt I 18 19 (64 + k)) (0)) 814 0 ≠ none) (fun v I' L' => FC (fun a => a = 24 ∨ a = 25 ∨ 36 ≤ a ∧ a ≤ 174 ∧ a ≠ 43) I L I' L' ∧ ∃ t, sgRun 2 (byAt I 18 19) (rhC I (0)) (muC I (fun k => byAt I 18 19 (64 + k)) (0)) 814 0 = some t ∧ v = t + 1 ∧ HB I' 24 25 (sPkt 2) (sgPk 2 (byAt I 18 19) (rhC I (0)) (muC I (fun k => byAt I 18 19 (64 + k)) (0)) t))) 0 (a_ar 0 [vr 146, vr 13, vr 35, vi 0]) [] (sD h I L) := by
  suffices key : ∀ P : a_R → Hp → Prop, (∀ r_ h2_, DvR h I L (sgOk 2 (byAt I 18 19) ∧ sgRun 2 (byAt I 18 19) (rhC I (0)) (muC I (fun k => byAt I 18 19 (64 + k)) (0)) 814 0 ≠ none) (fun v I' L' => FC (fun a => a = 24 ∨ a = 25 ∨ 36 ≤ a ∧ a ≤ 174 ∧ a ≠ 43) I L I' L' ∧ ∃ t, sgRun 2 (byAt I 18 19) (rhC I (0)) (muC I (fun k => byAt I 18 19 (64 + k)) (0)) 814 0 = some t ∧ v = t + 1 ∧ HB I' 24 25 (sPkt 2) (sgPk 2 (byAt I 18 19) (rhC I (0)) (muC I (fun k => byAt I 18 19 (64 + k)) (0)) t)) r_ h2_ → P r_ h2_) → AW l G M_Si_sign P 0 [(0, vr 146), (1, vr 13), (2, vr 35), (3, vi 0)] [] (sD h I L) from key _ (fun _ _ q => q)
  intro P hP
  have cb0 : 0 ≤ I 14 1 ∧ I 14 1 ≤ 8192 := cb.1 0 (by decide)
  have cb2 : 0 ≤ I 18 1 ∧ I 18 1 ≤ 8192 := cb.1 2 (by decide)
  refine aw_aload_n d_Si_sign_0 rfl rfl ?_
  refine aw_aload_n d_Si_sign_1 rfl rfl ?_
  refine aw_iconst d_Si_sign_2 ⟨by decide, by decide⟩ ?_
  refine ax_aald (b := 18) d_Si_sign_3 ⟨by rw [(k_13 S)]; decide, by rw [(k_13 S)]; decide⟩ (by omega) (by rw [n_13 S]; omega) (r_13_2 S) ?_
  refine aw_aload_n d_Si_sign_4 rfl rfl ?_
  refine ax_VtT (st := []) (as := [vr 18, vr 35]) (b := 146) d_Si_sign_5 cs_Si_sign_5 (k_146 S) (c_Si_readSecret2 S hfl rm SD (by omega)) rfl rfl rfl (fun ok_5 I_5 L_5 q_5 => ?_) (fun no_5 I_5 L_5 q_5 => at_leave rfl (hP _ _ (Or.inr ⟨fun z => no_5 (by rw [b0_eq]; exact z.1), I_5, L_5, q_5, rfl, rfl⟩)))
  obtain ⟨F0, m0, s0, r0, d0⟩ := q_5
  rw [b0_eq] at ok_5
  have okA : sgOk 2 (byAt I 18 19) := ok_5
  have G0 : FC (fun a => 36 ≤ a ∧ a ≤ 174 ∧ a ≠ 43) I L I_5 L_5 := F0.mono (by intro a x; omega)
  have m0 : ∀ m, 0 ≤ m → m < 56 → eqQ (I_5 (45 + m.toNat)) (sgA 2 (byAt I 18 19) m) := fun m a b c x y => by have z := m0 m a b c x y; rw [b0_eq] at z; exact z
  have s0 : ∀ m, 0 ≤ m → m < 7 → eqQ (I_5 (102 + m.toNat)) (sgV 2 (byAt I 18 19) m) := s0
  have r0 : ∀ m, 0 ≤ m → m < 8 → eqQ (I_5 (110 + m.toNat)) (sgV 2 (byAt I 18 19) (7 + m)) := r0
  have d0 : ∀ m, 0 ≤ m → m < 8 → eqQ (I_5 (148 + m.toNat)) (sgD 2 (byAt I 18 19) m) := d0
  show AW l G M_Si_sign P 8 [(0, vr 146), (1, vr 13), (2, vr 35), (3, vi 0)] [] (sD h I_5 L_5)
  refine aw_aload_n d_Si_sign_8 rfl rfl ?_
  refine ax_getR (b := 36) d_Si_sign_9 fd_Si_38 (k_146 S) (r_146_0 S) ?_
  refine aw_aload_n d_Si_sign_12 rfl rfl ?_
  refine aw_iconst d_Si_sign_13 ⟨by decide, by decide⟩ ?_
  refine ax_aald (b := 18) d_Si_sign_14 ⟨by rw [(k_13 S)]; decide, by rw [(k_13 S)]; decide⟩ (by omega) (by rw [n_13 S]; omega) (r_13_2 S) ?_
  refine aw_bipush d_Si_sign_15 ⟨by decide, by decide⟩ (by decide) ?_
  refine aw_aload_n d_Si_sign_17 rfl rfl ?_
  refine aw_iload_n d_Si_sign_18 rfl rfl ?_
  refine ax_Vr (st := []) (as := [vr 18, vi 64, vr 13, vi 0]) (b := 36) d_Si_sign_19 cs_Si_sign_19 (k_36 S) (c_Be_digestSigned0 S (SD.fc G0 (by intro a x; omega)) (ks S (i := 2) (by decide)) (by decide) (by rw [G0.1 18 1 (by omega), nks S (i := 2) (by decide)]; omega) ⟨fun s hs => by rw [G0.1 _ 1 (by omega)]; exact cb.1 s hs, by rw [G0.1 _ 1 (by omega)]; exact cb.2⟩) rfl rfl rfl (fun u_19 q_19 => ?_)
  obtain ⟨I1, L1⟩ := u_19
  obtain ⟨F1, a1, b1⟩ := q_19
  dsimp only at F1 a1 b1
  have H1 : HB I1 137 138 64 (muC I (fun k => byAt I 18 19 (64 + k)) (0)) := ⟨a1, fun z x y => (b1 z x y).trans (by unfold muC; rw [G0.1 22 1 (by omega), G0.1 20 1 (by omega), show (fun k => byAt I_5 22 23 (0 + k)) = (fun k => byAt I 22 23 (0 + k)) from funext (fun k => byAt_fc G0 (by omega) (by omega)), show (fun k => byAt I_5 20 21 (0 + k)) = (fun k => byAt I 20 21 (0 + k)) from funext (fun k => byAt_fc G0 (by omega) (by omega)), show (fun k => byAt I_5 18 (15 + 2 * 2) (64 + k)) = (fun k => byAt I 18 19 (64 + k)) from funext (fun k => byAt_fc G0 (by omega) (by omega))])⟩
  have G1 : FC (fun a => 36 ≤ a ∧ a ≤ 174 ∧ a ≠ 43) I L I1 L1 := G0.tr F1 (by intro a x; omega)
  show AW l G M_Si_sign P 22 [(0, vr 146), (1, vr 13), (2, vr 35), (3, vi 0)] [] (sD h I1 L1)
  refine aw_aload_n d_Si_sign_22 rfl rfl ?_
  refine aw_aload_n d_Si_sign_23 rfl rfl ?_
  refine aw_iconst d_Si_sign_24 ⟨by decide, by decide⟩ ?_
  refine ax_aald (b := 18) d_Si_sign_25 ⟨by rw [(k_13 S)]; decide, by rw [(k_13 S)]; decide⟩ (by omega) (by rw [n_13 S]; omega) (r_13_2 S) ?_
  refine aw_aload_n d_Si_sign_26 rfl rfl ?_
  refine aw_iconst d_Si_sign_27 ⟨by decide, by decide⟩ ?_
  refine ax_aald (b := 14) d_Si_sign_28 ⟨by rw [(k_13 S)]; decide, by rw [(k_13 S)]; decide⟩ (by omega) (by rw [n_13 S]; omega) (r_13_0 S) ?_
  refine ax_Vr (st := []) (as := [vr 18, vr 14]) (b := 146) d_Si_sign_29 cs_Si_sign_29 (k_146 S) (c_Si_drawMaskSeed S (SD.fc G1 (by intro a x; omega)) (by rw [G1.1 14 1 (by omega), G1.1 18 1 (by omega), H1.1]; omega)) rfl rfl rfl (fun u_29 q_29 => ?_)
  obtain ⟨I2, L2⟩ := u_29
  obtain ⟨F2, H2⟩ := q_29
  dsimp only at F2 H2
  have G2 : FC (fun a => 36 ≤ a ∧ a ≤ 174 ∧ a ≠ 43) I L I2 L2 := G1.tr F2 (by intro a x; omega)
  rw [show (fun k => byAt I1 18 19 (32 + k)) = (fun k => byAt I 18 19 (32 + k)) from funext (fun k => byAt_fc G1 (by omega) (by omega)), show (fun k => byAt I1 14 15 (0 + k)) = (fun k => byAt I 14 15 (0 + k)) from funext (fun k => byAt_fc G1 (by omega) (by omega)), rhS_congr (gd' := (muC I (fun k => byAt I 18 19 (64 + k)) (0))) (fun k hk => by rw [Int.zero_add, H1.2 k (by omega) (by omega)])] at H2
  have H2 : HB I2 164 165 64 (rhC I (0)) := H2
  show AW l G M_Si_sign P 32 [(0, vr 146), (1, vr 13), (2, vr 35), (3, vi 0)] [] (sD h I2 L2)
  refine aw_iconst d_Si_sign_32 ⟨by decide, by decide⟩ ?_
  refine aw_istore (lv' := [(4, vi 0), (0, vr 146), (1, vr 13), (2, vr 35), (3, vi 0)]) d_Si_sign_33 (by decide) rfl ?_
  have lp_35 : ∀ (n_ : Nat) (t : Int) (K : Nat → Int → Int) (M : Nat → Int → Int), (0 ≤ t ∧ t ≤ 814) → (FC (fun a => 36 ≤ a ∧ a ≤ 174 ∧ a ≠ 43) I L K M) → (∀ m, 0 ≤ m → m < 56 → eqQ (K (45 + m.toNat)) (sgA 2 (byAt I 18 19) m)) → (∀ m, 0 ≤ m → m < 7 → eqQ (K (102 + m.toNat)) (sgV 2 (byAt I 18 19) m)) → (∀ m, 0 ≤ m → m < 8 → eqQ (K (110 + m.toNat)) (sgV 2 (byAt I 18 19) (7 + m))) → (∀ m, 0 ≤ m → m < 8 → eqQ (K (148 + m.toNat)) (sgD 2 (byAt I 18 19) m)) → (HB K 137 138 64 (muC I (fun k => byAt I 18 19 (64 + k)) (0))) → (HB K 164 165 64 (rhC I (0))) → (sgRun 2 (byAt I 18 19) (rhC I (0)) (muC I (fun k => byAt I 18 19 (64 + k)) (0)) 814 0 = sgRun 2 (byAt I 18 19) (rhC I (0)) (muC I (fun k => byAt I 18 19 (64 + k)) (0)) (814 - t).toNat t) → ((814 - t).toNat) = n_ → AW l G M_Si_sign P 35 [(4, vi t), (3, vi 0), (2, vr 35), (1, vr 13), (0, vr 146)] [] (sD h K M) := by
    intro n_
    induction n_ using Nat.strongRecOn with
    | _ n_ ih_35 =>
    intro t K M ht F mt sc er dr hd hr run hm_35
    refine aw_iload d_Si_sign_35 rfl ?_
    refine aw_sipush d_Si_sign_37 ⟨by decide, by decide⟩ (by decide) ?_
    refine aw_icmp_ge (tgt := 111) d_Si_sign_40 (by decide) (fun c_40 => ?_) (fun c_40 => ?_)
    · skip
      exact ax_throw hfl th_Si_sign_111 rm.1 rm.2 (hP _ _ (Or.inr ⟨fun z => z.2 (by rw [run, show (814 - t).toNat = 0 by omega]; rfl), K, M, F.frc (by intro a x; omega), rfl, rfl⟩))
    · skip
      refine aw_aload_n d_Si_sign_43 rfl rfl ?_
      refine aw_aload_n d_Si_sign_44 rfl rfl ?_
      refine aw_iload d_Si_sign_45 rfl ?_
      refine aw_aload_n d_Si_sign_47 rfl rfl ?_
      refine ax_getIe (x := 7) d_Si_sign_48 fd_Si_56 (k_35 S) (Eq.trans (F.1 35 1 (by omega)) (pc_35_1 SD.2.1)) ?_
      refine ax_imul d_Si_sign_51 ⟨(by omega), (by omega)⟩ ?_
      refine ax_Vr (st := []) (as := [vr 35, vi (t * 7)]) (b := 146) d_Si_sign_52 cs_Si_sign_52 (k_146 S) (c_Si_drawMasks2 S (SD.fc F (by intro a x; omega)) (by rw [hr.1]; omega)) rfl rfl rfl (fun u_52 q_52 => ?_)
      obtain ⟨I3, L3⟩ := u_52
      obtain ⟨F3, k3, n3⟩ := q_52
      dsimp only at F3 k3 n3
      have T3 : FC (fun a => a = 38 ∨ 119 ≤ a ∧ a ≤ 136 ∨ 139 ≤ a ∧ a ≤ 142 ∨ 157 ≤ a ∧ a ≤ 163 ∨ 166 ≤ a ∧ a ≤ 169) K M I3 L3 := F3.mono (by intro a x; omega)
      have k3 : ∀ m, 0 ≤ m → m < 7 → eqQ (I3 (157 + m.toNat)) (sgM 2 (rhC I (0)) (t * 7 + m)) := fun m a b j x y => by rw [k3 m a b j x y, mskF_congr (rh' := (rhC I (0))) (fun k hk => by rw [Int.zero_add, hr.2 k (by omega) (by omega)])]; rfl
      have n3 : ∀ m, 0 ≤ m → m < 7 → eqQ (I3 (119 + m.toNat)) (fwd rt (sgM 2 (rhC I (0)) (t * 7 + m))) := fun m a b j x y => by rw [n3 m a b j x y, mskF_congr (rh' := (rhC I (0))) (fun k hk => by rw [Int.zero_add, hr.2 k (by omega) (by omega)])]; rfl
      show AW l G M_Si_sign P 55 [(4, vi t), (3, vi 0), (2, vr 35), (1, vr 13), (0, vr 146)] [] (sD h I3 L3)
      refine aw_aload_n d_Si_sign_55 rfl rfl ?_
      refine aw_aload_n d_Si_sign_56 rfl rfl ?_
      refine ax_Vr (st := []) (as := [vr 35]) (b := 146) d_Si_sign_57 cs_Si_sign_57 (k_146 S) (c_Si_commit2 (A := sgA 2 (byAt I 18 19)) (V := fun j => fwd rt (sgM 2 (rhC I (0)) (t * 7 + j))) S ((SD.fc F (by intro a x; omega)).fc T3 (by intro a x; omega)) (fun m a b j x y => (T3.1 _ j (by omega)).trans (mt m a b j x y)) (fun _ _ _ => sgA_in) n3 (fun _ _ _ => fwd_in sgM_in) (by rw [T3.1 137 1 (by omega), hd.1]; omega)) rfl rfl rfl (fun u_57 q_57 => ?_)
      obtain ⟨I4, L4⟩ := u_57
      obtain ⟨F4, w4, c4⟩ := q_57
      dsimp only at F4 w4 c4
      have T4 : FC (fun a => a = 38 ∨ 119 ≤ a ∧ a ≤ 136 ∨ 139 ≤ a ∧ a ≤ 142 ∨ 157 ≤ a ∧ a ≤ 163 ∨ 166 ≤ a ∧ a ≤ 169) K M I4 L4 := T3.tr F4 (by intro a x; omega)
      have w4 : ∀ m, 0 ≤ m → m < 8 → eqQ (I4 (127 + m.toNat)) (sgW 2 (byAt I 18 19) (rhC I (0)) t m) := w4
      rw [hhS_congr (gd' := (muC I (fun k => byAt I 18 19 (64 + k)) (0))) (fun k hk => by rw [Int.zero_add, byAt_fc T3 (by omega) (by omega), hd.2 k (by omega) (by omega)]) (fun k _ => rfl)] at c4
      have c4 : HB I4 139 140 64 (sgC 2 (byAt I 18 19) (rhC I (0)) (muC I (fun k => byAt I 18 19 (64 + k)) (0)) t) := c4
      have eB : blS (fun k => byAt I4 139 140 (0 + k)) (I4 139 1) = sgBs 2 (byAt I 18 19) (rhC I (0)) (muC I (fun k => byAt I 18 19 (64 + k)) (0)) t := by rw [c4.1]; exact blS_congr (fun k hk => by rw [Int.zero_add, c4.2 k (by omega) hk])
      show AW l G M_Si_sign P 60 [(4, vi t), (3, vi 0), (2, vr 35), (1, vr 13), (0, vr 146)] [] (sD h I4 L4)
      refine aw_aload_n d_Si_sign_60 rfl rfl ?_
      refine ax_getR (b := 36) d_Si_sign_61 fd_Si_38 (k_146 S) (r_146_0 S) ?_
      refine aw_aload_n d_Si_sign_64 rfl rfl ?_
      refine ax_VtT (st := []) (as := [vr 35]) (b := 36) d_Si_sign_65 cs_Si_sign_65 (k_36 S) (c_Be_castBall2 S hfl rm ((SD.fc F (by intro a x; omega)).fc T4 (by intro a x; omega)) (by rw [c4.1]; omega)) rfl rfl rfl (fun ok_65 I_65 L_65 q_65 => ?_) (fun no_65 I_65 L_65 q_65 => at_leave rfl (hP _ _ (Or.inr ⟨fun z => z.2 (by rw [run, show (814 - t).toNat = (814 - (t + 1)).toNat + 1 by omega]; rw [eB] at no_65; exact sgRun_x (Classical.byContradiction (fun y => no_65 y))), I_65, L_65, ((F.frc (by intro a x; omega)).tr (T4.frc (by intro a x; omega))).tr q_65, rfl, rfl⟩)))
      obtain ⟨F5, b5⟩ := q_65
      rw [eB] at ok_65 b5
      have ok5 : bll (pT 2) (sgBs 2 (byAt I 18 19) (rhC I (0)) (muC I (fun k => byAt I 18 19 (64 + k)) (0)) t) ≠ none := ok_65
      have T5 : FC (fun a => a = 38 ∨ 119 ≤ a ∧ a ≤ 136 ∨ 139 ≤ a ∧ a ≤ 142 ∨ 157 ≤ a ∧ a ≤ 163 ∨ 166 ≤ a ∧ a ≤ 169) K M I_65 L_65 := T4.tr F5 (by intro a x; omega)
      have b5 : eqQ (I_65 135) (sgB 2 (byAt I 18 19) (rhC I (0)) (muC I (fun k => byAt I 18 19 (64 + k)) (0)) t) := b5
      have w5 : ∀ m, 0 ≤ m → m < 8 → eqQ (I_65 (127 + m.toNat)) (sgW 2 (byAt I 18 19) (rhC I (0)) t m) := fun m a b j x y => (F5.1 _ j (by omega)).trans (w4 m a b j x y)
      have c5 := c4.fc F5 (by decide) (by decide)
      have k5 : ∀ m, 0 ≤ m → m < 7 → eqQ (I_65 (157 + m.toNat)) (sgM 2 (rhC I (0)) (t * 7 + m)) := fun m a b j x y => (F5.1 _ j (by omega)).trans ((F4.1 _ j (by omega)).trans (k3 m a b j x y))
      have eN : (814 - t).toNat = (814 - (t + 1)).toNat + 1 := by omega
      show AW l G M_Si_sign P 68 [(4, vi t), (3, vi 0), (2, vr 35), (1, vr 13), (0, vr 146)] [] (sD h I_65 L_65)
      refine aw_aload_n d_Si_sign_68 rfl rfl ?_
      refine aw_aload_n d_Si_sign_69 rfl rfl ?_
      refine ax_Vr (st := []) (as := [vr 35]) (b := 146) d_Si_sign_70 cs_Si_sign_70 (k_146 S) (c_Si_answersHide2 (B := (sgB 2 (byAt I 18 19) (rhC I (0)) (muC I (fun k => byAt I 18 19 (64 + k)) (0)) t)) (V := sgV 2 (byAt I 18 19)) (Mk := fun m => sgM 2 (rhC I (0)) (t * 7 + m)) S ((SD.fc F (by intro a x; omega)).fc T5 (by intro a x; omega)) b5 sgB_in k5 (fun _ _ _ => sgM_in) (fun m a b j x y => (T5.1 _ j (by omega)).trans (sc m a b j x y)) (fun _ _ _ => sgV_in)) rfl rfl rfl (fun u_70 q_70 => ?_)
      obtain ⟨v6, K6⟩ := u_70
      obtain ⟨F6, q6⟩ := q_70
      dsimp only at F6 q6
      have T6 : FC (fun a => a = 38 ∨ 119 ≤ a ∧ a ≤ 136 ∨ 139 ≤ a ∧ a ≤ 142 ∨ 157 ≤ a ∧ a ≤ 163 ∨ 166 ≤ a ∧ a ≤ 169) K M K6 L_65 := T5.tr F6 (by intro a x; omega)
      show AW l G M_Si_sign P 73 [(4, vi t), (3, vi 0), (2, vr 35), (1, vr 13), (0, vr 146)] [vi v6] (sD h K6 L_65)
      refine aw_if_eq (tgt := 105) d_Si_sign_73 (by decide) (fun c_73 => ?_) (fun c_73 => ?_)
      · skip
        refine ax_iinc (lv' := [(4, vi (t + 1)), (3, vi 0), (2, vr 35), (1, vr 13), (0, vr 146)]) d_Si_sign_105 rfl (by decide) ⟨(by omega), (by omega)⟩ rfl ?_
        refine aw_goto (tgt := 35) d_Si_sign_108 (by decide) ?_
        exact ih_35 _ (by omega) (t + 1) K6 L_65 (by omega) (F.tr T6 (by intro a x; omega)) (fun m a b j x y => (T6.1 _ j (by omega)).trans (mt m a b j x y)) (fun m a b j x y => (T6.1 _ j (by omega)).trans (sc m a b j x y)) (fun m a b j x y => (T6.1 _ j (by omega)).trans (er m a b j x y)) (fun m a b j x y => (T6.1 _ j (by omega)).trans (dr m a b j x y)) (hd.fc T6 (by omega) (by omega)) (hr.fc T6 (by omega) (by omega)) (by rw [run, eN]; exact sgRun_n ok5 (fun z => by rcases q6 with y | y; exact absurd y.1 (by omega); exact y.2 z.1)) rfl
      · skip
        refine aw_aload_n d_Si_sign_76 rfl rfl ?_
        refine aw_aload_n d_Si_sign_77 rfl rfl ?_
        have g6 := q6.resolve_right (fun z => c_73 z.1)
        refine ax_Vr (st := []) (as := [vr 35]) (b := 146) d_Si_sign_78 cs_Si_sign_78 (k_146 S) (c_Si_lowsHide2 (B := (sgB 2 (byAt I 18 19) (rhC I (0)) (muC I (fun k => byAt I 18 19 (64 + k)) (0)) t)) (V := fun m => sgV 2 (byAt I 18 19) (7 + m)) (W := sgW 2 (byAt I 18 19) (rhC I (0)) t) S ((SD.fc F (by intro a x; omega)).fc T6 (by intro a x; omega)) (fun j x y => (F6.1 _ j (by omega)).trans (b5 j x y)) sgB_in (fun m a b j x y => (F6.1 _ j (by omega)).trans (w5 m a b j x y)) (fun _ _ _ => imF_in) (fun m a b j x y => (T6.1 _ j (by omega)).trans (er m a b j x y)) (fun _ _ _ => sgV_in)) rfl rfl rfl (fun u_78 q_78 => ?_)
        obtain ⟨v7, K7⟩ := u_78
        obtain ⟨F7, q7⟩ := q_78
        dsimp only at F7 q7
        have T7 : FC (fun a => a = 38 ∨ 119 ≤ a ∧ a ≤ 136 ∨ 139 ≤ a ∧ a ≤ 142 ∨ 157 ≤ a ∧ a ≤ 163 ∨ 166 ≤ a ∧ a ≤ 169) K M K7 L_65 := T6.tr F7 (by intro a x; omega)
        show AW l G M_Si_sign P 81 [(4, vi t), (3, vi 0), (2, vr 35), (1, vr 13), (0, vr 146)] [vi v7] (sD h K7 L_65)
        refine aw_if_eq (tgt := 105) d_Si_sign_81 (by decide) (fun c_81 => ?_) (fun c_81 => ?_)
        · skip
          refine ax_iinc (lv' := [(4, vi (t + 1)), (3, vi 0), (2, vr 35), (1, vr 13), (0, vr 146)]) d_Si_sign_105 rfl (by decide) ⟨(by omega), (by omega)⟩ rfl ?_
          refine aw_goto (tgt := 35) d_Si_sign_108 (by decide) ?_
          exact ih_35 _ (by omega) (t + 1) K7 L_65 (by omega) (F.tr T7 (by intro a x; omega)) (fun m a b j x y => (T7.1 _ j (by omega)).trans (mt m a b j x y)) (fun m a b j x y => (T7.1 _ j (by omega)).trans (sc m a b j x y)) (fun m a b j x y => (T7.1 _ j (by omega)).trans (er m a b j x y)) (fun m a b j x y => (T7.1 _ j (by omega)).trans (dr m a b j x y)) (hd.fc T7 (by omega) (by omega)) (hr.fc T7 (by omega) (by omega)) (by rw [run, eN]; exact sgRun_n ok5 (fun z => by rcases q7 with y | y; exact absurd y.1 (by omega); exact y.2 z.2.1)) rfl
        · skip
          refine aw_aload_n d_Si_sign_84 rfl rfl ?_
          refine aw_aload_n d_Si_sign_85 rfl rfl ?_
          have g7 := q7.resolve_right (fun z => c_81 z.1)
          refine ax_Vr (st := []) (as := [vr 35]) (b := 146) d_Si_sign_86 cs_Si_sign_86 (k_146 S) (c_Si_hintsSuffice2 (B := (sgB 2 (byAt I 18 19) (rhC I (0)) (muC I (fun k => byAt I 18 19 (64 + k)) (0)) t)) (V := sgD 2 (byAt I 18 19)) (W := sgR 2 (byAt I 18 19) (rhC I (0)) (muC I (fun k => byAt I 18 19 (64 + k)) (0)) t) (fl := sgF 2 (byAt I 18 19) (rhC I (0)) (muC I (fun k => byAt I 18 19 (64 + k)) (0)) t) S ((SD.fc F (by intro a x; omega)).fc T7 (by intro a x; omega)) (fun j x y => (F7.1 _ j (by omega)).trans ((F6.1 _ j (by omega)).trans (b5 j x y))) sgB_in g7.2.2 (fun _ _ _ => sgR_in) (fun m a b j x y => (T7.1 _ j (by omega)).trans (dr m a b j x y)) (fun _ _ _ => sgD_in) (fun m hm j hj => sgF_at hj)) rfl rfl rfl (fun u_86 q_86 => ?_)
          obtain ⟨v8, K8⟩ := u_86
          obtain ⟨F8, q8⟩ := q_86
          dsimp only at F8 q8
          have T8 : FC (fun a => a = 38 ∨ 119 ≤ a ∧ a ≤ 136 ∨ 139 ≤ a ∧ a ≤ 142 ∨ 157 ≤ a ∧ a ≤ 163 ∨ 166 ≤ a ∧ a ≤ 169) K M K8 L_65 := T7.tr F8 (by intro a x; omega)
          show AW l G M_Si_sign P 89 [(4, vi t), (3, vi 0), (2, vr 35), (1, vr 13), (0, vr 146)] [vi v8] (sD h K8 L_65)
          refine aw_if_eq (tgt := 105) d_Si_sign_89 (by decide) (fun c_89 => ?_) (fun c_89 => ?_)
          · skip
            refine ax_iinc (lv' := [(4, vi (t + 1)), (3, vi 0), (2, vr 35), (1, vr 13), (0, vr 146)]) d_Si_sign_105 rfl (by decide) ⟨(by omega), (by omega)⟩ rfl ?_
            refine aw_goto (tgt := 35) d_Si_sign_108 (by decide) ?_
            exact ih_35 _ (by omega) (t + 1) K8 L_65 (by omega) (F.tr T8 (by intro a x; omega)) (fun m a b j x y => (T8.1 _ j (by omega)).trans (mt m a b j x y)) (fun m a b j x y => (T8.1 _ j (by omega)).trans (sc m a b j x y)) (fun m a b j x y => (T8.1 _ j (by omega)).trans (er m a b j x y)) (fun m a b j x y => (T8.1 _ j (by omega)).trans (dr m a b j x y)) (hd.fc T8 (by omega) (by omega)) (hr.fc T8 (by omega) (by omega)) (by rw [run, eN]; exact sgRun_n ok5 (fun z => by rcases q8 with y | y; exact absurd y.1 (by omega); exact y.2 z.2.2)) rfl
          · skip
            refine aw_aload_n d_Si_sign_92 rfl rfl ?_
            refine aw_aload_n d_Si_sign_93 rfl rfl ?_
            refine aw_iconst d_Si_sign_94 ⟨by decide, by decide⟩ ?_
            refine ax_aald (b := 24) d_Si_sign_95 ⟨by rw [(k_13 S)]; decide, by rw [(k_13 S)]; decide⟩ (by omega) (by rw [n_13 S]; omega) (r_13_5 S) ?_
            refine aw_aload_n d_Si_sign_96 rfl rfl ?_
            have g8 := q8.resolve_right (fun z => c_89 z.1)
            refine ax_Vr (st := []) (as := [vr 24, vr 35]) (b := 146) d_Si_sign_97 cs_Si_sign_97 (k_146 S) (c_Si_writePacket2 (ch := sgC 2 (byAt I 18 19) (rhC I (0)) (muC I (fun k => byAt I 18 19 (64 + k)) (0)) t) (Z := sgZ 2 (byAt I 18 19) (rhC I (0)) (muC I (fun k => byAt I 18 19 (64 + k)) (0)) t) (fl := sgF 2 (byAt I 18 19) (rhC I (0)) (muC I (fun k => byAt I 18 19 (64 + k)) (0)) t) S ((SD.fc F (by intro a x; omega)).fc T8 (by intro a x; omega)) (((c5.fc F6 (by decide) (by decide)).fc F7 (by decide) (by decide)).fc F8 (by decide) (by decide)) (fun m a b j x y => (F8.1 _ j (by omega)).trans ((F7.1 _ j (by omega)).trans (g6.2.2 m a b j x y))) (fun _ _ _ => sgZ_in) (fun m a b j x y => wiN_20 (by decide) sgZ_in (g6.2.1 m a b) x y) g8.2.2.1 g8.2.1.2 g8.2.2.2) rfl rfl rfl (fun u_97 q_97 => ?_)
            obtain ⟨F9, H9⟩ := q_97
            have gd : sgGood 2 (byAt I 18 19) (rhC I (0)) (muC I (fun k => byAt I 18 19 (64 + k)) (0)) t := ⟨g6.2.1, g7.2.1, g8.2.1.1, g8.2.1.2⟩
            have rn : sgRun 2 (byAt I 18 19) (rhC I (0)) (muC I (fun k => byAt I 18 19 (64 + k)) (0)) 814 0 = some t := by rw [run, eN]; exact sgRun_g ok5 gd
            show AW l G M_Si_sign P 100 [(4, vi t), (3, vi 0), (2, vr 35), (1, vr 13), (0, vr 146)] [] (sD h u_97 L_65)
            refine aw_iload d_Si_sign_100 rfl ?_
            refine aw_iconst d_Si_sign_102 ⟨by decide, by decide⟩ ?_
            refine ax_iadd d_Si_sign_103 ⟨(by omega), (by omega)⟩ ?_
            exact aw_iret d_Si_sign_104 rfl (hP _ _ (Or.inl ⟨⟨okA, by rw [rn]; exact (fun z => by cases z)⟩, _, _, _, ⟨(F.tr T8 (r := fun a => 36 ≤ a ∧ a ≤ 174 ∧ a ≠ 43) (by intro a x; omega)).tr F9 (by intro a x; omega), t, rn, rfl, H9⟩, rfl, rfl⟩))
  skip
  refine aw_sub (lv' := [(4, vi 0), (3, vi 0), (2, vr 35), (1, vr 13), (0, vr 146)]) (by simp) ?_
  exact lp_35 _ 0 I2 L2 (by omega) (G2) (fun m a b j x y => (F2.1 _ j (by omega)).trans ((F1.1 _ j (by omega)).trans (m0 m a b j x y))) (fun m a b j x y => (F2.1 _ j (by omega)).trans ((F1.1 _ j (by omega)).trans (s0 m a b j x y))) (fun m a b j x y => (F2.1 _ j (by omega)).trans ((F1.1 _ j (by omega)).trans (r0 m a b j x y))) (fun m a b j x y => (F2.1 _ j (by omega)).trans ((F1.1 _ j (by omega)).trans (d0 m a b j x y))) (H1.fc F2 (by decide) (by decide)) (H2) (rfl) rfl
set_option maxHeartbeats 800000 in
set_option maxRecDepth 100000 in
theorem c_Si_sign2N {l : Launch} {G : a_G} {h : Hp} {I L : Nat → Int → Int} (S : Shp h) (hfl : l.flags = flags0) (rm : hX h + 1 ≤ a_NX ∧ hU h + 6 ≤ a_US) (SD : Std I L) (cb : CB I) : AW l G M_Si_sign (DvR h I L (sgOk 2 (byAt I 18 19) ∧ sgRun 2 (byAt I 18 19) (rhC I (-1)) (muC I (fun k => byAt I 18 19 (64 + k)) (-1)) 814 0 ≠ none) (fun v I' L' => FC (fun a => a = 24 ∨ a = 25 ∨ 36 ≤ a ∧ a ≤ 174 ∧ a ≠ 43) I L I' L' ∧ ∃ t, sgRun 2 (byAt I 18 19) (rhC I (-1)) (muC I (fun k => byAt I 18 19 (64 + k)) (-1)) 814 0 = some t ∧ v = t + 1 ∧ HB I' 24 25 (sPkt 2) (sgPk 2 (byAt I 18 19) (rhC I (-1)) (muC I (fun k => byAt I 18 19 (64 + k)) (-1)) t))) 0 (a_ar 0 [vr 146, vr 13, vr 35, vi (-1)]) [] (sD h I L) := by
  suffices key : ∀ P : a_R → Hp → Prop, (∀ r_ h2_, DvR h I L (sgOk 2 (byAt I 18 19) ∧ sgRun 2 (byAt I 18 19) (rhC I (-1)) (muC I (fun k => byAt I 18 19 (64 + k)) (-1)) 814 0 ≠ none) (fun v I' L' => FC (fun a => a = 24 ∨ a = 25 ∨ 36 ≤ a ∧ a ≤ 174 ∧ a ≠ 43) I L I' L' ∧ ∃ t, sgRun 2 (byAt I 18 19) (rhC I (-1)) (muC I (fun k => byAt I 18 19 (64 + k)) (-1)) 814 0 = some t ∧ v = t + 1 ∧ HB I' 24 25 (sPkt 2) (sgPk 2 (byAt I 18 19) (rhC I (-1)) (muC I (fun k => byAt I 18 19 (64 + k)) (-1)) t)) r_ h2_ → P r_ h2_) → AW l G M_Si_sign P 0 [(0, vr 146), (1, vr 13), (2, vr 35), (3, vi (-1))] [] (sD h I L) from key _ (fun _ _ q => q)
  intro P hP
  have cb0 : 0 ≤ I 14 1 ∧ I 14 1 ≤ 8192 := cb.1 0 (by decide)
  have cb2 : 0 ≤ I 18 1 ∧ I 18 1 ≤ 8192 := cb.1 2 (by decide)
  refine aw_aload_n d_Si_sign_0 rfl rfl ?_
  refine aw_aload_n d_Si_sign_1 rfl rfl ?_
  refine aw_iconst d_Si_sign_2 ⟨by decide, by decide⟩ ?_
  refine ax_aald (b := 18) d_Si_sign_3 ⟨by rw [(k_13 S)]; decide, by rw [(k_13 S)]; decide⟩ (by omega) (by rw [n_13 S]; omega) (r_13_2 S) ?_
  refine aw_aload_n d_Si_sign_4 rfl rfl ?_
  refine ax_VtT (st := []) (as := [vr 18, vr 35]) (b := 146) d_Si_sign_5 cs_Si_sign_5 (k_146 S) (c_Si_readSecret2 S hfl rm SD (by omega)) rfl rfl rfl (fun ok_5 I_5 L_5 q_5 => ?_) (fun no_5 I_5 L_5 q_5 => at_leave rfl (hP _ _ (Or.inr ⟨fun z => no_5 (by rw [b0_eq]; exact z.1), I_5, L_5, q_5, rfl, rfl⟩)))
  obtain ⟨F0, m0, s0, r0, d0⟩ := q_5
  rw [b0_eq] at ok_5
  have okA : sgOk 2 (byAt I 18 19) := ok_5
  have G0 : FC (fun a => 36 ≤ a ∧ a ≤ 174 ∧ a ≠ 43) I L I_5 L_5 := F0.mono (by intro a x; omega)
  have m0 : ∀ m, 0 ≤ m → m < 56 → eqQ (I_5 (45 + m.toNat)) (sgA 2 (byAt I 18 19) m) := fun m a b c x y => by have z := m0 m a b c x y; rw [b0_eq] at z; exact z
  have s0 : ∀ m, 0 ≤ m → m < 7 → eqQ (I_5 (102 + m.toNat)) (sgV 2 (byAt I 18 19) m) := s0
  have r0 : ∀ m, 0 ≤ m → m < 8 → eqQ (I_5 (110 + m.toNat)) (sgV 2 (byAt I 18 19) (7 + m)) := r0
  have d0 : ∀ m, 0 ≤ m → m < 8 → eqQ (I_5 (148 + m.toNat)) (sgD 2 (byAt I 18 19) m) := d0
  show AW l G M_Si_sign P 8 [(0, vr 146), (1, vr 13), (2, vr 35), (3, vi (-1))] [] (sD h I_5 L_5)
  refine aw_aload_n d_Si_sign_8 rfl rfl ?_
  refine ax_getR (b := 36) d_Si_sign_9 fd_Si_38 (k_146 S) (r_146_0 S) ?_
  refine aw_aload_n d_Si_sign_12 rfl rfl ?_
  refine aw_iconst d_Si_sign_13 ⟨by decide, by decide⟩ ?_
  refine ax_aald (b := 18) d_Si_sign_14 ⟨by rw [(k_13 S)]; decide, by rw [(k_13 S)]; decide⟩ (by omega) (by rw [n_13 S]; omega) (r_13_2 S) ?_
  refine aw_bipush d_Si_sign_15 ⟨by decide, by decide⟩ (by decide) ?_
  refine aw_aload_n d_Si_sign_17 rfl rfl ?_
  refine aw_iload_n d_Si_sign_18 rfl rfl ?_
  refine ax_Vr (st := []) (as := [vr 18, vi 64, vr 13, vi (-1)]) (b := 36) d_Si_sign_19 cs_Si_sign_19 (k_36 S) (c_Be_digestSignedN S (SD.fc G0 (by intro a x; omega)) (ks S (i := 2) (by decide)) (by decide) (by rw [G0.1 18 1 (by omega), nks S (i := 2) (by decide)]; omega) ⟨fun s hs => by rw [G0.1 _ 1 (by omega)]; exact cb.1 s hs, by rw [G0.1 _ 1 (by omega)]; exact cb.2⟩) rfl rfl rfl (fun u_19 q_19 => ?_)
  obtain ⟨I1, L1⟩ := u_19
  obtain ⟨F1, a1, b1⟩ := q_19
  dsimp only at F1 a1 b1
  have H1 : HB I1 137 138 64 (muC I (fun k => byAt I 18 19 (64 + k)) (-1)) := ⟨a1, fun z x y => (b1 z x y).trans (by unfold muC; rw [G0.1 22 1 (by omega), G0.1 20 1 (by omega), show (fun k => byAt I_5 22 23 (0 + k)) = (fun k => byAt I 22 23 (0 + k)) from funext (fun k => byAt_fc G0 (by omega) (by omega)), show (fun k => byAt I_5 20 21 (0 + k)) = (fun k => byAt I 20 21 (0 + k)) from funext (fun k => byAt_fc G0 (by omega) (by omega)), show (fun k => byAt I_5 18 (15 + 2 * 2) (64 + k)) = (fun k => byAt I 18 19 (64 + k)) from funext (fun k => byAt_fc G0 (by omega) (by omega))])⟩
  have G1 : FC (fun a => 36 ≤ a ∧ a ≤ 174 ∧ a ≠ 43) I L I1 L1 := G0.tr F1 (by intro a x; omega)
  show AW l G M_Si_sign P 22 [(0, vr 146), (1, vr 13), (2, vr 35), (3, vi (-1))] [] (sD h I1 L1)
  refine aw_aload_n d_Si_sign_22 rfl rfl ?_
  refine aw_aload_n d_Si_sign_23 rfl rfl ?_
  refine aw_iconst d_Si_sign_24 ⟨by decide, by decide⟩ ?_
  refine ax_aald (b := 18) d_Si_sign_25 ⟨by rw [(k_13 S)]; decide, by rw [(k_13 S)]; decide⟩ (by omega) (by rw [n_13 S]; omega) (r_13_2 S) ?_
  refine aw_aload_n d_Si_sign_26 rfl rfl ?_
  refine aw_iconst d_Si_sign_27 ⟨by decide, by decide⟩ ?_
  refine ax_aald (b := 14) d_Si_sign_28 ⟨by rw [(k_13 S)]; decide, by rw [(k_13 S)]; decide⟩ (by omega) (by rw [n_13 S]; omega) (r_13_0 S) ?_
  refine ax_Vr (st := []) (as := [vr 18, vr 14]) (b := 146) d_Si_sign_29 cs_Si_sign_29 (k_146 S) (c_Si_drawMaskSeed S (SD.fc G1 (by intro a x; omega)) (by rw [G1.1 14 1 (by omega), G1.1 18 1 (by omega), H1.1]; omega)) rfl rfl rfl (fun u_29 q_29 => ?_)
  obtain ⟨I2, L2⟩ := u_29
  obtain ⟨F2, H2⟩ := q_29
  dsimp only at F2 H2
  have G2 : FC (fun a => 36 ≤ a ∧ a ≤ 174 ∧ a ≠ 43) I L I2 L2 := G1.tr F2 (by intro a x; omega)
  rw [show (fun k => byAt I1 18 19 (32 + k)) = (fun k => byAt I 18 19 (32 + k)) from funext (fun k => byAt_fc G1 (by omega) (by omega)), show (fun k => byAt I1 14 15 (0 + k)) = (fun k => byAt I 14 15 (0 + k)) from funext (fun k => byAt_fc G1 (by omega) (by omega)), rhS_congr (gd' := (muC I (fun k => byAt I 18 19 (64 + k)) (-1))) (fun k hk => by rw [Int.zero_add, H1.2 k (by omega) (by omega)])] at H2
  have H2 : HB I2 164 165 64 (rhC I (-1)) := H2
  show AW l G M_Si_sign P 32 [(0, vr 146), (1, vr 13), (2, vr 35), (3, vi (-1))] [] (sD h I2 L2)
  refine aw_iconst d_Si_sign_32 ⟨by decide, by decide⟩ ?_
  refine aw_istore (lv' := [(4, vi 0), (0, vr 146), (1, vr 13), (2, vr 35), (3, vi (-1))]) d_Si_sign_33 (by decide) rfl ?_
  have lp_35 : ∀ (n_ : Nat) (t : Int) (K : Nat → Int → Int) (M : Nat → Int → Int), (0 ≤ t ∧ t ≤ 814) → (FC (fun a => 36 ≤ a ∧ a ≤ 174 ∧ a ≠ 43) I L K M) → (∀ m, 0 ≤ m → m < 56 → eqQ (K (45 + m.toNat)) (sgA 2 (byAt I 18 19) m)) → (∀ m, 0 ≤ m → m < 7 → eqQ (K (102 + m.toNat)) (sgV 2 (byAt I 18 19) m)) → (∀ m, 0 ≤ m → m < 8 → eqQ (K (110 + m.toNat)) (sgV 2 (byAt I 18 19) (7 + m))) → (∀ m, 0 ≤ m → m < 8 → eqQ (K (148 + m.toNat)) (sgD 2 (byAt I 18 19) m)) → (HB K 137 138 64 (muC I (fun k => byAt I 18 19 (64 + k)) (-1))) → (HB K 164 165 64 (rhC I (-1))) → (sgRun 2 (byAt I 18 19) (rhC I (-1)) (muC I (fun k => byAt I 18 19 (64 + k)) (-1)) 814 0 = sgRun 2 (byAt I 18 19) (rhC I (-1)) (muC I (fun k => byAt I 18 19 (64 + k)) (-1)) (814 - t).toNat t) → ((814 - t).toNat) = n_ → AW l G M_Si_sign P 35 [(4, vi t), (3, vi (-1)), (2, vr 35), (1, vr 13), (0, vr 146)] [] (sD h K M) := by
    intro n_
    induction n_ using Nat.strongRecOn with
    | _ n_ ih_35 =>
    intro t K M ht F mt sc er dr hd hr run hm_35
    refine aw_iload d_Si_sign_35 rfl ?_
    refine aw_sipush d_Si_sign_37 ⟨by decide, by decide⟩ (by decide) ?_
    refine aw_icmp_ge (tgt := 111) d_Si_sign_40 (by decide) (fun c_40 => ?_) (fun c_40 => ?_)
    · skip
      exact ax_throw hfl th_Si_sign_111 rm.1 rm.2 (hP _ _ (Or.inr ⟨fun z => z.2 (by rw [run, show (814 - t).toNat = 0 by omega]; rfl), K, M, F.frc (by intro a x; omega), rfl, rfl⟩))
    · skip
      refine aw_aload_n d_Si_sign_43 rfl rfl ?_
      refine aw_aload_n d_Si_sign_44 rfl rfl ?_
      refine aw_iload d_Si_sign_45 rfl ?_
      refine aw_aload_n d_Si_sign_47 rfl rfl ?_
      refine ax_getIe (x := 7) d_Si_sign_48 fd_Si_56 (k_35 S) (Eq.trans (F.1 35 1 (by omega)) (pc_35_1 SD.2.1)) ?_
      refine ax_imul d_Si_sign_51 ⟨(by omega), (by omega)⟩ ?_
      refine ax_Vr (st := []) (as := [vr 35, vi (t * 7)]) (b := 146) d_Si_sign_52 cs_Si_sign_52 (k_146 S) (c_Si_drawMasks2 S (SD.fc F (by intro a x; omega)) (by rw [hr.1]; omega)) rfl rfl rfl (fun u_52 q_52 => ?_)
      obtain ⟨I3, L3⟩ := u_52
      obtain ⟨F3, k3, n3⟩ := q_52
      dsimp only at F3 k3 n3
      have T3 : FC (fun a => a = 38 ∨ 119 ≤ a ∧ a ≤ 136 ∨ 139 ≤ a ∧ a ≤ 142 ∨ 157 ≤ a ∧ a ≤ 163 ∨ 166 ≤ a ∧ a ≤ 169) K M I3 L3 := F3.mono (by intro a x; omega)
      have k3 : ∀ m, 0 ≤ m → m < 7 → eqQ (I3 (157 + m.toNat)) (sgM 2 (rhC I (-1)) (t * 7 + m)) := fun m a b j x y => by rw [k3 m a b j x y, mskF_congr (rh' := (rhC I (-1))) (fun k hk => by rw [Int.zero_add, hr.2 k (by omega) (by omega)])]; rfl
      have n3 : ∀ m, 0 ≤ m → m < 7 → eqQ (I3 (119 + m.toNat)) (fwd rt (sgM 2 (rhC I (-1)) (t * 7 + m))) := fun m a b j x y => by rw [n3 m a b j x y, mskF_congr (rh' := (rhC I (-1))) (fun k hk => by rw [Int.zero_add, hr.2 k (by omega) (by omega)])]; rfl
      show AW l G M_Si_sign P 55 [(4, vi t), (3, vi (-1)), (2, vr 35), (1, vr 13), (0, vr 146)] [] (sD h I3 L3)
      refine aw_aload_n d_Si_sign_55 rfl rfl ?_
      refine aw_aload_n d_Si_sign_56 rfl rfl ?_
      refine ax_Vr (st := []) (as := [vr 35]) (b := 146) d_Si_sign_57 cs_Si_sign_57 (k_146 S) (c_Si_commit2 (A := sgA 2 (byAt I 18 19)) (V := fun j => fwd rt (sgM 2 (rhC I (-1)) (t * 7 + j))) S ((SD.fc F (by intro a x; omega)).fc T3 (by intro a x; omega)) (fun m a b j x y => (T3.1 _ j (by omega)).trans (mt m a b j x y)) (fun _ _ _ => sgA_in) n3 (fun _ _ _ => fwd_in sgM_in) (by rw [T3.1 137 1 (by omega), hd.1]; omega)) rfl rfl rfl (fun u_57 q_57 => ?_)
      obtain ⟨I4, L4⟩ := u_57
      obtain ⟨F4, w4, c4⟩ := q_57
      dsimp only at F4 w4 c4
      have T4 : FC (fun a => a = 38 ∨ 119 ≤ a ∧ a ≤ 136 ∨ 139 ≤ a ∧ a ≤ 142 ∨ 157 ≤ a ∧ a ≤ 163 ∨ 166 ≤ a ∧ a ≤ 169) K M I4 L4 := T3.tr F4 (by intro a x; omega)
      have w4 : ∀ m, 0 ≤ m → m < 8 → eqQ (I4 (127 + m.toNat)) (sgW 2 (byAt I 18 19) (rhC I (-1)) t m) := w4
      rw [hhS_congr (gd' := (muC I (fun k => byAt I 18 19 (64 + k)) (-1))) (fun k hk => by rw [Int.zero_add, byAt_fc T3 (by omega) (by omega), hd.2 k (by omega) (by omega)]) (fun k _ => rfl)] at c4
      have c4 : HB I4 139 140 64 (sgC 2 (byAt I 18 19) (rhC I (-1)) (muC I (fun k => byAt I 18 19 (64 + k)) (-1)) t) := c4
      have eB : blS (fun k => byAt I4 139 140 (0 + k)) (I4 139 1) = sgBs 2 (byAt I 18 19) (rhC I (-1)) (muC I (fun k => byAt I 18 19 (64 + k)) (-1)) t := by rw [c4.1]; exact blS_congr (fun k hk => by rw [Int.zero_add, c4.2 k (by omega) hk])
      show AW l G M_Si_sign P 60 [(4, vi t), (3, vi (-1)), (2, vr 35), (1, vr 13), (0, vr 146)] [] (sD h I4 L4)
      refine aw_aload_n d_Si_sign_60 rfl rfl ?_
      refine ax_getR (b := 36) d_Si_sign_61 fd_Si_38 (k_146 S) (r_146_0 S) ?_
      refine aw_aload_n d_Si_sign_64 rfl rfl ?_
      refine ax_VtT (st := []) (as := [vr 35]) (b := 36) d_Si_sign_65 cs_Si_sign_65 (k_36 S) (c_Be_castBall2 S hfl rm ((SD.fc F (by intro a x; omega)).fc T4 (by intro a x; omega)) (by rw [c4.1]; omega)) rfl rfl rfl (fun ok_65 I_65 L_65 q_65 => ?_) (fun no_65 I_65 L_65 q_65 => at_leave rfl (hP _ _ (Or.inr ⟨fun z => z.2 (by rw [run, show (814 - t).toNat = (814 - (t + 1)).toNat + 1 by omega]; rw [eB] at no_65; exact sgRun_x (Classical.byContradiction (fun y => no_65 y))), I_65, L_65, ((F.frc (by intro a x; omega)).tr (T4.frc (by intro a x; omega))).tr q_65, rfl, rfl⟩)))
      obtain ⟨F5, b5⟩ := q_65
      rw [eB] at ok_65 b5
      have ok5 : bll (pT 2) (sgBs 2 (byAt I 18 19) (rhC I (-1)) (muC I (fun k => byAt I 18 19 (64 + k)) (-1)) t) ≠ none := ok_65
      have T5 : FC (fun a => a = 38 ∨ 119 ≤ a ∧ a ≤ 136 ∨ 139 ≤ a ∧ a ≤ 142 ∨ 157 ≤ a ∧ a ≤ 163 ∨ 166 ≤ a ∧ a ≤ 169) K M I_65 L_65 := T4.tr F5 (by intro a x; omega)
      have b5 : eqQ (I_65 135) (sgB 2 (byAt I 18 19) (rhC I (-1)) (muC I (fun k => byAt I 18 19 (64 + k)) (-1)) t) := b5
      have w5 : ∀ m, 0 ≤ m → m < 8 → eqQ (I_65 (127 + m.toNat)) (sgW 2 (byAt I 18 19) (rhC I (-1)) t m) := fun m a b j x y => (F5.1 _ j (by omega)).trans (w4 m a b j x y)
      have c5 := c4.fc F5 (by decide) (by decide)
      have k5 : ∀ m, 0 ≤ m → m < 7 → eqQ (I_65 (157 + m.toNat)) (sgM 2 (rhC I (-1)) (t * 7 + m)) := fun m a b j x y => (F5.1 _ j (by omega)).trans ((F4.1 _ j (by omega)).trans (k3 m a b j x y))
      have eN : (814 - t).toNat = (814 - (t + 1)).toNat + 1 := by omega
      show AW l G M_Si_sign P 68 [(4, vi t), (3, vi (-1)), (2, vr 35), (1, vr 13), (0, vr 146)] [] (sD h I_65 L_65)
      refine aw_aload_n d_Si_sign_68 rfl rfl ?_
      refine aw_aload_n d_Si_sign_69 rfl rfl ?_
      refine ax_Vr (st := []) (as := [vr 35]) (b := 146) d_Si_sign_70 cs_Si_sign_70 (k_146 S) (c_Si_answersHide2 (B := (sgB 2 (byAt I 18 19) (rhC I (-1)) (muC I (fun k => byAt I 18 19 (64 + k)) (-1)) t)) (V := sgV 2 (byAt I 18 19)) (Mk := fun m => sgM 2 (rhC I (-1)) (t * 7 + m)) S ((SD.fc F (by intro a x; omega)).fc T5 (by intro a x; omega)) b5 sgB_in k5 (fun _ _ _ => sgM_in) (fun m a b j x y => (T5.1 _ j (by omega)).trans (sc m a b j x y)) (fun _ _ _ => sgV_in)) rfl rfl rfl (fun u_70 q_70 => ?_)
      obtain ⟨v6, K6⟩ := u_70
      obtain ⟨F6, q6⟩ := q_70
      dsimp only at F6 q6
      have T6 : FC (fun a => a = 38 ∨ 119 ≤ a ∧ a ≤ 136 ∨ 139 ≤ a ∧ a ≤ 142 ∨ 157 ≤ a ∧ a ≤ 163 ∨ 166 ≤ a ∧ a ≤ 169) K M K6 L_65 := T5.tr F6 (by intro a x; omega)
      show AW l G M_Si_sign P 73 [(4, vi t), (3, vi (-1)), (2, vr 35), (1, vr 13), (0, vr 146)] [vi v6] (sD h K6 L_65)
      refine aw_if_eq (tgt := 105) d_Si_sign_73 (by decide) (fun c_73 => ?_) (fun c_73 => ?_)
      · skip
        refine ax_iinc (lv' := [(4, vi (t + 1)), (3, vi (-1)), (2, vr 35), (1, vr 13), (0, vr 146)]) d_Si_sign_105 rfl (by decide) ⟨(by omega), (by omega)⟩ rfl ?_
        refine aw_goto (tgt := 35) d_Si_sign_108 (by decide) ?_
        exact ih_35 _ (by omega) (t + 1) K6 L_65 (by omega) (F.tr T6 (by intro a x; omega)) (fun m a b j x y => (T6.1 _ j (by omega)).trans (mt m a b j x y)) (fun m a b j x y => (T6.1 _ j (by omega)).trans (sc m a b j x y)) (fun m a b j x y => (T6.1 _ j (by omega)).trans (er m a b j x y)) (fun m a b j x y => (T6.1 _ j (by omega)).trans (dr m a b j x y)) (hd.fc T6 (by omega) (by omega)) (hr.fc T6 (by omega) (by omega)) (by rw [run, eN]; exact sgRun_n ok5 (fun z => by rcases q6 with y | y; exact absurd y.1 (by omega); exact y.2 z.1)) rfl
      · skip
        refine aw_aload_n d_Si_sign_76 rfl rfl ?_
        refine aw_aload_n d_Si_sign_77 rfl rfl ?_
        have g6 := q6.resolve_right (fun z => c_73 z.1)
        refine ax_Vr (st := []) (as := [vr 35]) (b := 146) d_Si_sign_78 cs_Si_sign_78 (k_146 S) (c_Si_lowsHide2 (B := (sgB 2 (byAt I 18 19) (rhC I (-1)) (muC I (fun k => byAt I 18 19 (64 + k)) (-1)) t)) (V := fun m => sgV 2 (byAt I 18 19) (7 + m)) (W := sgW 2 (byAt I 18 19) (rhC I (-1)) t) S ((SD.fc F (by intro a x; omega)).fc T6 (by intro a x; omega)) (fun j x y => (F6.1 _ j (by omega)).trans (b5 j x y)) sgB_in (fun m a b j x y => (F6.1 _ j (by omega)).trans (w5 m a b j x y)) (fun _ _ _ => imF_in) (fun m a b j x y => (T6.1 _ j (by omega)).trans (er m a b j x y)) (fun _ _ _ => sgV_in)) rfl rfl rfl (fun u_78 q_78 => ?_)
        obtain ⟨v7, K7⟩ := u_78
        obtain ⟨F7, q7⟩ := q_78
        dsimp only at F7 q7
        have T7 : FC (fun a => a = 38 ∨ 119 ≤ a ∧ a ≤ 136 ∨ 139 ≤ a ∧ a ≤ 142 ∨ 157 ≤ a ∧ a ≤ 163 ∨ 166 ≤ a ∧ a ≤ 169) K M K7 L_65 := T6.tr F7 (by intro a x; omega)
        show AW l G M_Si_sign P 81 [(4, vi t), (3, vi (-1)), (2, vr 35), (1, vr 13), (0, vr 146)] [vi v7] (sD h K7 L_65)
        refine aw_if_eq (tgt := 105) d_Si_sign_81 (by decide) (fun c_81 => ?_) (fun c_81 => ?_)
        · skip
          refine ax_iinc (lv' := [(4, vi (t + 1)), (3, vi (-1)), (2, vr 35), (1, vr 13), (0, vr 146)]) d_Si_sign_105 rfl (by decide) ⟨(by omega), (by omega)⟩ rfl ?_
          refine aw_goto (tgt := 35) d_Si_sign_108 (by decide) ?_
          exact ih_35 _ (by omega) (t + 1) K7 L_65 (by omega) (F.tr T7 (by intro a x; omega)) (fun m a b j x y => (T7.1 _ j (by omega)).trans (mt m a b j x y)) (fun m a b j x y => (T7.1 _ j (by omega)).trans (sc m a b j x y)) (fun m a b j x y => (T7.1 _ j (by omega)).trans (er m a b j x y)) (fun m a b j x y => (T7.1 _ j (by omega)).trans (dr m a b j x y)) (hd.fc T7 (by omega) (by omega)) (hr.fc T7 (by omega) (by omega)) (by rw [run, eN]; exact sgRun_n ok5 (fun z => by rcases q7 with y | y; exact absurd y.1 (by omega); exact y.2 z.2.1)) rfl
        · skip
          refine aw_aload_n d_Si_sign_84 rfl rfl ?_
          refine aw_aload_n d_Si_sign_85 rfl rfl ?_
          have g7 := q7.resolve_right (fun z => c_81 z.1)
          refine ax_Vr (st := []) (as := [vr 35]) (b := 146) d_Si_sign_86 cs_Si_sign_86 (k_146 S) (c_Si_hintsSuffice2 (B := (sgB 2 (byAt I 18 19) (rhC I (-1)) (muC I (fun k => byAt I 18 19 (64 + k)) (-1)) t)) (V := sgD 2 (byAt I 18 19)) (W := sgR 2 (byAt I 18 19) (rhC I (-1)) (muC I (fun k => byAt I 18 19 (64 + k)) (-1)) t) (fl := sgF 2 (byAt I 18 19) (rhC I (-1)) (muC I (fun k => byAt I 18 19 (64 + k)) (-1)) t) S ((SD.fc F (by intro a x; omega)).fc T7 (by intro a x; omega)) (fun j x y => (F7.1 _ j (by omega)).trans ((F6.1 _ j (by omega)).trans (b5 j x y))) sgB_in g7.2.2 (fun _ _ _ => sgR_in) (fun m a b j x y => (T7.1 _ j (by omega)).trans (dr m a b j x y)) (fun _ _ _ => sgD_in) (fun m hm j hj => sgF_at hj)) rfl rfl rfl (fun u_86 q_86 => ?_)
          obtain ⟨v8, K8⟩ := u_86
          obtain ⟨F8, q8⟩ := q_86
          dsimp only at F8 q8
          have T8 : FC (fun a => a = 38 ∨ 119 ≤ a ∧ a ≤ 136 ∨ 139 ≤ a ∧ a ≤ 142 ∨ 157 ≤ a ∧ a ≤ 163 ∨ 166 ≤ a ∧ a ≤ 169) K M K8 L_65 := T7.tr F8 (by intro a x; omega)
          show AW l G M_Si_sign P 89 [(4, vi t), (3, vi (-1)), (2, vr 35), (1, vr 13), (0, vr 146)] [vi v8] (sD h K8 L_65)
          refine aw_if_eq (tgt := 105) d_Si_sign_89 (by decide) (fun c_89 => ?_) (fun c_89 => ?_)
          · skip
            refine ax_iinc (lv' := [(4, vi (t + 1)), (3, vi (-1)), (2, vr 35), (1, vr 13), (0, vr 146)]) d_Si_sign_105 rfl (by decide) ⟨(by omega), (by omega)⟩ rfl ?_
            refine aw_goto (tgt := 35) d_Si_sign_108 (by decide) ?_
            exact ih_35 _ (by omega) (t + 1) K8 L_65 (by omega) (F.tr T8 (by intro a x; omega)) (fun m a b j x y => (T8.1 _ j (by omega)).trans (mt m a b j x y)) (fun m a b j x y => (T8.1 _ j (by omega)).trans (sc m a b j x y)) (fun m a b j x y => (T8.1 _ j (by omega)).trans (er m a b j x y)) (fun m a b j x y => (T8.1 _ j (by omega)).trans (dr m a b j x y)) (hd.fc T8 (by omega) (by omega)) (hr.fc T8 (by omega) (by omega)) (by rw [run, eN]; exact sgRun_n ok5 (fun z => by rcases q8 with y | y; exact absurd y.1 (by omega); exact y.2 z.2.2)) rfl
          · skip
            refine aw_aload_n d_Si_sign_92 rfl rfl ?_
            refine aw_aload_n d_Si_sign_93 rfl rfl ?_
            refine aw_iconst d_Si_sign_94 ⟨by decide, by decide⟩ ?_
            refine ax_aald (b := 24) d_Si_sign_95 ⟨by rw [(k_13 S)]; decide, by rw [(k_13 S)]; decide⟩ (by omega) (by rw [n_13 S]; omega) (r_13_5 S) ?_
            refine aw_aload_n d_Si_sign_96 rfl rfl ?_
            have g8 := q8.resolve_right (fun z => c_89 z.1)
            refine ax_Vr (st := []) (as := [vr 24, vr 35]) (b := 146) d_Si_sign_97 cs_Si_sign_97 (k_146 S) (c_Si_writePacket2 (ch := sgC 2 (byAt I 18 19) (rhC I (-1)) (muC I (fun k => byAt I 18 19 (64 + k)) (-1)) t) (Z := sgZ 2 (byAt I 18 19) (rhC I (-1)) (muC I (fun k => byAt I 18 19 (64 + k)) (-1)) t) (fl := sgF 2 (byAt I 18 19) (rhC I (-1)) (muC I (fun k => byAt I 18 19 (64 + k)) (-1)) t) S ((SD.fc F (by intro a x; omega)).fc T8 (by intro a x; omega)) (((c5.fc F6 (by decide) (by decide)).fc F7 (by decide) (by decide)).fc F8 (by decide) (by decide)) (fun m a b j x y => (F8.1 _ j (by omega)).trans ((F7.1 _ j (by omega)).trans (g6.2.2 m a b j x y))) (fun _ _ _ => sgZ_in) (fun m a b j x y => wiN_20 (by decide) sgZ_in (g6.2.1 m a b) x y) g8.2.2.1 g8.2.1.2 g8.2.2.2) rfl rfl rfl (fun u_97 q_97 => ?_)
            obtain ⟨F9, H9⟩ := q_97
            have gd : sgGood 2 (byAt I 18 19) (rhC I (-1)) (muC I (fun k => byAt I 18 19 (64 + k)) (-1)) t := ⟨g6.2.1, g7.2.1, g8.2.1.1, g8.2.1.2⟩
            have rn : sgRun 2 (byAt I 18 19) (rhC I (-1)) (muC I (fun k => byAt I 18 19 (64 + k)) (-1)) 814 0 = some t := by rw [run, eN]; exact sgRun_g ok5 gd
            show AW l G M_Si_sign P 100 [(4, vi t), (3, vi (-1)), (2, vr 35), (1, vr 13), (0, vr 146)] [] (sD h u_97 L_65)
            refine aw_iload d_Si_sign_100 rfl ?_
            refine aw_iconst d_Si_sign_102 ⟨by decide, by decide⟩ ?_
            refine ax_iadd d_Si_sign_103 ⟨(by omega), (by omega)⟩ ?_
            exact aw_iret d_Si_sign_104 rfl (hP _ _ (Or.inl ⟨⟨okA, by rw [rn]; exact (fun z => by cases z)⟩, _, _, _, ⟨(F.tr T8 (r := fun a => 36 ≤ a ∧ a ≤ 174 ∧ a ≠ 43) (by intro a x; omega)).tr F9 (by intro a x; omega), t, rn, rfl, H9⟩, rfl, rfl⟩))
  skip
  refine aw_sub (lv' := [(4, vi 0), (3, vi (-1)), (2, vr 35), (1, vr 13), (0, vr 146)]) (by simp) ?_
  exact lp_35 _ 0 I2 L2 (by omega) (G2) (fun m a b j x y => (F2.1 _ j (by omega)).trans ((F1.1 _ j (by omega)).trans (m0 m a b j x y))) (fun m a b j x y => (F2.1 _ j (by omega)).trans ((F1.1 _ j (by omega)).trans (s0 m a b j x y))) (fun m a b j x y => (F2.1 _ j (by omega)).trans ((F1.1 _ j (by omega)).trans (r0 m a b j x y))) (fun m a b j x y => (F2.1 _ j (by omega)).trans ((F1.1 _ j (by omega)).trans (d0 m a b j x y))) (H1.fc F2 (by decide) (by decide)) (H2) (rfl) rfl
