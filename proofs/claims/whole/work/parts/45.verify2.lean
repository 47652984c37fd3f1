/-! verifying -/
theorem HB.become {I : Nat → Int → Int} {b r b2 r2 : Nat} {n : Int} (hbr : b ≠ r) (hn : n ≤ I b2 1) : HB (byBecome I b r r2 n) b r n (byAt I b2 r2) := by
  have e1 : byBecome I b r r2 n b 1 = n := by unfold byBecome; rw [a_up_at]
  refine ⟨e1, fun k k0 k1 => ?_⟩
  unfold byAt
  rw [e1, if_pos ⟨k0, k1⟩, if_pos ⟨k0, by omega⟩]
  unfold byBecome byCopy
  rw [a_up_ne (Or.inl (Ne.symm hbr)), if_pos ⟨rfl, k0, k1⟩]
theorem FC.become {p : Nat → Prop} {I L : Nat → Int → Int} {b r r2 : Nat} {n : Int} (hb : p b) (hr : p r) : FC p I L (byBecome I b r r2 n) L := ⟨fun a j x => by
  have h1 : a ≠ b := fun e => x (by rw [e]; exact hb)
  have h2 : a ≠ r := fun e => x (by rw [e]; exact hr)
  unfold byBecome byCopy
  rw [a_up_ne (Or.inl h1)]
  exact if_neg (fun e => h2 e.1), fun _ _ _ _ _ => rfl⟩
def sHs (s : Int) : Int := if s = 0 then 44 else 16
def sO3 (s : Int) : Int := pC s + 32 * pB s * pL s
def vfZ (s : Int) (g : Int → Int) (m : Int) : Int → Int := mirF g (pC s + 32 * pB s * m) (pB s).toNat (pG1 s)
theorem vfZ_in {s : Int} {g : Int → Int} {m : Int} : inQ (vfZ s g m) := mirF_in
def vfPre (s : Int) (g : Int → Int) (n : Int) : Prop := n = sPkt s ∧ hSt g (sO3 s) (pW s) (pK s) ∧ ∀ m, 0 ≤ m → m < pL s → wiN (pG1 s - sBd s) (vfZ s g m)
def vfBs (s : Int) (g : Int → Int) : Sp := blS g (pC s)
def vfB (s : Int) (g : Int → Int) : Int → Int := fwd rt (fun j => blX (pT s) (vfBs s g) j % 8380417)
theorem vfB_in {s : Int} {g : Int → Int} : inQ (vfB s g) := fwd_in (fun j _ _ => ⟨Int.emod_nonneg _ (by decide), Int.emod_lt_of_pos _ (by decide)⟩)
def vfW (s : Int) (pk g : Int → Int) : Int → Int → Int := vmF (sgA s pk) (fun j => fwd rt (vfZ s g j)) (vfB s g) pk (pL s) (pL s).toNat
theorem vfW_in {s : Int} {pk g : Int → Int} {m : Int} : inQ (vfW s pk g m) := vmF_in
noncomputable def vfC (s : Int) (pk g mu : Int → Int) : Int → Int := spOut (hhS mu (hvB g (sO3 s) (pW s) (pG2 s) (sHs s) (sHb s) (32 * (sHb s : Int)) (vfW s pk g)) (32 * (sHb s : Int) * pK s))
def vfOk (s : Int) (pk g : Int → Int) : Prop := bll (pT s) (vfBs s g) ≠ none ∧ sgOk s pk
def muV (I : Nat → Int → Int) (how : Int) : Int → Int := muC I (spOut (blS (fun k => byAt I 16 17 (0 + k)) (I 16 1))) how
theorem hhS_n {gd gp gp' : Int → Int} {n m : Int} (e : n = m) (h2 : ∀ k : Nat, (k : Int) < m → gp k % 256 = gp' k % 256) : hhS gd gp n = hhS gd gp' m := by
  subst e
  exact hhS_congr (fun _ _ => rfl) h2
set_option maxHeartbeats 800000 in
set_option maxRecDepth 100000 in
theorem c_Ve_verify00 {l : Launch} {G : a_G} {h : Hp} {I L : Nat → Int → Int} (S : Shp h) (hfl : l.flags = flags0) (rm : hX h + 1 ≤ a_NX ∧ hU h + 6 ≤ a_US) (SD : Std I L) (cb : CB I) : AW l G M_Ve_verify (DvR h I L (vfPre 0 (byAt I 24 25) (I 24 1) → vfOk 0 (byAt I 16 17) (byAt I 24 25)) (fun v I' L' => (¬ vfPre 0 (byAt I 24 25) (I 24 1) ∧ v = 0 ∧ FC (fun a => 36 ≤ a ∧ a ≤ 174 ∧ a ≠ 43) I L I' L') ∨ (vfPre 0 (byAt I 24 25) (I 24 1) ∧ FC (fun a => a = 26 ∨ a = 27 ∨ 36 ≤ a ∧ a ≤ 174 ∧ a ≠ 43) I L I' L' ∧ HB I' 26 27 (pC 0) (vfC 0 (byAt I 16 17) (byAt I 24 25) (muV I (0))) ∧ (v = 0 ∨ v = 1) ∧ (v = 1 ↔ ∀ j, 0 ≤ j → j < pC 0 → vfC 0 (byAt I 16 17) (byAt I 24 25) (muV I (0)) j = byAt I 24 25 j)))) 0 (a_ar 0 [vr 170, vr 13, vr 33, vi 0]) [] (sD h I L) := by
  suffices key : ∀ P : a_R → Hp → Prop, (∀ r_ h2_, DvR h I L (vfPre 0 (byAt I 24 25) (I 24 1) → vfOk 0 (byAt I 16 17) (byAt I 24 25)) (fun v I' L' => (¬ vfPre 0 (byAt I 24 25) (I 24 1) ∧ v = 0 ∧ FC (fun a => 36 ≤ a ∧ a ≤ 174 ∧ a ≠ 43) I L I' L') ∨ (vfPre 0 (byAt I 24 25) (I 24 1) ∧ FC (fun a => a = 26 ∨ a = 27 ∨ 36 ≤ a ∧ a ≤ 174 ∧ a ≠ 43) I L I' L' ∧ HB I' 26 27 (pC 0) (vfC 0 (byAt I 16 17) (byAt I 24 25) (muV I (0))) ∧ (v = 0 ∨ v = 1) ∧ (v = 1 ↔ ∀ j, 0 ≤ j → j < pC 0 → vfC 0 (byAt I 16 17) (byAt I 24 25) (muV I (0)) j = byAt I 24 25 j))) r_ h2_ → P r_ h2_) → AW l G M_Ve_verify P 0 [(0, vr 170), (1, vr 13), (2, vr 33), (3, vi 0)] [] (sD h I L) from key _ (fun _ _ q => q)
  intro P hP
  have cb1 : 0 ≤ I 16 1 ∧ I 16 1 ≤ 8192 := cb.1 1 (by decide)
  have cb5 : 0 ≤ I 24 1 ∧ I 24 1 ≤ 8192 := cb.1 5 (by decide)
  refine aw_aload_n d_Ve_verify_0 rfl rfl ?_
  refine aw_iconst d_Ve_verify_1 ⟨by decide, by decide⟩ ?_
  refine ax_aald (b := 24) d_Ve_verify_2 ⟨by rw [(k_13 S)]; decide, by rw [(k_13 S)]; decide⟩ (by omega) (by rw [n_13 S]; omega) (r_13_5 S) ?_
  refine aw_astore (lv' := [(4, vr 24), (0, vr 170), (1, vr 13), (2, vr 33), (3, vi 0)]) d_Ve_verify_3 (by decide) rfl ?_
  refine aw_aload d_Ve_verify_5 rfl ?_
  refine ax_getIe (x := I 24 1) d_Ve_verify_7 fd_Ve_27 (k_24 S) (rfl) ?_
  refine aw_aload_n d_Ve_verify_10 rfl rfl ?_
  refine ax_getIe (x := 2420) d_Ve_verify_11 fd_Ve_31 (k_33 S) (pc_33_15 SD.2.1) ?_
  refine aw_icmp_ne (tgt := 36) d_Ve_verify_14 (by decide) (fun c_14 => ?_) (fun c_14 => ?_)
  · skip
    refine aw_iconst d_Ve_verify_36 ⟨by decide, by decide⟩ ?_
    exact aw_zret d_Ve_verify_37 rfl ⟨by decide, by decide⟩ (hP _ _ (Or.inl ⟨fun z => absurd z (fun z => by first | (have z1 : I 24 1 = 2420 := z.1; omega) | (have := rr.2 z.2.1; omega)), _, _, _, Or.inl ⟨fun z => by first | (have z1 : I 24 1 = 2420 := z.1; omega) | (have := rr.2 z.2.1; omega), rfl, FC.rfl'⟩, rfl, rfl⟩))
  · skip
    refine aw_aload d_Ve_verify_17 rfl ?_
    refine aw_aload_n d_Ve_verify_19 rfl rfl ?_
    refine ax_Sr (st := []) (as := [vr 24, vr 33]) d_Ve_verify_20 cs_Ve_verify_20 (c_Ve_hintsStand0 S SD.2.1 (by omega)) rfl rfl rfl (fun u_20 q_20 => ?_)
    obtain ⟨ro, rr⟩ := q_20
    show AW l G M_Ve_verify P 23 [(4, vr 24), (0, vr 170), (1, vr 13), (2, vr 33), (3, vi 0)] [vi u_20] (sD h I L)
    refine aw_if_eq (tgt := 36) d_Ve_verify_23 (by decide) (fun c_23 => ?_) (fun c_23 => ?_)
    · skip
      refine aw_iconst d_Ve_verify_36 ⟨by decide, by decide⟩ ?_
      exact aw_zret d_Ve_verify_37 rfl ⟨by decide, by decide⟩ (hP _ _ (Or.inl ⟨fun z => absurd z (fun z => by first | (have z1 : I 24 1 = 2420 := z.1; omega) | (have := rr.2 z.2.1; omega)), _, _, _, Or.inl ⟨fun z => by first | (have z1 : I 24 1 = 2420 := z.1; omega) | (have := rr.2 z.2.1; omega), rfl, FC.rfl'⟩, rfl, rfl⟩))
    · skip
      refine aw_aload_n d_Ve_verify_26 rfl rfl ?_
      refine aw_aload d_Ve_verify_27 rfl ?_
      refine aw_aload_n d_Ve_verify_29 rfl rfl ?_
      refine ax_Vr (st := []) (as := [vr 24, vr 33]) (b := 170) d_Ve_verify_30 cs_Ve_verify_30 (k_170 S) (c_Ve_answersHide0 S SD (by omega)) rfl rfl rfl (fun u_30 q_30 => ?_)
      obtain ⟨v2, K2⟩ := u_30
      obtain ⟨f2, q2⟩ := q_30
      dsimp only at f2 q2
      have F2 : FC (fun a => 36 ≤ a ∧ a ≤ 174 ∧ a ≠ 43) I L K2 L := f2.mono (by intro a x; omega)
      show AW l G M_Ve_verify P 33 [(4, vr 24), (0, vr 170), (1, vr 13), (2, vr 33), (3, vi 0)] [vi v2] (sD h K2 L)
      refine aw_if_ne (tgt := 38) d_Ve_verify_33 (by decide) (fun c_33 => ?_) (fun c_33 => ?_)
      · skip
        refine aw_aload_n d_Ve_verify_38 rfl rfl ?_
        refine aw_aload_n d_Ve_verify_39 rfl rfl ?_
        refine aw_iload_n d_Ve_verify_40 rfl rfl ?_
        have g2 := q2.resolve_right (fun z => c_33 z.1)
        have pre_ : vfPre 0 (byAt I 24 25) (I 24 1) := ⟨by show I 24 1 = 2420; omega, rr.1 (by omega), g2.2.1⟩
        refine ax_Vr (st := []) (as := [vr 13, vi 0]) (b := 170) d_Ve_verify_41 cs_Ve_verify_41 (k_170 S) (c_Ve_digestMessage0 S (SD.fc F2 (by intro a x; omega)) ⟨fun s hs => by rw [F2.1 _ 1 (by omega)]; exact cb.1 s hs, by rw [F2.1 _ 1 (by omega)]; exact cb.2⟩) rfl rfl rfl (fun u_41 q_41 => ?_)
        obtain ⟨I3, L3⟩ := u_41
        obtain ⟨F3, H3⟩ := q_41
        dsimp only at F3 H3
        have G3 : FC (fun a => 36 ≤ a ∧ a ≤ 174 ∧ a ≠ 43) I L I3 L3 := F2.tr F3 (by intro a x; omega)
        have H3 : HB I3 137 138 64 (muV I (0)) := ⟨H3.1, fun z x y => (H3.2 z x y).trans (by unfold muV muC; rw [F2.1 16 1 (by omega), F2.1 22 1 (by omega), F2.1 20 1 (by omega), show (fun k => byAt K2 16 17 (0 + k)) = (fun k => byAt I 16 17 (0 + k)) from funext (fun k => byAt_fc F2 (by omega) (by omega)), show (fun k => byAt K2 22 23 (0 + k)) = (fun k => byAt I 22 23 (0 + k)) from funext (fun k => byAt_fc F2 (by omega) (by omega)), show (fun k => byAt K2 20 21 (0 + k)) = (fun k => byAt I 20 21 (0 + k)) from funext (fun k => byAt_fc F2 (by omega) (by omega))])⟩
        show AW l G M_Ve_verify P 44 [(4, vr 24), (0, vr 170), (1, vr 13), (2, vr 33), (3, vi 0)] [] (sD h I3 L3)
        refine aw_aload_n d_Ve_verify_44 rfl rfl ?_
        refine ax_getR (b := 36) d_Ve_verify_45 fd_Ve_23 (k_170 S) (r_170_0 S) ?_
        refine ax_getR (b := 139) d_Ve_verify_48 fd_Ve_47 (k_36 S) (r_36_11 S) ?_
        refine aw_aload d_Ve_verify_51 rfl ?_
        refine aw_aload_n d_Ve_verify_53 rfl rfl ?_
        refine ax_getIe (x := 32) d_Ve_verify_54 fd_Ve_52 (k_33 S) (Eq.trans (G3.1 33 7 (by omega)) (pc_33_7 SD.2.1)) ?_
        refine ax_V (st := []) (as := [vr 24, vi 32]) (b := 139) (v := none) (h' := sD h (byBecome I3 139 140 25 32) L3) d_Ve_verify_57 cs_Ve_verify_57 (k_139 S) (c_By_become ⟨k_139 S, r_139_0 S, k_140 S, by decide, by decide, by decide⟩ (ks S (i := 5) (by decide)) (by rw [G3.1 24 1 (by omega), nks S (i := 5) (by decide), n_140 S]; omega)) rfl rfl rfl ?_
        show AW l G M_Ve_verify P 60 [(4, vr 24), (0, vr 170), (1, vr 13), (2, vr 33), (3, vi 0)] [] (sD h (byBecome I3 139 140 25 32) L3)
        have f5 : FC (fun a => a = 139 ∨ a = 140) I3 L3 (byBecome I3 139 140 25 32) L3 := FC.become (by omega) (by omega)
        have G5 : FC (fun a => 36 ≤ a ∧ a ≤ 174 ∧ a ≠ 43) I L (byBecome I3 139 140 25 32) L3 := G3.tr f5 (by intro a x; omega)
        have h5 : HB (byBecome I3 139 140 25 32) 139 140 32 (byAt I 24 25) := by rw [show byAt I 24 25 = byAt I3 24 25 from funext (fun x => (byAt_fc G3 (by omega) (by omega)).symm)]; exact HB.become (by decide) (by rw [G3.1 24 1 (by omega)]; omega)
        have eB : blS (fun k => byAt (byBecome I3 139 140 25 32) 139 140 (0 + k)) ((byBecome I3 139 140 25 32) 139 1) = vfBs 0 (byAt I 24 25) := by rw [h5.1]; exact blS_congr (fun k hk => by rw [Int.zero_add, h5.2 k (by omega) hk])
        refine aw_aload_n d_Ve_verify_60 rfl rfl ?_
        refine ax_getR (b := 36) d_Ve_verify_61 fd_Ve_23 (k_170 S) (r_170_0 S) ?_
        refine aw_aload_n d_Ve_verify_64 rfl rfl ?_
        refine ax_VtT (st := []) (as := [vr 33]) (b := 36) d_Ve_verify_65 cs_Ve_verify_65 (k_36 S) (c_Be_castBall0 S hfl rm (SD.fc G5 (by intro a x; omega)) (by rw [h5.1]; omega)) rfl rfl rfl (fun ok_65 I_65 L_65 q_65 => ?_) (fun no_65 I_65 L_65 q_65 => at_leave rfl (hP _ _ (Or.inr ⟨fun z => no_65 (by rw [eB]; exact (z pre_).1), I_65, L_65, (G5.frc (by intro a x; omega)).tr q_65, rfl, rfl⟩)))
        obtain ⟨F6, b6⟩ := q_65
        rw [eB] at ok_65 b6
        have b6 : eqQ (I_65 135) (vfB 0 (byAt I 24 25)) := b6
        have G6 : FC (fun a => 36 ≤ a ∧ a ≤ 174 ∧ a ≠ 43) I L I_65 L_65 := G5.tr F6 (by intro a x; omega)
        show AW l G M_Ve_verify P 68 [(4, vr 24), (0, vr 170), (1, vr 13), (2, vr 33), (3, vi 0)] [] (sD h I_65 L_65)
        refine aw_aload_n d_Ve_verify_68 rfl rfl ?_
        refine aw_aload_n d_Ve_verify_69 rfl rfl ?_
        refine aw_iconst d_Ve_verify_70 ⟨by decide, by decide⟩ ?_
        refine ax_aald (b := 16) d_Ve_verify_71 ⟨by rw [(k_13 S)]; decide, by rw [(k_13 S)]; decide⟩ (by omega) (by rw [n_13 S]; omega) (r_13_1 S) ?_
        refine aw_aload_n d_Ve_verify_72 rfl rfl ?_
        refine ax_VtT (st := []) (as := [vr 16, vr 33]) (b := 170) d_Ve_verify_73 cs_Ve_verify_73 (k_170 S) (c_Ve_computeImages0 (B := vfB 0 (byAt I 24 25)) (Z := (vfZ 0 (byAt I 24 25))) S hfl rm (SD.fc G6 (by intro a x; omega)) (by rw [G6.1 16 1 (by omega)]; omega) b6 vfB_in (fun m a b j x y => (F6.1 _ j (by omega)).trans ((f5.1 _ j (by omega)).trans ((F3.1 _ j (by omega)).trans (g2.2.2 m a b j x y)))) (fun _ _ _ => vfZ_in)) rfl rfl rfl (fun ok_73 I_73 L_73 q_73 => ?_) (fun no_73 I_73 L_73 q_73 => at_leave rfl (hP _ _ (Or.inr ⟨fun z => no_73 (by rw [b0_eq, show byAt I_65 16 17 = byAt I 16 17 from funext (fun x => byAt_fc G6 (by omega) (by omega))]; exact (z pre_).2), I_73, L_73, (G6.frc (by intro a x; omega)).tr q_73, rfl, rfl⟩)))
        obtain ⟨F7, w7⟩ := q_73
        rw [b0_eq, show byAt I_65 16 17 = byAt I 16 17 from funext (fun x => byAt_fc G6 (by omega) (by omega))] at ok_73
        have okA : sgOk 0 (byAt I 16 17) := ok_73
        have w7 : ∀ m, 0 ≤ m → m < 4 → eqQ (I_73 (127 + m.toNat)) (vfW 0 (byAt I 16 17) (byAt I 24 25) m) := fun m a b j x y => by have z := w7 m a b j x y; rw [b0_eq, show byAt I_65 16 17 = byAt I 16 17 from funext (fun x => byAt_fc G6 (by omega) (by omega))] at z; exact z
        have G7 : FC (fun a => 36 ≤ a ∧ a ≤ 174 ∧ a ≠ 43) I L I_73 L_73 := G6.tr F7 (by intro a x; omega)
        show AW l G M_Ve_verify P 76 [(4, vr 24), (0, vr 170), (1, vr 13), (2, vr 33), (3, vi 0)] [] (sD h I_73 L_73)
        refine aw_aload_n d_Ve_verify_76 rfl rfl ?_
        refine aw_aload d_Ve_verify_77 rfl ?_
        refine aw_aload_n d_Ve_verify_79 rfl rfl ?_
        have e24 : byAt I_73 24 25 = byAt I 24 25 := funext (fun x => byAt_fc G7 (by omega) (by omega))
        refine ax_Vr (st := []) (as := [vr 24, vr 33]) (b := 170) d_Ve_verify_80 cs_Ve_verify_80 (k_170 S) (c_Ve_packHighs0 (W := vfW 0 (byAt I 16 17) (byAt I 24 25)) S (SD.fc G7 (by intro a x; omega)) (by rw [G7.1 24 1 (by omega)]; omega) (by rw [e24]; exact pre_.2.1) w7 (fun _ _ _ => vfW_in)) rfl rfl rfl (fun u_80 q_80 => ?_)
        obtain ⟨F8, H8⟩ := q_80
        rw [e24] at H8
        have G8 : FC (fun a => 36 ≤ a ∧ a ≤ 174 ∧ a ≠ 43) I L u_80 L_73 := G7.tr F8 (by intro a x; omega)
        have d8 : HB u_80 137 138 64 (muV I (0)) := (((H3.fc f5 (by decide) (by decide)).fc F6 (by decide) (by decide)).fc F7 (by decide) (by decide)).fc F8 (by decide) (by decide)
        show AW l G M_Ve_verify P 83 [(4, vr 24), (0, vr 170), (1, vr 13), (2, vr 33), (3, vi 0)] [] (sD h u_80 L_73)
        refine aw_aload_n d_Ve_verify_83 rfl rfl ?_
        refine ax_getR (b := 36) d_Ve_verify_84 fd_Ve_23 (k_170 S) (r_170_0 S) ?_
        refine aw_aload_n d_Ve_verify_87 rfl rfl ?_
        refine aw_aload_n d_Ve_verify_88 rfl rfl ?_
        refine ax_getR (b := 173) d_Ve_verify_89 fd_Ve_20 (k_170 S) (r_170_2 S) ?_
        refine ax_Vr (st := []) (as := [vr 33, vr 173]) (b := 36) d_Ve_verify_92 cs_Ve_verify_92 (k_36 S) (c_Be_hashHighs0 S (SD.fc G8 (by intro a x; omega)) ⟨k_173 S, r_173_0 S, k_174 S, by decide, by decide, by decide⟩ (by decide) (by rw [n_174 S, H8.1, d8.1]; omega)) rfl rfl rfl (fun u_92 q_92 => ?_)
        obtain ⟨I9, L9⟩ := u_92
        obtain ⟨F9, a9, b9⟩ := q_92
        dsimp only at F9 a9 b9
        rw [H8.1, hhS_congr (gd' := (muV I (0))) (gp' := hvB (byAt I 24 25) (sO3 0) (pW 0) (pG2 0) (sHs 0) (sHb 0) (32 * (sHb 0 : Int)) (vfW 0 (byAt I 16 17) (byAt I 24 25))) (fun k hk => by rw [Int.zero_add, d8.2 k (by omega) (by omega)]) (fun k hk => by rw [Int.zero_add, H8.2 k (by omega) (by omega)]; rfl)] at b9
        have G9 : FC (fun a => 36 ≤ a ∧ a ≤ 174 ∧ a ≠ 43) I L I9 L9 := G8.tr F9 (by intro a x; omega)
        have H9 : HB I9 173 174 32 (vfC 0 (byAt I 16 17) (byAt I 24 25) (muV I (0))) := ⟨a9, b9⟩
        show AW l G M_Ve_verify P 95 [(4, vr 24), (0, vr 170), (1, vr 13), (2, vr 33), (3, vi 0)] [] (sD h I9 L9)
        refine aw_aload_n d_Ve_verify_95 rfl rfl ?_
        refine aw_bipush d_Ve_verify_96 ⟨by decide, by decide⟩ (by decide) ?_
        refine ax_aald (b := 26) d_Ve_verify_98 ⟨by rw [(k_13 S)]; decide, by rw [(k_13 S)]; decide⟩ (by omega) (by rw [n_13 S]; omega) (r_13_6 S) ?_
        refine aw_aload_n d_Ve_verify_99 rfl rfl ?_
        refine ax_getR (b := 173) d_Ve_verify_100 fd_Ve_20 (k_170 S) (r_170_2 S) ?_
        refine aw_aload_n d_Ve_verify_103 rfl rfl ?_
        refine ax_getIe (x := 32) d_Ve_verify_104 fd_Ve_52 (k_33 S) (Eq.trans (G9.1 33 7 (by omega)) (pc_33_7 SD.2.1)) ?_
        refine ax_V (st := []) (as := [vr 173, vi 32]) (b := 26) (v := none) (h' := sD h (byBecome I9 26 27 174 32) L9) d_Ve_verify_107 cs_Ve_verify_107 (k_26 S) (c_By_become (ks S (i := 6) (by decide)) ⟨k_173 S, r_173_0 S, k_174 S, by decide, by decide, by decide⟩ (by rw [H9.1, nks S (i := 6) (by decide), n_174 S]; omega)) rfl rfl rfl ?_
        show AW l G M_Ve_verify P 110 [(4, vr 24), (0, vr 170), (1, vr 13), (2, vr 33), (3, vi 0)] [] (sD h (byBecome I9 26 27 174 32) L9)
        have fA : FC (fun a => a = 26 ∨ a = 27) I9 L9 (byBecome I9 26 27 174 32) L9 := FC.become (by omega) (by omega)
        have GA : FC (fun a => a = 26 ∨ a = 27 ∨ 36 ≤ a ∧ a ≤ 174 ∧ a ≠ 43) I L (byBecome I9 26 27 174 32) L9 := G9.tr fA (by intro a x; omega)
        have hA : HB (byBecome I9 26 27 174 32) 26 27 32 (vfC 0 (byAt I 16 17) (byAt I 24 25) (muV I (0))) := ⟨(HB.become (b2 := 173) (by decide) (by rw [H9.1]; omega)).1, fun z x y => ((HB.become (b2 := 173) (by decide) (by rw [H9.1]; omega)).2 z x y).trans (H9.2 z x y)⟩
        refine aw_aload_n d_Ve_verify_110 rfl rfl ?_
        refine ax_getR (b := 173) d_Ve_verify_111 fd_Ve_20 (k_170 S) (r_170_2 S) ?_
        refine aw_aload d_Ve_verify_114 rfl ?_
        refine aw_aload_n d_Ve_verify_116 rfl rfl ?_
        refine ax_getIe (x := 32) d_Ve_verify_117 fd_Ve_52 (k_33 S) (Eq.trans (GA.1 33 7 (by omega)) (pc_33_7 SD.2.1)) ?_
        refine ax_Vr (st := []) (as := [vr 24, vi 32]) (b := 173) d_Ve_verify_120 cs_Ve_verify_120 (k_173 S) (c_By_matches ⟨k_173 S, r_173_0 S, k_174 S, by decide, by decide, by decide⟩ (ks S (i := 5) (by decide)) (by rw [fA.1 173 1 (by omega), H9.1, GA.1 24 1 (by omega), n_174 S, nks S (i := 5) (by decide)]; omega) (by decide)) rfl rfl rfl (fun u_120 q_120 => ?_)
        obtain ⟨mo, mm⟩ := q_120
        have mm2 : u_120 = 1 ↔ ∀ j, 0 ≤ j → j < 32 → vfC 0 (byAt I 16 17) (byAt I 24 25) (muV I (0)) j = byAt I 24 25 j := mm.trans ⟨fun z j x y => by rw [← H9.2 j x y, ← byAt_fc fA (by omega) (by omega), z j x y]; exact byAt_fc GA (by omega) (by omega), fun z j x y => by rw [byAt_fc fA (by omega) (by omega), H9.2 j x y, z j x y]; exact (byAt_fc GA (by omega) (by omega)).symm⟩
        show AW l G M_Ve_verify P 123 [(4, vr 24), (0, vr 170), (1, vr 13), (2, vr 33), (3, vi 0)] [vi u_120] (sD h (byBecome I9 26 27 174 32) L9)
        exact aw_zret d_Ve_verify_123 rfl (by omega) (hP _ _ (Or.inl ⟨fun _ => ⟨ok_65, okA⟩, _, _, _, Or.inr ⟨pre_, GA, hA, mo, mm2⟩, rfl, rfl⟩))
      · skip
        refine aw_iconst d_Ve_verify_36 ⟨by decide, by decide⟩ ?_
        exact aw_zret d_Ve_verify_37 rfl ⟨by decide, by decide⟩ (hP _ _ (Or.inl ⟨fun z => absurd z (fun z => by rcases q2 with y | y; exact absurd y.1 (by omega); exact y.2 z.2.2), _, _, _, Or.inl ⟨fun z => by rcases q2 with y | y; exact absurd y.1 (by omega); exact y.2 z.2.2, rfl, F2⟩, rfl, rfl⟩))
set_option maxHeartbeats 800000 in
set_option maxRecDepth 100000 in
theorem c_Ve_verify0N {l : Launch} {G : a_G} {h : Hp} {I L : Nat → Int → Int} (S : Shp h) (hfl : l.flags = flags0) (rm : hX h + 1 ≤ a_NX ∧ hU h + 6 ≤ a_US) (SD : Std I L) (cb : CB I) : AW l G M_Ve_verify (DvR h I L (vfPre 0 (byAt I 24 25) (I 24 1) → vfOk 0 (byAt I 16 17) (byAt I 24 25)) (fun v I' L' => (¬ vfPre 0 (byAt I 24 25) (I 24 1) ∧ v = 0 ∧ FC (fun a => 36 ≤ a ∧ a ≤ 174 ∧ a ≠ 43) I L I' L') ∨ (vfPre 0 (byAt I 24 25) (I 24 1) ∧ FC (fun a => a = 26 ∨ a = 27 ∨ 36 ≤ a ∧ a ≤ 174 ∧ a ≠ 43) I L I' L' ∧ HB I' 26 27 (pC 0) (vfC 0 (byAt I 16 17) (byAt I 24 25) (muV I (-1))) ∧ (v = 0 ∨ v = 1) ∧ (v = 1 ↔ ∀ j, 0 ≤ j → j < pC 0 → vfC 0 (byAt I 16 17) (byAt I 24 25) (muV I (-1)) j = byAt I 24 25 j)))) 0 (a_ar 0 [vr 170, vr 13, vr 33, vi (-1)]) [] (sD h I L) := by
  suffices key : ∀ P : a_R → Hp → Prop, (∀ r_ h2_, DvR h I L (vfPre 0 (byAt I 24 25) (I 24 1) → vfOk 0 (byAt I 16 17) (byAt I 24 25)) (fun v I' L' => (¬ vfPre 0 (byAt I 24 25) (I 24 1) ∧ v = 0 ∧ FC (fun a => 36 ≤ a ∧ a ≤ 174 ∧ a ≠ 43) I L I' L') ∨ (vfPre 0 (byAt I 24 25) (I 24 1) ∧ FC (fun a => a = 26 ∨ a = 27 ∨ 36 ≤ a ∧ a ≤ 174 ∧ a ≠ 43) I L I' L' ∧ HB I' 26 27 (pC 0) (vfC 0 (byAt I 16 17) (byAt I 24 25) (muV I (-1))) ∧ (v = 0 ∨ v = 1) ∧ (v = 1 ↔ ∀ j, 0 ≤ j → j < pC 0 → vfC 0 (byAt I 16 17) (byAt I 24 25) (muV I (-1)) j = byAt I 24 25 j))) r_ h2_ → P r_ h2_) → AW l G M_Ve_verify P 0 [(0, vr 170), (1, vr 13), (2, vr 33), (3, vi (-1))] [] (sD h I L) from key _ (fun _ _ q => q)
  intro P hP
  have cb1 : 0 ≤ I 16 1 ∧ I 16 1 ≤ 8192 := cb.1 1 (by decide)
  have cb5 : 0 ≤ I 24 1 ∧ I 24 1 ≤ 8192 := cb.1 5 (by decide)
  refine aw_aload_n d_Ve_verify_0 rfl rfl ?_
  refine aw_iconst d_Ve_verify_1 ⟨by decide, by decide⟩ ?_
  refine ax_aald (b := 24) d_Ve_verify_2 ⟨by rw [(k_13 S)]; decide, by rw [(k_13 S)]; decide⟩ (by omega) (by rw [n_13 S]; omega) (r_13_5 S) ?_
  refine aw_astore (lv' := [(4, vr 24), (0, vr 170), (1, vr 13), (2, vr 33), (3, vi (-1))]) d_Ve_verify_3 (by decide) rfl ?_
  refine aw_aload d_Ve_verify_5 rfl ?_
  refine ax_getIe (x := I 24 1) d_Ve_verify_7 fd_Ve_27 (k_24 S) (rfl) ?_
  refine aw_aload_n d_Ve_verify_10 rfl rfl ?_
  refine ax_getIe (x := 2420) d_Ve_verify_11 fd_Ve_31 (k_33 S) (pc_33_15 SD.2.1) ?_
  refine aw_icmp_ne (tgt := 36) d_Ve_verify_14 (by decide) (fun c_14 => ?_) (fun c_14 => ?_)
  · skip
    refine aw_iconst d_Ve_verify_36 ⟨by decide, by decide⟩ ?_
    exact aw_zret d_Ve_verify_37 rfl ⟨by decide, by decide⟩ (hP _ _ (Or.inl ⟨fun z => absurd z (fun z => by first | (have z1 : I 24 1 = 2420 := z.1; omega) | (have := rr.2 z.2.1; omega)), _, _, _, Or.inl ⟨fun z => by first | (have z1 : I 24 1 = 2420 := z.1; omega) | (have := rr.2 z.2.1; omega), rfl, FC.rfl'⟩, rfl, rfl⟩))
  · skip
    refine aw_aload d_Ve_verify_17 rfl ?_
    refine aw_aload_n d_Ve_verify_19 rfl rfl ?_
    refine ax_Sr (st := []) (as := [vr 24, vr 33]) d_Ve_verify_20 cs_Ve_verify_20 (c_Ve_hintsStand0 S SD.2.1 (by omega)) rfl rfl rfl (fun u_20 q_20 => ?_)
    obtain ⟨ro, rr⟩ := q_20
    show AW l G M_Ve_verify P 23 [(4, vr 24), (0, vr 170), (1, vr 13), (2, vr 33), (3, vi (-1))] [vi u_20] (sD h I L)
    refine aw_if_eq (tgt := 36) d_Ve_verify_23 (by decide) (fun c_23 => ?_) (fun c_23 => ?_)
    · skip
      refine aw_iconst d_Ve_verify_36 ⟨by decide, by decide⟩ ?_
      exact aw_zret d_Ve_verify_37 rfl ⟨by decide, by decide⟩ (hP _ _ (Or.inl ⟨fun z => absurd z (fun z => by first | (have z1 : I 24 1 = 2420 := z.1; omega) | (have := rr.2 z.2.1; omega)), _, _, _, Or.inl ⟨fun z => by first | (have z1 : I 24 1 = 2420 := z.1; omega) | (have := rr.2 z.2.1; omega), rfl, FC.rfl'⟩, rfl, rfl⟩))
    · skip
      refine aw_aload_n d_Ve_verify_26 rfl rfl ?_
      refine aw_aload d_Ve_verify_27 rfl ?_
      refine aw_aload_n d_Ve_verify_29 rfl rfl ?_
      refine ax_Vr (st := []) (as := [vr 24, vr 33]) (b := 170) d_Ve_verify_30 cs_Ve_verify_30 (k_170 S) (c_Ve_answersHide0 S SD (by omega)) rfl rfl rfl (fun u_30 q_30 => ?_)
      obtain ⟨v2, K2⟩ := u_30
      obtain ⟨f2, q2⟩ := q_30
      dsimp only at f2 q2
      have F2 : FC (fun a => 36 ≤ a ∧ a ≤ 174 ∧ a ≠ 43) I L K2 L := f2.mono (by intro a x; omega)
      show AW l G M_Ve_verify P 33 [(4, vr 24), (0, vr 170), (1, vr 13), (2, vr 33), (3, vi (-1))] [vi v2] (sD h K2 L)
      refine aw_if_ne (tgt := 38) d_Ve_verify_33 (by decide) (fun c_33 => ?_) (fun c_33 => ?_)
      · skip
        refine aw_aload_n d_Ve_verify_38 rfl rfl ?_
        refine aw_aload_n d_Ve_verify_39 rfl rfl ?_
        refine aw_iload_n d_Ve_verify_40 rfl rfl ?_
        have g2 := q2.resolve_right (fun z => c_33 z.1)
        have pre_ : vfPre 0 (byAt I 24 25) (I 24 1) := ⟨by show I 24 1 = 2420; omega, rr.1 (by omega), g2.2.1⟩
        refine ax_Vr (st := []) (as := [vr 13, vi (-1)]) (b := 170) d_Ve_verify_41 cs_Ve_verify_41 (k_170 S) (c_Ve_digestMessageN S (SD.fc F2 (by intro a x; omega)) ⟨fun s hs => by rw [F2.1 _ 1 (by omega)]; exact cb.1 s hs, by rw [F2.1 _ 1 (by omega)]; exact cb.2⟩) rfl rfl rfl (fun u_41 q_41 => ?_)
        obtain ⟨I3, L3⟩ := u_41
        obtain ⟨F3, H3⟩ := q_41
        dsimp only at F3 H3
        have G3 : FC (fun a => 36 ≤ a ∧ a ≤ 174 ∧ a ≠ 43) I L I3 L3 := F2.tr F3 (by intro a x; omega)
        have H3 : HB I3 137 138 64 (muV I (-1)) := ⟨H3.1, fun z x y => (H3.2 z x y).trans (by unfold muV muC; rw [F2.1 16 1 (by omega), F2.1 22 1 (by omega), F2.1 20 1 (by omega), show (fun k => byAt K2 16 17 (0 + k)) = (fun k => byAt I 16 17 (0 + k)) from funext (fun k => byAt_fc F2 (by omega) (by omega)), show (fun k => byAt K2 22 23 (0 + k)) = (fun k => byAt I 22 23 (0 + k)) from funext (fun k => byAt_fc F2 (by omega) (by omega)), show (fun k => byAt K2 20 21 (0 + k)) = (fun k => byAt I 20 21 (0 + k)) from funext (fun k => byAt_fc F2 (by omega) (by omega))])⟩
        show AW l G M_Ve_verify P 44 [(4, vr 24), (0, vr 170), (1, vr 13), (2, vr 33), (3, vi (-1))] [] (sD h I3 L3)
        refine aw_aload_n d_Ve_verify_44 rfl rfl ?_
        refine ax_getR (b := 36) d_Ve_verify_45 fd_Ve_23 (k_170 S) (r_170_0 S) ?_
        refine ax_getR (b := 139) d_Ve_verify_48 fd_Ve_47 (k_36 S) (r_36_11 S) ?_
        refine aw_aload d_Ve_verify_51 rfl ?_
        refine aw_aload_n d_Ve_verify_53 rfl rfl ?_
        refine ax_getIe (x := 32) d_Ve_verify_54 fd_Ve_52 (k_33 S) (Eq.trans (G3.1 33 7 (by omega)) (pc_33_7 SD.2.1)) ?_
        refine ax_V (st := []) (as := [vr 24, vi 32]) (b := 139) (v := none) (h' := sD h (byBecome I3 139 140 25 32) L3) d_Ve_verify_57 cs_Ve_verify_57 (k_139 S) (c_By_become ⟨k_139 S, r_139_0 S, k_140 S, by decide, by decide, by decide⟩ (ks S (i := 5) (by decide)) (by rw [G3.1 24 1 (by omega), nks S (i := 5) (by decide), n_140 S]; omega)) rfl rfl rfl ?_
        show AW l G M_Ve_verify P 60 [(4, vr 24), (0, vr 170), (1, vr 13), (2, vr 33), (3, vi (-1))] [] (sD h (byBecome I3 139 140 25 32) L3)
        have f5 : FC (fun a => a = 139 ∨ a = 140) I3 L3 (byBecome I3 139 140 25 32) L3 := FC.become (by omega) (by omega)
        have G5 : FC (fun a => 36 ≤ a ∧ a ≤ 174 ∧ a ≠ 43) I L (byBecome I3 139 140 25 32) L3 := G3.tr f5 (by intro a x; omega)
        have h5 : HB (byBecome I3 139 140 25 32) 139 140 32 (byAt I 24 25) := by rw [show byAt I 24 25 = byAt I3 24 25 from funext (fun x => (byAt_fc G3 (by omega) (by omega)).symm)]; exact HB.become (by decide) (by rw [G3.1 24 1 (by omega)]; omega)
        have eB : blS (fun k => byAt (byBecome I3 139 140 25 32) 139 140 (0 + k)) ((byBecome I3 139 140 25 32) 139 1) = vfBs 0 (byAt I 24 25) := by rw [h5.1]; exact blS_congr (fun k hk => by rw [Int.zero_add, h5.2 k (by omega) hk])
        refine aw_aload_n d_Ve_verify_60 rfl rfl ?_
        refine ax_getR (b := 36) d_Ve_verify_61 fd_Ve_23 (k_170 S) (r_170_0 S) ?_
        refine aw_aload_n d_Ve_verify_64 rfl rfl ?_
        refine ax_VtT (st := []) (as := [vr 33]) (b := 36) d_Ve_verify_65 cs_Ve_verify_65 (k_36 S) (c_Be_castBall0 S hfl rm (SD.fc G5 (by intro a x; omega)) (by rw [h5.1]; omega)) rfl rfl rfl (fun ok_65 I_65 L_65 q_65 => ?_) (fun no_65 I_65 L_65 q_65 => at_leave rfl (hP _ _ (Or.inr ⟨fun z => no_65 (by rw [eB]; exact (z pre_).1), I_65, L_65, (G5.frc (by intro a x; omega)).tr q_65, rfl, rfl⟩)))
        obtain ⟨F6, b6⟩ := q_65
        rw [eB] at ok_65 b6
        have b6 : eqQ (I_65 135) (vfB 0 (byAt I 24 25)) := b6
        have G6 : FC (fun a => 36 ≤ a ∧ a ≤ 174 ∧ a ≠ 43) I L I_65 L_65 := G5.tr F6 (by intro a x; omega)
        show AW l G M_Ve_verify P 68 [(4, vr 24), (0, vr 170), (1, vr 13), (2, vr 33), (3, vi (-1))] [] (sD h I_65 L_65)
        refine aw_aload_n d_Ve_verify_68 rfl rfl ?_
        refine aw_aload_n d_Ve_verify_69 rfl rfl ?_
        refine aw_iconst d_Ve_verify_70 ⟨by decide, by decide⟩ ?_
        refine ax_aald (b := 16) d_Ve_verify_71 ⟨by rw [(k_13 S)]; decide, by rw [(k_13 S)]; decide⟩ (by omega) (by rw [n_13 S]; omega) (r_13_1 S) ?_
        refine aw_aload_n d_Ve_verify_72 rfl rfl ?_
        refine ax_VtT (st := []) (as := [vr 16, vr 33]) (b := 170) d_Ve_verify_73 cs_Ve_verify_73 (k_170 S) (c_Ve_computeImages0 (B := vfB 0 (byAt I 24 25)) (Z := (vfZ 0 (byAt I 24 25))) S hfl rm (SD.fc G6 (by intro a x; omega)) (by rw [G6.1 16 1 (by omega)]; omega) b6 vfB_in (fun m a b j x y => (F6.1 _ j (by omega)).trans ((f5.1 _ j (by omega)).trans ((F3.1 _ j (by omega)).trans (g2.2.2 m a b j x y)))) (fun _ _ _ => vfZ_in)) rfl rfl rfl (fun ok_73 I_73 L_73 q_73 => ?_) (fun no_73 I_73 L_73 q_73 => at_leave rfl (hP _ _ (Or.inr ⟨fun z => no_73 (by rw [b0_eq, show byAt I_65 16 17 = byAt I 16 17 from funext (fun x => byAt_fc G6 (by omega) (by omega))]; exact (z pre_).2), I_73, L_73, (G6.frc (by intro a x; omega)).tr q_73, rfl, rfl⟩)))
        obtain ⟨F7, w7⟩ := q_73
        rw [b0_eq, show byAt I_65 16 17 = byAt I 16 17 from funext (fun x => byAt_fc G6 (by omega) (by omega))] at ok_73
        have okA : sgOk 0 (byAt I 16 17) := ok_73
        have w7 : ∀ m, 0 ≤ m → m < 4 → eqQ (I_73 (127 + m.toNat)) (vfW 0 (byAt I 16 17) (byAt I 24 25) m) := fun m a b j x y => by have z := w7 m a b j x y; rw [b0_eq, show byAt I_65 16 17 = byAt I 16 17 from funext (fun x => byAt_fc G6 (by omega) (by omega))] at z; exact z
        have G7 : FC (fun a => 36 ≤ a ∧ a ≤ 174 ∧ a ≠ 43) I L I_73 L_73 := G6.tr F7 (by intro a x; omega)
        show AW l G M_Ve_verify P 76 [(4, vr 24), (0, vr 170), (1, vr 13), (2, vr 33), (3, vi (-1))] [] (sD h I_73 L_73)
        refine aw_aload_n d_Ve_verify_76 rfl rfl ?_
        refine aw_aload d_Ve_verify_77 rfl ?_
        refine aw_aload_n d_Ve_verify_79 rfl rfl ?_
        have e24 : byAt I_73 24 25 = byAt I 24 25 := funext (fun x => byAt_fc G7 (by omega) (by omega))
        refine ax_Vr (st := []) (as := [vr 24, vr 33]) (b := 170) d_Ve_verify_80 cs_Ve_verify_80 (k_170 S) (c_Ve_packHighs0 (W := vfW 0 (byAt I 16 17) (byAt I 24 25)) S (SD.fc G7 (by intro a x; omega)) (by rw [G7.1 24 1 (by omega)]; omega) (by rw [e24]; exact pre_.2.1) w7 (fun _ _ _ => vfW_in)) rfl rfl rfl (fun u_80 q_80 => ?_)
        obtain ⟨F8, H8⟩ := q_80
        rw [e24] at H8
        have G8 : FC (fun a => 36 ≤ a ∧ a ≤ 174 ∧ a ≠ 43) I L u_80 L_73 := G7.tr F8 (by intro a x; omega)
        have d8 : HB u_80 137 138 64 (muV I (-1)) := (((H3.fc f5 (by decide) (by decide)).fc F6 (by decide) (by decide)).fc F7 (by decide) (by decide)).fc F8 (by decide) (by decide)
        show AW l G M_Ve_verify P 83 [(4, vr 24), (0, vr 170), (1, vr 13), (2, vr 33), (3, vi (-1))] [] (sD h u_80 L_73)
        refine aw_aload_n d_Ve_verify_83 rfl rfl ?_
        refine ax_getR (b := 36) d_Ve_verify_84 fd_Ve_23 (k_170 S) (r_170_0 S) ?_
        refine aw_aload_n d_Ve_verify_87 rfl rfl ?_
        refine aw_aload_n d_Ve_verify_88 rfl rfl ?_
        refine ax_getR (b := 173) d_Ve_verify_89 fd_Ve_20 (k_170 S) (r_170_2 S) ?_
        refine ax_Vr (st := []) (as := [vr 33, vr 173]) (b := 36) d_Ve_verify_92 cs_Ve_verify_92 (k_36 S) (c_Be_hashHighs0 S (SD.fc G8 (by intro a x; omega)) ⟨k_173 S, r_173_0 S, k_174 S, by decide, by decide, by decide⟩ (by decide) (by rw [n_174 S, H8.1, d8.1]; omega)) rfl rfl rfl (fun u_92 q_92 => ?_)
        obtain ⟨I9, L9⟩ := u_92
        obtain ⟨F9, a9, b9⟩ := q_92
        dsimp only at F9 a9 b9
        rw [H8.1, hhS_congr (gd' := (muV I (-1))) (gp' := hvB (byAt I 24 25) (sO3 0) (pW 0) (pG2 0) (sHs 0) (sHb 0) (32 * (sHb 0 : Int)) (vfW 0 (byAt I 16 17) (byAt I 24 25))) (fun k hk => by rw [Int.zero_add, d8.2 k (by omega) (by omega)]) (fun k hk => by rw [Int.zero_add, H8.2 k (by omega) (by omega)]; rfl)] at b9
        have G9 : FC (fun a => 36 ≤ a ∧ a ≤ 174 ∧ a ≠ 43) I L I9 L9 := G8.tr F9 (by intro a x; omega)
        have H9 : HB I9 173 174 32 (vfC 0 (byAt I 16 17) (byAt I 24 25) (muV I (-1))) := ⟨a9, b9⟩
        show AW l G M_Ve_verify P 95 [(4, vr 24), (0, vr 170), (1, vr 13), (2, vr 33), (3, vi (-1))] [] (sD h I9 L9)
        refine aw_aload_n d_Ve_verify_95 rfl rfl ?_
        refine aw_bipush d_Ve_verify_96 ⟨by decide, by decide⟩ (by decide) ?_
        refine ax_aald (b := 26) d_Ve_verify_98 ⟨by rw [(k_13 S)]; decide, by rw [(k_13 S)]; decide⟩ (by omega) (by rw [n_13 S]; omega) (r_13_6 S) ?_
        refine aw_aload_n d_Ve_verify_99 rfl rfl ?_
        refine ax_getR (b := 173) d_Ve_verify_100 fd_Ve_20 (k_170 S) (r_170_2 S) ?_
        refine aw_aload_n d_Ve_verify_103 rfl rfl ?_
        refine ax_getIe (x := 32) d_Ve_verify_104 fd_Ve_52 (k_33 S) (Eq.trans (G9.1 33 7 (by omega)) (pc_33_7 SD.2.1)) ?_
        refine ax_V (st := []) (as := [vr 173, vi 32]) (b := 26) (v := none) (h' := sD h (byBecome I9 26 27 174 32) L9) d_Ve_verify_107 cs_Ve_verify_107 (k_26 S) (c_By_become (ks S (i := 6) (by decide)) ⟨k_173 S, r_173_0 S, k_174 S, by decide, by decide, by decide⟩ (by rw [H9.1, nks S (i := 6) (by decide), n_174 S]; omega)) rfl rfl rfl ?_
        show AW l G M_Ve_verify P 110 [(4, vr 24), (0, vr 170), (1, vr 13), (2, vr 33), (3, vi (-1))] [] (sD h (byBecome I9 26 27 174 32) L9)
        have fA : FC (fun a => a = 26 ∨ a = 27) I9 L9 (byBecome I9 26 27 174 32) L9 := FC.become (by omega) (by omega)
        have GA : FC (fun a => a = 26 ∨ a = 27 ∨ 36 ≤ a ∧ a ≤ 174 ∧ a ≠ 43) I L (byBecome I9 26 27 174 32) L9 := G9.tr fA (by intro a x; omega)
        have hA : HB (byBecome I9 26 27 174 32) 26 27 32 (vfC 0 (byAt I 16 17) (byAt I 24 25) (muV I (-1))) := ⟨(HB.become (b2 := 173) (by decide) (by rw [H9.1]; omega)).1, fun z x y => ((HB.become (b2 := 173) (by decide) (by rw [H9.1]; omega)).2 z x y).trans (H9.2 z x y)⟩
        refine aw_aload_n d_Ve_verify_110 rfl rfl ?_
        refine ax_getR (b := 173) d_Ve_verify_111 fd_Ve_20 (k_170 S) (r_170_2 S) ?_
        refine aw_aload d_Ve_verify_114 rfl ?_
        refine aw_aload_n d_Ve_verify_116 rfl rfl ?_
        refine ax_getIe (x := 32) d_Ve_verify_117 fd_Ve_52 (k_33 S) (Eq.trans (GA.1 33 7 (by omega)) (pc_33_7 SD.2.1)) ?_
        refine ax_Vr (st := []) (as := [vr 24, vi 32]) (b := 173) d_Ve_verify_120 cs_Ve_verify_120 (k_173 S) (c_By_matches ⟨k_173 S, r_173_0 S, k_174 S, by decide, by decide, by decide⟩ (ks S (i := 5) (by decide)) (by rw [fA.1 173 1 (by omega), H9.1, GA.1 24 1 (by omega), n_174 S, nks S (i := 5) (by decide)]; omega) (by decide)) rfl rfl rfl (fun u_120 q_120 => ?_)
        obtain ⟨mo, mm⟩ := q_120
        have mm2 : u_120 = 1 ↔ ∀ j, 0 ≤ j → j < 32 → vfC 0 (byAt I 16 17) (byAt I 24 25) (muV I (-1)) j = byAt I 24 25 j := mm.trans ⟨fun z j x y => by rw [← H9.2 j x y, ← byAt_fc fA (by omega) (by omega), z j x y]; exact byAt_fc GA (by omega) (by omega), fun z j x y => by rw [byAt_fc fA (by omega) (by omega), H9.2 j x y, z j x y]; exact (byAt_fc GA (by omega) (by omega)).symm⟩
        show AW l G M_Ve_verify P 123 [(4, vr 24), (0, vr 170), (1, vr 13), (2, vr 33), (3, vi (-1))] [vi u_120] (sD h (byBecome I9 26 27 174 32) L9)
        exact aw_zret d_Ve_verify_123 rfl (by omega) (hP _ _ (Or.inl ⟨fun _ => ⟨ok_65, okA⟩, _, _, _, Or.inr ⟨pre_, GA, hA, mo, mm2⟩, rfl, rfl⟩))
      · skip
        refine aw_iconst d_Ve_verify_36 ⟨by decide, by decide⟩ ?_
        exact aw_zret d_Ve_verify_37 rfl ⟨by decide, by decide⟩ (hP _ _ (Or.inl ⟨fun z => absurd z (fun z => by rcases q2 with y | y; exact absurd y.1 (by omega); exact y.2 z.2.2), _, _, _, Or.inl ⟨fun z => by rcases q2 with y | y; exact absurd y.1 (by omega); exact y.2 z.2.2, rfl, F2⟩, rfl, rfl⟩))
set_option maxHeartbeats 800000 in
set_option maxRecDepth 100000 in
theorem c_Ve_verify10 {l : Launch} {G : a_G} {h : Hp} {I L : Nat → Int → Int} (S : Shp h) (hfl : l.flags = flags0) (rm : hX h + 1 ≤ a_NX ∧ hU h + 6 ≤ a_US) (SD : Std I L) (cb : CB I) : AW l G M_Ve_verify (DvR h I L (vfPre 1 (byAt I 24 25) (I 24 1) → vfOk 1 (byAt I 16 17) (byAt I 24 25)) (fun v I' L' => (¬ vfPre 1 (byAt I 24 25) (I 24 1) ∧ v = 0 ∧ FC (fun a => 36 ≤ a ∧ a ≤ 174 ∧ a ≠ 43) I L I' L') ∨ (vfPre 1 (byAt I 24 25) (I 24 1) ∧ FC (fun a => a = 26 ∨ a = 27 ∨ 36 ≤ a ∧ a ≤ 174 ∧ a ≠ 43) I L I' L' ∧ HB I' 26 27 (pC 1) (vfC 1 (byAt I 16 17) (byAt I 24 25) (muV I (0))) ∧ (v = 0 ∨ v = 1) ∧ (v = 1 ↔ ∀ j, 0 ≤ j → j < pC 1 → vfC 1 (byAt I 16 17) (byAt I 24 25) (muV I (0)) j = byAt I 24 25 j)))) 0 (a_ar 0 [vr 170, vr 13, vr 34, vi 0]) [] (sD h I L) := by
  suffices key : ∀ P : a_R → Hp → Prop, (∀ r_ h2_, DvR h I L (vfPre 1 (byAt I 24 25) (I 24 1) → vfOk 1 (byAt I 16 17) (byAt I 24 25)) (fun v I' L' => (¬ vfPre 1 (byAt I 24 25) (I 24 1) ∧ v = 0 ∧ FC (fun a => 36 ≤ a ∧ a ≤ 174 ∧ a ≠ 43) I L I' L') ∨ (vfPre 1 (byAt I 24 25) (I 24 1) ∧ FC (fun a => a = 26 ∨ a = 27 ∨ 36 ≤ a ∧ a ≤ 174 ∧ a ≠ 43) I L I' L' ∧ HB I' 26 27 (pC 1) (vfC 1 (byAt I 16 17) (byAt I 24 25) (muV I (0))) ∧ (v = 0 ∨ v = 1) ∧ (v = 1 ↔ ∀ j, 0 ≤ j → j < pC 1 → vfC 1 (byAt I 16 17) (byAt I 24 25) (muV I (0)) j = byAt I 24 25 j))) r_ h2_ → P r_ h2_) → AW l G M_Ve_verify P 0 [(0, vr 170), (1, vr 13), (2, vr 34), (3, vi 0)] [] (sD h I L) from key _ (fun _ _ q => q)
  intro P hP
  have cb1 : 0 ≤ I 16 1 ∧ I 16 1 ≤ 8192 := cb.1 1 (by decide)
  have cb5 : 0 ≤ I 24 1 ∧ I 24 1 ≤ 8192 := cb.1 5 (by decide)
  refine aw_aload_n d_Ve_verify_0 rfl rfl ?_
  refine aw_iconst d_Ve_verify_1 ⟨by decide, by decide⟩ ?_
  refine ax_aald (b := 24) d_Ve_verify_2 ⟨by rw [(k_13 S)]; decide, by rw [(k_13 S)]; decide⟩ (by omega) (by rw [n_13 S]; omega) (r_13_5 S) ?_
  refine aw_astore (lv' := [(4, vr 24), (0, vr 170), (1, vr 13), (2, vr 34), (3, vi 0)]) d_Ve_verify_3 (by decide) rfl ?_
  refine aw_aload d_Ve_verify_5 rfl ?_
  refine ax_getIe (x := I 24 1) d_Ve_verify_7 fd_Ve_27 (k_24 S) (rfl) ?_
  refine aw_aload_n d_Ve_verify_10 rfl rfl ?_
  refine ax_getIe (x := 3309) d_Ve_verify_11 fd_Ve_31 (k_34 S) (pc_34_15 SD.2.1) ?_
  refine aw_icmp_ne (tgt := 36) d_Ve_verify_14 (by decide) (fun c_14 => ?_) (fun c_14 => ?_)
  · skip
    refine aw_iconst d_Ve_verify_36 ⟨by decide, by decide⟩ ?_
    exact aw_zret d_Ve_verify_37 rfl ⟨by decide, by decide⟩ (hP _ _ (Or.inl ⟨fun z => absurd z (fun z => by first | (have z1 : I 24 1 = 3309 := z.1; omega) | (have := rr.2 z.2.1; omega)), _, _, _, Or.inl ⟨fun z => by first | (have z1 : I 24 1 = 3309 := z.1; omega) | (have := rr.2 z.2.1; omega), rfl, FC.rfl'⟩, rfl, rfl⟩))
  · skip
    refine aw_aload d_Ve_verify_17 rfl ?_
    refine aw_aload_n d_Ve_verify_19 rfl rfl ?_
    refine ax_Sr (st := []) (as := [vr 24, vr 34]) d_Ve_verify_20 cs_Ve_verify_20 (c_Ve_hintsStand1 S SD.2.1 (by omega)) rfl rfl rfl (fun u_20 q_20 => ?_)
    obtain ⟨ro, rr⟩ := q_20
    show AW l G M_Ve_verify P 23 [(4, vr 24), (0, vr 170), (1, vr 13), (2, vr 34), (3, vi 0)] [vi u_20] (sD h I L)
    refine aw_if_eq (tgt := 36) d_Ve_verify_23 (by decide) (fun c_23 => ?_) (fun c_23 => ?_)
    · skip
      refine aw_iconst d_Ve_verify_36 ⟨by decide, by decide⟩ ?_
      exact aw_zret d_Ve_verify_37 rfl ⟨by decide, by decide⟩ (hP _ _ (Or.inl ⟨fun z => absurd z (fun z => by first | (have z1 : I 24 1 = 3309 := z.1; omega) | (have := rr.2 z.2.1; omega)), _, _, _, Or.inl ⟨fun z => by first | (have z1 : I 24 1 = 3309 := z.1; omega) | (have := rr.2 z.2.1; omega), rfl, FC.rfl'⟩, rfl, rfl⟩))
    · skip
      refine aw_aload_n d_Ve_verify_26 rfl rfl ?_
      refine aw_aload d_Ve_verify_27 rfl ?_
      refine aw_aload_n d_Ve_verify_29 rfl rfl ?_
      refine ax_Vr (st := []) (as := [vr 24, vr 34]) (b := 170) d_Ve_verify_30 cs_Ve_verify_30 (k_170 S) (c_Ve_answersHide1 S SD (by omega)) rfl rfl rfl (fun u_30 q_30 => ?_)
      obtain ⟨v2, K2⟩ := u_30
      obtain ⟨f2, q2⟩ := q_30
      dsimp only at f2 q2
      have F2 : FC (fun a => 36 ≤ a ∧ a ≤ 174 ∧ a ≠ 43) I L K2 L := f2.mono (by intro a x; omega)
      show AW l G M_Ve_verify P 33 [(4, vr 24), (0, vr 170), (1, vr 13), (2, vr 34), (3, vi 0)] [vi v2] (sD h K2 L)
      refine aw_if_ne (tgt := 38) d_Ve_verify_33 (by decide) (fun c_33 => ?_) (fun c_33 => ?_)
      · skip
        refine aw_aload_n d_Ve_verify_38 rfl rfl ?_
        refine aw_aload_n d_Ve_verify_39 rfl rfl ?_
        refine aw_iload_n d_Ve_verify_40 rfl rfl ?_
        have g2 := q2.resolve_right (fun z => c_33 z.1)
        have pre_ : vfPre 1 (byAt I 24 25) (I 24 1) := ⟨by show I 24 1 = 3309; omega, rr.1 (by omega), g2.2.1⟩
        refine ax_Vr (st := []) (as := [vr 13, vi 0]) (b := 170) d_Ve_verify_41 cs_Ve_verify_41 (k_170 S) (c_Ve_digestMessage0 S (SD.fc F2 (by intro a x; omega)) ⟨fun s hs => by rw [F2.1 _ 1 (by omega)]; exact cb.1 s hs, by rw [F2.1 _ 1 (by omega)]; exact cb.2⟩) rfl rfl rfl (fun u_41 q_41 => ?_)
        obtain ⟨I3, L3⟩ := u_41
        obtain ⟨F3, H3⟩ := q_41
        dsimp only at F3 H3
        have G3 : FC (fun a => 36 ≤ a ∧ a ≤ 174 ∧ a ≠ 43) I L I3 L3 := F2.tr F3 (by intro a x; omega)
        have H3 : HB I3 137 138 64 (muV I (0)) := ⟨H3.1, fun z x y => (H3.2 z x y).trans (by unfold muV muC; rw [F2.1 16 1 (by omega), F2.1 22 1 (by omega), F2.1 20 1 (by omega), show (fun k => byAt K2 16 17 (0 + k)) = (fun k => byAt I 16 17 (0 + k)) from funext (fun k => byAt_fc F2 (by omega) (by omega)), show (fun k => byAt K2 22 23 (0 + k)) = (fun k => byAt I 22 23 (0 + k)) from funext (fun k => byAt_fc F2 (by omega) (by omega)), show (fun k => byAt K2 20 21 (0 + k)) = (fun k => byAt I 20 21 (0 + k)) from funext (fun k => byAt_fc F2 (by omega) (by omega))])⟩
        show AW l G M_Ve_verify P 44 [(4, vr 24), (0, vr 170), (1, vr 13), (2, vr 34), (3, vi 0)] [] (sD h I3 L3)
        refine aw_aload_n d_Ve_verify_44 rfl rfl ?_
        refine ax_getR (b := 36) d_Ve_verify_45 fd_Ve_23 (k_170 S) (r_170_0 S) ?_
        refine ax_getR (b := 139) d_Ve_verify_48 fd_Ve_47 (k_36 S) (r_36_11 S) ?_
        refine aw_aload d_Ve_verify_51 rfl ?_
        refine aw_aload_n d_Ve_verify_53 rfl rfl ?_
        refine ax_getIe (x := 48) d_Ve_verify_54 fd_Ve_52 (k_34 S) (Eq.trans (G3.1 34 7 (by omega)) (pc_34_7 SD.2.1)) ?_
        refine ax_V (st := []) (as := [vr 24, vi 48]) (b := 139) (v := none) (h' := sD h (byBecome I3 139 140 25 48) L3) d_Ve_verify_57 cs_Ve_verify_57 (k_139 S) (c_By_become ⟨k_139 S, r_139_0 S, k_140 S, by decide, by decide, by decide⟩ (ks S (i := 5) (by decide)) (by rw [G3.1 24 1 (by omega), nks S (i := 5) (by decide), n_140 S]; omega)) rfl rfl rfl ?_
        show AW l G M_Ve_verify P 60 [(4, vr 24), (0, vr 170), (1, vr 13), (2, vr 34), (3, vi 0)] [] (sD h (byBecome I3 139 140 25 48) L3)
        have f5 : FC (fun a => a = 139 ∨ a = 140) I3 L3 (byBecome I3 139 140 25 48) L3 := FC.become (by omega) (by omega)
        have G5 : FC (fun a => 36 ≤ a ∧ a ≤ 174 ∧ a ≠ 43) I L (byBecome I3 139 140 25 48) L3 := G3.tr f5 (by intro a x; omega)
        have h5 : HB (byBecome I3 139 140 25 48) 139 140 48 (byAt I 24 25) := by rw [show byAt I 24 25 = byAt I3 24 25 from funext (fun x => (byAt_fc G3 (by omega) (by omega)).symm)]; exact HB.become (by decide) (by rw [G3.1 24 1 (by omega)]; omega)
        have eB : blS (fun k => byAt (byBecome I3 139 140 25 48) 139 140 (0 + k)) ((byBecome I3 139 140 25 48) 139 1) = vfBs 1 (byAt I 24 25) := by rw [h5.1]; exact blS_congr (fun k hk => by rw [Int.zero_add, h5.2 k (by omega) hk])
        refine aw_aload_n d_Ve_verify_60 rfl rfl ?_
        refine ax_getR (b := 36) d_Ve_verify_61 fd_Ve_23 (k_170 S) (r_170_0 S) ?_
        refine aw_aload_n d_Ve_verify_64 rfl rfl ?_
        refine ax_VtT (st := []) (as := [vr 34]) (b := 36) d_Ve_verify_65 cs_Ve_verify_65 (k_36 S) (c_Be_castBall1 S hfl rm (SD.fc G5 (by intro a x; omega)) (by rw [h5.1]; omega)) rfl rfl rfl (fun ok_65 I_65 L_65 q_65 => ?_) (fun no_65 I_65 L_65 q_65 => at_leave rfl (hP _ _ (Or.inr ⟨fun z => no_65 (by rw [eB]; exact (z pre_).1), I_65, L_65, (G5.frc (by intro a x; omega)).tr q_65, rfl, rfl⟩)))
        obtain ⟨F6, b6⟩ := q_65
        rw [eB] at ok_65 b6
        have b6 : eqQ (I_65 135) (vfB 1 (byAt I 24 25)) := b6
        have G6 : FC (fun a => 36 ≤ a ∧ a ≤ 174 ∧ a ≠ 43) I L I_65 L_65 := G5.tr F6 (by intro a x; omega)
        show AW l G M_Ve_verify P 68 [(4, vr 24), (0, vr 170), (1, vr 13), (2, vr 34), (3, vi 0)] [] (sD h I_65 L_65)
        refine aw_aload_n d_Ve_verify_68 rfl rfl ?_
        refine aw_aload_n d_Ve_verify_69 rfl rfl ?_
        refine aw_iconst d_Ve_verify_70 ⟨by decide, by decide⟩ ?_
        refine ax_aald (b := 16) d_Ve_verify_71 ⟨by rw [(k_13 S)]; decide, by rw [(k_13 S)]; decide⟩ (by omega) (by rw [n_13 S]; omega) (r_13_1 S) ?_
        refine aw_aload_n d_Ve_verify_72 rfl rfl ?_
        refine ax_VtT (st := []) (as := [vr 16, vr 34]) (b := 170) d_Ve_verify_73 cs_Ve_verify_73 (k_170 S) (c_Ve_computeImages1 (B := vfB 1 (byAt I 24 25)) (Z := (vfZ 1 (byAt I 24 25))) S hfl rm (SD.fc G6 (by intro a x; omega)) (by rw [G6.1 16 1 (by omega)]; omega) b6 vfB_in (fun m a b j x y => (F6.1 _ j (by omega)).trans ((f5.1 _ j (by omega)).trans ((F3.1 _ j (by omega)).trans (g2.2.2 m a b j x y)))) (fun _ _ _ => vfZ_in)) rfl rfl rfl (fun ok_73 I_73 L_73 q_73 => ?_) (fun no_73 I_73 L_73 q_73 => at_leave rfl (hP _ _ (Or.inr ⟨fun z => no_73 (by rw [b0_eq, show byAt I_65 16 17 = byAt I 16 17 from funext (fun x => byAt_fc G6 (by omega) (by omega))]; exact (z pre_).2), I_73, L_73, (G6.frc (by intro a x; omega)).tr q_73, rfl, rfl⟩)))
        obtain ⟨F7, w7⟩ := q_73
        rw [b0_eq, show byAt I_65 16 17 = byAt I 16 17 from funext (fun x => byAt_fc G6 (by omega) (by omega))] at ok_73
        have okA : sgOk 1 (byAt I 16 17) := ok_73
        have w7 : ∀ m, 0 ≤ m → m < 6 → eqQ (I_73 (127 + m.toNat)) (vfW 1 (byAt I 16 17) (byAt I 24 25) m) := fun m a b j x y => by have z := w7 m a b j x y; rw [b0_eq, show byAt I_65 16 17 = byAt I 16 17 from funext (fun x => byAt_fc G6 (by omega) (by omega))] at z; exact z
        have G7 : FC (fun a => 36 ≤ a ∧ a ≤ 174 ∧ a ≠ 43) I L I_73 L_73 := G6.tr F7 (by intro a x; omega)
        show AW l G M_Ve_verify P 76 [(4, vr 24), (0, vr 170), (1, vr 13), (2, vr 34), (3, vi 0)] [] (sD h I_73 L_73)
        refine aw_aload_n d_Ve_verify_76 rfl rfl ?_
        refine aw_aload d_Ve_verify_77 rfl ?_
        refine aw_aload_n d_Ve_verify_79 rfl rfl ?_
        have e24 : byAt I_73 24 25 = byAt I 24 25 := funext (fun x => byAt_fc G7 (by omega) (by omega))
        refine ax_Vr (st := []) (as := [vr 24, vr 34]) (b := 170) d_Ve_verify_80 cs_Ve_verify_80 (k_170 S) (c_Ve_packHighs1 (W := vfW 1 (byAt I 16 17) (byAt I 24 25)) S (SD.fc G7 (by intro a x; omega)) (by rw [G7.1 24 1 (by omega)]; omega) (by rw [e24]; exact pre_.2.1) w7 (fun _ _ _ => vfW_in)) rfl rfl rfl (fun u_80 q_80 => ?_)
        obtain ⟨F8, H8⟩ := q_80
        rw [e24] at H8
        have G8 : FC (fun a => 36 ≤ a ∧ a ≤ 174 ∧ a ≠ 43) I L u_80 L_73 := G7.tr F8 (by intro a x; omega)
        have d8 : HB u_80 137 138 64 (muV I (0)) := (((H3.fc f5 (by decide) (by decide)).fc F6 (by decide) (by decide)).fc F7 (by decide) (by decide)).fc F8 (by decide) (by decide)
        show AW l G M_Ve_verify P 83 [(4, vr 24), (0, vr 170), (1, vr 13), (2, vr 34), (3, vi 0)] [] (sD h u_80 L_73)
        refine aw_aload_n d_Ve_verify_83 rfl rfl ?_
        refine ax_getR (b := 36) d_Ve_verify_84 fd_Ve_23 (k_170 S) (r_170_0 S) ?_
        refine aw_aload_n d_Ve_verify_87 rfl rfl ?_
        refine aw_aload_n d_Ve_verify_88 rfl rfl ?_
        refine ax_getR (b := 173) d_Ve_verify_89 fd_Ve_20 (k_170 S) (r_170_2 S) ?_
        refine ax_Vr (st := []) (as := [vr 34, vr 173]) (b := 36) d_Ve_verify_92 cs_Ve_verify_92 (k_36 S) (c_Be_hashHighs1 S (SD.fc G8 (by intro a x; omega)) ⟨k_173 S, r_173_0 S, k_174 S, by decide, by decide, by decide⟩ (by decide) (by rw [n_174 S, H8.1, d8.1]; omega)) rfl rfl rfl (fun u_92 q_92 => ?_)
        obtain ⟨I9, L9⟩ := u_92
        obtain ⟨F9, a9, b9⟩ := q_92
        dsimp only at F9 a9 b9
        rw [H8.1, hhS_congr (gd' := (muV I (0))) (gp' := hvB (byAt I 24 25) (sO3 1) (pW 1) (pG2 1) (sHs 1) (sHb 1) (32 * (sHb 1 : Int)) (vfW 1 (byAt I 16 17) (byAt I 24 25))) (fun k hk => by rw [Int.zero_add, d8.2 k (by omega) (by omega)]) (fun k hk => by rw [Int.zero_add, H8.2 k (by omega) (by omega)]; rfl)] at b9
        have G9 : FC (fun a => 36 ≤ a ∧ a ≤ 174 ∧ a ≠ 43) I L I9 L9 := G8.tr F9 (by intro a x; omega)
        have H9 : HB I9 173 174 48 (vfC 1 (byAt I 16 17) (byAt I 24 25) (muV I (0))) := ⟨a9, b9⟩
        show AW l G M_Ve_verify P 95 [(4, vr 24), (0, vr 170), (1, vr 13), (2, vr 34), (3, vi 0)] [] (sD h I9 L9)
        refine aw_aload_n d_Ve_verify_95 rfl rfl ?_
        refine aw_bipush d_Ve_verify_96 ⟨by decide, by decide⟩ (by decide) ?_
        refine ax_aald (b := 26) d_Ve_verify_98 ⟨by rw [(k_13 S)]; decide, by rw [(k_13 S)]; decide⟩ (by omega) (by rw [n_13 S]; omega) (r_13_6 S) ?_
        refine aw_aload_n d_Ve_verify_99 rfl rfl ?_
        refine ax_getR (b := 173) d_Ve_verify_100 fd_Ve_20 (k_170 S) (r_170_2 S) ?_
        refine aw_aload_n d_Ve_verify_103 rfl rfl ?_
        refine ax_getIe (x := 48) d_Ve_verify_104 fd_Ve_52 (k_34 S) (Eq.trans (G9.1 34 7 (by omega)) (pc_34_7 SD.2.1)) ?_
        refine ax_V (st := []) (as := [vr 173, vi 48]) (b := 26) (v := none) (h' := sD h (byBecome I9 26 27 174 48) L9) d_Ve_verify_107 cs_Ve_verify_107 (k_26 S) (c_By_become (ks S (i := 6) (by decide)) ⟨k_173 S, r_173_0 S, k_174 S, by decide, by decide, by decide⟩ (by rw [H9.1, nks S (i := 6) (by decide), n_174 S]; omega)) rfl rfl rfl ?_
        show AW l G M_Ve_verify P 110 [(4, vr 24), (0, vr 170), (1, vr 13), (2, vr 34), (3, vi 0)] [] (sD h (byBecome I9 26 27 174 48) L9)
        have fA : FC (fun a => a = 26 ∨ a = 27) I9 L9 (byBecome I9 26 27 174 48) L9 := FC.become (by omega) (by omega)
        have GA : FC (fun a => a = 26 ∨ a = 27 ∨ 36 ≤ a ∧ a ≤ 174 ∧ a ≠ 43) I L (byBecome I9 26 27 174 48) L9 := G9.tr fA (by intro a x; omega)
        have hA : HB (byBecome I9 26 27 174 48) 26 27 48 (vfC 1 (byAt I 16 17) (byAt I 24 25) (muV I (0))) := ⟨(HB.become (b2 := 173) (by decide) (by rw [H9.1]; omega)).1, fun z x y => ((HB.become (b2 := 173) (by decide) (by rw [H9.1]; omega)).2 z x y).trans (H9.2 z x y)⟩
        refine aw_aload_n d_Ve_verify_110 rfl rfl ?_
        refine ax_getR (b := 173) d_Ve_verify_111 fd_Ve_20 (k_170 S) (r_170_2 S) ?_
        refine aw_aload d_Ve_verify_114 rfl ?_
        refine aw_aload_n d_Ve_verify_116 rfl rfl ?_
        refine ax_getIe (x := 48) d_Ve_verify_117 fd_Ve_52 (k_34 S) (Eq.trans (GA.1 34 7 (by omega)) (pc_34_7 SD.2.1)) ?_
        refine ax_Vr (st := []) (as := [vr 24, vi 48]) (b := 173) d_Ve_verify_120 cs_Ve_verify_120 (k_173 S) (c_By_matches ⟨k_173 S, r_173_0 S, k_174 S, by decide, by decide, by decide⟩ (ks S (i := 5) (by decide)) (by rw [fA.1 173 1 (by omega), H9.1, GA.1 24 1 (by omega), n_174 S, nks S (i := 5) (by decide)]; omega) (by decide)) rfl rfl rfl (fun u_120 q_120 => ?_)
        obtain ⟨mo, mm⟩ := q_120
        have mm2 : u_120 = 1 ↔ ∀ j, 0 ≤ j → j < 48 → vfC 1 (byAt I 16 17) (byAt I 24 25) (muV I (0)) j = byAt I 24 25 j := mm.trans ⟨fun z j x y => by rw [← H9.2 j x y, ← byAt_fc fA (by omega) (by omega), z j x y]; exact byAt_fc GA (by omega) (by omega), fun z j x y => by rw [byAt_fc fA (by omega) (by omega), H9.2 j x y, z j x y]; exact (byAt_fc GA (by omega) (by omega)).symm⟩
        show AW l G M_Ve_verify P 123 [(4, vr 24), (0, vr 170), (1, vr 13), (2, vr 34), (3, vi 0)] [vi u_120] (sD h (byBecome I9 26 27 174 48) L9)
        exact aw_zret d_Ve_verify_123 rfl (by omega) (hP _ _ (Or.inl ⟨fun _ => ⟨ok_65, okA⟩, _, _, _, Or.inr ⟨pre_, GA, hA, mo, mm2⟩, rfl, rfl⟩))
      · skip
        refine aw_iconst d_Ve_verify_36 ⟨by decide, by decide⟩ ?_
        exact aw_zret d_Ve_verify_37 rfl ⟨by decide, by decide⟩ (hP _ _ (Or.inl ⟨fun z => absurd z (fun z => by rcases q2 with y | y; exact absurd y.1 (by omega); exact y.2 z.2.2), _, _, _, Or.inl ⟨fun z => by rcases q2 with y | y; exact absurd y.1 (by omega); exact y.2 z.2.2, rfl, F2⟩, rfl, rfl⟩))
set_option maxHeartbeats 800000 in
set_option maxRecDepth 100000 in
theorem c_Ve_verify1N {l : Launch} {G : a_G} {h : Hp} {I L : Nat → Int → Int} (S : Shp h) (hfl : l.flags = flags0) (rm : hX h + 1 ≤ a_NX ∧ hU h + 6 ≤ a_US) (SD : Std I L) (cb : CB I) : AW l G M_Ve_verify (DvR h I L (vfPre 1 (byAt I 24 25) (I 24 1) → vfOk 1 (byAt I 16 17) (byAt I 24 25)) (fun v I' L' => (¬ vfPre 1 (byAt I 24 25) (I 24 1) ∧ v = 0 ∧ FC (fun a => 36 ≤ a ∧ a ≤ 174 ∧ a ≠ 43) I L I' L') ∨ (vfPre 1 (byAt I 24 25) (I 24 1) ∧ FC (fun a => a = 26 ∨ a = 27 ∨ 36 ≤ a ∧ a ≤ 174 ∧ a ≠ 43) I L I' L' ∧ HB I' 26 27 (pC 1) (vfC 1 (byAt I 16 17) (byAt I 24 25) (muV I (-1))) ∧ (v = 0 ∨ v = 1) ∧ (v = 1 ↔ ∀ j, 0 ≤ j → j < pC 1 → vfC 1 (byAt I 16 17) (byAt I 24 25) (muV I (-1)) j = byAt I 24 25 j)))) 0 (a_ar 0 [vr 170, vr 13, vr 34, vi (-1)]) [] (sD h I L) := by
  suffices key : ∀ P : a_R → Hp → Prop, (∀ r_ h2_, DvR h I L (vfPre 1 (byAt I 24 25) (I 24 1) → vfOk 1 (byAt I 16 17) (byAt I 24 25)) (fun v I' L' => (¬ vfPre 1 (byAt I 24 25) (I 24 1) ∧ v = 0 ∧ FC (fun a => 36 ≤ a ∧ a ≤ 174 ∧ a ≠ 43) I L I' L') ∨ (vfPre 1 (byAt I 24 25) (I 24 1) ∧ FC (fun a => a = 26 ∨ a = 27 ∨ 36 ≤ a ∧ a ≤ 174 ∧ a ≠ 43) I L I' L' ∧ HB I' 26 27 (pC 1) (vfC 1 (byAt I 16 17) (byAt I 24 25) (muV I (-1))) ∧ (v = 0 ∨ v = 1) ∧ (v = 1 ↔ ∀ j, 0 ≤ j → j < pC 1 → vfC 1 (byAt I 16 17) (byAt I 24 25) (muV I (-1)) j = byAt I 24 25 j))) r_ h2_ → P r_ h2_) → AW l G M_Ve_verify P 0 [(0, vr 170), (1, vr 13), (2, vr 34), (3, vi (-1))] [] (sD h I L) from key _ (fun _ _ q => q)
  intro P hP
  have cb1 : 0 ≤ I 16 1 ∧ I 16 1 ≤ 8192 := cb.1 1 (by decide)
  have cb5 : 0 ≤ I 24 1 ∧ I 24 1 ≤ 8192 := cb.1 5 (by decide)
  refine aw_aload_n d_Ve_verify_0 rfl rfl ?_
  refine aw_iconst d_Ve_verify_1 ⟨by decide, by decide⟩ ?_
  refine ax_aald (b := 24) d_Ve_verify_2 ⟨by rw [(k_13 S)]; decide, by rw [(k_13 S)]; decide⟩ (by omega) (by rw [n_13 S]; omega) (r_13_5 S) ?_
  refine aw_astore (lv' := [(4, vr 24), (0, vr 170), (1, vr 13), (2, vr 34), (3, vi (-1))]) d_Ve_verify_3 (by decide) rfl ?_
  refine aw_aload d_Ve_verify_5 rfl ?_
  refine ax_getIe (x := I 24 1) d_Ve_verify_7 fd_Ve_27 (k_24 S) (rfl) ?_
  refine aw_aload_n d_Ve_verify_10 rfl rfl ?_
  refine ax_getIe (x := 3309) d_Ve_verify_11 fd_Ve_31 (k_34 S) (pc_34_15 SD.2.1) ?_
  refine aw_icmp_ne (tgt := 36) d_Ve_verify_14 (by decide) (fun c_14 => ?_) (fun c_14 => ?_)
  · skip
    refine aw_iconst d_Ve_verify_36 ⟨by decide, by decide⟩ ?_
    exact aw_zret d_Ve_verify_37 rfl ⟨by decide, by decide⟩ (hP _ _ (Or.inl ⟨fun z => absurd z (fun z => by first | (have z1 : I 24 1 = 3309 := z.1; omega) | (have := rr.2 z.2.1; omega)), _, _, _, Or.inl ⟨fun z => by first | (have z1 : I 24 1 = 3309 := z.1; omega) | (have := rr.2 z.2.1; omega), rfl, FC.rfl'⟩, rfl, rfl⟩))
  · skip
    refine aw_aload d_Ve_verify_17 rfl ?_
    refine aw_aload_n d_Ve_verify_19 rfl rfl ?_
    refine ax_Sr (st := []) (as := [vr 24, vr 34]) d_Ve_verify_20 cs_Ve_verify_20 (c_Ve_hintsStand1 S SD.2.1 (by omega)) rfl rfl rfl (fun u_20 q_20 => ?_)
    obtain ⟨ro, rr⟩ := q_20
    show AW l G M_Ve_verify P 23 [(4, vr 24), (0, vr 170), (1, vr 13), (2, vr 34), (3, vi (-1))] [vi u_20] (sD h I L)
    refine aw_if_eq (tgt := 36) d_Ve_verify_23 (by decide) (fun c_23 => ?_) (fun c_23 => ?_)
    · skip
      refine aw_iconst d_Ve_verify_36 ⟨by decide, by decide⟩ ?_
      exact aw_zret d_Ve_verify_37 rfl ⟨by decide, by decide⟩ (hP _ _ (Or.inl ⟨fun z => absurd z (fun z => by first | (have z1 : I 24 1 = 3309 := z.1; omega) | (have := rr.2 z.2.1; omega)), _, _, _, Or.inl ⟨fun z => by first | (have z1 : I 24 1 = 3309 := z.1; omega) | (have := rr.2 z.2.1; omega), rfl, FC.rfl'⟩, rfl, rfl⟩))
    · skip
      refine aw_aload_n d_Ve_verify_26 rfl rfl ?_
      refine aw_aload d_Ve_verify_27 rfl ?_
      refine aw_aload_n d_Ve_verify_29 rfl rfl ?_
      refine ax_Vr (st := []) (as := [vr 24, vr 34]) (b := 170) d_Ve_verify_30 cs_Ve_verify_30 (k_170 S) (c_Ve_answersHide1 S SD (by omega)) rfl rfl rfl (fun u_30 q_30 => ?_)
      obtain ⟨v2, K2⟩ := u_30
      obtain ⟨f2, q2⟩ := q_30
      dsimp only at f2 q2
      have F2 : FC (fun a => 36 ≤ a ∧ a ≤ 174 ∧ a ≠ 43) I L K2 L := f2.mono (by intro a x; omega)
      show AW l G M_Ve_verify P 33 [(4, vr 24), (0, vr 170), (1, vr 13), (2, vr 34), (3, vi (-1))] [vi v2] (sD h K2 L)
      refine aw_if_ne (tgt := 38) d_Ve_verify_33 (by decide) (fun c_33 => ?_) (fun c_33 => ?_)
      · skip
        refine aw_aload_n d_Ve_verify_38 rfl rfl ?_
        refine aw_aload_n d_Ve_verify_39 rfl rfl ?_
        refine aw_iload_n d_Ve_verify_40 rfl rfl ?_
        have g2 := q2.resolve_right (fun z => c_33 z.1)
        have pre_ : vfPre 1 (byAt I 24 25) (I 24 1) := ⟨by show I 24 1 = 3309; omega, rr.1 (by omega), g2.2.1⟩
        refine ax_Vr (st := []) (as := [vr 13, vi (-1)]) (b := 170) d_Ve_verify_41 cs_Ve_verify_41 (k_170 S) (c_Ve_digestMessageN S (SD.fc F2 (by intro a x; omega)) ⟨fun s hs => by rw [F2.1 _ 1 (by omega)]; exact cb.1 s hs, by rw [F2.1 _ 1 (by omega)]; exact cb.2⟩) rfl rfl rfl (fun u_41 q_41 => ?_)
        obtain ⟨I3, L3⟩ := u_41
        obtain ⟨F3, H3⟩ := q_41
        dsimp only at F3 H3
        have G3 : FC (fun a => 36 ≤ a ∧ a ≤ 174 ∧ a ≠ 43) I L I3 L3 := F2.tr F3 (by intro a x; omega)
        have H3 : HB I3 137 138 64 (muV I (-1)) := ⟨H3.1, fun z x y => (H3.2 z x y).trans (by unfold muV muC; rw [F2.1 16 1 (by omega), F2.1 22 1 (by omega), F2.1 20 1 (by omega), show (fun k => byAt K2 16 17 (0 + k)) = (fun k => byAt I 16 17 (0 + k)) from funext (fun k => byAt_fc F2 (by omega) (by omega)), show (fun k => byAt K2 22 23 (0 + k)) = (fun k => byAt I 22 23 (0 + k)) from funext (fun k => byAt_fc F2 (by omega) (by omega)), show (fun k => byAt K2 20 21 (0 + k)) = (fun k => byAt I 20 21 (0 + k)) from funext (fun k => byAt_fc F2 (by omega) (by omega))])⟩
        show AW l G M_Ve_verify P 44 [(4, vr 24), (0, vr 170), (1, vr 13), (2, vr 34), (3, vi (-1))] [] (sD h I3 L3)
        refine aw_aload_n d_Ve_verify_44 rfl rfl ?_
        refine ax_getR (b := 36) d_Ve_verify_45 fd_Ve_23 (k_170 S) (r_170_0 S) ?_
        refine ax_getR (b := 139) d_Ve_verify_48 fd_Ve_47 (k_36 S) (r_36_11 S) ?_
        refine aw_aload d_Ve_verify_51 rfl ?_
        refine aw_aload_n d_Ve_verify_53 rfl rfl ?_
        refine ax_getIe (x := 48) d_Ve_verify_54 fd_Ve_52 (k_34 S) (Eq.trans (G3.1 34 7 (by omega)) (pc_34_7 SD.2.1)) ?_
        refine ax_V (st := []) (as := [vr 24, vi 48]) (b := 139) (v := none) (h' := sD h (byBecome I3 139 140 25 48) L3) d_Ve_verify_57 cs_Ve_verify_57 (k_139 S) (c_By_become ⟨k_139 S, r_139_0 S, k_140 S, by decide, by decide, by decide⟩ (ks S (i := 5) (by decide)) (by rw [G3.1 24 1 (by omega), nks S (i := 5) (by decide), n_140 S]; omega)) rfl rfl rfl ?_
        show AW l G M_Ve_verify P 60 [(4, vr 24), (0, vr 170), (1, vr 13), (2, vr 34), (3, vi (-1))] [] (sD h (byBecome I3 139 140 25 48) L3)
        have f5 : FC (fun a => a = 139 ∨ a = 140) I3 L3 (byBecome I3 139 140 25 48) L3 := FC.become (by omega) (by omega)
        have G5 : FC (fun a => 36 ≤ a ∧ a ≤ 174 ∧ a ≠ 43) I L (byBecome I3 139 140 25 48) L3 := G3.tr f5 (by intro a x; omega)
        have h5 : HB (byBecome I3 139 140 25 48) 139 140 48 (byAt I 24 25) := by rw [show byAt I 24 25 = byAt I3 24 25 from funext (fun x => (byAt_fc G3 (by omega) (by omega)).symm)]; exact HB.become (by decide) (by rw [G3.1 24 1 (by omega)]; omega)
        have eB : blS (fun k => byAt (byBecome I3 139 140 25 48) 139 140 (0 + k)) ((byBecome I3 139 140 25 48) 139 1) = vfBs 1 (byAt I 24 25) := by rw [h5.1]; exact blS_congr (fun k hk => by rw [Int.zero_add, h5.2 k (by omega) hk])
        refine aw_aload_n d_Ve_verify_60 rfl rfl ?_
        refine ax_getR (b := 36) d_Ve_verify_61 fd_Ve_23 (k_170 S) (r_170_0 S) ?_
        refine aw_aload_n d_Ve_verify_64 rfl rfl ?_
        refine ax_VtT (st := []) (as := [vr 34]) (b := 36) d_Ve_verify_65 cs_Ve_verify_65 (k_36 S) (c_Be_castBall1 S hfl rm (SD.fc G5 (by intro a x; omega)) (by rw [h5.1]; omega)) rfl rfl rfl (fun ok_65 I_65 L_65 q_65 => ?_) (fun no_65 I_65 L_65 q_65 => at_leave rfl (hP _ _ (Or.inr ⟨fun z => no_65 (by rw [eB]; exact (z pre_).1), I_65, L_65, (G5.frc (by intro a x; omega)).tr q_65, rfl, rfl⟩)))
        obtain ⟨F6, b6⟩ := q_65
        rw [eB] at ok_65 b6
        have b6 : eqQ (I_65 135) (vfB 1 (byAt I 24 25)) := b6
        have G6 : FC (fun a => 36 ≤ a ∧ a ≤ 174 ∧ a ≠ 43) I L I_65 L_65 := G5.tr F6 (by intro a x; omega)
        show AW l G M_Ve_verify P 68 [(4, vr 24), (0, vr 170), (1, vr 13), (2, vr 34), (3, vi (-1))] [] (sD h I_65 L_65)
        refine aw_aload_n d_Ve_verify_68 rfl rfl ?_
        refine aw_aload_n d_Ve_verify_69 rfl rfl ?_
        refine aw_iconst d_Ve_verify_70 ⟨by decide, by decide⟩ ?_
        refine ax_aald (b := 16) d_Ve_verify_71 ⟨by rw [(k_13 S)]; decide, by rw [(k_13 S)]; decide⟩ (by omega) (by rw [n_13 S]; omega) (r_13_1 S) ?_
        refine aw_aload_n d_Ve_verify_72 rfl rfl ?_
        refine ax_VtT (st := []) (as := [vr 16, vr 34]) (b := 170) d_Ve_verify_73 cs_Ve_verify_73 (k_170 S) (c_Ve_computeImages1 (B := vfB 1 (byAt I 24 25)) (Z := (vfZ 1 (byAt I 24 25))) S hfl rm (SD.fc G6 (by intro a x; omega)) (by rw [G6.1 16 1 (by omega)]; omega) b6 vfB_in (fun m a b j x y => (F6.1 _ j (by omega)).trans ((f5.1 _ j (by omega)).trans ((F3.1 _ j (by omega)).trans (g2.2.2 m a b j x y)))) (fun _ _ _ => vfZ_in)) rfl rfl rfl (fun ok_73 I_73 L_73 q_73 => ?_) (fun no_73 I_73 L_73 q_73 => at_leave rfl (hP _ _ (Or.inr ⟨fun z => no_73 (by rw [b0_eq, show byAt I_65 16 17 = byAt I 16 17 from funext (fun x => byAt_fc G6 (by omega) (by omega))]; exact (z pre_).2), I_73, L_73, (G6.frc (by intro a x; omega)).tr q_73, rfl, rfl⟩)))
        obtain ⟨F7, w7⟩ := q_73
        rw [b0_eq, show byAt I_65 16 17 = byAt I 16 17 from funext (fun x => byAt_fc G6 (by omega) (by omega))] at ok_73
        have okA : sgOk 1 (byAt I 16 17) := ok_73
        have w7 : ∀ m, 0 ≤ m → m < 6 → eqQ (I_73 (127 + m.toNat)) (vfW 1 (byAt I 16 17) (byAt I 24 25) m) := fun m a b j x y => by have z := w7 m a b j x y; rw [b0_eq, show byAt I_65 16 17 = byAt I 16 17 from funext (fun x => byAt_fc G6 (by omega) (by omega))] at z; exact z
        have G7 : FC (fun a => 36 ≤ a ∧ a ≤ 174 ∧ a ≠ 43) I L I_73 L_73 := G6.tr F7 (by intro a x; omega)
        show AW l G M_Ve_verify P 76 [(4, vr 24), (0, vr 170), (1, vr 13), (2, vr 34), (3, vi (-1))] [] (sD h I_73 L_73)
        refine aw_aload_n d_Ve_verify_76 rfl rfl ?_
        refine aw_aload d_Ve_verify_77 rfl ?_
        refine aw_aload_n d_Ve_verify_79 rfl rfl ?_
        have e24 : byAt I_73 24 25 = byAt I 24 25 := funext (fun x => byAt_fc G7 (by omega) (by omega))
        refine ax_Vr (st := []) (as := [vr 24, vr 34]) (b := 170) d_Ve_verify_80 cs_Ve_verify_80 (k_170 S) (c_Ve_packHighs1 (W := vfW 1 (byAt I 16 17) (byAt I 24 25)) S (SD.fc G7 (by intro a x; omega)) (by rw [G7.1 24 1 (by omega)]; omega) (by rw [e24]; exact pre_.2.1) w7 (fun _ _ _ => vfW_in)) rfl rfl rfl (fun u_80 q_80 => ?_)
        obtain ⟨F8, H8⟩ := q_80
        rw [e24] at H8
        have G8 : FC (fun a => 36 ≤ a ∧ a ≤ 174 ∧ a ≠ 43) I L u_80 L_73 := G7.tr F8 (by intro a x; omega)
        have d8 : HB u_80 137 138 64 (muV I (-1)) := (((H3.fc f5 (by decide) (by decide)).fc F6 (by decide) (by decide)).fc F7 (by decide) (by decide)).fc F8 (by decide) (by decide)
        show AW l G M_Ve_verify P 83 [(4, vr 24), (0, vr 170), (1, vr 13), (2, vr 34), (3, vi (-1))] [] (sD h u_80 L_73)
        refine aw_aload_n d_Ve_verify_83 rfl rfl ?_
        refine ax_getR (b := 36) d_Ve_verify_84 fd_Ve_23 (k_170 S) (r_170_0 S) ?_
        refine aw_aload_n d_Ve_verify_87 rfl rfl ?_
        refine aw_aload_n d_Ve_verify_88 rfl rfl ?_
        refine ax_getR (b := 173) d_Ve_verify_89 fd_Ve_20 (k_170 S) (r_170_2 S) ?_
        refine ax_Vr (st := []) (as := [vr 34, vr 173]) (b := 36) d_Ve_verify_92 cs_Ve_verify_92 (k_36 S) (c_Be_hashHighs1 S (SD.fc G8 (by intro a x; omega)) ⟨k_173 S, r_173_0 S, k_174 S, by decide, by decide, by decide⟩ (by decide) (by rw [n_174 S, H8.1, d8.1]; omega)) rfl rfl rfl (fun u_92 q_92 => ?_)
        obtain ⟨I9, L9⟩ := u_92
        obtain ⟨F9, a9, b9⟩ := q_92
        dsimp only at F9 a9 b9
        rw [H8.1, hhS_congr (gd' := (muV I (-1))) (gp' := hvB (byAt I 24 25) (sO3 1) (pW 1) (pG2 1) (sHs 1) (sHb 1) (32 * (sHb 1 : Int)) (vfW 1 (byAt I 16 17) (byAt I 24 25))) (fun k hk => by rw [Int.zero_add, d8.2 k (by omega) (by omega)]) (fun k hk => by rw [Int.zero_add, H8.2 k (by omega) (by omega)]; rfl)] at b9
        have G9 : FC (fun a => 36 ≤ a ∧ a ≤ 174 ∧ a ≠ 43) I L I9 L9 := G8.tr F9 (by intro a x; omega)
        have H9 : HB I9 173 174 48 (vfC 1 (byAt I 16 17) (byAt I 24 25) (muV I (-1))) := ⟨a9, b9⟩
        show AW l G M_Ve_verify P 95 [(4, vr 24), (0, vr 170), (1, vr 13), (2, vr 34), (3, vi (-1))] [] (sD h I9 L9)
        refine aw_aload_n d_Ve_verify_95 rfl rfl ?_
        refine aw_bipush d_Ve_verify_96 ⟨by decide, by decide⟩ (by decide) ?_
        refine ax_aald (b := 26) d_Ve_verify_98 ⟨by rw [(k_13 S)]; decide, by rw [(k_13 S)]; decide⟩ (by omega) (by rw [n_13 S]; omega) (r_13_6 S) ?_
        refine aw_aload_n d_Ve_verify_99 rfl rfl ?_
        refine ax_getR (b := 173) d_Ve_verify_100 fd_Ve_20 (k_170 S) (r_170_2 S) ?_
        refine aw_aload_n d_Ve_verify_103 rfl rfl ?_
        refine ax_getIe (x := 48) d_Ve_verify_104 fd_Ve_52 (k_34 S) (Eq.trans (G9.1 34 7 (by omega)) (pc_34_7 SD.2.1)) ?_
        refine ax_V (st := []) (as := [vr 173, vi 48]) (b := 26) (v := none) (h' := sD h (byBecome I9 26 27 174 48) L9) d_Ve_verify_107 cs_Ve_verify_107 (k_26 S) (c_By_become (ks S (i := 6) (by decide)) ⟨k_173 S, r_173_0 S, k_174 S, by decide, by decide, by decide⟩ (by rw [H9.1, nks S (i := 6) (by decide), n_174 S]; omega)) rfl rfl rfl ?_
        show AW l G M_Ve_verify P 110 [(4, vr 24), (0, vr 170), (1, vr 13), (2, vr 34), (3, vi (-1))] [] (sD h (byBecome I9 26 27 174 48) L9)
        have fA : FC (fun a => a = 26 ∨ a = 27) I9 L9 (byBecome I9 26 27 174 48) L9 := FC.become (by omega) (by omega)
        have GA : FC (fun a => a = 26 ∨ a = 27 ∨ 36 ≤ a ∧ a ≤ 174 ∧ a ≠ 43) I L (byBecome I9 26 27 174 48) L9 := G9.tr fA (by intro a x; omega)
        have hA : HB (byBecome I9 26 27 174 48) 26 27 48 (vfC 1 (byAt I 16 17) (byAt I 24 25) (muV I (-1))) := ⟨(HB.become (b2 := 173) (by decide) (by rw [H9.1]; omega)).1, fun z x y => ((HB.become (b2 := 173) (by decide) (by rw [H9.1]; omega)).2 z x y).trans (H9.2 z x y)⟩
        refine aw_aload_n d_Ve_verify_110 rfl rfl ?_
        refine ax_getR (b := 173) d_Ve_verify_111 fd_Ve_20 (k_170 S) (r_170_2 S) ?_
        refine aw_aload d_Ve_verify_114 rfl ?_
        refine aw_aload_n d_Ve_verify_116 rfl rfl ?_
        refine ax_getIe (x := 48) d_Ve_verify_117 fd_Ve_52 (k_34 S) (Eq.trans (GA.1 34 7 (by omega)) (pc_34_7 SD.2.1)) ?_
        refine ax_Vr (st := []) (as := [vr 24, vi 48]) (b := 173) d_Ve_verify_120 cs_Ve_verify_120 (k_173 S) (c_By_matches ⟨k_173 S, r_173_0 S, k_174 S, by decide, by decide, by decide⟩ (ks S (i := 5) (by decide)) (by rw [fA.1 173 1 (by omega), H9.1, GA.1 24 1 (by omega), n_174 S, nks S (i := 5) (by decide)]; omega) (by decide)) rfl rfl rfl (fun u_120 q_120 => ?_)
        obtain ⟨mo, mm⟩ := q_120
        have mm2 : u_120 = 1 ↔ ∀ j, 0 ≤ j → j < 48 → vfC 1 (byAt I 16 17) (byAt I 24 25) (muV I (-1)) j = byAt I 24 25 j := mm.trans ⟨fun z j x y => by rw [← H9.2 j x y, ← byAt_fc fA (by omega) (by omega), z j x y]; exact byAt_fc GA (by omega) (by omega), fun z j x y => by rw [byAt_fc fA (by omega) (by omega), H9.2 j x y, z j x y]; exact (byAt_fc GA (by omega) (by omega)).symm⟩
        show AW l G M_Ve_verify P 123 [(4, vr 24), (0, vr 170), (1, vr 13), (2, vr 34), (3, vi (-1))] [vi u_120] (sD h (byBecome I9 26 27 174 48) L9)
        exact aw_zret d_Ve_verify_123 rfl (by omega) (hP _ _ (Or.inl ⟨fun _ => ⟨ok_65, okA⟩, _, _, _, Or.inr ⟨pre_, GA, hA, mo, mm2⟩, rfl, rfl⟩))
      · skip
        refine aw_iconst d_Ve_verify_36 ⟨by decide, by decide⟩ ?_
        exact aw_zret d_Ve_verify_37 rfl ⟨by decide, by decide⟩ (hP _ _ (Or.inl ⟨fun z => absurd z (fun z => by rcases q2 with y | y; exact absurd y.1 (by omega); exact y.2 z.2.2), _, _, _, Or.inl ⟨fun z => by rcases q2 with y | y; exact absurd y.1 (by omega); exact y.2 z.2.2, rfl, F2⟩, rfl, rfl⟩))
set_option maxHeartbeats 800000 in
set_option maxRecDepth 100000 in
theorem c_Ve_verify20 {l : Launch} {G : a_G} {h : Hp} {I L : Nat → Int → Int} (S : Shp h) (hfl : l.flags = flags0) (rm : hX h + 1 ≤ a_NX ∧ hU h + 6 ≤ a_US) (SD : Std I L) (cb : CB I) : AW l G M_Ve_verify (DvR h I L (vfPre 2 (byAt I 24 25) (I 24 1) → vfOk 2 (byAt I 16 17) (byAt I 24 25)) (fun v I' L' => (¬ vfPre 2 (byAt I 24 25) (I 24 1) ∧ v = 0 ∧ FC (fun a => 36 ≤ a ∧ a ≤ 174 ∧ a ≠ 43) I L I' L') ∨ (vfPre 2 (byAt I 24 25) (I 24 1) ∧ FC (fun a => a = 26 ∨ a = 27 ∨ 36 ≤ a ∧ a ≤ 174 ∧ a ≠ 43) I L I' L' ∧ HB I' 26 27 (pC 2) (vfC 2 (byAt I 16 17) (byAt I 24 25) (muV I (0))) ∧ (v = 0 ∨ v = 1) ∧ (v = 1 ↔ ∀ j, 0 ≤ j → j < pC 2 → vfC 2 (byAt I 16 17) (byAt I 24 25) (muV I (0)) j = byAt I 24 25 j)))) 0 (a_ar 0 [vr 170, vr 13, vr 35, vi 0]) [] (sD h I L) := by
  suffices key : ∀ P : a_R → Hp → Prop, (∀ r_ h2_, DvR h I L (vfPre 2 (byAt I 24 25) (I 24 1) → vfOk 2 (byAt I 16 17) (byAt I 24 25)) (fun v I' L' => (¬ vfPre 2 (byAt I 24 25) (I 24 1) ∧ v = 0 ∧ FC (fun a => 36 ≤ a ∧ a ≤ 174 ∧ a ≠ 43) I L I' L') ∨ (vfPre 2 (byAt I 24 25) (I 24 1) ∧ FC (fun a => a = 26 ∨ a = 27 ∨ 36 ≤ a ∧ a ≤ 174 ∧ a ≠ 43) I L I' L' ∧ HB I' 26 27 (pC 2) (vfC 2 (byAt I 16 17) (byAt I 24 25) (muV I (0))) ∧ (v = 0 ∨ v = 1) ∧ (v = 1 ↔ ∀ j, 0 ≤ j → j < pC 2 → vfC 2 (byAt I 16 17) (byAt I 24 25) (muV I (0)) j = byAt I 24 25 j))) r_ h2_ → P r_ h2_) → AW l G M_Ve_verify P 0 [(0, vr 170), (1, vr 13), (2, vr 35), (3, vi 0)] [] (sD h I L) from key _ (fun _ _ q => q)
  intro P hP
  have cb1 : 0 ≤ I 16 1 ∧ I 16 1 ≤ 8192 := cb.1 1 (by decide)
  have cb5 : 0 ≤ I 24 1 ∧ I 24 1 ≤ 8192 := cb.1 5 (by decide)
  refine aw_aload_n d_Ve_verify_0 rfl rfl ?_
  refine aw_iconst d_Ve_verify_1 ⟨by decide, by decide⟩ ?_
  refine ax_aald (b := 24) d_Ve_verify_2 ⟨by rw [(k_13 S)]; decide, by rw [(k_13 S)]; decide⟩ (by omega) (by rw [n_13 S]; omega) (r_13_5 S) ?_
  refine aw_astore (lv' := [(4, vr 24), (0, vr 170), (1, vr 13), (2, vr 35), (3, vi 0)]) d_Ve_verify_3 (by decide) rfl ?_
  refine aw_aload d_Ve_verify_5 rfl ?_
  refine ax_getIe (x := I 24 1) d_Ve_verify_7 fd_Ve_27 (k_24 S) (rfl) ?_
  refine aw_aload_n d_Ve_verify_10 rfl rfl ?_
  refine ax_getIe (x := 4627) d_Ve_verify_11 fd_Ve_31 (k_35 S) (pc_35_15 SD.2.1) ?_
  refine aw_icmp_ne (tgt := 36) d_Ve_verify_14 (by decide) (fun c_14 => ?_) (fun c_14 => ?_)
  · skip
    refine aw_iconst d_Ve_verify_36 ⟨by decide, by decide⟩ ?_
    exact aw_zret d_Ve_verify_37 rfl ⟨by decide, by decide⟩ (hP _ _ (Or.inl ⟨fun z => absurd z (fun z => by first | (have z1 : I 24 1 = 4627 := z.1; omega) | (have := rr.2 z.2.1; omega)), _, _, _, Or.inl ⟨fun z => by first | (have z1 : I 24 1 = 4627 := z.1; omega) | (have := rr.2 z.2.1; omega), rfl, FC.rfl'⟩, rfl, rfl⟩))
  · skip
    refine aw_aload d_Ve_verify_17 rfl ?_
    refine aw_aload_n d_Ve_verify_19 rfl rfl ?_
    refine ax_Sr (st := []) (as := [vr 24, vr 35]) d_Ve_verify_20 cs_Ve_verify_20 (c_Ve_hintsStand2 S SD.2.1 (by omega)) rfl rfl rfl (fun u_20 q_20 => ?_)
    obtain ⟨ro, rr⟩ := q_20
    show AW l G M_Ve_verify P 23 [(4, vr 24), (0, vr 170), (1, vr 13), (2, vr 35), (3, vi 0)] [vi u_20] (sD h I L)
    refine aw_if_eq (tgt := 36) d_Ve_verify_23 (by decide) (fun c_23 => ?_) (fun c_23 => ?_)
    · skip
      refine aw_iconst d_Ve_verify_36 ⟨by decide, by decide⟩ ?_
      exact aw_zret d_Ve_verify_37 rfl ⟨by decide, by decide⟩ (hP _ _ (Or.inl ⟨fun z => absurd z (fun z => by first | (have z1 : I 24 1 = 4627 := z.1; omega) | (have := rr.2 z.2.1; omega)), _, _, _, Or.inl ⟨fun z => by first | (have z1 : I 24 1 = 4627 := z.1; omega) | (have := rr.2 z.2.1; omega), rfl, FC.rfl'⟩, rfl, rfl⟩))
    · skip
      refine aw_aload_n d_Ve_verify_26 rfl rfl ?_
      refine aw_aload d_Ve_verify_27 rfl ?_
      refine aw_aload_n d_Ve_verify_29 rfl rfl ?_
      refine ax_Vr (st := []) (as := [vr 24, vr 35]) (b := 170) d_Ve_verify_30 cs_Ve_verify_30 (k_170 S) (c_Ve_answersHide2 S SD (by omega)) rfl rfl rfl (fun u_30 q_30 => ?_)
      obtain ⟨v2, K2⟩ := u_30
      obtain ⟨f2, q2⟩ := q_30
      dsimp only at f2 q2
      have F2 : FC (fun a => 36 ≤ a ∧ a ≤ 174 ∧ a ≠ 43) I L K2 L := f2.mono (by intro a x; omega)
      show AW l G M_Ve_verify P 33 [(4, vr 24), (0, vr 170), (1, vr 13), (2, vr 35), (3, vi 0)] [vi v2] (sD h K2 L)
      refine aw_if_ne (tgt := 38) d_Ve_verify_33 (by decide) (fun c_33 => ?_) (fun c_33 => ?_)
      · skip
        refine aw_aload_n d_Ve_verify_38 rfl rfl ?_
        refine aw_aload_n d_Ve_verify_39 rfl rfl ?_
        refine aw_iload_n d_Ve_verify_40 rfl rfl ?_
        have g2 := q2.resolve_right (fun z => c_33 z.1)
        have pre_ : vfPre 2 (byAt I 24 25) (I 24 1) := ⟨by show I 24 1 = 4627; omega, rr.1 (by omega), g2.2.1⟩
        refine ax_Vr (st := []) (as := [vr 13, vi 0]) (b := 170) d_Ve_verify_41 cs_Ve_verify_41 (k_170 S) (c_Ve_digestMessage0 S (SD.fc F2 (by intro a x; omega)) ⟨fun s hs => by rw [F2.1 _ 1 (by omega)]; exact cb.1 s hs, by rw [F2.1 _ 1 (by omega)]; exact cb.2⟩) rfl rfl rfl (fun u_41 q_41 => ?_)
        obtain ⟨I3, L3⟩ := u_41
        obtain ⟨F3, H3⟩ := q_41
        dsimp only at F3 H3
        have G3 : FC (fun a => 36 ≤ a ∧ a ≤ 174 ∧ a ≠ 43) I L I3 L3 := F2.tr F3 (by intro a x; omega)
        have H3 : HB I3 137 138 64 (muV I (0)) := ⟨H3.1, fun z x y => (H3.2 z x y).trans (by unfold muV muC; rw [F2.1 16 1 (by omega), F2.1 22 1 (by omega), F2.1 20 1 (by omega), show (fun k => byAt K2 16 17 (0 + k)) = (fun k => byAt I 16 17 (0 + k)) from funext (fun k => byAt_fc F2 (by omega) (by omega)), show (fun k => byAt K2 22 23 (0 + k)) = (fun k => byAt I 22 23 (0 + k)) from funext (fun k => byAt_fc F2 (by omega) (by omega)), show (fun k => byAt K2 20 21 (0 + k)) = (fun k => byAt I 20 21 (0 + k)) from funext (fun k => byAt_fc F2 (by omega) (by omega))])⟩
        show AW l G M_Ve_verify P 44 [(4, vr 24), (0, vr 170), (1, vr 13), (2, vr 35), (3, vi 0)] [] (sD h I3 L3)
        refine aw_aload_n d_Ve_verify_44 rfl rfl ?_
        refine ax_getR (b := 36) d_Ve_verify_45 fd_Ve_23 (k_170 S) (r_170_0 S) ?_
        refine ax_getR (b := 139) d_Ve_verify_48 fd_Ve_47 (k_36 S) (r_36_11 S) ?_
        refine aw_aload d_Ve_verify_51 rfl ?_
        refine aw_aload_n d_Ve_verify_53 rfl rfl ?_
        refine ax_getIe (x := 64) d_Ve_verify_54 fd_Ve_52 (k_35 S) (Eq.trans (G3.1 35 7 (by omega)) (pc_35_7 SD.2.1)) ?_
        refine ax_V (st := []) (as := [vr 24, vi 64]) (b := 139) (v := none) (h' := sD h (byBecome I3 139 140 25 64) L3) d_Ve_verify_57 cs_Ve_verify_57 (k_139 S) (c_By_become ⟨k_139 S, r_139_0 S, k_140 S, by decide, by decide, by decide⟩ (ks S (i := 5) (by decide)) (by rw [G3.1 24 1 (by omega), nks S (i := 5) (by decide), n_140 S]; omega)) rfl rfl rfl ?_
        show AW l G M_Ve_verify P 60 [(4, vr 24), (0, vr 170), (1, vr 13), (2, vr 35), (3, vi 0)] [] (sD h (byBecome I3 139 140 25 64) L3)
        have f5 : FC (fun a => a = 139 ∨ a = 140) I3 L3 (byBecome I3 139 140 25 64) L3 := FC.become (by omega) (by omega)
        have G5 : FC (fun a => 36 ≤ a ∧ a ≤ 174 ∧ a ≠ 43) I L (byBecome I3 139 140 25 64) L3 := G3.tr f5 (by intro a x; omega)
        have h5 : HB (byBecome I3 139 140 25 64) 139 140 64 (byAt I 24 25) := by rw [show byAt I 24 25 = byAt I3 24 25 from funext (fun x => (byAt_fc G3 (by omega) (by omega)).symm)]; exact HB.become (by decide) (by rw [G3.1 24 1 (by omega)]; omega)
        have eB : blS (fun k => byAt (byBecome I3 139 140 25 64) 139 140 (0 + k)) ((byBecome I3 139 140 25 64) 139 1) = vfBs 2 (byAt I 24 25) := by rw [h5.1]; exact blS_congr (fun k hk => by rw [Int.zero_add, h5.2 k (by omega) hk])
        refine aw_aload_n d_Ve_verify_60 rfl rfl ?_
        refine ax_getR (b := 36) d_Ve_verify_61 fd_Ve_23 (k_170 S) (r_170_0 S) ?_
        refine aw_aload_n d_Ve_verify_64 rfl rfl ?_
        refine ax_VtT (st := []) (as := [vr 35]) (b := 36) d_Ve_verify_65 cs_Ve_verify_65 (k_36 S) (c_Be_castBall2 S hfl rm (SD.fc G5 (by intro a x; omega)) (by rw [h5.1]; omega)) rfl rfl rfl (fun ok_65 I_65 L_65 q_65 => ?_) (fun no_65 I_65 L_65 q_65 => at_leave rfl (hP _ _ (Or.inr ⟨fun z => no_65 (by rw [eB]; exact (z pre_).1), I_65, L_65, (G5.frc (by intro a x; omega)).tr q_65, rfl, rfl⟩)))
        obtain ⟨F6, b6⟩ := q_65
        rw [eB] at ok_65 b6
        have b6 : eqQ (I_65 135) (vfB 2 (byAt I 24 25)) := b6
        have G6 : FC (fun a => 36 ≤ a ∧ a ≤ 174 ∧ a ≠ 43) I L I_65 L_65 := G5.tr F6 (by intro a x; omega)
        show AW l G M_Ve_verify P 68 [(4, vr 24), (0, vr 170), (1, vr 13), (2, vr 35), (3, vi 0)] [] (sD h I_65 L_65)
        refine aw_aload_n d_Ve_verify_68 rfl rfl ?_
        refine aw_aload_n d_Ve_verify_69 rfl rfl ?_
        refine aw_iconst d_Ve_verify_70 ⟨by decide, by decide⟩ ?_
        refine ax_aald (b := 16) d_Ve_verify_71 ⟨by rw [(k_13 S)]; decide, by rw [(k_13 S)]; decide⟩ (by omega) (by rw [n_13 S]; omega) (r_13_1 S) ?_
        refine aw_aload_n d_Ve_verify_72 rfl rfl ?_
        refine ax_VtT (st := []) (as := [vr 16, vr 35]) (b := 170) d_Ve_verify_73 cs_Ve_verify_73 (k_170 S) (c_Ve_computeImages2 (B := vfB 2 (byAt I 24 25)) (Z := (vfZ 2 (byAt I 24 25))) S hfl rm (SD.fc G6 (by intro a x; omega)) (by rw [G6.1 16 1 (by omega)]; omega) b6 vfB_in (fun m a b j x y => (F6.1 _ j (by omega)).trans ((f5.1 _ j (by omega)).trans ((F3.1 _ j (by omega)).trans (g2.2.2 m a b j x y)))) (fun _ _ _ => vfZ_in)) rfl rfl rfl (fun ok_73 I_73 L_73 q_73 => ?_) (fun no_73 I_73 L_73 q_73 => at_leave rfl (hP _ _ (Or.inr ⟨fun z => no_73 (by rw [b0_eq, show byAt I_65 16 17 = byAt I 16 17 from funext (fun x => byAt_fc G6 (by omega) (by omega))]; exact (z pre_).2), I_73, L_73, (G6.frc (by intro a x; omega)).tr q_73, rfl, rfl⟩)))
        obtain ⟨F7, w7⟩ := q_73
        rw [b0_eq, show byAt I_65 16 17 = byAt I 16 17 from funext (fun x => byAt_fc G6 (by omega) (by omega))] at ok_73
        have okA : sgOk 2 (byAt I 16 17) := ok_73
        have w7 : ∀ m, 0 ≤ m → m < 8 → eqQ (I_73 (127 + m.toNat)) (vfW 2 (byAt I 16 17) (byAt I 24 25) m) := fun m a b j x y => by have z := w7 m a b j x y; rw [b0_eq, show byAt I_65 16 17 = byAt I 16 17 from funext (fun x => byAt_fc G6 (by omega) (by omega))] at z; exact z
        have G7 : FC (fun a => 36 ≤ a ∧ a ≤ 174 ∧ a ≠ 43) I L I_73 L_73 := G6.tr F7 (by intro a x; omega)
        show AW l G M_Ve_verify P 76 [(4, vr 24), (0, vr 170), (1, vr 13), (2, vr 35), (3, vi 0)] [] (sD h I_73 L_73)
        refine aw_aload_n d_Ve_verify_76 rfl rfl ?_
        refine aw_aload d_Ve_verify_77 rfl ?_
        refine aw_aload_n d_Ve_verify_79 rfl rfl ?_
        have e24 : byAt I_73 24 25 = byAt I 24 25 := funext (fun x => byAt_fc G7 (by omega) (by omega))
        refine ax_Vr (st := []) (as := [vr 24, vr 35]) (b := 170) d_Ve_verify_80 cs_Ve_verify_80 (k_170 S) (c_Ve_packHighs2 (W := vfW 2 (byAt I 16 17) (byAt I 24 25)) S (SD.fc G7 (by intro a x; omega)) (by rw [G7.1 24 1 (by omega)]; omega) (by rw [e24]; exact pre_.2.1) w7 (fun _ _ _ => vfW_in)) rfl rfl rfl (fun u_80 q_80 => ?_)
        obtain ⟨F8, H8⟩ := q_80
        rw [e24] at H8
        have G8 : FC (fun a => 36 ≤ a ∧ a ≤ 174 ∧ a ≠ 43) I L u_80 L_73 := G7.tr F8 (by intro a x; omega)
        have d8 : HB u_80 137 138 64 (muV I (0)) := (((H3.fc f5 (by decide) (by decide)).fc F6 (by decide) (by decide)).fc F7 (by decide) (by decide)).fc F8 (by decide) (by decide)
        show AW l G M_Ve_verify P 83 [(4, vr 24), (0, vr 170), (1, vr 13), (2, vr 35), (3, vi 0)] [] (sD h u_80 L_73)
        refine aw_aload_n d_Ve_verify_83 rfl rfl ?_
        refine ax_getR (b := 36) d_Ve_verify_84 fd_Ve_23 (k_170 S) (r_170_0 S) ?_
        refine aw_aload_n d_Ve_verify_87 rfl rfl ?_
        refine aw_aload_n d_Ve_verify_88 rfl rfl ?_
        refine ax_getR (b := 173) d_Ve_verify_89 fd_Ve_20 (k_170 S) (r_170_2 S) ?_
        refine ax_Vr (st := []) (as := [vr 35, vr 173]) (b := 36) d_Ve_verify_92 cs_Ve_verify_92 (k_36 S) (c_Be_hashHighs2 S (SD.fc G8 (by intro a x; omega)) ⟨k_173 S, r_173_0 S, k_174 S, by decide, by decide, by decide⟩ (by decide) (by rw [n_174 S, H8.1, d8.1]; omega)) rfl rfl rfl (fun u_92 q_92 => ?_)
        obtain ⟨I9, L9⟩ := u_92
        obtain ⟨F9, a9, b9⟩ := q_92
        dsimp only at F9 a9 b9
        rw [H8.1, hhS_congr (gd' := (muV I (0))) (gp' := hvB (byAt I 24 25) (sO3 2) (pW 2) (pG2 2) (sHs 2) (sHb 2) (32 * (sHb 2 : Int)) (vfW 2 (byAt I 16 17) (byAt I 24 25))) (fun k hk => by rw [Int.zero_add, d8.2 k (by omega) (by omega)]) (fun k hk => by rw [Int.zero_add, H8.2 k (by omega) (by omega)]; rfl)] at b9
        have G9 : FC (fun a => 36 ≤ a ∧ a ≤ 174 ∧ a ≠ 43) I L I9 L9 := G8.tr F9 (by intro a x; omega)
        have H9 : HB I9 173 174 64 (vfC 2 (byAt I 16 17) (byAt I 24 25) (muV I (0))) := ⟨a9, b9⟩
        show AW l G M_Ve_verify P 95 [(4, vr 24), (0, vr 170), (1, vr 13), (2, vr 35), (3, vi 0)] [] (sD h I9 L9)
        refine aw_aload_n d_Ve_verify_95 rfl rfl ?_
        refine aw_bipush d_Ve_verify_96 ⟨by decide, by decide⟩ (by decide) ?_
        refine ax_aald (b := 26) d_Ve_verify_98 ⟨by rw [(k_13 S)]; decide, by rw [(k_13 S)]; decide⟩ (by omega) (by rw [n_13 S]; omega) (r_13_6 S) ?_
        refine aw_aload_n d_Ve_verify_99 rfl rfl ?_
        refine ax_getR (b := 173) d_Ve_verify_100 fd_Ve_20 (k_170 S) (r_170_2 S) ?_
        refine aw_aload_n d_Ve_verify_103 rfl rfl ?_
        refine ax_getIe (x := 64) d_Ve_verify_104 fd_Ve_52 (k_35 S) (Eq.trans (G9.1 35 7 (by omega)) (pc_35_7 SD.2.1)) ?_
        refine ax_V (st := []) (as := [vr 173, vi 64]) (b := 26) (v := none) (h' := sD h (byBecome I9 26 27 174 64) L9) d_Ve_verify_107 cs_Ve_verify_107 (k_26 S) (c_By_become (ks S (i := 6) (by decide)) ⟨k_173 S, r_173_0 S, k_174 S, by decide, by decide, by decide⟩ (by rw [H9.1, nks S (i := 6) (by decide), n_174 S]; omega)) rfl rfl rfl ?_
        show AW l G M_Ve_verify P 110 [(4, vr 24), (0, vr 170), (1, vr 13), (2, vr 35), (3, vi 0)] [] (sD h (byBecome I9 26 27 174 64) L9)
        have fA : FC (fun a => a = 26 ∨ a = 27) I9 L9 (byBecome I9 26 27 174 64) L9 := FC.become (by omega) (by omega)
        have GA : FC (fun a => a = 26 ∨ a = 27 ∨ 36 ≤ a ∧ a ≤ 174 ∧ a ≠ 43) I L (byBecome I9 26 27 174 64) L9 := G9.tr fA (by intro a x; omega)
        have hA : HB (byBecome I9 26 27 174 64) 26 27 64 (vfC 2 (byAt I 16 17) (byAt I 24 25) (muV I (0))) := ⟨(HB.become (b2 := 173) (by decide) (by rw [H9.1]; omega)).1, fun z x y => ((HB.become (b2 := 173) (by decide) (by rw [H9.1]; omega)).2 z x y).trans (H9.2 z x y)⟩
        refine aw_aload_n d_Ve_verify_110 rfl rfl ?_
        refine ax_getR (b := 173) d_Ve_verify_111 fd_Ve_20 (k_170 S) (r_170_2 S) ?_
        refine aw_aload d_Ve_verify_114 rfl ?_
        refine aw_aload_n d_Ve_verify_116 rfl rfl ?_
        refine ax_getIe (x := 64) d_Ve_verify_117 fd_Ve_52 (k_35 S) (Eq.trans (GA.1 35 7 (by omega)) (pc_35_7 SD.2.1)) ?_
        refine ax_Vr (st := []) (as := [vr 24, vi 64]) (b := 173) d_Ve_verify_120 cs_Ve_verify_120 (k_173 S) (c_By_matches ⟨k_173 S, r_173_0 S, k_174 S, by decide, by decide, by decide⟩ (ks S (i := 5) (by decide)) (by rw [fA.1 173 1 (by omega), H9.1, GA.1 24 1 (by omega), n_174 S, nks S (i := 5) (by decide)]; omega) (by decide)) rfl rfl rfl (fun u_120 q_120 => ?_)
        obtain ⟨mo, mm⟩ := q_120
        have mm2 : u_120 = 1 ↔ ∀ j, 0 ≤ j → j < 64 → vfC 2 (byAt I 16 17) (byAt I 24 25) (muV I (0)) j = byAt I 24 25 j := mm.trans ⟨fun z j x y => by rw [← H9.2 j x y, ← byAt_fc fA (by omega) (by omega), z j x y]; exact byAt_fc GA (by omega) (by omega), fun z j x y => by rw [byAt_fc fA (by omega) (by omega), H9.2 j x y, z j x y]; exact (byAt_fc GA (by omega) (by omega)).symm⟩
        show AW l G M_Ve_verify P 123 [(4, vr 24), (0, vr 170), (1, vr 13), (2, vr 35), (3, vi 0)] [vi u_120] (sD h (byBecome I9 26 27 174 64) L9)
        exact aw_zret d_Ve_verify_123 rfl (by omega) (hP _ _ (Or.inl ⟨fun _ => ⟨ok_65, okA⟩, _, _, _, Or.inr ⟨pre_, GA, hA, mo, mm2⟩, rfl, rfl⟩))
      · skip
        refine aw_iconst d_Ve_verify_36 ⟨by decide, by decide⟩ ?_
        exact aw_zret d_Ve_verify_37 rfl ⟨by decide, by decide⟩ (hP _ _ (Or.inl ⟨fun z => absurd z (fun z => by rcases q2 with y | y; exact absurd y.1 (by omega); exact y.2 z.2.2), _, _, _, Or.inl ⟨fun z => by rcases q2 with y | y; exact absurd y.1 (by omega); exact y.2 z.2.2, rfl, F2⟩, rfl, rfl⟩))
set_option maxHeartbeats 800000 in
set_option maxRecDepth 100000 in
theorem c_Ve_verify2N {l : Launch} {G : a_G} {h : Hp} {I L : Nat → Int → Int} (S : Shp h) (hfl : l.flags = flags0) (rm : hX h + 1 ≤ a_NX ∧ hU h + 6 ≤ a_US) (SD : Std I L) (cb : CB I) : AW l G M_Ve_verify (DvR h I L (vfPre 2 (byAt I 24 25) (I 24 1) → vfOk 2 (byAt I 16 17) (byAt I 24 25)) (fun v I' L' => (¬ vfPre 2 (byAt I 24 25) (I 24 1) ∧ v = 0 ∧ FC (fun a => 36 ≤ a ∧ a ≤ 174 ∧ a ≠ 43) I L I' L') ∨ (vfPre 2 (byAt I 24 25) (I 24 1) ∧ FC (fun a => a = 26 ∨ a = 27 ∨ 36 ≤ a ∧ a ≤ 174 ∧ a ≠ 43) I L I' L' ∧ HB I' 26 27 (pC 2) (vfC 2 (byAt I 16 17) (byAt I 24 25) (muV I (-1))) ∧ (v = 0 ∨ v = 1) ∧ (v = 1 ↔ ∀ j, 0 ≤ j → j < pC 2 → vfC 2 (byAt I 16 17) (byAt I 24 25) (muV I (-1)) j = byAt I 24 25 j)))) 0 (a_ar 0 [vr 170, vr 13, vr 35, vi (-1)]) [] (sD h I L) := by
  suffices key : ∀ P : a_R → Hp → Prop, (∀ r_ h2_, DvR h I L (vfPre 2 (byAt I 24 25) (I 24 1) → vfOk 2 (byAt I 16 17) (byAt I 24 25)) (fun v I' L' => (¬ vfPre 2 (byAt I 24 25) (I 24 1) ∧ v = 0 ∧ FC (fun a => 36 ≤ a ∧ a ≤ 174 ∧ a ≠ 43) I L I' L') ∨ (vfPre 2 (byAt I 24 25) (I 24 1) ∧ FC (fun a => a = 26 ∨ a = 27 ∨ 36 ≤ a ∧ a ≤ 174 ∧ a ≠ 43) I L I' L' ∧ HB I' 26 27 (pC 2) (vfC 2 (byAt I 16 17) (byAt I 24 25) (muV I (-1))) ∧ (v = 0 ∨ v = 1) ∧ (v = 1 ↔ ∀ j, 0 ≤ j → j < pC 2 → vfC 2 (byAt I 16 17) (byAt I 24 25) (muV I (-1)) j = byAt I 24 25 j))) r_ h2_ → P r_ h2_) → AW l G M_Ve_verify P 0 [(0, vr 170), (1, vr 13), (2, vr 35), (3, vi (-1))] [] (sD h I L) from key _ (fun _ _ q => q)
  intro P hP
  have cb1 : 0 ≤ I 16 1 ∧ I 16 1 ≤ 8192 := cb.1 1 (by decide)
  have cb5 : 0 ≤ I 24 1 ∧ I 24 1 ≤ 8192 := cb.1 5 (by decide)
  refine aw_aload_n d_Ve_verify_0 rfl rfl ?_
  refine aw_iconst d_Ve_verify_1 ⟨by decide, by decide⟩ ?_
  refine ax_aald (b := 24) d_Ve_verify_2 ⟨by rw [(k_13 S)]; decide, by rw [(k_13 S)]; decide⟩ (by omega) (by rw [n_13 S]; omega) (r_13_5 S) ?_
  refine aw_astore (lv' := [(4, vr 24), (0, vr 170), (1, vr 13), (2, vr 35), (3, vi (-1))]) d_Ve_verify_3 (by decide) rfl ?_
  refine aw_aload d_Ve_verify_5 rfl ?_
  refine ax_getIe (x := I 24 1) d_Ve_verify_7 fd_Ve_27 (k_24 S) (rfl) ?_
  refine aw_aload_n d_Ve_verify_10 rfl rfl ?_
  refine ax_getIe (x := 4627) d_Ve_verify_11 fd_Ve_31 (k_35 S) (pc_35_15 SD.2.1) ?_
  refine aw_icmp_ne (tgt := 36) d_Ve_verify_14 (by decide) (fun c_14 => ?_) (fun c_14 => ?_)
  · skip
    refine aw_iconst d_Ve_verify_36 ⟨by decide, by decide⟩ ?_
    exact aw_zret d_Ve_verify_37 rfl ⟨by decide, by decide⟩ (hP _ _ (Or.inl ⟨fun z => absurd z (fun z => by first | (have z1 : I 24 1 = 4627 := z.1; omega) | (have := rr.2 z.2.1; omega)), _, _, _, Or.inl ⟨fun z => by first | (have z1 : I 24 1 = 4627 := z.1; omega) | (have := rr.2 z.2.1; omega), rfl, FC.rfl'⟩, rfl, rfl⟩))
  · skip
    refine aw_aload d_Ve_verify_17 rfl ?_
    refine aw_aload_n d_Ve_verify_19 rfl rfl ?_
    refine ax_Sr (st := []) (as := [vr 24, vr 35]) d_Ve_verify_20 cs_Ve_verify_20 (c_Ve_hintsStand2 S SD.2.1 (by omega)) rfl rfl rfl (fun u_20 q_20 => ?_)
    obtain ⟨ro, rr⟩ := q_20
    show AW l G M_Ve_verify P 23 [(4, vr 24), (0, vr 170), (1, vr 13), (2, vr 35), (3, vi (-1))] [vi u_20] (sD h I L)
    refine aw_if_eq (tgt := 36) d_Ve_verify_23 (by decide) (fun c_23 => ?_) (fun c_23 => ?_)
    · skip
      refine aw_iconst d_Ve_verify_36 ⟨by decide, by decide⟩ ?_
      exact aw_zret d_Ve_verify_37 rfl ⟨by decide, by decide⟩ (hP _ _ (Or.inl ⟨fun z => absurd z (fun z => by first | (have z1 : I 24 1 = 4627 := z.1; omega) | (have := rr.2 z.2.1; omega)), _, _, _, Or.inl ⟨fun z => by first | (have z1 : I 24 1 = 4627 := z.1; omega) | (have := rr.2 z.2.1; omega), rfl, FC.rfl'⟩, rfl, rfl⟩))
    · skip
      refine aw_aload_n d_Ve_verify_26 rfl rfl ?_
      refine aw_aload d_Ve_verify_27 rfl ?_
      refine aw_aload_n d_Ve_verify_29 rfl rfl ?_
      refine ax_Vr (st := []) (as := [vr 24, vr 35]) (b := 170) d_Ve_verify_30 cs_Ve_verify_30 (k_170 S) (c_Ve_answersHide2 S SD (by omega)) rfl rfl rfl (fun u_30 q_30 => ?_)
      obtain ⟨v2, K2⟩ := u_30
      obtain ⟨f2, q2⟩ := q_30
      dsimp only at f2 q2
      have F2 : FC (fun a => 36 ≤ a ∧ a ≤ 174 ∧ a ≠ 43) I L K2 L := f2.mono (by intro a x; omega)
      show AW l G M_Ve_verify P 33 [(4, vr 24), (0, vr 170), (1, vr 13), (2, vr 35), (3, vi (-1))] [vi v2] (sD h K2 L)
      refine aw_if_ne (tgt := 38) d_Ve_verify_33 (by decide) (fun c_33 => ?_) (fun c_33 => ?_)
      · skip
        refine aw_aload_n d_Ve_verify_38 rfl rfl ?_
        refine aw_aload_n d_Ve_verify_39 rfl rfl ?_
        refine aw_iload_n d_Ve_verify_40 rfl rfl ?_
        have g2 := q2.resolve_right (fun z => c_33 z.1)
        have pre_ : vfPre 2 (byAt I 24 25) (I 24 1) := ⟨by show I 24 1 = 4627; omega, rr.1 (by omega), g2.2.1⟩
        refine ax_Vr (st := []) (as := [vr 13, vi (-1)]) (b := 170) d_Ve_verify_41 cs_Ve_verify_41 (k_170 S) (c_Ve_digestMessageN S (SD.fc F2 (by intro a x; omega)) ⟨fun s hs => by rw [F2.1 _ 1 (by omega)]; exact cb.1 s hs, by rw [F2.1 _ 1 (by omega)]; exact cb.2⟩) rfl rfl rfl (fun u_41 q_41 => ?_)
        obtain ⟨I3, L3⟩ := u_41
        obtain ⟨F3, H3⟩ := q_41
        dsimp only at F3 H3
        have G3 : FC (fun a => 36 ≤ a ∧ a ≤ 174 ∧ a ≠ 43) I L I3 L3 := F2.tr F3 (by intro a x; omega)
        have H3 : HB I3 137 138 64 (muV I (-1)) := ⟨H3.1, fun z x y => (H3.2 z x y).trans (by unfold muV muC; rw [F2.1 16 1 (by omega), F2.1 22 1 (by omega), F2.1 20 1 (by omega), show (fun k => byAt K2 16 17 (0 + k)) = (fun k => byAt I 16 17 (0 + k)) from funext (fun k => byAt_fc F2 (by omega) (by omega)), show (fun k => byAt K2 22 23 (0 + k)) = (fun k => byAt I 22 23 (0 + k)) from funext (fun k => byAt_fc F2 (by omega) (by omega)), show (fun k => byAt K2 20 21 (0 + k)) = (fun k => byAt I 20 21 (0 + k)) from funext (fun k => byAt_fc F2 (by omega) (by omega))])⟩
        show AW l G M_Ve_verify P 44 [(4, vr 24), (0, vr 170), (1, vr 13), (2, vr 35), (3, vi (-1))] [] (sD h I3 L3)
        refine aw_aload_n d_Ve_verify_44 rfl rfl ?_
        refine ax_getR (b := 36) d_Ve_verify_45 fd_Ve_23 (k_170 S) (r_170_0 S) ?_
        refine ax_getR (b := 139) d_Ve_verify_48 fd_Ve_47 (k_36 S) (r_36_11 S) ?_
        refine aw_aload d_Ve_verify_51 rfl ?_
        refine aw_aload_n d_Ve_verify_53 rfl rfl ?_
        refine ax_getIe (x := 64) d_Ve_verify_54 fd_Ve_52 (k_35 S) (Eq.trans (G3.1 35 7 (by omega)) (pc_35_7 SD.2.1)) ?_
        refine ax_V (st := []) (as := [vr 24, vi 64]) (b := 139) (v := none) (h' := sD h (byBecome I3 139 140 25 64) L3) d_Ve_verify_57 cs_Ve_verify_57 (k_139 S) (c_By_become ⟨k_139 S, r_139_0 S, k_140 S, by decide, by decide, by decide⟩ (ks S (i := 5) (by decide)) (by rw [G3.1 24 1 (by omega), nks S (i := 5) (by decide), n_140 S]; omega)) rfl rfl rfl ?_
        show AW l G M_Ve_verify P 60 [(4, vr 24), (0, vr 170), (1, vr 13), (2, vr 35), (3, vi (-1))] [] (sD h (byBecome I3 139 140 25 64) L3)
        have f5 : FC (fun a => a = 139 ∨ a = 140) I3 L3 (byBecome I3 139 140 25 64) L3 := FC.become (by omega) (by omega)
        have G5 : FC (fun a => 36 ≤ a ∧ a ≤ 174 ∧ a ≠ 43) I L (byBecome I3 139 140 25 64) L3 := G3.tr f5 (by intro a x; omega)
        have h5 : HB (byBecome I3 139 140 25 64) 139 140 64 (byAt I 24 25) := by rw [show byAt I 24 25 = byAt I3 24 25 from funext (fun x => (byAt_fc G3 (by omega) (by omega)).symm)]; exact HB.become (by decide) (by rw [G3.1 24 1 (by omega)]; omega)
        have eB : blS (fun k => byAt (byBecome I3 139 140 25 64) 139 140 (0 + k)) ((byBecome I3 139 140 25 64) 139 1) = vfBs 2 (byAt I 24 25) := by rw [h5.1]; exact blS_congr (fun k hk => by rw [Int.zero_add, h5.2 k (by omega) hk])
        refine aw_aload_n d_Ve_verify_60 rfl rfl ?_
        refine ax_getR (b := 36) d_Ve_verify_61 fd_Ve_23 (k_170 S) (r_170_0 S) ?_
        refine aw_aload_n d_Ve_verify_64 rfl rfl ?_
        refine ax_VtT (st := []) (as := [vr 35]) (b := 36) d_Ve_verify_65 cs_Ve_verify_65 (k_36 S) (c_Be_castBall2 S hfl rm (SD.fc G5 (by intro a x; omega)) (by rw [h5.1]; omega)) rfl rfl rfl (fun ok_65 I_65 L_65 q_65 => ?_) (fun no_65 I_65 L_65 q_65 => at_leave rfl (hP _ _ (Or.inr ⟨fun z => no_65 (by rw [eB]; exact (z pre_).1), I_65, L_65, (G5.frc (by intro a x; omega)).tr q_65, rfl, rfl⟩)))
        obtain ⟨F6, b6⟩ := q_65
        rw [eB] at ok_65 b6
        have b6 : eqQ (I_65 135) (vfB 2 (byAt I 24 25)) := b6
        have G6 : FC (fun a => 36 ≤ a ∧ a ≤ 174 ∧ a ≠ 43) I L I_65 L_65 := G5.tr F6 (by intro a x; omega)
        show AW l G M_Ve_verify P 68 [(4, vr 24), (0, vr 170), (1, vr 13), (2, vr 35), (3, vi (-1))] [] (sD h I_65 L_65)
        refine aw_aload_n d_Ve_verify_68 rfl rfl ?_
        refine aw_aload_n d_Ve_verify_69 rfl rfl ?_
        refine aw_iconst d_Ve_verify_70 ⟨by decide, by decide⟩ ?_
        refine ax_aald (b := 16) d_Ve_verify_71 ⟨by rw [(k_13 S)]; decide, by rw [(k_13 S)]; decide⟩ (by omega) (by rw [n_13 S]; omega) (r_13_1 S) ?_
        refine aw_aload_n d_Ve_verify_72 rfl rfl ?_
        refine ax_VtT (st := []) (as := [vr 16, vr 35]) (b := 170) d_Ve_verify_73 cs_Ve_verify_73 (k_170 S) (c_Ve_computeImages2 (B := vfB 2 (byAt I 24 25)) (Z := (vfZ 2 (byAt I 24 25))) S hfl rm (SD.fc G6 (by intro a x; omega)) (by rw [G6.1 16 1 (by omega)]; omega) b6 vfB_in (fun m a b j x y => (F6.1 _ j (by omega)).trans ((f5.1 _ j (by omega)).trans ((F3.1 _ j (by omega)).trans (g2.2.2 m a b j x y)))) (fun _ _ _ => vfZ_in)) rfl rfl rfl (fun ok_73 I_73 L_73 q_73 => ?_) (fun no_73 I_73 L_73 q_73 => at_leave rfl (hP _ _ (Or.inr ⟨fun z => no_73 (by rw [b0_eq, show byAt I_65 16 17 = byAt I 16 17 from funext (fun x => byAt_fc G6 (by omega) (by omega))]; exact (z pre_).2), I_73, L_73, (G6.frc (by intro a x; omega)).tr q_73, rfl, rfl⟩)))
        obtain ⟨F7, w7⟩ := q_73
        rw [b0_eq, show byAt I_65 16 17 = byAt I 16 17 from funext (fun x => byAt_fc G6 (by omega) (by omega))] at ok_73
        have okA : sgOk 2 (byAt I 16 17) := ok_73
        have w7 : ∀ m, 0 ≤ m → m < 8 → eqQ (I_73 (127 + m.toNat)) (vfW 2 (byAt I 16 17) (byAt I 24 25) m) := fun m a b j x y => by have z := w7 m a b j x y; rw [b0_eq, show byAt I_65 16 17 = byAt I 16 17 from funext (fun x => byAt_fc G6 (by omega) (by omega))] at z; exact z
        have G7 : FC (fun a => 36 ≤ a ∧ a ≤ 174 ∧ a ≠ 43) I L I_73 L_73 := G6.tr F7 (by intro a x; omega)
        show AW l G M_Ve_verify P 76 [(4, vr 24), (0, vr 170), (1, vr 13), (2, vr 35), (3, vi (-1))] [] (sD h I_73 L_73)
        refine aw_aload_n d_Ve_verify_76 rfl rfl ?_
        refine aw_aload d_Ve_verify_77 rfl ?_
        refine aw_aload_n d_Ve_verify_79 rfl rfl ?_
        have e24 : byAt I_73 24 25 = byAt I 24 25 := funext (fun x => byAt_fc G7 (by omega) (by omega))
        refine ax_Vr (st := []) (as := [vr 24, vr 35]) (b := 170) d_Ve_verify_80 cs_Ve_verify_80 (k_170 S) (c_Ve_packHighs2 (W := vfW 2 (byAt I 16 17) (byAt I 24 25)) S (SD.fc G7 (by intro a x; omega)) (by rw [G7.1 24 1 (by omega)]; omega) (by rw [e24]; exact pre_.2.1) w7 (fun _ _ _ => vfW_in)) rfl rfl rfl (fun u_80 q_80 => ?_)
        obtain ⟨F8, H8⟩ := q_80
        rw [e24] at H8
        have G8 : FC (fun a => 36 ≤ a ∧ a ≤ 174 ∧ a ≠ 43) I L u_80 L_73 := G7.tr F8 (by intro a x; omega)
        have d8 : HB u_80 137 138 64 (muV I (-1)) := (((H3.fc f5 (by decide) (by decide)).fc F6 (by decide) (by decide)).fc F7 (by decide) (by decide)).fc F8 (by decide) (by decide)
        show AW l G M_Ve_verify P 83 [(4, vr 24), (0, vr 170), (1, vr 13), (2, vr 35), (3, vi (-1))] [] (sD h u_80 L_73)
        refine aw_aload_n d_Ve_verify_83 rfl rfl ?_
        refine ax_getR (b := 36) d_Ve_verify_84 fd_Ve_23 (k_170 S) (r_170_0 S) ?_
        refine aw_aload_n d_Ve_verify_87 rfl rfl ?_
        refine aw_aload_n d_Ve_verify_88 rfl rfl ?_
        refine ax_getR (b := 173) d_Ve_verify_89 fd_Ve_20 (k_170 S) (r_170_2 S) ?_
        refine ax_Vr (st := []) (as := [vr 35, vr 173]) (b := 36) d_Ve_verify_92 cs_Ve_verify_92 (k_36 S) (c_Be_hashHighs2 S (SD.fc G8 (by intro a x; omega)) ⟨k_173 S, r_173_0 S, k_174 S, by decide, by decide, by decide⟩ (by decide) (by rw [n_174 S, H8.1, d8.1]; omega)) rfl rfl rfl (fun u_92 q_92 => ?_)
        obtain ⟨I9, L9⟩ := u_92
        obtain ⟨F9, a9, b9⟩ := q_92
        dsimp only at F9 a9 b9
        rw [H8.1, hhS_congr (gd' := (muV I (-1))) (gp' := hvB (byAt I 24 25) (sO3 2) (pW 2) (pG2 2) (sHs 2) (sHb 2) (32 * (sHb 2 : Int)) (vfW 2 (byAt I 16 17) (byAt I 24 25))) (fun k hk => by rw [Int.zero_add, d8.2 k (by omega) (by omega)]) (fun k hk => by rw [Int.zero_add, H8.2 k (by omega) (by omega)]; rfl)] at b9
        have G9 : FC (fun a => 36 ≤ a ∧ a ≤ 174 ∧ a ≠ 43) I L I9 L9 := G8.tr F9 (by intro a x; omega)
        have H9 : HB I9 173 174 64 (vfC 2 (byAt I 16 17) (byAt I 24 25) (muV I (-1))) := ⟨a9, b9⟩
        show AW l G M_Ve_verify P 95 [(4, vr 24), (0, vr 170), (1, vr 13), (2, vr 35), (3, vi (-1))] [] (sD h I9 L9)
        refine aw_aload_n d_Ve_verify_95 rfl rfl ?_
        refine aw_bipush d_Ve_verify_96 ⟨by decide, by decide⟩ (by decide) ?_
        refine ax_aald (b := 26) d_Ve_verify_98 ⟨by rw [(k_13 S)]; decide, by rw [(k_13 S)]; decide⟩ (by omega) (by rw [n_13 S]; omega) (r_13_6 S) ?_
        refine aw_aload_n d_Ve_verify_99 rfl rfl ?_
        refine ax_getR (b := 173) d_Ve_verify_100 fd_Ve_20 (k_170 S) (r_170_2 S) ?_
        refine aw_aload_n d_Ve_verify_103 rfl rfl ?_
        refine ax_getIe (x := 64) d_Ve_verify_104 fd_Ve_52 (k_35 S) (Eq.trans (G9.1 35 7 (by omega)) (pc_35_7 SD.2.1)) ?_
        refine ax_V (st := []) (as := [vr 173, vi 64]) (b := 26) (v := none) (h' := sD h (byBecome I9 26 27 174 64) L9) d_Ve_verify_107 cs_Ve_verify_107 (k_26 S) (c_By_become (ks S (i := 6) (by decide)) ⟨k_173 S, r_173_0 S, k_174 S, by decide, by decide, by decide⟩ (by rw [H9.1, nks S (i := 6) (by decide), n_174 S]; omega)) rfl rfl rfl ?_
        show AW l G M_Ve_verify P 110 [(4, vr 24), (0, vr 170), (1, vr 13), (2, vr 35), (3, vi (-1))] [] (sD h (byBecome I9 26 27 174 64) L9)
        have fA : FC (fun a => a = 26 ∨ a = 27) I9 L9 (byBecome I9 26 27 174 64) L9 := FC.become (by omega) (by omega)
        have GA : FC (fun a => a = 26 ∨ a = 27 ∨ 36 ≤ a ∧ a ≤ 174 ∧ a ≠ 43) I L (byBecome I9 26 27 174 64) L9 := G9.tr fA (by intro a x; omega)
        have hA : HB (byBecome I9 26 27 174 64) 26 27 64 (vfC 2 (byAt I 16 17) (byAt I 24 25) (muV I (-1))) := ⟨(HB.become (b2 := 173) (by decide) (by rw [H9.1]; omega)).1, fun z x y => ((HB.become (b2 := 173) (by decide) (by rw [H9.1]; omega)).2 z x y).trans (H9.2 z x y)⟩
        refine aw_aload_n d_Ve_verify_110 rfl rfl ?_
        refine ax_getR (b := 173) d_Ve_verify_111 fd_Ve_20 (k_170 S) (r_170_2 S) ?_
        refine aw_aload d_Ve_verify_114 rfl ?_
        refine aw_aload_n d_Ve_verify_116 rfl rfl ?_
        refine ax_getIe (x := 64) d_Ve_verify_117 fd_Ve_52 (k_35 S) (Eq.trans (GA.1 35 7 (by omega)) (pc_35_7 SD.2.1)) ?_
        refine ax_Vr (st := []) (as := [vr 24, vi 64]) (b := 173) d_Ve_verify_120 cs_Ve_verify_120 (k_173 S) (c_By_matches ⟨k_173 S, r_173_0 S, k_174 S, by decide, by decide, by decide⟩ (ks S (i := 5) (by decide)) (by rw [fA.1 173 1 (by omega), H9.1, GA.1 24 1 (by omega), n_174 S, nks S (i := 5) (by decide)]; omega) (by decide)) rfl rfl rfl (fun u_120 q_120 => ?_)
        obtain ⟨mo, mm⟩ := q_120
        have mm2 : u_120 = 1 ↔ ∀ j, 0 ≤ j → j < 64 → vfC 2 (byAt I 16 17) (byAt I 24 25) (muV I (-1)) j = byAt I 24 25 j := mm.trans ⟨fun z j x y => by rw [← H9.2 j x y, ← byAt_fc fA (by omega) (by omega), z j x y]; exact byAt_fc GA (by omega) (by omega), fun z j x y => by rw [byAt_fc fA (by omega) (by omega), H9.2 j x y, z j x y]; exact (byAt_fc GA (by omega) (by omega)).symm⟩
        show AW l G M_Ve_verify P 123 [(4, vr 24), (0, vr 170), (1, vr 13), (2, vr 35), (3, vi (-1))] [vi u_120] (sD h (byBecome I9 26 27 174 64) L9)
        exact aw_zret d_Ve_verify_123 rfl (by omega) (hP _ _ (Or.inl ⟨fun _ => ⟨ok_65, okA⟩, _, _, _, Or.inr ⟨pre_, GA, hA, mo, mm2⟩, rfl, rfl⟩))
      · skip
        refine aw_iconst d_Ve_verify_36 ⟨by decide, by decide⟩ ?_
        exact aw_zret d_Ve_verify_37 rfl ⟨by decide, by decide⟩ (hP _ _ (Or.inl ⟨fun z => absurd z (fun z => by rcases q2 with y | y; exact absurd y.1 (by omega); exact y.2 z.2.2), _, _, _, Or.inl ⟨fun z => by rcases q2 with y | y; exact absurd y.1 (by omega); exact y.2 z.2.2, rfl, F2⟩, rfl, rfl⟩))
