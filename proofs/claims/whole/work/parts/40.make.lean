/-! making keys -/
def kgSd (s : Int) (g : Int → Int) : Int → Int := spOut (ksS g (pK s) (pL s))
def kgA (s : Int) (g : Int → Int) (m c : Int) : Int := (wide (kgSd s g) (m % pL s) (m / pL s)).2.2 c
def kgY (s : Int) (g : Int → Int) (m c : Int) : Int := (sml (pE s) (fun x => kgSd s g (32 + x)) m).2.2 c % 8380417
def kgT (s : Int) (g : Int → Int) (m c : Int) : Int := (bck rt (fun c => pS (kgA s g) (fun j => fwd rt (kgY s g j)) (m * pL s) c (pL s).toNat % 8380417) c + kgY s g (pL s + m) c) % 8380417
def kgPk (s : Int) (g : Int → Int) : Int → Int := pkB (kgSd s g) (kgT s g)
def kgSk (s : Int) (g : Int → Int) : Int → Int := (if s = 0 then skB0 else if s = 1 then skB1 else skB2) (kgSd s g) (spOut (blS (kgPk s g) (32 + 320 * pK s))) (kgY s g) (kgT s g)
def sSec (s : Int) : Int := if s = 0 then 2560 else if s = 1 then 4032 else 4896
def kgOk (s : Int) (g : Int → Int) : Prop := (∀ m, 0 ≤ m → m < pK s * pL s → (wide (kgSd s g) (m % pL s) (m / pL s)).2.1 = 256) ∧ ∀ m, 0 ≤ m → m < pK s + pL s → (sml (pE s) (fun x => kgSd s g (32 + x)) m).2.1 = 256
theorem kg_w {I : Nat → Int → Int} {sd : Int → Int} {j i : Int} (hs : HB I 144 145 128 sd) : wide (fun x => byAt I 144 145 (0 + x)) j i = wide sd j i := wide_congr (fun k hk => by rw [Int.zero_add, hs.2 k (by omega) (by omega)])
theorem kg_s {I : Nat → Int → Int} {sd : Int → Int} {e m : Int} (hs : HB I 144 145 128 sd) : sml e (fun x => byAt I 144 145 (32 + x)) m = sml e (fun x => sd (32 + x)) m := by
  unfold sml
  rw [nmS_congr (g' := fun x => sd (32 + x)) (fun k hk => by rw [hs.2 (32 + k) (by omega) (by omega)])]
theorem wide_b {g : Int → Int} {j i : Int} : smOk (wide g j i) := by
  unfold wide
  exact smIt_b 298
theorem sml_b {e : Int} {g : Int → Int} {m : Int} (he : e = 2 ∨ e = 4) : (0 ≤ (sml e g m).2.1 ∧ (sml e g m).2.1 ≤ 256) ∧ ∀ j, -e ≤ (sml e g m).2.2 j ∧ (sml e g m).2.2 j ≤ e := by
  unfold sml
  exact slIt_b he 481
theorem kgA_in {s : Int} {g : Int → Int} {m : Int} : inQ (kgA s g m) := fun j _ _ => by
  unfold kgA
  exact wide_b.2 j
theorem kgY_in {s : Int} {g : Int → Int} {m : Int} : inQ (kgY s g m) := fun j _ _ => by unfold kgY; omega
theorem kgT_in {s : Int} {g : Int → Int} {m : Int} : inQ (kgT s g m) := fun j _ _ => by unfold kgT; omega
theorem pE_or (s : Int) : pE s = 2 ∨ pE s = 4 := by unfold pE; split <;> omega
theorem kgY_b {s : Int} {g : Int → Int} {m j : Int} : 0 ≤ (pE s - kgY s g m j) % 8380417 ∧ (pE s - kgY s g m j) % 8380417 ≤ 2 * pE s := by
  have h := (sml_b (g := fun x => kgSd s g (32 + x)) (m := m) (pE_or s)).2 j
  have h2 := pE_or s
  unfold kgY
  generalize (sml (pE s) (fun x => kgSd s g (32 + x)) m).2.2 j = y at *
  generalize pE s = e at *
  omega
def DsR (h : Hp) (I L : Nat → Int → Int) (ce : Int → Nat) (code : Int) (Q : Int → (Nat → Int → Int) → (Nat → Int → Int) → Prop) : a_R → Hp → Prop := fun r h2 => (code = 0 ∧ ∃ v I' L', Q v I' L' ∧ r = .inl (some (vi v)) ∧ h2 = sD h I' L') ∨ (code ≠ 0 ∧ ∃ I' L', frC I L I' L' ∧ r = .inr (hX h) ∧ h2 = wN (sD h I' L') (40 + ce code) 6)
def WsR (h : Hp) (I L : Nat → Int → Int) (ce : Int → Nat) (code : Int) (Q : Int → (Nat → Int → Int) → (Nat → Int → Int) → Prop) : a_R → Hp → Prop := fun r h2 => (code = 0 ∧ ∃ v I' L', Q v I' L' ∧ r = .inl (some (vi 0)) ∧ h2 = sD h I' (a_up L' 268 0 v)) ∨ (code ≠ 0 ∧ ∃ I' L', frC I L I' L' ∧ r = .inl (some (vi code)) ∧ h2 = wN (sD h I' L') (40 + ce code) 6)
theorem dsNo {h : Hp} {I L I' L' : Nat → Int → Int} {ce : Int → Nat} {code : Int} {Q : Int → (Nat → Int → Int) → (Nat → Int → Int) → Prop} (c : Int) (e : Nat) (hc : code = c) (h0 : c ≠ 0) (he : ce c = e) (F : frC I L I' L') : DsR h I L ce code Q (.inr (hX h)) (wN (sD h I' L') (40 + e) 6) := by
  subst hc; subst he
  exact Or.inr ⟨h0, I', L', F, rfl, rfl⟩
noncomputable def cKeys (s n : Int) (g : Int → Int) : Int := if 0 ≤ s ∧ s < 3 then (if n = 32 then (@ite Int (kgOk s g) (Classical.propDecidable _) 0 3) else 2) else 1
def ceK (c : Int) : Nat := if c = 1 then 0 else if c = 2 then 2 else 4
theorem cKeys_1 {s n : Int} {g : Int → Int} (h : ¬ (0 ≤ s ∧ s < 3)) : cKeys s n g = 1 := by unfold cKeys; rw [if_neg h]
theorem cKeys_2 {s n : Int} {g : Int → Int} (h : 0 ≤ s ∧ s < 3) (hn : n ≠ 32) : cKeys s n g = 2 := by unfold cKeys; rw [if_pos h, if_neg hn]
theorem cKeys_3 {s n : Int} {g : Int → Int} (h : 0 ≤ s ∧ s < 3) (hn : n = 32) (hk : ¬ kgOk s g) : cKeys s n g = 3 := by unfold cKeys; rw [if_pos h, if_pos hn, if_neg hk]
theorem cKeys_0 {s n : Int} {g : Int → Int} (h : 0 ≤ s ∧ s < 3) (hn : n = 32) (hk : kgOk s g) : cKeys s n g = 0 := by unfold cKeys; rw [if_pos h, if_pos hn, if_pos hk]
theorem cKeys_or (s n : Int) (g : Int → Int) : cKeys s n g = 0 ∨ cKeys s n g = 1 ∨ cKeys s n g = 2 ∨ cKeys s n g = 3 := by
  by_cases a : 0 ≤ s ∧ s < 3
  · by_cases b : n = 32
    · by_cases c : kgOk s g
      · exact Or.inl (cKeys_0 a b c)
      · exact Or.inr (Or.inr (Or.inr (cKeys_3 a b c)))
    · exact Or.inr (Or.inr (Or.inl (cKeys_2 a b)))
  · exact Or.inr (Or.inl (cKeys_1 a))
set_option maxHeartbeats 800000 in
set_option maxRecDepth 100000 in
theorem c_KM_make0 {l : Launch} {G : a_G} {h : Hp} {I L : Nat → Int → Int} (S : Shp h) (hfl : l.flags = flags0) (rm : hX h + 1 ≤ a_NX ∧ hU h + 6 ≤ a_US) (SD : Std I L) (hc : I 14 1 ≤ 8192) : AW l G M_KM_make (ThR h I L (kgOk 0 (fun x => byAt I 14 15 (0 + x))) (fun I' L' => FC (fun a => a = 16 ∨ a = 17 ∨ a = 18 ∨ a = 19 ∨ 36 ≤ a ∧ a ≤ 174 ∧ a ≠ 43) I L I' L' ∧ HB I' 16 17 1312 (kgPk 0 (fun x => byAt I 14 15 (0 + x))) ∧ HB I' 18 19 2560 (kgSk 0 (fun x => byAt I 14 15 (0 + x))))) 0 (a_ar 0 [vr 143, vr 13, vr 33]) [] (sD h I L) := by
  suffices key : ∀ P : a_R → Hp → Prop, (∀ r_ h2_, ThR h I L (kgOk 0 (fun x => byAt I 14 15 (0 + x))) (fun I' L' => FC (fun a => a = 16 ∨ a = 17 ∨ a = 18 ∨ a = 19 ∨ 36 ≤ a ∧ a ≤ 174 ∧ a ≠ 43) I L I' L' ∧ HB I' 16 17 1312 (kgPk 0 (fun x => byAt I 14 15 (0 + x))) ∧ HB I' 18 19 2560 (kgSk 0 (fun x => byAt I 14 15 (0 + x)))) r_ h2_ → P r_ h2_) → AW l G M_KM_make P 0 [(0, vr 143), (1, vr 13), (2, vr 33)] [] (sD h I L) from key _ (fun _ _ q => q)
  intro P hP
  refine aw_aload_n d_KM_make_0 rfl rfl ?_
  refine aw_aload_n d_KM_make_1 rfl rfl ?_
  refine aw_iconst d_KM_make_2 ⟨by decide, by decide⟩ ?_
  refine ax_aald (b := 14) d_KM_make_3 ⟨by rw [(k_13 S)]; decide, by rw [(k_13 S)]; decide⟩ (by omega) (by rw [n_13 S]; omega) (r_13_0 S) ?_
  refine aw_aload_n d_KM_make_4 rfl rfl ?_
  refine ax_Vr (st := []) (as := [vr 14, vr 33]) (b := 143) d_KM_make_5 cs_KM_make_5 (k_143 S) (c_KM_drawSeeds0 S SD (by omega)) rfl rfl rfl (fun u_5 q_5 => ?_)
  obtain ⟨I1, L1⟩ := u_5
  obtain ⟨F1, H1⟩ := q_5
  dsimp only at F1 H1
  have H1 : HB I1 144 145 128 (kgSd 0 (fun x => byAt I 14 15 (0 + x))) := H1
  have G1 : FC (fun a => a = 16 ∨ a = 17 ∨ a = 18 ∨ a = 19 ∨ 36 ≤ a ∧ a ≤ 174 ∧ a ≠ 43) I L I1 L1 := F1.mono (by intro a x; omega)
  show AW l G M_KM_make P 8 [(0, vr 143), (1, vr 13), (2, vr 33)] [] (sD h I1 L1)
  refine aw_aload_n d_KM_make_8 rfl rfl ?_
  refine aw_aload_n d_KM_make_9 rfl rfl ?_
  refine ax_VtT (st := []) (as := [vr 33]) (b := 143) d_KM_make_10 cs_KM_make_10 (k_143 S) (c_KM_drawSecrets0 S hfl rm (SD.fc G1 (by intro a x; omega)) H1) rfl rfl rfl (fun ok_10 I_10 L_10 q_10 => ?_) (fun no_10 I_10 L_10 q_10 => at_leave rfl (hP _ _ (Or.inr ⟨fun z => no_10 ⟨fun m a b => by rw [kg_w H1]; exact z.1 m a b, fun m a b => by rw [kg_s H1]; exact z.2 m a b⟩, I_10, L_10, (F1.frc (by intro a x; omega)).tr q_10, rfl, rfl⟩)))
  obtain ⟨F2, m2, s2, t2⟩ := q_10
  have G2 : FC (fun a => a = 16 ∨ a = 17 ∨ a = 18 ∨ a = 19 ∨ 36 ≤ a ∧ a ≤ 174 ∧ a ≠ 43) I L I_10 L_10 := G1.tr F2 (by intro a x; omega)
  have H2 := H1.fc F2 (by decide) (by decide)
  have m2 : ∀ m, 0 ≤ m → m < 16 → eqQ (I_10 (45 + m.toNat)) ((kgA 0 (fun x => byAt I 14 15 (0 + x))) m) := fun m a b c x y => by rw [m2 m a b c x y, kg_w H1]; rfl
  have s2 : ∀ m, 0 ≤ m → m < 4 → eqQ (I_10 (102 + m.toNat)) ((kgY 0 (fun x => byAt I 14 15 (0 + x))) m) := fun m a b c x y => by rw [s2 m a b c x y, kg_s H1]; rfl
  have t2 : ∀ m, 0 ≤ m → m < 4 → eqQ (I_10 (110 + m.toNat)) ((kgY 0 (fun x => byAt I 14 15 (0 + x))) (4 + m)) := fun m a b c x y => by rw [t2 m a b c x y, kg_s H1]; rfl
  have okk : kgOk 0 (fun x => byAt I 14 15 (0 + x)) := ⟨fun m a b => by have z := ok_10.1 m a b; rw [kg_w H1] at z; exact z, fun m a b => by have z := ok_10.2 m a b; rw [kg_s H1] at z; exact z⟩
  show AW l G M_KM_make P 13 [(0, vr 143), (1, vr 13), (2, vr 33)] [] (sD h I_10 L_10)
  refine aw_aload_n d_KM_make_13 rfl rfl ?_
  refine aw_aload_n d_KM_make_14 rfl rfl ?_
  refine ax_Vr (st := []) (as := [vr 33]) (b := 143) d_KM_make_15 cs_KM_make_15 (k_143 S) (c_KM_computeImages0 (A := (kgA 0 (fun x => byAt I 14 15 (0 + x)))) (V := (kgY 0 (fun x => byAt I 14 15 (0 + x)))) (E := fun m => (kgY 0 (fun x => byAt I 14 15 (0 + x))) (4 + m)) S (SD.fc G2 (by intro a x; omega)) m2 (fun _ _ _ => kgA_in) s2 (fun _ _ _ => kgY_in) t2 (fun _ _ _ => kgY_in)) rfl rfl rfl (fun u_15 q_15 => ?_)
  obtain ⟨F3, d3⟩ := q_15
  have G3 : FC (fun a => a = 16 ∨ a = 17 ∨ a = 18 ∨ a = 19 ∨ 36 ≤ a ∧ a ≤ 174 ∧ a ≠ 43) I L u_15 L_10 := G2.tr F3 (by intro a x; omega)
  have H3 := H2.fc F3 (by decide) (by decide)
  have d3 : ∀ m, 0 ≤ m → m < 4 → eqQ (u_15 (127 + m.toNat)) ((kgT 0 (fun x => byAt I 14 15 (0 + x))) m) := d3
  show AW l G M_KM_make P 18 [(0, vr 143), (1, vr 13), (2, vr 33)] [] (sD h u_15 L_10)
  refine aw_aload_n d_KM_make_18 rfl rfl ?_
  refine aw_aload_n d_KM_make_19 rfl rfl ?_
  refine aw_iconst d_KM_make_20 ⟨by decide, by decide⟩ ?_
  refine ax_aald (b := 16) d_KM_make_21 ⟨by rw [(k_13 S)]; decide, by rw [(k_13 S)]; decide⟩ (by omega) (by rw [n_13 S]; omega) (r_13_1 S) ?_
  refine aw_aload_n d_KM_make_22 rfl rfl ?_
  refine ax_Vr (st := []) (as := [vr 16, vr 33]) (b := 143) d_KM_make_23 cs_KM_make_23 (k_143 S) (c_KM_writePublic0 S (SD.fc G3 (by intro a x; omega)) H3 (fun x _ _ => spOut_m _ _) d3 (fun _ _ _ => kgT_in)) rfl rfl rfl (fun u_23 q_23 => ?_)
  obtain ⟨F4, P4⟩ := q_23
  have G4 : FC (fun a => a = 16 ∨ a = 17 ∨ a = 18 ∨ a = 19 ∨ 36 ≤ a ∧ a ≤ 174 ∧ a ≠ 43) I L u_23 L_10 := G3.tr F4 (by intro a x; omega)
  have H4 := H3.fc F4 (by decide) (by decide)
  have P4 : HB u_23 16 17 1312 (kgPk 0 (fun x => byAt I 14 15 (0 + x))) := P4
  show AW l G M_KM_make P 26 [(0, vr 143), (1, vr 13), (2, vr 33)] [] (sD h u_23 L_10)
  refine aw_aload_n d_KM_make_26 rfl rfl ?_
  refine aw_aload_n d_KM_make_27 rfl rfl ?_
  refine aw_iconst d_KM_make_28 ⟨by decide, by decide⟩ ?_
  refine ax_aald (b := 18) d_KM_make_29 ⟨by rw [(k_13 S)]; decide, by rw [(k_13 S)]; decide⟩ (by omega) (by rw [n_13 S]; omega) (r_13_2 S) ?_
  refine aw_aload_n d_KM_make_30 rfl rfl ?_
  refine aw_iconst d_KM_make_31 ⟨by decide, by decide⟩ ?_
  refine ax_aald (b := 16) d_KM_make_32 ⟨by rw [(k_13 S)]; decide, by rw [(k_13 S)]; decide⟩ (by omega) (by rw [n_13 S]; omega) (r_13_1 S) ?_
  refine aw_aload_n d_KM_make_33 rfl rfl ?_
  refine ax_Vr (st := []) (as := [vr 18, vr 16, vr 33]) (b := 143) d_KM_make_34 cs_KM_make_34 (k_143 S) (c_KM_writeSecret0 (Y := (kgY 0 (fun x => byAt I 14 15 (0 + x)))) (T := (kgT 0 (fun x => byAt I 14 15 (0 + x)))) S (SD.fc G4 (by intro a x; omega)) H4 (fun x _ _ => spOut_m _ _) (fun m a b j x y => (F4.1 _ j (by omega)).trans (d3 m a b j x y)) (fun _ _ _ => kgT_in) (fun m a b j x y => (F4.1 _ j (by omega)).trans ((F3.1 _ j (by omega)).trans (s2 m a b j x y))) (fun m a b j x y => (F4.1 _ j (by omega)).trans ((F3.1 _ j (by omega)).trans (t2 m a b j x y))) (fun _ _ _ => kgY_in) (fun m a b j x y => by have z := kgY_b (s := 0) (g := (fun x => byAt I 14 15 (0 + x))) (m := m) (j := j); rw [show pE 0 = 2 from rfl] at z; omega) (by rw [P4.1]; omega)) rfl rfl rfl (fun u_34 q_34 => ?_)
  obtain ⟨I5, L5⟩ := u_34
  obtain ⟨F5, H5⟩ := q_34
  dsimp only at F5 H5
  have G5 : FC (fun a => a = 16 ∨ a = 17 ∨ a = 18 ∨ a = 19 ∨ 36 ≤ a ∧ a ≤ 174 ∧ a ≠ 43) I L I5 L5 := G4.tr F5 (by intro a x; omega)
  have P5 := P4.fc F5 (by decide) (by decide)
  rw [P4.1, blS_congr (g' := kgPk 0 (fun x => byAt I 14 15 (0 + x))) (fun k hk => by rw [Int.zero_add, P4.2 k (by omega) (by omega)])] at H5
  show AW l G M_KM_make P 37 [(0, vr 143), (1, vr 13), (2, vr 33)] [] (sD h I5 L5)
  exact aw_vret d_KM_make_37 rfl (hP _ _ (Or.inl ⟨okk, I5, L5, ⟨G5, P5, H5⟩, rfl, rfl⟩))
set_option maxHeartbeats 800000 in
set_option maxRecDepth 100000 in
theorem c_KM_make1 {l : Launch} {G : a_G} {h : Hp} {I L : Nat → Int → Int} (S : Shp h) (hfl : l.flags = flags0) (rm : hX h + 1 ≤ a_NX ∧ hU h + 6 ≤ a_US) (SD : Std I L) (hc : I 14 1 ≤ 8192) : AW l G M_KM_make (ThR h I L (kgOk 1 (fun x => byAt I 14 15 (0 + x))) (fun I' L' => FC (fun a => a = 16 ∨ a = 17 ∨ a = 18 ∨ a = 19 ∨ 36 ≤ a ∧ a ≤ 174 ∧ a ≠ 43) I L I' L' ∧ HB I' 16 17 1952 (kgPk 1 (fun x => byAt I 14 15 (0 + x))) ∧ HB I' 18 19 4032 (kgSk 1 (fun x => byAt I 14 15 (0 + x))))) 0 (a_ar 0 [vr 143, vr 13, vr 34]) [] (sD h I L) := by
  suffices key : ∀ P : a_R → Hp → Prop, (∀ r_ h2_, ThR h I L (kgOk 1 (fun x => byAt I 14 15 (0 + x))) (fun I' L' => FC (fun a => a = 16 ∨ a = 17 ∨ a = 18 ∨ a = 19 ∨ 36 ≤ a ∧ a ≤ 174 ∧ a ≠ 43) I L I' L' ∧ HB I' 16 17 1952 (kgPk 1 (fun x => byAt I 14 15 (0 + x))) ∧ HB I' 18 19 4032 (kgSk 1 (fun x => byAt I 14 15 (0 + x)))) r_ h2_ → P r_ h2_) → AW l G M_KM_make P 0 [(0, vr 143), (1, vr 13), (2, vr 34)] [] (sD h I L) from key _ (fun _ _ q => q)
  intro P hP
  refine aw_aload_n d_KM_make_0 rfl rfl ?_
  refine aw_aload_n d_KM_make_1 rfl rfl ?_
  refine aw_iconst d_KM_make_2 ⟨by decide, by decide⟩ ?_
  refine ax_aald (b := 14) d_KM_make_3 ⟨by rw [(k_13 S)]; decide, by rw [(k_13 S)]; decide⟩ (by omega) (by rw [n_13 S]; omega) (r_13_0 S) ?_
  refine aw_aload_n d_KM_make_4 rfl rfl ?_
  refine ax_Vr (st := []) (as := [vr 14, vr 34]) (b := 143) d_KM_make_5 cs_KM_make_5 (k_143 S) (c_KM_drawSeeds1 S SD (by omega)) rfl rfl rfl (fun u_5 q_5 => ?_)
  obtain ⟨I1, L1⟩ := u_5
  obtain ⟨F1, H1⟩ := q_5
  dsimp only at F1 H1
  have H1 : HB I1 144 145 128 (kgSd 1 (fun x => byAt I 14 15 (0 + x))) := H1
  have G1 : FC (fun a => a = 16 ∨ a = 17 ∨ a = 18 ∨ a = 19 ∨ 36 ≤ a ∧ a ≤ 174 ∧ a ≠ 43) I L I1 L1 := F1.mono (by intro a x; omega)
  show AW l G M_KM_make P 8 [(0, vr 143), (1, vr 13), (2, vr 34)] [] (sD h I1 L1)
  refine aw_aload_n d_KM_make_8 rfl rfl ?_
  refine aw_aload_n d_KM_make_9 rfl rfl ?_
  refine ax_VtT (st := []) (as := [vr 34]) (b := 143) d_KM_make_10 cs_KM_make_10 (k_143 S) (c_KM_drawSecrets1 S hfl rm (SD.fc G1 (by intro a x; omega)) H1) rfl rfl rfl (fun ok_10 I_10 L_10 q_10 => ?_) (fun no_10 I_10 L_10 q_10 => at_leave rfl (hP _ _ (Or.inr ⟨fun z => no_10 ⟨fun m a b => by rw [kg_w H1]; exact z.1 m a b, fun m a b => by rw [kg_s H1]; exact z.2 m a b⟩, I_10, L_10, (F1.frc (by intro a x; omega)).tr q_10, rfl, rfl⟩)))
  obtain ⟨F2, m2, s2, t2⟩ := q_10
  have G2 : FC (fun a => a = 16 ∨ a = 17 ∨ a = 18 ∨ a = 19 ∨ 36 ≤ a ∧ a ≤ 174 ∧ a ≠ 43) I L I_10 L_10 := G1.tr F2 (by intro a x; omega)
  have H2 := H1.fc F2 (by decide) (by decide)
  have m2 : ∀ m, 0 ≤ m → m < 30 → eqQ (I_10 (45 + m.toNat)) ((kgA 1 (fun x => byAt I 14 15 (0 + x))) m) := fun m a b c x y => by rw [m2 m a b c x y, kg_w H1]; rfl
  have s2 : ∀ m, 0 ≤ m → m < 5 → eqQ (I_10 (102 + m.toNat)) ((kgY 1 (fun x => byAt I 14 15 (0 + x))) m) := fun m a b c x y => by rw [s2 m a b c x y, kg_s H1]; rfl
  have t2 : ∀ m, 0 ≤ m → m < 6 → eqQ (I_10 (110 + m.toNat)) ((kgY 1 (fun x => byAt I 14 15 (0 + x))) (5 + m)) := fun m a b c x y => by rw [t2 m a b c x y, kg_s H1]; rfl
  have okk : kgOk 1 (fun x => byAt I 14 15 (0 + x)) := ⟨fun m a b => by have z := ok_10.1 m a b; rw [kg_w H1] at z; exact z, fun m a b => by have z := ok_10.2 m a b; rw [kg_s H1] at z; exact z⟩
  show AW l G M_KM_make P 13 [(0, vr 143), (1, vr 13), (2, vr 34)] [] (sD h I_10 L_10)
  refine aw_aload_n d_KM_make_13 rfl rfl ?_
  refine aw_aload_n d_KM_make_14 rfl rfl ?_
  refine ax_Vr (st := []) (as := [vr 34]) (b := 143) d_KM_make_15 cs_KM_make_15 (k_143 S) (c_KM_computeImages1 (A := (kgA 1 (fun x => byAt I 14 15 (0 + x)))) (V := (kgY 1 (fun x => byAt I 14 15 (0 + x)))) (E := fun m => (kgY 1 (fun x => byAt I 14 15 (0 + x))) (5 + m)) S (SD.fc G2 (by intro a x; omega)) m2 (fun _ _ _ => kgA_in) s2 (fun _ _ _ => kgY_in) t2 (fun _ _ _ => kgY_in)) rfl rfl rfl (fun u_15 q_15 => ?_)
  obtain ⟨F3, d3⟩ := q_15
  have G3 : FC (fun a => a = 16 ∨ a = 17 ∨ a = 18 ∨ a = 19 ∨ 36 ≤ a ∧ a ≤ 174 ∧ a ≠ 43) I L u_15 L_10 := G2.tr F3 (by intro a x; omega)
  have H3 := H2.fc F3 (by decide) (by decide)
  have d3 : ∀ m, 0 ≤ m → m < 6 → eqQ (u_15 (127 + m.toNat)) ((kgT 1 (fun x => byAt I 14 15 (0 + x))) m) := d3
  show AW l G M_KM_make P 18 [(0, vr 143), (1, vr 13), (2, vr 34)] [] (sD h u_15 L_10)
  refine aw_aload_n d_KM_make_18 rfl rfl ?_
  refine aw_aload_n d_KM_make_19 rfl rfl ?_
  refine aw_iconst d_KM_make_20 ⟨by decide, by decide⟩ ?_
  refine ax_aald (b := 16) d_KM_make_21 ⟨by rw [(k_13 S)]; decide, by rw [(k_13 S)]; decide⟩ (by omega) (by rw [n_13 S]; omega) (r_13_1 S) ?_
  refine aw_aload_n d_KM_make_22 rfl rfl ?_
  refine ax_Vr (st := []) (as := [vr 16, vr 34]) (b := 143) d_KM_make_23 cs_KM_make_23 (k_143 S) (c_KM_writePublic1 S (SD.fc G3 (by intro a x; omega)) H3 (fun x _ _ => spOut_m _ _) d3 (fun _ _ _ => kgT_in)) rfl rfl rfl (fun u_23 q_23 => ?_)
  obtain ⟨F4, P4⟩ := q_23
  have G4 : FC (fun a => a = 16 ∨ a = 17 ∨ a = 18 ∨ a = 19 ∨ 36 ≤ a ∧ a ≤ 174 ∧ a ≠ 43) I L u_23 L_10 := G3.tr F4 (by intro a x; omega)
  have H4 := H3.fc F4 (by decide) (by decide)
  have P4 : HB u_23 16 17 1952 (kgPk 1 (fun x => byAt I 14 15 (0 + x))) := P4
  show AW l G M_KM_make P 26 [(0, vr 143), (1, vr 13), (2, vr 34)] [] (sD h u_23 L_10)
  refine aw_aload_n d_KM_make_26 rfl rfl ?_
  refine aw_aload_n d_KM_make_27 rfl rfl ?_
  refine aw_iconst d_KM_make_28 ⟨by decide, by decide⟩ ?_
  refine ax_aald (b := 18) d_KM_make_29 ⟨by rw [(k_13 S)]; decide, by rw [(k_13 S)]; decide⟩ (by omega) (by rw [n_13 S]; omega) (r_13_2 S) ?_
  refine aw_aload_n d_KM_make_30 rfl rfl ?_
  refine aw_iconst d_KM_make_31 ⟨by decide, by decide⟩ ?_
  refine ax_aald (b := 16) d_KM_make_32 ⟨by rw [(k_13 S)]; decide, by rw [(k_13 S)]; decide⟩ (by omega) (by rw [n_13 S]; omega) (r_13_1 S) ?_
  refine aw_aload_n d_KM_make_33 rfl rfl ?_
  refine ax_Vr (st := []) (as := [vr 18, vr 16, vr 34]) (b := 143) d_KM_make_34 cs_KM_make_34 (k_143 S) (c_KM_writeSecret1 (Y := (kgY 1 (fun x => byAt I 14 15 (0 + x)))) (T := (kgT 1 (fun x => byAt I 14 15 (0 + x)))) S (SD.fc G4 (by intro a x; omega)) H4 (fun x _ _ => spOut_m _ _) (fun m a b j x y => (F4.1 _ j (by omega)).trans (d3 m a b j x y)) (fun _ _ _ => kgT_in) (fun m a b j x y => (F4.1 _ j (by omega)).trans ((F3.1 _ j (by omega)).trans (s2 m a b j x y))) (fun m a b j x y => (F4.1 _ j (by omega)).trans ((F3.1 _ j (by omega)).trans (t2 m a b j x y))) (fun _ _ _ => kgY_in) (fun m a b j x y => by have z := kgY_b (s := 1) (g := (fun x => byAt I 14 15 (0 + x))) (m := m) (j := j); rw [show pE 1 = 4 from rfl] at z; omega) (by rw [P4.1]; omega)) rfl rfl rfl (fun u_34 q_34 => ?_)
  obtain ⟨I5, L5⟩ := u_34
  obtain ⟨F5, H5⟩ := q_34
  dsimp only at F5 H5
  have G5 : FC (fun a => a = 16 ∨ a = 17 ∨ a = 18 ∨ a = 19 ∨ 36 ≤ a ∧ a ≤ 174 ∧ a ≠ 43) I L I5 L5 := G4.tr F5 (by intro a x; omega)
  have P5 := P4.fc F5 (by decide) (by decide)
  rw [P4.1, blS_congr (g' := kgPk 1 (fun x => byAt I 14 15 (0 + x))) (fun k hk => by rw [Int.zero_add, P4.2 k (by omega) (by omega)])] at H5
  show AW l G M_KM_make P 37 [(0, vr 143), (1, vr 13), (2, vr 34)] [] (sD h I5 L5)
  exact aw_vret d_KM_make_37 rfl (hP _ _ (Or.inl ⟨okk, I5, L5, ⟨G5, P5, H5⟩, rfl, rfl⟩))
set_option maxHeartbeats 800000 in
set_option maxRecDepth 100000 in
theorem c_KM_make2 {l : Launch} {G : a_G} {h : Hp} {I L : Nat → Int → Int} (S : Shp h) (hfl : l.flags = flags0) (rm : hX h + 1 ≤ a_NX ∧ hU h + 6 ≤ a_US) (SD : Std I L) (hc : I 14 1 ≤ 8192) : AW l G M_KM_make (ThR h I L (kgOk 2 (fun x => byAt I 14 15 (0 + x))) (fun I' L' => FC (fun a => a = 16 ∨ a = 17 ∨ a = 18 ∨ a = 19 ∨ 36 ≤ a ∧ a ≤ 174 ∧ a ≠ 43) I L I' L' ∧ HB I' 16 17 2592 (kgPk 2 (fun x => byAt I 14 15 (0 + x))) ∧ HB I' 18 19 4896 (kgSk 2 (fun x => byAt I 14 15 (0 + x))))) 0 (a_ar 0 [vr 143, vr 13, vr 35]) [] (sD h I L) := by
  suffices key : ∀ P : a_R → Hp → Prop, (∀ r_ h2_, ThR h I L (kgOk 2 (fun x => byAt I 14 15 (0 + x))) (fun I' L' => FC (fun a => a = 16 ∨ a = 17 ∨ a = 18 ∨ a = 19 ∨ 36 ≤ a ∧ a ≤ 174 ∧ a ≠ 43) I L I' L' ∧ HB I' 16 17 2592 (kgPk 2 (fun x => byAt I 14 15 (0 + x))) ∧ HB I' 18 19 4896 (kgSk 2 (fun x => byAt I 14 15 (0 + x)))) r_ h2_ → P r_ h2_) → AW l G M_KM_make P 0 [(0, vr 143), (1, vr 13), (2, vr 35)] [] (sD h I L) from key _ (fun _ _ q => q)
  intro P hP
  refine aw_aload_n d_KM_make_0 rfl rfl ?_
  refine aw_aload_n d_KM_make_1 rfl rfl ?_
  refine aw_iconst d_KM_make_2 ⟨by decide, by decide⟩ ?_
  refine ax_aald (b := 14) d_KM_make_3 ⟨by rw [(k_13 S)]; decide, by rw [(k_13 S)]; decide⟩ (by omega) (by rw [n_13 S]; omega) (r_13_0 S) ?_
  refine aw_aload_n d_KM_make_4 rfl rfl ?_
  refine ax_Vr (st := []) (as := [vr 14, vr 35]) (b := 143) d_KM_make_5 cs_KM_make_5 (k_143 S) (c_KM_drawSeeds2 S SD (by omega)) rfl rfl rfl (fun u_5 q_5 => ?_)
  obtain ⟨I1, L1⟩ := u_5
  obtain ⟨F1, H1⟩ := q_5
  dsimp only at F1 H1
  have H1 : HB I1 144 145 128 (kgSd 2 (fun x => byAt I 14 15 (0 + x))) := H1
  have G1 : FC (fun a => a = 16 ∨ a = 17 ∨ a = 18 ∨ a = 19 ∨ 36 ≤ a ∧ a ≤ 174 ∧ a ≠ 43) I L I1 L1 := F1.mono (by intro a x; omega)
  show AW l G M_KM_make P 8 [(0, vr 143), (1, vr 13), (2, vr 35)] [] (sD h I1 L1)
  refine aw_aload_n d_KM_make_8 rfl rfl ?_
  refine aw_aload_n d_KM_make_9 rfl rfl ?_
  refine ax_VtT (st := []) (as := [vr 35]) (b := 143) d_KM_make_10 cs_KM_make_10 (k_143 S) (c_KM_drawSecrets2 S hfl rm (SD.fc G1 (by intro a x; omega)) H1) rfl rfl rfl (fun ok_10 I_10 L_10 q_10 => ?_) (fun no_10 I_10 L_10 q_10 => at_leave rfl (hP _ _ (Or.inr ⟨fun z => no_10 ⟨fun m a b => by rw [kg_w H1]; exact z.1 m a b, fun m a b => by rw [kg_s H1]; exact z.2 m a b⟩, I_10, L_10, (F1.frc (by intro a x; omega)).tr q_10, rfl, rfl⟩)))
  obtain ⟨F2, m2, s2, t2⟩ := q_10
  have G2 : FC (fun a => a = 16 ∨ a = 17 ∨ a = 18 ∨ a = 19 ∨ 36 ≤ a ∧ a ≤ 174 ∧ a ≠ 43) I L I_10 L_10 := G1.tr F2 (by intro a x; omega)
  have H2 := H1.fc F2 (by decide) (by decide)
  have m2 : ∀ m, 0 ≤ m → m < 56 → eqQ (I_10 (45 + m.toNat)) ((kgA 2 (fun x => byAt I 14 15 (0 + x))) m) := fun m a b c x y => by rw [m2 m a b c x y, kg_w H1]; rfl
  have s2 : ∀ m, 0 ≤ m → m < 7 → eqQ (I_10 (102 + m.toNat)) ((kgY 2 (fun x => byAt I 14 15 (0 + x))) m) := fun m a b c x y => by rw [s2 m a b c x y, kg_s H1]; rfl
  have t2 : ∀ m, 0 ≤ m → m < 8 → eqQ (I_10 (110 + m.toNat)) ((kgY 2 (fun x => byAt I 14 15 (0 + x))) (7 + m)) := fun m a b c x y => by rw [t2 m a b c x y, kg_s H1]; rfl
  have okk : kgOk 2 (fun x => byAt I 14 15 (0 + x)) := ⟨fun m a b => by have z := ok_10.1 m a b; rw [kg_w H1] at z; exact z, fun m a b => by have z := ok_10.2 m a b; rw [kg_s H1] at z; exact z⟩
  show AW l G M_KM_make P 13 [(0, vr 143), (1, vr 13), (2, vr 35)] [] (sD h I_10 L_10)
  refine aw_aload_n d_KM_make_13 rfl rfl ?_
  refine aw_aload_n d_KM_make_14 rfl rfl ?_
  refine ax_Vr (st := []) (as := [vr 35]) (b := 143) d_KM_make_15 cs_KM_make_15 (k_143 S) (c_KM_computeImages2 (A := (kgA 2 (fun x => byAt I 14 15 (0 + x)))) (V := (kgY 2 (fun x => byAt I 14 15 (0 + x)))) (E := fun m => (kgY 2 (fun x => byAt I 14 15 (0 + x))) (7 + m)) S (SD.fc G2 (by intro a x; omega)) m2 (fun _ _ _ => kgA_in) s2 (fun _ _ _ => kgY_in) t2 (fun _ _ _ => kgY_in)) rfl rfl rfl (fun u_15 q_15 => ?_)
  obtain ⟨F3, d3⟩ := q_15
  have G3 : FC (fun a => a = 16 ∨ a = 17 ∨ a = 18 ∨ a = 19 ∨ 36 ≤ a ∧ a ≤ 174 ∧ a ≠ 43) I L u_15 L_10 := G2.tr F3 (by intro a x; omega)
  have H3 := H2.fc F3 (by decide) (by decide)
  have d3 : ∀ m, 0 ≤ m → m < 8 → eqQ (u_15 (127 + m.toNat)) ((kgT 2 (fun x => byAt I 14 15 (0 + x))) m) := d3
  show AW l G M_KM_make P 18 [(0, vr 143), (1, vr 13), (2, vr 35)] [] (sD h u_15 L_10)
  refine aw_aload_n d_KM_make_18 rfl rfl ?_
  refine aw_aload_n d_KM_make_19 rfl rfl ?_
  refine aw_iconst d_KM_make_20 ⟨by decide, by decide⟩ ?_
  refine ax_aald (b := 16) d_KM_make_21 ⟨by rw [(k_13 S)]; decide, by rw [(k_13 S)]; decide⟩ (by omega) (by rw [n_13 S]; omega) (r_13_1 S) ?_
  refine aw_aload_n d_KM_make_22 rfl rfl ?_
  refine ax_Vr (st := []) (as := [vr 16, vr 35]) (b := 143) d_KM_make_23 cs_KM_make_23 (k_143 S) (c_KM_writePublic2 S (SD.fc G3 (by intro a x; omega)) H3 (fun x _ _ => spOut_m _ _) d3 (fun _ _ _ => kgT_in)) rfl rfl rfl (fun u_23 q_23 => ?_)
  obtain ⟨F4, P4⟩ := q_23
  have G4 : FC (fun a => a = 16 ∨ a = 17 ∨ a = 18 ∨ a = 19 ∨ 36 ≤ a ∧ a ≤ 174 ∧ a ≠ 43) I L u_23 L_10 := G3.tr F4 (by intro a x; omega)
  have H4 := H3.fc F4 (by decide) (by decide)
  have P4 : HB u_23 16 17 2592 (kgPk 2 (fun x => byAt I 14 15 (0 + x))) := P4
  show AW l G M_KM_make P 26 [(0, vr 143), (1, vr 13), (2, vr 35)] [] (sD h u_23 L_10)
  refine aw_aload_n d_KM_make_26 rfl rfl ?_
  refine aw_aload_n d_KM_make_27 rfl rfl ?_
  refine aw_iconst d_KM_make_28 ⟨by decide, by decide⟩ ?_
  refine ax_aald (b := 18) d_KM_make_29 ⟨by rw [(k_13 S)]; decide, by rw [(k_13 S)]; decide⟩ (by omega) (by rw [n_13 S]; omega) (r_13_2 S) ?_
  refine aw_aload_n d_KM_make_30 rfl rfl ?_
  refine aw_iconst d_KM_make_31 ⟨by decide, by decide⟩ ?_
  refine ax_aald (b := 16) d_KM_make_32 ⟨by rw [(k_13 S)]; decide, by rw [(k_13 S)]; decide⟩ (by omega) (by rw [n_13 S]; omega) (r_13_1 S) ?_
  refine aw_aload_n d_KM_make_33 rfl rfl ?_
  refine ax_Vr (st := []) (as := [vr 18, vr 16, vr 35]) (b := 143) d_KM_make_34 cs_KM_make_34 (k_143 S) (c_KM_writeSecret2 (Y := (kgY 2 (fun x => byAt I 14 15 (0 + x)))) (T := (kgT 2 (fun x => byAt I 14 15 (0 + x)))) S (SD.fc G4 (by intro a x; omega)) H4 (fun x _ _ => spOut_m _ _) (fun m a b j x y => (F4.1 _ j (by omega)).trans (d3 m a b j x y)) (fun _ _ _ => kgT_in) (fun m a b j x y => (F4.1 _ j (by omega)).trans ((F3.1 _ j (by omega)).trans (s2 m a b j x y))) (fun m a b j x y => (F4.1 _ j (by omega)).trans ((F3.1 _ j (by omega)).trans (t2 m a b j x y))) (fun _ _ _ => kgY_in) (fun m a b j x y => by have z := kgY_b (s := 2) (g := (fun x => byAt I 14 15 (0 + x))) (m := m) (j := j); rw [show pE 2 = 2 from rfl] at z; omega) (by rw [P4.1]; omega)) rfl rfl rfl (fun u_34 q_34 => ?_)
  obtain ⟨I5, L5⟩ := u_34
  obtain ⟨F5, H5⟩ := q_34
  dsimp only at F5 H5
  have G5 : FC (fun a => a = 16 ∨ a = 17 ∨ a = 18 ∨ a = 19 ∨ 36 ≤ a ∧ a ≤ 174 ∧ a ≠ 43) I L I5 L5 := G4.tr F5 (by intro a x; omega)
  have P5 := P4.fc F5 (by decide) (by decide)
  rw [P4.1, blS_congr (g' := kgPk 2 (fun x => byAt I 14 15 (0 + x))) (fun k hk => by rw [Int.zero_add, P4.2 k (by omega) (by omega)])] at H5
  show AW l G M_KM_make P 37 [(0, vr 143), (1, vr 13), (2, vr 35)] [] (sD h I5 L5)
  exact aw_vret d_KM_make_37 rfl (hP _ _ (Or.inl ⟨okk, I5, L5, ⟨G5, P5, H5⟩, rfl, rfl⟩))
set_option maxHeartbeats 800000 in
set_option maxRecDepth 100000 in
theorem c_MS_needSet {l : Launch} {G : a_G} {h : Hp} {s : Int} (hfl : l.flags = flags0) (rm : hX h + 1 ≤ a_NX ∧ hU h + 6 ≤ a_US) : AW l G M_MS_needSet (NeedR (0 ≤ s ∧ s < 3) 0 h) 0 (a_ar 0 [vi s]) [] (h) := by
  suffices key : ∀ P : a_R → Hp → Prop, (∀ r h2, NeedR (0 ≤ s ∧ s < 3) 0 h r h2 → P r h2) → AW l G M_MS_needSet P 0 [(0, vi s)] [] (h) from key _ (fun _ _ q => q)
  intro P hP
  refine aw_iload_n d_MS_needSet_0 rfl rfl ?_
  refine aw_if_lt (tgt := 9) d_MS_needSet_1 (by decide) (fun c_1 => ?_) (fun c_1 => ?_)
  · skip
    exact ax_throw hfl th_MS_needSet_9 rm.1 rm.2 (hP _ _ (Or.inr ⟨by omega, rfl, rfl⟩))
  · skip
    refine aw_iload_n d_MS_needSet_4 rfl rfl ?_
    refine aw_iconst d_MS_needSet_5 ⟨by decide, by decide⟩ ?_
    refine aw_icmp_lt (tgt := 19) d_MS_needSet_6 (by decide) (fun c_6 => ?_) (fun c_6 => ?_)
    · skip
      exact aw_vret d_MS_needSet_19 rfl (hP _ _ (Or.inl ⟨by omega, rfl, rfl⟩))
    · skip
      exact ax_throw hfl th_MS_needSet_9 rm.1 rm.2 (hP _ _ (Or.inr ⟨by omega, rfl, rfl⟩))
set_option maxHeartbeats 800000 in
set_option maxRecDepth 100000 in
theorem c_MS_dsaKeys0 {l : Launch} {G : a_G} {h : Hp} {I L : Nat → Int → Int} (S : Shp h) (hfl : l.flags = flags0) (rm : hX h + 1 ≤ a_NX ∧ hU h + 6 ≤ a_US) (SD : Std I L) (cb : CB I) : AW l G M_MS_dsaKeys (DsR h I L ceK (cKeys 0 (I 14 1) (fun x => byAt I 14 15 (0 + x))) (fun v I' L' => FC (fun a => a = 16 ∨ a = 17 ∨ a = 18 ∨ a = 19 ∨ 36 ≤ a ∧ a ≤ 174 ∧ a ≠ 43) I L I' L' ∧ v = sSec 0 ∧ HB I' 16 17 (32 + 320 * pK 0) (kgPk 0 (fun x => byAt I 14 15 (0 + x))) ∧ HB I' 18 19 (sSec 0) (kgSk 0 (fun x => byAt I 14 15 (0 + x))))) 0 (a_ar 0 [vr 12, vi 0]) [] (sD h I L) := by
  suffices key : ∀ P : a_R → Hp → Prop, (∀ r_ h2_, DsR h I L ceK (cKeys 0 (I 14 1) (fun x => byAt I 14 15 (0 + x))) (fun v I' L' => FC (fun a => a = 16 ∨ a = 17 ∨ a = 18 ∨ a = 19 ∨ 36 ≤ a ∧ a ≤ 174 ∧ a ≠ 43) I L I' L' ∧ v = sSec 0 ∧ HB I' 16 17 (32 + 320 * pK 0) (kgPk 0 (fun x => byAt I 14 15 (0 + x))) ∧ HB I' 18 19 (sSec 0) (kgSk 0 (fun x => byAt I 14 15 (0 + x)))) r_ h2_ → P r_ h2_) → AW l G M_MS_dsaKeys P 0 [(0, vr 12), (1, vi 0)] [] (sD h I L) from key _ (fun _ _ q => q)
  intro P hP
  have cb0 : 0 ≤ I 14 1 ∧ I 14 1 ≤ 8192 := cb.1 0 (by decide)
  refine aw_iload_n d_MS_dsaKeys_0 rfl rfl ?_
  refine ax_Stn (st := []) (as := [vi 0]) d_MS_dsaKeys_1 cs_MS_dsaKeys_1 (c_MS_needSet hfl rm) rfl rfl rfl (fun ok_1 => ?_) (fun no_1 => at_leave rfl (hP _ _ (absurd (by decide) no_1)))
  show AW l G M_MS_dsaKeys P 4 [(0, vr 12), (1, vi 0)] [] (sD h I L)
  refine aw_aload_n d_MS_dsaKeys_4 rfl rfl ?_
  refine ax_getR (b := 13) d_MS_dsaKeys_5 fd_MS_11 (k_12 S) (r_12_0 S) ?_
  refine aw_iconst d_MS_dsaKeys_8 ⟨by decide, by decide⟩ ?_
  refine ax_aald (b := 14) d_MS_dsaKeys_9 ⟨by rw [(k_13 S)]; decide, by rw [(k_13 S)]; decide⟩ (by omega) (by rw [n_13 S]; omega) (r_13_0 S) ?_
  refine ax_getIe (x := I 14 1) d_MS_dsaKeys_10 fd_MS_55 (k_14 S) (rfl) ?_
  refine aw_bipush d_MS_dsaKeys_13 ⟨by decide, by decide⟩ (by decide) ?_
  refine aw_icmp_eq (tgt := 28) d_MS_dsaKeys_15 (by decide) (fun c_15 => ?_) (fun c_15 => ?_)
  · skip
    refine aw_aload_n d_MS_dsaKeys_28 rfl rfl ?_
    refine ax_getR (b := 143) d_MS_dsaKeys_29 fd_MS_37 (k_12 S) (r_12_3 S) ?_
    refine aw_aload_n d_MS_dsaKeys_32 rfl rfl ?_
    refine ax_getR (b := 13) d_MS_dsaKeys_33 fd_MS_11 (k_12 S) (r_12_0 S) ?_
    refine aw_aload_n d_MS_dsaKeys_36 rfl rfl ?_
    refine ax_getR (b := 32) d_MS_dsaKeys_37 fd_MS_24 (k_12 S) (r_12_2 S) ?_
    refine aw_iload_n d_MS_dsaKeys_40 rfl rfl ?_
    refine ax_aald (b := 33) d_MS_dsaKeys_41 ⟨by rw [(k_32 S)]; decide, by rw [(k_32 S)]; decide⟩ (by omega) (by rw [n_32 S]; omega) (r_32_0 S) ?_
    refine ax_VtT (st := []) (as := [vr 13, vr 33]) (b := 143) d_MS_dsaKeys_42 cs_MS_dsaKeys_42 (k_143 S) (c_KM_make0 S hfl rm SD (by omega)) rfl rfl rfl (fun ok_ I2 L2 q_ => ?_) (fun no_ I2 L2 q_ => at_leave rfl (hP _ _ (dsNo 3 4 (cKeys_3 (by decide) (by omega) no_) (by decide) rfl q_)))
    show AW l G M_MS_dsaKeys P 45 [(0, vr 12), (1, vi 0)] [] (sD h I2 L2)
    refine aw_aload_n d_MS_dsaKeys_45 rfl rfl ?_
    refine ax_getR (b := 13) d_MS_dsaKeys_46 fd_MS_11 (k_12 S) (r_12_0 S) ?_
    refine aw_iconst d_MS_dsaKeys_49 ⟨by decide, by decide⟩ ?_
    refine ax_aald (b := 18) d_MS_dsaKeys_50 ⟨by rw [(k_13 S)]; decide, by rw [(k_13 S)]; decide⟩ (by omega) (by rw [n_13 S]; omega) (r_13_2 S) ?_
    refine ax_getIe (x := 2560) d_MS_dsaKeys_51 fd_MS_55 (k_18 S) (q_.2.2.1) ?_
    exact aw_iret d_MS_dsaKeys_54 rfl (hP _ _ (Or.inl ⟨cKeys_0 (by decide) (by omega) ok_, _, I2, L2, ⟨q_.1, rfl, q_.2.1, q_.2.2⟩, rfl, rfl⟩))
  · skip
    exact ax_throw hfl th_MS_dsaKeys_18 rm.1 rm.2 (hP _ _ (dsNo 2 2 (cKeys_2 (by decide) (by omega)) (by decide) rfl frC.rfl'))
set_option maxHeartbeats 800000 in
set_option maxRecDepth 100000 in
theorem c_MS_dsaKeys1 {l : Launch} {G : a_G} {h : Hp} {I L : Nat → Int → Int} (S : Shp h) (hfl : l.flags = flags0) (rm : hX h + 1 ≤ a_NX ∧ hU h + 6 ≤ a_US) (SD : Std I L) (cb : CB I) : AW l G M_MS_dsaKeys (DsR h I L ceK (cKeys 1 (I 14 1) (fun x => byAt I 14 15 (0 + x))) (fun v I' L' => FC (fun a => a = 16 ∨ a = 17 ∨ a = 18 ∨ a = 19 ∨ 36 ≤ a ∧ a ≤ 174 ∧ a ≠ 43) I L I' L' ∧ v = sSec 1 ∧ HB I' 16 17 (32 + 320 * pK 1) (kgPk 1 (fun x => byAt I 14 15 (0 + x))) ∧ HB I' 18 19 (sSec 1) (kgSk 1 (fun x => byAt I 14 15 (0 + x))))) 0 (a_ar 0 [vr 12, vi 1]) [] (sD h I L) := by
  suffices key : ∀ P : a_R → Hp → Prop, (∀ r_ h2_, DsR h I L ceK (cKeys 1 (I 14 1) (fun x => byAt I 14 15 (0 + x))) (fun v I' L' => FC (fun a => a = 16 ∨ a = 17 ∨ a = 18 ∨ a = 19 ∨ 36 ≤ a ∧ a ≤ 174 ∧ a ≠ 43) I L I' L' ∧ v = sSec 1 ∧ HB I' 16 17 (32 + 320 * pK 1) (kgPk 1 (fun x => byAt I 14 15 (0 + x))) ∧ HB I' 18 19 (sSec 1) (kgSk 1 (fun x => byAt I 14 15 (0 + x)))) r_ h2_ → P r_ h2_) → AW l G M_MS_dsaKeys P 0 [(0, vr 12), (1, vi 1)] [] (sD h I L) from key _ (fun _ _ q => q)
  intro P hP
  have cb0 : 0 ≤ I 14 1 ∧ I 14 1 ≤ 8192 := cb.1 0 (by decide)
  refine aw_iload_n d_MS_dsaKeys_0 rfl rfl ?_
  refine ax_Stn (st := []) (as := [vi 1]) d_MS_dsaKeys_1 cs_MS_dsaKeys_1 (c_MS_needSet hfl rm) rfl rfl rfl (fun ok_1 => ?_) (fun no_1 => at_leave rfl (hP _ _ (absurd (by decide) no_1)))
  show AW l G M_MS_dsaKeys P 4 [(0, vr 12), (1, vi 1)] [] (sD h I L)
  refine aw_aload_n d_MS_dsaKeys_4 rfl rfl ?_
  refine ax_getR (b := 13) d_MS_dsaKeys_5 fd_MS_11 (k_12 S) (r_12_0 S) ?_
  refine aw_iconst d_MS_dsaKeys_8 ⟨by decide, by decide⟩ ?_
  refine ax_aald (b := 14) d_MS_dsaKeys_9 ⟨by rw [(k_13 S)]; decide, by rw [(k_13 S)]; decide⟩ (by omega) (by rw [n_13 S]; omega) (r_13_0 S) ?_
  refine ax_getIe (x := I 14 1) d_MS_dsaKeys_10 fd_MS_55 (k_14 S) (rfl) ?_
  refine aw_bipush d_MS_dsaKeys_13 ⟨by decide, by decide⟩ (by decide) ?_
  refine aw_icmp_eq (tgt := 28) d_MS_dsaKeys_15 (by decide) (fun c_15 => ?_) (fun c_15 => ?_)
  · skip
    refine aw_aload_n d_MS_dsaKeys_28 rfl rfl ?_
    refine ax_getR (b := 143) d_MS_dsaKeys_29 fd_MS_37 (k_12 S) (r_12_3 S) ?_
    refine aw_aload_n d_MS_dsaKeys_32 rfl rfl ?_
    refine ax_getR (b := 13) d_MS_dsaKeys_33 fd_MS_11 (k_12 S) (r_12_0 S) ?_
    refine aw_aload_n d_MS_dsaKeys_36 rfl rfl ?_
    refine ax_getR (b := 32) d_MS_dsaKeys_37 fd_MS_24 (k_12 S) (r_12_2 S) ?_
    refine aw_iload_n d_MS_dsaKeys_40 rfl rfl ?_
    refine ax_aald (b := 34) d_MS_dsaKeys_41 ⟨by rw [(k_32 S)]; decide, by rw [(k_32 S)]; decide⟩ (by omega) (by rw [n_32 S]; omega) (r_32_1 S) ?_
    refine ax_VtT (st := []) (as := [vr 13, vr 34]) (b := 143) d_MS_dsaKeys_42 cs_MS_dsaKeys_42 (k_143 S) (c_KM_make1 S hfl rm SD (by omega)) rfl rfl rfl (fun ok_ I2 L2 q_ => ?_) (fun no_ I2 L2 q_ => at_leave rfl (hP _ _ (dsNo 3 4 (cKeys_3 (by decide) (by omega) no_) (by decide) rfl q_)))
    show AW l G M_MS_dsaKeys P 45 [(0, vr 12), (1, vi 1)] [] (sD h I2 L2)
    refine aw_aload_n d_MS_dsaKeys_45 rfl rfl ?_
    refine ax_getR (b := 13) d_MS_dsaKeys_46 fd_MS_11 (k_12 S) (r_12_0 S) ?_
    refine aw_iconst d_MS_dsaKeys_49 ⟨by decide, by decide⟩ ?_
    refine ax_aald (b := 18) d_MS_dsaKeys_50 ⟨by rw [(k_13 S)]; decide, by rw [(k_13 S)]; decide⟩ (by omega) (by rw [n_13 S]; omega) (r_13_2 S) ?_
    refine ax_getIe (x := 4032) d_MS_dsaKeys_51 fd_MS_55 (k_18 S) (q_.2.2.1) ?_
    exact aw_iret d_MS_dsaKeys_54 rfl (hP _ _ (Or.inl ⟨cKeys_0 (by decide) (by omega) ok_, _, I2, L2, ⟨q_.1, rfl, q_.2.1, q_.2.2⟩, rfl, rfl⟩))
  · skip
    exact ax_throw hfl th_MS_dsaKeys_18 rm.1 rm.2 (hP _ _ (dsNo 2 2 (cKeys_2 (by decide) (by omega)) (by decide) rfl frC.rfl'))
set_option maxHeartbeats 800000 in
set_option maxRecDepth 100000 in
theorem c_MS_dsaKeys2 {l : Launch} {G : a_G} {h : Hp} {I L : Nat → Int → Int} (S : Shp h) (hfl : l.flags = flags0) (rm : hX h + 1 ≤ a_NX ∧ hU h + 6 ≤ a_US) (SD : Std I L) (cb : CB I) : AW l G M_MS_dsaKeys (DsR h I L ceK (cKeys 2 (I 14 1) (fun x => byAt I 14 15 (0 + x))) (fun v I' L' => FC (fun a => a = 16 ∨ a = 17 ∨ a = 18 ∨ a = 19 ∨ 36 ≤ a ∧ a ≤ 174 ∧ a ≠ 43) I L I' L' ∧ v = sSec 2 ∧ HB I' 16 17 (32 + 320 * pK 2) (kgPk 2 (fun x => byAt I 14 15 (0 + x))) ∧ HB I' 18 19 (sSec 2) (kgSk 2 (fun x => byAt I 14 15 (0 + x))))) 0 (a_ar 0 [vr 12, vi 2]) [] (sD h I L) := by
  suffices key : ∀ P : a_R → Hp → Prop, (∀ r_ h2_, DsR h I L ceK (cKeys 2 (I 14 1) (fun x => byAt I 14 15 (0 + x))) (fun v I' L' => FC (fun a => a = 16 ∨ a = 17 ∨ a = 18 ∨ a = 19 ∨ 36 ≤ a ∧ a ≤ 174 ∧ a ≠ 43) I L I' L' ∧ v = sSec 2 ∧ HB I' 16 17 (32 + 320 * pK 2) (kgPk 2 (fun x => byAt I 14 15 (0 + x))) ∧ HB I' 18 19 (sSec 2) (kgSk 2 (fun x => byAt I 14 15 (0 + x)))) r_ h2_ → P r_ h2_) → AW l G M_MS_dsaKeys P 0 [(0, vr 12), (1, vi 2)] [] (sD h I L) from key _ (fun _ _ q => q)
  intro P hP
  have cb0 : 0 ≤ I 14 1 ∧ I 14 1 ≤ 8192 := cb.1 0 (by decide)
  refine aw_iload_n d_MS_dsaKeys_0 rfl rfl ?_
  refine ax_Stn (st := []) (as := [vi 2]) d_MS_dsaKeys_1 cs_MS_dsaKeys_1 (c_MS_needSet hfl rm) rfl rfl rfl (fun ok_1 => ?_) (fun no_1 => at_leave rfl (hP _ _ (absurd (by decide) no_1)))
  show AW l G M_MS_dsaKeys P 4 [(0, vr 12), (1, vi 2)] [] (sD h I L)
  refine aw_aload_n d_MS_dsaKeys_4 rfl rfl ?_
  refine ax_getR (b := 13) d_MS_dsaKeys_5 fd_MS_11 (k_12 S) (r_12_0 S) ?_
  refine aw_iconst d_MS_dsaKeys_8 ⟨by decide, by decide⟩ ?_
  refine ax_aald (b := 14) d_MS_dsaKeys_9 ⟨by rw [(k_13 S)]; decide, by rw [(k_13 S)]; decide⟩ (by omega) (by rw [n_13 S]; omega) (r_13_0 S) ?_
  refine ax_getIe (x := I 14 1) d_MS_dsaKeys_10 fd_MS_55 (k_14 S) (rfl) ?_
  refine aw_bipush d_MS_dsaKeys_13 ⟨by decide, by decide⟩ (by decide) ?_
  refine aw_icmp_eq (tgt := 28) d_MS_dsaKeys_15 (by decide) (fun c_15 => ?_) (fun c_15 => ?_)
  · skip
    refine aw_aload_n d_MS_dsaKeys_28 rfl rfl ?_
    refine ax_getR (b := 143) d_MS_dsaKeys_29 fd_MS_37 (k_12 S) (r_12_3 S) ?_
    refine aw_aload_n d_MS_dsaKeys_32 rfl rfl ?_
    refine ax_getR (b := 13) d_MS_dsaKeys_33 fd_MS_11 (k_12 S) (r_12_0 S) ?_
    refine aw_aload_n d_MS_dsaKeys_36 rfl rfl ?_
    refine ax_getR (b := 32) d_MS_dsaKeys_37 fd_MS_24 (k_12 S) (r_12_2 S) ?_
    refine aw_iload_n d_MS_dsaKeys_40 rfl rfl ?_
    refine ax_aald (b := 35) d_MS_dsaKeys_41 ⟨by rw [(k_32 S)]; decide, by rw [(k_32 S)]; decide⟩ (by omega) (by rw [n_32 S]; omega) (r_32_2 S) ?_
    refine ax_VtT (st := []) (as := [vr 13, vr 35]) (b := 143) d_MS_dsaKeys_42 cs_MS_dsaKeys_42 (k_143 S) (c_KM_make2 S hfl rm SD (by omega)) rfl rfl rfl (fun ok_ I2 L2 q_ => ?_) (fun no_ I2 L2 q_ => at_leave rfl (hP _ _ (dsNo 3 4 (cKeys_3 (by decide) (by omega) no_) (by decide) rfl q_)))
    show AW l G M_MS_dsaKeys P 45 [(0, vr 12), (1, vi 2)] [] (sD h I2 L2)
    refine aw_aload_n d_MS_dsaKeys_45 rfl rfl ?_
    refine ax_getR (b := 13) d_MS_dsaKeys_46 fd_MS_11 (k_12 S) (r_12_0 S) ?_
    refine aw_iconst d_MS_dsaKeys_49 ⟨by decide, by decide⟩ ?_
    refine ax_aald (b := 18) d_MS_dsaKeys_50 ⟨by rw [(k_13 S)]; decide, by rw [(k_13 S)]; decide⟩ (by omega) (by rw [n_13 S]; omega) (r_13_2 S) ?_
    refine ax_getIe (x := 4896) d_MS_dsaKeys_51 fd_MS_55 (k_18 S) (q_.2.2.1) ?_
    exact aw_iret d_MS_dsaKeys_54 rfl (hP _ _ (Or.inl ⟨cKeys_0 (by decide) (by omega) ok_, _, I2, L2, ⟨q_.1, rfl, q_.2.1, q_.2.2⟩, rfl, rfl⟩))
  · skip
    exact ax_throw hfl th_MS_dsaKeys_18 rm.1 rm.2 (hP _ _ (dsNo 2 2 (cKeys_2 (by decide) (by omega)) (by decide) rfl frC.rfl'))
set_option maxHeartbeats 800000 in
set_option maxRecDepth 100000 in
theorem c_MS_dsaKeysX {l : Launch} {G : a_G} {h : Hp} {I L : Nat → Int → Int} {s : Int} (S : Shp h) (hfl : l.flags = flags0) (rm : hX h + 1 ≤ a_NX ∧ hU h + 6 ≤ a_US) (SD : Std I L) (cb : CB I) (hs : ¬ (0 ≤ s ∧ s < 3)) : AW l G M_MS_dsaKeys (DsR h I L ceK (cKeys s (I 14 1) (fun x => byAt I 14 15 (0 + x))) (fun v I' L' => FC (fun a => a = 16 ∨ a = 17 ∨ a = 18 ∨ a = 19 ∨ 36 ≤ a ∧ a ≤ 174 ∧ a ≠ 43) I L I' L' ∧ v = sSec s ∧ HB I' 16 17 (32 + 320 * pK s) (kgPk s (fun x => byAt I 14 15 (0 + x))) ∧ HB I' 18 19 (sSec s) (kgSk s (fun x => byAt I 14 15 (0 + x))))) 0 (a_ar 0 [vr 12, vi s]) [] (sD h I L) := by
  suffices key : ∀ P : a_R → Hp → Prop, (∀ r_ h2_, DsR h I L ceK (cKeys s (I 14 1) (fun x => byAt I 14 15 (0 + x))) (fun v I' L' => FC (fun a => a = 16 ∨ a = 17 ∨ a = 18 ∨ a = 19 ∨ 36 ≤ a ∧ a ≤ 174 ∧ a ≠ 43) I L I' L' ∧ v = sSec s ∧ HB I' 16 17 (32 + 320 * pK s) (kgPk s (fun x => byAt I 14 15 (0 + x))) ∧ HB I' 18 19 (sSec s) (kgSk s (fun x => byAt I 14 15 (0 + x)))) r_ h2_ → P r_ h2_) → AW l G M_MS_dsaKeys P 0 [(0, vr 12), (1, vi s)] [] (sD h I L) from key _ (fun _ _ q => q)
  intro P hP
  refine aw_iload_n d_MS_dsaKeys_0 rfl rfl ?_
  refine ax_Stn (st := []) (as := [vi s]) d_MS_dsaKeys_1 cs_MS_dsaKeys_1 (c_MS_needSet hfl rm) rfl rfl rfl (fun ok_1 => ?_) (fun no_1 => at_leave rfl (hP _ _ (dsNo 1 0 (cKeys_1 no_1) (by decide) rfl frC.rfl')))
  show AW l G M_MS_dsaKeys P 4 [(0, vr 12), (1, vi s)] [] (sD h I L)
  exact absurd ok_1 hs
theorem c_MS_dsaKeys {l : Launch} {G : a_G} {h : Hp} {I L : Nat → Int → Int} {s : Int} (S : Shp h) (hfl : l.flags = flags0) (rm : hX h + 1 ≤ a_NX ∧ hU h + 6 ≤ a_US) (SD : Std I L) (cb : CB I) : AW l G M_MS_dsaKeys (DsR h I L ceK (cKeys s (I 14 1) (fun x => byAt I 14 15 (0 + x))) (fun v I' L' => FC (fun a => a = 16 ∨ a = 17 ∨ a = 18 ∨ a = 19 ∨ 36 ≤ a ∧ a ≤ 174 ∧ a ≠ 43) I L I' L' ∧ v = sSec s ∧ HB I' 16 17 (32 + 320 * pK s) (kgPk s (fun x => byAt I 14 15 (0 + x))) ∧ HB I' 18 19 (sSec s) (kgSk s (fun x => byAt I 14 15 (0 + x))))) 0 (a_ar 0 [vr 12, vi s]) [] (sD h I L) := by
  by_cases hs : 0 ≤ s ∧ s < 3
  · rcases (by omega : s = 0 ∨ s = 1 ∨ s = 2) with e | e | e
    · subst e; exact c_MS_dsaKeys0 S hfl rm SD cb
    · subst e; exact c_MS_dsaKeys1 S hfl rm SD cb
    · subst e; exact c_MS_dsaKeys2 S hfl rm SD cb
  · exact c_MS_dsaKeysX S hfl rm SD cb hs
set_option maxHeartbeats 800000 in
set_option maxRecDepth 100000 in
theorem c_La_dsaKeys {l : Launch} {G : a_G} {h : Hp} {I L : Nat → Int → Int} {s : Int} (S : Shp h) (hfl : l.flags = flags0) (rm : hX h + 1 ≤ a_NX ∧ hU h + 6 ≤ a_US) (SD : Std I L) (cb : CB I) : AW l G M_La_dsaKeys (WsR h I L ceK (cKeys s (I 14 1) (fun x => byAt I 14 15 (0 + x))) (fun v I' L' => FC (fun a => a = 16 ∨ a = 17 ∨ a = 18 ∨ a = 19 ∨ 36 ≤ a ∧ a ≤ 174 ∧ a ≠ 43) I L I' L' ∧ v = sSec s ∧ HB I' 16 17 (32 + 320 * pK s) (kgPk s (fun x => byAt I 14 15 (0 + x))) ∧ HB I' 18 19 (sSec s) (kgSk s (fun x => byAt I 14 15 (0 + x))))) 0 (a_ar 0 [vr 12, vi s, vr 268]) [] (sD h I L) := by
  suffices key : ∀ P : a_R → Hp → Prop, (∀ r_ h2_, WsR h I L ceK (cKeys s (I 14 1) (fun x => byAt I 14 15 (0 + x))) (fun v I' L' => FC (fun a => a = 16 ∨ a = 17 ∨ a = 18 ∨ a = 19 ∨ 36 ≤ a ∧ a ≤ 174 ∧ a ≠ 43) I L I' L' ∧ v = sSec s ∧ HB I' 16 17 (32 + 320 * pK s) (kgPk s (fun x => byAt I 14 15 (0 + x))) ∧ HB I' 18 19 (sSec s) (kgSk s (fun x => byAt I 14 15 (0 + x)))) r_ h2_ → P r_ h2_) → AW l G M_La_dsaKeys P 0 [(0, vr 12), (1, vi s), (2, vr 268)] [] (sD h I L) from key _ (fun _ _ q => q)
  intro P hP
  refine aw_aload_n d_La_dsaKeys_0 rfl rfl ?_
  refine aw_iconst d_La_dsaKeys_1 ⟨by decide, by decide⟩ ?_
  refine aw_aload_n d_La_dsaKeys_2 rfl rfl ?_
  refine aw_iload_n d_La_dsaKeys_3 rfl rfl ?_
  refine ax_Vt (st := [vi 0, vr 268]) (as := [vi s]) (b := 12) d_La_dsaKeys_4 cs_La_dsaKeys_4 (k_12 S) (c_MS_dsaKeys S hfl rm SD cb) rfl rfl rfl (fun v_ h_ q_ => ?_) (fun x_ h_ q_ => ?_)
  · rcases q_ with ⟨q1, v, I2, L2, q2, q3, q4⟩ | ⟨q1, I2, L2, q2, q3, q4⟩
    · cases q3; subst q4
      show AW l G M_La_dsaKeys P 7 [(0, vr 12), (1, vi s), (2, vr 268)] [vi v, vi 0, vr 268] (sD h I2 L2)
      refine aw_i2l d_La_dsaKeys_7 ?_
      refine ax_last d_La_dsaKeys_8 (k_268 S) (by decide) (by omega) (by rw [n_268 S]; omega) ?_
      refine aw_goto (tgt := 21) d_La_dsaKeys_9 (by decide) ?_
      refine aw_iconst d_La_dsaKeys_21 ⟨by decide, by decide⟩ ?_
      exact aw_iret d_La_dsaKeys_22 rfl (hP _ _ (Or.inl ⟨q1, _, I2, L2, q2, rfl, rfl⟩))
    · cases q3
  · rcases q_ with ⟨q1, v, I2, L2, q2, q3, q4⟩ | ⟨q1, I2, L2, q2, q3, q4⟩
    · cases q3
    · cases q3; subst q4
      rcases cKeys_or s (I 14 1) (fun x => byAt I 14 15 (0 + x)) with cc | cc | cc | cc
      · exact absurd cc q1
      · rw [cc, show ceK 1 = 0 from rfl]
        refine at_catch (e := 0) (tgt := 12) (i := 19) (pre := []) (rest := [(0, 9, 15, 46), (0, 9, 18, 48)]) (a := 0) (b := 9) wN_k rfl ⟨by decide, by decide⟩ (by decide) cl_19 ca_0 (fun q hq => by cases hq) ?_
        refine aw_astore_n (lv' := [(3, vr (hX h)), (0, vr 12), (1, vi s), (2, vr 268)]) d_La_dsaKeys_12 rfl (by decide) rfl ?_
        refine aw_iconst d_La_dsaKeys_13 ⟨by decide, by decide⟩ ?_
        exact aw_iret d_La_dsaKeys_14 rfl (hP _ _ (Or.inr ⟨q1, I2, L2, q2, by rw [cc], by rw [cc]; rfl⟩))
      · rw [cc, show ceK 2 = 2 from rfl]
        refine at_catch (e := 2) (tgt := 15) (i := 46) (pre := [(0, 9, 12, 19)]) (rest := [(0, 9, 18, 48)]) (a := 0) (b := 9) wN_k rfl ⟨by decide, by decide⟩ (by decide) cl_46 ca_2 (fun q hq => by simp only [List.mem_cons, List.not_mem_nil, or_false] at hq; subst hq; (first | exact ⟨by decide, 0, cl_19, nc_2_0⟩)) ?_
        refine aw_astore_n (lv' := [(3, vr (hX h)), (0, vr 12), (1, vi s), (2, vr 268)]) d_La_dsaKeys_15 rfl (by decide) rfl ?_
        refine aw_iconst d_La_dsaKeys_16 ⟨by decide, by decide⟩ ?_
        exact aw_iret d_La_dsaKeys_17 rfl (hP _ _ (Or.inr ⟨q1, I2, L2, q2, by rw [cc], by rw [cc]; rfl⟩))
      · rw [cc, show ceK 3 = 4 from rfl]
        refine at_catch (e := 4) (tgt := 18) (i := 48) (pre := [(0, 9, 12, 19), (0, 9, 15, 46)]) (rest := []) (a := 0) (b := 9) wN_k rfl ⟨by decide, by decide⟩ (by decide) cl_48 ca_4 (fun q hq => by simp only [List.mem_cons, List.not_mem_nil, or_false] at hq; rcases hq with rfl | rfl <;> (first | exact ⟨by decide, 0, cl_19, nc_4_0⟩ | exact ⟨by decide, 2, cl_46, nc_4_2⟩)) ?_
        refine aw_astore_n (lv' := [(3, vr (hX h)), (0, vr 12), (1, vi s), (2, vr 268)]) d_La_dsaKeys_18 rfl (by decide) rfl ?_
        refine aw_iconst d_La_dsaKeys_19 ⟨by decide, by decide⟩ ?_
        exact aw_iret d_La_dsaKeys_20 rfl (hP _ _ (Or.inr ⟨q1, I2, L2, q2, by rw [cc], by rw [cc]; rfl⟩))
