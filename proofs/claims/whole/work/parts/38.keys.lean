/-! KeyMaker: seeds, secrets, images -/
def HB (I : Nat → Int → Int) (b r : Nat) (n : Int) (g : Int → Int) : Prop := I b 1 = n ∧ ∀ k, 0 ≤ k → k < n → byAt I b r k = g k
theorem HB.fc {p : Nat → Prop} {I L I' L' : Nat → Int → Int} {b r : Nat} {n : Int} {g : Int → Int} (h : HB I b r n g) (F : FC p I L I' L') (hb : ¬ p b) (hr : ¬ p r) : HB I' b r n g := ⟨(F.1 b 1 hb).trans h.1, fun k x y => (byAt_fc F hb hr).trans (h.2 k x y)⟩
theorem HB.put {I : Nat → Int → Int} {b r : Nat} {n m : Int} {g g' : Int → Int} (h : HB I b r n g) (hbr : b ≠ r) (h0 : 0 ≤ n) (hm : 0 ≤ m) (hg : ∀ k, 0 ≤ k → k < m → g' k % 256 = g (n + k)) : HB (byPut I b r m g') b r (n + m) g := by
  refine ⟨by rw [byPut_cnt, h.1], fun k k0 k1 => ?_⟩
  unfold byAt
  rw [byPut_cnt, if_pos ⟨k0, by rw [h.1]; exact k1⟩, byPut_row hbr]
  by_cases c : k < n
  · rw [if_neg (by rw [h.1]; omega)]
    have := h.2 k k0 c
    unfold byAt at this
    rwa [if_pos ⟨k0, by rw [h.1]; exact c⟩] at this
  · rw [if_pos (by rw [h.1]; omega), a_m8w, h.1, hg _ (by omega) (by omega), show n + (k - n) = k by omega]
theorem HB.zero {I : Nat → Int → Int} {b r : Nat} {g : Int → Int} : HB (a_up I b 1 0) b r 0 g := ⟨a_up_at, fun k x y => by omega⟩
def ksS (g : Int → Int) (k l : Int) : Sp := spTurn (spTake (spTake (spPart (spStart 136) g 32) k) l)
def pS (A V : Int → Int → Int) (s c : Int) : Nat → Int
  | 0 => 0
  | n + 1 => pS A V s c n + A (s + n) c * V n c
theorem mS_pS {I : Nat → Int → Int} {A V : Int → Int → Int} {s c : Int} : ∀ n : Nat, (∀ k : Nat, k < n → I (45 + (s + k).toNat) c = A (s + k) c) → (∀ k : Nat, k < n → I (119 + k) c = V k c) → mS I s c n = pS A V s c n
  | 0, _, _ => rfl
  | n + 1, h1, h2 => by
    show mS I s c n + _ = pS A V s c n + _
    rw [mS_pS n (fun k hk => h1 k (by omega)) (fun k hk => h2 k (by omega)), h1 n (by omega), h2 n (by omega)]
set_option maxHeartbeats 800000 in
set_option maxRecDepth 100000 in
theorem c_KM_drawSeeds0 {l : Launch} {G : a_G} {h : Hp} {I L : Nat → Int → Int} (S : Shp h) (SD : Std I L) (hc : I 14 1 ≤ 8192) : AW l G M_KM_drawSeeds (Ret (fun _ : (Nat → Int → Int) × (Nat → Int → Int) => none) (fun u => sD h u.1 u.2) (fun u => FC (fun a => a = 38 ∨ a = 144 ∨ a = 145) I L u.1 u.2 ∧ HB u.1 144 145 128 (spOut (ksS (fun x => byAt I 14 15 (0 + x)) 4 4)))) 0 (a_ar 0 [vr 143, vr 14, vr 33]) [] (sD h I L) := by
  suffices key : ∀ P : a_R → Hp → Prop, (∀ I2 L2, FC (fun a => a = 38 ∨ a = 144 ∨ a = 145) I L I2 L2 → HB I2 144 145 128 (spOut (ksS (fun x => byAt I 14 15 (0 + x)) 4 4)) → P (.inl none) (sD h I2 L2)) → AW l G M_KM_drawSeeds P 0 [(0, vr 143), (1, vr 14), (2, vr 33)] [] (sD h I L) from key _ (fun I2 L2 q1 q2 => ⟨(I2, L2), rfl, rfl, q1, q2⟩)
  intro P hP
  refine aw_aload_n d_KM_drawSeeds_0 rfl rfl ?_
  refine ax_getR (b := 36) d_KM_drawSeeds_1 fd_KM_20 (k_143 S) (r_143_0 S) ?_
  refine ax_getR (b := 38) d_KM_drawSeeds_4 fd_KM_42 (k_36 S) (r_36_1 S) ?_
  refine ax_Vr (st := []) (as := []) (b := 38) d_KM_drawSeeds_7 cs_KM_drawSeeds_7 (k_38 S) (c_Sp_start256 S) rfl rfl rfl (fun u_7 q_7 => ?_)
  obtain ⟨I1, L1⟩ := u_7
  obtain ⟨F1, e1⟩ := q_7
  dsimp only at F1 e1
  show AW l G M_KM_drawSeeds P 10 [(0, vr 143), (1, vr 14), (2, vr 33)] [] (sD h I1 L1)
  refine aw_aload_n d_KM_drawSeeds_10 rfl rfl ?_
  refine ax_getR (b := 36) d_KM_drawSeeds_11 fd_KM_20 (k_143 S) (r_143_0 S) ?_
  refine ax_getR (b := 38) d_KM_drawSeeds_14 fd_KM_42 (k_36 S) (r_36_1 S) ?_
  refine aw_aload_n d_KM_drawSeeds_17 rfl rfl ?_
  refine aw_iconst d_KM_drawSeeds_18 ⟨by decide, by decide⟩ ?_
  refine aw_bipush d_KM_drawSeeds_19 ⟨by decide, by decide⟩ (by decide) ?_
  refine ax_Vr (st := []) (as := [vr 14, vi 0, vi 32]) (b := 38) d_KM_drawSeeds_21 cs_KM_drawSeeds_21 (k_38 S) (c_Sp_takePart S (SD.1.sp F1) (by rw [e1]; exact (spStart_lt (by decide) (by decide)).1) (ks S (i := 0) (by decide)) ⟨by decide, by decide⟩ (by rw [F1.1 14 1 (by decide), nks S (i := 0) (by decide)]; omega)) rfl rfl rfl (fun u_21 q_21 => ?_)
  obtain ⟨I2, L2⟩ := u_21
  obtain ⟨F2, e2⟩ := q_21
  dsimp only at F2 e2
  show AW l G M_KM_drawSeeds P 24 [(0, vr 143), (1, vr 14), (2, vr 33)] [] (sD h I2 L2)
  refine aw_aload_n d_KM_drawSeeds_24 rfl rfl ?_
  refine ax_getR (b := 36) d_KM_drawSeeds_25 fd_KM_20 (k_143 S) (r_143_0 S) ?_
  refine ax_getR (b := 38) d_KM_drawSeeds_28 fd_KM_42 (k_36 S) (r_36_1 S) ?_
  refine aw_aload_n d_KM_drawSeeds_31 rfl rfl ?_
  refine ax_getIe (x := 4) d_KM_drawSeeds_32 fd_KM_57 (k_33 S) (Eq.trans ((F1.tr F2).1 33 0 (by decide)) (pc_33_0 SD.2.1)) ?_
  refine ax_Vr (st := []) (as := [vi 4]) (b := 38) d_KM_drawSeeds_35 cs_KM_drawSeeds_35 (k_38 S) (c_Sp_take S ((SD.1.sp F1).sp F2) (by rw [e2, e1]; exact spPart_ok ((spStart_lt (by decide) (by decide)).1) _ _)) rfl rfl rfl (fun u_35 q_35 => ?_)
  obtain ⟨I3, L3⟩ := u_35
  obtain ⟨F3, e3⟩ := q_35
  dsimp only at F3 e3
  show AW l G M_KM_drawSeeds P 38 [(0, vr 143), (1, vr 14), (2, vr 33)] [] (sD h I3 L3)
  refine aw_aload_n d_KM_drawSeeds_38 rfl rfl ?_
  refine ax_getR (b := 36) d_KM_drawSeeds_39 fd_KM_20 (k_143 S) (r_143_0 S) ?_
  refine ax_getR (b := 38) d_KM_drawSeeds_42 fd_KM_42 (k_36 S) (r_36_1 S) ?_
  refine aw_aload_n d_KM_drawSeeds_45 rfl rfl ?_
  refine ax_getIe (x := 4) d_KM_drawSeeds_46 fd_KM_66 (k_33 S) (Eq.trans (((F1.tr F2).tr F3).1 33 1 (by decide)) (pc_33_1 SD.2.1)) ?_
  refine ax_Vr (st := []) (as := [vi 4]) (b := 38) d_KM_drawSeeds_49 cs_KM_drawSeeds_49 (k_38 S) (c_Sp_take S (((SD.1.sp F1).sp F2).sp F3) (by rw [e3, e2, e1]; exact spTake_ok (spPart_ok ((spStart_lt (by decide) (by decide)).1) _ _) _)) rfl rfl rfl (fun u_49 q_49 => ?_)
  obtain ⟨I4, L4⟩ := u_49
  obtain ⟨F4, e4⟩ := q_49
  dsimp only at F4 e4
  show AW l G M_KM_drawSeeds P 52 [(0, vr 143), (1, vr 14), (2, vr 33)] [] (sD h I4 L4)
  refine aw_aload_n d_KM_drawSeeds_52 rfl rfl ?_
  refine ax_getR (b := 36) d_KM_drawSeeds_53 fd_KM_20 (k_143 S) (r_143_0 S) ?_
  refine ax_getR (b := 38) d_KM_drawSeeds_56 fd_KM_42 (k_36 S) (r_36_1 S) ?_
  refine ax_Vr (st := []) (as := []) (b := 38) d_KM_drawSeeds_59 cs_KM_drawSeeds_59 (k_38 S) (c_Sp_turn S ((((SD.1.sp F1).sp F2).sp F3).sp F4) (by rw [e4, e3, e2, e1]; exact spTake_ok (spTake_ok (spPart_ok ((spStart_lt (by decide) (by decide)).1) _ _) _) _)) rfl rfl rfl (fun u_59 q_59 => ?_)
  obtain ⟨I5, L5⟩ := u_59
  obtain ⟨F5, e5⟩ := q_59
  dsimp only at F5 e5
  show AW l G M_KM_drawSeeds P 62 [(0, vr 143), (1, vr 14), (2, vr 33)] [] (sD h I5 L5)
  have eS : spOf I5 L5 = (ksS (fun x => byAt I 14 15 (0 + x)) 4 4) := by rw [e5, e4, e3, e2, e1, show (fun x => byAt I1 14 15 (0 + x)) = (fun x => byAt I 14 15 (0 + x)) from funext (fun x => byAt_sp F1.1 (by decide) (by decide))]; rfl
  refine aw_aload_n d_KM_drawSeeds_62 rfl rfl ?_
  refine ax_getR (b := 36) d_KM_drawSeeds_63 fd_KM_20 (k_143 S) (r_143_0 S) ?_
  refine ax_getR (b := 38) d_KM_drawSeeds_66 fd_KM_42 (k_36 S) (r_36_1 S) ?_
  refine aw_aload_n d_KM_drawSeeds_69 rfl rfl ?_
  refine ax_getR (b := 144) d_KM_drawSeeds_70 fd_KM_16 (k_143 S) (r_143_1 S) ?_
  refine aw_sipush d_KM_drawSeeds_73 ⟨by decide, by decide⟩ (by decide) ?_
  refine ax_Vr (st := []) (as := [vr 144, vi 128]) (b := 38) d_KM_drawSeeds_76 cs_KM_drawSeeds_76 (k_38 S) (c_Sp_giveTo S (((((SD.1.sp F1).sp F2).sp F3).sp F4).sp F5) (by rw [e5, e4, e3, e2, e1]; exact spTurn_ok (spTake_ok (spTake_ok (spPart_ok ((spStart_lt (by decide) (by decide)).1) _ _) _) _)) ⟨k_144 S, r_144_0 S, k_145 S, by decide, by decide, by decide⟩ ⟨by decide, by decide⟩ (by rw [n_145 S]; omega)) rfl rfl rfl (fun u_76 q_76 => ?_)
  obtain ⟨I9, L9⟩ := u_76
  obtain ⟨F9, f9, e9⟩ := q_76
  dsimp only at F9 f9 e9
  rw [eS] at F9
  show AW l G M_KM_drawSeeds P 79 [(0, vr 143), (1, vr 14), (2, vr 33)] [] (sD h I9 L9)
  exact aw_vret d_KM_drawSeeds_79 rfl (hP _ _ ((((((F1.tr F2).tr F3).tr F4).tr F5).fc).tr (gv_fc F9 f9) (by intro a x; omega)) (gv_at F9 (by decide) (by decide) (by decide)))
set_option maxHeartbeats 800000 in
set_option maxRecDepth 100000 in
theorem c_KM_drawSecrets0 {l : Launch} {G : a_G} {h : Hp} {I L : Nat → Int → Int} {sd : Int → Int} (S : Shp h) (hfl : l.flags = flags0) (rm : hX h + 1 ≤ a_NX ∧ hU h + 6 ≤ a_US) (SD : Std I L) (hs : HB I 144 145 128 sd) : AW l G M_KM_drawSecrets (ThR h I L ((∀ m, 0 ≤ m → m < 16 → (wide (fun x => byAt I 144 145 (0 + x)) (m % 4) (m / 4)).2.1 = 256) ∧ ∀ m, 0 ≤ m → m < 8 → (sml 2 (fun x => byAt I 144 145 (32 + x)) m).2.1 = 256) (fun I' L' => FC (fun a => a = 38 ∨ 45 ≤ a ∧ a ≤ 100 ∨ 102 ≤ a ∧ a ≤ 108 ∨ 110 ≤ a ∧ a ≤ 117) I L I' L' ∧ (∀ m, 0 ≤ m → m < 16 → ∀ c, 0 ≤ c → c < 256 → I' (45 + m.toNat) c = (wide (fun x => byAt I 144 145 (0 + x)) (m % 4) (m / 4)).2.2 c) ∧ (∀ m, 0 ≤ m → m < 4 → ∀ c, 0 ≤ c → c < 256 → I' (102 + m.toNat) c = (sml 2 (fun x => byAt I 144 145 (32 + x)) m).2.2 c % 8380417) ∧ ∀ m, 0 ≤ m → m < 4 → ∀ c, 0 ≤ c → c < 256 → I' (110 + m.toNat) c = (sml 2 (fun x => byAt I 144 145 (32 + x)) (4 + m)).2.2 c % 8380417)) 0 (a_ar 0 [vr 143, vr 33]) [] (sD h I L) := by
  suffices key : ∀ P : a_R → Hp → Prop, (∀ r_ h2_, ThR h I L ((∀ m, 0 ≤ m → m < 16 → (wide (fun x => byAt I 144 145 (0 + x)) (m % 4) (m / 4)).2.1 = 256) ∧ ∀ m, 0 ≤ m → m < 8 → (sml 2 (fun x => byAt I 144 145 (32 + x)) m).2.1 = 256) (fun I' L' => FC (fun a => a = 38 ∨ 45 ≤ a ∧ a ≤ 100 ∨ 102 ≤ a ∧ a ≤ 108 ∨ 110 ≤ a ∧ a ≤ 117) I L I' L' ∧ (∀ m, 0 ≤ m → m < 16 → ∀ c, 0 ≤ c → c < 256 → I' (45 + m.toNat) c = (wide (fun x => byAt I 144 145 (0 + x)) (m % 4) (m / 4)).2.2 c) ∧ (∀ m, 0 ≤ m → m < 4 → ∀ c, 0 ≤ c → c < 256 → I' (102 + m.toNat) c = (sml 2 (fun x => byAt I 144 145 (32 + x)) m).2.2 c % 8380417) ∧ ∀ m, 0 ≤ m → m < 4 → ∀ c, 0 ≤ c → c < 256 → I' (110 + m.toNat) c = (sml 2 (fun x => byAt I 144 145 (32 + x)) (4 + m)).2.2 c % 8380417) r_ h2_ → P r_ h2_) → AW l G M_KM_drawSecrets P 0 [(0, vr 143), (1, vr 33)] [] (sD h I L) from key _ (fun _ _ q => q)
  intro P hP
  refine aw_aload_n d_KM_drawSecrets_0 rfl rfl ?_
  refine ax_getR (b := 36) d_KM_drawSecrets_1 fd_KM_20 (k_143 S) (r_143_0 S) ?_
  refine ax_getR (b := 37) d_KM_drawSecrets_4 fd_KM_76 (k_36 S) (r_36_0 S) ?_
  refine aw_aload_n d_KM_drawSecrets_7 rfl rfl ?_
  refine ax_getR (b := 144) d_KM_drawSecrets_8 fd_KM_16 (k_143 S) (r_143_1 S) ?_
  refine aw_aload_n d_KM_drawSecrets_11 rfl rfl ?_
  refine aw_aload_n d_KM_drawSecrets_12 rfl rfl ?_
  refine ax_getR (b := 36) d_KM_drawSecrets_13 fd_KM_20 (k_143 S) (r_143_0 S) ?_
  refine ax_getR (b := 44) d_KM_drawSecrets_16 fd_KM_80 (k_36 S) (r_36_3 S) ?_
  refine ax_VtT (st := []) (as := [vr 144, vr 33, vr 44]) (b := 37) d_KM_drawSecrets_19 cs_KM_drawSecrets_19 (k_37 S) (c_Sa_matrix0 S hfl rm SD ⟨k_144 S, r_144_0 S, k_145 S, by decide, by decide, by decide⟩ (by omega) (by rw [n_145 S, hs.1]; decide)) rfl rfl rfl (fun ok_19 I_19 L_19 q_19 => ?_) (fun no_19 I_19 L_19 q_19 => at_leave rfl (hP _ _ (Or.inr ⟨fun z => no_19 z.1, I_19, L_19, q_19, rfl, rfl⟩)))
  have F0 : FC (fun a => a = 38 ∨ 45 ≤ a ∧ a ≤ 100 ∨ 102 ≤ a ∧ a ≤ 108 ∨ 110 ≤ a ∧ a ≤ 117) I L I_19 L_19 := q_19.1.mono (by intro a x; omega)
  show AW l G M_KM_drawSecrets P 22 [(0, vr 143), (1, vr 33)] [] (sD h I_19 L_19)
  have okm := ok_19
  refine aw_iconst d_KM_drawSecrets_22 ⟨by decide, by decide⟩ ?_
  refine aw_istore_n (lv' := [(2, vi 0), (0, vr 143), (1, vr 33)]) d_KM_drawSecrets_23 rfl (by decide) rfl ?_
  have lp_24 : ∀ (n_ : Nat) (i : Int) (K : Nat → Int → Int) (M : Nat → Int → Int), (0 ≤ i ∧ i ≤ 4) → (FC (fun a => a = 38 ∨ 45 ≤ a ∧ a ≤ 100 ∨ 102 ≤ a ∧ a ≤ 108 ∨ 110 ≤ a ∧ a ≤ 117) I L K M) → (∀ m, 0 ≤ m → m < 16 → ∀ c, 0 ≤ c → c < 256 → K (45 + m.toNat) c = (wide (fun x => byAt I 144 145 (0 + x)) (m % 4) (m / 4)).2.2 c) → (∀ m, 0 ≤ m → m < i → (sml 2 (fun x => byAt I 144 145 (32 + x)) m).2.1 = 256 ∧ ∀ c, 0 ≤ c → c < 256 → K (102 + m.toNat) c = (sml 2 (fun x => byAt I 144 145 (32 + x)) m).2.2 c % 8380417) → ((4 - i).toNat) = n_ → AW l G M_KM_drawSecrets P 24 [(2, vi i), (1, vr 33), (0, vr 143)] [] (sD h K M) := by
    intro n_
    induction n_ using Nat.strongRecOn with
    | _ n_ ih_24 =>
    intro i K M hi F mt sc hm_24
    refine aw_iload_n d_KM_drawSecrets_24 rfl rfl ?_
    refine aw_aload_n d_KM_drawSecrets_25 rfl rfl ?_
    refine ax_getIe (x := 4) d_KM_drawSecrets_26 fd_KM_66 (k_33 S) (Eq.trans (F.1 33 1 (by omega)) (pc_33_1 SD.2.1)) ?_
    refine aw_icmp_ge (tgt := 78) d_KM_drawSecrets_29 (by decide) (fun c_29 => ?_) (fun c_29 => ?_)
    · skip
      refine aw_iconst d_KM_drawSecrets_78 ⟨by decide, by decide⟩ ?_
      refine aw_istore_n (lv' := [(2, vi 0), (1, vr 33), (0, vr 143)]) d_KM_drawSecrets_79 rfl (by decide) rfl ?_
      have lp_80 : ∀ (n_ : Nat) (i : Int) (K2 : Nat → Int → Int) (M2 : Nat → Int → Int), (0 ≤ i ∧ i ≤ 4) → (FC (fun a => a = 38 ∨ 45 ≤ a ∧ a ≤ 100 ∨ 102 ≤ a ∧ a ≤ 108 ∨ 110 ≤ a ∧ a ≤ 117) I L K2 M2) → (∀ m, 0 ≤ m → m < 16 → ∀ c, 0 ≤ c → c < 256 → K2 (45 + m.toNat) c = (wide (fun x => byAt I 144 145 (0 + x)) (m % 4) (m / 4)).2.2 c) → (∀ m, 0 ≤ m → m < 4 → (sml 2 (fun x => byAt I 144 145 (32 + x)) m).2.1 = 256 ∧ ∀ c, 0 ≤ c → c < 256 → K2 (102 + m.toNat) c = (sml 2 (fun x => byAt I 144 145 (32 + x)) m).2.2 c % 8380417) → (∀ m, 0 ≤ m → m < i → (sml 2 (fun x => byAt I 144 145 (32 + x)) (4 + m)).2.1 = 256 ∧ ∀ c, 0 ≤ c → c < 256 → K2 (110 + m.toNat) c = (sml 2 (fun x => byAt I 144 145 (32 + x)) (4 + m)).2.2 c % 8380417) → ((4 - i).toNat) = n_ → AW l G M_KM_drawSecrets P 80 [(2, vi i), (1, vr 33), (0, vr 143)] [] (sD h K2 M2) := by
        intro n_
        induction n_ using Nat.strongRecOn with
        | _ n_ ih_80 =>
        intro i K2 M2 hi2 G2 mt2 sc2 er hm_80
        refine aw_iload_n d_KM_drawSecrets_80 rfl rfl ?_
        refine aw_aload_n d_KM_drawSecrets_81 rfl rfl ?_
        refine ax_getIe (x := 4) d_KM_drawSecrets_82 fd_KM_57 (k_33 S) (Eq.trans (G2.1 33 0 (by omega)) (pc_33_0 SD.2.1)) ?_
        refine aw_icmp_ge (tgt := 139) d_KM_drawSecrets_85 (by decide) (fun c_85 => ?_) (fun c_85 => ?_)
        · skip
          exact aw_vret d_KM_drawSecrets_139 rfl (hP _ _ (Or.inl ⟨⟨okm, fun m a b => by by_cases z : m < 4; exact (sc2 m a z).1; exact (by have y := (er (m - 4) (by omega) (by omega)).1; rwa [show 4 + (m - 4) = m by omega] at y)⟩, K2, M2, ⟨G2, mt2, fun m a b => (sc2 m a b).2, fun m a b => (er m a (by omega)).2⟩, rfl, rfl⟩))
        · skip
          refine aw_aload_n d_KM_drawSecrets_88 rfl rfl ?_
          refine ax_getR (b := 36) d_KM_drawSecrets_89 fd_KM_20 (k_143 S) (r_143_0 S) ?_
          refine ax_getR (b := 37) d_KM_drawSecrets_92 fd_KM_76 (k_36 S) (r_36_0 S) ?_
          refine aw_aload_n d_KM_drawSecrets_95 rfl rfl ?_
          refine ax_getR (b := 144) d_KM_drawSecrets_96 fd_KM_16 (k_143 S) (r_143_1 S) ?_
          refine aw_bipush d_KM_drawSecrets_99 ⟨by decide, by decide⟩ (by decide) ?_
          refine aw_aload_n d_KM_drawSecrets_101 rfl rfl ?_
          refine ax_getIe (x := 4) d_KM_drawSecrets_102 fd_KM_66 (k_33 S) (Eq.trans (G2.1 33 1 (by omega)) (pc_33_1 SD.2.1)) ?_
          refine aw_iload_n d_KM_drawSecrets_105 rfl rfl ?_
          refine ax_iadd d_KM_drawSecrets_106 ⟨(by omega), (by omega)⟩ ?_
          have eG2 : (fun x => byAt K2 144 145 (32 + x)) = (fun x => byAt I 144 145 (32 + x)) := funext (fun x => byAt_fc G2 (by omega) (by omega))
          refine ax_Vr (st := []) (as := [vr 144, vi 32, vi (4 + i)]) (b := 37) d_KM_drawSecrets_107 cs_KM_drawSecrets_107 (k_37 S) (c_Sa_takeNumbered S (SD.fc G2 (by intro a x; omega)).1 ⟨k_144 S, r_144_0 S, k_145 S, by decide, by decide, by decide⟩ ⟨by decide, by decide⟩ (by rw [G2.1 144 1 (by omega), n_145 S, hs.1]; omega) (by omega)) rfl rfl rfl (fun u_107 q_107 => ?_)
          obtain ⟨I2, L2⟩ := u_107
          obtain ⟨F2, e2⟩ := q_107
          dsimp only at F2 e2
          show AW l G M_KM_drawSecrets P 110 [(2, vi i), (1, vr 33), (0, vr 143)] [] (sD h I2 L2)
          rw [eG2] at e2
          refine aw_aload_n d_KM_drawSecrets_110 rfl rfl ?_
          refine ax_getR (b := 36) d_KM_drawSecrets_111 fd_KM_20 (k_143 S) (r_143_0 S) ?_
          refine ax_getR (b := 37) d_KM_drawSecrets_114 fd_KM_76 (k_36 S) (r_36_0 S) ?_
          refine aw_aload_n d_KM_drawSecrets_117 rfl rfl ?_
          refine ax_getIe (x := 2) d_KM_drawSecrets_118 fd_KM_92 (k_33 S) (Eq.trans (F2.1 33 2 (by decide)) (Eq.trans (G2.1 33 2 (by omega)) (pc_33_2 SD.2.1))) ?_
          refine aw_aload_n d_KM_drawSecrets_121 rfl rfl ?_
          refine ax_getR (b := 36) d_KM_drawSecrets_122 fd_KM_20 (k_143 S) (r_143_0 S) ?_
          refine ax_getR (b := 109) d_KM_drawSecrets_125 fd_KM_102 (k_36 S) (r_36_5 S) ?_
          refine aw_iload_n d_KM_drawSecrets_128 rfl rfl ?_
          refine ax_aald (b := 110 + i.toNat) d_KM_drawSecrets_129 ⟨by rw [(k_109 S)]; decide, by rw [(k_109 S)]; decide⟩ (by omega) (by rw [n_109 S]; omega) (g_109 S (by omega) (by omega)) ?_
          refine ax_VtT (st := []) (as := [vi 2, vr (110 + i.toNat)]) (b := 37) d_KM_drawSecrets_130 cs_KM_drawSecrets_130 (k_37 S) (c_Sa_small (e := 2) S hfl rm ((SD.fc G2 (by intro a x; omega)).1.sp F2) (by rw [e2]; exact nmS_ok) ⟨kr_109 S (by omega), by omega, nr_109 S (by omega)⟩ (by omega) (by omega)) rfl rfl rfl (fun ok_130 I_130 L_130 q_130 => ?_) (fun no_130 I_130 L_130 q_130 => at_leave rfl (hP _ _ (Or.inr ⟨fun z => no_130 (by rw [e2]; exact z.2 (4 + i) (by omega) (by omega)), I_130, L_130, ((G2.frc (by intro a x; omega)).tr (F2.fc.frc (by intro a x; omega))).tr q_130, rfl, rfl⟩)))
          rw [e2] at ok_130 q_130
          have F4 := F2.fc.tr (⟨fun a c x => q_130.1.1 a c (fun z => x (Or.inl z)) (fun z => x (Or.inr z)), q_130.1.2⟩ : FC (fun a => a = 38 ∨ a = 110 + i.toNat) _ _ I_130 L_130) (r := fun a => a = 38 ∨ a = 110 + i.toNat) (by intro a x; omega)
          show AW l G M_KM_drawSecrets P 133 [(2, vi i), (1, vr 33), (0, vr 143)] [] (sD h I_130 L_130)
          refine ax_iinc (lv' := [(2, vi (i + 1)), (1, vr 33), (0, vr 143)]) d_KM_drawSecrets_133 rfl (by decide) ⟨(by omega), (by omega)⟩ rfl ?_
          refine aw_goto (tgt := 80) d_KM_drawSecrets_136 (by decide) ?_
          exact ih_80 _ (by omega) (i + 1) I_130 L_130 (by omega) (G2.tr F4 (by intro a x; omega)) (fun m a b c x y => (F4.1 _ c (by omega)).trans (mt2 m a b c x y)) (fun m a b => ⟨(sc2 m a b).1, fun c x y => (F4.1 _ c (by omega)).trans ((sc2 m a b).2 c x y)⟩) (fun m a b => by by_cases z : m = i; exact (by rw [z]; exact ⟨ok_130, q_130.2⟩); exact ⟨(er m a (by omega)).1, fun c x y => (F4.1 _ c (by omega)).trans ((er m a (by omega)).2 c x y)⟩) rfl
      skip
      exact lp_80 _ 0 K M (by omega) (F) (mt) (fun m a b => sc m a (by omega)) (fun m a b => by omega) rfl
    · skip
      refine aw_aload_n d_KM_drawSecrets_32 rfl rfl ?_
      refine ax_getR (b := 36) d_KM_drawSecrets_33 fd_KM_20 (k_143 S) (r_143_0 S) ?_
      refine ax_getR (b := 37) d_KM_drawSecrets_36 fd_KM_76 (k_36 S) (r_36_0 S) ?_
      refine aw_aload_n d_KM_drawSecrets_39 rfl rfl ?_
      refine ax_getR (b := 144) d_KM_drawSecrets_40 fd_KM_16 (k_143 S) (r_143_1 S) ?_
      refine aw_bipush d_KM_drawSecrets_43 ⟨by decide, by decide⟩ (by decide) ?_
      refine aw_iload_n d_KM_drawSecrets_45 rfl rfl ?_
      have eG1 : (fun x => byAt K 144 145 (32 + x)) = (fun x => byAt I 144 145 (32 + x)) := funext (fun x => byAt_fc F (by omega) (by omega))
      refine ax_Vr (st := []) (as := [vr 144, vi 32, vi i]) (b := 37) d_KM_drawSecrets_46 cs_KM_drawSecrets_46 (k_37 S) (c_Sa_takeNumbered S (SD.fc F (by intro a x; omega)).1 ⟨k_144 S, r_144_0 S, k_145 S, by decide, by decide, by decide⟩ ⟨by decide, by decide⟩ (by rw [F.1 144 1 (by omega), n_145 S, hs.1]; omega) (by omega)) rfl rfl rfl (fun u_46 q_46 => ?_)
      obtain ⟨I1, L1⟩ := u_46
      obtain ⟨F1, e1⟩ := q_46
      dsimp only at F1 e1
      show AW l G M_KM_drawSecrets P 49 [(2, vi i), (1, vr 33), (0, vr 143)] [] (sD h I1 L1)
      rw [eG1] at e1
      refine aw_aload_n d_KM_drawSecrets_49 rfl rfl ?_
      refine ax_getR (b := 36) d_KM_drawSecrets_50 fd_KM_20 (k_143 S) (r_143_0 S) ?_
      refine ax_getR (b := 37) d_KM_drawSecrets_53 fd_KM_76 (k_36 S) (r_36_0 S) ?_
      refine aw_aload_n d_KM_drawSecrets_56 rfl rfl ?_
      refine ax_getIe (x := 2) d_KM_drawSecrets_57 fd_KM_92 (k_33 S) (Eq.trans (F1.1 33 2 (by decide)) (Eq.trans (F.1 33 2 (by omega)) (pc_33_2 SD.2.1))) ?_
      refine aw_aload_n d_KM_drawSecrets_60 rfl rfl ?_
      refine ax_getR (b := 36) d_KM_drawSecrets_61 fd_KM_20 (k_143 S) (r_143_0 S) ?_
      refine ax_getR (b := 101) d_KM_drawSecrets_64 fd_KM_95 (k_36 S) (r_36_4 S) ?_
      refine aw_iload_n d_KM_drawSecrets_67 rfl rfl ?_
      refine ax_aald (b := 102 + i.toNat) d_KM_drawSecrets_68 ⟨by rw [(k_101 S)]; decide, by rw [(k_101 S)]; decide⟩ (by omega) (by rw [n_101 S]; omega) (g_101 S (by omega) (by omega)) ?_
      refine ax_VtT (st := []) (as := [vi 2, vr (102 + i.toNat)]) (b := 37) d_KM_drawSecrets_69 cs_KM_drawSecrets_69 (k_37 S) (c_Sa_small (e := 2) S hfl rm ((SD.fc F (by intro a x; omega)).1.sp F1) (by rw [e1]; exact nmS_ok) ⟨kr_101 S (by omega), by omega, nr_101 S (by omega)⟩ (by omega) (by omega)) rfl rfl rfl (fun ok_69 I_69 L_69 q_69 => ?_) (fun no_69 I_69 L_69 q_69 => at_leave rfl (hP _ _ (Or.inr ⟨fun z => no_69 (by rw [e1]; exact z.2 i (by omega) (by omega)), I_69, L_69, ((F.frc (by intro a x; omega)).tr (F1.fc.frc (by intro a x; omega))).tr q_69, rfl, rfl⟩)))
      rw [e1] at ok_69 q_69
      have F3 := F1.fc.tr (⟨fun a c x => q_69.1.1 a c (fun z => x (Or.inl z)) (fun z => x (Or.inr z)), q_69.1.2⟩ : FC (fun a => a = 38 ∨ a = 102 + i.toNat) _ _ I_69 L_69) (r := fun a => a = 38 ∨ a = 102 + i.toNat) (by intro a x; omega)
      show AW l G M_KM_drawSecrets P 72 [(2, vi i), (1, vr 33), (0, vr 143)] [] (sD h I_69 L_69)
      refine ax_iinc (lv' := [(2, vi (i + 1)), (1, vr 33), (0, vr 143)]) d_KM_drawSecrets_72 rfl (by decide) ⟨(by omega), (by omega)⟩ rfl ?_
      refine aw_goto (tgt := 24) d_KM_drawSecrets_75 (by decide) ?_
      exact ih_24 _ (by omega) (i + 1) I_69 L_69 (by omega) (F.tr F3 (by intro a x; omega)) (fun m a b c x y => (F3.1 _ c (by omega)).trans (mt m a b c x y)) (fun m a b => by by_cases z : m = i; exact (by rw [z]; exact ⟨ok_69, q_69.2⟩); exact ⟨(sc m a (by omega)).1, fun c x y => (F3.1 _ c (by omega)).trans ((sc m a (by omega)).2 c x y)⟩) rfl
  skip
  refine aw_sub (lv' := [(2, vi 0), (1, vr 33), (0, vr 143)]) (by simp) ?_
  exact lp_24 _ 0 I_19 L_19 (by omega) (F0) (q_19.2) (fun m a b => by omega) rfl
set_option maxHeartbeats 800000 in
set_option maxRecDepth 100000 in
theorem c_KM_computeImages0 {l : Launch} {G : a_G} {h : Hp} {I L : Nat → Int → Int} {A V E : Int → Int → Int} (S : Shp h) (SD : Std I L) (hA : ∀ m, 0 ≤ m → m < 16 → eqQ (I (45 + m.toNat)) (A m)) (qA : ∀ m, 0 ≤ m → m < 16 → inQ (A m)) (hV : ∀ m, 0 ≤ m → m < 4 → eqQ (I (102 + m.toNat)) (V m)) (qV : ∀ m, 0 ≤ m → m < 4 → inQ (V m)) (hE : ∀ m, 0 ≤ m → m < 4 → eqQ (I (110 + m.toNat)) (E m)) (qE : ∀ m, 0 ≤ m → m < 4 → inQ (E m)) : AW l G M_KM_computeImages (Ret (fun _ : Nat → Int → Int => none) (fun K => sD h K L) (fun K => FC (fun a => 119 ≤ a ∧ a ≤ 125 ∨ 127 ≤ a ∧ a ≤ 134) I L K L ∧ ∀ m, 0 ≤ m → m < 4 → eqQ (K (127 + m.toNat)) (fun c => (bck rt (fun c => pS A (fun j => fwd rt (V j)) (m * 4) c 4 % 8380417) c + E (m) c) % 8380417))) 0 (a_ar 0 [vr 143, vr 33]) [] (sD h I L) := by
  suffices key : ∀ P : a_R → Hp → Prop, (∀ K : Nat → Int → Int, FC (fun a => 119 ≤ a ∧ a ≤ 125 ∨ 127 ≤ a ∧ a ≤ 134) I L K L → (∀ m, 0 ≤ m → m < 4 → eqQ (K (127 + m.toNat)) (fun c => (bck rt (fun c => pS A (fun j => fwd rt (V j)) (m * 4) c 4 % 8380417) c + E (m) c) % 8380417)) → P (.inl none) (sD h K L)) → AW l G M_KM_computeImages P 0 [(0, vr 143), (1, vr 33)] [] (sD h I L) from key _ (fun K q1 q2 => ⟨K, rfl, rfl, q1, q2⟩)
  intro P hP
  refine aw_iconst d_KM_computeImages_0 ⟨by decide, by decide⟩ ?_
  refine aw_istore_n (lv' := [(2, vi 0), (0, vr 143), (1, vr 33)]) d_KM_computeImages_1 rfl (by decide) rfl ?_
  have lp_2 : ∀ (n_ : Nat) (i : Int) (K : Nat → Int → Int), (0 ≤ i ∧ i ≤ 4) → (FC (fun a => 119 ≤ a ∧ a ≤ 125) I L K L) → (∀ m, 0 ≤ m → m < i → eqQ (K (119 + m.toNat)) (fwd rt (V m))) → ((4 - i).toNat) = n_ → AW l G M_KM_computeImages P 2 [(2, vi i), (1, vr 33), (0, vr 143)] [] (sD h K L) := by
    intro n_
    induction n_ using Nat.strongRecOn with
    | _ n_ ih_2 =>
    intro i K hi F gg hm_2
    refine aw_iload_n d_KM_computeImages_2 rfl rfl ?_
    refine aw_aload_n d_KM_computeImages_3 rfl rfl ?_
    refine ax_getIe (x := 4) d_KM_computeImages_4 fd_KM_66 (k_33 S) (Eq.trans (F.1 33 1 (by omega)) (pc_33_1 SD.2.1)) ?_
    refine aw_icmp_ge (tgt := 56) d_KM_computeImages_7 (by decide) (fun c_7 => ?_) (fun c_7 => ?_)
    · skip
      refine aw_aload_n d_KM_computeImages_56 rfl rfl ?_
      refine ax_getR (b := 36) d_KM_computeImages_57 fd_KM_20 (k_143 S) (r_143_0 S) ?_
      refine aw_aload_n d_KM_computeImages_60 rfl rfl ?_
      refine ax_Vr (st := []) (as := [vr 33]) (b := 36) d_KM_computeImages_61 cs_KM_computeImages_61 (k_36 S) (c_Be_multiplyMatrix0 S (SD.fc F (by intro a x; omega)) (fun m hm j x y => by rw [F.1 _ _ (by omega)]; have z := hA m (by omega) (by omega) j x y; rw [Int.toNat_natCast] at z; rw [z]; exact qA m (by omega) (by omega) j x y) (fun m hm j x y => by have z := gg m (by omega) (by omega) j x y; rw [Int.toNat_natCast] at z; rw [z]; exact fwd_in (qV m (by omega) (by omega)) j x y)) rfl rfl rfl (fun u_61 q_61 => ?_)
      obtain ⟨q1, q2⟩ := q_61
      have F2 : FC (fun a => 119 ≤ a ∧ a ≤ 125 ∨ 127 ≤ a ∧ a ≤ 134) I L u_61 L := F.tr q1 (by intro a x; omega)
      show AW l G M_KM_computeImages P 64 [(2, vi i), (1, vr 33), (0, vr 143)] [] (sD h u_61 L)
      refine aw_iconst d_KM_computeImages_64 ⟨by decide, by decide⟩ ?_
      refine aw_istore_n (lv' := [(2, vi 0), (1, vr 33), (0, vr 143)]) d_KM_computeImages_65 rfl (by decide) rfl ?_
      have lp_66 : ∀ (n_ : Nat) (i : Int) (K3 : Nat → Int → Int), (0 ≤ i ∧ i ≤ 4) → (FC (fun a => 119 ≤ a ∧ a ≤ 125 ∨ 127 ≤ a ∧ a ≤ 134) I L K3 L) → (∀ m, 0 ≤ m → i ≤ m → m < 4 → eqQ (K3 (127 + m.toNat)) (fun c => pS A (fun j => fwd rt (V j)) (m * 4) c 4 % 8380417)) → (∀ m, 0 ≤ m → m < i → eqQ (K3 (127 + m.toNat)) (fun c => (bck rt (fun c => pS A (fun j => fwd rt (V j)) (m * 4) c 4 % 8380417) c + E (m) c) % 8380417)) → ((4 - i).toNat) = n_ → AW l G M_KM_computeImages P 66 [(2, vi i), (1, vr 33), (0, vr 143)] [] (sD h K3 L) := by
        intro n_
        induction n_ using Nat.strongRecOn with
        | _ n_ ih_66 =>
        intro i K3 hi3 F3 un dn hm_66
        refine aw_iload_n d_KM_computeImages_66 rfl rfl ?_
        refine aw_aload_n d_KM_computeImages_67 rfl rfl ?_
        refine ax_getIe (x := 4) d_KM_computeImages_68 fd_KM_57 (k_33 S) (Eq.trans (F3.1 33 0 (by omega)) (pc_33_0 SD.2.1)) ?_
        refine aw_icmp_ge (tgt := 120) d_KM_computeImages_71 (by decide) (fun c_71 => ?_) (fun c_71 => ?_)
        · skip
          exact aw_vret d_KM_computeImages_120 rfl (hP K3 F3 (fun m a b => dn m a (by omega)))
        · skip
          refine aw_aload_n d_KM_computeImages_74 rfl rfl ?_
          refine ax_getR (b := 36) d_KM_computeImages_75 fd_KM_20 (k_143 S) (r_143_0 S) ?_
          refine ax_getR (b := 42) d_KM_computeImages_78 fd_KM_114 (k_36 S) (r_36_2 S) ?_
          refine aw_aload_n d_KM_computeImages_81 rfl rfl ?_
          refine ax_getR (b := 36) d_KM_computeImages_82 fd_KM_20 (k_143 S) (r_143_0 S) ?_
          refine ax_getR (b := 126) d_KM_computeImages_85 fd_KM_125 (k_36 S) (r_36_7 S) ?_
          refine aw_iload_n d_KM_computeImages_88 rfl rfl ?_
          refine ax_aald (b := 127 + i.toNat) d_KM_computeImages_89 ⟨by rw [(k_126 S)]; decide, by rw [(k_126 S)]; decide⟩ (by omega) (by rw [n_126 S]; omega) (g_126 S (by omega) (by omega)) ?_
          refine ax_V (st := []) (as := [vr (127 + i.toNat)]) (b := 42) (v := none) (h' := sD h (cset K3 (127 + i.toNat) (bck (K3 43) (K3 (127 + i.toNat)))) L) d_KM_computeImages_90 cs_KM_computeImages_90 (k_42 S) (c_Ri_back S ⟨kr_126 S (by omega), by omega, nr_126 S (by omega)⟩ (by omega) (fun j x y => by rw [un i hi3.1 (Int.le_refl _) (by omega) j x y]; show 0 ≤ _ % 8380417 ∧ _ % 8380417 < 8380417; exact ⟨Int.emod_nonneg _ (by decide), Int.emod_lt_of_pos _ (by decide)⟩) (SD.fc F3 (by intro a x; omega)).R) rfl rfl rfl ?_
          show AW l G M_KM_computeImages P 93 [(2, vi i), (1, vr 33), (0, vr 143)] [] (sD h (cset K3 (127 + i.toNat) (bck (K3 43) (K3 (127 + i.toNat)))) L)
          refine aw_aload_n d_KM_computeImages_93 rfl rfl ?_
          refine ax_getR (b := 36) d_KM_computeImages_94 fd_KM_20 (k_143 S) (r_143_0 S) ?_
          refine ax_getR (b := 126) d_KM_computeImages_97 fd_KM_125 (k_36 S) (r_36_7 S) ?_
          refine aw_iload_n d_KM_computeImages_100 rfl rfl ?_
          refine ax_aald (b := 127 + i.toNat) d_KM_computeImages_101 ⟨by rw [(k_126 S)]; decide, by rw [(k_126 S)]; decide⟩ (by omega) (by rw [n_126 S]; omega) (g_126 S (by omega) (by omega)) ?_
          refine aw_aload_n d_KM_computeImages_102 rfl rfl ?_
          refine ax_getR (b := 36) d_KM_computeImages_103 fd_KM_20 (k_143 S) (r_143_0 S) ?_
          refine ax_getR (b := 109) d_KM_computeImages_106 fd_KM_102 (k_36 S) (r_36_5 S) ?_
          refine aw_iload_n d_KM_computeImages_109 rfl rfl ?_
          refine ax_aald (b := 110 + i.toNat) d_KM_computeImages_110 ⟨by rw [(k_109 S)]; decide, by rw [(k_109 S)]; decide⟩ (by omega) (by rw [n_109 S]; omega) (g_109 S (by omega) (by omega)) ?_
          refine ax_S (st := []) (as := [vr (127 + i.toNat), vr (110 + i.toNat)]) (v := none) (h' := sD h (rowTo (cset K3 (127 + i.toNat) (bck (K3 43) (K3 (127 + i.toNat)))) (127 + i.toNat) 256 (fun j => ((cset K3 (127 + i.toNat) (bck (K3 43) (K3 (127 + i.toNat)))) (127 + i.toNat) j + (cset K3 (127 + i.toNat) (bck (K3 43) (K3 (127 + i.toNat)))) (110 + i.toNat) j) % 8380417)) L) d_KM_computeImages_111 cs_KM_computeImages_111 (c_Ri_addTo ⟨kr_126 S (by omega), by omega, nr_126 S (by omega)⟩ ⟨kr_109 S (by omega), by omega, nr_109 S (by omega)⟩ (by rw [cset_at]; exact bck_in) (fun j x y => by rw [cset_ne (by omega), F3.1 _ _ (by omega), hE i hi3.1 (by omega) j x y]; exact qE i hi3.1 (by omega) j x y)) rfl rfl rfl ?_
          show AW l G M_KM_computeImages P 114 [(2, vi i), (1, vr 33), (0, vr 143)] [] (sD h (rowTo (cset K3 (127 + i.toNat) (bck (K3 43) (K3 (127 + i.toNat)))) (127 + i.toNat) 256 (fun j => ((cset K3 (127 + i.toNat) (bck (K3 43) (K3 (127 + i.toNat)))) (127 + i.toNat) j + (cset K3 (127 + i.toNat) (bck (K3 43) (K3 (127 + i.toNat)))) (110 + i.toNat) j) % 8380417)) L)
          refine ax_iinc (lv' := [(2, vi (i + 1)), (1, vr 33), (0, vr 143)]) d_KM_computeImages_114 rfl (by decide) ⟨(by omega), (by omega)⟩ rfl ?_
          refine aw_goto (tgt := 66) d_KM_computeImages_117 (by decide) ?_
          exact ih_66 _ (by omega) (i + 1) (rowTo (cset K3 (127 + i.toNat) (bck (K3 43) (K3 (127 + i.toNat)))) (127 + i.toNat) 256 (fun j => ((cset K3 (127 + i.toNat) (bck (K3 43) (K3 (127 + i.toNat)))) (127 + i.toNat) j + (cset K3 (127 + i.toNat) (bck (K3 43) (K3 (127 + i.toNat)))) (110 + i.toNat) j) % 8380417)) (by omega) ((F3.tr (FC.cs (p := fun a => 119 ≤ a ∧ a ≤ 125 ∨ 127 ≤ a ∧ a ≤ 134) (by omega)) (fun a x => ⟨x, x⟩)).tr (FC.row (p := fun a => 119 ≤ a ∧ a ≤ 125 ∨ 127 ≤ a ∧ a ≤ 134) (by omega)) (fun a x => ⟨x, x⟩)) (fun m a b c j x y => by rw [rowTo_ne (by omega), cset_ne (by omega)]; exact un m a (by omega) c j x y) (fun m a b j x y => by by_cases z : m = i; exact (by rw [z, rowTo_in x y, cset_at, cset_ne (by omega), (SD.fc F3 (by intro a x; omega)).2.2, F3.1 _ _ (by omega), hE i hi3.1 (by omega) j x y, bck_eq (un i hi3.1 (Int.le_refl _) (by omega)) j x y]); exact (by rw [rowTo_ne (by omega), cset_ne (by omega)]; exact dn m a (by omega) j x y)) rfl
      skip
      exact lp_66 _ 0 u_61 (by omega) (F2) (fun m a b c j x y => by rw [q2 m a c j x y, mS_pS (A := A) (V := fun j => fwd rt (V j)) 4 (fun n hn => by rw [F.1 _ _ (by omega)]; exact hA _ (by omega) (by omega) j x y) (fun n hn => by have z := gg n (by omega) (by omega) j x y; rwa [Int.toNat_natCast] at z)]) (fun m a b => by omega) rfl
    · skip
      refine aw_aload_n d_KM_computeImages_10 rfl rfl ?_
      refine ax_getR (b := 36) d_KM_computeImages_11 fd_KM_20 (k_143 S) (r_143_0 S) ?_
      refine ax_getR (b := 101) d_KM_computeImages_14 fd_KM_95 (k_36 S) (r_36_4 S) ?_
      refine aw_iload_n d_KM_computeImages_17 rfl rfl ?_
      refine ax_aald (b := 102 + i.toNat) d_KM_computeImages_18 ⟨by rw [(k_101 S)]; decide, by rw [(k_101 S)]; decide⟩ (by omega) (by rw [n_101 S]; omega) (g_101 S (by omega) (by omega)) ?_
      refine aw_aload_n d_KM_computeImages_19 rfl rfl ?_
      refine ax_getR (b := 36) d_KM_computeImages_20 fd_KM_20 (k_143 S) (r_143_0 S) ?_
      refine ax_getR (b := 118) d_KM_computeImages_23 fd_KM_105 (k_36 S) (r_36_6 S) ?_
      refine aw_iload_n d_KM_computeImages_26 rfl rfl ?_
      refine ax_aald (b := 119 + i.toNat) d_KM_computeImages_27 ⟨by rw [(k_118 S)]; decide, by rw [(k_118 S)]; decide⟩ (by omega) (by rw [n_118 S]; omega) (g_118 S (by omega) (by omega)) ?_
      refine ax_S (st := []) (as := [vr (102 + i.toNat), vr (119 + i.toNat)]) (v := none) (h' := sD h (rowTo K (119 + i.toNat) 256 (K (102 + i.toNat))) L) d_KM_computeImages_28 cs_KM_computeImages_28 (c_Ri_copyRow ⟨kr_101 S (by omega), by omega, nr_101 S (by omega)⟩ ⟨kr_118 S (by omega), by omega, nr_118 S (by omega)⟩) rfl rfl rfl ?_
      show AW l G M_KM_computeImages P 31 [(2, vi i), (1, vr 33), (0, vr 143)] [] (sD h (rowTo K (119 + i.toNat) 256 (K (102 + i.toNat))) L)
      refine aw_aload_n d_KM_computeImages_31 rfl rfl ?_
      refine ax_getR (b := 36) d_KM_computeImages_32 fd_KM_20 (k_143 S) (r_143_0 S) ?_
      refine ax_getR (b := 42) d_KM_computeImages_35 fd_KM_114 (k_36 S) (r_36_2 S) ?_
      refine aw_aload_n d_KM_computeImages_38 rfl rfl ?_
      refine ax_getR (b := 36) d_KM_computeImages_39 fd_KM_20 (k_143 S) (r_143_0 S) ?_
      refine ax_getR (b := 118) d_KM_computeImages_42 fd_KM_105 (k_36 S) (r_36_6 S) ?_
      refine aw_iload_n d_KM_computeImages_45 rfl rfl ?_
      refine ax_aald (b := 119 + i.toNat) d_KM_computeImages_46 ⟨by rw [(k_118 S)]; decide, by rw [(k_118 S)]; decide⟩ (by omega) (by rw [n_118 S]; omega) (g_118 S (by omega) (by omega)) ?_
      refine ax_V (st := []) (as := [vr (119 + i.toNat)]) (b := 42) (v := none) (h' := sD h (cset (rowTo K (119 + i.toNat) 256 (K (102 + i.toNat))) (119 + i.toNat) (fwd ((rowTo K (119 + i.toNat) 256 (K (102 + i.toNat))) 43) ((rowTo K (119 + i.toNat) 256 (K (102 + i.toNat))) (119 + i.toNat)))) L) d_KM_computeImages_47 cs_KM_computeImages_47 (k_42 S) (c_Ri_forward S ⟨kr_118 S (by omega), by omega, nr_118 S (by omega)⟩ (by omega) (fun j x y => by rw [rowTo_in x y, F.1 _ _ (by omega), hV i hi.1 (by omega) j x y]; exact qV i hi.1 (by omega) j x y) (fun j x y => by rw [rowTo_ne (by omega), F.1 _ _ (by omega)]; exact SD.R j x y)) rfl rfl rfl ?_
      show AW l G M_KM_computeImages P 50 [(2, vi i), (1, vr 33), (0, vr 143)] [] (sD h (cset (rowTo K (119 + i.toNat) 256 (K (102 + i.toNat))) (119 + i.toNat) (fwd ((rowTo K (119 + i.toNat) 256 (K (102 + i.toNat))) 43) ((rowTo K (119 + i.toNat) 256 (K (102 + i.toNat))) (119 + i.toNat)))) L)
      refine ax_iinc (lv' := [(2, vi (i + 1)), (1, vr 33), (0, vr 143)]) d_KM_computeImages_50 rfl (by decide) ⟨(by omega), (by omega)⟩ rfl ?_
      refine aw_goto (tgt := 2) d_KM_computeImages_53 (by decide) ?_
      exact ih_2 _ (by omega) (i + 1) (cset (rowTo K (119 + i.toNat) 256 (K (102 + i.toNat))) (119 + i.toNat) (fwd ((rowTo K (119 + i.toNat) 256 (K (102 + i.toNat))) 43) ((rowTo K (119 + i.toNat) 256 (K (102 + i.toNat))) (119 + i.toNat)))) (by omega) ((F.tr (FC.row (p := fun a => 119 ≤ a ∧ a ≤ 125) (by omega)) (fun a x => ⟨x, x⟩)).tr (FC.cs (p := fun a => 119 ≤ a ∧ a ≤ 125) (by omega)) (fun a x => ⟨x, x⟩)) (fun m a b j x y => by by_cases z : m = i; exact (by rw [z, cset_at, show (rowTo K (119 + i.toNat) 256 (K (102 + i.toNat))) 43 = rt from by rw [← SD.2.2]; funext v; rw [rowTo_ne (by omega), F.1 _ _ (by omega)]]; exact fwd_eq (fun v u t => by rw [rowTo_in u t, F.1 _ _ (by omega)]; exact hV i hi.1 (by omega) v u t) j x y); exact (by rw [cset_ne (by omega), rowTo_ne (by omega)]; exact gg m a (by omega) j x y)) rfl
  skip
  refine aw_sub (lv' := [(2, vi 0), (1, vr 33), (0, vr 143)]) (by simp) ?_
  exact lp_2 _ 0 I (by omega) (FC.rfl') (fun m a b => by omega) rfl
set_option maxHeartbeats 800000 in
set_option maxRecDepth 100000 in
theorem c_KM_drawSeeds1 {l : Launch} {G : a_G} {h : Hp} {I L : Nat → Int → Int} (S : Shp h) (SD : Std I L) (hc : I 14 1 ≤ 8192) : AW l G M_KM_drawSeeds (Ret (fun _ : (Nat → Int → Int) × (Nat → Int → Int) => none) (fun u => sD h u.1 u.2) (fun u => FC (fun a => a = 38 ∨ a = 144 ∨ a = 145) I L u.1 u.2 ∧ HB u.1 144 145 128 (spOut (ksS (fun x => byAt I 14 15 (0 + x)) 6 5)))) 0 (a_ar 0 [vr 143, vr 14, vr 34]) [] (sD h I L) := by
  suffices key : ∀ P : a_R → Hp → Prop, (∀ I2 L2, FC (fun a => a = 38 ∨ a = 144 ∨ a = 145) I L I2 L2 → HB I2 144 145 128 (spOut (ksS (fun x => byAt I 14 15 (0 + x)) 6 5)) → P (.inl none) (sD h I2 L2)) → AW l G M_KM_drawSeeds P 0 [(0, vr 143), (1, vr 14), (2, vr 34)] [] (sD h I L) from key _ (fun I2 L2 q1 q2 => ⟨(I2, L2), rfl, rfl, q1, q2⟩)
  intro P hP
  refine aw_aload_n d_KM_drawSeeds_0 rfl rfl ?_
  refine ax_getR (b := 36) d_KM_drawSeeds_1 fd_KM_20 (k_143 S) (r_143_0 S) ?_
  refine ax_getR (b := 38) d_KM_drawSeeds_4 fd_KM_42 (k_36 S) (r_36_1 S) ?_
  refine ax_Vr (st := []) (as := []) (b := 38) d_KM_drawSeeds_7 cs_KM_drawSeeds_7 (k_38 S) (c_Sp_start256 S) rfl rfl rfl (fun u_7 q_7 => ?_)
  obtain ⟨I1, L1⟩ := u_7
  obtain ⟨F1, e1⟩ := q_7
  dsimp only at F1 e1
  show AW l G M_KM_drawSeeds P 10 [(0, vr 143), (1, vr 14), (2, vr 34)] [] (sD h I1 L1)
  refine aw_aload_n d_KM_drawSeeds_10 rfl rfl ?_
  refine ax_getR (b := 36) d_KM_drawSeeds_11 fd_KM_20 (k_143 S) (r_143_0 S) ?_
  refine ax_getR (b := 38) d_KM_drawSeeds_14 fd_KM_42 (k_36 S) (r_36_1 S) ?_
  refine aw_aload_n d_KM_drawSeeds_17 rfl rfl ?_
  refine aw_iconst d_KM_drawSeeds_18 ⟨by decide, by decide⟩ ?_
  refine aw_bipush d_KM_drawSeeds_19 ⟨by decide, by decide⟩ (by decide) ?_
  refine ax_Vr (st := []) (as := [vr 14, vi 0, vi 32]) (b := 38) d_KM_drawSeeds_21 cs_KM_drawSeeds_21 (k_38 S) (c_Sp_takePart S (SD.1.sp F1) (by rw [e1]; exact (spStart_lt (by decide) (by decide)).1) (ks S (i := 0) (by decide)) ⟨by decide, by decide⟩ (by rw [F1.1 14 1 (by decide), nks S (i := 0) (by decide)]; omega)) rfl rfl rfl (fun u_21 q_21 => ?_)
  obtain ⟨I2, L2⟩ := u_21
  obtain ⟨F2, e2⟩ := q_21
  dsimp only at F2 e2
  show AW l G M_KM_drawSeeds P 24 [(0, vr 143), (1, vr 14), (2, vr 34)] [] (sD h I2 L2)
  refine aw_aload_n d_KM_drawSeeds_24 rfl rfl ?_
  refine ax_getR (b := 36) d_KM_drawSeeds_25 fd_KM_20 (k_143 S) (r_143_0 S) ?_
  refine ax_getR (b := 38) d_KM_drawSeeds_28 fd_KM_42 (k_36 S) (r_36_1 S) ?_
  refine aw_aload_n d_KM_drawSeeds_31 rfl rfl ?_
  refine ax_getIe (x := 6) d_KM_drawSeeds_32 fd_KM_57 (k_34 S) (Eq.trans ((F1.tr F2).1 34 0 (by decide)) (pc_34_0 SD.2.1)) ?_
  refine ax_Vr (st := []) (as := [vi 6]) (b := 38) d_KM_drawSeeds_35 cs_KM_drawSeeds_35 (k_38 S) (c_Sp_take S ((SD.1.sp F1).sp F2) (by rw [e2, e1]; exact spPart_ok ((spStart_lt (by decide) (by decide)).1) _ _)) rfl rfl rfl (fun u_35 q_35 => ?_)
  obtain ⟨I3, L3⟩ := u_35
  obtain ⟨F3, e3⟩ := q_35
  dsimp only at F3 e3
  show AW l G M_KM_drawSeeds P 38 [(0, vr 143), (1, vr 14), (2, vr 34)] [] (sD h I3 L3)
  refine aw_aload_n d_KM_drawSeeds_38 rfl rfl ?_
  refine ax_getR (b := 36) d_KM_drawSeeds_39 fd_KM_20 (k_143 S) (r_143_0 S) ?_
  refine ax_getR (b := 38) d_KM_drawSeeds_42 fd_KM_42 (k_36 S) (r_36_1 S) ?_
  refine aw_aload_n d_KM_drawSeeds_45 rfl rfl ?_
  refine ax_getIe (x := 5) d_KM_drawSeeds_46 fd_KM_66 (k_34 S) (Eq.trans (((F1.tr F2).tr F3).1 34 1 (by decide)) (pc_34_1 SD.2.1)) ?_
  refine ax_Vr (st := []) (as := [vi 5]) (b := 38) d_KM_drawSeeds_49 cs_KM_drawSeeds_49 (k_38 S) (c_Sp_take S (((SD.1.sp F1).sp F2).sp F3) (by rw [e3, e2, e1]; exact spTake_ok (spPart_ok ((spStart_lt (by decide) (by decide)).1) _ _) _)) rfl rfl rfl (fun u_49 q_49 => ?_)
  obtain ⟨I4, L4⟩ := u_49
  obtain ⟨F4, e4⟩ := q_49
  dsimp only at F4 e4
  show AW l G M_KM_drawSeeds P 52 [(0, vr 143), (1, vr 14), (2, vr 34)] [] (sD h I4 L4)
  refine aw_aload_n d_KM_drawSeeds_52 rfl rfl ?_
  refine ax_getR (b := 36) d_KM_drawSeeds_53 fd_KM_20 (k_143 S) (r_143_0 S) ?_
  refine ax_getR (b := 38) d_KM_drawSeeds_56 fd_KM_42 (k_36 S) (r_36_1 S) ?_
  refine ax_Vr (st := []) (as := []) (b := 38) d_KM_drawSeeds_59 cs_KM_drawSeeds_59 (k_38 S) (c_Sp_turn S ((((SD.1.sp F1).sp F2).sp F3).sp F4) (by rw [e4, e3, e2, e1]; exact spTake_ok (spTake_ok (spPart_ok ((spStart_lt (by decide) (by decide)).1) _ _) _) _)) rfl rfl rfl (fun u_59 q_59 => ?_)
  obtain ⟨I5, L5⟩ := u_59
  obtain ⟨F5, e5⟩ := q_59
  dsimp only at F5 e5
  show AW l G M_KM_drawSeeds P 62 [(0, vr 143), (1, vr 14), (2, vr 34)] [] (sD h I5 L5)
  have eS : spOf I5 L5 = (ksS (fun x => byAt I 14 15 (0 + x)) 6 5) := by rw [e5, e4, e3, e2, e1, show (fun x => byAt I1 14 15 (0 + x)) = (fun x => byAt I 14 15 (0 + x)) from funext (fun x => byAt_sp F1.1 (by decide) (by decide))]; rfl
  refine aw_aload_n d_KM_drawSeeds_62 rfl rfl ?_
  refine ax_getR (b := 36) d_KM_drawSeeds_63 fd_KM_20 (k_143 S) (r_143_0 S) ?_
  refine ax_getR (b := 38) d_KM_drawSeeds_66 fd_KM_42 (k_36 S) (r_36_1 S) ?_
  refine aw_aload_n d_KM_drawSeeds_69 rfl rfl ?_
  refine ax_getR (b := 144) d_KM_drawSeeds_70 fd_KM_16 (k_143 S) (r_143_1 S) ?_
  refine aw_sipush d_KM_drawSeeds_73 ⟨by decide, by decide⟩ (by decide) ?_
  refine ax_Vr (st := []) (as := [vr 144, vi 128]) (b := 38) d_KM_drawSeeds_76 cs_KM_drawSeeds_76 (k_38 S) (c_Sp_giveTo S (((((SD.1.sp F1).sp F2).sp F3).sp F4).sp F5) (by rw [e5, e4, e3, e2, e1]; exact spTurn_ok (spTake_ok (spTake_ok (spPart_ok ((spStart_lt (by decide) (by decide)).1) _ _) _) _)) ⟨k_144 S, r_144_0 S, k_145 S, by decide, by decide, by decide⟩ ⟨by decide, by decide⟩ (by rw [n_145 S]; omega)) rfl rfl rfl (fun u_76 q_76 => ?_)
  obtain ⟨I9, L9⟩ := u_76
  obtain ⟨F9, f9, e9⟩ := q_76
  dsimp only at F9 f9 e9
  rw [eS] at F9
  show AW l G M_KM_drawSeeds P 79 [(0, vr 143), (1, vr 14), (2, vr 34)] [] (sD h I9 L9)
  exact aw_vret d_KM_drawSeeds_79 rfl (hP _ _ ((((((F1.tr F2).tr F3).tr F4).tr F5).fc).tr (gv_fc F9 f9) (by intro a x; omega)) (gv_at F9 (by decide) (by decide) (by decide)))
set_option maxHeartbeats 800000 in
set_option maxRecDepth 100000 in
theorem c_KM_drawSecrets1 {l : Launch} {G : a_G} {h : Hp} {I L : Nat → Int → Int} {sd : Int → Int} (S : Shp h) (hfl : l.flags = flags0) (rm : hX h + 1 ≤ a_NX ∧ hU h + 6 ≤ a_US) (SD : Std I L) (hs : HB I 144 145 128 sd) : AW l G M_KM_drawSecrets (ThR h I L ((∀ m, 0 ≤ m → m < 30 → (wide (fun x => byAt I 144 145 (0 + x)) (m % 5) (m / 5)).2.1 = 256) ∧ ∀ m, 0 ≤ m → m < 11 → (sml 4 (fun x => byAt I 144 145 (32 + x)) m).2.1 = 256) (fun I' L' => FC (fun a => a = 38 ∨ 45 ≤ a ∧ a ≤ 100 ∨ 102 ≤ a ∧ a ≤ 108 ∨ 110 ≤ a ∧ a ≤ 117) I L I' L' ∧ (∀ m, 0 ≤ m → m < 30 → ∀ c, 0 ≤ c → c < 256 → I' (45 + m.toNat) c = (wide (fun x => byAt I 144 145 (0 + x)) (m % 5) (m / 5)).2.2 c) ∧ (∀ m, 0 ≤ m → m < 5 → ∀ c, 0 ≤ c → c < 256 → I' (102 + m.toNat) c = (sml 4 (fun x => byAt I 144 145 (32 + x)) m).2.2 c % 8380417) ∧ ∀ m, 0 ≤ m → m < 6 → ∀ c, 0 ≤ c → c < 256 → I' (110 + m.toNat) c = (sml 4 (fun x => byAt I 144 145 (32 + x)) (5 + m)).2.2 c % 8380417)) 0 (a_ar 0 [vr 143, vr 34]) [] (sD h I L) := by
  suffices key : ∀ P : a_R → Hp → Prop, (∀ r_ h2_, ThR h I L ((∀ m, 0 ≤ m → m < 30 → (wide (fun x => byAt I 144 145 (0 + x)) (m % 5) (m / 5)).2.1 = 256) ∧ ∀ m, 0 ≤ m → m < 11 → (sml 4 (fun x => byAt I 144 145 (32 + x)) m).2.1 = 256) (fun I' L' => FC (fun a => a = 38 ∨ 45 ≤ a ∧ a ≤ 100 ∨ 102 ≤ a ∧ a ≤ 108 ∨ 110 ≤ a ∧ a ≤ 117) I L I' L' ∧ (∀ m, 0 ≤ m → m < 30 → ∀ c, 0 ≤ c → c < 256 → I' (45 + m.toNat) c = (wide (fun x => byAt I 144 145 (0 + x)) (m % 5) (m / 5)).2.2 c) ∧ (∀ m, 0 ≤ m → m < 5 → ∀ c, 0 ≤ c → c < 256 → I' (102 + m.toNat) c = (sml 4 (fun x => byAt I 144 145 (32 + x)) m).2.2 c % 8380417) ∧ ∀ m, 0 ≤ m → m < 6 → ∀ c, 0 ≤ c → c < 256 → I' (110 + m.toNat) c = (sml 4 (fun x => byAt I 144 145 (32 + x)) (5 + m)).2.2 c % 8380417) r_ h2_ → P r_ h2_) → AW l G M_KM_drawSecrets P 0 [(0, vr 143), (1, vr 34)] [] (sD h I L) from key _ (fun _ _ q => q)
  intro P hP
  refine aw_aload_n d_KM_drawSecrets_0 rfl rfl ?_
  refine ax_getR (b := 36) d_KM_drawSecrets_1 fd_KM_20 (k_143 S) (r_143_0 S) ?_
  refine ax_getR (b := 37) d_KM_drawSecrets_4 fd_KM_76 (k_36 S) (r_36_0 S) ?_
  refine aw_aload_n d_KM_drawSecrets_7 rfl rfl ?_
  refine ax_getR (b := 144) d_KM_drawSecrets_8 fd_KM_16 (k_143 S) (r_143_1 S) ?_
  refine aw_aload_n d_KM_drawSecrets_11 rfl rfl ?_
  refine aw_aload_n d_KM_drawSecrets_12 rfl rfl ?_
  refine ax_getR (b := 36) d_KM_drawSecrets_13 fd_KM_20 (k_143 S) (r_143_0 S) ?_
  refine ax_getR (b := 44) d_KM_drawSecrets_16 fd_KM_80 (k_36 S) (r_36_3 S) ?_
  refine ax_VtT (st := []) (as := [vr 144, vr 34, vr 44]) (b := 37) d_KM_drawSecrets_19 cs_KM_drawSecrets_19 (k_37 S) (c_Sa_matrix1 S hfl rm SD ⟨k_144 S, r_144_0 S, k_145 S, by decide, by decide, by decide⟩ (by omega) (by rw [n_145 S, hs.1]; decide)) rfl rfl rfl (fun ok_19 I_19 L_19 q_19 => ?_) (fun no_19 I_19 L_19 q_19 => at_leave rfl (hP _ _ (Or.inr ⟨fun z => no_19 z.1, I_19, L_19, q_19, rfl, rfl⟩)))
  have F0 : FC (fun a => a = 38 ∨ 45 ≤ a ∧ a ≤ 100 ∨ 102 ≤ a ∧ a ≤ 108 ∨ 110 ≤ a ∧ a ≤ 117) I L I_19 L_19 := q_19.1.mono (by intro a x; omega)
  show AW l G M_KM_drawSecrets P 22 [(0, vr 143), (1, vr 34)] [] (sD h I_19 L_19)
  have okm := ok_19
  refine aw_iconst d_KM_drawSecrets_22 ⟨by decide, by decide⟩ ?_
  refine aw_istore_n (lv' := [(2, vi 0), (0, vr 143), (1, vr 34)]) d_KM_drawSecrets_23 rfl (by decide) rfl ?_
  have lp_24 : ∀ (n_ : Nat) (i : Int) (K : Nat → Int → Int) (M : Nat → Int → Int), (0 ≤ i ∧ i ≤ 5) → (FC (fun a => a = 38 ∨ 45 ≤ a ∧ a ≤ 100 ∨ 102 ≤ a ∧ a ≤ 108 ∨ 110 ≤ a ∧ a ≤ 117) I L K M) → (∀ m, 0 ≤ m → m < 30 → ∀ c, 0 ≤ c → c < 256 → K (45 + m.toNat) c = (wide (fun x => byAt I 144 145 (0 + x)) (m % 5) (m / 5)).2.2 c) → (∀ m, 0 ≤ m → m < i → (sml 4 (fun x => byAt I 144 145 (32 + x)) m).2.1 = 256 ∧ ∀ c, 0 ≤ c → c < 256 → K (102 + m.toNat) c = (sml 4 (fun x => byAt I 144 145 (32 + x)) m).2.2 c % 8380417) → ((5 - i).toNat) = n_ → AW l G M_KM_drawSecrets P 24 [(2, vi i), (1, vr 34), (0, vr 143)] [] (sD h K M) := by
    intro n_
    induction n_ using Nat.strongRecOn with
    | _ n_ ih_24 =>
    intro i K M hi F mt sc hm_24
    refine aw_iload_n d_KM_drawSecrets_24 rfl rfl ?_
    refine aw_aload_n d_KM_drawSecrets_25 rfl rfl ?_
    refine ax_getIe (x := 5) d_KM_drawSecrets_26 fd_KM_66 (k_34 S) (Eq.trans (F.1 34 1 (by omega)) (pc_34_1 SD.2.1)) ?_
    refine aw_icmp_ge (tgt := 78) d_KM_drawSecrets_29 (by decide) (fun c_29 => ?_) (fun c_29 => ?_)
    · skip
      refine aw_iconst d_KM_drawSecrets_78 ⟨by decide, by decide⟩ ?_
      refine aw_istore_n (lv' := [(2, vi 0), (1, vr 34), (0, vr 143)]) d_KM_drawSecrets_79 rfl (by decide) rfl ?_
      have lp_80 : ∀ (n_ : Nat) (i : Int) (K2 : Nat → Int → Int) (M2 : Nat → Int → Int), (0 ≤ i ∧ i ≤ 6) → (FC (fun a => a = 38 ∨ 45 ≤ a ∧ a ≤ 100 ∨ 102 ≤ a ∧ a ≤ 108 ∨ 110 ≤ a ∧ a ≤ 117) I L K2 M2) → (∀ m, 0 ≤ m → m < 30 → ∀ c, 0 ≤ c → c < 256 → K2 (45 + m.toNat) c = (wide (fun x => byAt I 144 145 (0 + x)) (m % 5) (m / 5)).2.2 c) → (∀ m, 0 ≤ m → m < 5 → (sml 4 (fun x => byAt I 144 145 (32 + x)) m).2.1 = 256 ∧ ∀ c, 0 ≤ c → c < 256 → K2 (102 + m.toNat) c = (sml 4 (fun x => byAt I 144 145 (32 + x)) m).2.2 c % 8380417) → (∀ m, 0 ≤ m → m < i → (sml 4 (fun x => byAt I 144 145 (32 + x)) (5 + m)).2.1 = 256 ∧ ∀ c, 0 ≤ c → c < 256 → K2 (110 + m.toNat) c = (sml 4 (fun x => byAt I 144 145 (32 + x)) (5 + m)).2.2 c % 8380417) → ((6 - i).toNat) = n_ → AW l G M_KM_drawSecrets P 80 [(2, vi i), (1, vr 34), (0, vr 143)] [] (sD h K2 M2) := by
        intro n_
        induction n_ using Nat.strongRecOn with
        | _ n_ ih_80 =>
        intro i K2 M2 hi2 G2 mt2 sc2 er hm_80
        refine aw_iload_n d_KM_drawSecrets_80 rfl rfl ?_
        refine aw_aload_n d_KM_drawSecrets_81 rfl rfl ?_
        refine ax_getIe (x := 6) d_KM_drawSecrets_82 fd_KM_57 (k_34 S) (Eq.trans (G2.1 34 0 (by omega)) (pc_34_0 SD.2.1)) ?_
        refine aw_icmp_ge (tgt := 139) d_KM_drawSecrets_85 (by decide) (fun c_85 => ?_) (fun c_85 => ?_)
        · skip
          exact aw_vret d_KM_drawSecrets_139 rfl (hP _ _ (Or.inl ⟨⟨okm, fun m a b => by by_cases z : m < 5; exact (sc2 m a z).1; exact (by have y := (er (m - 5) (by omega) (by omega)).1; rwa [show 5 + (m - 5) = m by omega] at y)⟩, K2, M2, ⟨G2, mt2, fun m a b => (sc2 m a b).2, fun m a b => (er m a (by omega)).2⟩, rfl, rfl⟩))
        · skip
          refine aw_aload_n d_KM_drawSecrets_88 rfl rfl ?_
          refine ax_getR (b := 36) d_KM_drawSecrets_89 fd_KM_20 (k_143 S) (r_143_0 S) ?_
          refine ax_getR (b := 37) d_KM_drawSecrets_92 fd_KM_76 (k_36 S) (r_36_0 S) ?_
          refine aw_aload_n d_KM_drawSecrets_95 rfl rfl ?_
          refine ax_getR (b := 144) d_KM_drawSecrets_96 fd_KM_16 (k_143 S) (r_143_1 S) ?_
          refine aw_bipush d_KM_drawSecrets_99 ⟨by decide, by decide⟩ (by decide) ?_
          refine aw_aload_n d_KM_drawSecrets_101 rfl rfl ?_
          refine ax_getIe (x := 5) d_KM_drawSecrets_102 fd_KM_66 (k_34 S) (Eq.trans (G2.1 34 1 (by omega)) (pc_34_1 SD.2.1)) ?_
          refine aw_iload_n d_KM_drawSecrets_105 rfl rfl ?_
          refine ax_iadd d_KM_drawSecrets_106 ⟨(by omega), (by omega)⟩ ?_
          have eG2 : (fun x => byAt K2 144 145 (32 + x)) = (fun x => byAt I 144 145 (32 + x)) := funext (fun x => byAt_fc G2 (by omega) (by omega))
          refine ax_Vr (st := []) (as := [vr 144, vi 32, vi (5 + i)]) (b := 37) d_KM_drawSecrets_107 cs_KM_drawSecrets_107 (k_37 S) (c_Sa_takeNumbered S (SD.fc G2 (by intro a x; omega)).1 ⟨k_144 S, r_144_0 S, k_145 S, by decide, by decide, by decide⟩ ⟨by decide, by decide⟩ (by rw [G2.1 144 1 (by omega), n_145 S, hs.1]; omega) (by omega)) rfl rfl rfl (fun u_107 q_107 => ?_)
          obtain ⟨I2, L2⟩ := u_107
          obtain ⟨F2, e2⟩ := q_107
          dsimp only at F2 e2
          show AW l G M_KM_drawSecrets P 110 [(2, vi i), (1, vr 34), (0, vr 143)] [] (sD h I2 L2)
          rw [eG2] at e2
          refine aw_aload_n d_KM_drawSecrets_110 rfl rfl ?_
          refine ax_getR (b := 36) d_KM_drawSecrets_111 fd_KM_20 (k_143 S) (r_143_0 S) ?_
          refine ax_getR (b := 37) d_KM_drawSecrets_114 fd_KM_76 (k_36 S) (r_36_0 S) ?_
          refine aw_aload_n d_KM_drawSecrets_117 rfl rfl ?_
          refine ax_getIe (x := 4) d_KM_drawSecrets_118 fd_KM_92 (k_34 S) (Eq.trans (F2.1 34 2 (by decide)) (Eq.trans (G2.1 34 2 (by omega)) (pc_34_2 SD.2.1))) ?_
          refine aw_aload_n d_KM_drawSecrets_121 rfl rfl ?_
          refine ax_getR (b := 36) d_KM_drawSecrets_122 fd_KM_20 (k_143 S) (r_143_0 S) ?_
          refine ax_getR (b := 109) d_KM_drawSecrets_125 fd_KM_102 (k_36 S) (r_36_5 S) ?_
          refine aw_iload_n d_KM_drawSecrets_128 rfl rfl ?_
          refine ax_aald (b := 110 + i.toNat) d_KM_drawSecrets_129 ⟨by rw [(k_109 S)]; decide, by rw [(k_109 S)]; decide⟩ (by omega) (by rw [n_109 S]; omega) (g_109 S (by omega) (by omega)) ?_
          refine ax_VtT (st := []) (as := [vi 4, vr (110 + i.toNat)]) (b := 37) d_KM_drawSecrets_130 cs_KM_drawSecrets_130 (k_37 S) (c_Sa_small (e := 4) S hfl rm ((SD.fc G2 (by intro a x; omega)).1.sp F2) (by rw [e2]; exact nmS_ok) ⟨kr_109 S (by omega), by omega, nr_109 S (by omega)⟩ (by omega) (by omega)) rfl rfl rfl (fun ok_130 I_130 L_130 q_130 => ?_) (fun no_130 I_130 L_130 q_130 => at_leave rfl (hP _ _ (Or.inr ⟨fun z => no_130 (by rw [e2]; exact z.2 (5 + i) (by omega) (by omega)), I_130, L_130, ((G2.frc (by intro a x; omega)).tr (F2.fc.frc (by intro a x; omega))).tr q_130, rfl, rfl⟩)))
          rw [e2] at ok_130 q_130
          have F4 := F2.fc.tr (⟨fun a c x => q_130.1.1 a c (fun z => x (Or.inl z)) (fun z => x (Or.inr z)), q_130.1.2⟩ : FC (fun a => a = 38 ∨ a = 110 + i.toNat) _ _ I_130 L_130) (r := fun a => a = 38 ∨ a = 110 + i.toNat) (by intro a x; omega)
          show AW l G M_KM_drawSecrets P 133 [(2, vi i), (1, vr 34), (0, vr 143)] [] (sD h I_130 L_130)
          refine ax_iinc (lv' := [(2, vi (i + 1)), (1, vr 34), (0, vr 143)]) d_KM_drawSecrets_133 rfl (by decide) ⟨(by omega), (by omega)⟩ rfl ?_
          refine aw_goto (tgt := 80) d_KM_drawSecrets_136 (by decide) ?_
          exact ih_80 _ (by omega) (i + 1) I_130 L_130 (by omega) (G2.tr F4 (by intro a x; omega)) (fun m a b c x y => (F4.1 _ c (by omega)).trans (mt2 m a b c x y)) (fun m a b => ⟨(sc2 m a b).1, fun c x y => (F4.1 _ c (by omega)).trans ((sc2 m a b).2 c x y)⟩) (fun m a b => by by_cases z : m = i; exact (by rw [z]; exact ⟨ok_130, q_130.2⟩); exact ⟨(er m a (by omega)).1, fun c x y => (F4.1 _ c (by omega)).trans ((er m a (by omega)).2 c x y)⟩) rfl
      skip
      exact lp_80 _ 0 K M (by omega) (F) (mt) (fun m a b => sc m a (by omega)) (fun m a b => by omega) rfl
    · skip
      refine aw_aload_n d_KM_drawSecrets_32 rfl rfl ?_
      refine ax_getR (b := 36) d_KM_drawSecrets_33 fd_KM_20 (k_143 S) (r_143_0 S) ?_
      refine ax_getR (b := 37) d_KM_drawSecrets_36 fd_KM_76 (k_36 S) (r_36_0 S) ?_
      refine aw_aload_n d_KM_drawSecrets_39 rfl rfl ?_
      refine ax_getR (b := 144) d_KM_drawSecrets_40 fd_KM_16 (k_143 S) (r_143_1 S) ?_
      refine aw_bipush d_KM_drawSecrets_43 ⟨by decide, by decide⟩ (by decide) ?_
      refine aw_iload_n d_KM_drawSecrets_45 rfl rfl ?_
      have eG1 : (fun x => byAt K 144 145 (32 + x)) = (fun x => byAt I 144 145 (32 + x)) := funext (fun x => byAt_fc F (by omega) (by omega))
      refine ax_Vr (st := []) (as := [vr 144, vi 32, vi i]) (b := 37) d_KM_drawSecrets_46 cs_KM_drawSecrets_46 (k_37 S) (c_Sa_takeNumbered S (SD.fc F (by intro a x; omega)).1 ⟨k_144 S, r_144_0 S, k_145 S, by decide, by decide, by decide⟩ ⟨by decide, by decide⟩ (by rw [F.1 144 1 (by omega), n_145 S, hs.1]; omega) (by omega)) rfl rfl rfl (fun u_46 q_46 => ?_)
      obtain ⟨I1, L1⟩ := u_46
      obtain ⟨F1, e1⟩ := q_46
      dsimp only at F1 e1
      show AW l G M_KM_drawSecrets P 49 [(2, vi i), (1, vr 34), (0, vr 143)] [] (sD h I1 L1)
      rw [eG1] at e1
      refine aw_aload_n d_KM_drawSecrets_49 rfl rfl ?_
      refine ax_getR (b := 36) d_KM_drawSecrets_50 fd_KM_20 (k_143 S) (r_143_0 S) ?_
      refine ax_getR (b := 37) d_KM_drawSecrets_53 fd_KM_76 (k_36 S) (r_36_0 S) ?_
      refine aw_aload_n d_KM_drawSecrets_56 rfl rfl ?_
      refine ax_getIe (x := 4) d_KM_drawSecrets_57 fd_KM_92 (k_34 S) (Eq.trans (F1.1 34 2 (by decide)) (Eq.trans (F.1 34 2 (by omega)) (pc_34_2 SD.2.1))) ?_
      refine aw_aload_n d_KM_drawSecrets_60 rfl rfl ?_
      refine ax_getR (b := 36) d_KM_drawSecrets_61 fd_KM_20 (k_143 S) (r_143_0 S) ?_
      refine ax_getR (b := 101) d_KM_drawSecrets_64 fd_KM_95 (k_36 S) (r_36_4 S) ?_
      refine aw_iload_n d_KM_drawSecrets_67 rfl rfl ?_
      refine ax_aald (b := 102 + i.toNat) d_KM_drawSecrets_68 ⟨by rw [(k_101 S)]; decide, by rw [(k_101 S)]; decide⟩ (by omega) (by rw [n_101 S]; omega) (g_101 S (by omega) (by omega)) ?_
      refine ax_VtT (st := []) (as := [vi 4, vr (102 + i.toNat)]) (b := 37) d_KM_drawSecrets_69 cs_KM_drawSecrets_69 (k_37 S) (c_Sa_small (e := 4) S hfl rm ((SD.fc F (by intro a x; omega)).1.sp F1) (by rw [e1]; exact nmS_ok) ⟨kr_101 S (by omega), by omega, nr_101 S (by omega)⟩ (by omega) (by omega)) rfl rfl rfl (fun ok_69 I_69 L_69 q_69 => ?_) (fun no_69 I_69 L_69 q_69 => at_leave rfl (hP _ _ (Or.inr ⟨fun z => no_69 (by rw [e1]; exact z.2 i (by omega) (by omega)), I_69, L_69, ((F.frc (by intro a x; omega)).tr (F1.fc.frc (by intro a x; omega))).tr q_69, rfl, rfl⟩)))
      rw [e1] at ok_69 q_69
      have F3 := F1.fc.tr (⟨fun a c x => q_69.1.1 a c (fun z => x (Or.inl z)) (fun z => x (Or.inr z)), q_69.1.2⟩ : FC (fun a => a = 38 ∨ a = 102 + i.toNat) _ _ I_69 L_69) (r := fun a => a = 38 ∨ a = 102 + i.toNat) (by intro a x; omega)
      show AW l G M_KM_drawSecrets P 72 [(2, vi i), (1, vr 34), (0, vr 143)] [] (sD h I_69 L_69)
      refine ax_iinc (lv' := [(2, vi (i + 1)), (1, vr 34), (0, vr 143)]) d_KM_drawSecrets_72 rfl (by decide) ⟨(by omega), (by omega)⟩ rfl ?_
      refine aw_goto (tgt := 24) d_KM_drawSecrets_75 (by decide) ?_
      exact ih_24 _ (by omega) (i + 1) I_69 L_69 (by omega) (F.tr F3 (by intro a x; omega)) (fun m a b c x y => (F3.1 _ c (by omega)).trans (mt m a b c x y)) (fun m a b => by by_cases z : m = i; exact (by rw [z]; exact ⟨ok_69, q_69.2⟩); exact ⟨(sc m a (by omega)).1, fun c x y => (F3.1 _ c (by omega)).trans ((sc m a (by omega)).2 c x y)⟩) rfl
  skip
  refine aw_sub (lv' := [(2, vi 0), (1, vr 34), (0, vr 143)]) (by simp) ?_
  exact lp_24 _ 0 I_19 L_19 (by omega) (F0) (q_19.2) (fun m a b => by omega) rfl
set_option maxHeartbeats 800000 in
set_option maxRecDepth 100000 in
theorem c_KM_computeImages1 {l : Launch} {G : a_G} {h : Hp} {I L : Nat → Int → Int} {A V E : Int → Int → Int} (S : Shp h) (SD : Std I L) (hA : ∀ m, 0 ≤ m → m < 30 → eqQ (I (45 + m.toNat)) (A m)) (qA : ∀ m, 0 ≤ m → m < 30 → inQ (A m)) (hV : ∀ m, 0 ≤ m → m < 5 → eqQ (I (102 + m.toNat)) (V m)) (qV : ∀ m, 0 ≤ m → m < 5 → inQ (V m)) (hE : ∀ m, 0 ≤ m → m < 6 → eqQ (I (110 + m.toNat)) (E m)) (qE : ∀ m, 0 ≤ m → m < 6 → inQ (E m)) : AW l G M_KM_computeImages (Ret (fun _ : Nat → Int → Int => none) (fun K => sD h K L) (fun K => FC (fun a => 119 ≤ a ∧ a ≤ 125 ∨ 127 ≤ a ∧ a ≤ 134) I L K L ∧ ∀ m, 0 ≤ m → m < 6 → eqQ (K (127 + m.toNat)) (fun c => (bck rt (fun c => pS A (fun j => fwd rt (V j)) (m * 5) c 5 % 8380417) c + E (m) c) % 8380417))) 0 (a_ar 0 [vr 143, vr 34]) [] (sD h I L) := by
  suffices key : ∀ P : a_R → Hp → Prop, (∀ K : Nat → Int → Int, FC (fun a => 119 ≤ a ∧ a ≤ 125 ∨ 127 ≤ a ∧ a ≤ 134) I L K L → (∀ m, 0 ≤ m → m < 6 → eqQ (K (127 + m.toNat)) (fun c => (bck rt (fun c => pS A (fun j => fwd rt (V j)) (m * 5) c 5 % 8380417) c + E (m) c) % 8380417)) → P (.inl none) (sD h K L)) → AW l G M_KM_computeImages P 0 [(0, vr 143), (1, vr 34)] [] (sD h I L) from key _ (fun K q1 q2 => ⟨K, rfl, rfl, q1, q2⟩)
  intro P hP
  refine aw_iconst d_KM_computeImages_0 ⟨by decide, by decide⟩ ?_
  refine aw_istore_n (lv' := [(2, vi 0), (0, vr 143), (1, vr 34)]) d_KM_computeImages_1 rfl (by decide) rfl ?_
  have lp_2 : ∀ (n_ : Nat) (i : Int) (K : Nat → Int → Int), (0 ≤ i ∧ i ≤ 5) → (FC (fun a => 119 ≤ a ∧ a ≤ 125) I L K L) → (∀ m, 0 ≤ m → m < i → eqQ (K (119 + m.toNat)) (fwd rt (V m))) → ((5 - i).toNat) = n_ → AW l G M_KM_computeImages P 2 [(2, vi i), (1, vr 34), (0, vr 143)] [] (sD h K L) := by
    intro n_
    induction n_ using Nat.strongRecOn with
    | _ n_ ih_2 =>
    intro i K hi F gg hm_2
    refine aw_iload_n d_KM_computeImages_2 rfl rfl ?_
    refine aw_aload_n d_KM_computeImages_3 rfl rfl ?_
    refine ax_getIe (x := 5) d_KM_computeImages_4 fd_KM_66 (k_34 S) (Eq.trans (F.1 34 1 (by omega)) (pc_34_1 SD.2.1)) ?_
    refine aw_icmp_ge (tgt := 56) d_KM_computeImages_7 (by decide) (fun c_7 => ?_) (fun c_7 => ?_)
    · skip
      refine aw_aload_n d_KM_computeImages_56 rfl rfl ?_
      refine ax_getR (b := 36) d_KM_computeImages_57 fd_KM_20 (k_143 S) (r_143_0 S) ?_
      refine aw_aload_n d_KM_computeImages_60 rfl rfl ?_
      refine ax_Vr (st := []) (as := [vr 34]) (b := 36) d_KM_computeImages_61 cs_KM_computeImages_61 (k_36 S) (c_Be_multiplyMatrix1 S (SD.fc F (by intro a x; omega)) (fun m hm j x y => by rw [F.1 _ _ (by omega)]; have z := hA m (by omega) (by omega) j x y; rw [Int.toNat_natCast] at z; rw [z]; exact qA m (by omega) (by omega) j x y) (fun m hm j x y => by have z := gg m (by omega) (by omega) j x y; rw [Int.toNat_natCast] at z; rw [z]; exact fwd_in (qV m (by omega) (by omega)) j x y)) rfl rfl rfl (fun u_61 q_61 => ?_)
      obtain ⟨q1, q2⟩ := q_61
      have F2 : FC (fun a => 119 ≤ a ∧ a ≤ 125 ∨ 127 ≤ a ∧ a ≤ 134) I L u_61 L := F.tr q1 (by intro a x; omega)
      show AW l G M_KM_computeImages P 64 [(2, vi i), (1, vr 34), (0, vr 143)] [] (sD h u_61 L)
      refine aw_iconst d_KM_computeImages_64 ⟨by decide, by decide⟩ ?_
      refine aw_istore_n (lv' := [(2, vi 0), (1, vr 34), (0, vr 143)]) d_KM_computeImages_65 rfl (by decide) rfl ?_
      have lp_66 : ∀ (n_ : Nat) (i : Int) (K3 : Nat → Int → Int), (0 ≤ i ∧ i ≤ 6) → (FC (fun a => 119 ≤ a ∧ a ≤ 125 ∨ 127 ≤ a ∧ a ≤ 134) I L K3 L) → (∀ m, 0 ≤ m → i ≤ m → m < 6 → eqQ (K3 (127 + m.toNat)) (fun c => pS A (fun j => fwd rt (V j)) (m * 5) c 5 % 8380417)) → (∀ m, 0 ≤ m → m < i → eqQ (K3 (127 + m.toNat)) (fun c => (bck rt (fun c => pS A (fun j => fwd rt (V j)) (m * 5) c 5 % 8380417) c + E (m) c) % 8380417)) → ((6 - i).toNat) = n_ → AW l G M_KM_computeImages P 66 [(2, vi i), (1, vr 34), (0, vr 143)] [] (sD h K3 L) := by
        intro n_
        induction n_ using Nat.strongRecOn with
        | _ n_ ih_66 =>
        intro i K3 hi3 F3 un dn hm_66
        refine aw_iload_n d_KM_computeImages_66 rfl rfl ?_
        refine aw_aload_n d_KM_computeImages_67 rfl rfl ?_
        refine ax_getIe (x := 6) d_KM_computeImages_68 fd_KM_57 (k_34 S) (Eq.trans (F3.1 34 0 (by omega)) (pc_34_0 SD.2.1)) ?_
        refine aw_icmp_ge (tgt := 120) d_KM_computeImages_71 (by decide) (fun c_71 => ?_) (fun c_71 => ?_)
        · skip
          exact aw_vret d_KM_computeImages_120 rfl (hP K3 F3 (fun m a b => dn m a (by omega)))
        · skip
          refine aw_aload_n d_KM_computeImages_74 rfl rfl ?_
          refine ax_getR (b := 36) d_KM_computeImages_75 fd_KM_20 (k_143 S) (r_143_0 S) ?_
          refine ax_getR (b := 42) d_KM_computeImages_78 fd_KM_114 (k_36 S) (r_36_2 S) ?_
          refine aw_aload_n d_KM_computeImages_81 rfl rfl ?_
          refine ax_getR (b := 36) d_KM_computeImages_82 fd_KM_20 (k_143 S) (r_143_0 S) ?_
          refine ax_getR (b := 126) d_KM_computeImages_85 fd_KM_125 (k_36 S) (r_36_7 S) ?_
          refine aw_iload_n d_KM_computeImages_88 rfl rfl ?_
          refine ax_aald (b := 127 + i.toNat) d_KM_computeImages_89 ⟨by rw [(k_126 S)]; decide, by rw [(k_126 S)]; decide⟩ (by omega) (by rw [n_126 S]; omega) (g_126 S (by omega) (by omega)) ?_
          refine ax_V (st := []) (as := [vr (127 + i.toNat)]) (b := 42) (v := none) (h' := sD h (cset K3 (127 + i.toNat) (bck (K3 43) (K3 (127 + i.toNat)))) L) d_KM_computeImages_90 cs_KM_computeImages_90 (k_42 S) (c_Ri_back S ⟨kr_126 S (by omega), by omega, nr_126 S (by omega)⟩ (by omega) (fun j x y => by rw [un i hi3.1 (Int.le_refl _) (by omega) j x y]; show 0 ≤ _ % 8380417 ∧ _ % 8380417 < 8380417; exact ⟨Int.emod_nonneg _ (by decide), Int.emod_lt_of_pos _ (by decide)⟩) (SD.fc F3 (by intro a x; omega)).R) rfl rfl rfl ?_
          show AW l G M_KM_computeImages P 93 [(2, vi i), (1, vr 34), (0, vr 143)] [] (sD h (cset K3 (127 + i.toNat) (bck (K3 43) (K3 (127 + i.toNat)))) L)
          refine aw_aload_n d_KM_computeImages_93 rfl rfl ?_
          refine ax_getR (b := 36) d_KM_computeImages_94 fd_KM_20 (k_143 S) (r_143_0 S) ?_
          refine ax_getR (b := 126) d_KM_computeImages_97 fd_KM_125 (k_36 S) (r_36_7 S) ?_
          refine aw_iload_n d_KM_computeImages_100 rfl rfl ?_
          refine ax_aald (b := 127 + i.toNat) d_KM_computeImages_101 ⟨by rw [(k_126 S)]; decide, by rw [(k_126 S)]; decide⟩ (by omega) (by rw [n_126 S]; omega) (g_126 S (by omega) (by omega)) ?_
          refine aw_aload_n d_KM_computeImages_102 rfl rfl ?_
          refine ax_getR (b := 36) d_KM_computeImages_103 fd_KM_20 (k_143 S) (r_143_0 S) ?_
          refine ax_getR (b := 109) d_KM_computeImages_106 fd_KM_102 (k_36 S) (r_36_5 S) ?_
          refine aw_iload_n d_KM_computeImages_109 rfl rfl ?_
          refine ax_aald (b := 110 + i.toNat) d_KM_computeImages_110 ⟨by rw [(k_109 S)]; decide, by rw [(k_109 S)]; decide⟩ (by omega) (by rw [n_109 S]; omega) (g_109 S (by omega) (by omega)) ?_
          refine ax_S (st := []) (as := [vr (127 + i.toNat), vr (110 + i.toNat)]) (v := none) (h' := sD h (rowTo (cset K3 (127 + i.toNat) (bck (K3 43) (K3 (127 + i.toNat)))) (127 + i.toNat) 256 (fun j => ((cset K3 (127 + i.toNat) (bck (K3 43) (K3 (127 + i.toNat)))) (127 + i.toNat) j + (cset K3 (127 + i.toNat) (bck (K3 43) (K3 (127 + i.toNat)))) (110 + i.toNat) j) % 8380417)) L) d_KM_computeImages_111 cs_KM_computeImages_111 (c_Ri_addTo ⟨kr_126 S (by omega), by omega, nr_126 S (by omega)⟩ ⟨kr_109 S (by omega), by omega, nr_109 S (by omega)⟩ (by rw [cset_at]; exact bck_in) (fun j x y => by rw [cset_ne (by omega), F3.1 _ _ (by omega), hE i hi3.1 (by omega) j x y]; exact qE i hi3.1 (by omega) j x y)) rfl rfl rfl ?_
          show AW l G M_KM_computeImages P 114 [(2, vi i), (1, vr 34), (0, vr 143)] [] (sD h (rowTo (cset K3 (127 + i.toNat) (bck (K3 43) (K3 (127 + i.toNat)))) (127 + i.toNat) 256 (fun j => ((cset K3 (127 + i.toNat) (bck (K3 43) (K3 (127 + i.toNat)))) (127 + i.toNat) j + (cset K3 (127 + i.toNat) (bck (K3 43) (K3 (127 + i.toNat)))) (110 + i.toNat) j) % 8380417)) L)
          refine ax_iinc (lv' := [(2, vi (i + 1)), (1, vr 34), (0, vr 143)]) d_KM_computeImages_114 rfl (by decide) ⟨(by omega), (by omega)⟩ rfl ?_
          refine aw_goto (tgt := 66) d_KM_computeImages_117 (by decide) ?_
          exact ih_66 _ (by omega) (i + 1) (rowTo (cset K3 (127 + i.toNat) (bck (K3 43) (K3 (127 + i.toNat)))) (127 + i.toNat) 256 (fun j => ((cset K3 (127 + i.toNat) (bck (K3 43) (K3 (127 + i.toNat)))) (127 + i.toNat) j + (cset K3 (127 + i.toNat) (bck (K3 43) (K3 (127 + i.toNat)))) (110 + i.toNat) j) % 8380417)) (by omega) ((F3.tr (FC.cs (p := fun a => 119 ≤ a ∧ a ≤ 125 ∨ 127 ≤ a ∧ a ≤ 134) (by omega)) (fun a x => ⟨x, x⟩)).tr (FC.row (p := fun a => 119 ≤ a ∧ a ≤ 125 ∨ 127 ≤ a ∧ a ≤ 134) (by omega)) (fun a x => ⟨x, x⟩)) (fun m a b c j x y => by rw [rowTo_ne (by omega), cset_ne (by omega)]; exact un m a (by omega) c j x y) (fun m a b j x y => by by_cases z : m = i; exact (by rw [z, rowTo_in x y, cset_at, cset_ne (by omega), (SD.fc F3 (by intro a x; omega)).2.2, F3.1 _ _ (by omega), hE i hi3.1 (by omega) j x y, bck_eq (un i hi3.1 (Int.le_refl _) (by omega)) j x y]); exact (by rw [rowTo_ne (by omega), cset_ne (by omega)]; exact dn m a (by omega) j x y)) rfl
      skip
      exact lp_66 _ 0 u_61 (by omega) (F2) (fun m a b c j x y => by rw [q2 m a c j x y, mS_pS (A := A) (V := fun j => fwd rt (V j)) 5 (fun n hn => by rw [F.1 _ _ (by omega)]; exact hA _ (by omega) (by omega) j x y) (fun n hn => by have z := gg n (by omega) (by omega) j x y; rwa [Int.toNat_natCast] at z)]) (fun m a b => by omega) rfl
    · skip
      refine aw_aload_n d_KM_computeImages_10 rfl rfl ?_
      refine ax_getR (b := 36) d_KM_computeImages_11 fd_KM_20 (k_143 S) (r_143_0 S) ?_
      refine ax_getR (b := 101) d_KM_computeImages_14 fd_KM_95 (k_36 S) (r_36_4 S) ?_
      refine aw_iload_n d_KM_computeImages_17 rfl rfl ?_
      refine ax_aald (b := 102 + i.toNat) d_KM_computeImages_18 ⟨by rw [(k_101 S)]; decide, by rw [(k_101 S)]; decide⟩ (by omega) (by rw [n_101 S]; omega) (g_101 S (by omega) (by omega)) ?_
      refine aw_aload_n d_KM_computeImages_19 rfl rfl ?_
      refine ax_getR (b := 36) d_KM_computeImages_20 fd_KM_20 (k_143 S) (r_143_0 S) ?_
      refine ax_getR (b := 118) d_KM_computeImages_23 fd_KM_105 (k_36 S) (r_36_6 S) ?_
      refine aw_iload_n d_KM_computeImages_26 rfl rfl ?_
      refine ax_aald (b := 119 + i.toNat) d_KM_computeImages_27 ⟨by rw [(k_118 S)]; decide, by rw [(k_118 S)]; decide⟩ (by omega) (by rw [n_118 S]; omega) (g_118 S (by omega) (by omega)) ?_
      refine ax_S (st := []) (as := [vr (102 + i.toNat), vr (119 + i.toNat)]) (v := none) (h' := sD h (rowTo K (119 + i.toNat) 256 (K (102 + i.toNat))) L) d_KM_computeImages_28 cs_KM_computeImages_28 (c_Ri_copyRow ⟨kr_101 S (by omega), by omega, nr_101 S (by omega)⟩ ⟨kr_118 S (by omega), by omega, nr_118 S (by omega)⟩) rfl rfl rfl ?_
      show AW l G M_KM_computeImages P 31 [(2, vi i), (1, vr 34), (0, vr 143)] [] (sD h (rowTo K (119 + i.toNat) 256 (K (102 + i.toNat))) L)
      refine aw_aload_n d_KM_computeImages_31 rfl rfl ?_
      refine ax_getR (b := 36) d_KM_computeImages_32 fd_KM_20 (k_143 S) (r_143_0 S) ?_
      refine ax_getR (b := 42) d_KM_computeImages_35 fd_KM_114 (k_36 S) (r_36_2 S) ?_
      refine aw_aload_n d_KM_computeImages_38 rfl rfl ?_
      refine ax_getR (b := 36) d_KM_computeImages_39 fd_KM_20 (k_143 S) (r_143_0 S) ?_
      refine ax_getR (b := 118) d_KM_computeImages_42 fd_KM_105 (k_36 S) (r_36_6 S) ?_
      refine aw_iload_n d_KM_computeImages_45 rfl rfl ?_
      refine ax_aald (b := 119 + i.toNat) d_KM_computeImages_46 ⟨by rw [(k_118 S)]; decide, by rw [(k_118 S)]; decide⟩ (by omega) (by rw [n_118 S]; omega) (g_118 S (by omega) (by omega)) ?_
      refine ax_V (st := []) (as := [vr (119 + i.toNat)]) (b := 42) (v := none) (h' := sD h (cset (rowTo K (119 + i.toNat) 256 (K (102 + i.toNat))) (119 + i.toNat) (fwd ((rowTo K (119 + i.toNat) 256 (K (102 + i.toNat))) 43) ((rowTo K (119 + i.toNat) 256 (K (102 + i.toNat))) (119 + i.toNat)))) L) d_KM_computeImages_47 cs_KM_computeImages_47 (k_42 S) (c_Ri_forward S ⟨kr_118 S (by omega), by omega, nr_118 S (by omega)⟩ (by omega) (fun j x y => by rw [rowTo_in x y, F.1 _ _ (by omega), hV i hi.1 (by omega) j x y]; exact qV i hi.1 (by omega) j x y) (fun j x y => by rw [rowTo_ne (by omega), F.1 _ _ (by omega)]; exact SD.R j x y)) rfl rfl rfl ?_
      show AW l G M_KM_computeImages P 50 [(2, vi i), (1, vr 34), (0, vr 143)] [] (sD h (cset (rowTo K (119 + i.toNat) 256 (K (102 + i.toNat))) (119 + i.toNat) (fwd ((rowTo K (119 + i.toNat) 256 (K (102 + i.toNat))) 43) ((rowTo K (119 + i.toNat) 256 (K (102 + i.toNat))) (119 + i.toNat)))) L)
      refine ax_iinc (lv' := [(2, vi (i + 1)), (1, vr 34), (0, vr 143)]) d_KM_computeImages_50 rfl (by decide) ⟨(by omega), (by omega)⟩ rfl ?_
      refine aw_goto (tgt := 2) d_KM_computeImages_53 (by decide) ?_
      exact ih_2 _ (by omega) (i + 1) (cset (rowTo K (119 + i.toNat) 256 (K (102 + i.toNat))) (119 + i.toNat) (fwd ((rowTo K (119 + i.toNat) 256 (K (102 + i.toNat))) 43) ((rowTo K (119 + i.toNat) 256 (K (102 + i.toNat))) (119 + i.toNat)))) (by omega) ((F.tr (FC.row (p := fun a => 119 ≤ a ∧ a ≤ 125) (by omega)) (fun a x => ⟨x, x⟩)).tr (FC.cs (p := fun a => 119 ≤ a ∧ a ≤ 125) (by omega)) (fun a x => ⟨x, x⟩)) (fun m a b j x y => by by_cases z : m = i; exact (by rw [z, cset_at, show (rowTo K (119 + i.toNat) 256 (K (102 + i.toNat))) 43 = rt from by rw [← SD.2.2]; funext v; rw [rowTo_ne (by omega), F.1 _ _ (by omega)]]; exact fwd_eq (fun v u t => by rw [rowTo_in u t, F.1 _ _ (by omega)]; exact hV i hi.1 (by omega) v u t) j x y); exact (by rw [cset_ne (by omega), rowTo_ne (by omega)]; exact gg m a (by omega) j x y)) rfl
  skip
  refine aw_sub (lv' := [(2, vi 0), (1, vr 34), (0, vr 143)]) (by simp) ?_
  exact lp_2 _ 0 I (by omega) (FC.rfl') (fun m a b => by omega) rfl
set_option maxHeartbeats 800000 in
set_option maxRecDepth 100000 in
theorem c_KM_drawSeeds2 {l : Launch} {G : a_G} {h : Hp} {I L : Nat → Int → Int} (S : Shp h) (SD : Std I L) (hc : I 14 1 ≤ 8192) : AW l G M_KM_drawSeeds (Ret (fun _ : (Nat → Int → Int) × (Nat → Int → Int) => none) (fun u => sD h u.1 u.2) (fun u => FC (fun a => a = 38 ∨ a = 144 ∨ a = 145) I L u.1 u.2 ∧ HB u.1 144 145 128 (spOut (ksS (fun x => byAt I 14 15 (0 + x)) 8 7)))) 0 (a_ar 0 [vr 143, vr 14, vr 35]) [] (sD h I L) := by
  suffices key : ∀ P : a_R → Hp → Prop, (∀ I2 L2, FC (fun a => a = 38 ∨ a = 144 ∨ a = 145) I L I2 L2 → HB I2 144 145 128 (spOut (ksS (fun x => byAt I 14 15 (0 + x)) 8 7)) → P (.inl none) (sD h I2 L2)) → AW l G M_KM_drawSeeds P 0 [(0, vr 143), (1, vr 14), (2, vr 35)] [] (sD h I L) from key _ (fun I2 L2 q1 q2 => ⟨(I2, L2), rfl, rfl, q1, q2⟩)
  intro P hP
  refine aw_aload_n d_KM_drawSeeds_0 rfl rfl ?_
  refine ax_getR (b := 36) d_KM_drawSeeds_1 fd_KM_20 (k_143 S) (r_143_0 S) ?_
  refine ax_getR (b := 38) d_KM_drawSeeds_4 fd_KM_42 (k_36 S) (r_36_1 S) ?_
  refine ax_Vr (st := []) (as := []) (b := 38) d_KM_drawSeeds_7 cs_KM_drawSeeds_7 (k_38 S) (c_Sp_start256 S) rfl rfl rfl (fun u_7 q_7 => ?_)
  obtain ⟨I1, L1⟩ := u_7
  obtain ⟨F1, e1⟩ := q_7
  dsimp only at F1 e1
  show AW l G M_KM_drawSeeds P 10 [(0, vr 143), (1, vr 14), (2, vr 35)] [] (sD h I1 L1)
  refine aw_aload_n d_KM_drawSeeds_10 rfl rfl ?_
  refine ax_getR (b := 36) d_KM_drawSeeds_11 fd_KM_20 (k_143 S) (r_143_0 S) ?_
  refine ax_getR (b := 38) d_KM_drawSeeds_14 fd_KM_42 (k_36 S) (r_36_1 S) ?_
  refine aw_aload_n d_KM_drawSeeds_17 rfl rfl ?_
  refine aw_iconst d_KM_drawSeeds_18 ⟨by decide, by decide⟩ ?_
  refine aw_bipush d_KM_drawSeeds_19 ⟨by decide, by decide⟩ (by decide) ?_
  refine ax_Vr (st := []) (as := [vr 14, vi 0, vi 32]) (b := 38) d_KM_drawSeeds_21 cs_KM_drawSeeds_21 (k_38 S) (c_Sp_takePart S (SD.1.sp F1) (by rw [e1]; exact (spStart_lt (by decide) (by decide)).1) (ks S (i := 0) (by decide)) ⟨by decide, by decide⟩ (by rw [F1.1 14 1 (by decide), nks S (i := 0) (by decide)]; omega)) rfl rfl rfl (fun u_21 q_21 => ?_)
  obtain ⟨I2, L2⟩ := u_21
  obtain ⟨F2, e2⟩ := q_21
  dsimp only at F2 e2
  show AW l G M_KM_drawSeeds P 24 [(0, vr 143), (1, vr 14), (2, vr 35)] [] (sD h I2 L2)
  refine aw_aload_n d_KM_drawSeeds_24 rfl rfl ?_
  refine ax_getR (b := 36) d_KM_drawSeeds_25 fd_KM_20 (k_143 S) (r_143_0 S) ?_
  refine ax_getR (b := 38) d_KM_drawSeeds_28 fd_KM_42 (k_36 S) (r_36_1 S) ?_
  refine aw_aload_n d_KM_drawSeeds_31 rfl rfl ?_
  refine ax_getIe (x := 8) d_KM_drawSeeds_32 fd_KM_57 (k_35 S) (Eq.trans ((F1.tr F2).1 35 0 (by decide)) (pc_35_0 SD.2.1)) ?_
  refine ax_Vr (st := []) (as := [vi 8]) (b := 38) d_KM_drawSeeds_35 cs_KM_drawSeeds_35 (k_38 S) (c_Sp_take S ((SD.1.sp F1).sp F2) (by rw [e2, e1]; exact spPart_ok ((spStart_lt (by decide) (by decide)).1) _ _)) rfl rfl rfl (fun u_35 q_35 => ?_)
  obtain ⟨I3, L3⟩ := u_35
  obtain ⟨F3, e3⟩ := q_35
  dsimp only at F3 e3
  show AW l G M_KM_drawSeeds P 38 [(0, vr 143), (1, vr 14), (2, vr 35)] [] (sD h I3 L3)
  refine aw_aload_n d_KM_drawSeeds_38 rfl rfl ?_
  refine ax_getR (b := 36) d_KM_drawSeeds_39 fd_KM_20 (k_143 S) (r_143_0 S) ?_
  refine ax_getR (b := 38) d_KM_drawSeeds_42 fd_KM_42 (k_36 S) (r_36_1 S) ?_
  refine aw_aload_n d_KM_drawSeeds_45 rfl rfl ?_
  refine ax_getIe (x := 7) d_KM_drawSeeds_46 fd_KM_66 (k_35 S) (Eq.trans (((F1.tr F2).tr F3).1 35 1 (by decide)) (pc_35_1 SD.2.1)) ?_
  refine ax_Vr (st := []) (as := [vi 7]) (b := 38) d_KM_drawSeeds_49 cs_KM_drawSeeds_49 (k_38 S) (c_Sp_take S (((SD.1.sp F1).sp F2).sp F3) (by rw [e3, e2, e1]; exact spTake_ok (spPart_ok ((spStart_lt (by decide) (by decide)).1) _ _) _)) rfl rfl rfl (fun u_49 q_49 => ?_)
  obtain ⟨I4, L4⟩ := u_49
  obtain ⟨F4, e4⟩ := q_49
  dsimp only at F4 e4
  show AW l G M_KM_drawSeeds P 52 [(0, vr 143), (1, vr 14), (2, vr 35)] [] (sD h I4 L4)
  refine aw_aload_n d_KM_drawSeeds_52 rfl rfl ?_
  refine ax_getR (b := 36) d_KM_drawSeeds_53 fd_KM_20 (k_143 S) (r_143_0 S) ?_
  refine ax_getR (b := 38) d_KM_drawSeeds_56 fd_KM_42 (k_36 S) (r_36_1 S) ?_
  refine ax_Vr (st := []) (as := []) (b := 38) d_KM_drawSeeds_59 cs_KM_drawSeeds_59 (k_38 S) (c_Sp_turn S ((((SD.1.sp F1).sp F2).sp F3).sp F4) (by rw [e4, e3, e2, e1]; exact spTake_ok (spTake_ok (spPart_ok ((spStart_lt (by decide) (by decide)).1) _ _) _) _)) rfl rfl rfl (fun u_59 q_59 => ?_)
  obtain ⟨I5, L5⟩ := u_59
  obtain ⟨F5, e5⟩ := q_59
  dsimp only at F5 e5
  show AW l G M_KM_drawSeeds P 62 [(0, vr 143), (1, vr 14), (2, vr 35)] [] (sD h I5 L5)
  have eS : spOf I5 L5 = (ksS (fun x => byAt I 14 15 (0 + x)) 8 7) := by rw [e5, e4, e3, e2, e1, show (fun x => byAt I1 14 15 (0 + x)) = (fun x => byAt I 14 15 (0 + x)) from funext (fun x => byAt_sp F1.1 (by decide) (by decide))]; rfl
  refine aw_aload_n d_KM_drawSeeds_62 rfl rfl ?_
  refine ax_getR (b := 36) d_KM_drawSeeds_63 fd_KM_20 (k_143 S) (r_143_0 S) ?_
  refine ax_getR (b := 38) d_KM_drawSeeds_66 fd_KM_42 (k_36 S) (r_36_1 S) ?_
  refine aw_aload_n d_KM_drawSeeds_69 rfl rfl ?_
  refine ax_getR (b := 144) d_KM_drawSeeds_70 fd_KM_16 (k_143 S) (r_143_1 S) ?_
  refine aw_sipush d_KM_drawSeeds_73 ⟨by decide, by decide⟩ (by decide) ?_
  refine ax_Vr (st := []) (as := [vr 144, vi 128]) (b := 38) d_KM_drawSeeds_76 cs_KM_drawSeeds_76 (k_38 S) (c_Sp_giveTo S (((((SD.1.sp F1).sp F2).sp F3).sp F4).sp F5) (by rw [e5, e4, e3, e2, e1]; exact spTurn_ok (spTake_ok (spTake_ok (spPart_ok ((spStart_lt (by decide) (by decide)).1) _ _) _) _)) ⟨k_144 S, r_144_0 S, k_145 S, by decide, by decide, by decide⟩ ⟨by decide, by decide⟩ (by rw [n_145 S]; omega)) rfl rfl rfl (fun u_76 q_76 => ?_)
  obtain ⟨I9, L9⟩ := u_76
  obtain ⟨F9, f9, e9⟩ := q_76
  dsimp only at F9 f9 e9
  rw [eS] at F9
  show AW l G M_KM_drawSeeds P 79 [(0, vr 143), (1, vr 14), (2, vr 35)] [] (sD h I9 L9)
  exact aw_vret d_KM_drawSeeds_79 rfl (hP _ _ ((((((F1.tr F2).tr F3).tr F4).tr F5).fc).tr (gv_fc F9 f9) (by intro a x; omega)) (gv_at F9 (by decide) (by decide) (by decide)))
set_option maxHeartbeats 800000 in
set_option maxRecDepth 100000 in
theorem c_KM_drawSecrets2 {l : Launch} {G : a_G} {h : Hp} {I L : Nat → Int → Int} {sd : Int → Int} (S : Shp h) (hfl : l.flags = flags0) (rm : hX h + 1 ≤ a_NX ∧ hU h + 6 ≤ a_US) (SD : Std I L) (hs : HB I 144 145 128 sd) : AW l G M_KM_drawSecrets (ThR h I L ((∀ m, 0 ≤ m → m < 56 → (wide (fun x => byAt I 144 145 (0 + x)) (m % 7) (m / 7)).2.1 = 256) ∧ ∀ m, 0 ≤ m → m < 15 → (sml 2 (fun x => byAt I 144 145 (32 + x)) m).2.1 = 256) (fun I' L' => FC (fun a => a = 38 ∨ 45 ≤ a ∧ a ≤ 100 ∨ 102 ≤ a ∧ a ≤ 108 ∨ 110 ≤ a ∧ a ≤ 117) I L I' L' ∧ (∀ m, 0 ≤ m → m < 56 → ∀ c, 0 ≤ c → c < 256 → I' (45 + m.toNat) c = (wide (fun x => byAt I 144 145 (0 + x)) (m % 7) (m / 7)).2.2 c) ∧ (∀ m, 0 ≤ m → m < 7 → ∀ c, 0 ≤ c → c < 256 → I' (102 + m.toNat) c = (sml 2 (fun x => byAt I 144 145 (32 + x)) m).2.2 c % 8380417) ∧ ∀ m, 0 ≤ m → m < 8 → ∀ c, 0 ≤ c → c < 256 → I' (110 + m.toNat) c = (sml 2 (fun x => byAt I 144 145 (32 + x)) (7 + m)).2.2 c % 8380417)) 0 (a_ar 0 [vr 143, vr 35]) [] (sD h I L) := by
  suffices key : ∀ P : a_R → Hp → Prop, (∀ r_ h2_, ThR h I L ((∀ m, 0 ≤ m → m < 56 → (wide (fun x => byAt I 144 145 (0 + x)) (m % 7) (m / 7)).2.1 = 256) ∧ ∀ m, 0 ≤ m → m < 15 → (sml 2 (fun x => byAt I 144 145 (32 + x)) m).2.1 = 256) (fun I' L' => FC (fun a => a = 38 ∨ 45 ≤ a ∧ a ≤ 100 ∨ 102 ≤ a ∧ a ≤ 108 ∨ 110 ≤ a ∧ a ≤ 117) I L I' L' ∧ (∀ m, 0 ≤ m → m < 56 → ∀ c, 0 ≤ c → c < 256 → I' (45 + m.toNat) c = (wide (fun x => byAt I 144 145 (0 + x)) (m % 7) (m / 7)).2.2 c) ∧ (∀ m, 0 ≤ m → m < 7 → ∀ c, 0 ≤ c → c < 256 → I' (102 + m.toNat) c = (sml 2 (fun x => byAt I 144 145 (32 + x)) m).2.2 c % 8380417) ∧ ∀ m, 0 ≤ m → m < 8 → ∀ c, 0 ≤ c → c < 256 → I' (110 + m.toNat) c = (sml 2 (fun x => byAt I 144 145 (32 + x)) (7 + m)).2.2 c % 8380417) r_ h2_ → P r_ h2_) → AW l G M_KM_drawSecrets P 0 [(0, vr 143), (1, vr 35)] [] (sD h I L) from key _ (fun _ _ q => q)
  intro P hP
  refine aw_aload_n d_KM_drawSecrets_0 rfl rfl ?_
  refine ax_getR (b := 36) d_KM_drawSecrets_1 fd_KM_20 (k_143 S) (r_143_0 S) ?_
  refine ax_getR (b := 37) d_KM_drawSecrets_4 fd_KM_76 (k_36 S) (r_36_0 S) ?_
  refine aw_aload_n d_KM_drawSecrets_7 rfl rfl ?_
  refine ax_getR (b := 144) d_KM_drawSecrets_8 fd_KM_16 (k_143 S) (r_143_1 S) ?_
  refine aw_aload_n d_KM_drawSecrets_11 rfl rfl ?_
  refine aw_aload_n d_KM_drawSecrets_12 rfl rfl ?_
  refine ax_getR (b := 36) d_KM_drawSecrets_13 fd_KM_20 (k_143 S) (r_143_0 S) ?_
  refine ax_getR (b := 44) d_KM_drawSecrets_16 fd_KM_80 (k_36 S) (r_36_3 S) ?_
  refine ax_VtT (st := []) (as := [vr 144, vr 35, vr 44]) (b := 37) d_KM_drawSecrets_19 cs_KM_drawSecrets_19 (k_37 S) (c_Sa_matrix2 S hfl rm SD ⟨k_144 S, r_144_0 S, k_145 S, by decide, by decide, by decide⟩ (by omega) (by rw [n_145 S, hs.1]; decide)) rfl rfl rfl (fun ok_19 I_19 L_19 q_19 => ?_) (fun no_19 I_19 L_19 q_19 => at_leave rfl (hP _ _ (Or.inr ⟨fun z => no_19 z.1, I_19, L_19, q_19, rfl, rfl⟩)))
  have F0 : FC (fun a => a = 38 ∨ 45 ≤ a ∧ a ≤ 100 ∨ 102 ≤ a ∧ a ≤ 108 ∨ 110 ≤ a ∧ a ≤ 117) I L I_19 L_19 := q_19.1.mono (by intro a x; omega)
  show AW l G M_KM_drawSecrets P 22 [(0, vr 143), (1, vr 35)] [] (sD h I_19 L_19)
  have okm := ok_19
  refine aw_iconst d_KM_drawSecrets_22 ⟨by decide, by decide⟩ ?_
  refine aw_istore_n (lv' := [(2, vi 0), (0, vr 143), (1, vr 35)]) d_KM_drawSecrets_23 rfl (by decide) rfl ?_
  have lp_24 : ∀ (n_ : Nat) (i : Int) (K : Nat → Int → Int) (M : Nat → Int → Int), (0 ≤ i ∧ i ≤ 7) → (FC (fun a => a = 38 ∨ 45 ≤ a ∧ a ≤ 100 ∨ 102 ≤ a ∧ a ≤ 108 ∨ 110 ≤ a ∧ a ≤ 117) I L K M) → (∀ m, 0 ≤ m → m < 56 → ∀ c, 0 ≤ c → c < 256 → K (45 + m.toNat) c = (wide (fun x => byAt I 144 145 (0 + x)) (m % 7) (m / 7)).2.2 c) → (∀ m, 0 ≤ m → m < i → (sml 2 (fun x => byAt I 144 145 (32 + x)) m).2.1 = 256 ∧ ∀ c, 0 ≤ c → c < 256 → K (102 + m.toNat) c = (sml 2 (fun x => byAt I 144 145 (32 + x)) m).2.2 c % 8380417) → ((7 - i).toNat) = n_ → AW l G M_KM_drawSecrets P 24 [(2, vi i), (1, vr 35), (0, vr 143)] [] (sD h K M) := by
    intro n_
    induction n_ using Nat.strongRecOn with
    | _ n_ ih_24 =>
    intro i K M hi F mt sc hm_24
    refine aw_iload_n d_KM_drawSecrets_24 rfl rfl ?_
    refine aw_aload_n d_KM_drawSecrets_25 rfl rfl ?_
    refine ax_getIe (x := 7) d_KM_drawSecrets_26 fd_KM_66 (k_35 S) (Eq.trans (F.1 35 1 (by omega)) (pc_35_1 SD.2.1)) ?_
    refine aw_icmp_ge (tgt := 78) d_KM_drawSecrets_29 (by decide) (fun c_29 => ?_) (fun c_29 => ?_)
    · skip
      refine aw_iconst d_KM_drawSecrets_78 ⟨by decide, by decide⟩ ?_
      refine aw_istore_n (lv' := [(2, vi 0), (1, vr 35), (0, vr 143)]) d_KM_drawSecrets_79 rfl (by decide) rfl ?_
      have lp_80 : ∀ (n_ : Nat) (i : Int) (K2 : Nat → Int → Int) (M2 : Nat → Int → Int), (0 ≤ i ∧ i ≤ 8) → (FC (fun a => a = 38 ∨ 45 ≤ a ∧ a ≤ 100 ∨ 102 ≤ a ∧ a ≤ 108 ∨ 110 ≤ a ∧ a ≤ 117) I L K2 M2) → (∀ m, 0 ≤ m → m < 56 → ∀ c, 0 ≤ c → c < 256 → K2 (45 + m.toNat) c = (wide (fun x => byAt I 144 145 (0 + x)) (m % 7) (m / 7)).2.2 c) → (∀ m, 0 ≤ m → m < 7 → (sml 2 (fun x => byAt I 144 145 (32 + x)) m).2.1 = 256 ∧ ∀ c, 0 ≤ c → c < 256 → K2 (102 + m.toNat) c = (sml 2 (fun x => byAt I 144 145 (32 + x)) m).2.2 c % 8380417) → (∀ m, 0 ≤ m → m < i → (sml 2 (fun x => byAt I 144 145 (32 + x)) (7 + m)).2.1 = 256 ∧ ∀ c, 0 ≤ c → c < 256 → K2 (110 + m.toNat) c = (sml 2 (fun x => byAt I 144 145 (32 + x)) (7 + m)).2.2 c % 8380417) → ((8 - i).toNat) = n_ → AW l G M_KM_drawSecrets P 80 [(2, vi i), (1, vr 35), (0, vr 143)] [] (sD h K2 M2) := by
        intro n_
        induction n_ using Nat.strongRecOn with
        | _ n_ ih_80 =>
        intro i K2 M2 hi2 G2 mt2 sc2 er hm_80
        refine aw_iload_n d_KM_drawSecrets_80 rfl rfl ?_
        refine aw_aload_n d_KM_drawSecrets_81 rfl rfl ?_
        refine ax_getIe (x := 8) d_KM_drawSecrets_82 fd_KM_57 (k_35 S) (Eq.trans (G2.1 35 0 (by omega)) (pc_35_0 SD.2.1)) ?_
        refine aw_icmp_ge (tgt := 139) d_KM_drawSecrets_85 (by decide) (fun c_85 => ?_) (fun c_85 => ?_)
        · skip
          exact aw_vret d_KM_drawSecrets_139 rfl (hP _ _ (Or.inl ⟨⟨okm, fun m a b => by by_cases z : m < 7; exact (sc2 m a z).1; exact (by have y := (er (m - 7) (by omega) (by omega)).1; rwa [show 7 + (m - 7) = m by omega] at y)⟩, K2, M2, ⟨G2, mt2, fun m a b => (sc2 m a b).2, fun m a b => (er m a (by omega)).2⟩, rfl, rfl⟩))
        · skip
          refine aw_aload_n d_KM_drawSecrets_88 rfl rfl ?_
          refine ax_getR (b := 36) d_KM_drawSecrets_89 fd_KM_20 (k_143 S) (r_143_0 S) ?_
          refine ax_getR (b := 37) d_KM_drawSecrets_92 fd_KM_76 (k_36 S) (r_36_0 S) ?_
          refine aw_aload_n d_KM_drawSecrets_95 rfl rfl ?_
          refine ax_getR (b := 144) d_KM_drawSecrets_96 fd_KM_16 (k_143 S) (r_143_1 S) ?_
          refine aw_bipush d_KM_drawSecrets_99 ⟨by decide, by decide⟩ (by decide) ?_
          refine aw_aload_n d_KM_drawSecrets_101 rfl rfl ?_
          refine ax_getIe (x := 7) d_KM_drawSecrets_102 fd_KM_66 (k_35 S) (Eq.trans (G2.1 35 1 (by omega)) (pc_35_1 SD.2.1)) ?_
          refine aw_iload_n d_KM_drawSecrets_105 rfl rfl ?_
          refine ax_iadd d_KM_drawSecrets_106 ⟨(by omega), (by omega)⟩ ?_
          have eG2 : (fun x => byAt K2 144 145 (32 + x)) = (fun x => byAt I 144 145 (32 + x)) := funext (fun x => byAt_fc G2 (by omega) (by omega))
          refine ax_Vr (st := []) (as := [vr 144, vi 32, vi (7 + i)]) (b := 37) d_KM_drawSecrets_107 cs_KM_drawSecrets_107 (k_37 S) (c_Sa_takeNumbered S (SD.fc G2 (by intro a x; omega)).1 ⟨k_144 S, r_144_0 S, k_145 S, by decide, by decide, by decide⟩ ⟨by decide, by decide⟩ (by rw [G2.1 144 1 (by omega), n_145 S, hs.1]; omega) (by omega)) rfl rfl rfl (fun u_107 q_107 => ?_)
          obtain ⟨I2, L2⟩ := u_107
          obtain ⟨F2, e2⟩ := q_107
          dsimp only at F2 e2
          show AW l G M_KM_drawSecrets P 110 [(2, vi i), (1, vr 35), (0, vr 143)] [] (sD h I2 L2)
          rw [eG2] at e2
          refine aw_aload_n d_KM_drawSecrets_110 rfl rfl ?_
          refine ax_getR (b := 36) d_KM_drawSecrets_111 fd_KM_20 (k_143 S) (r_143_0 S) ?_
          refine ax_getR (b := 37) d_KM_drawSecrets_114 fd_KM_76 (k_36 S) (r_36_0 S) ?_
          refine aw_aload_n d_KM_drawSecrets_117 rfl rfl ?_
          refine ax_getIe (x := 2) d_KM_drawSecrets_118 fd_KM_92 (k_35 S) (Eq.trans (F2.1 35 2 (by decide)) (Eq.trans (G2.1 35 2 (by omega)) (pc_35_2 SD.2.1))) ?_
          refine aw_aload_n d_KM_drawSecrets_121 rfl rfl ?_
          refine ax_getR (b := 36) d_KM_drawSecrets_122 fd_KM_20 (k_143 S) (r_143_0 S) ?_
          refine ax_getR (b := 109) d_KM_drawSecrets_125 fd_KM_102 (k_36 S) (r_36_5 S) ?_
          refine aw_iload_n d_KM_drawSecrets_128 rfl rfl ?_
          refine ax_aald (b := 110 + i.toNat) d_KM_drawSecrets_129 ⟨by rw [(k_109 S)]; decide, by rw [(k_109 S)]; decide⟩ (by omega) (by rw [n_109 S]; omega) (g_109 S (by omega) (by omega)) ?_
          refine ax_VtT (st := []) (as := [vi 2, vr (110 + i.toNat)]) (b := 37) d_KM_drawSecrets_130 cs_KM_drawSecrets_130 (k_37 S) (c_Sa_small (e := 2) S hfl rm ((SD.fc G2 (by intro a x; omega)).1.sp F2) (by rw [e2]; exact nmS_ok) ⟨kr_109 S (by omega), by omega, nr_109 S (by omega)⟩ (by omega) (by omega)) rfl rfl rfl (fun ok_130 I_130 L_130 q_130 => ?_) (fun no_130 I_130 L_130 q_130 => at_leave rfl (hP _ _ (Or.inr ⟨fun z => no_130 (by rw [e2]; exact z.2 (7 + i) (by omega) (by omega)), I_130, L_130, ((G2.frc (by intro a x; omega)).tr (F2.fc.frc (by intro a x; omega))).tr q_130, rfl, rfl⟩)))
          rw [e2] at ok_130 q_130
          have F4 := F2.fc.tr (⟨fun a c x => q_130.1.1 a c (fun z => x (Or.inl z)) (fun z => x (Or.inr z)), q_130.1.2⟩ : FC (fun a => a = 38 ∨ a = 110 + i.toNat) _ _ I_130 L_130) (r := fun a => a = 38 ∨ a = 110 + i.toNat) (by intro a x; omega)
          show AW l G M_KM_drawSecrets P 133 [(2, vi i), (1, vr 35), (0, vr 143)] [] (sD h I_130 L_130)
          refine ax_iinc (lv' := [(2, vi (i + 1)), (1, vr 35), (0, vr 143)]) d_KM_drawSecrets_133 rfl (by decide) ⟨(by omega), (by omega)⟩ rfl ?_
          refine aw_goto (tgt := 80) d_KM_drawSecrets_136 (by decide) ?_
          exact ih_80 _ (by omega) (i + 1) I_130 L_130 (by omega) (G2.tr F4 (by intro a x; omega)) (fun m a b c x y => (F4.1 _ c (by omega)).trans (mt2 m a b c x y)) (fun m a b => ⟨(sc2 m a b).1, fun c x y => (F4.1 _ c (by omega)).trans ((sc2 m a b).2 c x y)⟩) (fun m a b => by by_cases z : m = i; exact (by rw [z]; exact ⟨ok_130, q_130.2⟩); exact ⟨(er m a (by omega)).1, fun c x y => (F4.1 _ c (by omega)).trans ((er m a (by omega)).2 c x y)⟩) rfl
      skip
      exact lp_80 _ 0 K M (by omega) (F) (mt) (fun m a b => sc m a (by omega)) (fun m a b => by omega) rfl
    · skip
      refine aw_aload_n d_KM_drawSecrets_32 rfl rfl ?_
      refine ax_getR (b := 36) d_KM_drawSecrets_33 fd_KM_20 (k_143 S) (r_143_0 S) ?_
      refine ax_getR (b := 37) d_KM_drawSecrets_36 fd_KM_76 (k_36 S) (r_36_0 S) ?_
      refine aw_aload_n d_KM_drawSecrets_39 rfl rfl ?_
      refine ax_getR (b := 144) d_KM_drawSecrets_40 fd_KM_16 (k_143 S) (r_143_1 S) ?_
      refine aw_bipush d_KM_drawSecrets_43 ⟨by decide, by decide⟩ (by decide) ?_
      refine aw_iload_n d_KM_drawSecrets_45 rfl rfl ?_
      have eG1 : (fun x => byAt K 144 145 (32 + x)) = (fun x => byAt I 144 145 (32 + x)) := funext (fun x => byAt_fc F (by omega) (by omega))
      refine ax_Vr (st := []) (as := [vr 144, vi 32, vi i]) (b := 37) d_KM_drawSecrets_46 cs_KM_drawSecrets_46 (k_37 S) (c_Sa_takeNumbered S (SD.fc F (by intro a x; omega)).1 ⟨k_144 S, r_144_0 S, k_145 S, by decide, by decide, by decide⟩ ⟨by decide, by decide⟩ (by rw [F.1 144 1 (by omega), n_145 S, hs.1]; omega) (by omega)) rfl rfl rfl (fun u_46 q_46 => ?_)
      obtain ⟨I1, L1⟩ := u_46
      obtain ⟨F1, e1⟩ := q_46
      dsimp only at F1 e1
      show AW l G M_KM_drawSecrets P 49 [(2, vi i), (1, vr 35), (0, vr 143)] [] (sD h I1 L1)
      rw [eG1] at e1
      refine aw_aload_n d_KM_drawSecrets_49 rfl rfl ?_
      refine ax_getR (b := 36) d_KM_drawSecrets_50 fd_KM_20 (k_143 S) (r_143_0 S) ?_
      refine ax_getR (b := 37) d_KM_drawSecrets_53 fd_KM_76 (k_36 S) (r_36_0 S) ?_
      refine aw_aload_n d_KM_drawSecrets_56 rfl rfl ?_
      refine ax_getIe (x := 2) d_KM_drawSecrets_57 fd_KM_92 (k_35 S) (Eq.trans (F1.1 35 2 (by decide)) (Eq.trans (F.1 35 2 (by omega)) (pc_35_2 SD.2.1))) ?_
      refine aw_aload_n d_KM_drawSecrets_60 rfl rfl ?_
      refine ax_getR (b := 36) d_KM_drawSecrets_61 fd_KM_20 (k_143 S) (r_143_0 S) ?_
      refine ax_getR (b := 101) d_KM_drawSecrets_64 fd_KM_95 (k_36 S) (r_36_4 S) ?_
      refine aw_iload_n d_KM_drawSecrets_67 rfl rfl ?_
      refine ax_aald (b := 102 + i.toNat) d_KM_drawSecrets_68 ⟨by rw [(k_101 S)]; decide, by rw [(k_101 S)]; decide⟩ (by omega) (by rw [n_101 S]; omega) (g_101 S (by omega) (by omega)) ?_
      refine ax_VtT (st := []) (as := [vi 2, vr (102 + i.toNat)]) (b := 37) d_KM_drawSecrets_69 cs_KM_drawSecrets_69 (k_37 S) (c_Sa_small (e := 2) S hfl rm ((SD.fc F (by intro a x; omega)).1.sp F1) (by rw [e1]; exact nmS_ok) ⟨kr_101 S (by omega), by omega, nr_101 S (by omega)⟩ (by omega) (by omega)) rfl rfl rfl (fun ok_69 I_69 L_69 q_69 => ?_) (fun no_69 I_69 L_69 q_69 => at_leave rfl (hP _ _ (Or.inr ⟨fun z => no_69 (by rw [e1]; exact z.2 i (by omega) (by omega)), I_69, L_69, ((F.frc (by intro a x; omega)).tr (F1.fc.frc (by intro a x; omega))).tr q_69, rfl, rfl⟩)))
      rw [e1] at ok_69 q_69
      have F3 := F1.fc.tr (⟨fun a c x => q_69.1.1 a c (fun z => x (Or.inl z)) (fun z => x (Or.inr z)), q_69.1.2⟩ : FC (fun a => a = 38 ∨ a = 102 + i.toNat) _ _ I_69 L_69) (r := fun a => a = 38 ∨ a = 102 + i.toNat) (by intro a x; omega)
      show AW l G M_KM_drawSecrets P 72 [(2, vi i), (1, vr 35), (0, vr 143)] [] (sD h I_69 L_69)
      refine ax_iinc (lv' := [(2, vi (i + 1)), (1, vr 35), (0, vr 143)]) d_KM_drawSecrets_72 rfl (by decide) ⟨(by omega), (by omega)⟩ rfl ?_
      refine aw_goto (tgt := 24) d_KM_drawSecrets_75 (by decide) ?_
      exact ih_24 _ (by omega) (i + 1) I_69 L_69 (by omega) (F.tr F3 (by intro a x; omega)) (fun m a b c x y => (F3.1 _ c (by omega)).trans (mt m a b c x y)) (fun m a b => by by_cases z : m = i; exact (by rw [z]; exact ⟨ok_69, q_69.2⟩); exact ⟨(sc m a (by omega)).1, fun c x y => (F3.1 _ c (by omega)).trans ((sc m a (by omega)).2 c x y)⟩) rfl
  skip
  refine aw_sub (lv' := [(2, vi 0), (1, vr 35), (0, vr 143)]) (by simp) ?_
  exact lp_24 _ 0 I_19 L_19 (by omega) (F0) (q_19.2) (fun m a b => by omega) rfl
set_option maxHeartbeats 800000 in
set_option maxRecDepth 100000 in
theorem c_KM_computeImages2 {l : Launch} {G : a_G} {h : Hp} {I L : Nat → Int → Int} {A V E : Int → Int → Int} (S : Shp h) (SD : Std I L) (hA : ∀ m, 0 ≤ m → m < 56 → eqQ (I (45 + m.toNat)) (A m)) (qA : ∀ m, 0 ≤ m → m < 56 → inQ (A m)) (hV : ∀ m, 0 ≤ m → m < 7 → eqQ (I (102 + m.toNat)) (V m)) (qV : ∀ m, 0 ≤ m → m < 7 → inQ (V m)) (hE : ∀ m, 0 ≤ m → m < 8 → eqQ (I (110 + m.toNat)) (E m)) (qE : ∀ m, 0 ≤ m → m < 8 → inQ (E m)) : AW l G M_KM_computeImages (Ret (fun _ : Nat → Int → Int => none) (fun K => sD h K L) (fun K => FC (fun a => 119 ≤ a ∧ a ≤ 125 ∨ 127 ≤ a ∧ a ≤ 134) I L K L ∧ ∀ m, 0 ≤ m → m < 8 → eqQ (K (127 + m.toNat)) (fun c => (bck rt (fun c => pS A (fun j => fwd rt (V j)) (m * 7) c 7 % 8380417) c + E (m) c) % 8380417))) 0 (a_ar 0 [vr 143, vr 35]) [] (sD h I L) := by
  suffices key : ∀ P : a_R → Hp → Prop, (∀ K : Nat → Int → Int, FC (fun a => 119 ≤ a ∧ a ≤ 125 ∨ 127 ≤ a ∧ a ≤ 134) I L K L → (∀ m, 0 ≤ m → m < 8 → eqQ (K (127 + m.toNat)) (fun c => (bck rt (fun c => pS A (fun j => fwd rt (V j)) (m * 7) c 7 % 8380417) c + E (m) c) % 8380417)) → P (.inl none) (sD h K L)) → AW l G M_KM_computeImages P 0 [(0, vr 143), (1, vr 35)] [] (sD h I L) from key _ (fun K q1 q2 => ⟨K, rfl, rfl, q1, q2⟩)
  intro P hP
  refine aw_iconst d_KM_computeImages_0 ⟨by decide, by decide⟩ ?_
  refine aw_istore_n (lv' := [(2, vi 0), (0, vr 143), (1, vr 35)]) d_KM_computeImages_1 rfl (by decide) rfl ?_
  have lp_2 : ∀ (n_ : Nat) (i : Int) (K : Nat → Int → Int), (0 ≤ i ∧ i ≤ 7) → (FC (fun a => 119 ≤ a ∧ a ≤ 125) I L K L) → (∀ m, 0 ≤ m → m < i → eqQ (K (119 + m.toNat)) (fwd rt (V m))) → ((7 - i).toNat) = n_ → AW l G M_KM_computeImages P 2 [(2, vi i), (1, vr 35), (0, vr 143)] [] (sD h K L) := by
    intro n_
    induction n_ using Nat.strongRecOn with
    | _ n_ ih_2 =>
    intro i K hi F gg hm_2
    refine aw_iload_n d_KM_computeImages_2 rfl rfl ?_
    refine aw_aload_n d_KM_computeImages_3 rfl rfl ?_
    refine ax_getIe (x := 7) d_KM_computeImages_4 fd_KM_66 (k_35 S) (Eq.trans (F.1 35 1 (by omega)) (pc_35_1 SD.2.1)) ?_
    refine aw_icmp_ge (tgt := 56) d_KM_computeImages_7 (by decide) (fun c_7 => ?_) (fun c_7 => ?_)
    · skip
      refine aw_aload_n d_KM_computeImages_56 rfl rfl ?_
      refine ax_getR (b := 36) d_KM_computeImages_57 fd_KM_20 (k_143 S) (r_143_0 S) ?_
      refine aw_aload_n d_KM_computeImages_60 rfl rfl ?_
      refine ax_Vr (st := []) (as := [vr 35]) (b := 36) d_KM_computeImages_61 cs_KM_computeImages_61 (k_36 S) (c_Be_multiplyMatrix2 S (SD.fc F (by intro a x; omega)) (fun m hm j x y => by rw [F.1 _ _ (by omega)]; have z := hA m (by omega) (by omega) j x y; rw [Int.toNat_natCast] at z; rw [z]; exact qA m (by omega) (by omega) j x y) (fun m hm j x y => by have z := gg m (by omega) (by omega) j x y; rw [Int.toNat_natCast] at z; rw [z]; exact fwd_in (qV m (by omega) (by omega)) j x y)) rfl rfl rfl (fun u_61 q_61 => ?_)
      obtain ⟨q1, q2⟩ := q_61
      have F2 : FC (fun a => 119 ≤ a ∧ a ≤ 125 ∨ 127 ≤ a ∧ a ≤ 134) I L u_61 L := F.tr q1 (by intro a x; omega)
      show AW l G M_KM_computeImages P 64 [(2, vi i), (1, vr 35), (0, vr 143)] [] (sD h u_61 L)
      refine aw_iconst d_KM_computeImages_64 ⟨by decide, by decide⟩ ?_
      refine aw_istore_n (lv' := [(2, vi 0), (1, vr 35), (0, vr 143)]) d_KM_computeImages_65 rfl (by decide) rfl ?_
      have lp_66 : ∀ (n_ : Nat) (i : Int) (K3 : Nat → Int → Int), (0 ≤ i ∧ i ≤ 8) → (FC (fun a => 119 ≤ a ∧ a ≤ 125 ∨ 127 ≤ a ∧ a ≤ 134) I L K3 L) → (∀ m, 0 ≤ m → i ≤ m → m < 8 → eqQ (K3 (127 + m.toNat)) (fun c => pS A (fun j => fwd rt (V j)) (m * 7) c 7 % 8380417)) → (∀ m, 0 ≤ m → m < i → eqQ (K3 (127 + m.toNat)) (fun c => (bck rt (fun c => pS A (fun j => fwd rt (V j)) (m * 7) c 7 % 8380417) c + E (m) c) % 8380417)) → ((8 - i).toNat) = n_ → AW l G M_KM_computeImages P 66 [(2, vi i), (1, vr 35), (0, vr 143)] [] (sD h K3 L) := by
        intro n_
        induction n_ using Nat.strongRecOn with
        | _ n_ ih_66 =>
        intro i K3 hi3 F3 un dn hm_66
        refine aw_iload_n d_KM_computeImages_66 rfl rfl ?_
        refine aw_aload_n d_KM_computeImages_67 rfl rfl ?_
        refine ax_getIe (x := 8) d_KM_computeImages_68 fd_KM_57 (k_35 S) (Eq.trans (F3.1 35 0 (by omega)) (pc_35_0 SD.2.1)) ?_
        refine aw_icmp_ge (tgt := 120) d_KM_computeImages_71 (by decide) (fun c_71 => ?_) (fun c_71 => ?_)
        · skip
          exact aw_vret d_KM_computeImages_120 rfl (hP K3 F3 (fun m a b => dn m a (by omega)))
        · skip
          refine aw_aload_n d_KM_computeImages_74 rfl rfl ?_
          refine ax_getR (b := 36) d_KM_computeImages_75 fd_KM_20 (k_143 S) (r_143_0 S) ?_
          refine ax_getR (b := 42) d_KM_computeImages_78 fd_KM_114 (k_36 S) (r_36_2 S) ?_
          refine aw_aload_n d_KM_computeImages_81 rfl rfl ?_
          refine ax_getR (b := 36) d_KM_computeImages_82 fd_KM_20 (k_143 S) (r_143_0 S) ?_
          refine ax_getR (b := 126) d_KM_computeImages_85 fd_KM_125 (k_36 S) (r_36_7 S) ?_
          refine aw_iload_n d_KM_computeImages_88 rfl rfl ?_
          refine ax_aald (b := 127 + i.toNat) d_KM_computeImages_89 ⟨by rw [(k_126 S)]; decide, by rw [(k_126 S)]; decide⟩ (by omega) (by rw [n_126 S]; omega) (g_126 S (by omega) (by omega)) ?_
          refine ax_V (st := []) (as := [vr (127 + i.toNat)]) (b := 42) (v := none) (h' := sD h (cset K3 (127 + i.toNat) (bck (K3 43) (K3 (127 + i.toNat)))) L) d_KM_computeImages_90 cs_KM_computeImages_90 (k_42 S) (c_Ri_back S ⟨kr_126 S (by omega), by omega, nr_126 S (by omega)⟩ (by omega) (fun j x y => by rw [un i hi3.1 (Int.le_refl _) (by omega) j x y]; show 0 ≤ _ % 8380417 ∧ _ % 8380417 < 8380417; exact ⟨Int.emod_nonneg _ (by decide), Int.emod_lt_of_pos _ (by decide)⟩) (SD.fc F3 (by intro a x; omega)).R) rfl rfl rfl ?_
          show AW l G M_KM_computeImages P 93 [(2, vi i), (1, vr 35), (0, vr 143)] [] (sD h (cset K3 (127 + i.toNat) (bck (K3 43) (K3 (127 + i.toNat)))) L)
          refine aw_aload_n d_KM_computeImages_93 rfl rfl ?_
          refine ax_getR (b := 36) d_KM_computeImages_94 fd_KM_20 (k_143 S) (r_143_0 S) ?_
          refine ax_getR (b := 126) d_KM_computeImages_97 fd_KM_125 (k_36 S) (r_36_7 S) ?_
          refine aw_iload_n d_KM_computeImages_100 rfl rfl ?_
          refine ax_aald (b := 127 + i.toNat) d_KM_computeImages_101 ⟨by rw [(k_126 S)]; decide, by rw [(k_126 S)]; decide⟩ (by omega) (by rw [n_126 S]; omega) (g_126 S (by omega) (by omega)) ?_
          refine aw_aload_n d_KM_computeImages_102 rfl rfl ?_
          refine ax_getR (b := 36) d_KM_computeImages_103 fd_KM_20 (k_143 S) (r_143_0 S) ?_
          refine ax_getR (b := 109) d_KM_computeImages_106 fd_KM_102 (k_36 S) (r_36_5 S) ?_
          refine aw_iload_n d_KM_computeImages_109 rfl rfl ?_
          refine ax_aald (b := 110 + i.toNat) d_KM_computeImages_110 ⟨by rw [(k_109 S)]; decide, by rw [(k_109 S)]; decide⟩ (by omega) (by rw [n_109 S]; omega) (g_109 S (by omega) (by omega)) ?_
          refine ax_S (st := []) (as := [vr (127 + i.toNat), vr (110 + i.toNat)]) (v := none) (h' := sD h (rowTo (cset K3 (127 + i.toNat) (bck (K3 43) (K3 (127 + i.toNat)))) (127 + i.toNat) 256 (fun j => ((cset K3 (127 + i.toNat) (bck (K3 43) (K3 (127 + i.toNat)))) (127 + i.toNat) j + (cset K3 (127 + i.toNat) (bck (K3 43) (K3 (127 + i.toNat)))) (110 + i.toNat) j) % 8380417)) L) d_KM_computeImages_111 cs_KM_computeImages_111 (c_Ri_addTo ⟨kr_126 S (by omega), by omega, nr_126 S (by omega)⟩ ⟨kr_109 S (by omega), by omega, nr_109 S (by omega)⟩ (by rw [cset_at]; exact bck_in) (fun j x y => by rw [cset_ne (by omega), F3.1 _ _ (by omega), hE i hi3.1 (by omega) j x y]; exact qE i hi3.1 (by omega) j x y)) rfl rfl rfl ?_
          show AW l G M_KM_computeImages P 114 [(2, vi i), (1, vr 35), (0, vr 143)] [] (sD h (rowTo (cset K3 (127 + i.toNat) (bck (K3 43) (K3 (127 + i.toNat)))) (127 + i.toNat) 256 (fun j => ((cset K3 (127 + i.toNat) (bck (K3 43) (K3 (127 + i.toNat)))) (127 + i.toNat) j + (cset K3 (127 + i.toNat) (bck (K3 43) (K3 (127 + i.toNat)))) (110 + i.toNat) j) % 8380417)) L)
          refine ax_iinc (lv' := [(2, vi (i + 1)), (1, vr 35), (0, vr 143)]) d_KM_computeImages_114 rfl (by decide) ⟨(by omega), (by omega)⟩ rfl ?_
          refine aw_goto (tgt := 66) d_KM_computeImages_117 (by decide) ?_
          exact ih_66 _ (by omega) (i + 1) (rowTo (cset K3 (127 + i.toNat) (bck (K3 43) (K3 (127 + i.toNat)))) (127 + i.toNat) 256 (fun j => ((cset K3 (127 + i.toNat) (bck (K3 43) (K3 (127 + i.toNat)))) (127 + i.toNat) j + (cset K3 (127 + i.toNat) (bck (K3 43) (K3 (127 + i.toNat)))) (110 + i.toNat) j) % 8380417)) (by omega) ((F3.tr (FC.cs (p := fun a => 119 ≤ a ∧ a ≤ 125 ∨ 127 ≤ a ∧ a ≤ 134) (by omega)) (fun a x => ⟨x, x⟩)).tr (FC.row (p := fun a => 119 ≤ a ∧ a ≤ 125 ∨ 127 ≤ a ∧ a ≤ 134) (by omega)) (fun a x => ⟨x, x⟩)) (fun m a b c j x y => by rw [rowTo_ne (by omega), cset_ne (by omega)]; exact un m a (by omega) c j x y) (fun m a b j x y => by by_cases z : m = i; exact (by rw [z, rowTo_in x y, cset_at, cset_ne (by omega), (SD.fc F3 (by intro a x; omega)).2.2, F3.1 _ _ (by omega), hE i hi3.1 (by omega) j x y, bck_eq (un i hi3.1 (Int.le_refl _) (by omega)) j x y]); exact (by rw [rowTo_ne (by omega), cset_ne (by omega)]; exact dn m a (by omega) j x y)) rfl
      skip
      exact lp_66 _ 0 u_61 (by omega) (F2) (fun m a b c j x y => by rw [q2 m a c j x y, mS_pS (A := A) (V := fun j => fwd rt (V j)) 7 (fun n hn => by rw [F.1 _ _ (by omega)]; exact hA _ (by omega) (by omega) j x y) (fun n hn => by have z := gg n (by omega) (by omega) j x y; rwa [Int.toNat_natCast] at z)]) (fun m a b => by omega) rfl
    · skip
      refine aw_aload_n d_KM_computeImages_10 rfl rfl ?_
      refine ax_getR (b := 36) d_KM_computeImages_11 fd_KM_20 (k_143 S) (r_143_0 S) ?_
      refine ax_getR (b := 101) d_KM_computeImages_14 fd_KM_95 (k_36 S) (r_36_4 S) ?_
      refine aw_iload_n d_KM_computeImages_17 rfl rfl ?_
      refine ax_aald (b := 102 + i.toNat) d_KM_computeImages_18 ⟨by rw [(k_101 S)]; decide, by rw [(k_101 S)]; decide⟩ (by omega) (by rw [n_101 S]; omega) (g_101 S (by omega) (by omega)) ?_
      refine aw_aload_n d_KM_computeImages_19 rfl rfl ?_
      refine ax_getR (b := 36) d_KM_computeImages_20 fd_KM_20 (k_143 S) (r_143_0 S) ?_
      refine ax_getR (b := 118) d_KM_computeImages_23 fd_KM_105 (k_36 S) (r_36_6 S) ?_
      refine aw_iload_n d_KM_computeImages_26 rfl rfl ?_
      refine ax_aald (b := 119 + i.toNat) d_KM_computeImages_27 ⟨by rw [(k_118 S)]; decide, by rw [(k_118 S)]; decide⟩ (by omega) (by rw [n_118 S]; omega) (g_118 S (by omega) (by omega)) ?_
      refine ax_S (st := []) (as := [vr (102 + i.toNat), vr (119 + i.toNat)]) (v := none) (h' := sD h (rowTo K (119 + i.toNat) 256 (K (102 + i.toNat))) L) d_KM_computeImages_28 cs_KM_computeImages_28 (c_Ri_copyRow ⟨kr_101 S (by omega), by omega, nr_101 S (by omega)⟩ ⟨kr_118 S (by omega), by omega, nr_118 S (by omega)⟩) rfl rfl rfl ?_
      show AW l G M_KM_computeImages P 31 [(2, vi i), (1, vr 35), (0, vr 143)] [] (sD h (rowTo K (119 + i.toNat) 256 (K (102 + i.toNat))) L)
      refine aw_aload_n d_KM_computeImages_31 rfl rfl ?_
      refine ax_getR (b := 36) d_KM_computeImages_32 fd_KM_20 (k_143 S) (r_143_0 S) ?_
      refine ax_getR (b := 42) d_KM_computeImages_35 fd_KM_114 (k_36 S) (r_36_2 S) ?_
      refine aw_aload_n d_KM_computeImages_38 rfl rfl ?_
      refine ax_getR (b := 36) d_KM_computeImages_39 fd_KM_20 (k_143 S) (r_143_0 S) ?_
      refine ax_getR (b := 118) d_KM_computeImages_42 fd_KM_105 (k_36 S) (r_36_6 S) ?_
      refine aw_iload_n d_KM_computeImages_45 rfl rfl ?_
      refine ax_aald (b := 119 + i.toNat) d_KM_computeImages_46 ⟨by rw [(k_118 S)]; decide, by rw [(k_118 S)]; decide⟩ (by omega) (by rw [n_118 S]; omega) (g_118 S (by omega) (by omega)) ?_
      refine ax_V (st := []) (as := [vr (119 + i.toNat)]) (b := 42) (v := none) (h' := sD h (cset (rowTo K (119 + i.toNat) 256 (K (102 + i.toNat))) (119 + i.toNat) (fwd ((rowTo K (119 + i.toNat) 256 (K (102 + i.toNat))) 43) ((rowTo K (119 + i.toNat) 256 (K (102 + i.toNat))) (119 + i.toNat)))) L) d_KM_computeImages_47 cs_KM_computeImages_47 (k_42 S) (c_Ri_forward S ⟨kr_118 S (by omega), by omega, nr_118 S (by omega)⟩ (by omega) (fun j x y => by rw [rowTo_in x y, F.1 _ _ (by omega), hV i hi.1 (by omega) j x y]; exact qV i hi.1 (by omega) j x y) (fun j x y => by rw [rowTo_ne (by omega), F.1 _ _ (by omega)]; exact SD.R j x y)) rfl rfl rfl ?_
      show AW l G M_KM_computeImages P 50 [(2, vi i), (1, vr 35), (0, vr 143)] [] (sD h (cset (rowTo K (119 + i.toNat) 256 (K (102 + i.toNat))) (119 + i.toNat) (fwd ((rowTo K (119 + i.toNat) 256 (K (102 + i.toNat))) 43) ((rowTo K (119 + i.toNat) 256 (K (102 + i.toNat))) (119 + i.toNat)))) L)
      refine ax_iinc (lv' := [(2, vi (i + 1)), (1, vr 35), (0, vr 143)]) d_KM_computeImages_50 rfl (by decide) ⟨(by omega), (by omega)⟩ rfl ?_
      refine aw_goto (tgt := 2) d_KM_computeImages_53 (by decide) ?_
      exact ih_2 _ (by omega) (i + 1) (cset (rowTo K (119 + i.toNat) 256 (K (102 + i.toNat))) (119 + i.toNat) (fwd ((rowTo K (119 + i.toNat) 256 (K (102 + i.toNat))) 43) ((rowTo K (119 + i.toNat) 256 (K (102 + i.toNat))) (119 + i.toNat)))) (by omega) ((F.tr (FC.row (p := fun a => 119 ≤ a ∧ a ≤ 125) (by omega)) (fun a x => ⟨x, x⟩)).tr (FC.cs (p := fun a => 119 ≤ a ∧ a ≤ 125) (by omega)) (fun a x => ⟨x, x⟩)) (fun m a b j x y => by by_cases z : m = i; exact (by rw [z, cset_at, show (rowTo K (119 + i.toNat) 256 (K (102 + i.toNat))) 43 = rt from by rw [← SD.2.2]; funext v; rw [rowTo_ne (by omega), F.1 _ _ (by omega)]]; exact fwd_eq (fun v u t => by rw [rowTo_in u t, F.1 _ _ (by omega)]; exact hV i hi.1 (by omega) v u t) j x y); exact (by rw [cset_ne (by omega), rowTo_ne (by omega)]; exact gg m a (by omega) j x y)) rfl
  skip
  refine aw_sub (lv' := [(2, vi 0), (1, vr 35), (0, vr 143)]) (by simp) ?_
  exact lp_2 _ 0 I (by omega) (FC.rfl') (fun m a b => by omega) rfl
