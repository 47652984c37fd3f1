/-! Signer: reading the secret, masks, commitment -/
def mirF (sk : Int → Int) (pl : Int) (w : Nat) (t : Int) (j : Int) : Int := (t - gR (fun k => sk (pl + k)) w j) % 8380417
theorem mirF_in {sk : Int → Int} {pl t : Int} {w : Nat} : inQ (mirF sk pl w t) := fun j _ _ => by unfold mirF; omega
def rhS (gs gr gd : Int → Int) : Sp := spTurn (spPart (spPart (spPart (spStart 136) gs 32) gr 32) gd 64)
theorem rhS_ok {gs gr gd : Int → Int} : spOk (rhS gs gr gd) := spTurn_ok (spPart_ok (spPart_ok (spPart_ok (spStart_lt (by decide) (by decide)).1 _ _) _ _) _ _)
def mskF (g1 : Int) (mb : Nat) (rh : Int → Int) (n j : Int) : Int := (g1 - gR (spOut (nmS rh n)) mb j) % 8380417
theorem mskF_in {g1 n : Int} {mb : Nat} {rh : Int → Int} : inQ (mskF g1 mb rh n) := fun j _ _ => by unfold mskF; omega
def imF (A V : Int → Int → Int) (l : Int) (n : Nat) (m : Int) : Int → Int := bck rt (fun c => pS A V (m * l) c n % 8380417)
theorem imF_in {A V : Int → Int → Int} {l m : Int} {n : Nat} : inQ (imF A V l n m) := bck_in
def hiB (g2 : Int) (hb : Nat) (n : Int) (W : Int → Int → Int) (x : Int) : Int := gB (fun j => dHigh g2 (W (x / n) j)) hb (x % n)
theorem hiB_m {g2 n x : Int} {hb : Nat} {W : Int → Int → Int} : hiB g2 hb n W x % 256 = hiB g2 hb n W x := gB_m _ _ _
theorem dHi44 {r : Int} (h : 0 ≤ r ∧ r < 8380417) : 0 ≤ dHigh 95232 r ∧ dHigh 95232 r < 44 := by
  unfold dHigh pLow
  (repeat' split) <;> omega
theorem dHi16 {r : Int} (h : 0 ≤ r ∧ r < 8380417) : 0 ≤ dHigh 261888 r ∧ dHigh 261888 r < 16 := by
  unfold dHigh pLow
  (repeat' split) <;> omega
theorem hhS_congr {gd gd' gp gp' : Int → Int} {n : Int} (h1 : ∀ k : Nat, k < 64 → gd k % 256 = gd' k % 256) (h2 : ∀ k : Nat, (k : Int) < n → gp k % 256 = gp' k % 256) : hhS gd gp n = hhS gd' gp' n := by
  unfold hhS
  rw [spPart_congr h1, spPart_congr (f := gp) (g := gp') (fun k hk => h2 k (by omega))]
set_option maxHeartbeats 800000 in
set_option maxRecDepth 100000 in
theorem c_Si_readMirrored {l : Launch} {G : a_G} {h : Hp} {I L : Nat → Int → Int} {b r f w : Nat} {pl t : Int} (S : Shp h) (SD : Std I L) (SB : ByO h b r) (Zf : RwO h f) (hf : f ≠ b ∧ f ≠ r ∧ f ≠ 43 ∧ 12 ≤ f) (hw : w ≤ 20 ∧ 1 ≤ w) (hc : I b 1 ≤ hN h r ∧ 0 ≤ pl ∧ pl < 1000000) (ht : 0 ≤ t ∧ t < 8380417) : AW l G M_Si_readMirrored (Ret (fun _ : Nat → Int → Int => none) (fun K => sD h K L) (fun K => FC (fun a => a = f) I L K L ∧ eqQ (K f) (fwd rt (mirF (byAt I b r) pl w t)))) 0 (a_ar 0 [vr 146, vr b, vi pl, vi (w : Int), vi t, vr f]) [] (sD h I L) := by
  suffices key : ∀ P : a_R → Hp → Prop, (∀ K : Nat → Int → Int, FC (fun a => a = f) I L K L → eqQ (K f) (fwd rt (mirF (byAt I b r) pl w t)) → P (.inl none) (sD h K L)) → AW l G M_Si_readMirrored P 0 [(0, vr 146), (1, vr b), (2, vi pl), (3, vi (w : Int)), (4, vi t), (5, vr f)] [] (sD h I L) from key _ (fun K q1 q2 => ⟨K, rfl, rfl, q1, q2⟩)
  intro P hP
  refine aw_aload_n d_Si_readMirrored_0 rfl rfl ?_
  refine aw_iload_n d_Si_readMirrored_1 rfl rfl ?_
  refine aw_iload_n d_Si_readMirrored_2 rfl rfl ?_
  refine aw_aload d_Si_readMirrored_3 rfl ?_
  refine ax_V (st := []) (as := [vi pl, vi (w : Int), vr f]) (b := b) (v := none) (h' := sD h (rowTo I f 256 (gR (fun k => byAt I b r (pl + k)) w)) L) d_Si_readMirrored_5 cs_Si_readMirrored_5 SB.1 (c_By_readBits SB ⟨Zf.1, Zf.2.1, Zf.2.2, by omega, by omega⟩ hw (by omega)) rfl rfl rfl ?_
  show AW l G M_Si_readMirrored P 8 [(0, vr 146), (1, vr b), (2, vi pl), (3, vi (w : Int)), (4, vi t), (5, vr f)] [] (sD h (rowTo I f 256 (gR (fun k => byAt I b r (pl + k)) w)) L)
  refine aw_aload d_Si_readMirrored_8 rfl ?_
  refine aw_iload d_Si_readMirrored_10 rfl ?_
  refine ax_S (st := []) (as := [vr f, vi t]) (v := none) (h' := sD h (rowTo (rowTo I f 256 (gR (fun k => byAt I b r (pl + k)) w)) f 256 (fun j => (t - (rowTo I f 256 (gR (fun k => byAt I b r (pl + k)) w)) f j) % 8380417)) L) d_Si_readMirrored_12 cs_Si_readMirrored_12 (c_Ri_mirror Zf ht (fun j x y => by rw [rowTo_in x y]; have := gR_b (g := fun k => byAt I b r (pl + k)) (j := j) hw.1; omega)) rfl rfl rfl ?_
  show AW l G M_Si_readMirrored P 15 [(0, vr 146), (1, vr b), (2, vi pl), (3, vi (w : Int)), (4, vi t), (5, vr f)] [] (sD h (rowTo (rowTo I f 256 (gR (fun k => byAt I b r (pl + k)) w)) f 256 (fun j => (t - (rowTo I f 256 (gR (fun k => byAt I b r (pl + k)) w)) f j) % 8380417)) L)
  refine aw_aload_n d_Si_readMirrored_15 rfl rfl ?_
  refine ax_getR (b := 36) d_Si_readMirrored_16 fd_Si_38 (k_146 S) (r_146_0 S) ?_
  refine ax_getR (b := 42) d_Si_readMirrored_19 fd_Si_134 (k_36 S) (r_36_2 S) ?_
  refine aw_aload d_Si_readMirrored_22 rfl ?_
  refine ax_V (st := []) (as := [vr f]) (b := 42) (v := none) (h' := sD h (cset (rowTo (rowTo I f 256 (gR (fun k => byAt I b r (pl + k)) w)) f 256 (fun j => (t - (rowTo I f 256 (gR (fun k => byAt I b r (pl + k)) w)) f j) % 8380417)) f (fwd ((rowTo (rowTo I f 256 (gR (fun k => byAt I b r (pl + k)) w)) f 256 (fun j => (t - (rowTo I f 256 (gR (fun k => byAt I b r (pl + k)) w)) f j) % 8380417)) 43) ((rowTo (rowTo I f 256 (gR (fun k => byAt I b r (pl + k)) w)) f 256 (fun j => (t - (rowTo I f 256 (gR (fun k => byAt I b r (pl + k)) w)) f j) % 8380417)) f))) L) d_Si_readMirrored_24 cs_Si_readMirrored_24 (k_42 S) (c_Ri_forward S Zf (by omega) (fun j x y => by rw [rowTo_in x y]; omega) (fun j x y => by rw [rowTo_ne (by omega), rowTo_ne (by omega)]; exact SD.R j x y)) rfl rfl rfl ?_
  show AW l G M_Si_readMirrored P 27 [(0, vr 146), (1, vr b), (2, vi pl), (3, vi (w : Int)), (4, vi t), (5, vr f)] [] (sD h (cset (rowTo (rowTo I f 256 (gR (fun k => byAt I b r (pl + k)) w)) f 256 (fun j => (t - (rowTo I f 256 (gR (fun k => byAt I b r (pl + k)) w)) f j) % 8380417)) f (fwd ((rowTo (rowTo I f 256 (gR (fun k => byAt I b r (pl + k)) w)) f 256 (fun j => (t - (rowTo I f 256 (gR (fun k => byAt I b r (pl + k)) w)) f j) % 8380417)) 43) ((rowTo (rowTo I f 256 (gR (fun k => byAt I b r (pl + k)) w)) f 256 (fun j => (t - (rowTo I f 256 (gR (fun k => byAt I b r (pl + k)) w)) f j) % 8380417)) f))) L)
  exact aw_vret d_Si_readMirrored_27 rfl (hP _ (((FC.row (p := fun a => a = f) rfl).tr (FC.row (p := fun a => a = f) rfl) (fun a x => ⟨x, x⟩)).tr (FC.cs (p := fun a => a = f) rfl) (fun a x => ⟨x, x⟩)) (fun j x y => by rw [cset_at, show (rowTo (rowTo I f 256 (gR (fun k => byAt I b r (pl + k)) w)) f 256 (fun j => (t - (rowTo I f 256 (gR (fun k => byAt I b r (pl + k)) w)) f j) % 8380417)) 43 = rt from by rw [← SD.2.2]; funext z; rw [rowTo_ne (by omega), rowTo_ne (by omega)]]; exact fwd_eq (fun z u v => by rw [rowTo_in u v, rowTo_in u v]; rfl) j x y))
set_option maxHeartbeats 800000 in
set_option maxRecDepth 100000 in
theorem c_Si_drawMaskSeed {l : Launch} {G : a_G} {h : Hp} {I L : Nat → Int → Int} (S : Shp h) (SD : Std I L) (hc : I 14 1 ≤ 8192 ∧ I 18 1 ≤ 8192 ∧ I 137 1 ≤ 64) : AW l G M_Si_drawMaskSeed (Ret (fun _ : (Nat → Int → Int) × (Nat → Int → Int) => none) (fun u => sD h u.1 u.2) (fun u => FC (fun a => a = 38 ∨ a = 164 ∨ a = 165) I L u.1 u.2 ∧ HB u.1 164 165 64 (spOut (rhS (fun k => byAt I 18 19 (32 + k)) (fun k => byAt I 14 15 (0 + k)) (fun k => byAt I 137 138 (0 + k)))))) 0 (a_ar 0 [vr 146, vr 18, vr 14]) [] (sD h I L) := by
  suffices key : ∀ P : a_R → Hp → Prop, (∀ I2 L2, FC (fun a => a = 38 ∨ a = 164 ∨ a = 165) I L I2 L2 → HB I2 164 165 64 (spOut (rhS (fun k => byAt I 18 19 (32 + k)) (fun k => byAt I 14 15 (0 + k)) (fun k => byAt I 137 138 (0 + k)))) → P (.inl none) (sD h I2 L2)) → AW l G M_Si_drawMaskSeed P 0 [(0, vr 146), (1, vr 18), (2, vr 14)] [] (sD h I L) from key _ (fun I2 L2 q1 q2 => ⟨(I2, L2), rfl, rfl, q1, q2⟩)
  intro P hP
  refine aw_aload_n d_Si_drawMaskSeed_0 rfl rfl ?_
  refine ax_getR (b := 36) d_Si_drawMaskSeed_1 fd_Si_38 (k_146 S) (r_146_0 S) ?_
  refine ax_getR (b := 38) d_Si_drawMaskSeed_4 fd_Si_142 (k_36 S) (r_36_1 S) ?_
  refine ax_Vr (st := []) (as := []) (b := 38) d_Si_drawMaskSeed_7 cs_Si_drawMaskSeed_7 (k_38 S) (c_Sp_start256 S) rfl rfl rfl (fun u_7 q_7 => ?_)
  obtain ⟨I1, L1⟩ := u_7
  obtain ⟨F1, e1⟩ := q_7
  dsimp only at F1 e1
  show AW l G M_Si_drawMaskSeed P 10 [(0, vr 146), (1, vr 18), (2, vr 14)] [] (sD h I1 L1)
  refine aw_aload_n d_Si_drawMaskSeed_10 rfl rfl ?_
  refine ax_getR (b := 36) d_Si_drawMaskSeed_11 fd_Si_38 (k_146 S) (r_146_0 S) ?_
  refine ax_getR (b := 38) d_Si_drawMaskSeed_14 fd_Si_142 (k_36 S) (r_36_1 S) ?_
  refine aw_aload_n d_Si_drawMaskSeed_17 rfl rfl ?_
  refine aw_bipush d_Si_drawMaskSeed_18 ⟨by decide, by decide⟩ (by decide) ?_
  refine aw_bipush d_Si_drawMaskSeed_20 ⟨by decide, by decide⟩ (by decide) ?_
  refine ax_Vr (st := []) (as := [vr 18, vi 32, vi 32]) (b := 38) d_Si_drawMaskSeed_22 cs_Si_drawMaskSeed_22 (k_38 S) (c_Sp_takePart S (SD.1.sp F1) (by rw [e1]; exact (spStart_lt (by decide) (by decide)).1) (ks S (i := 2) (by decide)) ⟨by decide, by decide⟩ (by rw [F1.1 18 1 (by decide), nks S (i := 2) (by decide)]; omega)) rfl rfl rfl (fun u_22 q_22 => ?_)
  obtain ⟨I2, L2⟩ := u_22
  obtain ⟨F2, e2⟩ := q_22
  dsimp only at F2 e2
  show AW l G M_Si_drawMaskSeed P 25 [(0, vr 146), (1, vr 18), (2, vr 14)] [] (sD h I2 L2)
  refine aw_aload_n d_Si_drawMaskSeed_25 rfl rfl ?_
  refine ax_getR (b := 36) d_Si_drawMaskSeed_26 fd_Si_38 (k_146 S) (r_146_0 S) ?_
  refine ax_getR (b := 38) d_Si_drawMaskSeed_29 fd_Si_142 (k_36 S) (r_36_1 S) ?_
  refine aw_aload_n d_Si_drawMaskSeed_32 rfl rfl ?_
  refine aw_iconst d_Si_drawMaskSeed_33 ⟨by decide, by decide⟩ ?_
  refine aw_bipush d_Si_drawMaskSeed_34 ⟨by decide, by decide⟩ (by decide) ?_
  refine ax_Vr (st := []) (as := [vr 14, vi 0, vi 32]) (b := 38) d_Si_drawMaskSeed_36 cs_Si_drawMaskSeed_36 (k_38 S) (c_Sp_takePart S ((SD.1.sp F1).sp F2) (by rw [e2, e1]; exact spPart_ok ((spStart_lt (by decide) (by decide)).1) _ _) (ks S (i := 0) (by decide)) ⟨by decide, by decide⟩ (by rw [(F1.tr F2).1 14 1 (by decide), nks S (i := 0) (by decide)]; omega)) rfl rfl rfl (fun u_36 q_36 => ?_)
  obtain ⟨I3, L3⟩ := u_36
  obtain ⟨F3, e3⟩ := q_36
  dsimp only at F3 e3
  show AW l G M_Si_drawMaskSeed P 39 [(0, vr 146), (1, vr 18), (2, vr 14)] [] (sD h I3 L3)
  refine aw_aload_n d_Si_drawMaskSeed_39 rfl rfl ?_
  refine ax_getR (b := 36) d_Si_drawMaskSeed_40 fd_Si_38 (k_146 S) (r_146_0 S) ?_
  refine ax_getR (b := 38) d_Si_drawMaskSeed_43 fd_Si_142 (k_36 S) (r_36_1 S) ?_
  refine aw_aload_n d_Si_drawMaskSeed_46 rfl rfl ?_
  refine ax_getR (b := 36) d_Si_drawMaskSeed_47 fd_Si_38 (k_146 S) (r_146_0 S) ?_
  refine ax_getR (b := 137) d_Si_drawMaskSeed_50 fd_Si_155 (k_36 S) (r_36_10 S) ?_
  refine aw_iconst d_Si_drawMaskSeed_53 ⟨by decide, by decide⟩ ?_
  refine aw_bipush d_Si_drawMaskSeed_54 ⟨by decide, by decide⟩ (by decide) ?_
  refine ax_Vr (st := []) (as := [vr 137, vi 0, vi 64]) (b := 38) d_Si_drawMaskSeed_56 cs_Si_drawMaskSeed_56 (k_38 S) (c_Sp_takePart S (((SD.1.sp F1).sp F2).sp F3) (by rw [e3, e2, e1]; exact spPart_ok (spPart_ok ((spStart_lt (by decide) (by decide)).1) _ _) _ _) ⟨k_137 S, r_137_0 S, k_138 S, by decide, by decide, by decide⟩ ⟨by decide, by decide⟩ (by rw [((F1.tr F2).tr F3).1 137 1 (by decide), n_138 S]; omega)) rfl rfl rfl (fun u_56 q_56 => ?_)
  obtain ⟨I4, L4⟩ := u_56
  obtain ⟨F4, e4⟩ := q_56
  dsimp only at F4 e4
  show AW l G M_Si_drawMaskSeed P 59 [(0, vr 146), (1, vr 18), (2, vr 14)] [] (sD h I4 L4)
  refine aw_aload_n d_Si_drawMaskSeed_59 rfl rfl ?_
  refine ax_getR (b := 36) d_Si_drawMaskSeed_60 fd_Si_38 (k_146 S) (r_146_0 S) ?_
  refine ax_getR (b := 38) d_Si_drawMaskSeed_63 fd_Si_142 (k_36 S) (r_36_1 S) ?_
  refine ax_Vr (st := []) (as := []) (b := 38) d_Si_drawMaskSeed_66 cs_Si_drawMaskSeed_66 (k_38 S) (c_Sp_turn S ((((SD.1.sp F1).sp F2).sp F3).sp F4) (by rw [e4, e3, e2, e1]; exact spPart_ok (spPart_ok (spPart_ok ((spStart_lt (by decide) (by decide)).1) _ _) _ _) _ _)) rfl rfl rfl (fun u_66 q_66 => ?_)
  obtain ⟨I5, L5⟩ := u_66
  obtain ⟨F5, e5⟩ := q_66
  dsimp only at F5 e5
  show AW l G M_Si_drawMaskSeed P 69 [(0, vr 146), (1, vr 18), (2, vr 14)] [] (sD h I5 L5)
  have eS : spOf I5 L5 = (rhS (fun k => byAt I 18 19 (32 + k)) (fun k => byAt I 14 15 (0 + k)) (fun k => byAt I 137 138 (0 + k))) := by rw [e5, e4, e3, e2, e1, show (fun k => byAt I1 18 19 (32 + k)) = (fun k => byAt I 18 19 (32 + k)) from funext (fun k => byAt_sp F1.1 (by decide) (by decide)), show (fun k => byAt I2 14 15 (0 + k)) = (fun k => byAt I 14 15 (0 + k)) from funext (fun k => byAt_sp (F1.tr F2).1 (by decide) (by decide)), show (fun k => byAt I3 137 138 (0 + k)) = (fun k => byAt I 137 138 (0 + k)) from funext (fun k => byAt_sp ((F1.tr F2).tr F3).1 (by decide) (by decide))]; rfl
  refine aw_aload_n d_Si_drawMaskSeed_69 rfl rfl ?_
  refine ax_getR (b := 36) d_Si_drawMaskSeed_70 fd_Si_38 (k_146 S) (r_146_0 S) ?_
  refine ax_getR (b := 38) d_Si_drawMaskSeed_73 fd_Si_142 (k_36 S) (r_36_1 S) ?_
  refine aw_aload_n d_Si_drawMaskSeed_76 rfl rfl ?_
  refine ax_getR (b := 164) d_Si_drawMaskSeed_77 fd_Si_28 (k_146 S) (r_146_3 S) ?_
  refine aw_bipush d_Si_drawMaskSeed_80 ⟨by decide, by decide⟩ (by decide) ?_
  refine ax_Vr (st := []) (as := [vr 164, vi 64]) (b := 38) d_Si_drawMaskSeed_82 cs_Si_drawMaskSeed_82 (k_38 S) (c_Sp_giveTo S (((((SD.1.sp F1).sp F2).sp F3).sp F4).sp F5) (by rw [eS]; exact rhS_ok) ⟨k_164 S, r_164_0 S, k_165 S, by decide, by decide, by decide⟩ ⟨by decide, by decide⟩ (by rw [n_165 S]; omega)) rfl rfl rfl (fun u_82 q_82 => ?_)
  obtain ⟨I9, L9⟩ := u_82
  obtain ⟨F9, f9, e9⟩ := q_82
  dsimp only at F9 f9 e9
  rw [eS] at F9
  show AW l G M_Si_drawMaskSeed P 85 [(0, vr 146), (1, vr 18), (2, vr 14)] [] (sD h I9 L9)
  exact aw_vret d_Si_drawMaskSeed_85 rfl (hP _ _ ((((((F1.tr F2).tr F3).tr F4).tr F5).fc).tr (gv_fc F9 f9) (by intro a x; omega)) (gv_at F9 (by decide) (by decide) (by decide)))
set_option maxHeartbeats 800000 in
set_option maxRecDepth 100000 in
theorem c_Si_readSecret0 {l : Launch} {G : a_G} {h : Hp} {I L : Nat → Int → Int} (S : Shp h) (hfl : l.flags = flags0) (rm : hX h + 1 ≤ a_NX ∧ hU h + 6 ≤ a_US) (SD : Std I L) (hc : I 18 1 ≤ 8192) : AW l G M_Si_readSecret (ThR h I L (∀ m, 0 ≤ m → m < 16 → (wide (fun x => byAt I 18 19 (0 + x)) (m % 4) (m / 4)).2.1 = 256) (fun I' L' => FC (fun a => a = 38 ∨ 45 ≤ a ∧ a ≤ 100 ∨ 102 ≤ a ∧ a ≤ 108 ∨ 110 ≤ a ∧ a ≤ 117 ∨ 148 ≤ a ∧ a ≤ 155) I L I' L' ∧ (∀ m, 0 ≤ m → m < 16 → ∀ c, 0 ≤ c → c < 256 → I' (45 + m.toNat) c = (wide (fun x => byAt I 18 19 (0 + x)) (m % 4) (m / 4)).2.2 c) ∧ (∀ m, 0 ≤ m → m < 4 → eqQ (I' (102 + m.toNat)) (fwd rt (mirF (byAt I 18 19) (128 + 96 * m) 3 2))) ∧ (∀ m, 0 ≤ m → m < 4 → eqQ (I' (110 + m.toNat)) (fwd rt (mirF (byAt I 18 19) (128 + 96 * (4 + m)) 3 2))) ∧ ∀ m, 0 ≤ m → m < 4 → eqQ (I' (148 + m.toNat)) (fwd rt (mirF (byAt I 18 19) (896 + 416 * m) 13 4096)))) 0 (a_ar 0 [vr 146, vr 18, vr 33]) [] (sD h I L) := by
  suffices key : ∀ P : a_R → Hp → Prop, (∀ r_ h2_, ThR h I L (∀ m, 0 ≤ m → m < 16 → (wide (fun x => byAt I 18 19 (0 + x)) (m % 4) (m / 4)).2.1 = 256) (fun I' L' => FC (fun a => a = 38 ∨ 45 ≤ a ∧ a ≤ 100 ∨ 102 ≤ a ∧ a ≤ 108 ∨ 110 ≤ a ∧ a ≤ 117 ∨ 148 ≤ a ∧ a ≤ 155) I L I' L' ∧ (∀ m, 0 ≤ m → m < 16 → ∀ c, 0 ≤ c → c < 256 → I' (45 + m.toNat) c = (wide (fun x => byAt I 18 19 (0 + x)) (m % 4) (m / 4)).2.2 c) ∧ (∀ m, 0 ≤ m → m < 4 → eqQ (I' (102 + m.toNat)) (fwd rt (mirF (byAt I 18 19) (128 + 96 * m) 3 2))) ∧ (∀ m, 0 ≤ m → m < 4 → eqQ (I' (110 + m.toNat)) (fwd rt (mirF (byAt I 18 19) (128 + 96 * (4 + m)) 3 2))) ∧ ∀ m, 0 ≤ m → m < 4 → eqQ (I' (148 + m.toNat)) (fwd rt (mirF (byAt I 18 19) (896 + 416 * m) 13 4096))) r_ h2_ → P r_ h2_) → AW l G M_Si_readSecret P 0 [(0, vr 146), (1, vr 18), (2, vr 33)] [] (sD h I L) from key _ (fun _ _ q => q)
  intro P hP
  refine aw_aload_n d_Si_readSecret_0 rfl rfl ?_
  refine ax_getR (b := 36) d_Si_readSecret_1 fd_Si_38 (k_146 S) (r_146_0 S) ?_
  refine ax_getR (b := 37) d_Si_readSecret_4 fd_Si_91 (k_36 S) (r_36_0 S) ?_
  refine aw_aload_n d_Si_readSecret_7 rfl rfl ?_
  refine aw_aload_n d_Si_readSecret_8 rfl rfl ?_
  refine aw_aload_n d_Si_readSecret_9 rfl rfl ?_
  refine ax_getR (b := 36) d_Si_readSecret_10 fd_Si_38 (k_146 S) (r_146_0 S) ?_
  refine ax_getR (b := 44) d_Si_readSecret_13 fd_Si_95 (k_36 S) (r_36_3 S) ?_
  refine ax_VtT (st := []) (as := [vr 18, vr 33, vr 44]) (b := 37) d_Si_readSecret_16 cs_Si_readSecret_16 (k_37 S) (c_Sa_matrix0 S hfl rm SD (ks S (i := 2) (by decide)) (by omega) (by rw [nks S (i := 2) (by decide)]; omega)) rfl rfl rfl (fun ok_16 I_16 L_16 q_16 => ?_) (fun no_16 I_16 L_16 q_16 => at_leave rfl (hP _ _ (Or.inr ⟨no_16, I_16, L_16, q_16, rfl, rfl⟩)))
  have F0 : FC (fun a => a = 38 ∨ 45 ≤ a ∧ a ≤ 100 ∨ 102 ≤ a ∧ a ≤ 108 ∨ 110 ≤ a ∧ a ≤ 117 ∨ 148 ≤ a ∧ a ≤ 155) I L I_16 L_16 := q_16.1.mono (by intro a x; omega)
  have okm := ok_16
  show AW l G M_Si_readSecret P 19 [(0, vr 146), (1, vr 18), (2, vr 33)] [] (sD h I_16 L_16)
  refine aw_sipush d_Si_readSecret_19 ⟨by decide, by decide⟩ (by decide) ?_
  refine aw_istore_n (lv' := [(3, vi 128), (0, vr 146), (1, vr 18), (2, vr 33)]) d_Si_readSecret_22 rfl (by decide) rfl ?_
  refine aw_iconst d_Si_readSecret_23 ⟨by decide, by decide⟩ ?_
  refine aw_istore (lv' := [(4, vi 0), (3, vi 128), (0, vr 146), (1, vr 18), (2, vr 33)]) d_Si_readSecret_24 (by decide) rfl ?_
  have lp_26 : ∀ (n_ : Nat) (i : Int) (v : Int) (K : Nat → Int → Int), (0 ≤ i ∧ i ≤ 4) → (v = 128 + 96 * i) → (FC (fun a => a = 38 ∨ 45 ≤ a ∧ a ≤ 100 ∨ 102 ≤ a ∧ a ≤ 108 ∨ 110 ≤ a ∧ a ≤ 117 ∨ 148 ≤ a ∧ a ≤ 155) I L K L_16) → (∀ m, 0 ≤ m → m < 16 → ∀ c, 0 ≤ c → c < 256 → K (45 + m.toNat) c = (wide (fun x => byAt I 18 19 (0 + x)) (m % 4) (m / 4)).2.2 c) → (∀ m, 0 ≤ m → m < i → eqQ (K (102 + m.toNat)) (fwd rt (mirF (byAt I 18 19) (128 + 96 * m) 3 2))) → ((4 - i).toNat) = n_ → AW l G M_Si_readSecret P 26 [(4, vi i), (3, vi v), (2, vr 33), (1, vr 18), (0, vr 146)] [] (sD h K L_16) := by
    intro n_
    induction n_ using Nat.strongRecOn with
    | _ n_ ih_26 =>
    intro i v K hi hv F mt sc hm_26
    refine aw_iload d_Si_readSecret_26 rfl ?_
    refine aw_aload_n d_Si_readSecret_28 rfl rfl ?_
    refine ax_getIe (x := 4) d_Si_readSecret_29 fd_Si_56 (k_33 S) (Eq.trans (F.1 33 1 (by omega)) (pc_33_1 SD.2.1)) ?_
    refine aw_icmp_ge (tgt := 75) d_Si_readSecret_32 (by decide) (fun c_32 => ?_) (fun c_32 => ?_)
    · skip
      refine aw_iconst d_Si_readSecret_75 ⟨by decide, by decide⟩ ?_
      refine aw_istore (lv' := [(4, vi 0), (3, vi v), (2, vr 33), (1, vr 18), (0, vr 146)]) d_Si_readSecret_76 (by decide) rfl ?_
      have lp_78 : ∀ (n_ : Nat) (i : Int) (v : Int) (K2 : Nat → Int → Int), (0 ≤ i ∧ i ≤ 4) → (v = 128 + 96 * (4 + i)) → (FC (fun a => a = 38 ∨ 45 ≤ a ∧ a ≤ 100 ∨ 102 ≤ a ∧ a ≤ 108 ∨ 110 ≤ a ∧ a ≤ 117 ∨ 148 ≤ a ∧ a ≤ 155) I L K2 L_16) → (∀ m, 0 ≤ m → m < 16 → ∀ c, 0 ≤ c → c < 256 → K2 (45 + m.toNat) c = (wide (fun x => byAt I 18 19 (0 + x)) (m % 4) (m / 4)).2.2 c) → (∀ m, 0 ≤ m → m < 4 → eqQ (K2 (102 + m.toNat)) (fwd rt (mirF (byAt I 18 19) (128 + 96 * m) 3 2))) → (∀ m, 0 ≤ m → m < i → eqQ (K2 (110 + m.toNat)) (fwd rt (mirF (byAt I 18 19) (128 + 96 * (4 + m)) 3 2))) → ((4 - i).toNat) = n_ → AW l G M_Si_readSecret P 78 [(4, vi i), (3, vi v), (2, vr 33), (1, vr 18), (0, vr 146)] [] (sD h K2 L_16) := by
        intro n_
        induction n_ using Nat.strongRecOn with
        | _ n_ ih_78 =>
        intro i v K2 hi2 hv G2 mt2 sc2 er hm_78
        refine aw_iload d_Si_readSecret_78 rfl ?_
        refine aw_aload_n d_Si_readSecret_80 rfl rfl ?_
        refine ax_getIe (x := 4) d_Si_readSecret_81 fd_Si_120 (k_33 S) (Eq.trans (G2.1 33 0 (by omega)) (pc_33_0 SD.2.1)) ?_
        refine aw_icmp_ge (tgt := 127) d_Si_readSecret_84 (by decide) (fun c_84 => ?_) (fun c_84 => ?_)
        · skip
          refine aw_iconst d_Si_readSecret_127 ⟨by decide, by decide⟩ ?_
          refine aw_istore (lv' := [(4, vi 0), (3, vi v), (2, vr 33), (1, vr 18), (0, vr 146)]) d_Si_readSecret_128 (by decide) rfl ?_
          have lp_130 : ∀ (n_ : Nat) (i : Int) (v : Int) (K3 : Nat → Int → Int), (0 ≤ i ∧ i ≤ 4) → (v = 896 + 416 * i) → (FC (fun a => a = 38 ∨ 45 ≤ a ∧ a ≤ 100 ∨ 102 ≤ a ∧ a ≤ 108 ∨ 110 ≤ a ∧ a ≤ 117 ∨ 148 ≤ a ∧ a ≤ 155) I L K3 L_16) → (∀ m, 0 ≤ m → m < 16 → ∀ c, 0 ≤ c → c < 256 → K3 (45 + m.toNat) c = (wide (fun x => byAt I 18 19 (0 + x)) (m % 4) (m / 4)).2.2 c) → (∀ m, 0 ≤ m → m < 4 → eqQ (K3 (102 + m.toNat)) (fwd rt (mirF (byAt I 18 19) (128 + 96 * m) 3 2))) → (∀ m, 0 ≤ m → m < 4 → eqQ (K3 (110 + m.toNat)) (fwd rt (mirF (byAt I 18 19) (128 + 96 * (4 + m)) 3 2))) → (∀ m, 0 ≤ m → m < i → eqQ (K3 (148 + m.toNat)) (fwd rt (mirF (byAt I 18 19) (896 + 416 * m) 13 4096))) → ((4 - i).toNat) = n_ → AW l G M_Si_readSecret P 130 [(4, vi i), (3, vi v), (2, vr 33), (1, vr 18), (0, vr 146)] [] (sD h K3 L_16) := by
            intro n_
            induction n_ using Nat.strongRecOn with
            | _ n_ ih_130 =>
            intro i v K3 hi3 hv G3 mt3 sc3 er3 dr hm_130
            refine aw_iload d_Si_readSecret_130 rfl ?_
            refine aw_aload_n d_Si_readSecret_132 rfl rfl ?_
            refine ax_getIe (x := 4) d_Si_readSecret_133 fd_Si_120 (k_33 S) (Eq.trans (G3.1 33 0 (by omega)) (pc_33_0 SD.2.1)) ?_
            refine aw_icmp_ge (tgt := 171) d_Si_readSecret_136 (by decide) (fun c_136 => ?_) (fun c_136 => ?_)
            · skip
              exact aw_vret d_Si_readSecret_171 rfl (hP _ _ (Or.inl ⟨okm, K3, L_16, ⟨G3, mt3, sc3, er3, fun m a b => dr m a (by omega)⟩, rfl, rfl⟩))
            · skip
              refine aw_aload_n d_Si_readSecret_139 rfl rfl ?_
              refine aw_aload_n d_Si_readSecret_140 rfl rfl ?_
              refine aw_iload_n d_Si_readSecret_141 rfl rfl ?_
              refine aw_bipush d_Si_readSecret_142 ⟨by decide, by decide⟩ (by decide) ?_
              refine aw_sipush d_Si_readSecret_144 ⟨by decide, by decide⟩ (by decide) ?_
              refine aw_aload_n d_Si_readSecret_147 rfl rfl ?_
              refine ax_getR (b := 147) d_Si_readSecret_148 fd_Si_15 (k_146 S) (r_146_1 S) ?_
              refine aw_iload d_Si_readSecret_151 rfl ?_
              refine ax_aald (b := 148 + i.toNat) d_Si_readSecret_153 ⟨by rw [(k_147 S)]; decide, by rw [(k_147 S)]; decide⟩ (by omega) (by rw [n_147 S]; omega) (g_147 S (by omega) (by omega)) ?_
              refine ax_Vr (st := []) (as := [vr 18, vi v, vi 13, vi 4096, vr (148 + i.toNat)]) (b := 146) d_Si_readSecret_154 cs_Si_readSecret_154 (k_146 S) (c_Si_readMirrored (w := 13) S (SD.fc G3 (by intro a x; omega)) (ks S (i := 2) (by decide)) ⟨kr_147 S (by omega), by omega, nr_147 S (by omega)⟩ (by omega) (by decide) (by rw [G3.1 18 1 (by omega), nks S (i := 2) (by decide)]; omega) (by decide)) rfl rfl rfl (fun u_154 q_154 => ?_)
              obtain ⟨q1_154, q2_154⟩ := q_154
              have Fc : FC (fun a => a = 38 ∨ 45 ≤ a ∧ a ≤ 100 ∨ 102 ≤ a ∧ a ≤ 108 ∨ 110 ≤ a ∧ a ≤ 117 ∨ 148 ≤ a ∧ a ≤ 155) I L u_154 L_16 := G3.tr q1_154 (by intro a x; omega)
              rw [show byAt K3 18 19 = byAt I 18 19 from funext (fun x => byAt_fc G3 (by omega) (by omega))] at q2_154
              show AW l G M_Si_readSecret P 157 [(4, vi i), (3, vi v), (2, vr 33), (1, vr 18), (0, vr 146)] [] (sD h u_154 L_16)
              refine aw_iload_n d_Si_readSecret_157 rfl rfl ?_
              refine aw_bipush d_Si_readSecret_158 ⟨by decide, by decide⟩ (by decide) ?_
              refine ax_S (st := [vi v]) (as := [vi 13]) (v := some (vi (32 * 13))) (h' := sD h u_154 L_16) d_Si_readSecret_160 cs_Si_readSecret_160 (c_Ri_packedSize (by omega)) rfl rfl rfl ?_
              show AW l G M_Si_readSecret P 163 [(4, vi i), (3, vi v), (2, vr 33), (1, vr 18), (0, vr 146)] [vi (32 * 13), vi v] (sD h u_154 L_16)
              refine ax_iadd d_Si_readSecret_163 ⟨(by omega), (by omega)⟩ ?_
              refine aw_istore_n (lv' := [(3, vi (v + (32 * 13))), (4, vi i), (2, vr 33), (1, vr 18), (0, vr 146)]) d_Si_readSecret_164 rfl (by decide) rfl ?_
              refine ax_iinc (lv' := [(4, vi (i + 1)), (3, vi (v + (32 * 13))), (2, vr 33), (1, vr 18), (0, vr 146)]) d_Si_readSecret_165 rfl (by decide) ⟨(by omega), (by omega)⟩ rfl ?_
              refine aw_goto (tgt := 130) d_Si_readSecret_168 (by decide) ?_
              exact ih_130 _ (by omega) (i + 1) (v + (32 * 13)) u_154 (by omega) (by omega) (Fc) (fun m a b c x y => (q1_154.1 _ c (by omega)).trans (mt3 m a b c x y)) (fun m a b j x y => (q1_154.1 _ j (by omega)).trans (sc3 m a b j x y)) (fun m a b j x y => (q1_154.1 _ j (by omega)).trans (er3 m a b j x y)) (fun m a b j x y => by by_cases z : m = i; exact (by rw [z]; have v := q2_154 j x y; rw [hv] at v; exact v); exact (q1_154.1 _ j (by omega)).trans (dr m a (by omega) j x y)) rfl
          skip
          exact lp_130 _ 0 v K2 (by omega) (by omega) (G2) (mt2) (sc2) (fun m a b => er m a (by omega)) (fun m a b => by omega) rfl
        · skip
          refine aw_aload_n d_Si_readSecret_87 rfl rfl ?_
          refine aw_aload_n d_Si_readSecret_88 rfl rfl ?_
          refine aw_iload_n d_Si_readSecret_89 rfl rfl ?_
          refine aw_aload_n d_Si_readSecret_90 rfl rfl ?_
          refine ax_getIe (x := 3) d_Si_readSecret_91 fd_Si_103 (k_33 S) (Eq.trans (G2.1 33 10 (by omega)) (pc_33_10 SD.2.1)) ?_
          refine aw_aload_n d_Si_readSecret_94 rfl rfl ?_
          refine ax_getIe (x := 2) d_Si_readSecret_95 fd_Si_106 (k_33 S) (Eq.trans (G2.1 33 2 (by omega)) (pc_33_2 SD.2.1)) ?_
          refine aw_aload_n d_Si_readSecret_98 rfl rfl ?_
          refine ax_getR (b := 36) d_Si_readSecret_99 fd_Si_38 (k_146 S) (r_146_0 S) ?_
          refine ax_getR (b := 109) d_Si_readSecret_102 fd_Si_123 (k_36 S) (r_36_5 S) ?_
          refine aw_iload d_Si_readSecret_105 rfl ?_
          refine ax_aald (b := 110 + i.toNat) d_Si_readSecret_107 ⟨by rw [(k_109 S)]; decide, by rw [(k_109 S)]; decide⟩ (by omega) (by rw [n_109 S]; omega) (g_109 S (by omega) (by omega)) ?_
          refine ax_Vr (st := []) (as := [vr 18, vi v, vi 3, vi 2, vr (110 + i.toNat)]) (b := 146) d_Si_readSecret_108 cs_Si_readSecret_108 (k_146 S) (c_Si_readMirrored (w := 3) S (SD.fc G2 (by intro a x; omega)) (ks S (i := 2) (by decide)) ⟨kr_109 S (by omega), by omega, nr_109 S (by omega)⟩ (by omega) (by decide) (by rw [G2.1 18 1 (by omega), nks S (i := 2) (by decide)]; omega) (by decide)) rfl rfl rfl (fun u_108 q_108 => ?_)
          obtain ⟨q1_108, q2_108⟩ := q_108
          have Fb : FC (fun a => a = 38 ∨ 45 ≤ a ∧ a ≤ 100 ∨ 102 ≤ a ∧ a ≤ 108 ∨ 110 ≤ a ∧ a ≤ 117 ∨ 148 ≤ a ∧ a ≤ 155) I L u_108 L_16 := G2.tr q1_108 (by intro a x; omega)
          rw [show byAt K2 18 19 = byAt I 18 19 from funext (fun x => byAt_fc G2 (by omega) (by omega))] at q2_108
          show AW l G M_Si_readSecret P 111 [(4, vi i), (3, vi v), (2, vr 33), (1, vr 18), (0, vr 146)] [] (sD h u_108 L_16)
          refine aw_iload_n d_Si_readSecret_111 rfl rfl ?_
          refine aw_aload_n d_Si_readSecret_112 rfl rfl ?_
          refine ax_getIe (x := 3) d_Si_readSecret_113 fd_Si_103 (k_33 S) (Eq.trans (Fb.1 33 10 (by omega)) (pc_33_10 SD.2.1)) ?_
          refine ax_S (st := [vi v]) (as := [vi 3]) (v := some (vi (32 * 3))) (h' := sD h u_108 L_16) d_Si_readSecret_116 cs_Si_readSecret_116 (c_Ri_packedSize (by omega)) rfl rfl rfl ?_
          show AW l G M_Si_readSecret P 119 [(4, vi i), (3, vi v), (2, vr 33), (1, vr 18), (0, vr 146)] [vi (32 * 3), vi v] (sD h u_108 L_16)
          refine ax_iadd d_Si_readSecret_119 ⟨(by omega), (by omega)⟩ ?_
          refine aw_istore_n (lv' := [(3, vi (v + (32 * 3))), (4, vi i), (2, vr 33), (1, vr 18), (0, vr 146)]) d_Si_readSecret_120 rfl (by decide) rfl ?_
          refine ax_iinc (lv' := [(4, vi (i + 1)), (3, vi (v + (32 * 3))), (2, vr 33), (1, vr 18), (0, vr 146)]) d_Si_readSecret_121 rfl (by decide) ⟨(by omega), (by omega)⟩ rfl ?_
          refine aw_goto (tgt := 78) d_Si_readSecret_124 (by decide) ?_
          exact ih_78 _ (by omega) (i + 1) (v + (32 * 3)) u_108 (by omega) (by omega) (Fb) (fun m a b c x y => (q1_108.1 _ c (by omega)).trans (mt2 m a b c x y)) (fun m a b j x y => (q1_108.1 _ j (by omega)).trans (sc2 m a b j x y)) (fun m a b j x y => by by_cases z : m = i; exact (by rw [z]; have v := q2_108 j x y; rw [hv] at v; exact v); exact (q1_108.1 _ j (by omega)).trans (er m a (by omega) j x y)) rfl
      skip
      exact lp_78 _ 0 v K (by omega) (by omega) (F) (mt) (fun m a b => sc m a (by omega)) (fun m a b => by omega) rfl
    · skip
      refine aw_aload_n d_Si_readSecret_35 rfl rfl ?_
      refine aw_aload_n d_Si_readSecret_36 rfl rfl ?_
      refine aw_iload_n d_Si_readSecret_37 rfl rfl ?_
      refine aw_aload_n d_Si_readSecret_38 rfl rfl ?_
      refine ax_getIe (x := 3) d_Si_readSecret_39 fd_Si_103 (k_33 S) (Eq.trans (F.1 33 10 (by omega)) (pc_33_10 SD.2.1)) ?_
      refine aw_aload_n d_Si_readSecret_42 rfl rfl ?_
      refine ax_getIe (x := 2) d_Si_readSecret_43 fd_Si_106 (k_33 S) (Eq.trans (F.1 33 2 (by omega)) (pc_33_2 SD.2.1)) ?_
      refine aw_aload_n d_Si_readSecret_46 rfl rfl ?_
      refine ax_getR (b := 36) d_Si_readSecret_47 fd_Si_38 (k_146 S) (r_146_0 S) ?_
      refine ax_getR (b := 101) d_Si_readSecret_50 fd_Si_109 (k_36 S) (r_36_4 S) ?_
      refine aw_iload d_Si_readSecret_53 rfl ?_
      refine ax_aald (b := 102 + i.toNat) d_Si_readSecret_55 ⟨by rw [(k_101 S)]; decide, by rw [(k_101 S)]; decide⟩ (by omega) (by rw [n_101 S]; omega) (g_101 S (by omega) (by omega)) ?_
      refine ax_Vr (st := []) (as := [vr 18, vi v, vi 3, vi 2, vr (102 + i.toNat)]) (b := 146) d_Si_readSecret_56 cs_Si_readSecret_56 (k_146 S) (c_Si_readMirrored (w := 3) S (SD.fc F (by intro a x; omega)) (ks S (i := 2) (by decide)) ⟨kr_101 S (by omega), by omega, nr_101 S (by omega)⟩ (by omega) (by decide) (by rw [F.1 18 1 (by omega), nks S (i := 2) (by decide)]; omega) (by decide)) rfl rfl rfl (fun u_56 q_56 => ?_)
      obtain ⟨q1_56, q2_56⟩ := q_56
      have Fa : FC (fun a => a = 38 ∨ 45 ≤ a ∧ a ≤ 100 ∨ 102 ≤ a ∧ a ≤ 108 ∨ 110 ≤ a ∧ a ≤ 117 ∨ 148 ≤ a ∧ a ≤ 155) I L u_56 L_16 := F.tr q1_56 (by intro a x; omega)
      rw [show byAt K 18 19 = byAt I 18 19 from funext (fun x => byAt_fc F (by omega) (by omega))] at q2_56
      show AW l G M_Si_readSecret P 59 [(4, vi i), (3, vi v), (2, vr 33), (1, vr 18), (0, vr 146)] [] (sD h u_56 L_16)
      refine aw_iload_n d_Si_readSecret_59 rfl rfl ?_
      refine aw_aload_n d_Si_readSecret_60 rfl rfl ?_
      refine ax_getIe (x := 3) d_Si_readSecret_61 fd_Si_103 (k_33 S) (Eq.trans (Fa.1 33 10 (by omega)) (pc_33_10 SD.2.1)) ?_
      refine ax_S (st := [vi v]) (as := [vi 3]) (v := some (vi (32 * 3))) (h' := sD h u_56 L_16) d_Si_readSecret_64 cs_Si_readSecret_64 (c_Ri_packedSize (by omega)) rfl rfl rfl ?_
      show AW l G M_Si_readSecret P 67 [(4, vi i), (3, vi v), (2, vr 33), (1, vr 18), (0, vr 146)] [vi (32 * 3), vi v] (sD h u_56 L_16)
      refine ax_iadd d_Si_readSecret_67 ⟨(by omega), (by omega)⟩ ?_
      refine aw_istore_n (lv' := [(3, vi (v + (32 * 3))), (4, vi i), (2, vr 33), (1, vr 18), (0, vr 146)]) d_Si_readSecret_68 rfl (by decide) rfl ?_
      refine ax_iinc (lv' := [(4, vi (i + 1)), (3, vi (v + (32 * 3))), (2, vr 33), (1, vr 18), (0, vr 146)]) d_Si_readSecret_69 rfl (by decide) ⟨(by omega), (by omega)⟩ rfl ?_
      refine aw_goto (tgt := 26) d_Si_readSecret_72 (by decide) ?_
      exact ih_26 _ (by omega) (i + 1) (v + (32 * 3)) u_56 (by omega) (by omega) (Fa) (fun m a b c x y => (q1_56.1 _ c (by omega)).trans (mt m a b c x y)) (fun m a b j x y => by by_cases z : m = i; exact (by rw [z]; have v := q2_56 j x y; rw [hv] at v; exact v); exact (q1_56.1 _ j (by omega)).trans (sc m a (by omega) j x y)) rfl
  skip
  refine aw_sub (lv' := [(4, vi 0), (3, vi 128), (2, vr 33), (1, vr 18), (0, vr 146)]) (by simp) ?_
  exact lp_26 _ 0 128 I_16 (by omega) (rfl) (F0) (q_16.2) (fun m a b => by omega) rfl
set_option maxHeartbeats 800000 in
set_option maxRecDepth 100000 in
theorem c_Si_drawMasks0 {l : Launch} {G : a_G} {h : Hp} {I L : Nat → Int → Int} {nn : Int} (S : Shp h) (SD : Std I L) (hc : I 164 1 ≤ 64 ∧ 0 ≤ nn ∧ nn < 90000) : AW l G M_Si_drawMasks (Ret (fun _ : (Nat → Int → Int) × (Nat → Int → Int) => none) (fun u => sD h u.1 u.2) (fun u => FC (fun a => a = 38 ∨ a = 141 ∨ a = 142 ∨ 157 ≤ a ∧ a ≤ 163 ∨ 119 ≤ a ∧ a ≤ 125) I L u.1 u.2 ∧ (∀ m, 0 ≤ m → m < 4 → eqQ (u.1 (157 + m.toNat)) (mskF 131072 18 (fun k => byAt I 164 165 (0 + k)) (nn + m))) ∧ ∀ m, 0 ≤ m → m < 4 → eqQ (u.1 (119 + m.toNat)) (fwd rt (mskF 131072 18 (fun k => byAt I 164 165 (0 + k)) (nn + m))))) 0 (a_ar 0 [vr 146, vr 33, vi nn]) [] (sD h I L) := by
  suffices key : ∀ P : a_R → Hp → Prop, (∀ I2 L2, FC (fun a => a = 38 ∨ a = 141 ∨ a = 142 ∨ 157 ≤ a ∧ a ≤ 163 ∨ 119 ≤ a ∧ a ≤ 125) I L I2 L2 → (∀ m, 0 ≤ m → m < 4 → eqQ (I2 (157 + m.toNat)) (mskF 131072 18 (fun k => byAt I 164 165 (0 + k)) (nn + m))) → (∀ m, 0 ≤ m → m < 4 → eqQ (I2 (119 + m.toNat)) (fwd rt (mskF 131072 18 (fun k => byAt I 164 165 (0 + k)) (nn + m)))) → P (.inl none) (sD h I2 L2)) → AW l G M_Si_drawMasks P 0 [(0, vr 146), (1, vr 33), (2, vi nn)] [] (sD h I L) from key _ (fun I2 L2 q1 q2 q3 => ⟨(I2, L2), rfl, rfl, q1, q2, q3⟩)
  intro P hP
  refine aw_iconst d_Si_drawMasks_0 ⟨by decide, by decide⟩ ?_
  refine aw_istore_n (lv' := [(3, vi 0), (0, vr 146), (1, vr 33), (2, vi nn)]) d_Si_drawMasks_1 rfl (by decide) rfl ?_
  have lp_2 : ∀ (n_ : Nat) (i : Int) (K : Nat → Int → Int) (M : Nat → Int → Int), (0 ≤ i ∧ i ≤ 4) → (FC (fun a => a = 38 ∨ a = 141 ∨ a = 142 ∨ 157 ≤ a ∧ a ≤ 163 ∨ 119 ≤ a ∧ a ≤ 125) I L K M) → (∀ m, 0 ≤ m → m < i → eqQ (K (157 + m.toNat)) (mskF 131072 18 (fun k => byAt I 164 165 (0 + k)) (nn + m))) → (∀ m, 0 ≤ m → m < i → eqQ (K (119 + m.toNat)) (fwd rt (mskF 131072 18 (fun k => byAt I 164 165 (0 + k)) (nn + m)))) → ((4 - i).toNat) = n_ → AW l G M_Si_drawMasks P 2 [(3, vi i), (2, vi nn), (1, vr 33), (0, vr 146)] [] (sD h K M) := by
    intro n_
    induction n_ using Nat.strongRecOn with
    | _ n_ ih_2 =>
    intro i K M hi F mk an hm_2
    refine aw_iload_n d_Si_drawMasks_2 rfl rfl ?_
    refine aw_aload_n d_Si_drawMasks_3 rfl rfl ?_
    refine ax_getIe (x := 4) d_Si_drawMasks_4 fd_Si_56 (k_33 S) (Eq.trans (F.1 33 1 (by omega)) (pc_33_1 SD.2.1)) ?_
    refine aw_icmp_ge (tgt := 95) d_Si_drawMasks_7 (by decide) (fun c_7 => ?_) (fun c_7 => ?_)
    · skip
      exact aw_vret d_Si_drawMasks_95 rfl (hP K M F (fun m a b => mk m a (by omega)) (fun m a b => an m a (by omega)))
    · skip
      refine aw_aload_n d_Si_drawMasks_10 rfl rfl ?_
      refine ax_getR (b := 36) d_Si_drawMasks_11 fd_Si_38 (k_146 S) (r_146_0 S) ?_
      refine ax_getR (b := 37) d_Si_drawMasks_14 fd_Si_91 (k_36 S) (r_36_0 S) ?_
      refine aw_aload_n d_Si_drawMasks_17 rfl rfl ?_
      refine ax_getR (b := 164) d_Si_drawMasks_18 fd_Si_28 (k_146 S) (r_146_3 S) ?_
      refine aw_iconst d_Si_drawMasks_21 ⟨by decide, by decide⟩ ?_
      refine aw_iload_n d_Si_drawMasks_22 rfl rfl ?_
      refine aw_iload_n d_Si_drawMasks_23 rfl rfl ?_
      refine ax_iadd d_Si_drawMasks_24 ⟨(by omega), (by omega)⟩ ?_
      refine ax_Vr (st := []) (as := [vr 164, vi 0, vi (nn + i)]) (b := 37) d_Si_drawMasks_25 cs_Si_drawMasks_25 (k_37 S) (c_Sa_takeNumbered S (SD.fc F (by intro a x; omega)).1 ⟨k_164 S, r_164_0 S, k_165 S, by decide, by decide, by decide⟩ ⟨by decide, by decide⟩ (by rw [F.1 164 1 (by omega), n_165 S]; omega) (by omega)) rfl rfl rfl (fun u_25 q_25 => ?_)
      obtain ⟨I1, L1⟩ := u_25
      obtain ⟨F1, e1⟩ := q_25
      dsimp only at F1 e1
      show AW l G M_Si_drawMasks P 28 [(3, vi i), (2, vi nn), (1, vr 33), (0, vr 146)] [] (sD h I1 L1)
      rw [show (fun k => byAt K 164 165 (0 + k)) = (fun k => byAt I 164 165 (0 + k)) from funext (fun k => byAt_fc F (by omega) (by omega))] at e1
      refine aw_aload_n d_Si_drawMasks_28 rfl rfl ?_
      refine ax_getR (b := 36) d_Si_drawMasks_29 fd_Si_38 (k_146 S) (r_146_0 S) ?_
      refine ax_getR (b := 37) d_Si_drawMasks_32 fd_Si_91 (k_36 S) (r_36_0 S) ?_
      refine aw_aload_n d_Si_drawMasks_35 rfl rfl ?_
      refine aw_aload_n d_Si_drawMasks_36 rfl rfl ?_
      refine ax_getR (b := 36) d_Si_drawMasks_37 fd_Si_38 (k_146 S) (r_146_0 S) ?_
      refine ax_getR (b := 141) d_Si_drawMasks_40 fd_Si_168 (k_36 S) (r_36_12 S) ?_
      refine aw_aload_n d_Si_drawMasks_43 rfl rfl ?_
      refine ax_getR (b := 156) d_Si_drawMasks_44 fd_Si_20 (k_146 S) (r_146_2 S) ?_
      refine aw_iload_n d_Si_drawMasks_47 rfl rfl ?_
      refine ax_aald (b := 157 + i.toNat) d_Si_drawMasks_48 ⟨by rw [(k_156 S)]; decide, by rw [(k_156 S)]; decide⟩ (by omega) (by rw [n_156 S]; omega) (g_156 S (by omega) (by omega)) ?_
      refine ax_Vr (st := []) (as := [vr 33, vr 141, vr (157 + i.toNat)]) (b := 37) d_Si_drawMasks_49 cs_Si_drawMasks_49 (k_37 S) (c_Sa_mask0 S ((SD.fc F (by intro a x; omega)).fc F1.fc (by intro a x; omega)) ⟨kr_156 S (by omega), by omega, nr_156 S (by omega)⟩ (by omega) (by rw [e1]; exact nmS_ok)) rfl rfl rfl (fun u_49 q_49 => ?_)
      obtain ⟨I2, L2⟩ := u_49
      obtain ⟨F2, e2⟩ := q_49
      dsimp only at F2 e2
      rw [e1] at e2
      have Fa := F1.fc.tr F2 (r := fun a => a = 38 ∨ a = 141 ∨ a = 142 ∨ a = 157 + i.toNat) (by intro a x; omega)
      have Fb : FC (fun a => a = 38 ∨ a = 141 ∨ a = 142 ∨ 157 ≤ a ∧ a ≤ 163 ∨ 119 ≤ a ∧ a ≤ 125) I L I2 L2 := F.tr Fa (by intro a x; omega)
      show AW l G M_Si_drawMasks P 52 [(3, vi i), (2, vi nn), (1, vr 33), (0, vr 146)] [] (sD h I2 L2)
      refine aw_aload_n d_Si_drawMasks_52 rfl rfl ?_
      refine ax_getR (b := 156) d_Si_drawMasks_53 fd_Si_20 (k_146 S) (r_146_2 S) ?_
      refine aw_iload_n d_Si_drawMasks_56 rfl rfl ?_
      refine ax_aald (b := 157 + i.toNat) d_Si_drawMasks_57 ⟨by rw [(k_156 S)]; decide, by rw [(k_156 S)]; decide⟩ (by omega) (by rw [n_156 S]; omega) (g_156 S (by omega) (by omega)) ?_
      refine aw_aload_n d_Si_drawMasks_58 rfl rfl ?_
      refine ax_getR (b := 36) d_Si_drawMasks_59 fd_Si_38 (k_146 S) (r_146_0 S) ?_
      refine ax_getR (b := 118) d_Si_drawMasks_62 fd_Si_175 (k_36 S) (r_36_6 S) ?_
      refine aw_iload_n d_Si_drawMasks_65 rfl rfl ?_
      refine ax_aald (b := 119 + i.toNat) d_Si_drawMasks_66 ⟨by rw [(k_118 S)]; decide, by rw [(k_118 S)]; decide⟩ (by omega) (by rw [n_118 S]; omega) (g_118 S (by omega) (by omega)) ?_
      refine ax_S (st := []) (as := [vr (157 + i.toNat), vr (119 + i.toNat)]) (v := none) (h' := sD h (rowTo I2 (119 + i.toNat) 256 (I2 (157 + i.toNat))) L2) d_Si_drawMasks_67 cs_Si_drawMasks_67 (c_Ri_copyRow ⟨kr_156 S (by omega), by omega, nr_156 S (by omega)⟩ ⟨kr_118 S (by omega), by omega, nr_118 S (by omega)⟩) rfl rfl rfl ?_
      show AW l G M_Si_drawMasks P 70 [(3, vi i), (2, vi nn), (1, vr 33), (0, vr 146)] [] (sD h (rowTo I2 (119 + i.toNat) 256 (I2 (157 + i.toNat))) L2)
      refine aw_aload_n d_Si_drawMasks_70 rfl rfl ?_
      refine ax_getR (b := 36) d_Si_drawMasks_71 fd_Si_38 (k_146 S) (r_146_0 S) ?_
      refine ax_getR (b := 42) d_Si_drawMasks_74 fd_Si_134 (k_36 S) (r_36_2 S) ?_
      refine aw_aload_n d_Si_drawMasks_77 rfl rfl ?_
      refine ax_getR (b := 36) d_Si_drawMasks_78 fd_Si_38 (k_146 S) (r_146_0 S) ?_
      refine ax_getR (b := 118) d_Si_drawMasks_81 fd_Si_175 (k_36 S) (r_36_6 S) ?_
      refine aw_iload_n d_Si_drawMasks_84 rfl rfl ?_
      refine ax_aald (b := 119 + i.toNat) d_Si_drawMasks_85 ⟨by rw [(k_118 S)]; decide, by rw [(k_118 S)]; decide⟩ (by omega) (by rw [n_118 S]; omega) (g_118 S (by omega) (by omega)) ?_
      refine ax_V (st := []) (as := [vr (119 + i.toNat)]) (b := 42) (v := none) (h' := sD h (cset (rowTo I2 (119 + i.toNat) 256 (I2 (157 + i.toNat))) (119 + i.toNat) (fwd ((rowTo I2 (119 + i.toNat) 256 (I2 (157 + i.toNat))) 43) ((rowTo I2 (119 + i.toNat) 256 (I2 (157 + i.toNat))) (119 + i.toNat)))) L2) d_Si_drawMasks_86 cs_Si_drawMasks_86 (k_42 S) (c_Ri_forward S ⟨kr_118 S (by omega), by omega, nr_118 S (by omega)⟩ (by omega) (fun j x y => by rw [rowTo_in x y, e2 j x y]; omega) (fun j x y => by rw [rowTo_ne (by omega)]; exact (SD.fc Fb (by intro a x; omega)).R j x y)) rfl rfl rfl ?_
      show AW l G M_Si_drawMasks P 89 [(3, vi i), (2, vi nn), (1, vr 33), (0, vr 146)] [] (sD h (cset (rowTo I2 (119 + i.toNat) 256 (I2 (157 + i.toNat))) (119 + i.toNat) (fwd ((rowTo I2 (119 + i.toNat) 256 (I2 (157 + i.toNat))) 43) ((rowTo I2 (119 + i.toNat) 256 (I2 (157 + i.toNat))) (119 + i.toNat)))) L2)
      refine ax_iinc (lv' := [(3, vi (i + 1)), (2, vi nn), (1, vr 33), (0, vr 146)]) d_Si_drawMasks_89 rfl (by decide) ⟨(by omega), (by omega)⟩ rfl ?_
      refine aw_goto (tgt := 2) d_Si_drawMasks_92 (by decide) ?_
      exact ih_2 _ (by omega) (i + 1) (cset (rowTo I2 (119 + i.toNat) 256 (I2 (157 + i.toNat))) (119 + i.toNat) (fwd ((rowTo I2 (119 + i.toNat) 256 (I2 (157 + i.toNat))) 43) ((rowTo I2 (119 + i.toNat) 256 (I2 (157 + i.toNat))) (119 + i.toNat)))) L2 (by omega) ((Fb.tr (FC.row (p := fun a => a = 38 ∨ a = 141 ∨ a = 142 ∨ 157 ≤ a ∧ a ≤ 163 ∨ 119 ≤ a ∧ a ≤ 125) (by omega)) (fun a x => ⟨x, x⟩)).tr (FC.cs (p := fun a => a = 38 ∨ a = 141 ∨ a = 142 ∨ 157 ≤ a ∧ a ≤ 163 ∨ 119 ≤ a ∧ a ≤ 125) (by omega)) (fun a x => ⟨x, x⟩)) (fun m a b j x y => by by_cases z : m = i; exact (by rw [z, cset_ne (by omega), rowTo_ne (by omega)]; exact e2 j x y); exact (by rw [cset_ne (by omega), rowTo_ne (by omega), Fa.1 _ _ (by omega)]; exact mk m a (by omega) j x y)) (fun m a b j x y => by by_cases z : m = i; exact (by rw [z, cset_at, show (rowTo I2 (119 + i.toNat) 256 (I2 (157 + i.toNat))) 43 = rt from by rw [← (SD.fc Fb (by intro a x; omega)).2.2]; funext v; rw [rowTo_ne (by omega)]]; exact fwd_eq (fun v u t => by rw [rowTo_in u t]; exact e2 v u t) j x y); exact (by rw [cset_ne (by omega), rowTo_ne (by omega), Fa.1 _ _ (by omega)]; exact an m a (by omega) j x y)) rfl
  skip
  refine aw_sub (lv' := [(3, vi 0), (2, vi nn), (1, vr 33), (0, vr 146)]) (by simp) ?_
  exact lp_2 _ 0 I L (by omega) (FC.rfl') (fun m a b => by omega) (fun m a b => by omega) rfl
set_option maxHeartbeats 800000 in
set_option maxRecDepth 100000 in
theorem c_Si_commit0 {l : Launch} {G : a_G} {h : Hp} {I L : Nat → Int → Int} {A V : Int → Int → Int} (S : Shp h) (SD : Std I L) (hA : ∀ m, 0 ≤ m → m < 16 → eqQ (I (45 + m.toNat)) (A m)) (qA : ∀ m, 0 ≤ m → m < 16 → inQ (A m)) (hV : ∀ m, 0 ≤ m → m < 4 → eqQ (I (119 + m.toNat)) (V m)) (qV : ∀ m, 0 ≤ m → m < 4 → inQ (V m)) (hd : I 137 1 ≤ 64) : AW l G M_Si_commit (Ret (fun _ : (Nat → Int → Int) × (Nat → Int → Int) => none) (fun u => sD h u.1 u.2) (fun u => FC (fun a => 127 ≤ a ∧ a ≤ 134 ∨ a = 136 ∨ a = 141 ∨ a = 142 ∨ a = 38 ∨ a = 139 ∨ a = 140) I L u.1 u.2 ∧ (∀ m, 0 ≤ m → m < 4 → eqQ (u.1 (127 + m.toNat)) ((imF A V 4 4) m)) ∧ HB u.1 139 140 32 (spOut (hhS (fun k => byAt I 137 138 (0 + k)) (hiB 95232 6 192 (imF A V 4 4)) 768)))) 0 (a_ar 0 [vr 146, vr 33]) [] (sD h I L) := by
  suffices key : ∀ P : a_R → Hp → Prop, (∀ I2 L2, FC (fun a => 127 ≤ a ∧ a ≤ 134 ∨ a = 136 ∨ a = 141 ∨ a = 142 ∨ a = 38 ∨ a = 139 ∨ a = 140) I L I2 L2 → (∀ m, 0 ≤ m → m < 4 → eqQ (I2 (127 + m.toNat)) ((imF A V 4 4) m)) → HB I2 139 140 32 (spOut (hhS (fun k => byAt I 137 138 (0 + k)) (hiB 95232 6 192 (imF A V 4 4)) 768)) → P (.inl none) (sD h I2 L2)) → AW l G M_Si_commit P 0 [(0, vr 146), (1, vr 33)] [] (sD h I L) from key _ (fun I2 L2 q1 q2 q3 => ⟨(I2, L2), rfl, rfl, q1, q2, q3⟩)
  intro P hP
  refine aw_aload_n d_Si_commit_0 rfl rfl ?_
  refine ax_getR (b := 36) d_Si_commit_1 fd_Si_38 (k_146 S) (r_146_0 S) ?_
  refine aw_aload_n d_Si_commit_4 rfl rfl ?_
  refine ax_Vr (st := []) (as := [vr 33]) (b := 36) d_Si_commit_5 cs_Si_commit_5 (k_36 S) (c_Be_multiplyMatrix0 S SD (fun m hm j x y => by have z := hA m (by omega) (by omega) j x y; rw [Int.toNat_natCast] at z; rw [z]; exact qA m (by omega) (by omega) j x y) (fun m hm j x y => by have z := hV m (by omega) (by omega) j x y; rw [Int.toNat_natCast] at z; rw [z]; exact qV m (by omega) (by omega) j x y)) rfl rfl rfl (fun u_5 q_5 => ?_)
  obtain ⟨q1, q2⟩ := q_5
  have F2 : FC (fun a => 127 ≤ a ∧ a ≤ 134 ∨ a = 136 ∨ a = 141 ∨ a = 142) I L u_5 L := q1.mono (by intro a x; omega)
  show AW l G M_Si_commit P 8 [(0, vr 146), (1, vr 33)] [] (sD h u_5 L)
  refine aw_aload_n d_Si_commit_8 rfl rfl ?_
  refine ax_getR (b := 36) d_Si_commit_9 fd_Si_38 (k_146 S) (r_146_0 S) ?_
  refine ax_getR (b := 141) d_Si_commit_12 fd_Si_168 (k_36 S) (r_36_12 S) ?_
  refine ax_V (st := []) (as := []) (b := 141) (v := none) (h' := sD h (a_up u_5 141 1 0) L) d_Si_commit_15 cs_Si_commit_15 (k_141 S) (c_By_clear ⟨k_141 S, r_141_0 S, k_142 S, by decide, by decide, by decide⟩) rfl rfl rfl ?_
  show AW l G M_Si_commit P 18 [(0, vr 146), (1, vr 33)] [] (sD h (a_up u_5 141 1 0) L)
  refine aw_iconst d_Si_commit_18 ⟨by decide, by decide⟩ ?_
  refine aw_istore_n (lv' := [(2, vi 0), (0, vr 146), (1, vr 33)]) d_Si_commit_19 rfl (by decide) rfl ?_
  have lp_20 : ∀ (n_ : Nat) (i : Int) (K : Nat → Int → Int), (0 ≤ i ∧ i ≤ 4) → (FC (fun a => 127 ≤ a ∧ a ≤ 134 ∨ a = 136 ∨ a = 141 ∨ a = 142) I L K L) → (∀ m, 0 ≤ m → i ≤ m → m < 4 → eqQ (K (127 + m.toNat)) (fun c => pS A V (m * 4) c 4 % 8380417)) → (∀ m, 0 ≤ m → m < i → eqQ (K (127 + m.toNat)) ((imF A V 4 4) m)) → (HB K 141 142 (192 * i) (hiB 95232 6 192 (imF A V 4 4))) → ((4 - i).toNat) = n_ → AW l G M_Si_commit P 20 [(2, vi i), (1, vr 33), (0, vr 146)] [] (sD h K L) := by
    intro n_
    induction n_ using Nat.strongRecOn with
    | _ n_ ih_20 =>
    intro i K hi F un dn H hm_20
    refine aw_iload_n d_Si_commit_20 rfl rfl ?_
    refine aw_aload_n d_Si_commit_21 rfl rfl ?_
    refine ax_getIe (x := 4) d_Si_commit_22 fd_Si_120 (k_33 S) (Eq.trans (F.1 33 0 (by omega)) (pc_33_0 SD.2.1)) ?_
    refine aw_icmp_ge (tgt := 113) d_Si_commit_25 (by decide) (fun c_25 => ?_) (fun c_25 => ?_)
    · skip
      refine aw_aload_n d_Si_commit_113 rfl rfl ?_
      refine ax_getR (b := 36) d_Si_commit_114 fd_Si_38 (k_146 S) (r_146_0 S) ?_
      refine aw_aload_n d_Si_commit_117 rfl rfl ?_
      refine aw_aload_n d_Si_commit_118 rfl rfl ?_
      refine ax_getR (b := 36) d_Si_commit_119 fd_Si_38 (k_146 S) (r_146_0 S) ?_
      refine ax_getR (b := 139) d_Si_commit_122 fd_Si_207 (k_36 S) (r_36_11 S) ?_
      refine ax_Vr (st := []) (as := [vr 33, vr 139]) (b := 36) d_Si_commit_125 cs_Si_commit_125 (k_36 S) (c_Be_hashHighs0 S (SD.fc F (by intro a x; omega)) ⟨k_139 S, r_139_0 S, k_140 S, by decide, by decide, by decide⟩ (by decide) (by rw [n_140 S, H.1, F.1 137 1 (by omega)]; omega)) rfl rfl rfl (fun u_125 q_125 => ?_)
      obtain ⟨I9, L9⟩ := u_125
      obtain ⟨F9, a9, b9⟩ := q_125
      dsimp only at F9 a9 b9
      rw [H.1, show 192 * i = 768 by omega, hhS_congr (gd' := fun k => byAt I 137 138 (0 + k)) (gp' := (hiB 95232 6 192 (imF A V 4 4))) (fun k hk => by rw [byAt_fc F (by omega) (by omega)]) (fun k hk => by rw [Int.zero_add, H.2 k (by omega) (by omega)])] at b9
      show AW l G M_Si_commit P 128 [(2, vi i), (1, vr 33), (0, vr 146)] [] (sD h I9 L9)
      exact aw_vret d_Si_commit_128 rfl (hP I9 L9 (F.tr F9 (by intro a x; omega)) (fun m a b j x y => (F9.1 _ j (by omega)).trans (dn m a (by omega) j x y)) ⟨a9, b9⟩)
    · skip
      refine aw_aload_n d_Si_commit_28 rfl rfl ?_
      refine ax_getR (b := 36) d_Si_commit_29 fd_Si_38 (k_146 S) (r_146_0 S) ?_
      refine ax_getR (b := 42) d_Si_commit_32 fd_Si_134 (k_36 S) (r_36_2 S) ?_
      refine aw_aload_n d_Si_commit_35 rfl rfl ?_
      refine ax_getR (b := 36) d_Si_commit_36 fd_Si_38 (k_146 S) (r_146_0 S) ?_
      refine ax_getR (b := 126) d_Si_commit_39 fd_Si_188 (k_36 S) (r_36_7 S) ?_
      refine aw_iload_n d_Si_commit_42 rfl rfl ?_
      refine ax_aald (b := 127 + i.toNat) d_Si_commit_43 ⟨by rw [(k_126 S)]; decide, by rw [(k_126 S)]; decide⟩ (by omega) (by rw [n_126 S]; omega) (g_126 S (by omega) (by omega)) ?_
      refine ax_V (st := []) (as := [vr (127 + i.toNat)]) (b := 42) (v := none) (h' := sD h (cset K (127 + i.toNat) (bck (K 43) (K (127 + i.toNat)))) L) d_Si_commit_44 cs_Si_commit_44 (k_42 S) (c_Ri_back S ⟨kr_126 S (by omega), by omega, nr_126 S (by omega)⟩ (by omega) (fun j x y => by rw [un i hi.1 (Int.le_refl _) (by omega) j x y]; show 0 ≤ _ % 8380417 ∧ _ % 8380417 < 8380417; exact ⟨Int.emod_nonneg _ (by decide), Int.emod_lt_of_pos _ (by decide)⟩) (SD.fc F (by intro a x; omega)).R) rfl rfl rfl ?_
      show AW l G M_Si_commit P 47 [(2, vi i), (1, vr 33), (0, vr 146)] [] (sD h (cset K (127 + i.toNat) (bck (K 43) (K (127 + i.toNat)))) L)
      have Fj : FC (fun a => 127 ≤ a ∧ a ≤ 134 ∨ a = 136 ∨ a = 141 ∨ a = 142) I L (cset K (127 + i.toNat) (bck (K 43) (K (127 + i.toNat)))) L := F.tr (FC.cs (p := fun a => 127 ≤ a ∧ a ≤ 134 ∨ a = 136 ∨ a = 141 ∨ a = 142) (by omega)) (fun a x => ⟨x, x⟩)
      have wi : eqQ ((cset K (127 + i.toNat) (bck (K 43) (K (127 + i.toNat)))) (127 + i.toNat)) ((imF A V 4 4) i) := fun j x y => by rw [cset_at, (SD.fc F (by intro a x; omega)).2.2]; exact bck_eq (un i hi.1 (Int.le_refl _) (by omega)) j x y
      have gp : (cset K (127 + i.toNat) (bck (K 43) (K (127 + i.toNat)))) 33 5 = 95232 := (Fj.1 33 5 (by omega)).trans (pc_33_5 SD.2.1)
      refine aw_iconst d_Si_commit_47 ⟨by decide, by decide⟩ ?_
      refine aw_istore_n (lv' := [(3, vi 0), (2, vi i), (1, vr 33), (0, vr 146)]) d_Si_commit_48 rfl (by decide) rfl ?_
      have lp_49 : ∀ (n_ : Nat) (c : Int), (0 ≤ c ∧ c ≤ 256) → ((256 - c).toNat) = n_ → AW l G M_Si_commit P 49 [(3, vi c), (2, vi i), (1, vr 33), (0, vr 146)] [] (sD h (rowTo (cset K (127 + i.toNat) (bck (K 43) (K (127 + i.toNat)))) 136 c (fun x => dHigh 95232 ((cset K (127 + i.toNat) (bck (K 43) (K (127 + i.toNat)))) (127 + i.toNat) x))) L) := by
        intro n_
        induction n_ using Nat.strongRecOn with
        | _ n_ ih_49 =>
        intro c hc hm_49
        refine aw_iload_n d_Si_commit_49 rfl rfl ?_
        refine aw_sipush d_Si_commit_50 ⟨by decide, by decide⟩ (by decide) ?_
        refine aw_icmp_ge (tgt := 86) d_Si_commit_53 (by decide) (fun c_53 => ?_) (fun c_53 => ?_)
        · skip
          rw [show c = 256 by omega]
          refine aw_aload_n d_Si_commit_86 rfl rfl ?_
          refine ax_getR (b := 36) d_Si_commit_87 fd_Si_38 (k_146 S) (r_146_0 S) ?_
          refine ax_getR (b := 141) d_Si_commit_90 fd_Si_168 (k_36 S) (r_36_12 S) ?_
          refine aw_aload_n d_Si_commit_93 rfl rfl ?_
          refine ax_getR (b := 36) d_Si_commit_94 fd_Si_38 (k_146 S) (r_146_0 S) ?_
          refine ax_getR (b := 136) d_Si_commit_97 fd_Si_194 (k_36 S) (r_36_9 S) ?_
          refine aw_aload_n d_Si_commit_100 rfl rfl ?_
          refine ax_getIe (x := 6) d_Si_commit_101 fd_Si_201 (k_33 S) (Eq.trans (rowTo_ne (by omega)) (Eq.trans (Fj.1 33 12 (by omega)) (pc_33_12 SD.2.1))) ?_
          refine ax_V (st := []) (as := [vr 136, vi 6]) (b := 141) (v := none) (h' := sD h (byPut (rowTo (cset K (127 + i.toNat) (bck (K 43) (K (127 + i.toNat)))) 136 256 (fun x => dHigh 95232 ((cset K (127 + i.toNat) (bck (K 43) (K (127 + i.toNat)))) (127 + i.toNat) x))) 141 142 (32 * 6) (gB ((rowTo (cset K (127 + i.toNat) (bck (K 43) (K (127 + i.toNat)))) 136 256 (fun x => dHigh 95232 ((cset K (127 + i.toNat) (bck (K 43) (K (127 + i.toNat)))) (127 + i.toNat) x))) 136) 6)) L) d_Si_commit_104 cs_Si_commit_104 (k_141 S) (by have z := c_By_addBits (l := l) (G := G) (L := L) (I := rowTo (cset K (127 + i.toNat) (bck (K 43) (K (127 + i.toNat)))) 136 256 (fun x => dHigh 95232 ((cset K (127 + i.toNat) (bck (K 43) (K (127 + i.toNat)))) (127 + i.toNat) x))) (w := 6) ⟨k_141 S, r_141_0 S, k_142 S, by decide, by decide, by decide⟩ ⟨k_136 S, by decide, n_136 S, by decide, by decide⟩ (by decide) (fun j x y => by rw [rowTo_in x y, wi j x y]; have := dHi44 (imF_in (A := A) (V := V) (l := 4) (n := 4) (m := i) j x y); omega) (by rw [rowTo_ne (by decide), cset_ne (by omega), H.1, n_142 S]; omega); exact z) rfl rfl rfl ?_
          show AW l G M_Si_commit P 107 [(3, vi 256), (2, vi i), (1, vr 33), (0, vr 146)] [] (sD h (byPut (rowTo (cset K (127 + i.toNat) (bck (K 43) (K (127 + i.toNat)))) 136 256 (fun x => dHigh 95232 ((cset K (127 + i.toNat) (bck (K 43) (K (127 + i.toNat)))) (127 + i.toNat) x))) 141 142 (32 * 6) (gB ((rowTo (cset K (127 + i.toNat) (bck (K 43) (K (127 + i.toNat)))) 136 256 (fun x => dHigh 95232 ((cset K (127 + i.toNat) (bck (K 43) (K (127 + i.toNat)))) (127 + i.toNat) x))) 136) 6)) L)
          refine ax_iinc (lv' := [(2, vi (i + 1)), (3, vi 256), (1, vr 33), (0, vr 146)]) d_Si_commit_107 rfl (by decide) ⟨(by omega), (by omega)⟩ rfl ?_
          refine aw_goto (tgt := 20) d_Si_commit_110 (by decide) ?_
          refine aw_sub (lv' := [(2, vi (i + 1)), (1, vr 33), (0, vr 146)]) (by simp) ?_
          exact ih_20 _ (by omega) (i + 1) (byPut (rowTo (cset K (127 + i.toNat) (bck (K 43) (K (127 + i.toNat)))) 136 256 (fun x => dHigh 95232 ((cset K (127 + i.toNat) (bck (K 43) (K (127 + i.toNat)))) (127 + i.toNat) x))) 141 142 (32 * 6) (gB ((rowTo (cset K (127 + i.toNat) (bck (K 43) (K (127 + i.toNat)))) 136 256 (fun x => dHigh 95232 ((cset K (127 + i.toNat) (bck (K 43) (K (127 + i.toNat)))) (127 + i.toNat) x))) 136) 6)) (by omega) ((Fj.tr (FC.row (p := fun a => 127 ≤ a ∧ a ≤ 134 ∨ a = 136 ∨ a = 141 ∨ a = 142) (by omega)) (fun a x => ⟨x, x⟩)).tr (FC.put (p := fun a => 127 ≤ a ∧ a ≤ 134 ∨ a = 136 ∨ a = 141 ∨ a = 142) (by omega) (by omega)) (fun a x => ⟨x, x⟩)) (fun m a b c j x y => by rw [byPut_ne (by omega) (by omega), rowTo_ne (by omega), cset_ne (by omega)]; exact un m a (by omega) c j x y) (fun m a b j x y => by by_cases z : m = i; exact (by rw [z, byPut_ne (by omega) (by omega), rowTo_ne (by omega)]; exact wi j x y); exact (by rw [byPut_ne (by omega) (by omega), rowTo_ne (by omega), cset_ne (by omega)]; exact dn m a (by omega) j x y)) (by rw [show 192 * (i + 1) = 192 * i + 32 * 6 by omega]; exact ((H.fc (L := L) (L' := L) (FC.cs (p := fun a => a = 127 + i.toNat) rfl) (by omega) (by omega)).fc (L := L) (L' := L) (FC.row (p := fun a => a = 136) rfl) (by decide) (by decide)).put (by decide) (by omega) (by decide) (fun z x y => by rw [gB_m]; show _ = gB (fun j => dHigh 95232 ((imF A V 4 4) ((192 * i + z) / 192) j)) 6 ((192 * i + z) % 192); rw [show (192 * i + z) / 192 = i by omega, show (192 * i + z) % 192 = z by omega, gB_congr (G := fun j => dHigh 95232 ((imF A V 4 4) i j)) (fun j u v => by rw [rowTo_in u v, wi j u v])])) rfl
        · skip
          refine aw_aload_n d_Si_commit_56 rfl rfl ?_
          refine ax_getR (b := 36) d_Si_commit_57 fd_Si_38 (k_146 S) (r_146_0 S) ?_
          refine ax_getR (b := 136) d_Si_commit_60 fd_Si_194 (k_36 S) (r_36_9 S) ?_
          refine aw_iload_n d_Si_commit_63 rfl rfl ?_
          refine aw_aload_n d_Si_commit_64 rfl rfl ?_
          refine aw_aload_n d_Si_commit_65 rfl rfl ?_
          refine ax_getR (b := 36) d_Si_commit_66 fd_Si_38 (k_146 S) (r_146_0 S) ?_
          refine ax_getR (b := 126) d_Si_commit_69 fd_Si_188 (k_36 S) (r_36_7 S) ?_
          refine aw_iload_n d_Si_commit_72 rfl rfl ?_
          refine ax_aald (b := 127 + i.toNat) d_Si_commit_73 ⟨by rw [(k_126 S)]; decide, by rw [(k_126 S)]; decide⟩ (by omega) (by rw [n_126 S]; omega) (g_126 S (by omega) (by omega)) ?_
          refine aw_iload_n d_Si_commit_74 rfl rfl ?_
          refine ax_ialde (x := (cset K (127 + i.toNat) (bck (K 43) (K (127 + i.toNat)))) (127 + i.toNat) c) d_Si_commit_75 (kr_126 S (by omega)) (by omega) (by rw [nr_126 S (by omega)]; omega) (Eq.trans (rowTo_ne (by omega)) (rfl)) ?_
          refine ax_V (st := [vi c, vr 136]) (as := [vi ((cset K (127 + i.toNat) (bck (K 43) (K (127 + i.toNat)))) (127 + i.toNat) c)]) (b := 33) (v := some (vi (dHigh 95232 ((cset K (127 + i.toNat) (bck (K 43) (K (127 + i.toNat)))) (127 + i.toNat) c)))) (h' := sD h (rowTo (cset K (127 + i.toNat) (bck (K 43) (K (127 + i.toNat)))) 136 c (fun x => dHigh 95232 ((cset K (127 + i.toNat) (bck (K 43) (K (127 + i.toNat)))) (127 + i.toNat) x))) L) d_Si_commit_76 cs_Si_commit_76 (k_33 S) (by have z := c_Pa_high (l := l) (G := G) (L := L) (I := rowTo (cset K (127 + i.toNat) (bck (K 43) (K (127 + i.toNat)))) 136 c (fun x => dHigh 95232 ((cset K (127 + i.toNat) (bck (K 43) (K (127 + i.toNat)))) (127 + i.toNat) x))) (p := 33) (r := (cset K (127 + i.toNat) (bck (K 43) (K (127 + i.toNat)))) (127 + i.toNat) c) (k_33 S) (by rw [rowTo_ne (by omega), gp]; decide) (by rw [wi c hc.1 (by omega)]; exact imF_in c hc.1 (by omega)); rw [rowTo_ne (by omega), gp] at z; exact z) rfl rfl rfl ?_
          show AW l G M_Si_commit P 79 [(3, vi c), (2, vi i), (1, vr 33), (0, vr 146)] [vi (dHigh 95232 ((cset K (127 + i.toNat) (bck (K 43) (K (127 + i.toNat)))) (127 + i.toNat) c)), vi c, vr 136] (sD h (rowTo (cset K (127 + i.toNat) (bck (K 43) (K (127 + i.toNat)))) 136 c (fun x => dHigh 95232 ((cset K (127 + i.toNat) (bck (K 43) (K (127 + i.toNat)))) (127 + i.toNat) x))) L)
          refine ax_iast d_Si_commit_79 (k_136 S) (by decide) (by omega) (by rw [n_136 S]; omega) ?_
          rw [rowTo_1 (by omega) rfl]
          refine ax_iinc (lv' := [(3, vi (c + 1)), (2, vi i), (1, vr 33), (0, vr 146)]) d_Si_commit_80 rfl (by decide) ⟨(by omega), (by omega)⟩ rfl ?_
          refine aw_goto (tgt := 49) d_Si_commit_83 (by decide) ?_
          exact ih_49 _ (by omega) (c + 1) (by omega) rfl
      refine ax_hp (h' := sD h (rowTo (cset K (127 + i.toNat) (bck (K 43) (K (127 + i.toNat)))) 136 0 (fun x => dHigh 95232 ((cset K (127 + i.toNat) (bck (K 43) (K (127 + i.toNat)))) (127 + i.toNat) x))) L) (by rw [rowTo_0]) ?_
      exact lp_49 _ 0 (by omega) rfl
  skip
  refine aw_sub (lv' := [(2, vi 0), (1, vr 33), (0, vr 146)]) (by simp) ?_
  exact lp_20 _ 0 (a_up u_5 141 1 0) (by omega) (F2.tr (FC.up (p := fun a => 127 ≤ a ∧ a ≤ 134 ∨ a = 136 ∨ a = 141 ∨ a = 142) (by omega)) (fun a x => ⟨x, x⟩)) (fun m a b c j x y => by rw [a_up_ne (Or.inl (by omega)), q2 m a c j x y, mS_pS (A := A) (V := V) 4 (fun n hn => hA _ (by omega) (by omega) j x y) (fun n hn => by have z := hV n (by omega) (by omega) j x y; rwa [Int.toNat_natCast] at z)]) (fun m a b => by omega) (by rw [Int.mul_zero]; exact HB.zero) rfl
set_option maxHeartbeats 800000 in
set_option maxRecDepth 100000 in
theorem c_Si_readSecret1 {l : Launch} {G : a_G} {h : Hp} {I L : Nat → Int → Int} (S : Shp h) (hfl : l.flags = flags0) (rm : hX h + 1 ≤ a_NX ∧ hU h + 6 ≤ a_US) (SD : Std I L) (hc : I 18 1 ≤ 8192) : AW l G M_Si_readSecret (ThR h I L (∀ m, 0 ≤ m → m < 30 → (wide (fun x => byAt I 18 19 (0 + x)) (m % 5) (m / 5)).2.1 = 256) (fun I' L' => FC (fun a => a = 38 ∨ 45 ≤ a ∧ a ≤ 100 ∨ 102 ≤ a ∧ a ≤ 108 ∨ 110 ≤ a ∧ a ≤ 117 ∨ 148 ≤ a ∧ a ≤ 155) I L I' L' ∧ (∀ m, 0 ≤ m → m < 30 → ∀ c, 0 ≤ c → c < 256 → I' (45 + m.toNat) c = (wide (fun x => byAt I 18 19 (0 + x)) (m % 5) (m / 5)).2.2 c) ∧ (∀ m, 0 ≤ m → m < 5 → eqQ (I' (102 + m.toNat)) (fwd rt (mirF (byAt I 18 19) (128 + 128 * m) 4 4))) ∧ (∀ m, 0 ≤ m → m < 6 → eqQ (I' (110 + m.toNat)) (fwd rt (mirF (byAt I 18 19) (128 + 128 * (5 + m)) 4 4))) ∧ ∀ m, 0 ≤ m → m < 6 → eqQ (I' (148 + m.toNat)) (fwd rt (mirF (byAt I 18 19) (1536 + 416 * m) 13 4096)))) 0 (a_ar 0 [vr 146, vr 18, vr 34]) [] (sD h I L) := by
  suffices key : ∀ P : a_R → Hp → Prop, (∀ r_ h2_, ThR h I L (∀ m, 0 ≤ m → m < 30 → (wide (fun x => byAt I 18 19 (0 + x)) (m % 5) (m / 5)).2.1 = 256) (fun I' L' => FC (fun a => a = 38 ∨ 45 ≤ a ∧ a ≤ 100 ∨ 102 ≤ a ∧ a ≤ 108 ∨ 110 ≤ a ∧ a ≤ 117 ∨ 148 ≤ a ∧ a ≤ 155) I L I' L' ∧ (∀ m, 0 ≤ m → m < 30 → ∀ c, 0 ≤ c → c < 256 → I' (45 + m.toNat) c = (wide (fun x => byAt I 18 19 (0 + x)) (m % 5) (m / 5)).2.2 c) ∧ (∀ m, 0 ≤ m → m < 5 → eqQ (I' (102 + m.toNat)) (fwd rt (mirF (byAt I 18 19) (128 + 128 * m) 4 4))) ∧ (∀ m, 0 ≤ m → m < 6 → eqQ (I' (110 + m.toNat)) (fwd rt (mirF (byAt I 18 19) (128 + 128 * (5 + m)) 4 4))) ∧ ∀ m, 0 ≤ m → m < 6 → eqQ (I' (148 + m.toNat)) (fwd rt (mirF (byAt I 18 19) (1536 + 416 * m) 13 4096))) r_ h2_ → P r_ h2_) → AW l G M_Si_readSecret P 0 [(0, vr 146), (1, vr 18), (2, vr 34)] [] (sD h I L) from key _ (fun _ _ q => q)
  intro P hP
  refine aw_aload_n d_Si_readSecret_0 rfl rfl ?_
  refine ax_getR (b := 36) d_Si_readSecret_1 fd_Si_38 (k_146 S) (r_146_0 S) ?_
  refine ax_getR (b := 37) d_Si_readSecret_4 fd_Si_91 (k_36 S) (r_36_0 S) ?_
  refine aw_aload_n d_Si_readSecret_7 rfl rfl ?_
  refine aw_aload_n d_Si_readSecret_8 rfl rfl ?_
  refine aw_aload_n d_Si_readSecret_9 rfl rfl ?_
  refine ax_getR (b := 36) d_Si_readSecret_10 fd_Si_38 (k_146 S) (r_146_0 S) ?_
  refine ax_getR (b := 44) d_Si_readSecret_13 fd_Si_95 (k_36 S) (r_36_3 S) ?_
  refine ax_VtT (st := []) (as := [vr 18, vr 34, vr 44]) (b := 37) d_Si_readSecret_16 cs_Si_readSecret_16 (k_37 S) (c_Sa_matrix1 S hfl rm SD (ks S (i := 2) (by decide)) (by omega) (by rw [nks S (i := 2) (by decide)]; omega)) rfl rfl rfl (fun ok_16 I_16 L_16 q_16 => ?_) (fun no_16 I_16 L_16 q_16 => at_leave rfl (hP _ _ (Or.inr ⟨no_16, I_16, L_16, q_16, rfl, rfl⟩)))
  have F0 : FC (fun a => a = 38 ∨ 45 ≤ a ∧ a ≤ 100 ∨ 102 ≤ a ∧ a ≤ 108 ∨ 110 ≤ a ∧ a ≤ 117 ∨ 148 ≤ a ∧ a ≤ 155) I L I_16 L_16 := q_16.1.mono (by intro a x; omega)
  have okm := ok_16
  show AW l G M_Si_readSecret P 19 [(0, vr 146), (1, vr 18), (2, vr 34)] [] (sD h I_16 L_16)
  refine aw_sipush d_Si_readSecret_19 ⟨by decide, by decide⟩ (by decide) ?_
  refine aw_istore_n (lv' := [(3, vi 128), (0, vr 146), (1, vr 18), (2, vr 34)]) d_Si_readSecret_22 rfl (by decide) rfl ?_
  refine aw_iconst d_Si_readSecret_23 ⟨by decide, by decide⟩ ?_
  refine aw_istore (lv' := [(4, vi 0), (3, vi 128), (0, vr 146), (1, vr 18), (2, vr 34)]) d_Si_readSecret_24 (by decide) rfl ?_
  have lp_26 : ∀ (n_ : Nat) (i : Int) (v : Int) (K : Nat → Int → Int), (0 ≤ i ∧ i ≤ 5) → (v = 128 + 128 * i) → (FC (fun a => a = 38 ∨ 45 ≤ a ∧ a ≤ 100 ∨ 102 ≤ a ∧ a ≤ 108 ∨ 110 ≤ a ∧ a ≤ 117 ∨ 148 ≤ a ∧ a ≤ 155) I L K L_16) → (∀ m, 0 ≤ m → m < 30 → ∀ c, 0 ≤ c → c < 256 → K (45 + m.toNat) c = (wide (fun x => byAt I 18 19 (0 + x)) (m % 5) (m / 5)).2.2 c) → (∀ m, 0 ≤ m → m < i → eqQ (K (102 + m.toNat)) (fwd rt (mirF (byAt I 18 19) (128 + 128 * m) 4 4))) → ((5 - i).toNat) = n_ → AW l G M_Si_readSecret P 26 [(4, vi i), (3, vi v), (2, vr 34), (1, vr 18), (0, vr 146)] [] (sD h K L_16) := by
    intro n_
    induction n_ using Nat.strongRecOn with
    | _ n_ ih_26 =>
    intro i v K hi hv F mt sc hm_26
    refine aw_iload d_Si_readSecret_26 rfl ?_
    refine aw_aload_n d_Si_readSecret_28 rfl rfl ?_
    refine ax_getIe (x := 5) d_Si_readSecret_29 fd_Si_56 (k_34 S) (Eq.trans (F.1 34 1 (by omega)) (pc_34_1 SD.2.1)) ?_
    refine aw_icmp_ge (tgt := 75) d_Si_readSecret_32 (by decide) (fun c_32 => ?_) (fun c_32 => ?_)
    · skip
      refine aw_iconst d_Si_readSecret_75 ⟨by decide, by decide⟩ ?_
      refine aw_istore (lv' := [(4, vi 0), (3, vi v), (2, vr 34), (1, vr 18), (0, vr 146)]) d_Si_readSecret_76 (by decide) rfl ?_
      have lp_78 : ∀ (n_ : Nat) (i : Int) (v : Int) (K2 : Nat → Int → Int), (0 ≤ i ∧ i ≤ 6) → (v = 128 + 128 * (5 + i)) → (FC (fun a => a = 38 ∨ 45 ≤ a ∧ a ≤ 100 ∨ 102 ≤ a ∧ a ≤ 108 ∨ 110 ≤ a ∧ a ≤ 117 ∨ 148 ≤ a ∧ a ≤ 155) I L K2 L_16) → (∀ m, 0 ≤ m → m < 30 → ∀ c, 0 ≤ c → c < 256 → K2 (45 + m.toNat) c = (wide (fun x => byAt I 18 19 (0 + x)) (m % 5) (m / 5)).2.2 c) → (∀ m, 0 ≤ m → m < 5 → eqQ (K2 (102 + m.toNat)) (fwd rt (mirF (byAt I 18 19) (128 + 128 * m) 4 4))) → (∀ m, 0 ≤ m → m < i → eqQ (K2 (110 + m.toNat)) (fwd rt (mirF (byAt I 18 19) (128 + 128 * (5 + m)) 4 4))) → ((6 - i).toNat) = n_ → AW l G M_Si_readSecret P 78 [(4, vi i), (3, vi v), (2, vr 34), (1, vr 18), (0, vr 146)] [] (sD h K2 L_16) := by
        intro n_
        induction n_ using Nat.strongRecOn with
        | _ n_ ih_78 =>
        intro i v K2 hi2 hv G2 mt2 sc2 er hm_78
        refine aw_iload d_Si_readSecret_78 rfl ?_
        refine aw_aload_n d_Si_readSecret_80 rfl rfl ?_
        refine ax_getIe (x := 6) d_Si_readSecret_81 fd_Si_120 (k_34 S) (Eq.trans (G2.1 34 0 (by omega)) (pc_34_0 SD.2.1)) ?_
        refine aw_icmp_ge (tgt := 127) d_Si_readSecret_84 (by decide) (fun c_84 => ?_) (fun c_84 => ?_)
        · skip
          refine aw_iconst d_Si_readSecret_127 ⟨by decide, by decide⟩ ?_
          refine aw_istore (lv' := [(4, vi 0), (3, vi v), (2, vr 34), (1, vr 18), (0, vr 146)]) d_Si_readSecret_128 (by decide) rfl ?_
          have lp_130 : ∀ (n_ : Nat) (i : Int) (v : Int) (K3 : Nat → Int → Int), (0 ≤ i ∧ i ≤ 6) → (v = 1536 + 416 * i) → (FC (fun a => a = 38 ∨ 45 ≤ a ∧ a ≤ 100 ∨ 102 ≤ a ∧ a ≤ 108 ∨ 110 ≤ a ∧ a ≤ 117 ∨ 148 ≤ a ∧ a ≤ 155) I L K3 L_16) → (∀ m, 0 ≤ m → m < 30 → ∀ c, 0 ≤ c → c < 256 → K3 (45 + m.toNat) c = (wide (fun x => byAt I 18 19 (0 + x)) (m % 5) (m / 5)).2.2 c) → (∀ m, 0 ≤ m → m < 5 → eqQ (K3 (102 + m.toNat)) (fwd rt (mirF (byAt I 18 19) (128 + 128 * m) 4 4))) → (∀ m, 0 ≤ m → m < 6 → eqQ (K3 (110 + m.toNat)) (fwd rt (mirF (byAt I 18 19) (128 + 128 * (5 + m)) 4 4))) → (∀ m, 0 ≤ m → m < i → eqQ (K3 (148 + m.toNat)) (fwd rt (mirF (byAt I 18 19) (1536 + 416 * m) 13 4096))) → ((6 - i).toNat) = n_ → AW l G M_Si_readSecret P 130 [(4, vi i), (3, vi v), (2, vr 34), (1, vr 18), (0, vr 146)] [] (sD h K3 L_16) := by
            intro n_
            induction n_ using Nat.strongRecOn with
            | _ n_ ih_130 =>
            intro i v K3 hi3 hv G3 mt3 sc3 er3 dr hm_130
            refine aw_iload d_Si_readSecret_130 rfl ?_
            refine aw_aload_n d_Si_readSecret_132 rfl rfl ?_
            refine ax_getIe (x := 6) d_Si_readSecret_133 fd_Si_120 (k_34 S) (Eq.trans (G3.1 34 0 (by omega)) (pc_34_0 SD.2.1)) ?_
            refine aw_icmp_ge (tgt := 171) d_Si_readSecret_136 (by decide) (fun c_136 => ?_) (fun c_136 => ?_)
            · skip
              exact aw_vret d_Si_readSecret_171 rfl (hP _ _ (Or.inl ⟨okm, K3, L_16, ⟨G3, mt3, sc3, er3, fun m a b => dr m a (by omega)⟩, rfl, rfl⟩))
            · skip
              refine aw_aload_n d_Si_readSecret_139 rfl rfl ?_
              refine aw_aload_n d_Si_readSecret_140 rfl rfl ?_
              refine aw_iload_n d_Si_readSecret_141 rfl rfl ?_
              refine aw_bipush d_Si_readSecret_142 ⟨by decide, by decide⟩ (by decide) ?_
              refine aw_sipush d_Si_readSecret_144 ⟨by decide, by decide⟩ (by decide) ?_
              refine aw_aload_n d_Si_readSecret_147 rfl rfl ?_
              refine ax_getR (b := 147) d_Si_readSecret_148 fd_Si_15 (k_146 S) (r_146_1 S) ?_
              refine aw_iload d_Si_readSecret_151 rfl ?_
              refine ax_aald (b := 148 + i.toNat) d_Si_readSecret_153 ⟨by rw [(k_147 S)]; decide, by rw [(k_147 S)]; decide⟩ (by omega) (by rw [n_147 S]; omega) (g_147 S (by omega) (by omega)) ?_
              refine ax_Vr (st := []) (as := [vr 18, vi v, vi 13, vi 4096, vr (148 + i.toNat)]) (b := 146) d_Si_readSecret_154 cs_Si_readSecret_154 (k_146 S) (c_Si_readMirrored (w := 13) S (SD.fc G3 (by intro a x; omega)) (ks S (i := 2) (by decide)) ⟨kr_147 S (by omega), by omega, nr_147 S (by omega)⟩ (by omega) (by decide) (by rw [G3.1 18 1 (by omega), nks S (i := 2) (by decide)]; omega) (by decide)) rfl rfl rfl (fun u_154 q_154 => ?_)
              obtain ⟨q1_154, q2_154⟩ := q_154
              have Fc : FC (fun a => a = 38 ∨ 45 ≤ a ∧ a ≤ 100 ∨ 102 ≤ a ∧ a ≤ 108 ∨ 110 ≤ a ∧ a ≤ 117 ∨ 148 ≤ a ∧ a ≤ 155) I L u_154 L_16 := G3.tr q1_154 (by intro a x; omega)
              rw [show byAt K3 18 19 = byAt I 18 19 from funext (fun x => byAt_fc G3 (by omega) (by omega))] at q2_154
              show AW l G M_Si_readSecret P 157 [(4, vi i), (3, vi v), (2, vr 34), (1, vr 18), (0, vr 146)] [] (sD h u_154 L_16)
              refine aw_iload_n d_Si_readSecret_157 rfl rfl ?_
              refine aw_bipush d_Si_readSecret_158 ⟨by decide, by decide⟩ (by decide) ?_
              refine ax_S (st := [vi v]) (as := [vi 13]) (v := some (vi (32 * 13))) (h' := sD h u_154 L_16) d_Si_readSecret_160 cs_Si_readSecret_160 (c_Ri_packedSize (by omega)) rfl rfl rfl ?_
              show AW l G M_Si_readSecret P 163 [(4, vi i), (3, vi v), (2, vr 34), (1, vr 18), (0, vr 146)] [vi (32 * 13), vi v] (sD h u_154 L_16)
              refine ax_iadd d_Si_readSecret_163 ⟨(by omega), (by omega)⟩ ?_
              refine aw_istore_n (lv' := [(3, vi (v + (32 * 13))), (4, vi i), (2, vr 34), (1, vr 18), (0, vr 146)]) d_Si_readSecret_164 rfl (by decide) rfl ?_
              refine ax_iinc (lv' := [(4, vi (i + 1)), (3, vi (v + (32 * 13))), (2, vr 34), (1, vr 18), (0, vr 146)]) d_Si_readSecret_165 rfl (by decide) ⟨(by omega), (by omega)⟩ rfl ?_
              refine aw_goto (tgt := 130) d_Si_readSecret_168 (by decide) ?_
              exact ih_130 _ (by omega) (i + 1) (v + (32 * 13)) u_154 (by omega) (by omega) (Fc) (fun m a b c x y => (q1_154.1 _ c (by omega)).trans (mt3 m a b c x y)) (fun m a b j x y => (q1_154.1 _ j (by omega)).trans (sc3 m a b j x y)) (fun m a b j x y => (q1_154.1 _ j (by omega)).trans (er3 m a b j x y)) (fun m a b j x y => by by_cases z : m = i; exact (by rw [z]; have v := q2_154 j x y; rw [hv] at v; exact v); exact (q1_154.1 _ j (by omega)).trans (dr m a (by omega) j x y)) rfl
          skip
          exact lp_130 _ 0 v K2 (by omega) (by omega) (G2) (mt2) (sc2) (fun m a b => er m a (by omega)) (fun m a b => by omega) rfl
        · skip
          refine aw_aload_n d_Si_readSecret_87 rfl rfl ?_
          refine aw_aload_n d_Si_readSecret_88 rfl rfl ?_
          refine aw_iload_n d_Si_readSecret_89 rfl rfl ?_
          refine aw_aload_n d_Si_readSecret_90 rfl rfl ?_
          refine ax_getIe (x := 4) d_Si_readSecret_91 fd_Si_103 (k_34 S) (Eq.trans (G2.1 34 10 (by omega)) (pc_34_10 SD.2.1)) ?_
          refine aw_aload_n d_Si_readSecret_94 rfl rfl ?_
          refine ax_getIe (x := 4) d_Si_readSecret_95 fd_Si_106 (k_34 S) (Eq.trans (G2.1 34 2 (by omega)) (pc_34_2 SD.2.1)) ?_
          refine aw_aload_n d_Si_readSecret_98 rfl rfl ?_
          refine ax_getR (b := 36) d_Si_readSecret_99 fd_Si_38 (k_146 S) (r_146_0 S) ?_
          refine ax_getR (b := 109) d_Si_readSecret_102 fd_Si_123 (k_36 S) (r_36_5 S) ?_
          refine aw_iload d_Si_readSecret_105 rfl ?_
          refine ax_aald (b := 110 + i.toNat) d_Si_readSecret_107 ⟨by rw [(k_109 S)]; decide, by rw [(k_109 S)]; decide⟩ (by omega) (by rw [n_109 S]; omega) (g_109 S (by omega) (by omega)) ?_
          refine ax_Vr (st := []) (as := [vr 18, vi v, vi 4, vi 4, vr (110 + i.toNat)]) (b := 146) d_Si_readSecret_108 cs_Si_readSecret_108 (k_146 S) (c_Si_readMirrored (w := 4) S (SD.fc G2 (by intro a x; omega)) (ks S (i := 2) (by decide)) ⟨kr_109 S (by omega), by omega, nr_109 S (by omega)⟩ (by omega) (by decide) (by rw [G2.1 18 1 (by omega), nks S (i := 2) (by decide)]; omega) (by decide)) rfl rfl rfl (fun u_108 q_108 => ?_)
          obtain ⟨q1_108, q2_108⟩ := q_108
          have Fb : FC (fun a => a = 38 ∨ 45 ≤ a ∧ a ≤ 100 ∨ 102 ≤ a ∧ a ≤ 108 ∨ 110 ≤ a ∧ a ≤ 117 ∨ 148 ≤ a ∧ a ≤ 155) I L u_108 L_16 := G2.tr q1_108 (by intro a x; omega)
          rw [show byAt K2 18 19 = byAt I 18 19 from funext (fun x => byAt_fc G2 (by omega) (by omega))] at q2_108
          show AW l G M_Si_readSecret P 111 [(4, vi i), (3, vi v), (2, vr 34), (1, vr 18), (0, vr 146)] [] (sD h u_108 L_16)
          refine aw_iload_n d_Si_readSecret_111 rfl rfl ?_
          refine aw_aload_n d_Si_readSecret_112 rfl rfl ?_
          refine ax_getIe (x := 4) d_Si_readSecret_113 fd_Si_103 (k_34 S) (Eq.trans (Fb.1 34 10 (by omega)) (pc_34_10 SD.2.1)) ?_
          refine ax_S (st := [vi v]) (as := [vi 4]) (v := some (vi (32 * 4))) (h' := sD h u_108 L_16) d_Si_readSecret_116 cs_Si_readSecret_116 (c_Ri_packedSize (by omega)) rfl rfl rfl ?_
          show AW l G M_Si_readSecret P 119 [(4, vi i), (3, vi v), (2, vr 34), (1, vr 18), (0, vr 146)] [vi (32 * 4), vi v] (sD h u_108 L_16)
          refine ax_iadd d_Si_readSecret_119 ⟨(by omega), (by omega)⟩ ?_
          refine aw_istore_n (lv' := [(3, vi (v + (32 * 4))), (4, vi i), (2, vr 34), (1, vr 18), (0, vr 146)]) d_Si_readSecret_120 rfl (by decide) rfl ?_
          refine ax_iinc (lv' := [(4, vi (i + 1)), (3, vi (v + (32 * 4))), (2, vr 34), (1, vr 18), (0, vr 146)]) d_Si_readSecret_121 rfl (by decide) ⟨(by omega), (by omega)⟩ rfl ?_
          refine aw_goto (tgt := 78) d_Si_readSecret_124 (by decide) ?_
          exact ih_78 _ (by omega) (i + 1) (v + (32 * 4)) u_108 (by omega) (by omega) (Fb) (fun m a b c x y => (q1_108.1 _ c (by omega)).trans (mt2 m a b c x y)) (fun m a b j x y => (q1_108.1 _ j (by omega)).trans (sc2 m a b j x y)) (fun m a b j x y => by by_cases z : m = i; exact (by rw [z]; have v := q2_108 j x y; rw [hv] at v; exact v); exact (q1_108.1 _ j (by omega)).trans (er m a (by omega) j x y)) rfl
      skip
      exact lp_78 _ 0 v K (by omega) (by omega) (F) (mt) (fun m a b => sc m a (by omega)) (fun m a b => by omega) rfl
    · skip
      refine aw_aload_n d_Si_readSecret_35 rfl rfl ?_
      refine aw_aload_n d_Si_readSecret_36 rfl rfl ?_
      refine aw_iload_n d_Si_readSecret_37 rfl rfl ?_
      refine aw_aload_n d_Si_readSecret_38 rfl rfl ?_
      refine ax_getIe (x := 4) d_Si_readSecret_39 fd_Si_103 (k_34 S) (Eq.trans (F.1 34 10 (by omega)) (pc_34_10 SD.2.1)) ?_
      refine aw_aload_n d_Si_readSecret_42 rfl rfl ?_
      refine ax_getIe (x := 4) d_Si_readSecret_43 fd_Si_106 (k_34 S) (Eq.trans (F.1 34 2 (by omega)) (pc_34_2 SD.2.1)) ?_
      refine aw_aload_n d_Si_readSecret_46 rfl rfl ?_
      refine ax_getR (b := 36) d_Si_readSecret_47 fd_Si_38 (k_146 S) (r_146_0 S) ?_
      refine ax_getR (b := 101) d_Si_readSecret_50 fd_Si_109 (k_36 S) (r_36_4 S) ?_
      refine aw_iload d_Si_readSecret_53 rfl ?_
      refine ax_aald (b := 102 + i.toNat) d_Si_readSecret_55 ⟨by rw [(k_101 S)]; decide, by rw [(k_101 S)]; decide⟩ (by omega) (by rw [n_101 S]; omega) (g_101 S (by omega) (by omega)) ?_
      refine ax_Vr (st := []) (as := [vr 18, vi v, vi 4, vi 4, vr (102 + i.toNat)]) (b := 146) d_Si_readSecret_56 cs_Si_readSecret_56 (k_146 S) (c_Si_readMirrored (w := 4) S (SD.fc F (by intro a x; omega)) (ks S (i := 2) (by decide)) ⟨kr_101 S (by omega), by omega, nr_101 S (by omega)⟩ (by omega) (by decide) (by rw [F.1 18 1 (by omega), nks S (i := 2) (by decide)]; omega) (by decide)) rfl rfl rfl (fun u_56 q_56 => ?_)
      obtain ⟨q1_56, q2_56⟩ := q_56
      have Fa : FC (fun a => a = 38 ∨ 45 ≤ a ∧ a ≤ 100 ∨ 102 ≤ a ∧ a ≤ 108 ∨ 110 ≤ a ∧ a ≤ 117 ∨ 148 ≤ a ∧ a ≤ 155) I L u_56 L_16 := F.tr q1_56 (by intro a x; omega)
      rw [show byAt K 18 19 = byAt I 18 19 from funext (fun x => byAt_fc F (by omega) (by omega))] at q2_56
      show AW l G M_Si_readSecret P 59 [(4, vi i), (3, vi v), (2, vr 34), (1, vr 18), (0, vr 146)] [] (sD h u_56 L_16)
      refine aw_iload_n d_Si_readSecret_59 rfl rfl ?_
      refine aw_aload_n d_Si_readSecret_60 rfl rfl ?_
      refine ax_getIe (x := 4) d_Si_readSecret_61 fd_Si_103 (k_34 S) (Eq.trans (Fa.1 34 10 (by omega)) (pc_34_10 SD.2.1)) ?_
      refine ax_S (st := [vi v]) (as := [vi 4]) (v := some (vi (32 * 4))) (h' := sD h u_56 L_16) d_Si_readSecret_64 cs_Si_readSecret_64 (c_Ri_packedSize (by omega)) rfl rfl rfl ?_
      show AW l G M_Si_readSecret P 67 [(4, vi i), (3, vi v), (2, vr 34), (1, vr 18), (0, vr 146)] [vi (32 * 4), vi v] (sD h u_56 L_16)
      refine ax_iadd d_Si_readSecret_67 ⟨(by omega), (by omega)⟩ ?_
      refine aw_istore_n (lv' := [(3, vi (v + (32 * 4))), (4, vi i), (2, vr 34), (1, vr 18), (0, vr 146)]) d_Si_readSecret_68 rfl (by decide) rfl ?_
      refine ax_iinc (lv' := [(4, vi (i + 1)), (3, vi (v + (32 * 4))), (2, vr 34), (1, vr 18), (0, vr 146)]) d_Si_readSecret_69 rfl (by decide) ⟨(by omega), (by omega)⟩ rfl ?_
      refine aw_goto (tgt := 26) d_Si_readSecret_72 (by decide) ?_
      exact ih_26 _ (by omega) (i + 1) (v + (32 * 4)) u_56 (by omega) (by omega) (Fa) (fun m a b c x y => (q1_56.1 _ c (by omega)).trans (mt m a b c x y)) (fun m a b j x y => by by_cases z : m = i; exact (by rw [z]; have v := q2_56 j x y; rw [hv] at v; exact v); exact (q1_56.1 _ j (by omega)).trans (sc m a (by omega) j x y)) rfl
  skip
  refine aw_sub (lv' := [(4, vi 0), (3, vi 128), (2, vr 34), (1, vr 18), (0, vr 146)]) (by simp) ?_
  exact lp_26 _ 0 128 I_16 (by omega) (rfl) (F0) (q_16.2) (fun m a b => by omega) rfl
set_option maxHeartbeats 800000 in
set_option maxRecDepth 100000 in
theorem c_Si_drawMasks1 {l : Launch} {G : a_G} {h : Hp} {I L : Nat → Int → Int} {nn : Int} (S : Shp h) (SD : Std I L) (hc : I 164 1 ≤ 64 ∧ 0 ≤ nn ∧ nn < 90000) : AW l G M_Si_drawMasks (Ret (fun _ : (Nat → Int → Int) × (Nat → Int → Int) => none) (fun u => sD h u.1 u.2) (fun u => FC (fun a => a = 38 ∨ a = 141 ∨ a = 142 ∨ 157 ≤ a ∧ a ≤ 163 ∨ 119 ≤ a ∧ a ≤ 125) I L u.1 u.2 ∧ (∀ m, 0 ≤ m → m < 5 → eqQ (u.1 (157 + m.toNat)) (mskF 524288 20 (fun k => byAt I 164 165 (0 + k)) (nn + m))) ∧ ∀ m, 0 ≤ m → m < 5 → eqQ (u.1 (119 + m.toNat)) (fwd rt (mskF 524288 20 (fun k => byAt I 164 165 (0 + k)) (nn + m))))) 0 (a_ar 0 [vr 146, vr 34, vi nn]) [] (sD h I L) := by
  suffices key : ∀ P : a_R → Hp → Prop, (∀ I2 L2, FC (fun a => a = 38 ∨ a = 141 ∨ a = 142 ∨ 157 ≤ a ∧ a ≤ 163 ∨ 119 ≤ a ∧ a ≤ 125) I L I2 L2 → (∀ m, 0 ≤ m → m < 5 → eqQ (I2 (157 + m.toNat)) (mskF 524288 20 (fun k => byAt I 164 165 (0 + k)) (nn + m))) → (∀ m, 0 ≤ m → m < 5 → eqQ (I2 (119 + m.toNat)) (fwd rt (mskF 524288 20 (fun k => byAt I 164 165 (0 + k)) (nn + m)))) → P (.inl none) (sD h I2 L2)) → AW l G M_Si_drawMasks P 0 [(0, vr 146), (1, vr 34), (2, vi nn)] [] (sD h I L) from key _ (fun I2 L2 q1 q2 q3 => ⟨(I2, L2), rfl, rfl, q1, q2, q3⟩)
  intro P hP
  refine aw_iconst d_Si_drawMasks_0 ⟨by decide, by decide⟩ ?_
  refine aw_istore_n (lv' := [(3, vi 0), (0, vr 146), (1, vr 34), (2, vi nn)]) d_Si_drawMasks_1 rfl (by decide) rfl ?_
  have lp_2 : ∀ (n_ : Nat) (i : Int) (K : Nat → Int → Int) (M : Nat → Int → Int), (0 ≤ i ∧ i ≤ 5) → (FC (fun a => a = 38 ∨ a = 141 ∨ a = 142 ∨ 157 ≤ a ∧ a ≤ 163 ∨ 119 ≤ a ∧ a ≤ 125) I L K M) → (∀ m, 0 ≤ m → m < i → eqQ (K (157 + m.toNat)) (mskF 524288 20 (fun k => byAt I 164 165 (0 + k)) (nn + m))) → (∀ m, 0 ≤ m → m < i → eqQ (K (119 + m.toNat)) (fwd rt (mskF 524288 20 (fun k => byAt I 164 165 (0 + k)) (nn + m)))) → ((5 - i).toNat) = n_ → AW l G M_Si_drawMasks P 2 [(3, vi i), (2, vi nn), (1, vr 34), (0, vr 146)] [] (sD h K M) := by
    intro n_
    induction n_ using Nat.strongRecOn with
    | _ n_ ih_2 =>
    intro i K M hi F mk an hm_2
    refine aw_iload_n d_Si_drawMasks_2 rfl rfl ?_
    refine aw_aload_n d_Si_drawMasks_3 rfl rfl ?_
    refine ax_getIe (x := 5) d_Si_drawMasks_4 fd_Si_56 (k_34 S) (Eq.trans (F.1 34 1 (by omega)) (pc_34_1 SD.2.1)) ?_
    refine aw_icmp_ge (tgt := 95) d_Si_drawMasks_7 (by decide) (fun c_7 => ?_) (fun c_7 => ?_)
    · skip
      exact aw_vret d_Si_drawMasks_95 rfl (hP K M F (fun m a b => mk m a (by omega)) (fun m a b => an m a (by omega)))
    · skip
      refine aw_aload_n d_Si_drawMasks_10 rfl rfl ?_
      refine ax_getR (b := 36) d_Si_drawMasks_11 fd_Si_38 (k_146 S) (r_146_0 S) ?_
      refine ax_getR (b := 37) d_Si_drawMasks_14 fd_Si_91 (k_36 S) (r_36_0 S) ?_
      refine aw_aload_n d_Si_drawMasks_17 rfl rfl ?_
      refine ax_getR (b := 164) d_Si_drawMasks_18 fd_Si_28 (k_146 S) (r_146_3 S) ?_
      refine aw_iconst d_Si_drawMasks_21 ⟨by decide, by decide⟩ ?_
      refine aw_iload_n d_Si_drawMasks_22 rfl rfl ?_
      refine aw_iload_n d_Si_drawMasks_23 rfl rfl ?_
      refine ax_iadd d_Si_drawMasks_24 ⟨(by omega), (by omega)⟩ ?_
      refine ax_Vr (st := []) (as := [vr 164, vi 0, vi (nn + i)]) (b := 37) d_Si_drawMasks_25 cs_Si_drawMasks_25 (k_37 S) (c_Sa_takeNumbered S (SD.fc F (by intro a x; omega)).1 ⟨k_164 S, r_164_0 S, k_165 S, by decide, by decide, by decide⟩ ⟨by decide, by decide⟩ (by rw [F.1 164 1 (by omega), n_165 S]; omega) (by omega)) rfl rfl rfl (fun u_25 q_25 => ?_)
      obtain ⟨I1, L1⟩ := u_25
      obtain ⟨F1, e1⟩ := q_25
      dsimp only at F1 e1
      show AW l G M_Si_drawMasks P 28 [(3, vi i), (2, vi nn), (1, vr 34), (0, vr 146)] [] (sD h I1 L1)
      rw [show (fun k => byAt K 164 165 (0 + k)) = (fun k => byAt I 164 165 (0 + k)) from funext (fun k => byAt_fc F (by omega) (by omega))] at e1
      refine aw_aload_n d_Si_drawMasks_28 rfl rfl ?_
      refine ax_getR (b := 36) d_Si_drawMasks_29 fd_Si_38 (k_146 S) (r_146_0 S) ?_
      refine ax_getR (b := 37) d_Si_drawMasks_32 fd_Si_91 (k_36 S) (r_36_0 S) ?_
      refine aw_aload_n d_Si_drawMasks_35 rfl rfl ?_
      refine aw_aload_n d_Si_drawMasks_36 rfl rfl ?_
      refine ax_getR (b := 36) d_Si_drawMasks_37 fd_Si_38 (k_146 S) (r_146_0 S) ?_
      refine ax_getR (b := 141) d_Si_drawMasks_40 fd_Si_168 (k_36 S) (r_36_12 S) ?_
      refine aw_aload_n d_Si_drawMasks_43 rfl rfl ?_
      refine ax_getR (b := 156) d_Si_drawMasks_44 fd_Si_20 (k_146 S) (r_146_2 S) ?_
      refine aw_iload_n d_Si_drawMasks_47 rfl rfl ?_
      refine ax_aald (b := 157 + i.toNat) d_Si_drawMasks_48 ⟨by rw [(k_156 S)]; decide, by rw [(k_156 S)]; decide⟩ (by omega) (by rw [n_156 S]; omega) (g_156 S (by omega) (by omega)) ?_
      refine ax_Vr (st := []) (as := [vr 34, vr 141, vr (157 + i.toNat)]) (b := 37) d_Si_drawMasks_49 cs_Si_drawMasks_49 (k_37 S) (c_Sa_mask1 S ((SD.fc F (by intro a x; omega)).fc F1.fc (by intro a x; omega)) ⟨kr_156 S (by omega), by omega, nr_156 S (by omega)⟩ (by omega) (by rw [e1]; exact nmS_ok)) rfl rfl rfl (fun u_49 q_49 => ?_)
      obtain ⟨I2, L2⟩ := u_49
      obtain ⟨F2, e2⟩ := q_49
      dsimp only at F2 e2
      rw [e1] at e2
      have Fa := F1.fc.tr F2 (r := fun a => a = 38 ∨ a = 141 ∨ a = 142 ∨ a = 157 + i.toNat) (by intro a x; omega)
      have Fb : FC (fun a => a = 38 ∨ a = 141 ∨ a = 142 ∨ 157 ≤ a ∧ a ≤ 163 ∨ 119 ≤ a ∧ a ≤ 125) I L I2 L2 := F.tr Fa (by intro a x; omega)
      show AW l G M_Si_drawMasks P 52 [(3, vi i), (2, vi nn), (1, vr 34), (0, vr 146)] [] (sD h I2 L2)
      refine aw_aload_n d_Si_drawMasks_52 rfl rfl ?_
      refine ax_getR (b := 156) d_Si_drawMasks_53 fd_Si_20 (k_146 S) (r_146_2 S) ?_
      refine aw_iload_n d_Si_drawMasks_56 rfl rfl ?_
      refine ax_aald (b := 157 + i.toNat) d_Si_drawMasks_57 ⟨by rw [(k_156 S)]; decide, by rw [(k_156 S)]; decide⟩ (by omega) (by rw [n_156 S]; omega) (g_156 S (by omega) (by omega)) ?_
      refine aw_aload_n d_Si_drawMasks_58 rfl rfl ?_
      refine ax_getR (b := 36) d_Si_drawMasks_59 fd_Si_38 (k_146 S) (r_146_0 S) ?_
      refine ax_getR (b := 118) d_Si_drawMasks_62 fd_Si_175 (k_36 S) (r_36_6 S) ?_
      refine aw_iload_n d_Si_drawMasks_65 rfl rfl ?_
      refine ax_aald (b := 119 + i.toNat) d_Si_drawMasks_66 ⟨by rw [(k_118 S)]; decide, by rw [(k_118 S)]; decide⟩ (by omega) (by rw [n_118 S]; omega) (g_118 S (by omega) (by omega)) ?_
      refine ax_S (st := []) (as := [vr (157 + i.toNat), vr (119 + i.toNat)]) (v := none) (h' := sD h (rowTo I2 (119 + i.toNat) 256 (I2 (157 + i.toNat))) L2) d_Si_drawMasks_67 cs_Si_drawMasks_67 (c_Ri_copyRow ⟨kr_156 S (by omega), by omega, nr_156 S (by omega)⟩ ⟨kr_118 S (by omega), by omega, nr_118 S (by omega)⟩) rfl rfl rfl ?_
      show AW l G M_Si_drawMasks P 70 [(3, vi i), (2, vi nn), (1, vr 34), (0, vr 146)] [] (sD h (rowTo I2 (119 + i.toNat) 256 (I2 (157 + i.toNat))) L2)
      refine aw_aload_n d_Si_drawMasks_70 rfl rfl ?_
      refine ax_getR (b := 36) d_Si_drawMasks_71 fd_Si_38 (k_146 S) (r_146_0 S) ?_
      refine ax_getR (b := 42) d_Si_drawMasks_74 fd_Si_134 (k_36 S) (r_36_2 S) ?_
      refine aw_aload_n d_Si_drawMasks_77 rfl rfl ?_
      refine ax_getR (b := 36) d_Si_drawMasks_78 fd_Si_38 (k_146 S) (r_146_0 S) ?_
      refine ax_getR (b := 118) d_Si_drawMasks_81 fd_Si_175 (k_36 S) (r_36_6 S) ?_
      refine aw_iload_n d_Si_drawMasks_84 rfl rfl ?_
      refine ax_aald (b := 119 + i.toNat) d_Si_drawMasks_85 ⟨by rw [(k_118 S)]; decide, by rw [(k_118 S)]; decide⟩ (by omega) (by rw [n_118 S]; omega) (g_118 S (by omega) (by omega)) ?_
      refine ax_V (st := []) (as := [vr (119 + i.toNat)]) (b := 42) (v := none) (h' := sD h (cset (rowTo I2 (119 + i.toNat) 256 (I2 (157 + i.toNat))) (119 + i.toNat) (fwd ((rowTo I2 (119 + i.toNat) 256 (I2 (157 + i.toNat))) 43) ((rowTo I2 (119 + i.toNat) 256 (I2 (157 + i.toNat))) (119 + i.toNat)))) L2) d_Si_drawMasks_86 cs_Si_drawMasks_86 (k_42 S) (c_Ri_forward S ⟨kr_118 S (by omega), by omega, nr_118 S (by omega)⟩ (by omega) (fun j x y => by rw [rowTo_in x y, e2 j x y]; omega) (fun j x y => by rw [rowTo_ne (by omega)]; exact (SD.fc Fb (by intro a x; omega)).R j x y)) rfl rfl rfl ?_
      show AW l G M_Si_drawMasks P 89 [(3, vi i), (2, vi nn), (1, vr 34), (0, vr 146)] [] (sD h (cset (rowTo I2 (119 + i.toNat) 256 (I2 (157 + i.toNat))) (119 + i.toNat) (fwd ((rowTo I2 (119 + i.toNat) 256 (I2 (157 + i.toNat))) 43) ((rowTo I2 (119 + i.toNat) 256 (I2 (157 + i.toNat))) (119 + i.toNat)))) L2)
      refine ax_iinc (lv' := [(3, vi (i + 1)), (2, vi nn), (1, vr 34), (0, vr 146)]) d_Si_drawMasks_89 rfl (by decide) ⟨(by omega), (by omega)⟩ rfl ?_
      refine aw_goto (tgt := 2) d_Si_drawMasks_92 (by decide) ?_
      exact ih_2 _ (by omega) (i + 1) (cset (rowTo I2 (119 + i.toNat) 256 (I2 (157 + i.toNat))) (119 + i.toNat) (fwd ((rowTo I2 (119 + i.toNat) 256 (I2 (157 + i.toNat))) 43) ((rowTo I2 (119 + i.toNat) 256 (I2 (157 + i.toNat))) (119 + i.toNat)))) L2 (by omega) ((Fb.tr (FC.row (p := fun a => a = 38 ∨ a = 141 ∨ a = 142 ∨ 157 ≤ a ∧ a ≤ 163 ∨ 119 ≤ a ∧ a ≤ 125) (by omega)) (fun a x => ⟨x, x⟩)).tr (FC.cs (p := fun a => a = 38 ∨ a = 141 ∨ a = 142 ∨ 157 ≤ a ∧ a ≤ 163 ∨ 119 ≤ a ∧ a ≤ 125) (by omega)) (fun a x => ⟨x, x⟩)) (fun m a b j x y => by by_cases z : m = i; exact (by rw [z, cset_ne (by omega), rowTo_ne (by omega)]; exact e2 j x y); exact (by rw [cset_ne (by omega), rowTo_ne (by omega), Fa.1 _ _ (by omega)]; exact mk m a (by omega) j x y)) (fun m a b j x y => by by_cases z : m = i; exact (by rw [z, cset_at, show (rowTo I2 (119 + i.toNat) 256 (I2 (157 + i.toNat))) 43 = rt from by rw [← (SD.fc Fb (by intro a x; omega)).2.2]; funext v; rw [rowTo_ne (by omega)]]; exact fwd_eq (fun v u t => by rw [rowTo_in u t]; exact e2 v u t) j x y); exact (by rw [cset_ne (by omega), rowTo_ne (by omega), Fa.1 _ _ (by omega)]; exact an m a (by omega) j x y)) rfl
  skip
  refine aw_sub (lv' := [(3, vi 0), (2, vi nn), (1, vr 34), (0, vr 146)]) (by simp) ?_
  exact lp_2 _ 0 I L (by omega) (FC.rfl') (fun m a b => by omega) (fun m a b => by omega) rfl
set_option maxHeartbeats 800000 in
set_option maxRecDepth 100000 in
theorem c_Si_commit1 {l : Launch} {G : a_G} {h : Hp} {I L : Nat → Int → Int} {A V : Int → Int → Int} (S : Shp h) (SD : Std I L) (hA : ∀ m, 0 ≤ m → m < 30 → eqQ (I (45 + m.toNat)) (A m)) (qA : ∀ m, 0 ≤ m → m < 30 → inQ (A m)) (hV : ∀ m, 0 ≤ m → m < 5 → eqQ (I (119 + m.toNat)) (V m)) (qV : ∀ m, 0 ≤ m → m < 5 → inQ (V m)) (hd : I 137 1 ≤ 64) : AW l G M_Si_commit (Ret (fun _ : (Nat → Int → Int) × (Nat → Int → Int) => none) (fun u => sD h u.1 u.2) (fun u => FC (fun a => 127 ≤ a ∧ a ≤ 134 ∨ a = 136 ∨ a = 141 ∨ a = 142 ∨ a = 38 ∨ a = 139 ∨ a = 140) I L u.1 u.2 ∧ (∀ m, 0 ≤ m → m < 6 → eqQ (u.1 (127 + m.toNat)) ((imF A V 5 5) m)) ∧ HB u.1 139 140 48 (spOut (hhS (fun k => byAt I 137 138 (0 + k)) (hiB 261888 4 128 (imF A V 5 5)) 768)))) 0 (a_ar 0 [vr 146, vr 34]) [] (sD h I L) := by
  suffices key : ∀ P : a_R → Hp → Prop, (∀ I2 L2, FC (fun a => 127 ≤ a ∧ a ≤ 134 ∨ a = 136 ∨ a = 141 ∨ a = 142 ∨ a = 38 ∨ a = 139 ∨ a = 140) I L I2 L2 → (∀ m, 0 ≤ m → m < 6 → eqQ (I2 (127 + m.toNat)) ((imF A V 5 5) m)) → HB I2 139 140 48 (spOut (hhS (fun k => byAt I 137 138 (0 + k)) (hiB 261888 4 128 (imF A V 5 5)) 768)) → P (.inl none) (sD h I2 L2)) → AW l G M_Si_commit P 0 [(0, vr 146), (1, vr 34)] [] (sD h I L) from key _ (fun I2 L2 q1 q2 q3 => ⟨(I2, L2), rfl, rfl, q1, q2, q3⟩)
  intro P hP
  refine aw_aload_n d_Si_commit_0 rfl rfl ?_
  refine ax_getR (b := 36) d_Si_commit_1 fd_Si_38 (k_146 S) (r_146_0 S) ?_
  refine aw_aload_n d_Si_commit_4 rfl rfl ?_
  refine ax_Vr (st := []) (as := [vr 34]) (b := 36) d_Si_commit_5 cs_Si_commit_5 (k_36 S) (c_Be_multiplyMatrix1 S SD (fun m hm j x y => by have z := hA m (by omega) (by omega) j x y; rw [Int.toNat_natCast] at z; rw [z]; exact qA m (by omega) (by omega) j x y) (fun m hm j x y => by have z := hV m (by omega) (by omega) j x y; rw [Int.toNat_natCast] at z; rw [z]; exact qV m (by omega) (by omega) j x y)) rfl rfl rfl (fun u_5 q_5 => ?_)
  obtain ⟨q1, q2⟩ := q_5
  have F2 : FC (fun a => 127 ≤ a ∧ a ≤ 134 ∨ a = 136 ∨ a = 141 ∨ a = 142) I L u_5 L := q1.mono (by intro a x; omega)
  show AW l G M_Si_commit P 8 [(0, vr 146), (1, vr 34)] [] (sD h u_5 L)
  refine aw_aload_n d_Si_commit_8 rfl rfl ?_
  refine ax_getR (b := 36) d_Si_commit_9 fd_Si_38 (k_146 S) (r_146_0 S) ?_
  refine ax_getR (b := 141) d_Si_commit_12 fd_Si_168 (k_36 S) (r_36_12 S) ?_
  refine ax_V (st := []) (as := []) (b := 141) (v := none) (h' := sD h (a_up u_5 141 1 0) L) d_Si_commit_15 cs_Si_commit_15 (k_141 S) (c_By_clear ⟨k_141 S, r_141_0 S, k_142 S, by decide, by decide, by decide⟩) rfl rfl rfl ?_
  show AW l G M_Si_commit P 18 [(0, vr 146), (1, vr 34)] [] (sD h (a_up u_5 141 1 0) L)
  refine aw_iconst d_Si_commit_18 ⟨by decide, by decide⟩ ?_
  refine aw_istore_n (lv' := [(2, vi 0), (0, vr 146), (1, vr 34)]) d_Si_commit_19 rfl (by decide) rfl ?_
  have lp_20 : ∀ (n_ : Nat) (i : Int) (K : Nat → Int → Int), (0 ≤ i ∧ i ≤ 6) → (FC (fun a => 127 ≤ a ∧ a ≤ 134 ∨ a = 136 ∨ a = 141 ∨ a = 142) I L K L) → (∀ m, 0 ≤ m → i ≤ m → m < 6 → eqQ (K (127 + m.toNat)) (fun c => pS A V (m * 5) c 5 % 8380417)) → (∀ m, 0 ≤ m → m < i → eqQ (K (127 + m.toNat)) ((imF A V 5 5) m)) → (HB K 141 142 (128 * i) (hiB 261888 4 128 (imF A V 5 5))) → ((6 - i).toNat) = n_ → AW l G M_Si_commit P 20 [(2, vi i), (1, vr 34), (0, vr 146)] [] (sD h K L) := by
    intro n_
    induction n_ using Nat.strongRecOn with
    | _ n_ ih_20 =>
    intro i K hi F un dn H hm_20
    refine aw_iload_n d_Si_commit_20 rfl rfl ?_
    refine aw_aload_n d_Si_commit_21 rfl rfl ?_
    refine ax_getIe (x := 6) d_Si_commit_22 fd_Si_120 (k_34 S) (Eq.trans (F.1 34 0 (by omega)) (pc_34_0 SD.2.1)) ?_
    refine aw_icmp_ge (tgt := 113) d_Si_commit_25 (by decide) (fun c_25 => ?_) (fun c_25 => ?_)
    · skip
      refine aw_aload_n d_Si_commit_113 rfl rfl ?_
      refine ax_getR (b := 36) d_Si_commit_114 fd_Si_38 (k_146 S) (r_146_0 S) ?_
      refine aw_aload_n d_Si_commit_117 rfl rfl ?_
      refine aw_aload_n d_Si_commit_118 rfl rfl ?_
      refine ax_getR (b := 36) d_Si_commit_119 fd_Si_38 (k_146 S) (r_146_0 S) ?_
      refine ax_getR (b := 139) d_Si_commit_122 fd_Si_207 (k_36 S) (r_36_11 S) ?_
      refine ax_Vr (st := []) (as := [vr 34, vr 139]) (b := 36) d_Si_commit_125 cs_Si_commit_125 (k_36 S) (c_Be_hashHighs1 S (SD.fc F (by intro a x; omega)) ⟨k_139 S, r_139_0 S, k_140 S, by decide, by decide, by decide⟩ (by decide) (by rw [n_140 S, H.1, F.1 137 1 (by omega)]; omega)) rfl rfl rfl (fun u_125 q_125 => ?_)
      obtain ⟨I9, L9⟩ := u_125
      obtain ⟨F9, a9, b9⟩ := q_125
      dsimp only at F9 a9 b9
      rw [H.1, show 128 * i = 768 by omega, hhS_congr (gd' := fun k => byAt I 137 138 (0 + k)) (gp' := (hiB 261888 4 128 (imF A V 5 5))) (fun k hk => by rw [byAt_fc F (by omega) (by omega)]) (fun k hk => by rw [Int.zero_add, H.2 k (by omega) (by omega)])] at b9
      show AW l G M_Si_commit P 128 [(2, vi i), (1, vr 34), (0, vr 146)] [] (sD h I9 L9)
      exact aw_vret d_Si_commit_128 rfl (hP I9 L9 (F.tr F9 (by intro a x; omega)) (fun m a b j x y => (F9.1 _ j (by omega)).trans (dn m a (by omega) j x y)) ⟨a9, b9⟩)
    · skip
      refine aw_aload_n d_Si_commit_28 rfl rfl ?_
      refine ax_getR (b := 36) d_Si_commit_29 fd_Si_38 (k_146 S) (r_146_0 S) ?_
      refine ax_getR (b := 42) d_Si_commit_32 fd_Si_134 (k_36 S) (r_36_2 S) ?_
      refine aw_aload_n d_Si_commit_35 rfl rfl ?_
      refine ax_getR (b := 36) d_Si_commit_36 fd_Si_38 (k_146 S) (r_146_0 S) ?_
      refine ax_getR (b := 126) d_Si_commit_39 fd_Si_188 (k_36 S) (r_36_7 S) ?_
      refine aw_iload_n d_Si_commit_42 rfl rfl ?_
      refine ax_aald (b := 127 + i.toNat) d_Si_commit_43 ⟨by rw [(k_126 S)]; decide, by rw [(k_126 S)]; decide⟩ (by omega) (by rw [n_126 S]; omega) (g_126 S (by omega) (by omega)) ?_
      refine ax_V (st := []) (as := [vr (127 + i.toNat)]) (b := 42) (v := none) (h' := sD h (cset K (127 + i.toNat) (bck (K 43) (K (127 + i.toNat)))) L) d_Si_commit_44 cs_Si_commit_44 (k_42 S) (c_Ri_back S ⟨kr_126 S (by omega), by omega, nr_126 S (by omega)⟩ (by omega) (fun j x y => by rw [un i hi.1 (Int.le_refl _) (by omega) j x y]; show 0 ≤ _ % 8380417 ∧ _ % 8380417 < 8380417; exact ⟨Int.emod_nonneg _ (by decide), Int.emod_lt_of_pos _ (by decide)⟩) (SD.fc F (by intro a x; omega)).R) rfl rfl rfl ?_
      show AW l G M_Si_commit P 47 [(2, vi i), (1, vr 34), (0, vr 146)] [] (sD h (cset K (127 + i.toNat) (bck (K 43) (K (127 + i.toNat)))) L)
      have Fj : FC (fun a => 127 ≤ a ∧ a ≤ 134 ∨ a = 136 ∨ a = 141 ∨ a = 142) I L (cset K (127 + i.toNat) (bck (K 43) (K (127 + i.toNat)))) L := F.tr (FC.cs (p := fun a => 127 ≤ a ∧ a ≤ 134 ∨ a = 136 ∨ a = 141 ∨ a = 142) (by omega)) (fun a x => ⟨x, x⟩)
      have wi : eqQ ((cset K (127 + i.toNat) (bck (K 43) (K (127 + i.toNat)))) (127 + i.toNat)) ((imF A V 5 5) i) := fun j x y => by rw [cset_at, (SD.fc F (by intro a x; omega)).2.2]; exact bck_eq (un i hi.1 (Int.le_refl _) (by omega)) j x y
      have gp : (cset K (127 + i.toNat) (bck (K 43) (K (127 + i.toNat)))) 34 5 = 261888 := (Fj.1 34 5 (by omega)).trans (pc_34_5 SD.2.1)
      refine aw_iconst d_Si_commit_47 ⟨by decide, by decide⟩ ?_
      refine aw_istore_n (lv' := [(3, vi 0), (2, vi i), (1, vr 34), (0, vr 146)]) d_Si_commit_48 rfl (by decide) rfl ?_
      have lp_49 : ∀ (n_ : Nat) (c : Int), (0 ≤ c ∧ c ≤ 256) → ((256 - c).toNat) = n_ → AW l G M_Si_commit P 49 [(3, vi c), (2, vi i), (1, vr 34), (0, vr 146)] [] (sD h (rowTo (cset K (127 + i.toNat) (bck (K 43) (K (127 + i.toNat)))) 136 c (fun x => dHigh 261888 ((cset K (127 + i.toNat) (bck (K 43) (K (127 + i.toNat)))) (127 + i.toNat) x))) L) := by
        intro n_
        induction n_ using Nat.strongRecOn with
        | _ n_ ih_49 =>
        intro c hc hm_49
        refine aw_iload_n d_Si_commit_49 rfl rfl ?_
        refine aw_sipush d_Si_commit_50 ⟨by decide, by decide⟩ (by decide) ?_
        refine aw_icmp_ge (tgt := 86) d_Si_commit_53 (by decide) (fun c_53 => ?_) (fun c_53 => ?_)
        · skip
          rw [show c = 256 by omega]
          refine aw_aload_n d_Si_commit_86 rfl rfl ?_
          refine ax_getR (b := 36) d_Si_commit_87 fd_Si_38 (k_146 S) (r_146_0 S) ?_
          refine ax_getR (b := 141) d_Si_commit_90 fd_Si_168 (k_36 S) (r_36_12 S) ?_
          refine aw_aload_n d_Si_commit_93 rfl rfl ?_
          refine ax_getR (b := 36) d_Si_commit_94 fd_Si_38 (k_146 S) (r_146_0 S) ?_
          refine ax_getR (b := 136) d_Si_commit_97 fd_Si_194 (k_36 S) (r_36_9 S) ?_
          refine aw_aload_n d_Si_commit_100 rfl rfl ?_
          refine ax_getIe (x := 4) d_Si_commit_101 fd_Si_201 (k_34 S) (Eq.trans (rowTo_ne (by omega)) (Eq.trans (Fj.1 34 12 (by omega)) (pc_34_12 SD.2.1))) ?_
          refine ax_V (st := []) (as := [vr 136, vi 4]) (b := 141) (v := none) (h' := sD h (byPut (rowTo (cset K (127 + i.toNat) (bck (K 43) (K (127 + i.toNat)))) 136 256 (fun x => dHigh 261888 ((cset K (127 + i.toNat) (bck (K 43) (K (127 + i.toNat)))) (127 + i.toNat) x))) 141 142 (32 * 4) (gB ((rowTo (cset K (127 + i.toNat) (bck (K 43) (K (127 + i.toNat)))) 136 256 (fun x => dHigh 261888 ((cset K (127 + i.toNat) (bck (K 43) (K (127 + i.toNat)))) (127 + i.toNat) x))) 136) 4)) L) d_Si_commit_104 cs_Si_commit_104 (k_141 S) (by have z := c_By_addBits (l := l) (G := G) (L := L) (I := rowTo (cset K (127 + i.toNat) (bck (K 43) (K (127 + i.toNat)))) 136 256 (fun x => dHigh 261888 ((cset K (127 + i.toNat) (bck (K 43) (K (127 + i.toNat)))) (127 + i.toNat) x))) (w := 4) ⟨k_141 S, r_141_0 S, k_142 S, by decide, by decide, by decide⟩ ⟨k_136 S, by decide, n_136 S, by decide, by decide⟩ (by decide) (fun j x y => by rw [rowTo_in x y, wi j x y]; have := dHi16 (imF_in (A := A) (V := V) (l := 5) (n := 5) (m := i) j x y); omega) (by rw [rowTo_ne (by decide), cset_ne (by omega), H.1, n_142 S]; omega); exact z) rfl rfl rfl ?_
          show AW l G M_Si_commit P 107 [(3, vi 256), (2, vi i), (1, vr 34), (0, vr 146)] [] (sD h (byPut (rowTo (cset K (127 + i.toNat) (bck (K 43) (K (127 + i.toNat)))) 136 256 (fun x => dHigh 261888 ((cset K (127 + i.toNat) (bck (K 43) (K (127 + i.toNat)))) (127 + i.toNat) x))) 141 142 (32 * 4) (gB ((rowTo (cset K (127 + i.toNat) (bck (K 43) (K (127 + i.toNat)))) 136 256 (fun x => dHigh 261888 ((cset K (127 + i.toNat) (bck (K 43) (K (127 + i.toNat)))) (127 + i.toNat) x))) 136) 4)) L)
          refine ax_iinc (lv' := [(2, vi (i + 1)), (3, vi 256), (1, vr 34), (0, vr 146)]) d_Si_commit_107 rfl (by decide) ⟨(by omega), (by omega)⟩ rfl ?_
          refine aw_goto (tgt := 20) d_Si_commit_110 (by decide) ?_
          refine aw_sub (lv' := [(2, vi (i + 1)), (1, vr 34), (0, vr 146)]) (by simp) ?_
          exact ih_20 _ (by omega) (i + 1) (byPut (rowTo (cset K (127 + i.toNat) (bck (K 43) (K (127 + i.toNat)))) 136 256 (fun x => dHigh 261888 ((cset K (127 + i.toNat) (bck (K 43) (K (127 + i.toNat)))) (127 + i.toNat) x))) 141 142 (32 * 4) (gB ((rowTo (cset K (127 + i.toNat) (bck (K 43) (K (127 + i.toNat)))) 136 256 (fun x => dHigh 261888 ((cset K (127 + i.toNat) (bck (K 43) (K (127 + i.toNat)))) (127 + i.toNat) x))) 136) 4)) (by omega) ((Fj.tr (FC.row (p := fun a => 127 ≤ a ∧ a ≤ 134 ∨ a = 136 ∨ a = 141 ∨ a = 142) (by omega)) (fun a x => ⟨x, x⟩)).tr (FC.put (p := fun a => 127 ≤ a ∧ a ≤ 134 ∨ a = 136 ∨ a = 141 ∨ a = 142) (by omega) (by omega)) (fun a x => ⟨x, x⟩)) (fun m a b c j x y => by rw [byPut_ne (by omega) (by omega), rowTo_ne (by omega), cset_ne (by omega)]; exact un m a (by omega) c j x y) (fun m a b j x y => by by_cases z : m = i; exact (by rw [z, byPut_ne (by omega) (by omega), rowTo_ne (by omega)]; exact wi j x y); exact (by rw [byPut_ne (by omega) (by omega), rowTo_ne (by omega), cset_ne (by omega)]; exact dn m a (by omega) j x y)) (by rw [show 128 * (i + 1) = 128 * i + 32 * 4 by omega]; exact ((H.fc (L := L) (L' := L) (FC.cs (p := fun a => a = 127 + i.toNat) rfl) (by omega) (by omega)).fc (L := L) (L' := L) (FC.row (p := fun a => a = 136) rfl) (by decide) (by decide)).put (by decide) (by omega) (by decide) (fun z x y => by rw [gB_m]; show _ = gB (fun j => dHigh 261888 ((imF A V 5 5) ((128 * i + z) / 128) j)) 4 ((128 * i + z) % 128); rw [show (128 * i + z) / 128 = i by omega, show (128 * i + z) % 128 = z by omega, gB_congr (G := fun j => dHigh 261888 ((imF A V 5 5) i j)) (fun j u v => by rw [rowTo_in u v, wi j u v])])) rfl
        · skip
          refine aw_aload_n d_Si_commit_56 rfl rfl ?_
          refine ax_getR (b := 36) d_Si_commit_57 fd_Si_38 (k_146 S) (r_146_0 S) ?_
          refine ax_getR (b := 136) d_Si_commit_60 fd_Si_194 (k_36 S) (r_36_9 S) ?_
          refine aw_iload_n d_Si_commit_63 rfl rfl ?_
          refine aw_aload_n d_Si_commit_64 rfl rfl ?_
          refine aw_aload_n d_Si_commit_65 rfl rfl ?_
          refine ax_getR (b := 36) d_Si_commit_66 fd_Si_38 (k_146 S) (r_146_0 S) ?_
          refine ax_getR (b := 126) d_Si_commit_69 fd_Si_188 (k_36 S) (r_36_7 S) ?_
          refine aw_iload_n d_Si_commit_72 rfl rfl ?_
          refine ax_aald (b := 127 + i.toNat) d_Si_commit_73 ⟨by rw [(k_126 S)]; decide, by rw [(k_126 S)]; decide⟩ (by omega) (by rw [n_126 S]; omega) (g_126 S (by omega) (by omega)) ?_
          refine aw_iload_n d_Si_commit_74 rfl rfl ?_
          refine ax_ialde (x := (cset K (127 + i.toNat) (bck (K 43) (K (127 + i.toNat)))) (127 + i.toNat) c) d_Si_commit_75 (kr_126 S (by omega)) (by omega) (by rw [nr_126 S (by omega)]; omega) (Eq.trans (rowTo_ne (by omega)) (rfl)) ?_
          refine ax_V (st := [vi c, vr 136]) (as := [vi ((cset K (127 + i.toNat) (bck (K 43) (K (127 + i.toNat)))) (127 + i.toNat) c)]) (b := 34) (v := some (vi (dHigh 261888 ((cset K (127 + i.toNat) (bck (K 43) (K (127 + i.toNat)))) (127 + i.toNat) c)))) (h' := sD h (rowTo (cset K (127 + i.toNat) (bck (K 43) (K (127 + i.toNat)))) 136 c (fun x => dHigh 261888 ((cset K (127 + i.toNat) (bck (K 43) (K (127 + i.toNat)))) (127 + i.toNat) x))) L) d_Si_commit_76 cs_Si_commit_76 (k_34 S) (by have z := c_Pa_high (l := l) (G := G) (L := L) (I := rowTo (cset K (127 + i.toNat) (bck (K 43) (K (127 + i.toNat)))) 136 c (fun x => dHigh 261888 ((cset K (127 + i.toNat) (bck (K 43) (K (127 + i.toNat)))) (127 + i.toNat) x))) (p := 34) (r := (cset K (127 + i.toNat) (bck (K 43) (K (127 + i.toNat)))) (127 + i.toNat) c) (k_34 S) (by rw [rowTo_ne (by omega), gp]; decide) (by rw [wi c hc.1 (by omega)]; exact imF_in c hc.1 (by omega)); rw [rowTo_ne (by omega), gp] at z; exact z) rfl rfl rfl ?_
          show AW l G M_Si_commit P 79 [(3, vi c), (2, vi i), (1, vr 34), (0, vr 146)] [vi (dHigh 261888 ((cset K (127 + i.toNat) (bck (K 43) (K (127 + i.toNat)))) (127 + i.toNat) c)), vi c, vr 136] (sD h (rowTo (cset K (127 + i.toNat) (bck (K 43) (K (127 + i.toNat)))) 136 c (fun x => dHigh 261888 ((cset K (127 + i.toNat) (bck (K 43) (K (127 + i.toNat)))) (127 + i.toNat) x))) L)
          refine ax_iast d_Si_commit_79 (k_136 S) (by decide) (by omega) (by rw [n_136 S]; omega) ?_
          rw [rowTo_1 (by omega) rfl]
          refine ax_iinc (lv' := [(3, vi (c + 1)), (2, vi i), (1, vr 34), (0, vr 146)]) d_Si_commit_80 rfl (by decide) ⟨(by omega), (by omega)⟩ rfl ?_
          refine aw_goto (tgt := 49) d_Si_commit_83 (by decide) ?_
          exact ih_49 _ (by omega) (c + 1) (by omega) rfl
      refine ax_hp (h' := sD h (rowTo (cset K (127 + i.toNat) (bck (K 43) (K (127 + i.toNat)))) 136 0 (fun x => dHigh 261888 ((cset K (127 + i.toNat) (bck (K 43) (K (127 + i.toNat)))) (127 + i.toNat) x))) L) (by rw [rowTo_0]) ?_
      exact lp_49 _ 0 (by omega) rfl
  skip
  refine aw_sub (lv' := [(2, vi 0), (1, vr 34), (0, vr 146)]) (by simp) ?_
  exact lp_20 _ 0 (a_up u_5 141 1 0) (by omega) (F2.tr (FC.up (p := fun a => 127 ≤ a ∧ a ≤ 134 ∨ a = 136 ∨ a = 141 ∨ a = 142) (by omega)) (fun a x => ⟨x, x⟩)) (fun m a b c j x y => by rw [a_up_ne (Or.inl (by omega)), q2 m a c j x y, mS_pS (A := A) (V := V) 5 (fun n hn => hA _ (by omega) (by omega) j x y) (fun n hn => by have z := hV n (by omega) (by omega) j x y; rwa [Int.toNat_natCast] at z)]) (fun m a b => by omega) (by rw [Int.mul_zero]; exact HB.zero) rfl
set_option maxHeartbeats 800000 in
set_option maxRecDepth 100000 in
theorem c_Si_readSecret2 {l : Launch} {G : a_G} {h : Hp} {I L : Nat → Int → Int} (S : Shp h) (hfl : l.flags = flags0) (rm : hX h + 1 ≤ a_NX ∧ hU h + 6 ≤ a_US) (SD : Std I L) (hc : I 18 1 ≤ 8192) : AW l G M_Si_readSecret (ThR h I L (∀ m, 0 ≤ m → m < 56 → (wide (fun x => byAt I 18 19 (0 + x)) (m % 7) (m / 7)).2.1 = 256) (fun I' L' => FC (fun a => a = 38 ∨ 45 ≤ a ∧ a ≤ 100 ∨ 102 ≤ a ∧ a ≤ 108 ∨ 110 ≤ a ∧ a ≤ 117 ∨ 148 ≤ a ∧ a ≤ 155) I L I' L' ∧ (∀ m, 0 ≤ m → m < 56 → ∀ c, 0 ≤ c → c < 256 → I' (45 + m.toNat) c = (wide (fun x => byAt I 18 19 (0 + x)) (m % 7) (m / 7)).2.2 c) ∧ (∀ m, 0 ≤ m → m < 7 → eqQ (I' (102 + m.toNat)) (fwd rt (mirF (byAt I 18 19) (128 + 96 * m) 3 2))) ∧ (∀ m, 0 ≤ m → m < 8 → eqQ (I' (110 + m.toNat)) (fwd rt (mirF (byAt I 18 19) (128 + 96 * (7 + m)) 3 2))) ∧ ∀ m, 0 ≤ m → m < 8 → eqQ (I' (148 + m.toNat)) (fwd rt (mirF (byAt I 18 19) (1568 + 416 * m) 13 4096)))) 0 (a_ar 0 [vr 146, vr 18, vr 35]) [] (sD h I L) := by
  suffices key : ∀ P : a_R → Hp → Prop, (∀ r_ h2_, ThR h I L (∀ m, 0 ≤ m → m < 56 → (wide (fun x => byAt I 18 19 (0 + x)) (m % 7) (m / 7)).2.1 = 256) (fun I' L' => FC (fun a => a = 38 ∨ 45 ≤ a ∧ a ≤ 100 ∨ 102 ≤ a ∧ a ≤ 108 ∨ 110 ≤ a ∧ a ≤ 117 ∨ 148 ≤ a ∧ a ≤ 155) I L I' L' ∧ (∀ m, 0 ≤ m → m < 56 → ∀ c, 0 ≤ c → c < 256 → I' (45 + m.toNat) c = (wide (fun x => byAt I 18 19 (0 + x)) (m % 7) (m / 7)).2.2 c) ∧ (∀ m, 0 ≤ m → m < 7 → eqQ (I' (102 + m.toNat)) (fwd rt (mirF (byAt I 18 19) (128 + 96 * m) 3 2))) ∧ (∀ m, 0 ≤ m → m < 8 → eqQ (I' (110 + m.toNat)) (fwd rt (mirF (byAt I 18 19) (128 + 96 * (7 + m)) 3 2))) ∧ ∀ m, 0 ≤ m → m < 8 → eqQ (I' (148 + m.toNat)) (fwd rt (mirF (byAt I 18 19) (1568 + 416 * m) 13 4096))) r_ h2_ → P r_ h2_) → AW l G M_Si_readSecret P 0 [(0, vr 146), (1, vr 18), (2, vr 35)] [] (sD h I L) from key _ (fun _ _ q => q)
  intro P hP
  refine aw_aload_n d_Si_readSecret_0 rfl rfl ?_
  refine ax_getR (b := 36) d_Si_readSecret_1 fd_Si_38 (k_146 S) (r_146_0 S) ?_
  refine ax_getR (b := 37) d_Si_readSecret_4 fd_Si_91 (k_36 S) (r_36_0 S) ?_
  refine aw_aload_n d_Si_readSecret_7 rfl rfl ?_
  refine aw_aload_n d_Si_readSecret_8 rfl rfl ?_
  refine aw_aload_n d_Si_readSecret_9 rfl rfl ?_
  refine ax_getR (b := 36) d_Si_readSecret_10 fd_Si_38 (k_146 S) (r_146_0 S) ?_
  refine ax_getR (b := 44) d_Si_readSecret_13 fd_Si_95 (k_36 S) (r_36_3 S) ?_
  refine ax_VtT (st := []) (as := [vr 18, vr 35, vr 44]) (b := 37) d_Si_readSecret_16 cs_Si_readSecret_16 (k_37 S) (c_Sa_matrix2 S hfl rm SD (ks S (i := 2) (by decide)) (by omega) (by rw [nks S (i := 2) (by decide)]; omega)) rfl rfl rfl (fun ok_16 I_16 L_16 q_16 => ?_) (fun no_16 I_16 L_16 q_16 => at_leave rfl (hP _ _ (Or.inr ⟨no_16, I_16, L_16, q_16, rfl, rfl⟩)))
  have F0 : FC (fun a => a = 38 ∨ 45 ≤ a ∧ a ≤ 100 ∨ 102 ≤ a ∧ a ≤ 108 ∨ 110 ≤ a ∧ a ≤ 117 ∨ 148 ≤ a ∧ a ≤ 155) I L I_16 L_16 := q_16.1.mono (by intro a x; omega)
  have okm := ok_16
  show AW l G M_Si_readSecret P 19 [(0, vr 146), (1, vr 18), (2, vr 35)] [] (sD h I_16 L_16)
  refine aw_sipush d_Si_readSecret_19 ⟨by decide, by decide⟩ (by decide) ?_
  refine aw_istore_n (lv' := [(3, vi 128), (0, vr 146), (1, vr 18), (2, vr 35)]) d_Si_readSecret_22 rfl (by decide) rfl ?_
  refine aw_iconst d_Si_readSecret_23 ⟨by decide, by decide⟩ ?_
  refine aw_istore (lv' := [(4, vi 0), (3, vi 128), (0, vr 146), (1, vr 18), (2, vr 35)]) d_Si_readSecret_24 (by decide) rfl ?_
  have lp_26 : ∀ (n_ : Nat) (i : Int) (v : Int) (K : Nat → Int → Int), (0 ≤ i ∧ i ≤ 7) → (v = 128 + 96 * i) → (FC (fun a => a = 38 ∨ 45 ≤ a ∧ a ≤ 100 ∨ 102 ≤ a ∧ a ≤ 108 ∨ 110 ≤ a ∧ a ≤ 117 ∨ 148 ≤ a ∧ a ≤ 155) I L K L_16) → (∀ m, 0 ≤ m → m < 56 → ∀ c, 0 ≤ c → c < 256 → K (45 + m.toNat) c = (wide (fun x => byAt I 18 19 (0 + x)) (m % 7) (m / 7)).2.2 c) → (∀ m, 0 ≤ m → m < i → eqQ (K (102 + m.toNat)) (fwd rt (mirF (byAt I 18 19) (128 + 96 * m) 3 2))) → ((7 - i).toNat) = n_ → AW l G M_Si_readSecret P 26 [(4, vi i), (3, vi v), (2, vr 35), (1, vr 18), (0, vr 146)] [] (sD h K L_16) := by
    intro n_
    induction n_ using Nat.strongRecOn with
    | _ n_ ih_26 =>
    intro i v K hi hv F mt sc hm_26
    refine aw_iload d_Si_readSecret_26 rfl ?_
    refine aw_aload_n d_Si_readSecret_28 rfl rfl ?_
    refine ax_getIe (x := 7) d_Si_readSecret_29 fd_Si_56 (k_35 S) (Eq.trans (F.1 35 1 (by omega)) (pc_35_1 SD.2.1)) ?_
    refine aw_icmp_ge (tgt := 75) d_Si_readSecret_32 (by decide) (fun c_32 => ?_) (fun c_32 => ?_)
    · skip
      refine aw_iconst d_Si_readSecret_75 ⟨by decide, by decide⟩ ?_
      refine aw_istore (lv' := [(4, vi 0), (3, vi v), (2, vr 35), (1, vr 18), (0, vr 146)]) d_Si_readSecret_76 (by decide) rfl ?_
      have lp_78 : ∀ (n_ : Nat) (i : Int) (v : Int) (K2 : Nat → Int → Int), (0 ≤ i ∧ i ≤ 8) → (v = 128 + 96 * (7 + i)) → (FC (fun a => a = 38 ∨ 45 ≤ a ∧ a ≤ 100 ∨ 102 ≤ a ∧ a ≤ 108 ∨ 110 ≤ a ∧ a ≤ 117 ∨ 148 ≤ a ∧ a ≤ 155) I L K2 L_16) → (∀ m, 0 ≤ m → m < 56 → ∀ c, 0 ≤ c → c < 256 → K2 (45 + m.toNat) c = (wide (fun x => byAt I 18 19 (0 + x)) (m % 7) (m / 7)).2.2 c) → (∀ m, 0 ≤ m → m < 7 → eqQ (K2 (102 + m.toNat)) (fwd rt (mirF (byAt I 18 19) (128 + 96 * m) 3 2))) → (∀ m, 0 ≤ m → m < i → eqQ (K2 (110 + m.toNat)) (fwd rt (mirF (byAt I 18 19) (128 + 96 * (7 + m)) 3 2))) → ((8 - i).toNat) = n_ → AW l G M_Si_readSecret P 78 [(4, vi i), (3, vi v), (2, vr 35), (1, vr 18), (0, vr 146)] [] (sD h K2 L_16) := by
        intro n_
        induction n_ using Nat.strongRecOn with
        | _ n_ ih_78 =>
        intro i v K2 hi2 hv G2 mt2 sc2 er hm_78
        refine aw_iload d_Si_readSecret_78 rfl ?_
        refine aw_aload_n d_Si_readSecret_80 rfl rfl ?_
        refine ax_getIe (x := 8) d_Si_readSecret_81 fd_Si_120 (k_35 S) (Eq.trans (G2.1 35 0 (by omega)) (pc_35_0 SD.2.1)) ?_
        refine aw_icmp_ge (tgt := 127) d_Si_readSecret_84 (by decide) (fun c_84 => ?_) (fun c_84 => ?_)
        · skip
          refine aw_iconst d_Si_readSecret_127 ⟨by decide, by decide⟩ ?_
          refine aw_istore (lv' := [(4, vi 0), (3, vi v), (2, vr 35), (1, vr 18), (0, vr 146)]) d_Si_readSecret_128 (by decide) rfl ?_
          have lp_130 : ∀ (n_ : Nat) (i : Int) (v : Int) (K3 : Nat → Int → Int), (0 ≤ i ∧ i ≤ 8) → (v = 1568 + 416 * i) → (FC (fun a => a = 38 ∨ 45 ≤ a ∧ a ≤ 100 ∨ 102 ≤ a ∧ a ≤ 108 ∨ 110 ≤ a ∧ a ≤ 117 ∨ 148 ≤ a ∧ a ≤ 155) I L K3 L_16) → (∀ m, 0 ≤ m → m < 56 → ∀ c, 0 ≤ c → c < 256 → K3 (45 + m.toNat) c = (wide (fun x => byAt I 18 19 (0 + x)) (m % 7) (m / 7)).2.2 c) → (∀ m, 0 ≤ m → m < 7 → eqQ (K3 (102 + m.toNat)) (fwd rt (mirF (byAt I 18 19) (128 + 96 * m) 3 2))) → (∀ m, 0 ≤ m → m < 8 → eqQ (K3 (110 + m.toNat)) (fwd rt (mirF (byAt I 18 19) (128 + 96 * (7 + m)) 3 2))) → (∀ m, 0 ≤ m → m < i → eqQ (K3 (148 + m.toNat)) (fwd rt (mirF (byAt I 18 19) (1568 + 416 * m) 13 4096))) → ((8 - i).toNat) = n_ → AW l G M_Si_readSecret P 130 [(4, vi i), (3, vi v), (2, vr 35), (1, vr 18), (0, vr 146)] [] (sD h K3 L_16) := by
            intro n_
            induction n_ using Nat.strongRecOn with
            | _ n_ ih_130 =>
            intro i v K3 hi3 hv G3 mt3 sc3 er3 dr hm_130
            refine aw_iload d_Si_readSecret_130 rfl ?_
            refine aw_aload_n d_Si_readSecret_132 rfl rfl ?_
            refine ax_getIe (x := 8) d_Si_readSecret_133 fd_Si_120 (k_35 S) (Eq.trans (G3.1 35 0 (by omega)) (pc_35_0 SD.2.1)) ?_
            refine aw_icmp_ge (tgt := 171) d_Si_readSecret_136 (by decide) (fun c_136 => ?_) (fun c_136 => ?_)
            · skip
              exact aw_vret d_Si_readSecret_171 rfl (hP _ _ (Or.inl ⟨okm, K3, L_16, ⟨G3, mt3, sc3, er3, fun m a b => dr m a (by omega)⟩, rfl, rfl⟩))
            · skip
              refine aw_aload_n d_Si_readSecret_139 rfl rfl ?_
              refine aw_aload_n d_Si_readSecret_140 rfl rfl ?_
              refine aw_iload_n d_Si_readSecret_141 rfl rfl ?_
              refine aw_bipush d_Si_readSecret_142 ⟨by decide, by decide⟩ (by decide) ?_
              refine aw_sipush d_Si_readSecret_144 ⟨by decide, by decide⟩ (by decide) ?_
              refine aw_aload_n d_Si_readSecret_147 rfl rfl ?_
              refine ax_getR (b := 147) d_Si_readSecret_148 fd_Si_15 (k_146 S) (r_146_1 S) ?_
              refine aw_iload d_Si_readSecret_151 rfl ?_
              refine ax_aald (b := 148 + i.toNat) d_Si_readSecret_153 ⟨by rw [(k_147 S)]; decide, by rw [(k_147 S)]; decide⟩ (by omega) (by rw [n_147 S]; omega) (g_147 S (by omega) (by omega)) ?_
              refine ax_Vr (st := []) (as := [vr 18, vi v, vi 13, vi 4096, vr (148 + i.toNat)]) (b := 146) d_Si_readSecret_154 cs_Si_readSecret_154 (k_146 S) (c_Si_readMirrored (w := 13) S (SD.fc G3 (by intro a x; omega)) (ks S (i := 2) (by decide)) ⟨kr_147 S (by omega), by omega, nr_147 S (by omega)⟩ (by omega) (by decide) (by rw [G3.1 18 1 (by omega), nks S (i := 2) (by decide)]; omega) (by decide)) rfl rfl rfl (fun u_154 q_154 => ?_)
              obtain ⟨q1_154, q2_154⟩ := q_154
              have Fc : FC (fun a => a = 38 ∨ 45 ≤ a ∧ a ≤ 100 ∨ 102 ≤ a ∧ a ≤ 108 ∨ 110 ≤ a ∧ a ≤ 117 ∨ 148 ≤ a ∧ a ≤ 155) I L u_154 L_16 := G3.tr q1_154 (by intro a x; omega)
              rw [show byAt K3 18 19 = byAt I 18 19 from funext (fun x => byAt_fc G3 (by omega) (by omega))] at q2_154
              show AW l G M_Si_readSecret P 157 [(4, vi i), (3, vi v), (2, vr 35), (1, vr 18), (0, vr 146)] [] (sD h u_154 L_16)
              refine aw_iload_n d_Si_readSecret_157 rfl rfl ?_
              refine aw_bipush d_Si_readSecret_158 ⟨by decide, by decide⟩ (by decide) ?_
              refine ax_S (st := [vi v]) (as := [vi 13]) (v := some (vi (32 * 13))) (h' := sD h u_154 L_16) d_Si_readSecret_160 cs_Si_readSecret_160 (c_Ri_packedSize (by omega)) rfl rfl rfl ?_
              show AW l G M_Si_readSecret P 163 [(4, vi i), (3, vi v), (2, vr 35), (1, vr 18), (0, vr 146)] [vi (32 * 13), vi v] (sD h u_154 L_16)
              refine ax_iadd d_Si_readSecret_163 ⟨(by omega), (by omega)⟩ ?_
              refine aw_istore_n (lv' := [(3, vi (v + (32 * 13))), (4, vi i), (2, vr 35), (1, vr 18), (0, vr 146)]) d_Si_readSecret_164 rfl (by decide) rfl ?_
              refine ax_iinc (lv' := [(4, vi (i + 1)), (3, vi (v + (32 * 13))), (2, vr 35), (1, vr 18), (0, vr 146)]) d_Si_readSecret_165 rfl (by decide) ⟨(by omega), (by omega)⟩ rfl ?_
              refine aw_goto (tgt := 130) d_Si_readSecret_168 (by decide) ?_
              exact ih_130 _ (by omega) (i + 1) (v + (32 * 13)) u_154 (by omega) (by omega) (Fc) (fun m a b c x y => (q1_154.1 _ c (by omega)).trans (mt3 m a b c x y)) (fun m a b j x y => (q1_154.1 _ j (by omega)).trans (sc3 m a b j x y)) (fun m a b j x y => (q1_154.1 _ j (by omega)).trans (er3 m a b j x y)) (fun m a b j x y => by by_cases z : m = i; exact (by rw [z]; have v := q2_154 j x y; rw [hv] at v; exact v); exact (q1_154.1 _ j (by omega)).trans (dr m a (by omega) j x y)) rfl
          skip
          exact lp_130 _ 0 v K2 (by omega) (by omega) (G2) (mt2) (sc2) (fun m a b => er m a (by omega)) (fun m a b => by omega) rfl
        · skip
          refine aw_aload_n d_Si_readSecret_87 rfl rfl ?_
          refine aw_aload_n d_Si_readSecret_88 rfl rfl ?_
          refine aw_iload_n d_Si_readSecret_89 rfl rfl ?_
          refine aw_aload_n d_Si_readSecret_90 rfl rfl ?_
          refine ax_getIe (x := 3) d_Si_readSecret_91 fd_Si_103 (k_35 S) (Eq.trans (G2.1 35 10 (by omega)) (pc_35_10 SD.2.1)) ?_
          refine aw_aload_n d_Si_readSecret_94 rfl rfl ?_
          refine ax_getIe (x := 2) d_Si_readSecret_95 fd_Si_106 (k_35 S) (Eq.trans (G2.1 35 2 (by omega)) (pc_35_2 SD.2.1)) ?_
          refine aw_aload_n d_Si_readSecret_98 rfl rfl ?_
          refine ax_getR (b := 36) d_Si_readSecret_99 fd_Si_38 (k_146 S) (r_146_0 S) ?_
          refine ax_getR (b := 109) d_Si_readSecret_102 fd_Si_123 (k_36 S) (r_36_5 S) ?_
          refine aw_iload d_Si_readSecret_105 rfl ?_
          refine ax_aald (b := 110 + i.toNat) d_Si_readSecret_107 ⟨by rw [(k_109 S)]; decide, by rw [(k_109 S)]; decide⟩ (by omega) (by rw [n_109 S]; omega) (g_109 S (by omega) (by omega)) ?_
          refine ax_Vr (st := []) (as := [vr 18, vi v, vi 3, vi 2, vr (110 + i.toNat)]) (b := 146) d_Si_readSecret_108 cs_Si_readSecret_108 (k_146 S) (c_Si_readMirrored (w := 3) S (SD.fc G2 (by intro a x; omega)) (ks S (i := 2) (by decide)) ⟨kr_109 S (by omega), by omega, nr_109 S (by omega)⟩ (by omega) (by decide) (by rw [G2.1 18 1 (by omega), nks S (i := 2) (by decide)]; omega) (by decide)) rfl rfl rfl (fun u_108 q_108 => ?_)
          obtain ⟨q1_108, q2_108⟩ := q_108
          have Fb : FC (fun a => a = 38 ∨ 45 ≤ a ∧ a ≤ 100 ∨ 102 ≤ a ∧ a ≤ 108 ∨ 110 ≤ a ∧ a ≤ 117 ∨ 148 ≤ a ∧ a ≤ 155) I L u_108 L_16 := G2.tr q1_108 (by intro a x; omega)
          rw [show byAt K2 18 19 = byAt I 18 19 from funext (fun x => byAt_fc G2 (by omega) (by omega))] at q2_108
          show AW l G M_Si_readSecret P 111 [(4, vi i), (3, vi v), (2, vr 35), (1, vr 18), (0, vr 146)] [] (sD h u_108 L_16)
          refine aw_iload_n d_Si_readSecret_111 rfl rfl ?_
          refine aw_aload_n d_Si_readSecret_112 rfl rfl ?_
          refine ax_getIe (x := 3) d_Si_readSecret_113 fd_Si_103 (k_35 S) (Eq.trans (Fb.1 35 10 (by omega)) (pc_35_10 SD.2.1)) ?_
          refine ax_S (st := [vi v]) (as := [vi 3]) (v := some (vi (32 * 3))) (h' := sD h u_108 L_16) d_Si_readSecret_116 cs_Si_readSecret_116 (c_Ri_packedSize (by omega)) rfl rfl rfl ?_
          show AW l G M_Si_readSecret P 119 [(4, vi i), (3, vi v), (2, vr 35), (1, vr 18), (0, vr 146)] [vi (32 * 3), vi v] (sD h u_108 L_16)
          refine ax_iadd d_Si_readSecret_119 ⟨(by omega), (by omega)⟩ ?_
          refine aw_istore_n (lv' := [(3, vi (v + (32 * 3))), (4, vi i), (2, vr 35), (1, vr 18), (0, vr 146)]) d_Si_readSecret_120 rfl (by decide) rfl ?_
          refine ax_iinc (lv' := [(4, vi (i + 1)), (3, vi (v + (32 * 3))), (2, vr 35), (1, vr 18), (0, vr 146)]) d_Si_readSecret_121 rfl (by decide) ⟨(by omega), (by omega)⟩ rfl ?_
          refine aw_goto (tgt := 78) d_Si_readSecret_124 (by decide) ?_
          exact ih_78 _ (by omega) (i + 1) (v + (32 * 3)) u_108 (by omega) (by omega) (Fb) (fun m a b c x y => (q1_108.1 _ c (by omega)).trans (mt2 m a b c x y)) (fun m a b j x y => (q1_108.1 _ j (by omega)).trans (sc2 m a b j x y)) (fun m a b j x y => by by_cases z : m = i; exact (by rw [z]; have v := q2_108 j x y; rw [hv] at v; exact v); exact (q1_108.1 _ j (by omega)).trans (er m a (by omega) j x y)) rfl
      skip
      exact lp_78 _ 0 v K (by omega) (by omega) (F) (mt) (fun m a b => sc m a (by omega)) (fun m a b => by omega) rfl
    · skip
      refine aw_aload_n d_Si_readSecret_35 rfl rfl ?_
      refine aw_aload_n d_Si_readSecret_36 rfl rfl ?_
      refine aw_iload_n d_Si_readSecret_37 rfl rfl ?_
      refine aw_aload_n d_Si_readSecret_38 rfl rfl ?_
      refine ax_getIe (x := 3) d_Si_readSecret_39 fd_Si_103 (k_35 S) (Eq.trans (F.1 35 10 (by omega)) (pc_35_10 SD.2.1)) ?_
      refine aw_aload_n d_Si_readSecret_42 rfl rfl ?_
      refine ax_getIe (x := 2) d_Si_readSecret_43 fd_Si_106 (k_35 S) (Eq.trans (F.1 35 2 (by omega)) (pc_35_2 SD.2.1)) ?_
      refine aw_aload_n d_Si_readSecret_46 rfl rfl ?_
      refine ax_getR (b := 36) d_Si_readSecret_47 fd_Si_38 (k_146 S) (r_146_0 S) ?_
      refine ax_getR (b := 101) d_Si_readSecret_50 fd_Si_109 (k_36 S) (r_36_4 S) ?_
      refine aw_iload d_Si_readSecret_53 rfl ?_
      refine ax_aald (b := 102 + i.toNat) d_Si_readSecret_55 ⟨by rw [(k_101 S)]; decide, by rw [(k_101 S)]; decide⟩ (by omega) (by rw [n_101 S]; omega) (g_101 S (by omega) (by omega)) ?_
      refine ax_Vr (st := []) (as := [vr 18, vi v, vi 3, vi 2, vr (102 + i.toNat)]) (b := 146) d_Si_readSecret_56 cs_Si_readSecret_56 (k_146 S) (c_Si_readMirrored (w := 3) S (SD.fc F (by intro a x; omega)) (ks S (i := 2) (by decide)) ⟨kr_101 S (by omega), by omega, nr_101 S (by omega)⟩ (by omega) (by decide) (by rw [F.1 18 1 (by omega), nks S (i := 2) (by decide)]; omega) (by decide)) rfl rfl rfl (fun u_56 q_56 => ?_)
      obtain ⟨q1_56, q2_56⟩ := q_56
      have Fa : FC (fun a => a = 38 ∨ 45 ≤ a ∧ a ≤ 100 ∨ 102 ≤ a ∧ a ≤ 108 ∨ 110 ≤ a ∧ a ≤ 117 ∨ 148 ≤ a ∧ a ≤ 155) I L u_56 L_16 := F.tr q1_56 (by intro a x; omega)
      rw [show byAt K 18 19 = byAt I 18 19 from funext (fun x => byAt_fc F (by omega) (by omega))] at q2_56
      show AW l G M_Si_readSecret P 59 [(4, vi i), (3, vi v), (2, vr 35), (1, vr 18), (0, vr 146)] [] (sD h u_56 L_16)
      refine aw_iload_n d_Si_readSecret_59 rfl rfl ?_
      refine aw_aload_n d_Si_readSecret_60 rfl rfl ?_
      refine ax_getIe (x := 3) d_Si_readSecret_61 fd_Si_103 (k_35 S) (Eq.trans (Fa.1 35 10 (by omega)) (pc_35_10 SD.2.1)) ?_
      refine ax_S (st := [vi v]) (as := [vi 3]) (v := some (vi (32 * 3))) (h' := sD h u_56 L_16) d_Si_readSecret_64 cs_Si_readSecret_64 (c_Ri_packedSize (by omega)) rfl rfl rfl ?_
      show AW l G M_Si_readSecret P 67 [(4, vi i), (3, vi v), (2, vr 35), (1, vr 18), (0, vr 146)] [vi (32 * 3), vi v] (sD h u_56 L_16)
      refine ax_iadd d_Si_readSecret_67 ⟨(by omega), (by omega)⟩ ?_
      refine aw_istore_n (lv' := [(3, vi (v + (32 * 3))), (4, vi i), (2, vr 35), (1, vr 18), (0, vr 146)]) d_Si_readSecret_68 rfl (by decide) rfl ?_
      refine ax_iinc (lv' := [(4, vi (i + 1)), (3, vi (v + (32 * 3))), (2, vr 35), (1, vr 18), (0, vr 146)]) d_Si_readSecret_69 rfl (by decide) ⟨(by omega), (by omega)⟩ rfl ?_
      refine aw_goto (tgt := 26) d_Si_readSecret_72 (by decide) ?_
      exact ih_26 _ (by omega) (i + 1) (v + (32 * 3)) u_56 (by omega) (by omega) (Fa) (fun m a b c x y => (q1_56.1 _ c (by omega)).trans (mt m a b c x y)) (fun m a b j x y => by by_cases z : m = i; exact (by rw [z]; have v := q2_56 j x y; rw [hv] at v; exact v); exact (q1_56.1 _ j (by omega)).trans (sc m a (by omega) j x y)) rfl
  skip
  refine aw_sub (lv' := [(4, vi 0), (3, vi 128), (2, vr 35), (1, vr 18), (0, vr 146)]) (by simp) ?_
  exact lp_26 _ 0 128 I_16 (by omega) (rfl) (F0) (q_16.2) (fun m a b => by omega) rfl
set_option maxHeartbeats 800000 in
set_option maxRecDepth 100000 in
theorem c_Si_drawMasks2 {l : Launch} {G : a_G} {h : Hp} {I L : Nat → Int → Int} {nn : Int} (S : Shp h) (SD : Std I L) (hc : I 164 1 ≤ 64 ∧ 0 ≤ nn ∧ nn < 90000) : AW l G M_Si_drawMasks (Ret (fun _ : (Nat → Int → Int) × (Nat → Int → Int) => none) (fun u => sD h u.1 u.2) (fun u => FC (fun a => a = 38 ∨ a = 141 ∨ a = 142 ∨ 157 ≤ a ∧ a ≤ 163 ∨ 119 ≤ a ∧ a ≤ 125) I L u.1 u.2 ∧ (∀ m, 0 ≤ m → m < 7 → eqQ (u.1 (157 + m.toNat)) (mskF 524288 20 (fun k => byAt I 164 165 (0 + k)) (nn + m))) ∧ ∀ m, 0 ≤ m → m < 7 → eqQ (u.1 (119 + m.toNat)) (fwd rt (mskF 524288 20 (fun k => byAt I 164 165 (0 + k)) (nn + m))))) 0 (a_ar 0 [vr 146, vr 35, vi nn]) [] (sD h I L) := by
  suffices key : ∀ P : a_R → Hp → Prop, (∀ I2 L2, FC (fun a => a = 38 ∨ a = 141 ∨ a = 142 ∨ 157 ≤ a ∧ a ≤ 163 ∨ 119 ≤ a ∧ a ≤ 125) I L I2 L2 → (∀ m, 0 ≤ m → m < 7 → eqQ (I2 (157 + m.toNat)) (mskF 524288 20 (fun k => byAt I 164 165 (0 + k)) (nn + m))) → (∀ m, 0 ≤ m → m < 7 → eqQ (I2 (119 + m.toNat)) (fwd rt (mskF 524288 20 (fun k => byAt I 164 165 (0 + k)) (nn + m)))) → P (.inl none) (sD h I2 L2)) → AW l G M_Si_drawMasks P 0 [(0, vr 146), (1, vr 35), (2, vi nn)] [] (sD h I L) from key _ (fun I2 L2 q1 q2 q3 => ⟨(I2, L2), rfl, rfl, q1, q2, q3⟩)
  intro P hP
  refine aw_iconst d_Si_drawMasks_0 ⟨by decide, by decide⟩ ?_
  refine aw_istore_n (lv' := [(3, vi 0), (0, vr 146), (1, vr 35), (2, vi nn)]) d_Si_drawMasks_1 rfl (by decide) rfl ?_
  have lp_2 : ∀ (n_ : Nat) (i : Int) (K : Nat → Int → Int) (M : Nat → Int → Int), (0 ≤ i ∧ i ≤ 7) → (FC (fun a => a = 38 ∨ a = 141 ∨ a = 142 ∨ 157 ≤ a ∧ a ≤ 163 ∨ 119 ≤ a ∧ a ≤ 125) I L K M) → (∀ m, 0 ≤ m → m < i → eqQ (K (157 + m.toNat)) (mskF 524288 20 (fun k => byAt I 164 165 (0 + k)) (nn + m))) → (∀ m, 0 ≤ m → m < i → eqQ (K (119 + m.toNat)) (fwd rt (mskF 524288 20 (fun k => byAt I 164 165 (0 + k)) (nn + m)))) → ((7 - i).toNat) = n_ → AW l G M_Si_drawMasks P 2 [(3, vi i), (2, vi nn), (1, vr 35), (0, vr 146)] [] (sD h K M) := by
    intro n_
    induction n_ using Nat.strongRecOn with
    | _ n_ ih_2 =>
    intro i K M hi F mk an hm_2
    refine aw_iload_n d_Si_drawMasks_2 rfl rfl ?_
    refine aw_aload_n d_Si_drawMasks_3 rfl rfl ?_
    refine ax_getIe (x := 7) d_Si_drawMasks_4 fd_Si_56 (k_35 S) (Eq.trans (F.1 35 1 (by omega)) (pc_35_1 SD.2.1)) ?_
    refine aw_icmp_ge (tgt := 95) d_Si_drawMasks_7 (by decide) (fun c_7 => ?_) (fun c_7 => ?_)
    · skip
      exact aw_vret d_Si_drawMasks_95 rfl (hP K M F (fun m a b => mk m a (by omega)) (fun m a b => an m a (by omega)))
    · skip
      refine aw_aload_n d_Si_drawMasks_10 rfl rfl ?_
      refine ax_getR (b := 36) d_Si_drawMasks_11 fd_Si_38 (k_146 S) (r_146_0 S) ?_
      refine ax_getR (b := 37) d_Si_drawMasks_14 fd_Si_91 (k_36 S) (r_36_0 S) ?_
      refine aw_aload_n d_Si_drawMasks_17 rfl rfl ?_
      refine ax_getR (b := 164) d_Si_drawMasks_18 fd_Si_28 (k_146 S) (r_146_3 S) ?_
      refine aw_iconst d_Si_drawMasks_21 ⟨by decide, by decide⟩ ?_
      refine aw_iload_n d_Si_drawMasks_22 rfl rfl ?_
      refine aw_iload_n d_Si_drawMasks_23 rfl rfl ?_
      refine ax_iadd d_Si_drawMasks_24 ⟨(by omega), (by omega)⟩ ?_
      refine ax_Vr (st := []) (as := [vr 164, vi 0, vi (nn + i)]) (b := 37) d_Si_drawMasks_25 cs_Si_drawMasks_25 (k_37 S) (c_Sa_takeNumbered S (SD.fc F (by intro a x; omega)).1 ⟨k_164 S, r_164_0 S, k_165 S, by decide, by decide, by decide⟩ ⟨by decide, by decide⟩ (by rw [F.1 164 1 (by omega), n_165 S]; omega) (by omega)) rfl rfl rfl (fun u_25 q_25 => ?_)
      obtain ⟨I1, L1⟩ := u_25
      obtain ⟨F1, e1⟩ := q_25
      dsimp only at F1 e1
      show AW l G M_Si_drawMasks P 28 [(3, vi i), (2, vi nn), (1, vr 35), (0, vr 146)] [] (sD h I1 L1)
      rw [show (fun k => byAt K 164 165 (0 + k)) = (fun k => byAt I 164 165 (0 + k)) from funext (fun k => byAt_fc F (by omega) (by omega))] at e1
      refine aw_aload_n d_Si_drawMasks_28 rfl rfl ?_
      refine ax_getR (b := 36) d_Si_drawMasks_29 fd_Si_38 (k_146 S) (r_146_0 S) ?_
      refine ax_getR (b := 37) d_Si_drawMasks_32 fd_Si_91 (k_36 S) (r_36_0 S) ?_
      refine aw_aload_n d_Si_drawMasks_35 rfl rfl ?_
      refine aw_aload_n d_Si_drawMasks_36 rfl rfl ?_
      refine ax_getR (b := 36) d_Si_drawMasks_37 fd_Si_38 (k_146 S) (r_146_0 S) ?_
      refine ax_getR (b := 141) d_Si_drawMasks_40 fd_Si_168 (k_36 S) (r_36_12 S) ?_
      refine aw_aload_n d_Si_drawMasks_43 rfl rfl ?_
      refine ax_getR (b := 156) d_Si_drawMasks_44 fd_Si_20 (k_146 S) (r_146_2 S) ?_
      refine aw_iload_n d_Si_drawMasks_47 rfl rfl ?_
      refine ax_aald (b := 157 + i.toNat) d_Si_drawMasks_48 ⟨by rw [(k_156 S)]; decide, by rw [(k_156 S)]; decide⟩ (by omega) (by rw [n_156 S]; omega) (g_156 S (by omega) (by omega)) ?_
      refine ax_Vr (st := []) (as := [vr 35, vr 141, vr (157 + i.toNat)]) (b := 37) d_Si_drawMasks_49 cs_Si_drawMasks_49 (k_37 S) (c_Sa_mask2 S ((SD.fc F (by intro a x; omega)).fc F1.fc (by intro a x; omega)) ⟨kr_156 S (by omega), by omega, nr_156 S (by omega)⟩ (by omega) (by rw [e1]; exact nmS_ok)) rfl rfl rfl (fun u_49 q_49 => ?_)
      obtain ⟨I2, L2⟩ := u_49
      obtain ⟨F2, e2⟩ := q_49
      dsimp only at F2 e2
      rw [e1] at e2
      have Fa := F1.fc.tr F2 (r := fun a => a = 38 ∨ a = 141 ∨ a = 142 ∨ a = 157 + i.toNat) (by intro a x; omega)
      have Fb : FC (fun a => a = 38 ∨ a = 141 ∨ a = 142 ∨ 157 ≤ a ∧ a ≤ 163 ∨ 119 ≤ a ∧ a ≤ 125) I L I2 L2 := F.tr Fa (by intro a x; omega)
      show AW l G M_Si_drawMasks P 52 [(3, vi i), (2, vi nn), (1, vr 35), (0, vr 146)] [] (sD h I2 L2)
      refine aw_aload_n d_Si_drawMasks_52 rfl rfl ?_
      refine ax_getR (b := 156) d_Si_drawMasks_53 fd_Si_20 (k_146 S) (r_146_2 S) ?_
      refine aw_iload_n d_Si_drawMasks_56 rfl rfl ?_
      refine ax_aald (b := 157 + i.toNat) d_Si_drawMasks_57 ⟨by rw [(k_156 S)]; decide, by rw [(k_156 S)]; decide⟩ (by omega) (by rw [n_156 S]; omega) (g_156 S (by omega) (by omega)) ?_
      refine aw_aload_n d_Si_drawMasks_58 rfl rfl ?_
      refine ax_getR (b := 36) d_Si_drawMasks_59 fd_Si_38 (k_146 S) (r_146_0 S) ?_
      refine ax_getR (b := 118) d_Si_drawMasks_62 fd_Si_175 (k_36 S) (r_36_6 S) ?_
      refine aw_iload_n d_Si_drawMasks_65 rfl rfl ?_
      refine ax_aald (b := 119 + i.toNat) d_Si_drawMasks_66 ⟨by rw [(k_118 S)]; decide, by rw [(k_118 S)]; decide⟩ (by omega) (by rw [n_118 S]; omega) (g_118 S (by omega) (by omega)) ?_
      refine ax_S (st := []) (as := [vr (157 + i.toNat), vr (119 + i.toNat)]) (v := none) (h' := sD h (rowTo I2 (119 + i.toNat) 256 (I2 (157 + i.toNat))) L2) d_Si_drawMasks_67 cs_Si_drawMasks_67 (c_Ri_copyRow ⟨kr_156 S (by omega), by omega, nr_156 S (by omega)⟩ ⟨kr_118 S (by omega), by omega, nr_118 S (by omega)⟩) rfl rfl rfl ?_
      show AW l G M_Si_drawMasks P 70 [(3, vi i), (2, vi nn), (1, vr 35), (0, vr 146)] [] (sD h (rowTo I2 (119 + i.toNat) 256 (I2 (157 + i.toNat))) L2)
      refine aw_aload_n d_Si_drawMasks_70 rfl rfl ?_
      refine ax_getR (b := 36) d_Si_drawMasks_71 fd_Si_38 (k_146 S) (r_146_0 S) ?_
      refine ax_getR (b := 42) d_Si_drawMasks_74 fd_Si_134 (k_36 S) (r_36_2 S) ?_
      refine aw_aload_n d_Si_drawMasks_77 rfl rfl ?_
      refine ax_getR (b := 36) d_Si_drawMasks_78 fd_Si_38 (k_146 S) (r_146_0 S) ?_
      refine ax_getR (b := 118) d_Si_drawMasks_81 fd_Si_175 (k_36 S) (r_36_6 S) ?_
      refine aw_iload_n d_Si_drawMasks_84 rfl rfl ?_
      refine ax_aald (b := 119 + i.toNat) d_Si_drawMasks_85 ⟨by rw [(k_118 S)]; decide, by rw [(k_118 S)]; decide⟩ (by omega) (by rw [n_118 S]; omega) (g_118 S (by omega) (by omega)) ?_
      refine ax_V (st := []) (as := [vr (119 + i.toNat)]) (b := 42) (v := none) (h' := sD h (cset (rowTo I2 (119 + i.toNat) 256 (I2 (157 + i.toNat))) (119 + i.toNat) (fwd ((rowTo I2 (119 + i.toNat) 256 (I2 (157 + i.toNat))) 43) ((rowTo I2 (119 + i.toNat) 256 (I2 (157 + i.toNat))) (119 + i.toNat)))) L2) d_Si_drawMasks_86 cs_Si_drawMasks_86 (k_42 S) (c_Ri_forward S ⟨kr_118 S (by omega), by omega, nr_118 S (by omega)⟩ (by omega) (fun j x y => by rw [rowTo_in x y, e2 j x y]; omega) (fun j x y => by rw [rowTo_ne (by omega)]; exact (SD.fc Fb (by intro a x; omega)).R j x y)) rfl rfl rfl ?_
      show AW l G M_Si_drawMasks P 89 [(3, vi i), (2, vi nn), (1, vr 35), (0, vr 146)] [] (sD h (cset (rowTo I2 (119 + i.toNat) 256 (I2 (157 + i.toNat))) (119 + i.toNat) (fwd ((rowTo I2 (119 + i.toNat) 256 (I2 (157 + i.toNat))) 43) ((rowTo I2 (119 + i.toNat) 256 (I2 (157 + i.toNat))) (119 + i.toNat)))) L2)
      refine ax_iinc (lv' := [(3, vi (i + 1)), (2, vi nn), (1, vr 35), (0, vr 146)]) d_Si_drawMasks_89 rfl (by decide) ⟨(by omega), (by omega)⟩ rfl ?_
      refine aw_goto (tgt := 2) d_Si_drawMasks_92 (by decide) ?_
      exact ih_2 _ (by omega) (i + 1) (cset (rowTo I2 (119 + i.toNat) 256 (I2 (157 + i.toNat))) (119 + i.toNat) (fwd ((rowTo I2 (119 + i.toNat) 256 (I2 (157 + i.toNat))) 43) ((rowTo I2 (119 + i.toNat) 256 (I2 (157 + i.toNat))) (119 + i.toNat)))) L2 (by omega) ((Fb.tr (FC.row (p := fun a => a = 38 ∨ a = 141 ∨ a = 142 ∨ 157 ≤ a ∧ a ≤ 163 ∨ 119 ≤ a ∧ a ≤ 125) (by omega)) (fun a x => ⟨x, x⟩)).tr (FC.cs (p := fun a => a = 38 ∨ a = 141 ∨ a = 142 ∨ 157 ≤ a ∧ a ≤ 163 ∨ 119 ≤ a ∧ a ≤ 125) (by omega)) (fun a x => ⟨x, x⟩)) (fun m a b j x y => by by_cases z : m = i; exact (by rw [z, cset_ne (by omega), rowTo_ne (by omega)]; exact e2 j x y); exact (by rw [cset_ne (by omega), rowTo_ne (by omega), Fa.1 _ _ (by omega)]; exact mk m a (by omega) j x y)) (fun m a b j x y => by by_cases z : m = i; exact (by rw [z, cset_at, show (rowTo I2 (119 + i.toNat) 256 (I2 (157 + i.toNat))) 43 = rt from by rw [← (SD.fc Fb (by intro a x; omega)).2.2]; funext v; rw [rowTo_ne (by omega)]]; exact fwd_eq (fun v u t => by rw [rowTo_in u t]; exact e2 v u t) j x y); exact (by rw [cset_ne (by omega), rowTo_ne (by omega), Fa.1 _ _ (by omega)]; exact an m a (by omega) j x y)) rfl
  skip
  refine aw_sub (lv' := [(3, vi 0), (2, vi nn), (1, vr 35), (0, vr 146)]) (by simp) ?_
  exact lp_2 _ 0 I L (by omega) (FC.rfl') (fun m a b => by omega) (fun m a b => by omega) rfl
set_option maxHeartbeats 800000 in
set_option maxRecDepth 100000 in
theorem c_Si_commit2 {l : Launch} {G : a_G} {h : Hp} {I L : Nat → Int → Int} {A V : Int → Int → Int} (S : Shp h) (SD : Std I L) (hA : ∀ m, 0 ≤ m → m < 56 → eqQ (I (45 + m.toNat)) (A m)) (qA : ∀ m, 0 ≤ m → m < 56 → inQ (A m)) (hV : ∀ m, 0 ≤ m → m < 7 → eqQ (I (119 + m.toNat)) (V m)) (qV : ∀ m, 0 ≤ m → m < 7 → inQ (V m)) (hd : I 137 1 ≤ 64) : AW l G M_Si_commit (Ret (fun _ : (Nat → Int → Int) × (Nat → Int → Int) => none) (fun u => sD h u.1 u.2) (fun u => FC (fun a => 127 ≤ a ∧ a ≤ 134 ∨ a = 136 ∨ a = 141 ∨ a = 142 ∨ a = 38 ∨ a = 139 ∨ a = 140) I L u.1 u.2 ∧ (∀ m, 0 ≤ m → m < 8 → eqQ (u.1 (127 + m.toNat)) ((imF A V 7 7) m)) ∧ HB u.1 139 140 64 (spOut (hhS (fun k => byAt I 137 138 (0 + k)) (hiB 261888 4 128 (imF A V 7 7)) 1024)))) 0 (a_ar 0 [vr 146, vr 35]) [] (sD h I L) := by
  suffices key : ∀ P : a_R → Hp → Prop, (∀ I2 L2, FC (fun a => 127 ≤ a ∧ a ≤ 134 ∨ a = 136 ∨ a = 141 ∨ a = 142 ∨ a = 38 ∨ a = 139 ∨ a = 140) I L I2 L2 → (∀ m, 0 ≤ m → m < 8 → eqQ (I2 (127 + m.toNat)) ((imF A V 7 7) m)) → HB I2 139 140 64 (spOut (hhS (fun k => byAt I 137 138 (0 + k)) (hiB 261888 4 128 (imF A V 7 7)) 1024)) → P (.inl none) (sD h I2 L2)) → AW l G M_Si_commit P 0 [(0, vr 146), (1, vr 35)] [] (sD h I L) from key _ (fun I2 L2 q1 q2 q3 => ⟨(I2, L2), rfl, rfl, q1, q2, q3⟩)
  intro P hP
  refine aw_aload_n d_Si_commit_0 rfl rfl ?_
  refine ax_getR (b := 36) d_Si_commit_1 fd_Si_38 (k_146 S) (r_146_0 S) ?_
  refine aw_aload_n d_Si_commit_4 rfl rfl ?_
  refine ax_Vr (st := []) (as := [vr 35]) (b := 36) d_Si_commit_5 cs_Si_commit_5 (k_36 S) (c_Be_multiplyMatrix2 S SD (fun m hm j x y => by have z := hA m (by omega) (by omega) j x y; rw [Int.toNat_natCast] at z; rw [z]; exact qA m (by omega) (by omega) j x y) (fun m hm j x y => by have z := hV m (by omega) (by omega) j x y; rw [Int.toNat_natCast] at z; rw [z]; exact qV m (by omega) (by omega) j x y)) rfl rfl rfl (fun u_5 q_5 => ?_)
  obtain ⟨q1, q2⟩ := q_5
  have F2 : FC (fun a => 127 ≤ a ∧ a ≤ 134 ∨ a = 136 ∨ a = 141 ∨ a = 142) I L u_5 L := q1.mono (by intro a x; omega)
  show AW l G M_Si_commit P 8 [(0, vr 146), (1, vr 35)] [] (sD h u_5 L)
  refine aw_aload_n d_Si_commit_8 rfl rfl ?_
  refine ax_getR (b := 36) d_Si_commit_9 fd_Si_38 (k_146 S) (r_146_0 S) ?_
  refine ax_getR (b := 141) d_Si_commit_12 fd_Si_168 (k_36 S) (r_36_12 S) ?_
  refine ax_V (st := []) (as := []) (b := 141) (v := none) (h' := sD h (a_up u_5 141 1 0) L) d_Si_commit_15 cs_Si_commit_15 (k_141 S) (c_By_clear ⟨k_141 S, r_141_0 S, k_142 S, by decide, by decide, by decide⟩) rfl rfl rfl ?_
  show AW l G M_Si_commit P 18 [(0, vr 146), (1, vr 35)] [] (sD h (a_up u_5 141 1 0) L)
  refine aw_iconst d_Si_commit_18 ⟨by decide, by decide⟩ ?_
  refine aw_istore_n (lv' := [(2, vi 0), (0, vr 146), (1, vr 35)]) d_Si_commit_19 rfl (by decide) rfl ?_
  have lp_20 : ∀ (n_ : Nat) (i : Int) (K : Nat → Int → Int), (0 ≤ i ∧ i ≤ 8) → (FC (fun a => 127 ≤ a ∧ a ≤ 134 ∨ a = 136 ∨ a = 141 ∨ a = 142) I L K L) → (∀ m, 0 ≤ m → i ≤ m → m < 8 → eqQ (K (127 + m.toNat)) (fun c => pS A V (m * 7) c 7 % 8380417)) → (∀ m, 0 ≤ m → m < i → eqQ (K (127 + m.toNat)) ((imF A V 7 7) m)) → (HB K 141 142 (128 * i) (hiB 261888 4 128 (imF A V 7 7))) → ((8 - i).toNat) = n_ → AW l G M_Si_commit P 20 [(2, vi i), (1, vr 35), (0, vr 146)] [] (sD h K L) := by
    intro n_
    induction n_ using Nat.strongRecOn with
    | _ n_ ih_20 =>
    intro i K hi F un dn H hm_20
    refine aw_iload_n d_Si_commit_20 rfl rfl ?_
    refine aw_aload_n d_Si_commit_21 rfl rfl ?_
    refine ax_getIe (x := 8) d_Si_commit_22 fd_Si_120 (k_35 S) (Eq.trans (F.1 35 0 (by omega)) (pc_35_0 SD.2.1)) ?_
    refine aw_icmp_ge (tgt := 113) d_Si_commit_25 (by decide) (fun c_25 => ?_) (fun c_25 => ?_)
    · skip
      refine aw_aload_n d_Si_commit_113 rfl rfl ?_
      refine ax_getR (b := 36) d_Si_commit_114 fd_Si_38 (k_146 S) (r_146_0 S) ?_
      refine aw_aload_n d_Si_commit_117 rfl rfl ?_
      refine aw_aload_n d_Si_commit_118 rfl rfl ?_
      refine ax_getR (b := 36) d_Si_commit_119 fd_Si_38 (k_146 S) (r_146_0 S) ?_
      refine ax_getR (b := 139) d_Si_commit_122 fd_Si_207 (k_36 S) (r_36_11 S) ?_
      refine ax_Vr (st := []) (as := [vr 35, vr 139]) (b := 36) d_Si_commit_125 cs_Si_commit_125 (k_36 S) (c_Be_hashHighs2 S (SD.fc F (by intro a x; omega)) ⟨k_139 S, r_139_0 S, k_140 S, by decide, by decide, by decide⟩ (by decide) (by rw [n_140 S, H.1, F.1 137 1 (by omega)]; omega)) rfl rfl rfl (fun u_125 q_125 => ?_)
      obtain ⟨I9, L9⟩ := u_125
      obtain ⟨F9, a9, b9⟩ := q_125
      dsimp only at F9 a9 b9
      rw [H.1, show 128 * i = 1024 by omega, hhS_congr (gd' := fun k => byAt I 137 138 (0 + k)) (gp' := (hiB 261888 4 128 (imF A V 7 7))) (fun k hk => by rw [byAt_fc F (by omega) (by omega)]) (fun k hk => by rw [Int.zero_add, H.2 k (by omega) (by omega)])] at b9
      show AW l G M_Si_commit P 128 [(2, vi i), (1, vr 35), (0, vr 146)] [] (sD h I9 L9)
      exact aw_vret d_Si_commit_128 rfl (hP I9 L9 (F.tr F9 (by intro a x; omega)) (fun m a b j x y => (F9.1 _ j (by omega)).trans (dn m a (by omega) j x y)) ⟨a9, b9⟩)
    · skip
      refine aw_aload_n d_Si_commit_28 rfl rfl ?_
      refine ax_getR (b := 36) d_Si_commit_29 fd_Si_38 (k_146 S) (r_146_0 S) ?_
      refine ax_getR (b := 42) d_Si_commit_32 fd_Si_134 (k_36 S) (r_36_2 S) ?_
      refine aw_aload_n d_Si_commit_35 rfl rfl ?_
      refine ax_getR (b := 36) d_Si_commit_36 fd_Si_38 (k_146 S) (r_146_0 S) ?_
      refine ax_getR (b := 126) d_Si_commit_39 fd_Si_188 (k_36 S) (r_36_7 S) ?_
      refine aw_iload_n d_Si_commit_42 rfl rfl ?_
      refine ax_aald (b := 127 + i.toNat) d_Si_commit_43 ⟨by rw [(k_126 S)]; decide, by rw [(k_126 S)]; decide⟩ (by omega) (by rw [n_126 S]; omega) (g_126 S (by omega) (by omega)) ?_
      refine ax_V (st := []) (as := [vr (127 + i.toNat)]) (b := 42) (v := none) (h' := sD h (cset K (127 + i.toNat) (bck (K 43) (K (127 + i.toNat)))) L) d_Si_commit_44 cs_Si_commit_44 (k_42 S) (c_Ri_back S ⟨kr_126 S (by omega), by omega, nr_126 S (by omega)⟩ (by omega) (fun j x y => by rw [un i hi.1 (Int.le_refl _) (by omega) j x y]; show 0 ≤ _ % 8380417 ∧ _ % 8380417 < 8380417; exact ⟨Int.emod_nonneg _ (by decide), Int.emod_lt_of_pos _ (by decide)⟩) (SD.fc F (by intro a x; omega)).R) rfl rfl rfl ?_
      show AW l G M_Si_commit P 47 [(2, vi i), (1, vr 35), (0, vr 146)] [] (sD h (cset K (127 + i.toNat) (bck (K 43) (K (127 + i.toNat)))) L)
      have Fj : FC (fun a => 127 ≤ a ∧ a ≤ 134 ∨ a = 136 ∨ a = 141 ∨ a = 142) I L (cset K (127 + i.toNat) (bck (K 43) (K (127 + i.toNat)))) L := F.tr (FC.cs (p := fun a => 127 ≤ a ∧ a ≤ 134 ∨ a = 136 ∨ a = 141 ∨ a = 142) (by omega)) (fun a x => ⟨x, x⟩)
      have wi : eqQ ((cset K (127 + i.toNat) (bck (K 43) (K (127 + i.toNat)))) (127 + i.toNat)) ((imF A V 7 7) i) := fun j x y => by rw [cset_at, (SD.fc F (by intro a x; omega)).2.2]; exact bck_eq (un i hi.1 (Int.le_refl _) (by omega)) j x y
      have gp : (cset K (127 + i.toNat) (bck (K 43) (K (127 + i.toNat)))) 35 5 = 261888 := (Fj.1 35 5 (by omega)).trans (pc_35_5 SD.2.1)
      refine aw_iconst d_Si_commit_47 ⟨by decide, by decide⟩ ?_
      refine aw_istore_n (lv' := [(3, vi 0), (2, vi i), (1, vr 35), (0, vr 146)]) d_Si_commit_48 rfl (by decide) rfl ?_
      have lp_49 : ∀ (n_ : Nat) (c : Int), (0 ≤ c ∧ c ≤ 256) → ((256 - c).toNat) = n_ → AW l G M_Si_commit P 49 [(3, vi c), (2, vi i), (1, vr 35), (0, vr 146)] [] (sD h (rowTo (cset K (127 + i.toNat) (bck (K 43) (K (127 + i.toNat)))) 136 c (fun x => dHigh 261888 ((cset K (127 + i.toNat) (bck (K 43) (K (127 + i.toNat)))) (127 + i.toNat) x))) L) := by
        intro n_
        induction n_ using Nat.strongRecOn with
        | _ n_ ih_49 =>
        intro c hc hm_49
        refine aw_iload_n d_Si_commit_49 rfl rfl ?_
        refine aw_sipush d_Si_commit_50 ⟨by decide, by decide⟩ (by decide) ?_
        refine aw_icmp_ge (tgt := 86) d_Si_commit_53 (by decide) (fun c_53 => ?_) (fun c_53 => ?_)
        · skip
          rw [show c = 256 by omega]
          refine aw_aload_n d_Si_commit_86 rfl rfl ?_
          refine ax_getR (b := 36) d_Si_commit_87 fd_Si_38 (k_146 S) (r_146_0 S) ?_
          refine ax_getR (b := 141) d_Si_commit_90 fd_Si_168 (k_36 S) (r_36_12 S) ?_
          refine aw_aload_n d_Si_commit_93 rfl rfl ?_
          refine ax_getR (b := 36) d_Si_commit_94 fd_Si_38 (k_146 S) (r_146_0 S) ?_
          refine ax_getR (b := 136) d_Si_commit_97 fd_Si_194 (k_36 S) (r_36_9 S) ?_
          refine aw_aload_n d_Si_commit_100 rfl rfl ?_
          refine ax_getIe (x := 4) d_Si_commit_101 fd_Si_201 (k_35 S) (Eq.trans (rowTo_ne (by omega)) (Eq.trans (Fj.1 35 12 (by omega)) (pc_35_12 SD.2.1))) ?_
          refine ax_V (st := []) (as := [vr 136, vi 4]) (b := 141) (v := none) (h' := sD h (byPut (rowTo (cset K (127 + i.toNat) (bck (K 43) (K (127 + i.toNat)))) 136 256 (fun x => dHigh 261888 ((cset K (127 + i.toNat) (bck (K 43) (K (127 + i.toNat)))) (127 + i.toNat) x))) 141 142 (32 * 4) (gB ((rowTo (cset K (127 + i.toNat) (bck (K 43) (K (127 + i.toNat)))) 136 256 (fun x => dHigh 261888 ((cset K (127 + i.toNat) (bck (K 43) (K (127 + i.toNat)))) (127 + i.toNat) x))) 136) 4)) L) d_Si_commit_104 cs_Si_commit_104 (k_141 S) (by have z := c_By_addBits (l := l) (G := G) (L := L) (I := rowTo (cset K (127 + i.toNat) (bck (K 43) (K (127 + i.toNat)))) 136 256 (fun x => dHigh 261888 ((cset K (127 + i.toNat) (bck (K 43) (K (127 + i.toNat)))) (127 + i.toNat) x))) (w := 4) ⟨k_141 S, r_141_0 S, k_142 S, by decide, by decide, by decide⟩ ⟨k_136 S, by decide, n_136 S, by decide, by decide⟩ (by decide) (fun j x y => by rw [rowTo_in x y, wi j x y]; have := dHi16 (imF_in (A := A) (V := V) (l := 7) (n := 7) (m := i) j x y); omega) (by rw [rowTo_ne (by decide), cset_ne (by omega), H.1, n_142 S]; omega); exact z) rfl rfl rfl ?_
          show AW l G M_Si_commit P 107 [(3, vi 256), (2, vi i), (1, vr 35), (0, vr 146)] [] (sD h (byPut (rowTo (cset K (127 + i.toNat) (bck (K 43) (K (127 + i.toNat)))) 136 256 (fun x => dHigh 261888 ((cset K (127 + i.toNat) (bck (K 43) (K (127 + i.toNat)))) (127 + i.toNat) x))) 141 142 (32 * 4) (gB ((rowTo (cset K (127 + i.toNat) (bck (K 43) (K (127 + i.toNat)))) 136 256 (fun x => dHigh 261888 ((cset K (127 + i.toNat) (bck (K 43) (K (127 + i.toNat)))) (127 + i.toNat) x))) 136) 4)) L)
          refine ax_iinc (lv' := [(2, vi (i + 1)), (3, vi 256), (1, vr 35), (0, vr 146)]) d_Si_commit_107 rfl (by decide) ⟨(by omega), (by omega)⟩ rfl ?_
          refine aw_goto (tgt := 20) d_Si_commit_110 (by decide) ?_
          refine aw_sub (lv' := [(2, vi (i + 1)), (1, vr 35), (0, vr 146)]) (by simp) ?_
          exact ih_20 _ (by omega) (i + 1) (byPut (rowTo (cset K (127 + i.toNat) (bck (K 43) (K (127 + i.toNat)))) 136 256 (fun x => dHigh 261888 ((cset K (127 + i.toNat) (bck (K 43) (K (127 + i.toNat)))) (127 + i.toNat) x))) 141 142 (32 * 4) (gB ((rowTo (cset K (127 + i.toNat) (bck (K 43) (K (127 + i.toNat)))) 136 256 (fun x => dHigh 261888 ((cset K (127 + i.toNat) (bck (K 43) (K (127 + i.toNat)))) (127 + i.toNat) x))) 136) 4)) (by omega) ((Fj.tr (FC.row (p := fun a => 127 ≤ a ∧ a ≤ 134 ∨ a = 136 ∨ a = 141 ∨ a = 142) (by omega)) (fun a x => ⟨x, x⟩)).tr (FC.put (p := fun a => 127 ≤ a ∧ a ≤ 134 ∨ a = 136 ∨ a = 141 ∨ a = 142) (by omega) (by omega)) (fun a x => ⟨x, x⟩)) (fun m a b c j x y => by rw [byPut_ne (by omega) (by omega), rowTo_ne (by omega), cset_ne (by omega)]; exact un m a (by omega) c j x y) (fun m a b j x y => by by_cases z : m = i; exact (by rw [z, byPut_ne (by omega) (by omega), rowTo_ne (by omega)]; exact wi j x y); exact (by rw [byPut_ne (by omega) (by omega), rowTo_ne (by omega), cset_ne (by omega)]; exact dn m a (by omega) j x y)) (by rw [show 128 * (i + 1) = 128 * i + 32 * 4 by omega]; exact ((H.fc (L := L) (L' := L) (FC.cs (p := fun a => a = 127 + i.toNat) rfl) (by omega) (by omega)).fc (L := L) (L' := L) (FC.row (p := fun a => a = 136) rfl) (by decide) (by decide)).put (by decide) (by omega) (by decide) (fun z x y => by rw [gB_m]; show _ = gB (fun j => dHigh 261888 ((imF A V 7 7) ((128 * i + z) / 128) j)) 4 ((128 * i + z) % 128); rw [show (128 * i + z) / 128 = i by omega, show (128 * i + z) % 128 = z by omega, gB_congr (G := fun j => dHigh 261888 ((imF A V 7 7) i j)) (fun j u v => by rw [rowTo_in u v, wi j u v])])) rfl
        · skip
          refine aw_aload_n d_Si_commit_56 rfl rfl ?_
          refine ax_getR (b := 36) d_Si_commit_57 fd_Si_38 (k_146 S) (r_146_0 S) ?_
          refine ax_getR (b := 136) d_Si_commit_60 fd_Si_194 (k_36 S) (r_36_9 S) ?_
          refine aw_iload_n d_Si_commit_63 rfl rfl ?_
          refine aw_aload_n d_Si_commit_64 rfl rfl ?_
          refine aw_aload_n d_Si_commit_65 rfl rfl ?_
          refine ax_getR (b := 36) d_Si_commit_66 fd_Si_38 (k_146 S) (r_146_0 S) ?_
          refine ax_getR (b := 126) d_Si_commit_69 fd_Si_188 (k_36 S) (r_36_7 S) ?_
          refine aw_iload_n d_Si_commit_72 rfl rfl ?_
          refine ax_aald (b := 127 + i.toNat) d_Si_commit_73 ⟨by rw [(k_126 S)]; decide, by rw [(k_126 S)]; decide⟩ (by omega) (by rw [n_126 S]; omega) (g_126 S (by omega) (by omega)) ?_
          refine aw_iload_n d_Si_commit_74 rfl rfl ?_
          refine ax_ialde (x := (cset K (127 + i.toNat) (bck (K 43) (K (127 + i.toNat)))) (127 + i.toNat) c) d_Si_commit_75 (kr_126 S (by omega)) (by omega) (by rw [nr_126 S (by omega)]; omega) (Eq.trans (rowTo_ne (by omega)) (rfl)) ?_
          refine ax_V (st := [vi c, vr 136]) (as := [vi ((cset K (127 + i.toNat) (bck (K 43) (K (127 + i.toNat)))) (127 + i.toNat) c)]) (b := 35) (v := some (vi (dHigh 261888 ((cset K (127 + i.toNat) (bck (K 43) (K (127 + i.toNat)))) (127 + i.toNat) c)))) (h' := sD h (rowTo (cset K (127 + i.toNat) (bck (K 43) (K (127 + i.toNat)))) 136 c (fun x => dHigh 261888 ((cset K (127 + i.toNat) (bck (K 43) (K (127 + i.toNat)))) (127 + i.toNat) x))) L) d_Si_commit_76 cs_Si_commit_76 (k_35 S) (by have z := c_Pa_high (l := l) (G := G) (L := L) (I := rowTo (cset K (127 + i.toNat) (bck (K 43) (K (127 + i.toNat)))) 136 c (fun x => dHigh 261888 ((cset K (127 + i.toNat) (bck (K 43) (K (127 + i.toNat)))) (127 + i.toNat) x))) (p := 35) (r := (cset K (127 + i.toNat) (bck (K 43) (K (127 + i.toNat)))) (127 + i.toNat) c) (k_35 S) (by rw [rowTo_ne (by omega), gp]; decide) (by rw [wi c hc.1 (by omega)]; exact imF_in c hc.1 (by omega)); rw [rowTo_ne (by omega), gp] at z; exact z) rfl rfl rfl ?_
          show AW l G M_Si_commit P 79 [(3, vi c), (2, vi i), (1, vr 35), (0, vr 146)] [vi (dHigh 261888 ((cset K (127 + i.toNat) (bck (K 43) (K (127 + i.toNat)))) (127 + i.toNat) c)), vi c, vr 136] (sD h (rowTo (cset K (127 + i.toNat) (bck (K 43) (K (127 + i.toNat)))) 136 c (fun x => dHigh 261888 ((cset K (127 + i.toNat) (bck (K 43) (K (127 + i.toNat)))) (127 + i.toNat) x))) L)
          refine ax_iast d_Si_commit_79 (k_136 S) (by decide) (by omega) (by rw [n_136 S]; omega) ?_
          rw [rowTo_1 (by omega) rfl]
          refine ax_iinc (lv' := [(3, vi (c + 1)), (2, vi i), (1, vr 35), (0, vr 146)]) d_Si_commit_80 rfl (by decide) ⟨(by omega), (by omega)⟩ rfl ?_
          refine aw_goto (tgt := 49) d_Si_commit_83 (by decide) ?_
          exact ih_49 _ (by omega) (c + 1) (by omega) rfl
      refine ax_hp (h' := sD h (rowTo (cset K (127 + i.toNat) (bck (K 43) (K (127 + i.toNat)))) 136 0 (fun x => dHigh 261888 ((cset K (127 + i.toNat) (bck (K 43) (K (127 + i.toNat)))) (127 + i.toNat) x))) L) (by rw [rowTo_0]) ?_
      exact lp_49 _ 0 (by omega) rfl
  skip
  refine aw_sub (lv' := [(2, vi 0), (1, vr 35), (0, vr 146)]) (by simp) ?_
  exact lp_20 _ 0 (a_up u_5 141 1 0) (by omega) (F2.tr (FC.up (p := fun a => 127 ≤ a ∧ a ≤ 134 ∨ a = 136 ∨ a = 141 ∨ a = 142) (by omega)) (fun a x => ⟨x, x⟩)) (fun m a b c j x y => by rw [a_up_ne (Or.inl (by omega)), q2 m a c j x y, mS_pS (A := A) (V := V) 7 (fun n hn => hA _ (by omega) (by omega) j x y) (fun n hn => by have z := hV n (by omega) (by omega) j x y; rwa [Int.toNat_natCast] at z)]) (fun m a b => by omega) (by rw [Int.mul_zero]; exact HB.zero) rfl
