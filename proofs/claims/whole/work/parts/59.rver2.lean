/-! the reference's dsaVerify: first half -/
set_option maxHeartbeats 4000000 in
set_option maxRecDepth 100000 in
theorem vC00 {l : Launch} {G : a_G} {P : a_R → Hp → Prop} {h : Hp} {I L K M : Nat → Int → Int} (S : Shp h) (R0 : fR0 qN I L K M) (D : RD K M 0) (rg : ∀ j, -128 ≤ I 183 j ∧ I 183 j ≤ 127) (b1 : (0 : Int) ≠ 0 ∨ I 186 4 ≤ 255) (b2 : I 186 1 = 32 + 320 * pK 0) (rb : RB I) (pre : vfPre 0 (rgR I) (I 186 5)) (hZ : ∀ m, 0 ≤ m → m < 4 → eqQ (K (205 + m.toNat)) ((vfZs 0 (rgR I)) m)) (tb : ∀ m, 0 ≤ m → m < 4 → tbl K (rgR I) 2336 80 m) (hP : ∀ r_ h2_, RsR h I L (c4 ((0 ≤ (0 : Int) ∧ (0 : Int) < 3) ∧ ((0 : Int) = 0 ∨ (0 : Int) = -1)) ((0 : Int) ≠ 0 ∨ I 186 4 ≤ 255) (I 186 1 = 32 + 320 * pK (0 : Int)) (vfPre (0 : Int) (rgR I) (I 186 5) → vfOk (0 : Int) (rpR I) (rgR I))) (fun a => a = 184 ∨ a = 186) (fun v I' L' => (¬ vfPre (0 : Int) (rgR I) (I 186 5) ∧ v = 0 ∧ fR0 qN I L I' L') ∨ (vfPre (0 : Int) (rgR I) (I 186 5) ∧ ((∀ j, j ≠ 6 → I' 186 j = I 186 j) ∧ I' 186 6 = pC (0 : Int)) ∧ (HR I' 184 0 (pC (0 : Int)) (vfC (0 : Int) (rpR I) (rgR I) (muW I (0 : Int))) ∧ rng (I 184) (I' 184)) ∧ (v = 0 ∨ v = 1) ∧ (v = 1 ↔ ∀ j, 0 ≤ j → j < pC (0 : Int) → vfC (0 : Int) (rpR I) (rgR I) (muW I (0 : Int)) j = rgR I j))) r_ h2_ → P r_ h2_) : AW l G M_Mo_dsaVerify P 265 [(2, vi 0), (0, vr 175)] [] (sD h K M) := by
  refine aw_aload_n d_Mo_dsaVerify_265 rfl rfl ?_
  refine aw_bipush d_Mo_dsaVerify_266 ⟨by decide, by decide⟩ (by decide) ?_
  have RS := D.1
  refine ax_Vr (st := []) (as := [vi 12]) (b := 175) d_Mo_dsaVerify_268 cs_Mo_dsaVerify_268 (k_175 S) (c_Mo_begin12 S) rfl rfl rfl (fun u_268 q_268 => ?_)
  obtain ⟨I1, L1⟩ := u_268
  obtain ⟨F1, e1, k1⟩ := q_268
  dsimp only at F1 e1 k1
  show AW l G M_Mo_dsaVerify P 271 [(2, vi 0), (0, vr 175)] [] (sD h I1 L1)
  refine aw_aload_n d_Mo_dsaVerify_271 rfl rfl ?_
  refine aw_aload_n d_Mo_dsaVerify_272 rfl rfl ?_
  refine ax_getR (b := 177) d_Mo_dsaVerify_273 fd_Mo_15 (k_175 S) (r_175_1 S) ?_
  refine aw_iconst d_Mo_dsaVerify_276 ⟨by decide, by decide⟩ ?_
  refine ax_aald (b := 179) d_Mo_dsaVerify_277 ⟨by rw [(k_177 S)]; decide, by rw [(k_177 S)]; decide⟩ (by omega) (by rw [n_177 S]; omega) (g_177 S (j := 1) (by decide) (by decide)) ?_
  refine aw_iconst d_Mo_dsaVerify_278 ⟨by decide, by decide⟩ ?_
  refine aw_aload_n d_Mo_dsaVerify_279 rfl rfl ?_
  refine ax_getR (b := 186) d_Mo_dsaVerify_280 fd_Mo_18 (k_175 S) (r_175_2 S) ?_
  refine aw_iconst d_Mo_dsaVerify_283 ⟨by decide, by decide⟩ ?_
  refine ax_ialde (x := 1312) d_Mo_dsaVerify_284 (k_186 S) (by omega) (by rw [n_186 S]; omega) (Eq.trans (F1.1 186 1 (Or.inl (by decide))) ((R0.1 186 1 (by omega) (fun z => z)).trans b2)) ?_
  refine ax_Vr (st := []) (as := [vr 179, vi 0, vi 1312]) (b := 175) d_Mo_dsaVerify_285 cs_Mo_dsaVerify_285 (k_175 S) (c_Mo_put3 S (RS.rf F1) (by omega) (by rw [e1]; exact spStart_lt (by decide) (by decide)) ⟨k_179 S, by decide, by decide⟩ (by rw [n_179 S]; decide)) rfl rfl rfl (fun u_285 q_285 => ?_)
  obtain ⟨I2, L2⟩ := u_285
  obtain ⟨F2, e2, k2⟩ := q_285
  dsimp only at F2 e2 k2
  show AW l G M_Mo_dsaVerify P 288 [(2, vi 0), (0, vr 175)] [] (sD h I2 L2)
  have eS : spTurn (spR I2 L2) = blS (fun k => I 179 (0 + k)) (I 186 1) := by rw [e2, e1, show (fun k => I1 179 (0 + k)) = (fun k => I 179 (0 + k)) from funext (fun z => (F1.1 179 _ (Or.inl (by decide))).trans (R0.1 179 _ (by omega) (fun z => z))), show I 186 1 = 1312 from b2]; rfl
  refine aw_aload_n d_Mo_dsaVerify_288 rfl rfl ?_
  refine aw_aload_n d_Mo_dsaVerify_289 rfl rfl ?_
  refine ax_getR (b := 266) d_Mo_dsaVerify_290 fd_Mo_96 (k_175 S) (r_175_42 S) ?_
  refine aw_iconst d_Mo_dsaVerify_293 ⟨by decide, by decide⟩ ?_
  refine aw_bipush d_Mo_dsaVerify_294 ⟨by decide, by decide⟩ (by decide) ?_
  refine ax_Vr (st := []) (as := [vr 266, vi 0, vi 64]) (b := 175) d_Mo_dsaVerify_296 cs_Mo_dsaVerify_296 (k_175 S) (c_Mo_give S (RS.rf (F1.tr F2)) (by omega) (by rw [e2, e1]; exact (spPart_lt (spStart_lt (by decide) (by decide)) _ _).1) ⟨k_266 S, by decide, by decide, by decide⟩ (by rw [n_266 S]; decide)) rfl rfl rfl (fun u_296 q_296 => ?_)
  obtain ⟨I3, L3⟩ := u_296
  obtain ⟨F3, f3, e3, k3⟩ := q_296
  dsimp only at F3 f3 e3 k3
  rw [eS] at F3
  have h3 : HR I3 266 0 64 (spOut (blS (fun k => I 179 (0 + k)) (I 186 1))) := HR.give F3 (by decide)
  have G3 : FR (fun a => a = 266) K M I3 L3 := ((F1.tr F2).fr (p := fun a => a = 266)).tr (FR.give (p := fun a => a = 266) F3 f3 rfl) (fun a x => ⟨x, x⟩)
  have z3 : ∀ a j, (a < 175 ∨ 176 ≤ a ∧ a ≤ 194) → I3 a j = I a j := fun a j x => (G3.1 a j (by omega) (Or.inl (by omega))).trans (R0.1 a j (by omega) (fun z => z))
  have rb3 : RB I3 := ⟨fun s a b => by rw [z3 186 s (by omega)]; exact rb.1 s a b, by rw [G3.1 175 3 (by decide) (Or.inr (by decide)), R0.2.1]; exact rb.2⟩
  have D3 := D.fr G3 (by decide)
  show AW l G M_Mo_dsaVerify P 299 [(2, vi 0), (0, vr 175)] [] (sD h I3 L3)
  refine aw_aload_n d_Mo_dsaVerify_299 rfl rfl ?_
  refine aw_aload_n d_Mo_dsaVerify_300 rfl rfl ?_
  refine ax_getR (b := 266) d_Mo_dsaVerify_301 fd_Mo_96 (k_175 S) (r_175_42 S) ?_
  refine aw_iconst d_Mo_dsaVerify_304 ⟨by decide, by decide⟩ ?_
  refine aw_iload_n d_Mo_dsaVerify_305 rfl rfl ?_
  refine ax_Vr (st := []) (as := [vr 266, vi 0, vi 0]) (b := 175) d_Mo_dsaVerify_306 cs_Mo_dsaVerify_306 (k_175 S) (c_Mo_digestMessage0 (f := 266) (pa := 0) S D3.1 rb3 ⟨k_266 S, by decide, by decide⟩ (by rw [n_266 S]; decide)) rfl rfl rfl (fun u_306 q_306 => ?_)
  obtain ⟨I4, L4⟩ := u_306
  obtain ⟨F4, h4_⟩ := q_306
  dsimp only at F4 h4_
  rw [z3 186 4 (by omega), z3 186 3 (by omega), show (fun k => I3 182 (0 + k)) = (fun k => I 182 (0 + k)) from funext (fun z => z3 182 _ (by omega)), show (fun k => I3 181 (0 + k)) = (fun k => I 181 (0 + k)) from funext (fun z => z3 181 _ (by omega)), dgS_congr (gk' := (spOut (blS (fun k => I 179 (0 + k)) (I 186 1)))) (fun k hk => by rw [h3 k (by omega) (by omega), spOut_m])] at h4_
  have h4_ : HR I4 265 0 64 (muW I (0 : Int)) := h4_
  have D4 := D3.fr F4 (by decide)
  have G4 : FR (fun a => a = 265 ∨ a = 266) K M I4 L4 := G3.tr F4 (by intro a x; omega)
  have eB : blS (fun k => I4 183 (0 + k)) 32 = vfBs 0 (rgR I) := blS_congr (fun k hk => by rw [G4.1 183 _ (by decide) (Or.inl (by decide)), R0.1 183 _ (by omega) (fun z => z), Int.zero_add, rg_in (show I 186 5 = 2420 from pre.1) (by omega) (by omega)]; omega)
  show AW l G M_Mo_dsaVerify P 309 [(2, vi 0), (0, vr 175)] [] (sD h I4 L4)
  refine aw_aload_n d_Mo_dsaVerify_309 rfl rfl ?_
  refine aw_aload_n d_Mo_dsaVerify_310 rfl rfl ?_
  refine aw_aload_n d_Mo_dsaVerify_311 rfl rfl ?_
  refine ax_getR (b := 204) d_Mo_dsaVerify_312 fd_Mo_76 (k_175 S) (r_175_28 S) ?_
  refine aw_bipush d_Mo_dsaVerify_315 ⟨by decide, by decide⟩ (by decide) ?_
  refine ax_aald (b := 251) d_Mo_dsaVerify_317 ⟨by rw [(k_204 S)]; decide, by rw [(k_204 S)]; decide⟩ (by omega) (by rw [n_204 S]; omega) (g_204 S (j := 46) (by decide) (by decide)) ?_
  refine aw_aload_n d_Mo_dsaVerify_318 rfl rfl ?_
  refine ax_getR (b := 177) d_Mo_dsaVerify_319 fd_Mo_15 (k_175 S) (r_175_1 S) ?_
  refine aw_iconst d_Mo_dsaVerify_322 ⟨by decide, by decide⟩ ?_
  refine ax_aald (b := 183) d_Mo_dsaVerify_323 ⟨by rw [(k_177 S)]; decide, by rw [(k_177 S)]; decide⟩ (by omega) (by rw [n_177 S]; omega) (g_177 S (j := 5) (by decide) (by decide)) ?_
  refine aw_iconst d_Mo_dsaVerify_324 ⟨by decide, by decide⟩ ?_
  refine ax_Vr (st := [vr 175]) (as := [vr 251, vr 183, vi 0]) (b := 175) d_Mo_dsaVerify_325 cs_Mo_dsaVerify_325 (k_175 S) (c_Mo_ball S D4.1 ⟨k_183 S, by decide, by decide⟩ (dr0_38 D4) (dr0_34 D4) (by decide) (by rw [n_183 S]; decide)) rfl rfl rfl (fun u_325 q_325 => ?_)
  obtain ⟨I5, L5, v5⟩ := u_325
  obtain ⟨F5, q5, r5⟩ := q_325
  dsimp only at F5 q5 r5
  rw [eB] at q5 r5
  have G5 : FR (fun a => a = 200 ∨ a = 251) I4 L4 I5 L5 := ⟨fun a j x y => F5.1 a j (by rcases y with y | y; exact Or.inl y; exact Or.inr ⟨y.1, y.2.1, y.2.2.1⟩) (fun z => x (Or.inl z)) (fun z => x (Or.inr z)), fun a j x y z u _ => F5.2 a j x y z u⟩
  have GB : FR (fun a => a = 265 ∨ a = 266 ∨ a = 200 ∨ a = 251) K M I5 L5 := G4.tr G5 (by intro a x; omega)
  show AW l G M_Mo_dsaVerify P 328 [(2, vi 0), (0, vr 175)] [vi v5, vr 175] (sD h I5 L5)
  rcases q5 with ⟨vz, bn⟩ | ⟨vz, bn⟩
  · subst vz
    refine aw_iconst d_Mo_dsaVerify_328 ⟨by decide, by decide⟩ ?_
    refine ax_V (st := []) (as := [vi 1, vi 4]) (b := 175) (v := some (vi 1)) (h' := sD h (a_up I5 175 4 0) L5) d_Mo_dsaVerify_329 cs_Mo_dsaVerify_329 (k_175 S) (c_good1 S rfl) rfl rfl rfl ?_
    show AW l G M_Mo_dsaVerify P 332 [(2, vi 0), (0, vr 175)] [vi 1] (sD h (a_up I5 175 4 0) L5)
    refine aw_if_ne (tgt := 337) d_Mo_dsaVerify_332 (by decide) (fun c_332 => ?_) (fun c_332 => False.elim (by omega))
    refine aw_aload_n d_Mo_dsaVerify_337 rfl rfl ?_
    refine ax_getR (b := 204) d_Mo_dsaVerify_338 fd_Mo_76 (k_175 S) (r_175_28 S) ?_
    refine aw_bipush d_Mo_dsaVerify_341 ⟨by decide, by decide⟩ (by decide) ?_
    refine ax_aald (b := 251) d_Mo_dsaVerify_343 ⟨by rw [(k_204 S)]; decide, by rw [(k_204 S)]; decide⟩ (by omega) (by rw [n_204 S]; omega) (g_204 S (j := 46) (by decide) (by decide)) ?_
    refine ax_S (st := []) (as := [vr 251]) (v := none) (h' := sD h (rowTo (a_up I5 175 4 0) 251 256 (fun x => ((a_up I5 175 4 0) 251 x + 8380417) % 8380417)) L5) d_Mo_dsaVerify_344 cs_Mo_dsaVerify_344 (c_Mo_positive ⟨k_251 S, by decide, n_251 S⟩ (fun x a b => by rw [a_up_ne (Or.inl (by decide)), r5 bn x a b]; have := blX_b (tau := 39) (s := vfBs 0 (rgR I)) x; omega)) rfl rfl rfl ?_
    show AW l G M_Mo_dsaVerify P 347 [(2, vi 0), (0, vr 175)] [] (sD h (rowTo (a_up I5 175 4 0) 251 256 (fun x => ((a_up I5 175 4 0) 251 x + 8380417) % 8380417)) L5)
    refine aw_aload_n d_Mo_dsaVerify_347 rfl rfl ?_
    refine aw_aload_n d_Mo_dsaVerify_348 rfl rfl ?_
    refine ax_getR (b := 204) d_Mo_dsaVerify_349 fd_Mo_76 (k_175 S) (r_175_28 S) ?_
    refine aw_bipush d_Mo_dsaVerify_352 ⟨by decide, by decide⟩ (by decide) ?_
    refine ax_aald (b := 251) d_Mo_dsaVerify_354 ⟨by rw [(k_204 S)]; decide, by rw [(k_204 S)]; decide⟩ (by omega) (by rw [n_204 S]; omega) (g_204 S (j := 46) (by decide) (by decide)) ?_
    refine ax_Vr (st := []) (as := [vr 251]) (b := 175) d_Mo_dsaVerify_355 cs_Mo_dsaVerify_355 (k_175 S) (c_Mo_evaluate S ⟨k_251 S, by decide, n_251 S⟩ (by decide) (fun x a b => by rw [rowTo_in a b]; omega) (fun x a b => by rw [rowTo_ne (by decide), a_up_ne (Or.inl (by decide))]; exact (D.fr GB (by decide)).2.2 x a b)) rfl rfl rfl (fun u_355 q_355 => ?_)
    have l5 := q_355
    have GE : FR (fun a => a = 265 ∨ a = 266 ∨ a = 200 ∨ a = 251) K M (rowTo (rowTo (a_up I5 175 4 0) 251 256 (fun x => ((a_up I5 175 4 0) 251 x + 8380417) % 8380417)) 251 256 (eva ((rowTo (a_up I5 175 4 0) 251 256 (fun x => ((a_up I5 175 4 0) 251 x + 8380417) % 8380417)) 251))) u_355 := ((GB.tr (FR.c0 (p := fun a => a = 265 ∨ a = 266 ∨ a = 200 ∨ a = 251)) (fun a x => ⟨x, x⟩)).tr (FR.row (p := fun a => a = 265 ∨ a = 266 ∨ a = 200 ∨ a = 251) (by omega) (fun _ _ _ => rfl)) (fun a x => ⟨x, x⟩)).tr (FR.row (p := fun a => a = 265 ∨ a = 266 ∨ a = 200 ∨ a = 251) (by omega) l5) (fun a x => ⟨x, x⟩)
    have bE : eqQ ((rowTo (rowTo (a_up I5 175 4 0) 251 256 (fun x => ((a_up I5 175 4 0) 251 x + 8380417) % 8380417)) 251 256 (eva ((rowTo (a_up I5 175 4 0) 251 256 (fun x => ((a_up I5 175 4 0) 251 x + 8380417) % 8380417)) 251))) 251) (vfB 0 (rgR I)) := fun x a b => by rw [rowTo_in a b]; show eva _ x = fwd rt (fun j => blX 39 (vfBs 0 (rgR I)) j % 8380417) x; rw [fwd_eva a b]; exact eva_cq (fun y hy => cq.e (by rw [rowTo_in (by omega) (by omega), a_up_ne (Or.inl (by decide)), r5 bn y (by omega) (by omega), Int.add_emod_right]))
    have mE : HR (rowTo (rowTo (a_up I5 175 4 0) 251 256 (fun x => ((a_up I5 175 4 0) 251 x + 8380417) % 8380417)) 251 256 (eva ((rowTo (a_up I5 175 4 0) 251 256 (fun x => ((a_up I5 175 4 0) 251 x + 8380417) % 8380417)) 251))) 265 0 64 (muW I (0 : Int)) := fun z x y => by rw [rowTo_ne (by decide), rowTo_ne (by decide), a_up_ne (Or.inl (by decide)), G5.1 265 _ (by decide) (Or.inl (by decide))]; exact h4_ z x y
    have cE : (rowTo (rowTo (a_up I5 175 4 0) 251 256 (fun x => ((a_up I5 175 4 0) 251 x + 8380417) % 8380417)) 251 256 (eva ((rowTo (a_up I5 175 4 0) 251 256 (fun x => ((a_up I5 175 4 0) 251 x + 8380417) % 8380417)) 251))) 175 4 = 0 := by rw [rowTo_ne (by decide), rowTo_ne (by decide), a_up_at]
    show AW l G M_Mo_dsaVerify P 358 [(2, vi 0), (0, vr 175)] [] (sD h (rowTo (rowTo (a_up I5 175 4 0) 251 256 (fun x => ((a_up I5 175 4 0) 251 x + 8380417) % 8380417)) 251 256 (eva ((rowTo (a_up I5 175 4 0) 251 256 (fun x => ((a_up I5 175 4 0) 251 x + 8380417) % 8380417)) 251))) u_355)
    refine aw_iconst d_Mo_dsaVerify_358 ⟨by decide, by decide⟩ ?_
    refine aw_istore (lv' := [(4, vi 0), (2, vi 0), (0, vr 175)]) d_Mo_dsaVerify_359 (by decide) rfl ?_
    have lp_361 : ∀ (n_ : Nat) (i : Int) (K6 : Nat → Int → Int) (M6 : Nat → Int → Int), (0 ≤ i ∧ i ≤ 4) → (FR (fun a => a = 265 ∨ a = 266 ∨ a = 200 ∨ a = 251 ∨ 205 ≤ a ∧ a < 209) K M K6 M6) → (∀ a j, (a < 205 ∨ 209 ≤ a) → K6 a j = (rowTo (rowTo (a_up I5 175 4 0) 251 256 (fun x => ((a_up I5 175 4 0) 251 x + 8380417) % 8380417)) 251 256 (eva ((rowTo (a_up I5 175 4 0) 251 256 (fun x => ((a_up I5 175 4 0) 251 x + 8380417) % 8380417)) 251))) a j) → (∀ m, 0 ≤ m → m < i → eqQ (K6 (205 + m.toNat)) (fwd rt ((vfZ 0 (rgR I)) m))) → (∀ m, 0 ≤ m → i ≤ m → m < 4 → eqQ (K6 (205 + m.toNat)) ((vfZs 0 (rgR I)) m)) → ((4 - i).toNat) = n_ → AW l G M_Mo_dsaVerify P 361 [(4, vi i), (0, vr 175)] [] (sD h K6 M6) := by
      intro n_
      induction n_ using Nat.strongRecOn with
      | _ n_ ih_361 =>
      intro i K6 M6 hi G6 f6 dn td hm_361
      refine aw_iload d_Mo_dsaVerify_361 rfl ?_
      refine aw_aload_n d_Mo_dsaVerify_363 rfl rfl ?_
      refine ax_getIe (x := 4) d_Mo_dsaVerify_364 fd_Mo_226 (k_175 S) (Eq.trans (G6.1 175 32 (by omega) (Or.inr (by decide))) (dr0_32 D)) ?_
      refine aw_icmp_ge (tgt := 397) d_Mo_dsaVerify_367 (by decide) (fun c_367 => ?_) (fun c_367 => ?_)
      · skip
        refine aw_aload_n d_Mo_dsaVerify_397 rfl rfl ?_
        refine aw_iconst d_Mo_dsaVerify_398 ⟨by decide, by decide⟩ ?_
        refine ax_putI d_Mo_dsaVerify_399 fd_Mo_216 (k_175 S) (by decide) rfl ?_
        refine aw_sub (lv' := [(0, vr 175)]) (by simp) ?_
        exact vD00 S (fR0.fr (fR0.fr R0 G6 (r := qN) (by intro a x y; exact ⟨fun z => z, by omega⟩) (by omega)) (FR.b0 (p := fun _ => False)) (by intro a x y; exact ⟨fun z => z, fun z => z⟩) (fun z => z)) ((D.fr G6 (by omega)).fr (FR.b0 (p := fun _ => False)) ⟨fun z => z, fun z => z, fun z => z⟩) rg b1 b2 pre bn (fun x a b => by rw [a_up_ne (Or.inl (by decide)), f6 251 x (by omega)]; exact bE x a b) (fun m a b x u v => by rw [a_up_ne (Or.inl (by omega))]; exact dn m a (by omega) x u v) (a_up_at.trans (by decide)) (fun z x y => by rw [a_up_ne (Or.inl (by decide)), f6 265 _ (by omega)]; exact mE z x y) (by rw [a_up_ne (Or.inr (by decide)), f6 175 4 (by omega)]; exact cE) (fun m a b c x y => by rw [a_up_ne (Or.inl (by omega)), G6.1 _ _ (by omega) (Or.inl (by omega))]; exact tb m a b c x y) hP
      · skip
        refine aw_aload_n d_Mo_dsaVerify_370 rfl rfl ?_
        refine ax_getR (b := 204) d_Mo_dsaVerify_371 fd_Mo_76 (k_175 S) (r_175_28 S) ?_
        refine aw_iload d_Mo_dsaVerify_374 rfl ?_
        refine ax_aald (b := 205 + i.toNat) d_Mo_dsaVerify_376 ⟨by rw [(k_204 S)]; decide, by rw [(k_204 S)]; decide⟩ (by omega) (by rw [n_204 S]; omega) (g_204 S (by omega) (by omega)) ?_
        refine ax_S (st := []) (as := [vr (205 + i.toNat)]) (v := none) (h' := sD h (rowTo K6 (205 + i.toNat) 256 (fun x => (K6 (205 + i.toNat) x + 8380417) % 8380417)) M6) d_Mo_dsaVerify_377 cs_Mo_dsaVerify_377 (c_Mo_positive ⟨kr_204 S (by omega), by omega, nr_204 S (by omega)⟩ (fun x a b => by rw [td i hi.1 (Int.le_refl _) (by omega) x a b]; have := (show -131072 < (vfZs 0 (rgR I)) i x ∧ (vfZs 0 (rgR I)) i x ≤ 131072 from ⟨by have := (vfZs_b (s := 0) (g := (rgR I)) (m := i) (j := x)).1; rw [show pG1 0 - 2 ^ (pB 0).toNat = -131072 from by decide] at this; exact this, (vfZs_b (s := 0) (g := (rgR I)) (m := i) (j := x)).2⟩); omega)) rfl rfl rfl ?_
        show AW l G M_Mo_dsaVerify P 380 [(4, vi i), (0, vr 175)] [] (sD h (rowTo K6 (205 + i.toNat) 256 (fun x => (K6 (205 + i.toNat) x + 8380417) % 8380417)) M6)
        refine aw_aload_n d_Mo_dsaVerify_380 rfl rfl ?_
        refine aw_aload_n d_Mo_dsaVerify_381 rfl rfl ?_
        refine ax_getR (b := 204) d_Mo_dsaVerify_382 fd_Mo_76 (k_175 S) (r_175_28 S) ?_
        refine aw_iload d_Mo_dsaVerify_385 rfl ?_
        refine ax_aald (b := 205 + i.toNat) d_Mo_dsaVerify_387 ⟨by rw [(k_204 S)]; decide, by rw [(k_204 S)]; decide⟩ (by omega) (by rw [n_204 S]; omega) (g_204 S (by omega) (by omega)) ?_
        refine ax_Vr (st := []) (as := [vr (205 + i.toNat)]) (b := 175) d_Mo_dsaVerify_388 cs_Mo_dsaVerify_388 (k_175 S) (c_Mo_evaluate S ⟨kr_204 S (by omega), by omega, nr_204 S (by omega)⟩ (by omega) (fun x a b => by rw [rowTo_in a b]; omega) (fun x a b => by rw [rowTo_ne (by omega)]; exact (D.fr G6 (by omega)).2.2 x a b)) rfl rfl rfl (fun u_388 q_388 => ?_)
        have l6 := q_388
        show AW l G M_Mo_dsaVerify P 391 [(4, vi i), (0, vr 175)] [] (sD h (rowTo (rowTo K6 (205 + i.toNat) 256 (fun x => (K6 (205 + i.toNat) x + 8380417) % 8380417)) (205 + i.toNat) 256 (eva ((rowTo K6 (205 + i.toNat) 256 (fun x => (K6 (205 + i.toNat) x + 8380417) % 8380417)) (205 + i.toNat)))) u_388)
        refine ax_iinc (lv' := [(4, vi (i + 1)), (0, vr 175)]) d_Mo_dsaVerify_391 rfl (by decide) ⟨(by omega), (by omega)⟩ rfl ?_
        refine aw_goto (tgt := 361) d_Mo_dsaVerify_394 (by decide) ?_
        exact ih_361 _ (by omega) (i + 1) (rowTo (rowTo K6 (205 + i.toNat) 256 (fun x => (K6 (205 + i.toNat) x + 8380417) % 8380417)) (205 + i.toNat) 256 (eva ((rowTo K6 (205 + i.toNat) 256 (fun x => (K6 (205 + i.toNat) x + 8380417) % 8380417)) (205 + i.toNat)))) u_388 (by omega) ((G6.tr (FR.row (p := fun a => a = 265 ∨ a = 266 ∨ a = 200 ∨ a = 251 ∨ 205 ≤ a ∧ a < 209) (by omega) (fun _ _ _ => rfl)) (fun a x => ⟨x, x⟩)).tr (FR.row (p := fun a => a = 265 ∨ a = 266 ∨ a = 200 ∨ a = 251 ∨ 205 ≤ a ∧ a < 209) (by omega) l6) (fun a x => ⟨x, x⟩)) (fun a j x => by rw [rowTo_ne (by omega), rowTo_ne (by omega)]; exact f6 a j x) (fun m a b x u v => by by_cases z : m = i; exact (by rw [z, rowTo_in u v, fwd_eva u v]; exact eva_cq (fun t ht => cq.e (by rw [rowTo_in (by omega) (by omega), td i hi.1 (Int.le_refl _) (by omega) t (by omega) (by omega), vfZ_Zs, Int.add_emod_right]))); exact (by rw [rowTo_ne (by omega), rowTo_ne (by omega)]; exact dn m a (by omega) x u v)) (fun m a b c x u v => by rw [rowTo_ne (by omega), rowTo_ne (by omega)]; exact td m a (by omega) c x u v) rfl
    skip
    refine aw_sub (lv' := [(4, vi 0), (0, vr 175)]) (by simp) ?_
    exact lp_361 _ 0 (rowTo (rowTo (a_up I5 175 4 0) 251 256 (fun x => ((a_up I5 175 4 0) 251 x + 8380417) % 8380417)) 251 256 (eva ((rowTo (a_up I5 175 4 0) 251 256 (fun x => ((a_up I5 175 4 0) 251 x + 8380417) % 8380417)) 251))) u_355 (by omega) (GE.mono (by intro a x; omega)) (fun _ _ _ => rfl) (fun m a b => by omega) (fun m a b c x u v => by rw [GE.1 _ _ (by omega) (Or.inl (by omega))]; exact hZ m a c x u v) rfl
  · subst vz
    refine aw_iconst d_Mo_dsaVerify_328 ⟨by decide, by decide⟩ ?_
    refine ax_V (st := []) (as := [vi 0, vi 4]) (b := 175) (v := some (vi 0)) (h' := sD h (a_up I5 175 4 4) L5) d_Mo_dsaVerify_329 cs_Mo_dsaVerify_329 (k_175 S) (c_good0 S rfl) rfl rfl rfl ?_
    show AW l G M_Mo_dsaVerify P 332 [(2, vi 0), (0, vr 175)] [vi 0] (sD h (a_up I5 175 4 4) L5)
    refine aw_if_ne (tgt := 337) d_Mo_dsaVerify_332 (by decide) (fun c_332 => False.elim (by omega)) (fun c_332 => ?_)
    refine aw_iconst d_Mo_dsaVerify_335 ⟨by decide, by decide⟩ ?_
    exact aw_zret d_Mo_dsaVerify_336 rfl ⟨by decide, by decide⟩ (hP _ _ (rsNo 0 4 (c4_4 ⟨by decide, by decide⟩ b1 b2 (fun z => (z pre).1 bn)) (by decide) a_up_at (fR0.fr (fR0.fr R0 GB (r := qN) (by intro a x y; exact ⟨fun z => z, by omega⟩) (by decide)) (FR.c0 (p := fun _ => False)) (by intro a x y; exact ⟨fun z => z, fun z => z⟩) (fun z => z))))
set_option maxHeartbeats 4000000 in
set_option maxRecDepth 100000 in
theorem vB00 {l : Launch} {G : a_G} {P : a_R → Hp → Prop} {h : Hp} {I L K M : Nat → Int → Int} (S : Shp h) (R0 : fR0 qN I L K M) (D : RD K M 0) (rg : ∀ j, -128 ≤ I 183 j ∧ I 183 j ≤ 127) (b1 : (0 : Int) ≠ 0 ∨ I 186 4 ≤ 255) (b2 : I 186 1 = 32 + 320 * pK 0) (rb : RB I) (p1 : I 186 5 = sPkt 0) (p2 : hSt (rgR I) (sO3 0) (pW 0) (pK 0)) (h4 : K 175 4 = 0) (tb : ∀ m, 0 ≤ m → m < 4 → tbl K (rgR I) 2336 80 m) (hP : ∀ r_ h2_, RsR h I L (c4 ((0 ≤ (0 : Int) ∧ (0 : Int) < 3) ∧ ((0 : Int) = 0 ∨ (0 : Int) = -1)) ((0 : Int) ≠ 0 ∨ I 186 4 ≤ 255) (I 186 1 = 32 + 320 * pK (0 : Int)) (vfPre (0 : Int) (rgR I) (I 186 5) → vfOk (0 : Int) (rpR I) (rgR I))) (fun a => a = 184 ∨ a = 186) (fun v I' L' => (¬ vfPre (0 : Int) (rgR I) (I 186 5) ∧ v = 0 ∧ fR0 qN I L I' L') ∨ (vfPre (0 : Int) (rgR I) (I 186 5) ∧ ((∀ j, j ≠ 6 → I' 186 j = I 186 j) ∧ I' 186 6 = pC (0 : Int)) ∧ (HR I' 184 0 (pC (0 : Int)) (vfC (0 : Int) (rpR I) (rgR I) (muW I (0 : Int))) ∧ rng (I 184) (I' 184)) ∧ (v = 0 ∨ v = 1) ∧ (v = 1 ↔ ∀ j, 0 ≤ j → j < pC (0 : Int) → vfC (0 : Int) (rpR I) (rgR I) (muW I (0 : Int)) j = rgR I j))) r_ h2_ → P r_ h2_) : AW l G M_Mo_dsaVerify P 140 [(3, vi 2336), (2, vi 0), (0, vr 175)] [] (sD h K M) := by
  refine aw_aload_n d_Mo_dsaVerify_140 rfl rfl ?_
  refine aw_iconst d_Mo_dsaVerify_141 ⟨by decide, by decide⟩ ?_
  refine ax_putI d_Mo_dsaVerify_142 fd_Mo_216 (k_175 S) (by decide) rfl ?_
  refine aw_iconst d_Mo_dsaVerify_145 ⟨by decide, by decide⟩ ?_
  refine aw_istore (lv' := [(4, vi 0), (3, vi 2336), (2, vi 0), (0, vr 175)]) d_Mo_dsaVerify_146 (by decide) rfl ?_
  have lp_148 : ∀ (n_ : Nat) (i : Int) (K2 : Nat → Int → Int), (0 ≤ i ∧ i ≤ 4) → (FR (fun a => 205 ≤ a ∧ a < 209) K M K2 M) → (K2 175 23 = 8 * (576 * i)) → (∀ m, 0 ≤ m → m < i → eqQ (K2 (205 + m.toNat)) ((vfZs 0 (rgR I)) m) ∧ wiN 130994 ((vfZ 0 (rgR I)) m)) → (K2 175 4 = 0) → ((4 - i).toNat) = n_ → AW l G M_Mo_dsaVerify P 148 [(4, vi i), (3, vi 2336), (2, vi 0), (0, vr 175)] [] (sD h K2 M) := by
    intro n_
    induction n_ using Nat.strongRecOn with
    | _ n_ ih_148 =>
    intro i K2 hi F2 bb dn h42 hm_148
    refine aw_iload d_Mo_dsaVerify_148 rfl ?_
    refine aw_aload_n d_Mo_dsaVerify_150 rfl rfl ?_
    refine ax_getIe (x := 4) d_Mo_dsaVerify_151 fd_Mo_226 (k_175 S) (Eq.trans (F2.1 175 32 (by omega) (Or.inr (by decide))) (dr0_32 D)) ?_
    refine aw_icmp_ge (tgt := 265) d_Mo_dsaVerify_154 (by decide) (fun c_154 => ?_) (fun c_154 => ?_)
    · skip
      refine aw_sub (lv' := [(2, vi 0), (0, vr 175)]) (by simp) ?_
      exact vC00 S (fR0.fr R0 F2 (by intro a x y; exact ⟨fun z => z, by omega⟩) (by omega)) (D.fr F2 (by omega)) rg b1 b2 rb ⟨p1, p2, fun m a b => (dn m a (by have b2 : m < 4 := b; omega)).2⟩ (fun m a b => (dn m a (by omega)).1) (fun m a b c x y => by rw [F2.1 _ _ (by omega) (Or.inl (by omega))]; exact tb m a b c x y) hP
    · skip
      refine aw_aload_n d_Mo_dsaVerify_157 rfl rfl ?_
      refine aw_aload_n d_Mo_dsaVerify_158 rfl rfl ?_
      refine ax_getR (b := 177) d_Mo_dsaVerify_159 fd_Mo_15 (k_175 S) (r_175_1 S) ?_
      refine aw_iconst d_Mo_dsaVerify_162 ⟨by decide, by decide⟩ ?_
      refine ax_aald (b := 183) d_Mo_dsaVerify_163 ⟨by rw [(k_177 S)]; decide, by rw [(k_177 S)]; decide⟩ (by omega) (by rw [n_177 S]; omega) (g_177 S (j := 5) (by decide) (by decide)) ?_
      refine aw_aload_n d_Mo_dsaVerify_164 rfl rfl ?_
      refine ax_getIe (x := 32) d_Mo_dsaVerify_165 fd_Mo_248 (k_175 S) (Eq.trans (F2.1 175 38 (by omega) (Or.inr (by decide))) (dr0_38 D)) ?_
      refine aw_aload_n d_Mo_dsaVerify_168 rfl rfl ?_
      refine ax_getR (b := 204) d_Mo_dsaVerify_169 fd_Mo_76 (k_175 S) (r_175_28 S) ?_
      refine aw_iload d_Mo_dsaVerify_172 rfl ?_
      refine ax_aald (b := 205 + i.toNat) d_Mo_dsaVerify_174 ⟨by rw [(k_204 S)]; decide, by rw [(k_204 S)]; decide⟩ (by omega) (by rw [n_204 S]; omega) (g_204 S (by omega) (by omega)) ?_
      refine aw_aload_n d_Mo_dsaVerify_175 rfl rfl ?_
      refine ax_getIe (x := 131072) d_Mo_dsaVerify_176 fd_Mo_237 (k_175 S) (Eq.trans (F2.1 175 35 (by omega) (Or.inr (by decide))) (dr0_35 D)) ?_
      refine aw_aload_n d_Mo_dsaVerify_179 rfl rfl ?_
      refine ax_getIe (x := 18) d_Mo_dsaVerify_180 fd_Mo_251 (k_175 S) (Eq.trans (F2.1 175 39 (by omega) (Or.inr (by decide))) (dr0_39 D)) ?_
      refine ax_Vr (st := []) (as := [vr 183, vi 32, vr (205 + i.toNat), vi 131072, vi 18]) (b := 175) d_Mo_dsaVerify_183 cs_Mo_dsaVerify_183 (k_175 S) (c_Mo_unpack (pa := 32) (c := 576 * i) (d := 18) (b := 131072) S ⟨k_183 S, by decide, by decide⟩ ⟨kr_204 S (by omega), by omega, nr_204 S (by omega)⟩ (by omega) (by decide) (by omega) (by decide) (by rw [n_183 S]; omega)) rfl rfl rfl (fun u_183 q_183 => ?_)
      obtain ⟨q1, q2, q3⟩ := q_183
      have F3 : FR (fun a => 205 ≤ a ∧ a < 209) K M u_183 M := F2.tr (FR.unp (p := fun a => 205 ≤ a ∧ a < 209) q1 (by omega)) (fun a x => ⟨x, x⟩)
      have z3 : eqQ (u_183 (205 + i.toNat)) ((vfZs 0 (rgR I)) i) := fun x u v => by rw [q3 x u v, gR_congr (g := fun j => K2 183 (32 + 576 * i + j) % 256) (g' := fun j => rgR I (32 + 576 * i + j)) (fun y y0 y1 => by rw [F2.1 183 _ (by omega) (Or.inl (by decide)), R0.1 183 _ (by omega) (fun z => z), rg_in (show I 186 5 = 2420 from p1) (by omega) (by omega)])]; rfl
      show AW l G M_Mo_dsaVerify P 186 [(4, vi i), (3, vi 2336), (2, vi 0), (0, vr 175)] [] (sD h u_183 M)
      refine aw_iconst d_Mo_dsaVerify_186 ⟨by decide, by decide⟩ ?_
      refine aw_istore (lv' := [(5, vi 0), (4, vi i), (3, vi 2336), (2, vi 0), (0, vr 175)]) d_Mo_dsaVerify_187 (by decide) rfl ?_
      have lp_189 : ∀ (n_ : Nat) (c : Int), (0 ≤ c ∧ c ≤ 256) → (∀ x, 0 ≤ x → x < c → -130994 < (vfZs 0 (rgR I)) i x ∧ (vfZs 0 (rgR I)) i x < 130994) → ((256 - c).toNat) = n_ → AW l G M_Mo_dsaVerify P 189 [(5, vi c), (4, vi i), (3, vi 2336), (2, vi 0), (0, vr 175)] [] (sD h u_183 M) := by
        intro n_
        induction n_ using Nat.strongRecOn with
        | _ n_ ih_189 =>
        intro c hc wk hm_189
        have zc : c < 256 → u_183 (205 + i.toNat) c = (vfZs 0 (rgR I)) i c := fun v => z3 c hc.1 v
        refine aw_iload d_Mo_dsaVerify_189 rfl ?_
        refine aw_sipush d_Mo_dsaVerify_191 ⟨by decide, by decide⟩ (by decide) ?_
        refine aw_icmp_ge (tgt := 259) d_Mo_dsaVerify_194 (by decide) (fun c_194 => ?_) (fun c_194 => ?_)
        · skip
          refine ax_iinc (lv' := [(4, vi (i + 1)), (5, vi c), (3, vi 2336), (2, vi 0), (0, vr 175)]) d_Mo_dsaVerify_259 rfl (by decide) ⟨(by omega), (by omega)⟩ rfl ?_
          refine aw_goto (tgt := 148) d_Mo_dsaVerify_262 (by decide) ?_
          refine aw_sub (lv' := [(4, vi (i + 1)), (3, vi 2336), (2, vi 0), (0, vr 175)]) (by simp) ?_
          exact ih_148 _ (by omega) (i + 1) u_183 (by omega) (F3) (by omega) (fun m a b => by by_cases z : m = i; exact (by rw [z]; exact ⟨z3, fun x u v => by have w_ := (zl0 (t := 130994) (by decide) (show -131072 < (vfZs 0 (rgR I)) i x ∧ (vfZs 0 (rgR I)) i x ≤ 131072 from ⟨by have := (vfZs_b (s := 0) (g := (rgR I)) (m := i) (j := x)).1; rw [show pG1 0 - 2 ^ (pB 0).toNat = -131072 from by decide] at this; exact this, (vfZs_b (s := 0) (g := (rgR I)) (m := i) (j := x)).2⟩)); rw [vfZ_Zs]; exact fun q_ => by have w2 := w_.2 q_; have w3 := wk x u (by omega); omega⟩); exact ⟨fun x u v => by rw [q1 _ _ (by omega) (Or.inl (by omega))]; exact (dn m a (by omega)).1 x u v, (dn m a (by omega)).2⟩) ((q1 175 4 (by omega) (Or.inr (by decide))).trans h42) rfl
        · skip
          have zb := (show -131072 < (vfZs 0 (rgR I)) i c ∧ (vfZs 0 (rgR I)) i c ≤ 131072 from ⟨by have := (vfZs_b (s := 0) (g := (rgR I)) (m := i) (j := c)).1; rw [show pG1 0 - 2 ^ (pB 0).toNat = -131072 from by decide] at this; exact this, (vfZs_b (s := 0) (g := (rgR I)) (m := i) (j := c)).2⟩)
          have wz := zl0 (t := 130994) (by decide) zb
          refine aw_aload_n d_Mo_dsaVerify_197 rfl rfl ?_
          refine ax_getR (b := 204) d_Mo_dsaVerify_198 fd_Mo_76 (k_175 S) (r_175_28 S) ?_
          refine aw_iload d_Mo_dsaVerify_201 rfl ?_
          refine ax_aald (b := 205 + i.toNat) d_Mo_dsaVerify_203 ⟨by rw [(k_204 S)]; decide, by rw [(k_204 S)]; decide⟩ (by omega) (by rw [n_204 S]; omega) (g_204 S (by omega) (by omega)) ?_
          refine aw_iload d_Mo_dsaVerify_204 rfl ?_
          refine ax_ialde (x := (vfZs 0 (rgR I)) i c) d_Mo_dsaVerify_206 (kr_204 S (by omega)) (by omega) (by rw [nr_204 S (by omega)]; omega) (zc (by omega)) ?_
          refine aw_aload_n d_Mo_dsaVerify_207 rfl rfl ?_
          refine ax_getIe (x := 131072) d_Mo_dsaVerify_208 fd_Mo_237 (k_175 S) (Eq.trans (F3.1 175 35 (by omega) (Or.inr (by decide))) (dr0_35 D)) ?_
          refine aw_aload_n d_Mo_dsaVerify_211 rfl rfl ?_
          refine ax_getIe (x := 39) d_Mo_dsaVerify_212 fd_Mo_232 (k_175 S) (Eq.trans (F3.1 175 34 (by omega) (Or.inr (by decide))) (dr0_34 D)) ?_
          refine aw_aload_n d_Mo_dsaVerify_215 rfl rfl ?_
          refine ax_getIe (x := 2) d_Mo_dsaVerify_216 fd_Mo_229 (k_175 S) (Eq.trans (F3.1 175 33 (by omega) (Or.inr (by decide))) (dr0_33 D)) ?_
          refine ax_imul d_Mo_dsaVerify_219 ⟨(by omega), (by omega)⟩ ?_
          refine ax_ti (x := 78) (by decide) ?_
          refine ax_isub d_Mo_dsaVerify_220 ⟨(by omega), (by omega)⟩ ?_
          refine ax_ti (x := 130994) (by decide) ?_
          refine aw_icmp_ge (tgt := 251) d_Mo_dsaVerify_221 (by decide) (fun c_221 => ?_) (fun c_221 => ?_)
          · skip
            refine aw_iconst d_Mo_dsaVerify_251 ⟨by decide, by decide⟩ ?_
            exact aw_zret d_Mo_dsaVerify_252 rfl ⟨by decide, by decide⟩ (hP _ _ ⟨_, _, _, rfl, rfl, by rw [c4_0 ⟨by decide, by decide⟩ b1 b2 (fun z => absurd z (fun z => by have y := z.2.2 i hi.1 (by show i < 4; omega) c hc.1 (by omega); rw [vfZ_Zs] at y; exact y (wz.1 (by omega))))]; exact (q1 175 4 (by omega) (Or.inr (by decide))).trans h42, Or.inl ⟨c4_0 ⟨by decide, by decide⟩ b1 b2 (fun z => absurd z (fun z => by have y := z.2.2 i hi.1 (by show i < 4; omega) c hc.1 (by omega); rw [vfZ_Zs] at y; exact y (wz.1 (by omega)))), (fR0.fr R0 F3 (r := qN) (by intro a x y; exact ⟨fun z => z, by omega⟩) (by omega)).mono (fun _ _ z => z), Or.inl ⟨(fun z => by have y := z.2.2 i hi.1 (by show i < 4; omega) c hc.1 (by omega); rw [vfZ_Zs] at y; exact y (wz.1 (by omega))), rfl, fR0.fr R0 F3 (by intro a x y; exact ⟨fun z => z, by omega⟩) (by omega)⟩⟩⟩)
          · skip
            refine aw_aload_n d_Mo_dsaVerify_224 rfl rfl ?_
            refine ax_getR (b := 204) d_Mo_dsaVerify_225 fd_Mo_76 (k_175 S) (r_175_28 S) ?_
            refine aw_iload d_Mo_dsaVerify_228 rfl ?_
            refine ax_aald (b := 205 + i.toNat) d_Mo_dsaVerify_230 ⟨by rw [(k_204 S)]; decide, by rw [(k_204 S)]; decide⟩ (by omega) (by rw [n_204 S]; omega) (g_204 S (by omega) (by omega)) ?_
            refine aw_iload d_Mo_dsaVerify_231 rfl ?_
            refine ax_ialde (x := (vfZs 0 (rgR I)) i c) d_Mo_dsaVerify_233 (kr_204 S (by omega)) (by omega) (by rw [nr_204 S (by omega)]; omega) (zc (by omega)) ?_
            refine aw_aload_n d_Mo_dsaVerify_234 rfl rfl ?_
            refine ax_getIe (x := 39) d_Mo_dsaVerify_235 fd_Mo_232 (k_175 S) (Eq.trans (F3.1 175 34 (by omega) (Or.inr (by decide))) (dr0_34 D)) ?_
            refine aw_aload_n d_Mo_dsaVerify_238 rfl rfl ?_
            refine ax_getIe (x := 2) d_Mo_dsaVerify_239 fd_Mo_229 (k_175 S) (Eq.trans (F3.1 175 33 (by omega) (Or.inr (by decide))) (dr0_33 D)) ?_
            refine ax_imul d_Mo_dsaVerify_242 ⟨(by omega), (by omega)⟩ ?_
            refine ax_ti (x := 78) (by decide) ?_
            refine aw_aload_n d_Mo_dsaVerify_243 rfl rfl ?_
            refine ax_getIe (x := 131072) d_Mo_dsaVerify_244 fd_Mo_237 (k_175 S) (Eq.trans (F3.1 175 35 (by omega) (Or.inr (by decide))) (dr0_35 D)) ?_
            refine ax_isub d_Mo_dsaVerify_247 ⟨(by omega), (by omega)⟩ ?_
            refine ax_ti (x := -130994) (by decide) ?_
            refine aw_icmp_gt (tgt := 253) d_Mo_dsaVerify_248 (by decide) (fun c_248 => ?_) (fun c_248 => ?_)
            · skip
              refine ax_iinc (lv' := [(5, vi (c + 1)), (4, vi i), (3, vi 2336), (2, vi 0), (0, vr 175)]) d_Mo_dsaVerify_253 rfl (by decide) ⟨(by omega), (by omega)⟩ rfl ?_
              refine aw_goto (tgt := 189) d_Mo_dsaVerify_256 (by decide) ?_
              exact ih_189 _ (by omega) (c + 1) (by omega) (fun x a b => by by_cases z : x = c; exact (by rw [z]; omega); exact wk x a (by omega)) rfl
            · skip
              refine aw_iconst d_Mo_dsaVerify_251 ⟨by decide, by decide⟩ ?_
              exact aw_zret d_Mo_dsaVerify_252 rfl ⟨by decide, by decide⟩ (hP _ _ ⟨_, _, _, rfl, rfl, by rw [c4_0 ⟨by decide, by decide⟩ b1 b2 (fun z => absurd z (fun z => by have y := z.2.2 i hi.1 (by show i < 4; omega) c hc.1 (by omega); rw [vfZ_Zs] at y; exact y (wz.1 (by omega))))]; exact (q1 175 4 (by omega) (Or.inr (by decide))).trans h42, Or.inl ⟨c4_0 ⟨by decide, by decide⟩ b1 b2 (fun z => absurd z (fun z => by have y := z.2.2 i hi.1 (by show i < 4; omega) c hc.1 (by omega); rw [vfZ_Zs] at y; exact y (wz.1 (by omega)))), (fR0.fr R0 F3 (r := qN) (by intro a x y; exact ⟨fun z => z, by omega⟩) (by omega)).mono (fun _ _ z => z), Or.inl ⟨(fun z => by have y := z.2.2 i hi.1 (by show i < 4; omega) c hc.1 (by omega); rw [vfZ_Zs] at y; exact y (wz.1 (by omega))), rfl, fR0.fr R0 F3 (by intro a x y; exact ⟨fun z => z, by omega⟩) (by omega)⟩⟩⟩)
      exact lp_189 _ 0 (by omega) (fun x a b => by omega) rfl
  skip
  exact lp_148 _ 0 (a_up K 175 23 0) (by omega) (FR.b0) (a_up_at.trans (by decide)) (fun m a b => by omega) (by rw [a_up_ne (Or.inr (by decide))]; exact h4) rfl
set_option maxHeartbeats 4000000 in
set_option maxRecDepth 100000 in
theorem c_Mo_dsaVerify00 {l : Launch} {G : a_G} {h : Hp} {I L : Nat → Int → Int} (S : Shp h) (RS : RSt I L) (rb : RB I) (rg : ∀ j, -128 ≤ I 183 j ∧ I 183 j ≤ 127) : AW l G M_Mo_dsaVerify (RsR h I L (c4 ((0 ≤ (0 : Int) ∧ (0 : Int) < 3) ∧ ((0 : Int) = 0 ∨ (0 : Int) = -1)) ((0 : Int) ≠ 0 ∨ I 186 4 ≤ 255) (I 186 1 = 32 + 320 * pK (0 : Int)) (vfPre (0 : Int) (rgR I) (I 186 5) → vfOk (0 : Int) (rpR I) (rgR I))) (fun a => a = 184 ∨ a = 186) (fun v I' L' => (¬ vfPre (0 : Int) (rgR I) (I 186 5) ∧ v = 0 ∧ fR0 qN I L I' L') ∨ (vfPre (0 : Int) (rgR I) (I 186 5) ∧ ((∀ j, j ≠ 6 → I' 186 j = I 186 j) ∧ I' 186 6 = pC (0 : Int)) ∧ (HR I' 184 0 (pC (0 : Int)) (vfC (0 : Int) (rpR I) (rgR I) (muW I (0 : Int))) ∧ rng (I 184) (I' 184)) ∧ (v = 0 ∨ v = 1) ∧ (v = 1 ↔ ∀ j, 0 ≤ j → j < pC (0 : Int) → vfC (0 : Int) (rpR I) (rgR I) (muW I (0 : Int)) j = rgR I j)))) 0 (a_ar 0 [vr 175, vi 0, vi 0]) [] (sD h I L) := by
  suffices key : ∀ P : a_R → Hp → Prop, (∀ r_ h2_, RsR h I L (c4 ((0 ≤ (0 : Int) ∧ (0 : Int) < 3) ∧ ((0 : Int) = 0 ∨ (0 : Int) = -1)) ((0 : Int) ≠ 0 ∨ I 186 4 ≤ 255) (I 186 1 = 32 + 320 * pK (0 : Int)) (vfPre (0 : Int) (rgR I) (I 186 5) → vfOk (0 : Int) (rpR I) (rgR I))) (fun a => a = 184 ∨ a = 186) (fun v I' L' => (¬ vfPre (0 : Int) (rgR I) (I 186 5) ∧ v = 0 ∧ fR0 qN I L I' L') ∨ (vfPre (0 : Int) (rgR I) (I 186 5) ∧ ((∀ j, j ≠ 6 → I' 186 j = I 186 j) ∧ I' 186 6 = pC (0 : Int)) ∧ (HR I' 184 0 (pC (0 : Int)) (vfC (0 : Int) (rpR I) (rgR I) (muW I (0 : Int))) ∧ rng (I 184) (I' 184)) ∧ (v = 0 ∨ v = 1) ∧ (v = 1 ↔ ∀ j, 0 ≤ j → j < pC (0 : Int) → vfC (0 : Int) (rpR I) (rgR I) (muW I (0 : Int)) j = rgR I j))) r_ h2_ → P r_ h2_) → AW l G M_Mo_dsaVerify P 0 [(0, vr 175), (1, vi 0), (2, vi 0)] [] (sD h I L) from key _ (fun _ _ q => q)
  intro P hP
  refine aw_aload_n d_Mo_dsaVerify_0 rfl rfl ?_
  refine aw_iload_n d_Mo_dsaVerify_1 rfl rfl ?_
  refine aw_iconst d_Mo_dsaVerify_2 ⟨by decide, by decide⟩ ?_
  refine aw_iconst d_Mo_dsaVerify_3 ⟨by decide, by decide⟩ ?_
  refine ax_S (st := [vr 175]) (as := [vi 0, vi 0, vi 2]) (v := some (vi 1)) (h' := sD h I L) d_Mo_dsaVerify_4 cs_Mo_dsaVerify_4 (c_in1 (by decide)) rfl rfl rfl ?_
  show AW l G M_Mo_dsaVerify P 7 [(0, vr 175), (1, vi 0), (2, vi 0)] [vi 1, vr 175] (sD h I L)
  refine aw_if_eq (tgt := 23) d_Mo_dsaVerify_7 (by decide) (fun c_7 => False.elim (by omega)) (fun c_7 => ?_)
  refine aw_iload_n d_Mo_dsaVerify_10 rfl rfl ?_
  refine aw_iconst d_Mo_dsaVerify_11 ⟨by decide, by decide⟩ ?_
  refine aw_iconst d_Mo_dsaVerify_12 ⟨by decide, by decide⟩ ?_
  refine ax_S (st := [vr 175]) (as := [vi 0, vi (-1), vi 0]) (v := some (vi 1)) (h' := sD h I L) d_Mo_dsaVerify_13 cs_Mo_dsaVerify_13 (c_in1 (by decide)) rfl rfl rfl ?_
  show AW l G M_Mo_dsaVerify P 16 [(0, vr 175), (1, vi 0), (2, vi 0)] [vi 1, vr 175] (sD h I L)
  refine aw_if_eq (tgt := 23) d_Mo_dsaVerify_16 (by decide) (fun c_16 => False.elim (by omega)) (fun c_16 => ?_)
  refine aw_iconst d_Mo_dsaVerify_19 ⟨by decide, by decide⟩ ?_
  refine aw_goto (tgt := 24) d_Mo_dsaVerify_20 (by decide) ?_
  refine aw_iconst d_Mo_dsaVerify_24 ⟨by decide, by decide⟩ ?_
  refine ax_V (st := []) (as := [vi 1, vi 1]) (b := 175) (v := some (vi 1)) (h' := sD h (a_up I 175 4 0) L) d_Mo_dsaVerify_25 cs_Mo_dsaVerify_25 (k_175 S) (c_good1 S (rfl)) rfl rfl rfl ?_
  show AW l G M_Mo_dsaVerify P 28 [(0, vr 175), (1, vi 0), (2, vi 0)] [vi 1] (sD h (a_up I 175 4 0) L)
  refine aw_if_ne (tgt := 33) d_Mo_dsaVerify_28 (by decide) (fun c_28 => ?_) (fun c_28 => False.elim (by omega))
  refine aw_aload_n d_Mo_dsaVerify_33 rfl rfl ?_
  refine aw_iload_n d_Mo_dsaVerify_34 rfl rfl ?_
  refine ax_Vr (st := []) (as := [vi 0]) (b := 175) d_Mo_dsaVerify_35 cs_Mo_dsaVerify_35 (k_175 S) (c_Mo_dsa0 S) rfl rfl rfl (fun u_35 q_35 => ?_)
  obtain ⟨d1, d2, d3⟩ := q_35
  have e0 : ∀ a j, (a < 175 ∨ 176 ≤ a ∧ a ≤ 202 ∨ 204 ≤ a) → u_35 a j = I a j := fun a j x => (d1 a j (by omega) (Or.inl (by omega)) (Or.inl (by omega)) (Or.inl (by omega)) (Or.inl (by omega)) (Or.inl (by omega)) (Or.inl (by omega)) (Or.inl (by omega)) (Or.inl (by omega)) (Or.inl (by omega))).trans (a_up_ne (Or.inl (by omega)))
  have R00 : fR0 qN I L u_35 L := ⟨fun a j x _ => e0 a j (by omega), (d1 175 3 (by decide) (Or.inr (by decide)) (Or.inr (by decide)) (Or.inr (by decide)) (Or.inr (by decide)) (Or.inr (by decide)) (Or.inr (by decide)) (Or.inr (by decide)) (Or.inr (by decide)) (Or.inr (by decide))).trans (a_up_ne (Or.inr (by decide))), fun _ _ _ => rfl⟩
  have D0 : RD u_35 L 0 := ⟨RS.of (fun j => e0 193 j (by omega)) (fun _ => rfl), d2, d3⟩
  have D1 := D0.fr (FR.c0 (p := fun _ => False) (v := 0)) ⟨fun z => z, fun z => z, fun z => z⟩
  have R1 : fR0 qN I L (a_up u_35 175 4 0) L := fR0.fr R00 (FR.c0 (p := fun _ => False)) (by intro a x y; exact ⟨fun z => z, fun z => z⟩) (fun z => z)
  show AW l G M_Mo_dsaVerify P 38 [(0, vr 175), (1, vi 0), (2, vi 0)] [] (sD h u_35 L)
  refine aw_aload_n d_Mo_dsaVerify_38 rfl rfl ?_
  refine aw_aload_n d_Mo_dsaVerify_39 rfl rfl ?_
  refine aw_iload_n d_Mo_dsaVerify_40 rfl rfl ?_
  by_cases cx_ : (0 : Int) < 0 ∨ u_35 186 4 ≤ 255
  · skip
    refine ax_V (st := [vr 175]) (as := [vi 0]) (b := 175) (v := some (vi 1)) (h' := sD h u_35 L) d_Mo_dsaVerify_41 cs_Mo_dsaVerify_41 (k_175 S) (by have z := c_Mo_context (l := l) (G := G) (h := h) (L := L) (I := u_35) (x := 0) S; rw [if_pos cx_] at z; exact z) rfl rfl rfl ?_
    show AW l G M_Mo_dsaVerify P 44 [(0, vr 175), (1, vi 0), (2, vi 0)] [vi 1, vr 175] (sD h u_35 L)
    refine aw_iconst d_Mo_dsaVerify_44 ⟨by decide, by decide⟩ ?_
    refine ax_V (st := []) (as := [vi 1, vi 2]) (b := 175) (v := some (vi 1)) (h' := sD h (a_up u_35 175 4 0) L) d_Mo_dsaVerify_45 cs_Mo_dsaVerify_45 (k_175 S) (c_good1 S (rfl)) rfl rfl rfl ?_
    show AW l G M_Mo_dsaVerify P 48 [(0, vr 175), (1, vi 0), (2, vi 0)] [vi 1] (sD h (a_up u_35 175 4 0) L)
    refine aw_if_eq (tgt := 84) d_Mo_dsaVerify_48 (by decide) (fun c_48 => False.elim (by omega)) (fun c_48 => ?_)
    have bb : (0 : Int) ≠ 0 ∨ I 186 4 ≤ 255 := by rw [e0 186 4 (by omega)] at cx_; omega
    refine aw_aload_n d_Mo_dsaVerify_51 rfl rfl ?_
    refine aw_aload_n d_Mo_dsaVerify_52 rfl rfl ?_
    refine ax_getR (b := 186) d_Mo_dsaVerify_53 fd_Mo_18 (k_175 S) (r_175_2 S) ?_
    refine aw_iconst d_Mo_dsaVerify_56 ⟨by decide, by decide⟩ ?_
    refine ax_ialde (x := I 186 1) d_Mo_dsaVerify_57 (k_186 S) (by omega) (by rw [n_186 S]; omega) (Eq.trans (a_up_ne (Or.inl (by decide))) (Eq.trans (e0 186 1 (by omega)) (rfl))) ?_
    refine aw_bipush d_Mo_dsaVerify_58 ⟨by decide, by decide⟩ (by decide) ?_
    refine aw_sipush d_Mo_dsaVerify_60 ⟨by decide, by decide⟩ (by decide) ?_
    refine aw_aload_n d_Mo_dsaVerify_63 rfl rfl ?_
    refine ax_getIe (x := 4) d_Mo_dsaVerify_64 fd_Mo_223 (k_175 S) (Eq.trans (a_up_ne (Or.inr (by decide))) (dr0_26 D0)) ?_
    refine ax_imul d_Mo_dsaVerify_67 ⟨(by omega), (by omega)⟩ ?_
    refine ax_ti (x := 1280) (by decide) ?_
    refine ax_iadd d_Mo_dsaVerify_68 ⟨(by omega), (by omega)⟩ ?_
    refine ax_ti (x := 1312) (by decide) ?_
    refine aw_icmp_ne (tgt := 76) d_Mo_dsaVerify_69 (by decide) (fun c_69 => ?_) (fun c_69 => ?_)
    · skip
      refine aw_iconst d_Mo_dsaVerify_76 ⟨by decide, by decide⟩ ?_
      refine aw_iconst d_Mo_dsaVerify_77 ⟨by decide, by decide⟩ ?_
      refine ax_V (st := []) (as := [vi 0, vi 3]) (b := 175) (v := some (vi 0)) (h' := sD h (a_up u_35 175 4 3) L) d_Mo_dsaVerify_78 cs_Mo_dsaVerify_78 (k_175 S) (c_good0 S (by rw [a_up_up])) rfl rfl rfl ?_
      show AW l G M_Mo_dsaVerify P 81 [(0, vr 175), (1, vi 0), (2, vi 0)] [vi 0] (sD h (a_up u_35 175 4 3) L)
      refine aw_if_ne (tgt := 86) d_Mo_dsaVerify_81 (by decide) (fun c_81 => False.elim (by omega)) (fun c_81 => ?_)
      refine aw_iconst d_Mo_dsaVerify_84 ⟨by decide, by decide⟩ ?_
      exact aw_zret d_Mo_dsaVerify_85 rfl ⟨by decide, by decide⟩ (hP _ _ (rsNo 0 3 (c4_3 ⟨by decide, by decide⟩ bb (fun z => by have z1 : I 186 1 = 1312 := z; omega)) (by decide) a_up_at (fR0.fr R00 (FR.c0 (p := fun _ => False)) (by intro a x y; exact ⟨fun z => z, fun z => z⟩) (fun z => z))))
    · skip
      refine aw_iconst d_Mo_dsaVerify_72 ⟨by decide, by decide⟩ ?_
      refine aw_goto (tgt := 77) d_Mo_dsaVerify_73 (by decide) ?_
      refine aw_iconst d_Mo_dsaVerify_77 ⟨by decide, by decide⟩ ?_
      refine ax_V (st := []) (as := [vi 1, vi 3]) (b := 175) (v := some (vi 1)) (h' := sD h (a_up u_35 175 4 0) L) d_Mo_dsaVerify_78 cs_Mo_dsaVerify_78 (k_175 S) (c_good1 S (by rw [a_up_up])) rfl rfl rfl ?_
      show AW l G M_Mo_dsaVerify P 81 [(0, vr 175), (1, vi 0), (2, vi 0)] [vi 1] (sD h (a_up u_35 175 4 0) L)
      refine aw_if_ne (tgt := 86) d_Mo_dsaVerify_81 (by decide) (fun c_81 => ?_) (fun c_81 => False.elim (by omega))
      have pb : I 186 1 = 32 + 320 * pK 0 := by show I 186 1 = 1312; omega
      refine aw_aload_n d_Mo_dsaVerify_86 rfl rfl ?_
      refine ax_getIe (x := 32) d_Mo_dsaVerify_87 fd_Mo_248 (k_175 S) (Eq.trans (a_up_ne (Or.inr (by decide))) (dr0_38 D0)) ?_
      refine aw_bipush d_Mo_dsaVerify_90 ⟨by decide, by decide⟩ (by decide) ?_
      refine aw_aload_n d_Mo_dsaVerify_92 rfl rfl ?_
      refine ax_getIe (x := 4) d_Mo_dsaVerify_93 fd_Mo_226 (k_175 S) (Eq.trans (a_up_ne (Or.inr (by decide))) (dr0_32 D0)) ?_
      refine ax_imul d_Mo_dsaVerify_96 ⟨(by omega), (by omega)⟩ ?_
      refine ax_ti (x := 128) (by decide) ?_
      refine aw_aload_n d_Mo_dsaVerify_97 rfl rfl ?_
      refine ax_getIe (x := 18) d_Mo_dsaVerify_98 fd_Mo_251 (k_175 S) (Eq.trans (a_up_ne (Or.inr (by decide))) (dr0_39 D0)) ?_
      refine ax_imul d_Mo_dsaVerify_101 ⟨(by omega), (by omega)⟩ ?_
      refine ax_ti (x := 2304) (by decide) ?_
      refine ax_iadd d_Mo_dsaVerify_102 ⟨(by omega), (by omega)⟩ ?_
      refine ax_ti (x := 2336) (by decide) ?_
      refine aw_istore_n (lv' := [(3, vi 2336), (0, vr 175), (1, vi 0), (2, vi 0)]) d_Mo_dsaVerify_103 rfl (by decide) rfl ?_
      refine aw_aload_n d_Mo_dsaVerify_104 rfl rfl ?_
      refine ax_getR (b := 186) d_Mo_dsaVerify_105 fd_Mo_18 (k_175 S) (r_175_2 S) ?_
      refine aw_iconst d_Mo_dsaVerify_108 ⟨by decide, by decide⟩ ?_
      refine ax_ialde (x := I 186 5) d_Mo_dsaVerify_109 (k_186 S) (by omega) (by rw [n_186 S]; omega) (Eq.trans (a_up_ne (Or.inl (by decide))) (Eq.trans (e0 186 5 (by omega)) (rfl))) ?_
      refine aw_iload_n d_Mo_dsaVerify_110 rfl rfl ?_
      refine aw_aload_n d_Mo_dsaVerify_111 rfl rfl ?_
      refine ax_getIe (x := 80) d_Mo_dsaVerify_112 fd_Mo_245 (k_175 S) (Eq.trans (a_up_ne (Or.inr (by decide))) (dr0_37 D0)) ?_
      refine ax_iadd d_Mo_dsaVerify_115 ⟨(by omega), (by omega)⟩ ?_
      refine ax_ti (x := 2416) (by decide) ?_
      refine aw_aload_n d_Mo_dsaVerify_116 rfl rfl ?_
      refine ax_getIe (x := 4) d_Mo_dsaVerify_117 fd_Mo_223 (k_175 S) (Eq.trans (a_up_ne (Or.inr (by decide))) (dr0_26 D0)) ?_
      refine ax_iadd d_Mo_dsaVerify_120 ⟨(by omega), (by omega)⟩ ?_
      refine ax_ti (x := 2420) (by decide) ?_
      refine aw_icmp_ne (tgt := 138) d_Mo_dsaVerify_121 (by decide) (fun c_121 => ?_) (fun c_121 => ?_)
      · skip
        refine aw_iconst d_Mo_dsaVerify_138 ⟨by decide, by decide⟩ ?_
        exact aw_zret d_Mo_dsaVerify_139 rfl ⟨by decide, by decide⟩ (hP _ _ ⟨_, _, _, rfl, rfl, by rw [c4_0 ⟨by decide, by decide⟩ bb pb (fun z => absurd z (fun z => by have z1 : I 186 5 = 2420 := z.1; omega))]; exact a_up_at, Or.inl ⟨c4_0 ⟨by decide, by decide⟩ bb pb (fun z => absurd z (fun z => by have z1 : I 186 5 = 2420 := z.1; omega)), fR0.mono (fR0.fr R00 (FR.c0 (p := fun _ => False)) (by intro a x y; exact ⟨fun z => z, fun z => z⟩) (fun z => z)) (fun _ _ z => z), Or.inl ⟨(fun z => by have z1 : I 186 5 = 2420 := z.1; omega), rfl, (fR0.fr R00 (FR.c0 (p := fun _ => False)) (by intro a x y; exact ⟨fun z => z, fun z => z⟩) (fun z => z))⟩⟩⟩)
      · skip
        refine aw_aload_n d_Mo_dsaVerify_124 rfl rfl ?_
        refine aw_aload_n d_Mo_dsaVerify_125 rfl rfl ?_
        refine ax_getR (b := 177) d_Mo_dsaVerify_126 fd_Mo_15 (k_175 S) (r_175_1 S) ?_
        refine aw_iconst d_Mo_dsaVerify_129 ⟨by decide, by decide⟩ ?_
        refine ax_aald (b := 183) d_Mo_dsaVerify_130 ⟨by rw [(k_177 S)]; decide, by rw [(k_177 S)]; decide⟩ (by omega) (by rw [n_177 S]; omega) (g_177 S (j := 5) (by decide) (by decide)) ?_
        refine aw_iload_n d_Mo_dsaVerify_131 rfl rfl ?_
        have kz : ∀ j, (a_up u_35 175 4 0) 183 j = I 183 j := fun j => (a_up_ne (Or.inl (by decide))).trans (e0 183 j (by omega))
        have k5 : (a_up u_35 175 4 0) 186 5 = I 186 5 := (a_up_ne (Or.inl (by decide))).trans (e0 186 5 (by omega))
        have eg : rgR (a_up u_35 175 4 0) = rgR I := funext (fun x => by unfold rgR gW; rw [k5]; show (if 0 ≤ x ∧ x < I 186 5 then (a_up u_35 175 4 0) 183 x % 256 else 0) = (if 0 ≤ x ∧ x < I 186 5 then I 183 x % 256 else 0); rw [kz])
        refine ax_Vr (st := []) (as := [vr 183, vi 2336]) (b := 175) d_Mo_dsaVerify_132 cs_Mo_dsaVerify_132 (k_175 S) (c_Mo_hints0 S D1 (fun j => by rw [kz]; exact rg j) (by rw [k5]; omega)) rfl rfl rfl (fun u_132 q_132 => ?_)
        obtain ⟨v9, K9⟩ := u_132
        obtain ⟨F9, p9, q9⟩ := q_132
        dsimp only at F9 p9 q9
        rw [eg] at q9
        have h49 : K9 175 4 = 0 := (p9 4).trans a_up_at
        show AW l G M_Mo_dsaVerify P 135 [(3, vi 2336), (0, vr 175), (1, vi 0), (2, vi 0)] [vi v9] (sD h K9 L)
        refine aw_if_ne (tgt := 140) d_Mo_dsaVerify_135 (by decide) (fun c_135 => ?_) (fun c_135 => ?_)
        · skip
          refine aw_sub (lv' := [(3, vi 2336), (2, vi 0), (0, vr 175)]) (by simp) ?_
          have g9 := q9.resolve_right (fun z => by have z1 := z.1; omega)
          exact vB00 S (fR0.fr R1 F9 (by intro a x y; exact ⟨fun z => z, by omega⟩) (by decide)) (D1.fr F9 (by decide)) rg bb pb rb (by show I 186 5 = 2420; omega) g9.2.1 h49 g9.2.2 hP
        · skip
          refine aw_iconst d_Mo_dsaVerify_138 ⟨by decide, by decide⟩ ?_
          exact aw_zret d_Mo_dsaVerify_139 rfl ⟨by decide, by decide⟩ (hP _ _ ⟨_, _, _, rfl, rfl, by rw [c4_0 ⟨by decide, by decide⟩ bb pb (fun z => absurd z (fun z => by rcases q9 with y | y; exact absurd y.1 (by omega); exact y.2 z.2.1))]; exact h49, Or.inl ⟨c4_0 ⟨by decide, by decide⟩ bb pb (fun z => absurd z (fun z => by rcases q9 with y | y; exact absurd y.1 (by omega); exact y.2 z.2.1)), fR0.mono (fR0.fr R1 F9 (r := qN) (by intro a x y; exact ⟨fun z => z, by omega⟩) (by decide)) (fun _ _ z => z), Or.inl ⟨(fun z => by rcases q9 with y | y; exact absurd y.1 (by omega); exact y.2 z.2.1), rfl, (fR0.fr R1 F9 (r := qN) (by intro a x y; exact ⟨fun z => z, by omega⟩) (by decide))⟩⟩⟩)
  · skip
    refine ax_V (st := [vr 175]) (as := [vi 0]) (b := 175) (v := some (vi 0)) (h' := sD h u_35 L) d_Mo_dsaVerify_41 cs_Mo_dsaVerify_41 (k_175 S) (by have z := c_Mo_context (l := l) (G := G) (h := h) (L := L) (I := u_35) (x := 0) S; rw [if_neg cx_] at z; exact z) rfl rfl rfl ?_
    show AW l G M_Mo_dsaVerify P 44 [(0, vr 175), (1, vi 0), (2, vi 0)] [vi 0, vr 175] (sD h u_35 L)
    refine aw_iconst d_Mo_dsaVerify_44 ⟨by decide, by decide⟩ ?_
    refine ax_V (st := []) (as := [vi 0, vi 2]) (b := 175) (v := some (vi 0)) (h' := sD h (a_up u_35 175 4 2) L) d_Mo_dsaVerify_45 cs_Mo_dsaVerify_45 (k_175 S) (c_good0 S (rfl)) rfl rfl rfl ?_
    show AW l G M_Mo_dsaVerify P 48 [(0, vr 175), (1, vi 0), (2, vi 0)] [vi 0] (sD h (a_up u_35 175 4 2) L)
    refine aw_if_eq (tgt := 84) d_Mo_dsaVerify_48 (by decide) (fun c_48 => ?_) (fun c_48 => False.elim (by omega))
    refine aw_iconst d_Mo_dsaVerify_84 ⟨by decide, by decide⟩ ?_
    exact aw_zret d_Mo_dsaVerify_85 rfl ⟨by decide, by decide⟩ (hP _ _ (rsNo 0 2 (c4_2 ⟨by decide, by decide⟩ (fun z => by rw [e0 186 4 (by omega)] at cx_; omega)) (by decide) a_up_at (fR0.fr R00 (FR.c0 (p := fun _ => False)) (by intro a x y; exact ⟨fun z => z, fun z => z⟩) (fun z => z))))
set_option maxHeartbeats 4000000 in
set_option maxRecDepth 100000 in
theorem vC0N {l : Launch} {G : a_G} {P : a_R → Hp → Prop} {h : Hp} {I L K M : Nat → Int → Int} (S : Shp h) (R0 : fR0 qN I L K M) (D : RD K M 0) (rg : ∀ j, -128 ≤ I 183 j ∧ I 183 j ≤ 127) (b1 : (-1 : Int) ≠ 0 ∨ I 186 4 ≤ 255) (b2 : I 186 1 = 32 + 320 * pK 0) (rb : RB I) (pre : vfPre 0 (rgR I) (I 186 5)) (hZ : ∀ m, 0 ≤ m → m < 4 → eqQ (K (205 + m.toNat)) ((vfZs 0 (rgR I)) m)) (tb : ∀ m, 0 ≤ m → m < 4 → tbl K (rgR I) 2336 80 m) (hP : ∀ r_ h2_, RsR h I L (c4 ((0 ≤ (0 : Int) ∧ (0 : Int) < 3) ∧ ((-1 : Int) = 0 ∨ (-1 : Int) = -1)) ((-1 : Int) ≠ 0 ∨ I 186 4 ≤ 255) (I 186 1 = 32 + 320 * pK (0 : Int)) (vfPre (0 : Int) (rgR I) (I 186 5) → vfOk (0 : Int) (rpR I) (rgR I))) (fun a => a = 184 ∨ a = 186) (fun v I' L' => (¬ vfPre (0 : Int) (rgR I) (I 186 5) ∧ v = 0 ∧ fR0 qN I L I' L') ∨ (vfPre (0 : Int) (rgR I) (I 186 5) ∧ ((∀ j, j ≠ 6 → I' 186 j = I 186 j) ∧ I' 186 6 = pC (0 : Int)) ∧ (HR I' 184 0 (pC (0 : Int)) (vfC (0 : Int) (rpR I) (rgR I) (muW I (-1 : Int))) ∧ rng (I 184) (I' 184)) ∧ (v = 0 ∨ v = 1) ∧ (v = 1 ↔ ∀ j, 0 ≤ j → j < pC (0 : Int) → vfC (0 : Int) (rpR I) (rgR I) (muW I (-1 : Int)) j = rgR I j))) r_ h2_ → P r_ h2_) : AW l G M_Mo_dsaVerify P 265 [(2, vi (-1)), (0, vr 175)] [] (sD h K M) := by
  refine aw_aload_n d_Mo_dsaVerify_265 rfl rfl ?_
  refine aw_bipush d_Mo_dsaVerify_266 ⟨by decide, by decide⟩ (by decide) ?_
  have RS := D.1
  refine ax_Vr (st := []) (as := [vi 12]) (b := 175) d_Mo_dsaVerify_268 cs_Mo_dsaVerify_268 (k_175 S) (c_Mo_begin12 S) rfl rfl rfl (fun u_268 q_268 => ?_)
  obtain ⟨I1, L1⟩ := u_268
  obtain ⟨F1, e1, k1⟩ := q_268
  dsimp only at F1 e1 k1
  show AW l G M_Mo_dsaVerify P 271 [(2, vi (-1)), (0, vr 175)] [] (sD h I1 L1)
  refine aw_aload_n d_Mo_dsaVerify_271 rfl rfl ?_
  refine aw_aload_n d_Mo_dsaVerify_272 rfl rfl ?_
  refine ax_getR (b := 177) d_Mo_dsaVerify_273 fd_Mo_15 (k_175 S) (r_175_1 S) ?_
  refine aw_iconst d_Mo_dsaVerify_276 ⟨by decide, by decide⟩ ?_
  refine ax_aald (b := 179) d_Mo_dsaVerify_277 ⟨by rw [(k_177 S)]; decide, by rw [(k_177 S)]; decide⟩ (by omega) (by rw [n_177 S]; omega) (g_177 S (j := 1) (by decide) (by decide)) ?_
  refine aw_iconst d_Mo_dsaVerify_278 ⟨by decide, by decide⟩ ?_
  refine aw_aload_n d_Mo_dsaVerify_279 rfl rfl ?_
  refine ax_getR (b := 186) d_Mo_dsaVerify_280 fd_Mo_18 (k_175 S) (r_175_2 S) ?_
  refine aw_iconst d_Mo_dsaVerify_283 ⟨by decide, by decide⟩ ?_
  refine ax_ialde (x := 1312) d_Mo_dsaVerify_284 (k_186 S) (by omega) (by rw [n_186 S]; omega) (Eq.trans (F1.1 186 1 (Or.inl (by decide))) ((R0.1 186 1 (by omega) (fun z => z)).trans b2)) ?_
  refine ax_Vr (st := []) (as := [vr 179, vi 0, vi 1312]) (b := 175) d_Mo_dsaVerify_285 cs_Mo_dsaVerify_285 (k_175 S) (c_Mo_put3 S (RS.rf F1) (by omega) (by rw [e1]; exact spStart_lt (by decide) (by decide)) ⟨k_179 S, by decide, by decide⟩ (by rw [n_179 S]; decide)) rfl rfl rfl (fun u_285 q_285 => ?_)
  obtain ⟨I2, L2⟩ := u_285
  obtain ⟨F2, e2, k2⟩ := q_285
  dsimp only at F2 e2 k2
  show AW l G M_Mo_dsaVerify P 288 [(2, vi (-1)), (0, vr 175)] [] (sD h I2 L2)
  have eS : spTurn (spR I2 L2) = blS (fun k => I 179 (0 + k)) (I 186 1) := by rw [e2, e1, show (fun k => I1 179 (0 + k)) = (fun k => I 179 (0 + k)) from funext (fun z => (F1.1 179 _ (Or.inl (by decide))).trans (R0.1 179 _ (by omega) (fun z => z))), show I 186 1 = 1312 from b2]; rfl
  refine aw_aload_n d_Mo_dsaVerify_288 rfl rfl ?_
  refine aw_aload_n d_Mo_dsaVerify_289 rfl rfl ?_
  refine ax_getR (b := 266) d_Mo_dsaVerify_290 fd_Mo_96 (k_175 S) (r_175_42 S) ?_
  refine aw_iconst d_Mo_dsaVerify_293 ⟨by decide, by decide⟩ ?_
  refine aw_bipush d_Mo_dsaVerify_294 ⟨by decide, by decide⟩ (by decide) ?_
  refine ax_Vr (st := []) (as := [vr 266, vi 0, vi 64]) (b := 175) d_Mo_dsaVerify_296 cs_Mo_dsaVerify_296 (k_175 S) (c_Mo_give S (RS.rf (F1.tr F2)) (by omega) (by rw [e2, e1]; exact (spPart_lt (spStart_lt (by decide) (by decide)) _ _).1) ⟨k_266 S, by decide, by decide, by decide⟩ (by rw [n_266 S]; decide)) rfl rfl rfl (fun u_296 q_296 => ?_)
  obtain ⟨I3, L3⟩ := u_296
  obtain ⟨F3, f3, e3, k3⟩ := q_296
  dsimp only at F3 f3 e3 k3
  rw [eS] at F3
  have h3 : HR I3 266 0 64 (spOut (blS (fun k => I 179 (0 + k)) (I 186 1))) := HR.give F3 (by decide)
  have G3 : FR (fun a => a = 266) K M I3 L3 := ((F1.tr F2).fr (p := fun a => a = 266)).tr (FR.give (p := fun a => a = 266) F3 f3 rfl) (fun a x => ⟨x, x⟩)
  have z3 : ∀ a j, (a < 175 ∨ 176 ≤ a ∧ a ≤ 194) → I3 a j = I a j := fun a j x => (G3.1 a j (by omega) (Or.inl (by omega))).trans (R0.1 a j (by omega) (fun z => z))
  have rb3 : RB I3 := ⟨fun s a b => by rw [z3 186 s (by omega)]; exact rb.1 s a b, by rw [G3.1 175 3 (by decide) (Or.inr (by decide)), R0.2.1]; exact rb.2⟩
  have D3 := D.fr G3 (by decide)
  show AW l G M_Mo_dsaVerify P 299 [(2, vi (-1)), (0, vr 175)] [] (sD h I3 L3)
  refine aw_aload_n d_Mo_dsaVerify_299 rfl rfl ?_
  refine aw_aload_n d_Mo_dsaVerify_300 rfl rfl ?_
  refine ax_getR (b := 266) d_Mo_dsaVerify_301 fd_Mo_96 (k_175 S) (r_175_42 S) ?_
  refine aw_iconst d_Mo_dsaVerify_304 ⟨by decide, by decide⟩ ?_
  refine aw_iload_n d_Mo_dsaVerify_305 rfl rfl ?_
  refine ax_Vr (st := []) (as := [vr 266, vi 0, vi (-1)]) (b := 175) d_Mo_dsaVerify_306 cs_Mo_dsaVerify_306 (k_175 S) (c_Mo_digestMessageN (f := 266) (pa := 0) S D3.1 rb3 ⟨k_266 S, by decide, by decide⟩ (by rw [n_266 S]; decide)) rfl rfl rfl (fun u_306 q_306 => ?_)
  obtain ⟨I4, L4⟩ := u_306
  obtain ⟨F4, h4_⟩ := q_306
  dsimp only at F4 h4_
  rw [z3 186 4 (by omega), z3 186 3 (by omega), show (fun k => I3 182 (0 + k)) = (fun k => I 182 (0 + k)) from funext (fun z => z3 182 _ (by omega)), show (fun k => I3 181 (0 + k)) = (fun k => I 181 (0 + k)) from funext (fun z => z3 181 _ (by omega)), dgS_congr (gk' := (spOut (blS (fun k => I 179 (0 + k)) (I 186 1)))) (fun k hk => by rw [h3 k (by omega) (by omega), spOut_m])] at h4_
  have h4_ : HR I4 265 0 64 (muW I (-1 : Int)) := h4_
  have D4 := D3.fr F4 (by decide)
  have G4 : FR (fun a => a = 265 ∨ a = 266) K M I4 L4 := G3.tr F4 (by intro a x; omega)
  have eB : blS (fun k => I4 183 (0 + k)) 32 = vfBs 0 (rgR I) := blS_congr (fun k hk => by rw [G4.1 183 _ (by decide) (Or.inl (by decide)), R0.1 183 _ (by omega) (fun z => z), Int.zero_add, rg_in (show I 186 5 = 2420 from pre.1) (by omega) (by omega)]; omega)
  show AW l G M_Mo_dsaVerify P 309 [(2, vi (-1)), (0, vr 175)] [] (sD h I4 L4)
  refine aw_aload_n d_Mo_dsaVerify_309 rfl rfl ?_
  refine aw_aload_n d_Mo_dsaVerify_310 rfl rfl ?_
  refine aw_aload_n d_Mo_dsaVerify_311 rfl rfl ?_
  refine ax_getR (b := 204) d_Mo_dsaVerify_312 fd_Mo_76 (k_175 S) (r_175_28 S) ?_
  refine aw_bipush d_Mo_dsaVerify_315 ⟨by decide, by decide⟩ (by decide) ?_
  refine ax_aald (b := 251) d_Mo_dsaVerify_317 ⟨by rw [(k_204 S)]; decide, by rw [(k_204 S)]; decide⟩ (by omega) (by rw [n_204 S]; omega) (g_204 S (j := 46) (by decide) (by decide)) ?_
  refine aw_aload_n d_Mo_dsaVerify_318 rfl rfl ?_
  refine ax_getR (b := 177) d_Mo_dsaVerify_319 fd_Mo_15 (k_175 S) (r_175_1 S) ?_
  refine aw_iconst d_Mo_dsaVerify_322 ⟨by decide, by decide⟩ ?_
  refine ax_aald (b := 183) d_Mo_dsaVerify_323 ⟨by rw [(k_177 S)]; decide, by rw [(k_177 S)]; decide⟩ (by omega) (by rw [n_177 S]; omega) (g_177 S (j := 5) (by decide) (by decide)) ?_
  refine aw_iconst d_Mo_dsaVerify_324 ⟨by decide, by decide⟩ ?_
  refine ax_Vr (st := [vr 175]) (as := [vr 251, vr 183, vi 0]) (b := 175) d_Mo_dsaVerify_325 cs_Mo_dsaVerify_325 (k_175 S) (c_Mo_ball S D4.1 ⟨k_183 S, by decide, by decide⟩ (dr0_38 D4) (dr0_34 D4) (by decide) (by rw [n_183 S]; decide)) rfl rfl rfl (fun u_325 q_325 => ?_)
  obtain ⟨I5, L5, v5⟩ := u_325
  obtain ⟨F5, q5, r5⟩ := q_325
  dsimp only at F5 q5 r5
  rw [eB] at q5 r5
  have G5 : FR (fun a => a = 200 ∨ a = 251) I4 L4 I5 L5 := ⟨fun a j x y => F5.1 a j (by rcases y with y | y; exact Or.inl y; exact Or.inr ⟨y.1, y.2.1, y.2.2.1⟩) (fun z => x (Or.inl z)) (fun z => x (Or.inr z)), fun a j x y z u _ => F5.2 a j x y z u⟩
  have GB : FR (fun a => a = 265 ∨ a = 266 ∨ a = 200 ∨ a = 251) K M I5 L5 := G4.tr G5 (by intro a x; omega)
  show AW l G M_Mo_dsaVerify P 328 [(2, vi (-1)), (0, vr 175)] [vi v5, vr 175] (sD h I5 L5)
  rcases q5 with ⟨vz, bn⟩ | ⟨vz, bn⟩
  · subst vz
    refine aw_iconst d_Mo_dsaVerify_328 ⟨by decide, by decide⟩ ?_
    refine ax_V (st := []) (as := [vi 1, vi 4]) (b := 175) (v := some (vi 1)) (h' := sD h (a_up I5 175 4 0) L5) d_Mo_dsaVerify_329 cs_Mo_dsaVerify_329 (k_175 S) (c_good1 S rfl) rfl rfl rfl ?_
    show AW l G M_Mo_dsaVerify P 332 [(2, vi (-1)), (0, vr 175)] [vi 1] (sD h (a_up I5 175 4 0) L5)
    refine aw_if_ne (tgt := 337) d_Mo_dsaVerify_332 (by decide) (fun c_332 => ?_) (fun c_332 => False.elim (by omega))
    refine aw_aload_n d_Mo_dsaVerify_337 rfl rfl ?_
    refine ax_getR (b := 204) d_Mo_dsaVerify_338 fd_Mo_76 (k_175 S) (r_175_28 S) ?_
    refine aw_bipush d_Mo_dsaVerify_341 ⟨by decide, by decide⟩ (by decide) ?_
    refine ax_aald (b := 251) d_Mo_dsaVerify_343 ⟨by rw [(k_204 S)]; decide, by rw [(k_204 S)]; decide⟩ (by omega) (by rw [n_204 S]; omega) (g_204 S (j := 46) (by decide) (by decide)) ?_
    refine ax_S (st := []) (as := [vr 251]) (v := none) (h' := sD h (rowTo (a_up I5 175 4 0) 251 256 (fun x => ((a_up I5 175 4 0) 251 x + 8380417) % 8380417)) L5) d_Mo_dsaVerify_344 cs_Mo_dsaVerify_344 (c_Mo_positive ⟨k_251 S, by decide, n_251 S⟩ (fun x a b => by rw [a_up_ne (Or.inl (by decide)), r5 bn x a b]; have := blX_b (tau := 39) (s := vfBs 0 (rgR I)) x; omega)) rfl rfl rfl ?_
    show AW l G M_Mo_dsaVerify P 347 [(2, vi (-1)), (0, vr 175)] [] (sD h (rowTo (a_up I5 175 4 0) 251 256 (fun x => ((a_up I5 175 4 0) 251 x + 8380417) % 8380417)) L5)
    refine aw_aload_n d_Mo_dsaVerify_347 rfl rfl ?_
    refine aw_aload_n d_Mo_dsaVerify_348 rfl rfl ?_
    refine ax_getR (b := 204) d_Mo_dsaVerify_349 fd_Mo_76 (k_175 S) (r_175_28 S) ?_
    refine aw_bipush d_Mo_dsaVerify_352 ⟨by decide, by decide⟩ (by decide) ?_
    refine ax_aald (b := 251) d_Mo_dsaVerify_354 ⟨by rw [(k_204 S)]; decide, by rw [(k_204 S)]; decide⟩ (by omega) (by rw [n_204 S]; omega) (g_204 S (j := 46) (by decide) (by decide)) ?_
    refine ax_Vr (st := []) (as := [vr 251]) (b := 175) d_Mo_dsaVerify_355 cs_Mo_dsaVerify_355 (k_175 S) (c_Mo_evaluate S ⟨k_251 S, by decide, n_251 S⟩ (by decide) (fun x a b => by rw [rowTo_in a b]; omega) (fun x a b => by rw [rowTo_ne (by decide), a_up_ne (Or.inl (by decide))]; exact (D.fr GB (by decide)).2.2 x a b)) rfl rfl rfl (fun u_355 q_355 => ?_)
    have l5 := q_355
    have GE : FR (fun a => a = 265 ∨ a = 266 ∨ a = 200 ∨ a = 251) K M (rowTo (rowTo (a_up I5 175 4 0) 251 256 (fun x => ((a_up I5 175 4 0) 251 x + 8380417) % 8380417)) 251 256 (eva ((rowTo (a_up I5 175 4 0) 251 256 (fun x => ((a_up I5 175 4 0) 251 x + 8380417) % 8380417)) 251))) u_355 := ((GB.tr (FR.c0 (p := fun a => a = 265 ∨ a = 266 ∨ a = 200 ∨ a = 251)) (fun a x => ⟨x, x⟩)).tr (FR.row (p := fun a => a = 265 ∨ a = 266 ∨ a = 200 ∨ a = 251) (by omega) (fun _ _ _ => rfl)) (fun a x => ⟨x, x⟩)).tr (FR.row (p := fun a => a = 265 ∨ a = 266 ∨ a = 200 ∨ a = 251) (by omega) l5) (fun a x => ⟨x, x⟩)
    have bE : eqQ ((rowTo (rowTo (a_up I5 175 4 0) 251 256 (fun x => ((a_up I5 175 4 0) 251 x + 8380417) % 8380417)) 251 256 (eva ((rowTo (a_up I5 175 4 0) 251 256 (fun x => ((a_up I5 175 4 0) 251 x + 8380417) % 8380417)) 251))) 251) (vfB 0 (rgR I)) := fun x a b => by rw [rowTo_in a b]; show eva _ x = fwd rt (fun j => blX 39 (vfBs 0 (rgR I)) j % 8380417) x; rw [fwd_eva a b]; exact eva_cq (fun y hy => cq.e (by rw [rowTo_in (by omega) (by omega), a_up_ne (Or.inl (by decide)), r5 bn y (by omega) (by omega), Int.add_emod_right]))
    have mE : HR (rowTo (rowTo (a_up I5 175 4 0) 251 256 (fun x => ((a_up I5 175 4 0) 251 x + 8380417) % 8380417)) 251 256 (eva ((rowTo (a_up I5 175 4 0) 251 256 (fun x => ((a_up I5 175 4 0) 251 x + 8380417) % 8380417)) 251))) 265 0 64 (muW I (-1 : Int)) := fun z x y => by rw [rowTo_ne (by decide), rowTo_ne (by decide), a_up_ne (Or.inl (by decide)), G5.1 265 _ (by decide) (Or.inl (by decide))]; exact h4_ z x y
    have cE : (rowTo (rowTo (a_up I5 175 4 0) 251 256 (fun x => ((a_up I5 175 4 0) 251 x + 8380417) % 8380417)) 251 256 (eva ((rowTo (a_up I5 175 4 0) 251 256 (fun x => ((a_up I5 175 4 0) 251 x + 8380417) % 8380417)) 251))) 175 4 = 0 := by rw [rowTo_ne (by decide), rowTo_ne (by decide), a_up_at]
    show AW l G M_Mo_dsaVerify P 358 [(2, vi (-1)), (0, vr 175)] [] (sD h (rowTo (rowTo (a_up I5 175 4 0) 251 256 (fun x => ((a_up I5 175 4 0) 251 x + 8380417) % 8380417)) 251 256 (eva ((rowTo (a_up I5 175 4 0) 251 256 (fun x => ((a_up I5 175 4 0) 251 x + 8380417) % 8380417)) 251))) u_355)
    refine aw_iconst d_Mo_dsaVerify_358 ⟨by decide, by decide⟩ ?_
    refine aw_istore (lv' := [(4, vi 0), (2, vi (-1)), (0, vr 175)]) d_Mo_dsaVerify_359 (by decide) rfl ?_
    have lp_361 : ∀ (n_ : Nat) (i : Int) (K6 : Nat → Int → Int) (M6 : Nat → Int → Int), (0 ≤ i ∧ i ≤ 4) → (FR (fun a => a = 265 ∨ a = 266 ∨ a = 200 ∨ a = 251 ∨ 205 ≤ a ∧ a < 209) K M K6 M6) → (∀ a j, (a < 205 ∨ 209 ≤ a) → K6 a j = (rowTo (rowTo (a_up I5 175 4 0) 251 256 (fun x => ((a_up I5 175 4 0) 251 x + 8380417) % 8380417)) 251 256 (eva ((rowTo (a_up I5 175 4 0) 251 256 (fun x => ((a_up I5 175 4 0) 251 x + 8380417) % 8380417)) 251))) a j) → (∀ m, 0 ≤ m → m < i → eqQ (K6 (205 + m.toNat)) (fwd rt ((vfZ 0 (rgR I)) m))) → (∀ m, 0 ≤ m → i ≤ m → m < 4 → eqQ (K6 (205 + m.toNat)) ((vfZs 0 (rgR I)) m)) → ((4 - i).toNat) = n_ → AW l G M_Mo_dsaVerify P 361 [(4, vi i), (0, vr 175)] [] (sD h K6 M6) := by
      intro n_
      induction n_ using Nat.strongRecOn with
      | _ n_ ih_361 =>
      intro i K6 M6 hi G6 f6 dn td hm_361
      refine aw_iload d_Mo_dsaVerify_361 rfl ?_
      refine aw_aload_n d_Mo_dsaVerify_363 rfl rfl ?_
      refine ax_getIe (x := 4) d_Mo_dsaVerify_364 fd_Mo_226 (k_175 S) (Eq.trans (G6.1 175 32 (by omega) (Or.inr (by decide))) (dr0_32 D)) ?_
      refine aw_icmp_ge (tgt := 397) d_Mo_dsaVerify_367 (by decide) (fun c_367 => ?_) (fun c_367 => ?_)
      · skip
        refine aw_aload_n d_Mo_dsaVerify_397 rfl rfl ?_
        refine aw_iconst d_Mo_dsaVerify_398 ⟨by decide, by decide⟩ ?_
        refine ax_putI d_Mo_dsaVerify_399 fd_Mo_216 (k_175 S) (by decide) rfl ?_
        refine aw_sub (lv' := [(0, vr 175)]) (by simp) ?_
        exact vD0N S (fR0.fr (fR0.fr R0 G6 (r := qN) (by intro a x y; exact ⟨fun z => z, by omega⟩) (by omega)) (FR.b0 (p := fun _ => False)) (by intro a x y; exact ⟨fun z => z, fun z => z⟩) (fun z => z)) ((D.fr G6 (by omega)).fr (FR.b0 (p := fun _ => False)) ⟨fun z => z, fun z => z, fun z => z⟩) rg b1 b2 pre bn (fun x a b => by rw [a_up_ne (Or.inl (by decide)), f6 251 x (by omega)]; exact bE x a b) (fun m a b x u v => by rw [a_up_ne (Or.inl (by omega))]; exact dn m a (by omega) x u v) (a_up_at.trans (by decide)) (fun z x y => by rw [a_up_ne (Or.inl (by decide)), f6 265 _ (by omega)]; exact mE z x y) (by rw [a_up_ne (Or.inr (by decide)), f6 175 4 (by omega)]; exact cE) (fun m a b c x y => by rw [a_up_ne (Or.inl (by omega)), G6.1 _ _ (by omega) (Or.inl (by omega))]; exact tb m a b c x y) hP
      · skip
        refine aw_aload_n d_Mo_dsaVerify_370 rfl rfl ?_
        refine ax_getR (b := 204) d_Mo_dsaVerify_371 fd_Mo_76 (k_175 S) (r_175_28 S) ?_
        refine aw_iload d_Mo_dsaVerify_374 rfl ?_
        refine ax_aald (b := 205 + i.toNat) d_Mo_dsaVerify_376 ⟨by rw [(k_204 S)]; decide, by rw [(k_204 S)]; decide⟩ (by omega) (by rw [n_204 S]; omega) (g_204 S (by omega) (by omega)) ?_
        refine ax_S (st := []) (as := [vr (205 + i.toNat)]) (v := none) (h' := sD h (rowTo K6 (205 + i.toNat) 256 (fun x => (K6 (205 + i.toNat) x + 8380417) % 8380417)) M6) d_Mo_dsaVerify_377 cs_Mo_dsaVerify_377 (c_Mo_positive ⟨kr_204 S (by omega), by omega, nr_204 S (by omega)⟩ (fun x a b => by rw [td i hi.1 (Int.le_refl _) (by omega) x a b]; have := (show -131072 < (vfZs 0 (rgR I)) i x ∧ (vfZs 0 (rgR I)) i x ≤ 131072 from ⟨by have := (vfZs_b (s := 0) (g := (rgR I)) (m := i) (j := x)).1; rw [show pG1 0 - 2 ^ (pB 0).toNat = -131072 from by decide] at this; exact this, (vfZs_b (s := 0) (g := (rgR I)) (m := i) (j := x)).2⟩); omega)) rfl rfl rfl ?_
        show AW l G M_Mo_dsaVerify P 380 [(4, vi i), (0, vr 175)] [] (sD h (rowTo K6 (205 + i.toNat) 256 (fun x => (K6 (205 + i.toNat) x + 8380417) % 8380417)) M6)
        refine aw_aload_n d_Mo_dsaVerify_380 rfl rfl ?_
        refine aw_aload_n d_Mo_dsaVerify_381 rfl rfl ?_
        refine ax_getR (b := 204) d_Mo_dsaVerify_382 fd_Mo_76 (k_175 S) (r_175_28 S) ?_
        refine aw_iload d_Mo_dsaVerify_385 rfl ?_
        refine ax_aald (b := 205 + i.toNat) d_Mo_dsaVerify_387 ⟨by rw [(k_204 S)]; decide, by rw [(k_204 S)]; decide⟩ (by omega) (by rw [n_204 S]; omega) (g_204 S (by omega) (by omega)) ?_
        refine ax_Vr (st := []) (as := [vr (205 + i.toNat)]) (b := 175) d_Mo_dsaVerify_388 cs_Mo_dsaVerify_388 (k_175 S) (c_Mo_evaluate S ⟨kr_204 S (by omega), by omega, nr_204 S (by omega)⟩ (by omega) (fun x a b => by rw [rowTo_in a b]; omega) (fun x a b => by rw [rowTo_ne (by omega)]; exact (D.fr G6 (by omega)).2.2 x a b)) rfl rfl rfl (fun u_388 q_388 => ?_)
        have l6 := q_388
        show AW l G M_Mo_dsaVerify P 391 [(4, vi i), (0, vr 175)] [] (sD h (rowTo (rowTo K6 (205 + i.toNat) 256 (fun x => (K6 (205 + i.toNat) x + 8380417) % 8380417)) (205 + i.toNat) 256 (eva ((rowTo K6 (205 + i.toNat) 256 (fun x => (K6 (205 + i.toNat) x + 8380417) % 8380417)) (205 + i.toNat)))) u_388)
        refine ax_iinc (lv' := [(4, vi (i + 1)), (0, vr 175)]) d_Mo_dsaVerify_391 rfl (by decide) ⟨(by omega), (by omega)⟩ rfl ?_
        refine aw_goto (tgt := 361) d_Mo_dsaVerify_394 (by decide) ?_
        exact ih_361 _ (by omega) (i + 1) (rowTo (rowTo K6 (205 + i.toNat) 256 (fun x => (K6 (205 + i.toNat) x + 8380417) % 8380417)) (205 + i.toNat) 256 (eva ((rowTo K6 (205 + i.toNat) 256 (fun x => (K6 (205 + i.toNat) x + 8380417) % 8380417)) (205 + i.toNat)))) u_388 (by omega) ((G6.tr (FR.row (p := fun a => a = 265 ∨ a = 266 ∨ a = 200 ∨ a = 251 ∨ 205 ≤ a ∧ a < 209) (by omega) (fun _ _ _ => rfl)) (fun a x => ⟨x, x⟩)).tr (FR.row (p := fun a => a = 265 ∨ a = 266 ∨ a = 200 ∨ a = 251 ∨ 205 ≤ a ∧ a < 209) (by omega) l6) (fun a x => ⟨x, x⟩)) (fun a j x => by rw [rowTo_ne (by omega), rowTo_ne (by omega)]; exact f6 a j x) (fun m a b x u v => by by_cases z : m = i; exact (by rw [z, rowTo_in u v, fwd_eva u v]; exact eva_cq (fun t ht => cq.e (by rw [rowTo_in (by omega) (by omega), td i hi.1 (Int.le_refl _) (by omega) t (by omega) (by omega), vfZ_Zs, Int.add_emod_right]))); exact (by rw [rowTo_ne (by omega), rowTo_ne (by omega)]; exact dn m a (by omega) x u v)) (fun m a b c x u v => by rw [rowTo_ne (by omega), rowTo_ne (by omega)]; exact td m a (by omega) c x u v) rfl
    skip
    refine aw_sub (lv' := [(4, vi 0), (0, vr 175)]) (by simp) ?_
    exact lp_361 _ 0 (rowTo (rowTo (a_up I5 175 4 0) 251 256 (fun x => ((a_up I5 175 4 0) 251 x + 8380417) % 8380417)) 251 256 (eva ((rowTo (a_up I5 175 4 0) 251 256 (fun x => ((a_up I5 175 4 0) 251 x + 8380417) % 8380417)) 251))) u_355 (by omega) (GE.mono (by intro a x; omega)) (fun _ _ _ => rfl) (fun m a b => by omega) (fun m a b c x u v => by rw [GE.1 _ _ (by omega) (Or.inl (by omega))]; exact hZ m a c x u v) rfl
  · subst vz
    refine aw_iconst d_Mo_dsaVerify_328 ⟨by decide, by decide⟩ ?_
    refine ax_V (st := []) (as := [vi 0, vi 4]) (b := 175) (v := some (vi 0)) (h' := sD h (a_up I5 175 4 4) L5) d_Mo_dsaVerify_329 cs_Mo_dsaVerify_329 (k_175 S) (c_good0 S rfl) rfl rfl rfl ?_
    show AW l G M_Mo_dsaVerify P 332 [(2, vi (-1)), (0, vr 175)] [vi 0] (sD h (a_up I5 175 4 4) L5)
    refine aw_if_ne (tgt := 337) d_Mo_dsaVerify_332 (by decide) (fun c_332 => False.elim (by omega)) (fun c_332 => ?_)
    refine aw_iconst d_Mo_dsaVerify_335 ⟨by decide, by decide⟩ ?_
    exact aw_zret d_Mo_dsaVerify_336 rfl ⟨by decide, by decide⟩ (hP _ _ (rsNo 0 4 (c4_4 ⟨by decide, by decide⟩ b1 b2 (fun z => (z pre).1 bn)) (by decide) a_up_at (fR0.fr (fR0.fr R0 GB (r := qN) (by intro a x y; exact ⟨fun z => z, by omega⟩) (by decide)) (FR.c0 (p := fun _ => False)) (by intro a x y; exact ⟨fun z => z, fun z => z⟩) (fun z => z))))
set_option maxHeartbeats 4000000 in
set_option maxRecDepth 100000 in
theorem vB0N {l : Launch} {G : a_G} {P : a_R → Hp → Prop} {h : Hp} {I L K M : Nat → Int → Int} (S : Shp h) (R0 : fR0 qN I L K M) (D : RD K M 0) (rg : ∀ j, -128 ≤ I 183 j ∧ I 183 j ≤ 127) (b1 : (-1 : Int) ≠ 0 ∨ I 186 4 ≤ 255) (b2 : I 186 1 = 32 + 320 * pK 0) (rb : RB I) (p1 : I 186 5 = sPkt 0) (p2 : hSt (rgR I) (sO3 0) (pW 0) (pK 0)) (h4 : K 175 4 = 0) (tb : ∀ m, 0 ≤ m → m < 4 → tbl K (rgR I) 2336 80 m) (hP : ∀ r_ h2_, RsR h I L (c4 ((0 ≤ (0 : Int) ∧ (0 : Int) < 3) ∧ ((-1 : Int) = 0 ∨ (-1 : Int) = -1)) ((-1 : Int) ≠ 0 ∨ I 186 4 ≤ 255) (I 186 1 = 32 + 320 * pK (0 : Int)) (vfPre (0 : Int) (rgR I) (I 186 5) → vfOk (0 : Int) (rpR I) (rgR I))) (fun a => a = 184 ∨ a = 186) (fun v I' L' => (¬ vfPre (0 : Int) (rgR I) (I 186 5) ∧ v = 0 ∧ fR0 qN I L I' L') ∨ (vfPre (0 : Int) (rgR I) (I 186 5) ∧ ((∀ j, j ≠ 6 → I' 186 j = I 186 j) ∧ I' 186 6 = pC (0 : Int)) ∧ (HR I' 184 0 (pC (0 : Int)) (vfC (0 : Int) (rpR I) (rgR I) (muW I (-1 : Int))) ∧ rng (I 184) (I' 184)) ∧ (v = 0 ∨ v = 1) ∧ (v = 1 ↔ ∀ j, 0 ≤ j → j < pC (0 : Int) → vfC (0 : Int) (rpR I) (rgR I) (muW I (-1 : Int)) j = rgR I j))) r_ h2_ → P r_ h2_) : AW l G M_Mo_dsaVerify P 140 [(3, vi 2336), (2, vi (-1)), (0, vr 175)] [] (sD h K M) := by
  refine aw_aload_n d_Mo_dsaVerify_140 rfl rfl ?_
  refine aw_iconst d_Mo_dsaVerify_141 ⟨by decide, by decide⟩ ?_
  refine ax_putI d_Mo_dsaVerify_142 fd_Mo_216 (k_175 S) (by decide) rfl ?_
  refine aw_iconst d_Mo_dsaVerify_145 ⟨by decide, by decide⟩ ?_
  refine aw_istore (lv' := [(4, vi 0), (3, vi 2336), (2, vi (-1)), (0, vr 175)]) d_Mo_dsaVerify_146 (by decide) rfl ?_
  have lp_148 : ∀ (n_ : Nat) (i : Int) (K2 : Nat → Int → Int), (0 ≤ i ∧ i ≤ 4) → (FR (fun a => 205 ≤ a ∧ a < 209) K M K2 M) → (K2 175 23 = 8 * (576 * i)) → (∀ m, 0 ≤ m → m < i → eqQ (K2 (205 + m.toNat)) ((vfZs 0 (rgR I)) m) ∧ wiN 130994 ((vfZ 0 (rgR I)) m)) → (K2 175 4 = 0) → ((4 - i).toNat) = n_ → AW l G M_Mo_dsaVerify P 148 [(4, vi i), (3, vi 2336), (2, vi (-1)), (0, vr 175)] [] (sD h K2 M) := by
    intro n_
    induction n_ using Nat.strongRecOn with
    | _ n_ ih_148 =>
    intro i K2 hi F2 bb dn h42 hm_148
    refine aw_iload d_Mo_dsaVerify_148 rfl ?_
    refine aw_aload_n d_Mo_dsaVerify_150 rfl rfl ?_
    refine ax_getIe (x := 4) d_Mo_dsaVerify_151 fd_Mo_226 (k_175 S) (Eq.trans (F2.1 175 32 (by omega) (Or.inr (by decide))) (dr0_32 D)) ?_
    refine aw_icmp_ge (tgt := 265) d_Mo_dsaVerify_154 (by decide) (fun c_154 => ?_) (fun c_154 => ?_)
    · skip
      refine aw_sub (lv' := [(2, vi (-1)), (0, vr 175)]) (by simp) ?_
      exact vC0N S (fR0.fr R0 F2 (by intro a x y; exact ⟨fun z => z, by omega⟩) (by omega)) (D.fr F2 (by omega)) rg b1 b2 rb ⟨p1, p2, fun m a b => (dn m a (by have b2 : m < 4 := b; omega)).2⟩ (fun m a b => (dn m a (by omega)).1) (fun m a b c x y => by rw [F2.1 _ _ (by omega) (Or.inl (by omega))]; exact tb m a b c x y) hP
    · skip
      refine aw_aload_n d_Mo_dsaVerify_157 rfl rfl ?_
      refine aw_aload_n d_Mo_dsaVerify_158 rfl rfl ?_
      refine ax_getR (b := 177) d_Mo_dsaVerify_159 fd_Mo_15 (k_175 S) (r_175_1 S) ?_
      refine aw_iconst d_Mo_dsaVerify_162 ⟨by decide, by decide⟩ ?_
      refine ax_aald (b := 183) d_Mo_dsaVerify_163 ⟨by rw [(k_177 S)]; decide, by rw [(k_177 S)]; decide⟩ (by omega) (by rw [n_177 S]; omega) (g_177 S (j := 5) (by decide) (by decide)) ?_
      refine aw_aload_n d_Mo_dsaVerify_164 rfl rfl ?_
      refine ax_getIe (x := 32) d_Mo_dsaVerify_165 fd_Mo_248 (k_175 S) (Eq.trans (F2.1 175 38 (by omega) (Or.inr (by decide))) (dr0_38 D)) ?_
      refine aw_aload_n d_Mo_dsaVerify_168 rfl rfl ?_
      refine ax_getR (b := 204) d_Mo_dsaVerify_169 fd_Mo_76 (k_175 S) (r_175_28 S) ?_
      refine aw_iload d_Mo_dsaVerify_172 rfl ?_
      refine ax_aald (b := 205 + i.toNat) d_Mo_dsaVerify_174 ⟨by rw [(k_204 S)]; decide, by rw [(k_204 S)]; decide⟩ (by omega) (by rw [n_204 S]; omega) (g_204 S (by omega) (by omega)) ?_
      refine aw_aload_n d_Mo_dsaVerify_175 rfl rfl ?_
      refine ax_getIe (x := 131072) d_Mo_dsaVerify_176 fd_Mo_237 (k_175 S) (Eq.trans (F2.1 175 35 (by omega) (Or.inr (by decide))) (dr0_35 D)) ?_
      refine aw_aload_n d_Mo_dsaVerify_179 rfl rfl ?_
      refine ax_getIe (x := 18) d_Mo_dsaVerify_180 fd_Mo_251 (k_175 S) (Eq.trans (F2.1 175 39 (by omega) (Or.inr (by decide))) (dr0_39 D)) ?_
      refine ax_Vr (st := []) (as := [vr 183, vi 32, vr (205 + i.toNat), vi 131072, vi 18]) (b := 175) d_Mo_dsaVerify_183 cs_Mo_dsaVerify_183 (k_175 S) (c_Mo_unpack (pa := 32) (c := 576 * i) (d := 18) (b := 131072) S ⟨k_183 S, by decide, by decide⟩ ⟨kr_204 S (by omega), by omega, nr_204 S (by omega)⟩ (by omega) (by decide) (by omega) (by decide) (by rw [n_183 S]; omega)) rfl rfl rfl (fun u_183 q_183 => ?_)
      obtain ⟨q1, q2, q3⟩ := q_183
      have F3 : FR (fun a => 205 ≤ a ∧ a < 209) K M u_183 M := F2.tr (FR.unp (p := fun a => 205 ≤ a ∧ a < 209) q1 (by omega)) (fun a x => ⟨x, x⟩)
      have z3 : eqQ (u_183 (205 + i.toNat)) ((vfZs 0 (rgR I)) i) := fun x u v => by rw [q3 x u v, gR_congr (g := fun j => K2 183 (32 + 576 * i + j) % 256) (g' := fun j => rgR I (32 + 576 * i + j)) (fun y y0 y1 => by rw [F2.1 183 _ (by omega) (Or.inl (by decide)), R0.1 183 _ (by omega) (fun z => z), rg_in (show I 186 5 = 2420 from p1) (by omega) (by omega)])]; rfl
      show AW l G M_Mo_dsaVerify P 186 [(4, vi i), (3, vi 2336), (2, vi (-1)), (0, vr 175)] [] (sD h u_183 M)
      refine aw_iconst d_Mo_dsaVerify_186 ⟨by decide, by decide⟩ ?_
      refine aw_istore (lv' := [(5, vi 0), (4, vi i), (3, vi 2336), (2, vi (-1)), (0, vr 175)]) d_Mo_dsaVerify_187 (by decide) rfl ?_
      have lp_189 : ∀ (n_ : Nat) (c : Int), (0 ≤ c ∧ c ≤ 256) → (∀ x, 0 ≤ x → x < c → -130994 < (vfZs 0 (rgR I)) i x ∧ (vfZs 0 (rgR I)) i x < 130994) → ((256 - c).toNat) = n_ → AW l G M_Mo_dsaVerify P 189 [(5, vi c), (4, vi i), (3, vi 2336), (2, vi (-1)), (0, vr 175)] [] (sD h u_183 M) := by
        intro n_
        induction n_ using Nat.strongRecOn with
        | _ n_ ih_189 =>
        intro c hc wk hm_189
        have zc : c < 256 → u_183 (205 + i.toNat) c = (vfZs 0 (rgR I)) i c := fun v => z3 c hc.1 v
        refine aw_iload d_Mo_dsaVerify_189 rfl ?_
        refine aw_sipush d_Mo_dsaVerify_191 ⟨by decide, by decide⟩ (by decide) ?_
        refine aw_icmp_ge (tgt := 259) d_Mo_dsaVerify_194 (by decide) (fun c_194 => ?_) (fun c_194 => ?_)
        · skip
          refine ax_iinc (lv' := [(4, vi (i + 1)), (5, vi c), (3, vi 2336), (2, vi (-1)), (0, vr 175)]) d_Mo_dsaVerify_259 rfl (by decide) ⟨(by omega), (by omega)⟩ rfl ?_
          refine aw_goto (tgt := 148) d_Mo_dsaVerify_262 (by decide) ?_
          refine aw_sub (lv' := [(4, vi (i + 1)), (3, vi 2336), (2, vi (-1)), (0, vr 175)]) (by simp) ?_
          exact ih_148 _ (by omega) (i + 1) u_183 (by omega) (F3) (by omega) (fun m a b => by by_cases z : m = i; exact (by rw [z]; exact ⟨z3, fun x u v => by have w_ := (zl0 (t := 130994) (by decide) (show -131072 < (vfZs 0 (rgR I)) i x ∧ (vfZs 0 (rgR I)) i x ≤ 131072 from ⟨by have := (vfZs_b (s := 0) (g := (rgR I)) (m := i) (j := x)).1; rw [show pG1 0 - 2 ^ (pB 0).toNat = -131072 from by decide] at this; exact this, (vfZs_b (s := 0) (g := (rgR I)) (m := i) (j := x)).2⟩)); rw [vfZ_Zs]; exact fun q_ => by have w2 := w_.2 q_; have w3 := wk x u (by omega); omega⟩); exact ⟨fun x u v => by rw [q1 _ _ (by omega) (Or.inl (by omega))]; exact (dn m a (by omega)).1 x u v, (dn m a (by omega)).2⟩) ((q1 175 4 (by omega) (Or.inr (by decide))).trans h42) rfl
        · skip
          have zb := (show -131072 < (vfZs 0 (rgR I)) i c ∧ (vfZs 0 (rgR I)) i c ≤ 131072 from ⟨by have := (vfZs_b (s := 0) (g := (rgR I)) (m := i) (j := c)).1; rw [show pG1 0 - 2 ^ (pB 0).toNat = -131072 from by decide] at this; exact this, (vfZs_b (s := 0) (g := (rgR I)) (m := i) (j := c)).2⟩)
          have wz := zl0 (t := 130994) (by decide) zb
          refine aw_aload_n d_Mo_dsaVerify_197 rfl rfl ?_
          refine ax_getR (b := 204) d_Mo_dsaVerify_198 fd_Mo_76 (k_175 S) (r_175_28 S) ?_
          refine aw_iload d_Mo_dsaVerify_201 rfl ?_
          refine ax_aald (b := 205 + i.toNat) d_Mo_dsaVerify_203 ⟨by rw [(k_204 S)]; decide, by rw [(k_204 S)]; decide⟩ (by omega) (by rw [n_204 S]; omega) (g_204 S (by omega) (by omega)) ?_
          refine aw_iload d_Mo_dsaVerify_204 rfl ?_
          refine ax_ialde (x := (vfZs 0 (rgR I)) i c) d_Mo_dsaVerify_206 (kr_204 S (by omega)) (by omega) (by rw [nr_204 S (by omega)]; omega) (zc (by omega)) ?_
          refine aw_aload_n d_Mo_dsaVerify_207 rfl rfl ?_
          refine ax_getIe (x := 131072) d_Mo_dsaVerify_208 fd_Mo_237 (k_175 S) (Eq.trans (F3.1 175 35 (by omega) (Or.inr (by decide))) (dr0_35 D)) ?_
          refine aw_aload_n d_Mo_dsaVerify_211 rfl rfl ?_
          refine ax_getIe (x := 39) d_Mo_dsaVerify_212 fd_Mo_232 (k_175 S) (Eq.trans (F3.1 175 34 (by omega) (Or.inr (by decide))) (dr0_34 D)) ?_
          refine aw_aload_n d_Mo_dsaVerify_215 rfl rfl ?_
          refine ax_getIe (x := 2) d_Mo_dsaVerify_216 fd_Mo_229 (k_175 S) (Eq.trans (F3.1 175 33 (by omega) (Or.inr (by decide))) (dr0_33 D)) ?_
          refine ax_imul d_Mo_dsaVerify_219 ⟨(by omega), (by omega)⟩ ?_
          refine ax_ti (x := 78) (by decide) ?_
          refine ax_isub d_Mo_dsaVerify_220 ⟨(by omega), (by omega)⟩ ?_
          refine ax_ti (x := 130994) (by decide) ?_
          refine aw_icmp_ge (tgt := 251) d_Mo_dsaVerify_221 (by decide) (fun c_221 => ?_) (fun c_221 => ?_)
          · skip
            refine aw_iconst d_Mo_dsaVerify_251 ⟨by decide, by decide⟩ ?_
            exact aw_zret d_Mo_dsaVerify_252 rfl ⟨by decide, by decide⟩ (hP _ _ ⟨_, _, _, rfl, rfl, by rw [c4_0 ⟨by decide, by decide⟩ b1 b2 (fun z => absurd z (fun z => by have y := z.2.2 i hi.1 (by show i < 4; omega) c hc.1 (by omega); rw [vfZ_Zs] at y; exact y (wz.1 (by omega))))]; exact (q1 175 4 (by omega) (Or.inr (by decide))).trans h42, Or.inl ⟨c4_0 ⟨by decide, by decide⟩ b1 b2 (fun z => absurd z (fun z => by have y := z.2.2 i hi.1 (by show i < 4; omega) c hc.1 (by omega); rw [vfZ_Zs] at y; exact y (wz.1 (by omega)))), (fR0.fr R0 F3 (r := qN) (by intro a x y; exact ⟨fun z => z, by omega⟩) (by omega)).mono (fun _ _ z => z), Or.inl ⟨(fun z => by have y := z.2.2 i hi.1 (by show i < 4; omega) c hc.1 (by omega); rw [vfZ_Zs] at y; exact y (wz.1 (by omega))), rfl, fR0.fr R0 F3 (by intro a x y; exact ⟨fun z => z, by omega⟩) (by omega)⟩⟩⟩)
          · skip
            refine aw_aload_n d_Mo_dsaVerify_224 rfl rfl ?_
            refine ax_getR (b := 204) d_Mo_dsaVerify_225 fd_Mo_76 (k_175 S) (r_175_28 S) ?_
            refine aw_iload d_Mo_dsaVerify_228 rfl ?_
            refine ax_aald (b := 205 + i.toNat) d_Mo_dsaVerify_230 ⟨by rw [(k_204 S)]; decide, by rw [(k_204 S)]; decide⟩ (by omega) (by rw [n_204 S]; omega) (g_204 S (by omega) (by omega)) ?_
            refine aw_iload d_Mo_dsaVerify_231 rfl ?_
            refine ax_ialde (x := (vfZs 0 (rgR I)) i c) d_Mo_dsaVerify_233 (kr_204 S (by omega)) (by omega) (by rw [nr_204 S (by omega)]; omega) (zc (by omega)) ?_
            refine aw_aload_n d_Mo_dsaVerify_234 rfl rfl ?_
            refine ax_getIe (x := 39) d_Mo_dsaVerify_235 fd_Mo_232 (k_175 S) (Eq.trans (F3.1 175 34 (by omega) (Or.inr (by decide))) (dr0_34 D)) ?_
            refine aw_aload_n d_Mo_dsaVerify_238 rfl rfl ?_
            refine ax_getIe (x := 2) d_Mo_dsaVerify_239 fd_Mo_229 (k_175 S) (Eq.trans (F3.1 175 33 (by omega) (Or.inr (by decide))) (dr0_33 D)) ?_
            refine ax_imul d_Mo_dsaVerify_242 ⟨(by omega), (by omega)⟩ ?_
            refine ax_ti (x := 78) (by decide) ?_
            refine aw_aload_n d_Mo_dsaVerify_243 rfl rfl ?_
            refine ax_getIe (x := 131072) d_Mo_dsaVerify_244 fd_Mo_237 (k_175 S) (Eq.trans (F3.1 175 35 (by omega) (Or.inr (by decide))) (dr0_35 D)) ?_
            refine ax_isub d_Mo_dsaVerify_247 ⟨(by omega), (by omega)⟩ ?_
            refine ax_ti (x := -130994) (by decide) ?_
            refine aw_icmp_gt (tgt := 253) d_Mo_dsaVerify_248 (by decide) (fun c_248 => ?_) (fun c_248 => ?_)
            · skip
              refine ax_iinc (lv' := [(5, vi (c + 1)), (4, vi i), (3, vi 2336), (2, vi (-1)), (0, vr 175)]) d_Mo_dsaVerify_253 rfl (by decide) ⟨(by omega), (by omega)⟩ rfl ?_
              refine aw_goto (tgt := 189) d_Mo_dsaVerify_256 (by decide) ?_
              exact ih_189 _ (by omega) (c + 1) (by omega) (fun x a b => by by_cases z : x = c; exact (by rw [z]; omega); exact wk x a (by omega)) rfl
            · skip
              refine aw_iconst d_Mo_dsaVerify_251 ⟨by decide, by decide⟩ ?_
              exact aw_zret d_Mo_dsaVerify_252 rfl ⟨by decide, by decide⟩ (hP _ _ ⟨_, _, _, rfl, rfl, by rw [c4_0 ⟨by decide, by decide⟩ b1 b2 (fun z => absurd z (fun z => by have y := z.2.2 i hi.1 (by show i < 4; omega) c hc.1 (by omega); rw [vfZ_Zs] at y; exact y (wz.1 (by omega))))]; exact (q1 175 4 (by omega) (Or.inr (by decide))).trans h42, Or.inl ⟨c4_0 ⟨by decide, by decide⟩ b1 b2 (fun z => absurd z (fun z => by have y := z.2.2 i hi.1 (by show i < 4; omega) c hc.1 (by omega); rw [vfZ_Zs] at y; exact y (wz.1 (by omega)))), (fR0.fr R0 F3 (r := qN) (by intro a x y; exact ⟨fun z => z, by omega⟩) (by omega)).mono (fun _ _ z => z), Or.inl ⟨(fun z => by have y := z.2.2 i hi.1 (by show i < 4; omega) c hc.1 (by omega); rw [vfZ_Zs] at y; exact y (wz.1 (by omega))), rfl, fR0.fr R0 F3 (by intro a x y; exact ⟨fun z => z, by omega⟩) (by omega)⟩⟩⟩)
      exact lp_189 _ 0 (by omega) (fun x a b => by omega) rfl
  skip
  exact lp_148 _ 0 (a_up K 175 23 0) (by omega) (FR.b0) (a_up_at.trans (by decide)) (fun m a b => by omega) (by rw [a_up_ne (Or.inr (by decide))]; exact h4) rfl
set_option maxHeartbeats 4000000 in
set_option maxRecDepth 100000 in
theorem c_Mo_dsaVerify0N {l : Launch} {G : a_G} {h : Hp} {I L : Nat → Int → Int} (S : Shp h) (RS : RSt I L) (rb : RB I) (rg : ∀ j, -128 ≤ I 183 j ∧ I 183 j ≤ 127) : AW l G M_Mo_dsaVerify (RsR h I L (c4 ((0 ≤ (0 : Int) ∧ (0 : Int) < 3) ∧ ((-1 : Int) = 0 ∨ (-1 : Int) = -1)) ((-1 : Int) ≠ 0 ∨ I 186 4 ≤ 255) (I 186 1 = 32 + 320 * pK (0 : Int)) (vfPre (0 : Int) (rgR I) (I 186 5) → vfOk (0 : Int) (rpR I) (rgR I))) (fun a => a = 184 ∨ a = 186) (fun v I' L' => (¬ vfPre (0 : Int) (rgR I) (I 186 5) ∧ v = 0 ∧ fR0 qN I L I' L') ∨ (vfPre (0 : Int) (rgR I) (I 186 5) ∧ ((∀ j, j ≠ 6 → I' 186 j = I 186 j) ∧ I' 186 6 = pC (0 : Int)) ∧ (HR I' 184 0 (pC (0 : Int)) (vfC (0 : Int) (rpR I) (rgR I) (muW I (-1 : Int))) ∧ rng (I 184) (I' 184)) ∧ (v = 0 ∨ v = 1) ∧ (v = 1 ↔ ∀ j, 0 ≤ j → j < pC (0 : Int) → vfC (0 : Int) (rpR I) (rgR I) (muW I (-1 : Int)) j = rgR I j)))) 0 (a_ar 0 [vr 175, vi 0, vi (-1)]) [] (sD h I L) := by
  suffices key : ∀ P : a_R → Hp → Prop, (∀ r_ h2_, RsR h I L (c4 ((0 ≤ (0 : Int) ∧ (0 : Int) < 3) ∧ ((-1 : Int) = 0 ∨ (-1 : Int) = -1)) ((-1 : Int) ≠ 0 ∨ I 186 4 ≤ 255) (I 186 1 = 32 + 320 * pK (0 : Int)) (vfPre (0 : Int) (rgR I) (I 186 5) → vfOk (0 : Int) (rpR I) (rgR I))) (fun a => a = 184 ∨ a = 186) (fun v I' L' => (¬ vfPre (0 : Int) (rgR I) (I 186 5) ∧ v = 0 ∧ fR0 qN I L I' L') ∨ (vfPre (0 : Int) (rgR I) (I 186 5) ∧ ((∀ j, j ≠ 6 → I' 186 j = I 186 j) ∧ I' 186 6 = pC (0 : Int)) ∧ (HR I' 184 0 (pC (0 : Int)) (vfC (0 : Int) (rpR I) (rgR I) (muW I (-1 : Int))) ∧ rng (I 184) (I' 184)) ∧ (v = 0 ∨ v = 1) ∧ (v = 1 ↔ ∀ j, 0 ≤ j → j < pC (0 : Int) → vfC (0 : Int) (rpR I) (rgR I) (muW I (-1 : Int)) j = rgR I j))) r_ h2_ → P r_ h2_) → AW l G M_Mo_dsaVerify P 0 [(0, vr 175), (1, vi 0), (2, vi (-1))] [] (sD h I L) from key _ (fun _ _ q => q)
  intro P hP
  refine aw_aload_n d_Mo_dsaVerify_0 rfl rfl ?_
  refine aw_iload_n d_Mo_dsaVerify_1 rfl rfl ?_
  refine aw_iconst d_Mo_dsaVerify_2 ⟨by decide, by decide⟩ ?_
  refine aw_iconst d_Mo_dsaVerify_3 ⟨by decide, by decide⟩ ?_
  refine ax_S (st := [vr 175]) (as := [vi 0, vi 0, vi 2]) (v := some (vi 1)) (h' := sD h I L) d_Mo_dsaVerify_4 cs_Mo_dsaVerify_4 (c_in1 (by decide)) rfl rfl rfl ?_
  show AW l G M_Mo_dsaVerify P 7 [(0, vr 175), (1, vi 0), (2, vi (-1))] [vi 1, vr 175] (sD h I L)
  refine aw_if_eq (tgt := 23) d_Mo_dsaVerify_7 (by decide) (fun c_7 => False.elim (by omega)) (fun c_7 => ?_)
  refine aw_iload_n d_Mo_dsaVerify_10 rfl rfl ?_
  refine aw_iconst d_Mo_dsaVerify_11 ⟨by decide, by decide⟩ ?_
  refine aw_iconst d_Mo_dsaVerify_12 ⟨by decide, by decide⟩ ?_
  refine ax_S (st := [vr 175]) (as := [vi (-1), vi (-1), vi 0]) (v := some (vi 1)) (h' := sD h I L) d_Mo_dsaVerify_13 cs_Mo_dsaVerify_13 (c_in1 (by decide)) rfl rfl rfl ?_
  show AW l G M_Mo_dsaVerify P 16 [(0, vr 175), (1, vi 0), (2, vi (-1))] [vi 1, vr 175] (sD h I L)
  refine aw_if_eq (tgt := 23) d_Mo_dsaVerify_16 (by decide) (fun c_16 => False.elim (by omega)) (fun c_16 => ?_)
  refine aw_iconst d_Mo_dsaVerify_19 ⟨by decide, by decide⟩ ?_
  refine aw_goto (tgt := 24) d_Mo_dsaVerify_20 (by decide) ?_
  refine aw_iconst d_Mo_dsaVerify_24 ⟨by decide, by decide⟩ ?_
  refine ax_V (st := []) (as := [vi 1, vi 1]) (b := 175) (v := some (vi 1)) (h' := sD h (a_up I 175 4 0) L) d_Mo_dsaVerify_25 cs_Mo_dsaVerify_25 (k_175 S) (c_good1 S (rfl)) rfl rfl rfl ?_
  show AW l G M_Mo_dsaVerify P 28 [(0, vr 175), (1, vi 0), (2, vi (-1))] [vi 1] (sD h (a_up I 175 4 0) L)
  refine aw_if_ne (tgt := 33) d_Mo_dsaVerify_28 (by decide) (fun c_28 => ?_) (fun c_28 => False.elim (by omega))
  refine aw_aload_n d_Mo_dsaVerify_33 rfl rfl ?_
  refine aw_iload_n d_Mo_dsaVerify_34 rfl rfl ?_
  refine ax_Vr (st := []) (as := [vi 0]) (b := 175) d_Mo_dsaVerify_35 cs_Mo_dsaVerify_35 (k_175 S) (c_Mo_dsa0 S) rfl rfl rfl (fun u_35 q_35 => ?_)
  obtain ⟨d1, d2, d3⟩ := q_35
  have e0 : ∀ a j, (a < 175 ∨ 176 ≤ a ∧ a ≤ 202 ∨ 204 ≤ a) → u_35 a j = I a j := fun a j x => (d1 a j (by omega) (Or.inl (by omega)) (Or.inl (by omega)) (Or.inl (by omega)) (Or.inl (by omega)) (Or.inl (by omega)) (Or.inl (by omega)) (Or.inl (by omega)) (Or.inl (by omega)) (Or.inl (by omega))).trans (a_up_ne (Or.inl (by omega)))
  have R00 : fR0 qN I L u_35 L := ⟨fun a j x _ => e0 a j (by omega), (d1 175 3 (by decide) (Or.inr (by decide)) (Or.inr (by decide)) (Or.inr (by decide)) (Or.inr (by decide)) (Or.inr (by decide)) (Or.inr (by decide)) (Or.inr (by decide)) (Or.inr (by decide)) (Or.inr (by decide))).trans (a_up_ne (Or.inr (by decide))), fun _ _ _ => rfl⟩
  have D0 : RD u_35 L 0 := ⟨RS.of (fun j => e0 193 j (by omega)) (fun _ => rfl), d2, d3⟩
  have D1 := D0.fr (FR.c0 (p := fun _ => False) (v := 0)) ⟨fun z => z, fun z => z, fun z => z⟩
  have R1 : fR0 qN I L (a_up u_35 175 4 0) L := fR0.fr R00 (FR.c0 (p := fun _ => False)) (by intro a x y; exact ⟨fun z => z, fun z => z⟩) (fun z => z)
  show AW l G M_Mo_dsaVerify P 38 [(0, vr 175), (1, vi 0), (2, vi (-1))] [] (sD h u_35 L)
  refine aw_aload_n d_Mo_dsaVerify_38 rfl rfl ?_
  refine aw_aload_n d_Mo_dsaVerify_39 rfl rfl ?_
  refine aw_iload_n d_Mo_dsaVerify_40 rfl rfl ?_
  by_cases cx_ : (-1 : Int) < 0 ∨ u_35 186 4 ≤ 255
  · skip
    refine ax_V (st := [vr 175]) (as := [vi (-1)]) (b := 175) (v := some (vi 1)) (h' := sD h u_35 L) d_Mo_dsaVerify_41 cs_Mo_dsaVerify_41 (k_175 S) (by have z := c_Mo_context (l := l) (G := G) (h := h) (L := L) (I := u_35) (x := -1) S; rw [if_pos cx_] at z; exact z) rfl rfl rfl ?_
    show AW l G M_Mo_dsaVerify P 44 [(0, vr 175), (1, vi 0), (2, vi (-1))] [vi 1, vr 175] (sD h u_35 L)
    refine aw_iconst d_Mo_dsaVerify_44 ⟨by decide, by decide⟩ ?_
    refine ax_V (st := []) (as := [vi 1, vi 2]) (b := 175) (v := some (vi 1)) (h' := sD h (a_up u_35 175 4 0) L) d_Mo_dsaVerify_45 cs_Mo_dsaVerify_45 (k_175 S) (c_good1 S (rfl)) rfl rfl rfl ?_
    show AW l G M_Mo_dsaVerify P 48 [(0, vr 175), (1, vi 0), (2, vi (-1))] [vi 1] (sD h (a_up u_35 175 4 0) L)
    refine aw_if_eq (tgt := 84) d_Mo_dsaVerify_48 (by decide) (fun c_48 => False.elim (by omega)) (fun c_48 => ?_)
    have bb : (-1 : Int) ≠ 0 ∨ I 186 4 ≤ 255 := by rw [e0 186 4 (by omega)] at cx_; omega
    refine aw_aload_n d_Mo_dsaVerify_51 rfl rfl ?_
    refine aw_aload_n d_Mo_dsaVerify_52 rfl rfl ?_
    refine ax_getR (b := 186) d_Mo_dsaVerify_53 fd_Mo_18 (k_175 S) (r_175_2 S) ?_
    refine aw_iconst d_Mo_dsaVerify_56 ⟨by decide, by decide⟩ ?_
    refine ax_ialde (x := I 186 1) d_Mo_dsaVerify_57 (k_186 S) (by omega) (by rw [n_186 S]; omega) (Eq.trans (a_up_ne (Or.inl (by decide))) (Eq.trans (e0 186 1 (by omega)) (rfl))) ?_
    refine aw_bipush d_Mo_dsaVerify_58 ⟨by decide, by decide⟩ (by decide) ?_
    refine aw_sipush d_Mo_dsaVerify_60 ⟨by decide, by decide⟩ (by decide) ?_
    refine aw_aload_n d_Mo_dsaVerify_63 rfl rfl ?_
    refine ax_getIe (x := 4) d_Mo_dsaVerify_64 fd_Mo_223 (k_175 S) (Eq.trans (a_up_ne (Or.inr (by decide))) (dr0_26 D0)) ?_
    refine ax_imul d_Mo_dsaVerify_67 ⟨(by omega), (by omega)⟩ ?_
    refine ax_ti (x := 1280) (by decide) ?_
    refine ax_iadd d_Mo_dsaVerify_68 ⟨(by omega), (by omega)⟩ ?_
    refine ax_ti (x := 1312) (by decide) ?_
    refine aw_icmp_ne (tgt := 76) d_Mo_dsaVerify_69 (by decide) (fun c_69 => ?_) (fun c_69 => ?_)
    · skip
      refine aw_iconst d_Mo_dsaVerify_76 ⟨by decide, by decide⟩ ?_
      refine aw_iconst d_Mo_dsaVerify_77 ⟨by decide, by decide⟩ ?_
      refine ax_V (st := []) (as := [vi 0, vi 3]) (b := 175) (v := some (vi 0)) (h' := sD h (a_up u_35 175 4 3) L) d_Mo_dsaVerify_78 cs_Mo_dsaVerify_78 (k_175 S) (c_good0 S (by rw [a_up_up])) rfl rfl rfl ?_
      show AW l G M_Mo_dsaVerify P 81 [(0, vr 175), (1, vi 0), (2, vi (-1))] [vi 0] (sD h (a_up u_35 175 4 3) L)
      refine aw_if_ne (tgt := 86) d_Mo_dsaVerify_81 (by decide) (fun c_81 => False.elim (by omega)) (fun c_81 => ?_)
      refine aw_iconst d_Mo_dsaVerify_84 ⟨by decide, by decide⟩ ?_
      exact aw_zret d_Mo_dsaVerify_85 rfl ⟨by decide, by decide⟩ (hP _ _ (rsNo 0 3 (c4_3 ⟨by decide, by decide⟩ bb (fun z => by have z1 : I 186 1 = 1312 := z; omega)) (by decide) a_up_at (fR0.fr R00 (FR.c0 (p := fun _ => False)) (by intro a x y; exact ⟨fun z => z, fun z => z⟩) (fun z => z))))
    · skip
      refine aw_iconst d_Mo_dsaVerify_72 ⟨by decide, by decide⟩ ?_
      refine aw_goto (tgt := 77) d_Mo_dsaVerify_73 (by decide) ?_
      refine aw_iconst d_Mo_dsaVerify_77 ⟨by decide, by decide⟩ ?_
      refine ax_V (st := []) (as := [vi 1, vi 3]) (b := 175) (v := some (vi 1)) (h' := sD h (a_up u_35 175 4 0) L) d_Mo_dsaVerify_78 cs_Mo_dsaVerify_78 (k_175 S) (c_good1 S (by rw [a_up_up])) rfl rfl rfl ?_
      show AW l G M_Mo_dsaVerify P 81 [(0, vr 175), (1, vi 0), (2, vi (-1))] [vi 1] (sD h (a_up u_35 175 4 0) L)
      refine aw_if_ne (tgt := 86) d_Mo_dsaVerify_81 (by decide) (fun c_81 => ?_) (fun c_81 => False.elim (by omega))
      have pb : I 186 1 = 32 + 320 * pK 0 := by show I 186 1 = 1312; omega
      refine aw_aload_n d_Mo_dsaVerify_86 rfl rfl ?_
      refine ax_getIe (x := 32) d_Mo_dsaVerify_87 fd_Mo_248 (k_175 S) (Eq.trans (a_up_ne (Or.inr (by decide))) (dr0_38 D0)) ?_
      refine aw_bipush d_Mo_dsaVerify_90 ⟨by decide, by decide⟩ (by decide) ?_
      refine aw_aload_n d_Mo_dsaVerify_92 rfl rfl ?_
      refine ax_getIe (x := 4) d_Mo_dsaVerify_93 fd_Mo_226 (k_175 S) (Eq.trans (a_up_ne (Or.inr (by decide))) (dr0_32 D0)) ?_
      refine ax_imul d_Mo_dsaVerify_96 ⟨(by omega), (by omega)⟩ ?_
      refine ax_ti (x := 128) (by decide) ?_
      refine aw_aload_n d_Mo_dsaVerify_97 rfl rfl ?_
      refine ax_getIe (x := 18) d_Mo_dsaVerify_98 fd_Mo_251 (k_175 S) (Eq.trans (a_up_ne (Or.inr (by decide))) (dr0_39 D0)) ?_
      refine ax_imul d_Mo_dsaVerify_101 ⟨(by omega), (by omega)⟩ ?_
      refine ax_ti (x := 2304) (by decide) ?_
      refine ax_iadd d_Mo_dsaVerify_102 ⟨(by omega), (by omega)⟩ ?_
      refine ax_ti (x := 2336) (by decide) ?_
      refine aw_istore_n (lv' := [(3, vi 2336), (0, vr 175), (1, vi 0), (2, vi (-1))]) d_Mo_dsaVerify_103 rfl (by decide) rfl ?_
      refine aw_aload_n d_Mo_dsaVerify_104 rfl rfl ?_
      refine ax_getR (b := 186) d_Mo_dsaVerify_105 fd_Mo_18 (k_175 S) (r_175_2 S) ?_
      refine aw_iconst d_Mo_dsaVerify_108 ⟨by decide, by decide⟩ ?_
      refine ax_ialde (x := I 186 5) d_Mo_dsaVerify_109 (k_186 S) (by omega) (by rw [n_186 S]; omega) (Eq.trans (a_up_ne (Or.inl (by decide))) (Eq.trans (e0 186 5 (by omega)) (rfl))) ?_
      refine aw_iload_n d_Mo_dsaVerify_110 rfl rfl ?_
      refine aw_aload_n d_Mo_dsaVerify_111 rfl rfl ?_
      refine ax_getIe (x := 80) d_Mo_dsaVerify_112 fd_Mo_245 (k_175 S) (Eq.trans (a_up_ne (Or.inr (by decide))) (dr0_37 D0)) ?_
      refine ax_iadd d_Mo_dsaVerify_115 ⟨(by omega), (by omega)⟩ ?_
      refine ax_ti (x := 2416) (by decide) ?_
      refine aw_aload_n d_Mo_dsaVerify_116 rfl rfl ?_
      refine ax_getIe (x := 4) d_Mo_dsaVerify_117 fd_Mo_223 (k_175 S) (Eq.trans (a_up_ne (Or.inr (by decide))) (dr0_26 D0)) ?_
      refine ax_iadd d_Mo_dsaVerify_120 ⟨(by omega), (by omega)⟩ ?_
      refine ax_ti (x := 2420) (by decide) ?_
      refine aw_icmp_ne (tgt := 138) d_Mo_dsaVerify_121 (by decide) (fun c_121 => ?_) (fun c_121 => ?_)
      · skip
        refine aw_iconst d_Mo_dsaVerify_138 ⟨by decide, by decide⟩ ?_
        exact aw_zret d_Mo_dsaVerify_139 rfl ⟨by decide, by decide⟩ (hP _ _ ⟨_, _, _, rfl, rfl, by rw [c4_0 ⟨by decide, by decide⟩ bb pb (fun z => absurd z (fun z => by have z1 : I 186 5 = 2420 := z.1; omega))]; exact a_up_at, Or.inl ⟨c4_0 ⟨by decide, by decide⟩ bb pb (fun z => absurd z (fun z => by have z1 : I 186 5 = 2420 := z.1; omega)), fR0.mono (fR0.fr R00 (FR.c0 (p := fun _ => False)) (by intro a x y; exact ⟨fun z => z, fun z => z⟩) (fun z => z)) (fun _ _ z => z), Or.inl ⟨(fun z => by have z1 : I 186 5 = 2420 := z.1; omega), rfl, (fR0.fr R00 (FR.c0 (p := fun _ => False)) (by intro a x y; exact ⟨fun z => z, fun z => z⟩) (fun z => z))⟩⟩⟩)
      · skip
        refine aw_aload_n d_Mo_dsaVerify_124 rfl rfl ?_
        refine aw_aload_n d_Mo_dsaVerify_125 rfl rfl ?_
        refine ax_getR (b := 177) d_Mo_dsaVerify_126 fd_Mo_15 (k_175 S) (r_175_1 S) ?_
        refine aw_iconst d_Mo_dsaVerify_129 ⟨by decide, by decide⟩ ?_
        refine ax_aald (b := 183) d_Mo_dsaVerify_130 ⟨by rw [(k_177 S)]; decide, by rw [(k_177 S)]; decide⟩ (by omega) (by rw [n_177 S]; omega) (g_177 S (j := 5) (by decide) (by decide)) ?_
        refine aw_iload_n d_Mo_dsaVerify_131 rfl rfl ?_
        have kz : ∀ j, (a_up u_35 175 4 0) 183 j = I 183 j := fun j => (a_up_ne (Or.inl (by decide))).trans (e0 183 j (by omega))
        have k5 : (a_up u_35 175 4 0) 186 5 = I 186 5 := (a_up_ne (Or.inl (by decide))).trans (e0 186 5 (by omega))
        have eg : rgR (a_up u_35 175 4 0) = rgR I := funext (fun x => by unfold rgR gW; rw [k5]; show (if 0 ≤ x ∧ x < I 186 5 then (a_up u_35 175 4 0) 183 x % 256 else 0) = (if 0 ≤ x ∧ x < I 186 5 then I 183 x % 256 else 0); rw [kz])
        refine ax_Vr (st := []) (as := [vr 183, vi 2336]) (b := 175) d_Mo_dsaVerify_132 cs_Mo_dsaVerify_132 (k_175 S) (c_Mo_hints0 S D1 (fun j => by rw [kz]; exact rg j) (by rw [k5]; omega)) rfl rfl rfl (fun u_132 q_132 => ?_)
        obtain ⟨v9, K9⟩ := u_132
        obtain ⟨F9, p9, q9⟩ := q_132
        dsimp only at F9 p9 q9
        rw [eg] at q9
        have h49 : K9 175 4 = 0 := (p9 4).trans a_up_at
        show AW l G M_Mo_dsaVerify P 135 [(3, vi 2336), (0, vr 175), (1, vi 0), (2, vi (-1))] [vi v9] (sD h K9 L)
        refine aw_if_ne (tgt := 140) d_Mo_dsaVerify_135 (by decide) (fun c_135 => ?_) (fun c_135 => ?_)
        · skip
          refine aw_sub (lv' := [(3, vi 2336), (2, vi (-1)), (0, vr 175)]) (by simp) ?_
          have g9 := q9.resolve_right (fun z => by have z1 := z.1; omega)
          exact vB0N S (fR0.fr R1 F9 (by intro a x y; exact ⟨fun z => z, by omega⟩) (by decide)) (D1.fr F9 (by decide)) rg bb pb rb (by show I 186 5 = 2420; omega) g9.2.1 h49 g9.2.2 hP
        · skip
          refine aw_iconst d_Mo_dsaVerify_138 ⟨by decide, by decide⟩ ?_
          exact aw_zret d_Mo_dsaVerify_139 rfl ⟨by decide, by decide⟩ (hP _ _ ⟨_, _, _, rfl, rfl, by rw [c4_0 ⟨by decide, by decide⟩ bb pb (fun z => absurd z (fun z => by rcases q9 with y | y; exact absurd y.1 (by omega); exact y.2 z.2.1))]; exact h49, Or.inl ⟨c4_0 ⟨by decide, by decide⟩ bb pb (fun z => absurd z (fun z => by rcases q9 with y | y; exact absurd y.1 (by omega); exact y.2 z.2.1)), fR0.mono (fR0.fr R1 F9 (r := qN) (by intro a x y; exact ⟨fun z => z, by omega⟩) (by decide)) (fun _ _ z => z), Or.inl ⟨(fun z => by rcases q9 with y | y; exact absurd y.1 (by omega); exact y.2 z.2.1), rfl, (fR0.fr R1 F9 (r := qN) (by intro a x y; exact ⟨fun z => z, by omega⟩) (by decide))⟩⟩⟩)
  · skip
    refine ax_V (st := [vr 175]) (as := [vi (-1)]) (b := 175) (v := some (vi 0)) (h' := sD h u_35 L) d_Mo_dsaVerify_41 cs_Mo_dsaVerify_41 (k_175 S) (by have z := c_Mo_context (l := l) (G := G) (h := h) (L := L) (I := u_35) (x := -1) S; rw [if_neg cx_] at z; exact z) rfl rfl rfl ?_
    show AW l G M_Mo_dsaVerify P 44 [(0, vr 175), (1, vi 0), (2, vi (-1))] [vi 0, vr 175] (sD h u_35 L)
    refine aw_iconst d_Mo_dsaVerify_44 ⟨by decide, by decide⟩ ?_
    refine ax_V (st := []) (as := [vi 0, vi 2]) (b := 175) (v := some (vi 0)) (h' := sD h (a_up u_35 175 4 2) L) d_Mo_dsaVerify_45 cs_Mo_dsaVerify_45 (k_175 S) (c_good0 S (rfl)) rfl rfl rfl ?_
    show AW l G M_Mo_dsaVerify P 48 [(0, vr 175), (1, vi 0), (2, vi (-1))] [vi 0] (sD h (a_up u_35 175 4 2) L)
    refine aw_if_eq (tgt := 84) d_Mo_dsaVerify_48 (by decide) (fun c_48 => ?_) (fun c_48 => False.elim (by omega))
    refine aw_iconst d_Mo_dsaVerify_84 ⟨by decide, by decide⟩ ?_
    exact aw_zret d_Mo_dsaVerify_85 rfl ⟨by decide, by decide⟩ (hP _ _ (rsNo 0 2 (c4_2 ⟨by decide, by decide⟩ (fun z => by rw [e0 186 4 (by omega)] at cx_; omega)) (by decide) a_up_at (fR0.fr R00 (FR.c0 (p := fun _ => False)) (by intro a x y; exact ⟨fun z => z, fun z => z⟩) (fun z => z))))
set_option maxHeartbeats 4000000 in
set_option maxRecDepth 100000 in
theorem vC10 {l : Launch} {G : a_G} {P : a_R → Hp → Prop} {h : Hp} {I L K M : Nat → Int → Int} (S : Shp h) (R0 : fR0 qN I L K M) (D : RD K M 1) (rg : ∀ j, -128 ≤ I 183 j ∧ I 183 j ≤ 127) (b1 : (0 : Int) ≠ 0 ∨ I 186 4 ≤ 255) (b2 : I 186 1 = 32 + 320 * pK 1) (rb : RB I) (pre : vfPre 1 (rgR I) (I 186 5)) (hZ : ∀ m, 0 ≤ m → m < 5 → eqQ (K (205 + m.toNat)) ((vfZs 1 (rgR I)) m)) (tb : ∀ m, 0 ≤ m → m < 6 → tbl K (rgR I) 3248 55 m) (hP : ∀ r_ h2_, RsR h I L (c4 ((0 ≤ (1 : Int) ∧ (1 : Int) < 3) ∧ ((0 : Int) = 0 ∨ (0 : Int) = -1)) ((0 : Int) ≠ 0 ∨ I 186 4 ≤ 255) (I 186 1 = 32 + 320 * pK (1 : Int)) (vfPre (1 : Int) (rgR I) (I 186 5) → vfOk (1 : Int) (rpR I) (rgR I))) (fun a => a = 184 ∨ a = 186) (fun v I' L' => (¬ vfPre (1 : Int) (rgR I) (I 186 5) ∧ v = 0 ∧ fR0 qN I L I' L') ∨ (vfPre (1 : Int) (rgR I) (I 186 5) ∧ ((∀ j, j ≠ 6 → I' 186 j = I 186 j) ∧ I' 186 6 = pC (1 : Int)) ∧ (HR I' 184 0 (pC (1 : Int)) (vfC (1 : Int) (rpR I) (rgR I) (muW I (0 : Int))) ∧ rng (I 184) (I' 184)) ∧ (v = 0 ∨ v = 1) ∧ (v = 1 ↔ ∀ j, 0 ≤ j → j < pC (1 : Int) → vfC (1 : Int) (rpR I) (rgR I) (muW I (0 : Int)) j = rgR I j))) r_ h2_ → P r_ h2_) : AW l G M_Mo_dsaVerify P 265 [(2, vi 0), (0, vr 175)] [] (sD h K M) := by
  refine aw_aload_n d_Mo_dsaVerify_265 rfl rfl ?_
  refine aw_bipush d_Mo_dsaVerify_266 ⟨by decide, by decide⟩ (by decide) ?_
  have RS := D.1
  refine ax_Vr (st := []) (as := [vi 12]) (b := 175) d_Mo_dsaVerify_268 cs_Mo_dsaVerify_268 (k_175 S) (c_Mo_begin12 S) rfl rfl rfl (fun u_268 q_268 => ?_)
  obtain ⟨I1, L1⟩ := u_268
  obtain ⟨F1, e1, k1⟩ := q_268
  dsimp only at F1 e1 k1
  show AW l G M_Mo_dsaVerify P 271 [(2, vi 0), (0, vr 175)] [] (sD h I1 L1)
  refine aw_aload_n d_Mo_dsaVerify_271 rfl rfl ?_
  refine aw_aload_n d_Mo_dsaVerify_272 rfl rfl ?_
  refine ax_getR (b := 177) d_Mo_dsaVerify_273 fd_Mo_15 (k_175 S) (r_175_1 S) ?_
  refine aw_iconst d_Mo_dsaVerify_276 ⟨by decide, by decide⟩ ?_
  refine ax_aald (b := 179) d_Mo_dsaVerify_277 ⟨by rw [(k_177 S)]; decide, by rw [(k_177 S)]; decide⟩ (by omega) (by rw [n_177 S]; omega) (g_177 S (j := 1) (by decide) (by decide)) ?_
  refine aw_iconst d_Mo_dsaVerify_278 ⟨by decide, by decide⟩ ?_
  refine aw_aload_n d_Mo_dsaVerify_279 rfl rfl ?_
  refine ax_getR (b := 186) d_Mo_dsaVerify_280 fd_Mo_18 (k_175 S) (r_175_2 S) ?_
  refine aw_iconst d_Mo_dsaVerify_283 ⟨by decide, by decide⟩ ?_
  refine ax_ialde (x := 1952) d_Mo_dsaVerify_284 (k_186 S) (by omega) (by rw [n_186 S]; omega) (Eq.trans (F1.1 186 1 (Or.inl (by decide))) ((R0.1 186 1 (by omega) (fun z => z)).trans b2)) ?_
  refine ax_Vr (st := []) (as := [vr 179, vi 0, vi 1952]) (b := 175) d_Mo_dsaVerify_285 cs_Mo_dsaVerify_285 (k_175 S) (c_Mo_put3 S (RS.rf F1) (by omega) (by rw [e1]; exact spStart_lt (by decide) (by decide)) ⟨k_179 S, by decide, by decide⟩ (by rw [n_179 S]; decide)) rfl rfl rfl (fun u_285 q_285 => ?_)
  obtain ⟨I2, L2⟩ := u_285
  obtain ⟨F2, e2, k2⟩ := q_285
  dsimp only at F2 e2 k2
  show AW l G M_Mo_dsaVerify P 288 [(2, vi 0), (0, vr 175)] [] (sD h I2 L2)
  have eS : spTurn (spR I2 L2) = blS (fun k => I 179 (0 + k)) (I 186 1) := by rw [e2, e1, show (fun k => I1 179 (0 + k)) = (fun k => I 179 (0 + k)) from funext (fun z => (F1.1 179 _ (Or.inl (by decide))).trans (R0.1 179 _ (by omega) (fun z => z))), show I 186 1 = 1952 from b2]; rfl
  refine aw_aload_n d_Mo_dsaVerify_288 rfl rfl ?_
  refine aw_aload_n d_Mo_dsaVerify_289 rfl rfl ?_
  refine ax_getR (b := 266) d_Mo_dsaVerify_290 fd_Mo_96 (k_175 S) (r_175_42 S) ?_
  refine aw_iconst d_Mo_dsaVerify_293 ⟨by decide, by decide⟩ ?_
  refine aw_bipush d_Mo_dsaVerify_294 ⟨by decide, by decide⟩ (by decide) ?_
  refine ax_Vr (st := []) (as := [vr 266, vi 0, vi 64]) (b := 175) d_Mo_dsaVerify_296 cs_Mo_dsaVerify_296 (k_175 S) (c_Mo_give S (RS.rf (F1.tr F2)) (by omega) (by rw [e2, e1]; exact (spPart_lt (spStart_lt (by decide) (by decide)) _ _).1) ⟨k_266 S, by decide, by decide, by decide⟩ (by rw [n_266 S]; decide)) rfl rfl rfl (fun u_296 q_296 => ?_)
  obtain ⟨I3, L3⟩ := u_296
  obtain ⟨F3, f3, e3, k3⟩ := q_296
  dsimp only at F3 f3 e3 k3
  rw [eS] at F3
  have h3 : HR I3 266 0 64 (spOut (blS (fun k => I 179 (0 + k)) (I 186 1))) := HR.give F3 (by decide)
  have G3 : FR (fun a => a = 266) K M I3 L3 := ((F1.tr F2).fr (p := fun a => a = 266)).tr (FR.give (p := fun a => a = 266) F3 f3 rfl) (fun a x => ⟨x, x⟩)
  have z3 : ∀ a j, (a < 175 ∨ 176 ≤ a ∧ a ≤ 194) → I3 a j = I a j := fun a j x => (G3.1 a j (by omega) (Or.inl (by omega))).trans (R0.1 a j (by omega) (fun z => z))
  have rb3 : RB I3 := ⟨fun s a b => by rw [z3 186 s (by omega)]; exact rb.1 s a b, by rw [G3.1 175 3 (by decide) (Or.inr (by decide)), R0.2.1]; exact rb.2⟩
  have D3 := D.fr G3 (by decide)
  show AW l G M_Mo_dsaVerify P 299 [(2, vi 0), (0, vr 175)] [] (sD h I3 L3)
  refine aw_aload_n d_Mo_dsaVerify_299 rfl rfl ?_
  refine aw_aload_n d_Mo_dsaVerify_300 rfl rfl ?_
  refine ax_getR (b := 266) d_Mo_dsaVerify_301 fd_Mo_96 (k_175 S) (r_175_42 S) ?_
  refine aw_iconst d_Mo_dsaVerify_304 ⟨by decide, by decide⟩ ?_
  refine aw_iload_n d_Mo_dsaVerify_305 rfl rfl ?_
  refine ax_Vr (st := []) (as := [vr 266, vi 0, vi 0]) (b := 175) d_Mo_dsaVerify_306 cs_Mo_dsaVerify_306 (k_175 S) (c_Mo_digestMessage0 (f := 266) (pa := 0) S D3.1 rb3 ⟨k_266 S, by decide, by decide⟩ (by rw [n_266 S]; decide)) rfl rfl rfl (fun u_306 q_306 => ?_)
  obtain ⟨I4, L4⟩ := u_306
  obtain ⟨F4, h4_⟩ := q_306
  dsimp only at F4 h4_
  rw [z3 186 4 (by omega), z3 186 3 (by omega), show (fun k => I3 182 (0 + k)) = (fun k => I 182 (0 + k)) from funext (fun z => z3 182 _ (by omega)), show (fun k => I3 181 (0 + k)) = (fun k => I 181 (0 + k)) from funext (fun z => z3 181 _ (by omega)), dgS_congr (gk' := (spOut (blS (fun k => I 179 (0 + k)) (I 186 1)))) (fun k hk => by rw [h3 k (by omega) (by omega), spOut_m])] at h4_
  have h4_ : HR I4 265 0 64 (muW I (0 : Int)) := h4_
  have D4 := D3.fr F4 (by decide)
  have G4 : FR (fun a => a = 265 ∨ a = 266) K M I4 L4 := G3.tr F4 (by intro a x; omega)
  have eB : blS (fun k => I4 183 (0 + k)) 48 = vfBs 1 (rgR I) := blS_congr (fun k hk => by rw [G4.1 183 _ (by decide) (Or.inl (by decide)), R0.1 183 _ (by omega) (fun z => z), Int.zero_add, rg_in (show I 186 5 = 3309 from pre.1) (by omega) (by omega)]; omega)
  show AW l G M_Mo_dsaVerify P 309 [(2, vi 0), (0, vr 175)] [] (sD h I4 L4)
  refine aw_aload_n d_Mo_dsaVerify_309 rfl rfl ?_
  refine aw_aload_n d_Mo_dsaVerify_310 rfl rfl ?_
  refine aw_aload_n d_Mo_dsaVerify_311 rfl rfl ?_
  refine ax_getR (b := 204) d_Mo_dsaVerify_312 fd_Mo_76 (k_175 S) (r_175_28 S) ?_
  refine aw_bipush d_Mo_dsaVerify_315 ⟨by decide, by decide⟩ (by decide) ?_
  refine ax_aald (b := 251) d_Mo_dsaVerify_317 ⟨by rw [(k_204 S)]; decide, by rw [(k_204 S)]; decide⟩ (by omega) (by rw [n_204 S]; omega) (g_204 S (j := 46) (by decide) (by decide)) ?_
  refine aw_aload_n d_Mo_dsaVerify_318 rfl rfl ?_
  refine ax_getR (b := 177) d_Mo_dsaVerify_319 fd_Mo_15 (k_175 S) (r_175_1 S) ?_
  refine aw_iconst d_Mo_dsaVerify_322 ⟨by decide, by decide⟩ ?_
  refine ax_aald (b := 183) d_Mo_dsaVerify_323 ⟨by rw [(k_177 S)]; decide, by rw [(k_177 S)]; decide⟩ (by omega) (by rw [n_177 S]; omega) (g_177 S (j := 5) (by decide) (by decide)) ?_
  refine aw_iconst d_Mo_dsaVerify_324 ⟨by decide, by decide⟩ ?_
  refine ax_Vr (st := [vr 175]) (as := [vr 251, vr 183, vi 0]) (b := 175) d_Mo_dsaVerify_325 cs_Mo_dsaVerify_325 (k_175 S) (c_Mo_ball S D4.1 ⟨k_183 S, by decide, by decide⟩ (dr1_38 D4) (dr1_34 D4) (by decide) (by rw [n_183 S]; decide)) rfl rfl rfl (fun u_325 q_325 => ?_)
  obtain ⟨I5, L5, v5⟩ := u_325
  obtain ⟨F5, q5, r5⟩ := q_325
  dsimp only at F5 q5 r5
  rw [eB] at q5 r5
  have G5 : FR (fun a => a = 200 ∨ a = 251) I4 L4 I5 L5 := ⟨fun a j x y => F5.1 a j (by rcases y with y | y; exact Or.inl y; exact Or.inr ⟨y.1, y.2.1, y.2.2.1⟩) (fun z => x (Or.inl z)) (fun z => x (Or.inr z)), fun a j x y z u _ => F5.2 a j x y z u⟩
  have GB : FR (fun a => a = 265 ∨ a = 266 ∨ a = 200 ∨ a = 251) K M I5 L5 := G4.tr G5 (by intro a x; omega)
  show AW l G M_Mo_dsaVerify P 328 [(2, vi 0), (0, vr 175)] [vi v5, vr 175] (sD h I5 L5)
  rcases q5 with ⟨vz, bn⟩ | ⟨vz, bn⟩
  · subst vz
    refine aw_iconst d_Mo_dsaVerify_328 ⟨by decide, by decide⟩ ?_
    refine ax_V (st := []) (as := [vi 1, vi 4]) (b := 175) (v := some (vi 1)) (h' := sD h (a_up I5 175 4 0) L5) d_Mo_dsaVerify_329 cs_Mo_dsaVerify_329 (k_175 S) (c_good1 S rfl) rfl rfl rfl ?_
    show AW l G M_Mo_dsaVerify P 332 [(2, vi 0), (0, vr 175)] [vi 1] (sD h (a_up I5 175 4 0) L5)
    refine aw_if_ne (tgt := 337) d_Mo_dsaVerify_332 (by decide) (fun c_332 => ?_) (fun c_332 => False.elim (by omega))
    refine aw_aload_n d_Mo_dsaVerify_337 rfl rfl ?_
    refine ax_getR (b := 204) d_Mo_dsaVerify_338 fd_Mo_76 (k_175 S) (r_175_28 S) ?_
    refine aw_bipush d_Mo_dsaVerify_341 ⟨by decide, by decide⟩ (by decide) ?_
    refine ax_aald (b := 251) d_Mo_dsaVerify_343 ⟨by rw [(k_204 S)]; decide, by rw [(k_204 S)]; decide⟩ (by omega) (by rw [n_204 S]; omega) (g_204 S (j := 46) (by decide) (by decide)) ?_
    refine ax_S (st := []) (as := [vr 251]) (v := none) (h' := sD h (rowTo (a_up I5 175 4 0) 251 256 (fun x => ((a_up I5 175 4 0) 251 x + 8380417) % 8380417)) L5) d_Mo_dsaVerify_344 cs_Mo_dsaVerify_344 (c_Mo_positive ⟨k_251 S, by decide, n_251 S⟩ (fun x a b => by rw [a_up_ne (Or.inl (by decide)), r5 bn x a b]; have := blX_b (tau := 49) (s := vfBs 1 (rgR I)) x; omega)) rfl rfl rfl ?_
    show AW l G M_Mo_dsaVerify P 347 [(2, vi 0), (0, vr 175)] [] (sD h (rowTo (a_up I5 175 4 0) 251 256 (fun x => ((a_up I5 175 4 0) 251 x + 8380417) % 8380417)) L5)
    refine aw_aload_n d_Mo_dsaVerify_347 rfl rfl ?_
    refine aw_aload_n d_Mo_dsaVerify_348 rfl rfl ?_
    refine ax_getR (b := 204) d_Mo_dsaVerify_349 fd_Mo_76 (k_175 S) (r_175_28 S) ?_
    refine aw_bipush d_Mo_dsaVerify_352 ⟨by decide, by decide⟩ (by decide) ?_
    refine ax_aald (b := 251) d_Mo_dsaVerify_354 ⟨by rw [(k_204 S)]; decide, by rw [(k_204 S)]; decide⟩ (by omega) (by rw [n_204 S]; omega) (g_204 S (j := 46) (by decide) (by decide)) ?_
    refine ax_Vr (st := []) (as := [vr 251]) (b := 175) d_Mo_dsaVerify_355 cs_Mo_dsaVerify_355 (k_175 S) (c_Mo_evaluate S ⟨k_251 S, by decide, n_251 S⟩ (by decide) (fun x a b => by rw [rowTo_in a b]; omega) (fun x a b => by rw [rowTo_ne (by decide), a_up_ne (Or.inl (by decide))]; exact (D.fr GB (by decide)).2.2 x a b)) rfl rfl rfl (fun u_355 q_355 => ?_)
    have l5 := q_355
    have GE : FR (fun a => a = 265 ∨ a = 266 ∨ a = 200 ∨ a = 251) K M (rowTo (rowTo (a_up I5 175 4 0) 251 256 (fun x => ((a_up I5 175 4 0) 251 x + 8380417) % 8380417)) 251 256 (eva ((rowTo (a_up I5 175 4 0) 251 256 (fun x => ((a_up I5 175 4 0) 251 x + 8380417) % 8380417)) 251))) u_355 := ((GB.tr (FR.c0 (p := fun a => a = 265 ∨ a = 266 ∨ a = 200 ∨ a = 251)) (fun a x => ⟨x, x⟩)).tr (FR.row (p := fun a => a = 265 ∨ a = 266 ∨ a = 200 ∨ a = 251) (by omega) (fun _ _ _ => rfl)) (fun a x => ⟨x, x⟩)).tr (FR.row (p := fun a => a = 265 ∨ a = 266 ∨ a = 200 ∨ a = 251) (by omega) l5) (fun a x => ⟨x, x⟩)
    have bE : eqQ ((rowTo (rowTo (a_up I5 175 4 0) 251 256 (fun x => ((a_up I5 175 4 0) 251 x + 8380417) % 8380417)) 251 256 (eva ((rowTo (a_up I5 175 4 0) 251 256 (fun x => ((a_up I5 175 4 0) 251 x + 8380417) % 8380417)) 251))) 251) (vfB 1 (rgR I)) := fun x a b => by rw [rowTo_in a b]; show eva _ x = fwd rt (fun j => blX 49 (vfBs 1 (rgR I)) j % 8380417) x; rw [fwd_eva a b]; exact eva_cq (fun y hy => cq.e (by rw [rowTo_in (by omega) (by omega), a_up_ne (Or.inl (by decide)), r5 bn y (by omega) (by omega), Int.add_emod_right]))
    have mE : HR (rowTo (rowTo (a_up I5 175 4 0) 251 256 (fun x => ((a_up I5 175 4 0) 251 x + 8380417) % 8380417)) 251 256 (eva ((rowTo (a_up I5 175 4 0) 251 256 (fun x => ((a_up I5 175 4 0) 251 x + 8380417) % 8380417)) 251))) 265 0 64 (muW I (0 : Int)) := fun z x y => by rw [rowTo_ne (by decide), rowTo_ne (by decide), a_up_ne (Or.inl (by decide)), G5.1 265 _ (by decide) (Or.inl (by decide))]; exact h4_ z x y
    have cE : (rowTo (rowTo (a_up I5 175 4 0) 251 256 (fun x => ((a_up I5 175 4 0) 251 x + 8380417) % 8380417)) 251 256 (eva ((rowTo (a_up I5 175 4 0) 251 256 (fun x => ((a_up I5 175 4 0) 251 x + 8380417) % 8380417)) 251))) 175 4 = 0 := by rw [rowTo_ne (by decide), rowTo_ne (by decide), a_up_at]
    show AW l G M_Mo_dsaVerify P 358 [(2, vi 0), (0, vr 175)] [] (sD h (rowTo (rowTo (a_up I5 175 4 0) 251 256 (fun x => ((a_up I5 175 4 0) 251 x + 8380417) % 8380417)) 251 256 (eva ((rowTo (a_up I5 175 4 0) 251 256 (fun x => ((a_up I5 175 4 0) 251 x + 8380417) % 8380417)) 251))) u_355)
    refine aw_iconst d_Mo_dsaVerify_358 ⟨by decide, by decide⟩ ?_
    refine aw_istore (lv' := [(4, vi 0), (2, vi 0), (0, vr 175)]) d_Mo_dsaVerify_359 (by decide) rfl ?_
    have lp_361 : ∀ (n_ : Nat) (i : Int) (K6 : Nat → Int → Int) (M6 : Nat → Int → Int), (0 ≤ i ∧ i ≤ 5) → (FR (fun a => a = 265 ∨ a = 266 ∨ a = 200 ∨ a = 251 ∨ 205 ≤ a ∧ a < 210) K M K6 M6) → (∀ a j, (a < 205 ∨ 210 ≤ a) → K6 a j = (rowTo (rowTo (a_up I5 175 4 0) 251 256 (fun x => ((a_up I5 175 4 0) 251 x + 8380417) % 8380417)) 251 256 (eva ((rowTo (a_up I5 175 4 0) 251 256 (fun x => ((a_up I5 175 4 0) 251 x + 8380417) % 8380417)) 251))) a j) → (∀ m, 0 ≤ m → m < i → eqQ (K6 (205 + m.toNat)) (fwd rt ((vfZ 1 (rgR I)) m))) → (∀ m, 0 ≤ m → i ≤ m → m < 5 → eqQ (K6 (205 + m.toNat)) ((vfZs 1 (rgR I)) m)) → ((5 - i).toNat) = n_ → AW l G M_Mo_dsaVerify P 361 [(4, vi i), (0, vr 175)] [] (sD h K6 M6) := by
      intro n_
      induction n_ using Nat.strongRecOn with
      | _ n_ ih_361 =>
      intro i K6 M6 hi G6 f6 dn td hm_361
      refine aw_iload d_Mo_dsaVerify_361 rfl ?_
      refine aw_aload_n d_Mo_dsaVerify_363 rfl rfl ?_
      refine ax_getIe (x := 5) d_Mo_dsaVerify_364 fd_Mo_226 (k_175 S) (Eq.trans (G6.1 175 32 (by omega) (Or.inr (by decide))) (dr1_32 D)) ?_
      refine aw_icmp_ge (tgt := 397) d_Mo_dsaVerify_367 (by decide) (fun c_367 => ?_) (fun c_367 => ?_)
      · skip
        refine aw_aload_n d_Mo_dsaVerify_397 rfl rfl ?_
        refine aw_iconst d_Mo_dsaVerify_398 ⟨by decide, by decide⟩ ?_
        refine ax_putI d_Mo_dsaVerify_399 fd_Mo_216 (k_175 S) (by decide) rfl ?_
        refine aw_sub (lv' := [(0, vr 175)]) (by simp) ?_
        exact vD10 S (fR0.fr (fR0.fr R0 G6 (r := qN) (by intro a x y; exact ⟨fun z => z, by omega⟩) (by omega)) (FR.b0 (p := fun _ => False)) (by intro a x y; exact ⟨fun z => z, fun z => z⟩) (fun z => z)) ((D.fr G6 (by omega)).fr (FR.b0 (p := fun _ => False)) ⟨fun z => z, fun z => z, fun z => z⟩) rg b1 b2 pre bn (fun x a b => by rw [a_up_ne (Or.inl (by decide)), f6 251 x (by omega)]; exact bE x a b) (fun m a b x u v => by rw [a_up_ne (Or.inl (by omega))]; exact dn m a (by omega) x u v) (a_up_at.trans (by decide)) (fun z x y => by rw [a_up_ne (Or.inl (by decide)), f6 265 _ (by omega)]; exact mE z x y) (by rw [a_up_ne (Or.inr (by decide)), f6 175 4 (by omega)]; exact cE) (fun m a b c x y => by rw [a_up_ne (Or.inl (by omega)), G6.1 _ _ (by omega) (Or.inl (by omega))]; exact tb m a b c x y) hP
      · skip
        refine aw_aload_n d_Mo_dsaVerify_370 rfl rfl ?_
        refine ax_getR (b := 204) d_Mo_dsaVerify_371 fd_Mo_76 (k_175 S) (r_175_28 S) ?_
        refine aw_iload d_Mo_dsaVerify_374 rfl ?_
        refine ax_aald (b := 205 + i.toNat) d_Mo_dsaVerify_376 ⟨by rw [(k_204 S)]; decide, by rw [(k_204 S)]; decide⟩ (by omega) (by rw [n_204 S]; omega) (g_204 S (by omega) (by omega)) ?_
        refine ax_S (st := []) (as := [vr (205 + i.toNat)]) (v := none) (h' := sD h (rowTo K6 (205 + i.toNat) 256 (fun x => (K6 (205 + i.toNat) x + 8380417) % 8380417)) M6) d_Mo_dsaVerify_377 cs_Mo_dsaVerify_377 (c_Mo_positive ⟨kr_204 S (by omega), by omega, nr_204 S (by omega)⟩ (fun x a b => by rw [td i hi.1 (Int.le_refl _) (by omega) x a b]; have := (show -524288 < (vfZs 1 (rgR I)) i x ∧ (vfZs 1 (rgR I)) i x ≤ 524288 from ⟨by have := (vfZs_b (s := 1) (g := (rgR I)) (m := i) (j := x)).1; rw [show pG1 1 - 2 ^ (pB 1).toNat = -524288 from by decide] at this; exact this, (vfZs_b (s := 1) (g := (rgR I)) (m := i) (j := x)).2⟩); omega)) rfl rfl rfl ?_
        show AW l G M_Mo_dsaVerify P 380 [(4, vi i), (0, vr 175)] [] (sD h (rowTo K6 (205 + i.toNat) 256 (fun x => (K6 (205 + i.toNat) x + 8380417) % 8380417)) M6)
        refine aw_aload_n d_Mo_dsaVerify_380 rfl rfl ?_
        refine aw_aload_n d_Mo_dsaVerify_381 rfl rfl ?_
        refine ax_getR (b := 204) d_Mo_dsaVerify_382 fd_Mo_76 (k_175 S) (r_175_28 S) ?_
        refine aw_iload d_Mo_dsaVerify_385 rfl ?_
        refine ax_aald (b := 205 + i.toNat) d_Mo_dsaVerify_387 ⟨by rw [(k_204 S)]; decide, by rw [(k_204 S)]; decide⟩ (by omega) (by rw [n_204 S]; omega) (g_204 S (by omega) (by omega)) ?_
        refine ax_Vr (st := []) (as := [vr (205 + i.toNat)]) (b := 175) d_Mo_dsaVerify_388 cs_Mo_dsaVerify_388 (k_175 S) (c_Mo_evaluate S ⟨kr_204 S (by omega), by omega, nr_204 S (by omega)⟩ (by omega) (fun x a b => by rw [rowTo_in a b]; omega) (fun x a b => by rw [rowTo_ne (by omega)]; exact (D.fr G6 (by omega)).2.2 x a b)) rfl rfl rfl (fun u_388 q_388 => ?_)
        have l6 := q_388
        show AW l G M_Mo_dsaVerify P 391 [(4, vi i), (0, vr 175)] [] (sD h (rowTo (rowTo K6 (205 + i.toNat) 256 (fun x => (K6 (205 + i.toNat) x + 8380417) % 8380417)) (205 + i.toNat) 256 (eva ((rowTo K6 (205 + i.toNat) 256 (fun x => (K6 (205 + i.toNat) x + 8380417) % 8380417)) (205 + i.toNat)))) u_388)
        refine ax_iinc (lv' := [(4, vi (i + 1)), (0, vr 175)]) d_Mo_dsaVerify_391 rfl (by decide) ⟨(by omega), (by omega)⟩ rfl ?_
        refine aw_goto (tgt := 361) d_Mo_dsaVerify_394 (by decide) ?_
        exact ih_361 _ (by omega) (i + 1) (rowTo (rowTo K6 (205 + i.toNat) 256 (fun x => (K6 (205 + i.toNat) x + 8380417) % 8380417)) (205 + i.toNat) 256 (eva ((rowTo K6 (205 + i.toNat) 256 (fun x => (K6 (205 + i.toNat) x + 8380417) % 8380417)) (205 + i.toNat)))) u_388 (by omega) ((G6.tr (FR.row (p := fun a => a = 265 ∨ a = 266 ∨ a = 200 ∨ a = 251 ∨ 205 ≤ a ∧ a < 210) (by omega) (fun _ _ _ => rfl)) (fun a x => ⟨x, x⟩)).tr (FR.row (p := fun a => a = 265 ∨ a = 266 ∨ a = 200 ∨ a = 251 ∨ 205 ≤ a ∧ a < 210) (by omega) l6) (fun a x => ⟨x, x⟩)) (fun a j x => by rw [rowTo_ne (by omega), rowTo_ne (by omega)]; exact f6 a j x) (fun m a b x u v => by by_cases z : m = i; exact (by rw [z, rowTo_in u v, fwd_eva u v]; exact eva_cq (fun t ht => cq.e (by rw [rowTo_in (by omega) (by omega), td i hi.1 (Int.le_refl _) (by omega) t (by omega) (by omega), vfZ_Zs, Int.add_emod_right]))); exact (by rw [rowTo_ne (by omega), rowTo_ne (by omega)]; exact dn m a (by omega) x u v)) (fun m a b c x u v => by rw [rowTo_ne (by omega), rowTo_ne (by omega)]; exact td m a (by omega) c x u v) rfl
    skip
    refine aw_sub (lv' := [(4, vi 0), (0, vr 175)]) (by simp) ?_
    exact lp_361 _ 0 (rowTo (rowTo (a_up I5 175 4 0) 251 256 (fun x => ((a_up I5 175 4 0) 251 x + 8380417) % 8380417)) 251 256 (eva ((rowTo (a_up I5 175 4 0) 251 256 (fun x => ((a_up I5 175 4 0) 251 x + 8380417) % 8380417)) 251))) u_355 (by omega) (GE.mono (by intro a x; omega)) (fun _ _ _ => rfl) (fun m a b => by omega) (fun m a b c x u v => by rw [GE.1 _ _ (by omega) (Or.inl (by omega))]; exact hZ m a c x u v) rfl
  · subst vz
    refine aw_iconst d_Mo_dsaVerify_328 ⟨by decide, by decide⟩ ?_
    refine ax_V (st := []) (as := [vi 0, vi 4]) (b := 175) (v := some (vi 0)) (h' := sD h (a_up I5 175 4 4) L5) d_Mo_dsaVerify_329 cs_Mo_dsaVerify_329 (k_175 S) (c_good0 S rfl) rfl rfl rfl ?_
    show AW l G M_Mo_dsaVerify P 332 [(2, vi 0), (0, vr 175)] [vi 0] (sD h (a_up I5 175 4 4) L5)
    refine aw_if_ne (tgt := 337) d_Mo_dsaVerify_332 (by decide) (fun c_332 => False.elim (by omega)) (fun c_332 => ?_)
    refine aw_iconst d_Mo_dsaVerify_335 ⟨by decide, by decide⟩ ?_
    exact aw_zret d_Mo_dsaVerify_336 rfl ⟨by decide, by decide⟩ (hP _ _ (rsNo 0 4 (c4_4 ⟨by decide, by decide⟩ b1 b2 (fun z => (z pre).1 bn)) (by decide) a_up_at (fR0.fr (fR0.fr R0 GB (r := qN) (by intro a x y; exact ⟨fun z => z, by omega⟩) (by decide)) (FR.c0 (p := fun _ => False)) (by intro a x y; exact ⟨fun z => z, fun z => z⟩) (fun z => z))))
set_option maxHeartbeats 4000000 in
set_option maxRecDepth 100000 in
theorem vB10 {l : Launch} {G : a_G} {P : a_R → Hp → Prop} {h : Hp} {I L K M : Nat → Int → Int} (S : Shp h) (R0 : fR0 qN I L K M) (D : RD K M 1) (rg : ∀ j, -128 ≤ I 183 j ∧ I 183 j ≤ 127) (b1 : (0 : Int) ≠ 0 ∨ I 186 4 ≤ 255) (b2 : I 186 1 = 32 + 320 * pK 1) (rb : RB I) (p1 : I 186 5 = sPkt 1) (p2 : hSt (rgR I) (sO3 1) (pW 1) (pK 1)) (h4 : K 175 4 = 0) (tb : ∀ m, 0 ≤ m → m < 6 → tbl K (rgR I) 3248 55 m) (hP : ∀ r_ h2_, RsR h I L (c4 ((0 ≤ (1 : Int) ∧ (1 : Int) < 3) ∧ ((0 : Int) = 0 ∨ (0 : Int) = -1)) ((0 : Int) ≠ 0 ∨ I 186 4 ≤ 255) (I 186 1 = 32 + 320 * pK (1 : Int)) (vfPre (1 : Int) (rgR I) (I 186 5) → vfOk (1 : Int) (rpR I) (rgR I))) (fun a => a = 184 ∨ a = 186) (fun v I' L' => (¬ vfPre (1 : Int) (rgR I) (I 186 5) ∧ v = 0 ∧ fR0 qN I L I' L') ∨ (vfPre (1 : Int) (rgR I) (I 186 5) ∧ ((∀ j, j ≠ 6 → I' 186 j = I 186 j) ∧ I' 186 6 = pC (1 : Int)) ∧ (HR I' 184 0 (pC (1 : Int)) (vfC (1 : Int) (rpR I) (rgR I) (muW I (0 : Int))) ∧ rng (I 184) (I' 184)) ∧ (v = 0 ∨ v = 1) ∧ (v = 1 ↔ ∀ j, 0 ≤ j → j < pC (1 : Int) → vfC (1 : Int) (rpR I) (rgR I) (muW I (0 : Int)) j = rgR I j))) r_ h2_ → P r_ h2_) : AW l G M_Mo_dsaVerify P 140 [(3, vi 3248), (2, vi 0), (0, vr 175)] [] (sD h K M) := by
  refine aw_aload_n d_Mo_dsaVerify_140 rfl rfl ?_
  refine aw_iconst d_Mo_dsaVerify_141 ⟨by decide, by decide⟩ ?_
  refine ax_putI d_Mo_dsaVerify_142 fd_Mo_216 (k_175 S) (by decide) rfl ?_
  refine aw_iconst d_Mo_dsaVerify_145 ⟨by decide, by decide⟩ ?_
  refine aw_istore (lv' := [(4, vi 0), (3, vi 3248), (2, vi 0), (0, vr 175)]) d_Mo_dsaVerify_146 (by decide) rfl ?_
  have lp_148 : ∀ (n_ : Nat) (i : Int) (K2 : Nat → Int → Int), (0 ≤ i ∧ i ≤ 5) → (FR (fun a => 205 ≤ a ∧ a < 210) K M K2 M) → (K2 175 23 = 8 * (640 * i)) → (∀ m, 0 ≤ m → m < i → eqQ (K2 (205 + m.toNat)) ((vfZs 1 (rgR I)) m) ∧ wiN 524092 ((vfZ 1 (rgR I)) m)) → (K2 175 4 = 0) → ((5 - i).toNat) = n_ → AW l G M_Mo_dsaVerify P 148 [(4, vi i), (3, vi 3248), (2, vi 0), (0, vr 175)] [] (sD h K2 M) := by
    intro n_
    induction n_ using Nat.strongRecOn with
    | _ n_ ih_148 =>
    intro i K2 hi F2 bb dn h42 hm_148
    refine aw_iload d_Mo_dsaVerify_148 rfl ?_
    refine aw_aload_n d_Mo_dsaVerify_150 rfl rfl ?_
    refine ax_getIe (x := 5) d_Mo_dsaVerify_151 fd_Mo_226 (k_175 S) (Eq.trans (F2.1 175 32 (by omega) (Or.inr (by decide))) (dr1_32 D)) ?_
    refine aw_icmp_ge (tgt := 265) d_Mo_dsaVerify_154 (by decide) (fun c_154 => ?_) (fun c_154 => ?_)
    · skip
      refine aw_sub (lv' := [(2, vi 0), (0, vr 175)]) (by simp) ?_
      exact vC10 S (fR0.fr R0 F2 (by intro a x y; exact ⟨fun z => z, by omega⟩) (by omega)) (D.fr F2 (by omega)) rg b1 b2 rb ⟨p1, p2, fun m a b => (dn m a (by have b2 : m < 5 := b; omega)).2⟩ (fun m a b => (dn m a (by omega)).1) (fun m a b c x y => by rw [F2.1 _ _ (by omega) (Or.inl (by omega))]; exact tb m a b c x y) hP
    · skip
      refine aw_aload_n d_Mo_dsaVerify_157 rfl rfl ?_
      refine aw_aload_n d_Mo_dsaVerify_158 rfl rfl ?_
      refine ax_getR (b := 177) d_Mo_dsaVerify_159 fd_Mo_15 (k_175 S) (r_175_1 S) ?_
      refine aw_iconst d_Mo_dsaVerify_162 ⟨by decide, by decide⟩ ?_
      refine ax_aald (b := 183) d_Mo_dsaVerify_163 ⟨by rw [(k_177 S)]; decide, by rw [(k_177 S)]; decide⟩ (by omega) (by rw [n_177 S]; omega) (g_177 S (j := 5) (by decide) (by decide)) ?_
      refine aw_aload_n d_Mo_dsaVerify_164 rfl rfl ?_
      refine ax_getIe (x := 48) d_Mo_dsaVerify_165 fd_Mo_248 (k_175 S) (Eq.trans (F2.1 175 38 (by omega) (Or.inr (by decide))) (dr1_38 D)) ?_
      refine aw_aload_n d_Mo_dsaVerify_168 rfl rfl ?_
      refine ax_getR (b := 204) d_Mo_dsaVerify_169 fd_Mo_76 (k_175 S) (r_175_28 S) ?_
      refine aw_iload d_Mo_dsaVerify_172 rfl ?_
      refine ax_aald (b := 205 + i.toNat) d_Mo_dsaVerify_174 ⟨by rw [(k_204 S)]; decide, by rw [(k_204 S)]; decide⟩ (by omega) (by rw [n_204 S]; omega) (g_204 S (by omega) (by omega)) ?_
      refine aw_aload_n d_Mo_dsaVerify_175 rfl rfl ?_
      refine ax_getIe (x := 524288) d_Mo_dsaVerify_176 fd_Mo_237 (k_175 S) (Eq.trans (F2.1 175 35 (by omega) (Or.inr (by decide))) (dr1_35 D)) ?_
      refine aw_aload_n d_Mo_dsaVerify_179 rfl rfl ?_
      refine ax_getIe (x := 20) d_Mo_dsaVerify_180 fd_Mo_251 (k_175 S) (Eq.trans (F2.1 175 39 (by omega) (Or.inr (by decide))) (dr1_39 D)) ?_
      refine ax_Vr (st := []) (as := [vr 183, vi 48, vr (205 + i.toNat), vi 524288, vi 20]) (b := 175) d_Mo_dsaVerify_183 cs_Mo_dsaVerify_183 (k_175 S) (c_Mo_unpack (pa := 48) (c := 640 * i) (d := 20) (b := 524288) S ⟨k_183 S, by decide, by decide⟩ ⟨kr_204 S (by omega), by omega, nr_204 S (by omega)⟩ (by omega) (by decide) (by omega) (by decide) (by rw [n_183 S]; omega)) rfl rfl rfl (fun u_183 q_183 => ?_)
      obtain ⟨q1, q2, q3⟩ := q_183
      have F3 : FR (fun a => 205 ≤ a ∧ a < 210) K M u_183 M := F2.tr (FR.unp (p := fun a => 205 ≤ a ∧ a < 210) q1 (by omega)) (fun a x => ⟨x, x⟩)
      have z3 : eqQ (u_183 (205 + i.toNat)) ((vfZs 1 (rgR I)) i) := fun x u v => by rw [q3 x u v, gR_congr (g := fun j => K2 183 (48 + 640 * i + j) % 256) (g' := fun j => rgR I (48 + 640 * i + j)) (fun y y0 y1 => by rw [F2.1 183 _ (by omega) (Or.inl (by decide)), R0.1 183 _ (by omega) (fun z => z), rg_in (show I 186 5 = 3309 from p1) (by omega) (by omega)])]; rfl
      show AW l G M_Mo_dsaVerify P 186 [(4, vi i), (3, vi 3248), (2, vi 0), (0, vr 175)] [] (sD h u_183 M)
      refine aw_iconst d_Mo_dsaVerify_186 ⟨by decide, by decide⟩ ?_
      refine aw_istore (lv' := [(5, vi 0), (4, vi i), (3, vi 3248), (2, vi 0), (0, vr 175)]) d_Mo_dsaVerify_187 (by decide) rfl ?_
      have lp_189 : ∀ (n_ : Nat) (c : Int), (0 ≤ c ∧ c ≤ 256) → (∀ x, 0 ≤ x → x < c → -524092 < (vfZs 1 (rgR I)) i x ∧ (vfZs 1 (rgR I)) i x < 524092) → ((256 - c).toNat) = n_ → AW l G M_Mo_dsaVerify P 189 [(5, vi c), (4, vi i), (3, vi 3248), (2, vi 0), (0, vr 175)] [] (sD h u_183 M) := by
        intro n_
        induction n_ using Nat.strongRecOn with
        | _ n_ ih_189 =>
        intro c hc wk hm_189
        have zc : c < 256 → u_183 (205 + i.toNat) c = (vfZs 1 (rgR I)) i c := fun v => z3 c hc.1 v
        refine aw_iload d_Mo_dsaVerify_189 rfl ?_
        refine aw_sipush d_Mo_dsaVerify_191 ⟨by decide, by decide⟩ (by decide) ?_
        refine aw_icmp_ge (tgt := 259) d_Mo_dsaVerify_194 (by decide) (fun c_194 => ?_) (fun c_194 => ?_)
        · skip
          refine ax_iinc (lv' := [(4, vi (i + 1)), (5, vi c), (3, vi 3248), (2, vi 0), (0, vr 175)]) d_Mo_dsaVerify_259 rfl (by decide) ⟨(by omega), (by omega)⟩ rfl ?_
          refine aw_goto (tgt := 148) d_Mo_dsaVerify_262 (by decide) ?_
          refine aw_sub (lv' := [(4, vi (i + 1)), (3, vi 3248), (2, vi 0), (0, vr 175)]) (by simp) ?_
          exact ih_148 _ (by omega) (i + 1) u_183 (by omega) (F3) (by omega) (fun m a b => by by_cases z : m = i; exact (by rw [z]; exact ⟨z3, fun x u v => by have w_ := (zl0 (t := 524092) (by decide) (show -524288 < (vfZs 1 (rgR I)) i x ∧ (vfZs 1 (rgR I)) i x ≤ 524288 from ⟨by have := (vfZs_b (s := 1) (g := (rgR I)) (m := i) (j := x)).1; rw [show pG1 1 - 2 ^ (pB 1).toNat = -524288 from by decide] at this; exact this, (vfZs_b (s := 1) (g := (rgR I)) (m := i) (j := x)).2⟩)); rw [vfZ_Zs]; exact fun q_ => by have w2 := w_.2 q_; have w3 := wk x u (by omega); omega⟩); exact ⟨fun x u v => by rw [q1 _ _ (by omega) (Or.inl (by omega))]; exact (dn m a (by omega)).1 x u v, (dn m a (by omega)).2⟩) ((q1 175 4 (by omega) (Or.inr (by decide))).trans h42) rfl
        · skip
          have zb := (show -524288 < (vfZs 1 (rgR I)) i c ∧ (vfZs 1 (rgR I)) i c ≤ 524288 from ⟨by have := (vfZs_b (s := 1) (g := (rgR I)) (m := i) (j := c)).1; rw [show pG1 1 - 2 ^ (pB 1).toNat = -524288 from by decide] at this; exact this, (vfZs_b (s := 1) (g := (rgR I)) (m := i) (j := c)).2⟩)
          have wz := zl0 (t := 524092) (by decide) zb
          refine aw_aload_n d_Mo_dsaVerify_197 rfl rfl ?_
          refine ax_getR (b := 204) d_Mo_dsaVerify_198 fd_Mo_76 (k_175 S) (r_175_28 S) ?_
          refine aw_iload d_Mo_dsaVerify_201 rfl ?_
          refine ax_aald (b := 205 + i.toNat) d_Mo_dsaVerify_203 ⟨by rw [(k_204 S)]; decide, by rw [(k_204 S)]; decide⟩ (by omega) (by rw [n_204 S]; omega) (g_204 S (by omega) (by omega)) ?_
          refine aw_iload d_Mo_dsaVerify_204 rfl ?_
          refine ax_ialde (x := (vfZs 1 (rgR I)) i c) d_Mo_dsaVerify_206 (kr_204 S (by omega)) (by omega) (by rw [nr_204 S (by omega)]; omega) (zc (by omega)) ?_
          refine aw_aload_n d_Mo_dsaVerify_207 rfl rfl ?_
          refine ax_getIe (x := 524288) d_Mo_dsaVerify_208 fd_Mo_237 (k_175 S) (Eq.trans (F3.1 175 35 (by omega) (Or.inr (by decide))) (dr1_35 D)) ?_
          refine aw_aload_n d_Mo_dsaVerify_211 rfl rfl ?_
          refine ax_getIe (x := 49) d_Mo_dsaVerify_212 fd_Mo_232 (k_175 S) (Eq.trans (F3.1 175 34 (by omega) (Or.inr (by decide))) (dr1_34 D)) ?_
          refine aw_aload_n d_Mo_dsaVerify_215 rfl rfl ?_
          refine ax_getIe (x := 4) d_Mo_dsaVerify_216 fd_Mo_229 (k_175 S) (Eq.trans (F3.1 175 33 (by omega) (Or.inr (by decide))) (dr1_33 D)) ?_
          refine ax_imul d_Mo_dsaVerify_219 ⟨(by omega), (by omega)⟩ ?_
          refine ax_ti (x := 196) (by decide) ?_
          refine ax_isub d_Mo_dsaVerify_220 ⟨(by omega), (by omega)⟩ ?_
          refine ax_ti (x := 524092) (by decide) ?_
          refine aw_icmp_ge (tgt := 251) d_Mo_dsaVerify_221 (by decide) (fun c_221 => ?_) (fun c_221 => ?_)
          · skip
            refine aw_iconst d_Mo_dsaVerify_251 ⟨by decide, by decide⟩ ?_
            exact aw_zret d_Mo_dsaVerify_252 rfl ⟨by decide, by decide⟩ (hP _ _ ⟨_, _, _, rfl, rfl, by rw [c4_0 ⟨by decide, by decide⟩ b1 b2 (fun z => absurd z (fun z => by have y := z.2.2 i hi.1 (by show i < 5; omega) c hc.1 (by omega); rw [vfZ_Zs] at y; exact y (wz.1 (by omega))))]; exact (q1 175 4 (by omega) (Or.inr (by decide))).trans h42, Or.inl ⟨c4_0 ⟨by decide, by decide⟩ b1 b2 (fun z => absurd z (fun z => by have y := z.2.2 i hi.1 (by show i < 5; omega) c hc.1 (by omega); rw [vfZ_Zs] at y; exact y (wz.1 (by omega)))), (fR0.fr R0 F3 (r := qN) (by intro a x y; exact ⟨fun z => z, by omega⟩) (by omega)).mono (fun _ _ z => z), Or.inl ⟨(fun z => by have y := z.2.2 i hi.1 (by show i < 5; omega) c hc.1 (by omega); rw [vfZ_Zs] at y; exact y (wz.1 (by omega))), rfl, fR0.fr R0 F3 (by intro a x y; exact ⟨fun z => z, by omega⟩) (by omega)⟩⟩⟩)
          · skip
            refine aw_aload_n d_Mo_dsaVerify_224 rfl rfl ?_
            refine ax_getR (b := 204) d_Mo_dsaVerify_225 fd_Mo_76 (k_175 S) (r_175_28 S) ?_
            refine aw_iload d_Mo_dsaVerify_228 rfl ?_
            refine ax_aald (b := 205 + i.toNat) d_Mo_dsaVerify_230 ⟨by rw [(k_204 S)]; decide, by rw [(k_204 S)]; decide⟩ (by omega) (by rw [n_204 S]; omega) (g_204 S (by omega) (by omega)) ?_
            refine aw_iload d_Mo_dsaVerify_231 rfl ?_
            refine ax_ialde (x := (vfZs 1 (rgR I)) i c) d_Mo_dsaVerify_233 (kr_204 S (by omega)) (by omega) (by rw [nr_204 S (by omega)]; omega) (zc (by omega)) ?_
            refine aw_aload_n d_Mo_dsaVerify_234 rfl rfl ?_
            refine ax_getIe (x := 49) d_Mo_dsaVerify_235 fd_Mo_232 (k_175 S) (Eq.trans (F3.1 175 34 (by omega) (Or.inr (by decide))) (dr1_34 D)) ?_
            refine aw_aload_n d_Mo_dsaVerify_238 rfl rfl ?_
            refine ax_getIe (x := 4) d_Mo_dsaVerify_239 fd_Mo_229 (k_175 S) (Eq.trans (F3.1 175 33 (by omega) (Or.inr (by decide))) (dr1_33 D)) ?_
            refine ax_imul d_Mo_dsaVerify_242 ⟨(by omega), (by omega)⟩ ?_
            refine ax_ti (x := 196) (by decide) ?_
            refine aw_aload_n d_Mo_dsaVerify_243 rfl rfl ?_
            refine ax_getIe (x := 524288) d_Mo_dsaVerify_244 fd_Mo_237 (k_175 S) (Eq.trans (F3.1 175 35 (by omega) (Or.inr (by decide))) (dr1_35 D)) ?_
            refine ax_isub d_Mo_dsaVerify_247 ⟨(by omega), (by omega)⟩ ?_
            refine ax_ti (x := -524092) (by decide) ?_
            refine aw_icmp_gt (tgt := 253) d_Mo_dsaVerify_248 (by decide) (fun c_248 => ?_) (fun c_248 => ?_)
            · skip
              refine ax_iinc (lv' := [(5, vi (c + 1)), (4, vi i), (3, vi 3248), (2, vi 0), (0, vr 175)]) d_Mo_dsaVerify_253 rfl (by decide) ⟨(by omega), (by omega)⟩ rfl ?_
              refine aw_goto (tgt := 189) d_Mo_dsaVerify_256 (by decide) ?_
              exact ih_189 _ (by omega) (c + 1) (by omega) (fun x a b => by by_cases z : x = c; exact (by rw [z]; omega); exact wk x a (by omega)) rfl
            · skip
              refine aw_iconst d_Mo_dsaVerify_251 ⟨by decide, by decide⟩ ?_
              exact aw_zret d_Mo_dsaVerify_252 rfl ⟨by decide, by decide⟩ (hP _ _ ⟨_, _, _, rfl, rfl, by rw [c4_0 ⟨by decide, by decide⟩ b1 b2 (fun z => absurd z (fun z => by have y := z.2.2 i hi.1 (by show i < 5; omega) c hc.1 (by omega); rw [vfZ_Zs] at y; exact y (wz.1 (by omega))))]; exact (q1 175 4 (by omega) (Or.inr (by decide))).trans h42, Or.inl ⟨c4_0 ⟨by decide, by decide⟩ b1 b2 (fun z => absurd z (fun z => by have y := z.2.2 i hi.1 (by show i < 5; omega) c hc.1 (by omega); rw [vfZ_Zs] at y; exact y (wz.1 (by omega)))), (fR0.fr R0 F3 (r := qN) (by intro a x y; exact ⟨fun z => z, by omega⟩) (by omega)).mono (fun _ _ z => z), Or.inl ⟨(fun z => by have y := z.2.2 i hi.1 (by show i < 5; omega) c hc.1 (by omega); rw [vfZ_Zs] at y; exact y (wz.1 (by omega))), rfl, fR0.fr R0 F3 (by intro a x y; exact ⟨fun z => z, by omega⟩) (by omega)⟩⟩⟩)
      exact lp_189 _ 0 (by omega) (fun x a b => by omega) rfl
  skip
  exact lp_148 _ 0 (a_up K 175 23 0) (by omega) (FR.b0) (a_up_at.trans (by decide)) (fun m a b => by omega) (by rw [a_up_ne (Or.inr (by decide))]; exact h4) rfl
set_option maxHeartbeats 4000000 in
set_option maxRecDepth 100000 in
theorem c_Mo_dsaVerify10 {l : Launch} {G : a_G} {h : Hp} {I L : Nat → Int → Int} (S : Shp h) (RS : RSt I L) (rb : RB I) (rg : ∀ j, -128 ≤ I 183 j ∧ I 183 j ≤ 127) : AW l G M_Mo_dsaVerify (RsR h I L (c4 ((0 ≤ (1 : Int) ∧ (1 : Int) < 3) ∧ ((0 : Int) = 0 ∨ (0 : Int) = -1)) ((0 : Int) ≠ 0 ∨ I 186 4 ≤ 255) (I 186 1 = 32 + 320 * pK (1 : Int)) (vfPre (1 : Int) (rgR I) (I 186 5) → vfOk (1 : Int) (rpR I) (rgR I))) (fun a => a = 184 ∨ a = 186) (fun v I' L' => (¬ vfPre (1 : Int) (rgR I) (I 186 5) ∧ v = 0 ∧ fR0 qN I L I' L') ∨ (vfPre (1 : Int) (rgR I) (I 186 5) ∧ ((∀ j, j ≠ 6 → I' 186 j = I 186 j) ∧ I' 186 6 = pC (1 : Int)) ∧ (HR I' 184 0 (pC (1 : Int)) (vfC (1 : Int) (rpR I) (rgR I) (muW I (0 : Int))) ∧ rng (I 184) (I' 184)) ∧ (v = 0 ∨ v = 1) ∧ (v = 1 ↔ ∀ j, 0 ≤ j → j < pC (1 : Int) → vfC (1 : Int) (rpR I) (rgR I) (muW I (0 : Int)) j = rgR I j)))) 0 (a_ar 0 [vr 175, vi 1, vi 0]) [] (sD h I L) := by
  suffices key : ∀ P : a_R → Hp → Prop, (∀ r_ h2_, RsR h I L (c4 ((0 ≤ (1 : Int) ∧ (1 : Int) < 3) ∧ ((0 : Int) = 0 ∨ (0 : Int) = -1)) ((0 : Int) ≠ 0 ∨ I 186 4 ≤ 255) (I 186 1 = 32 + 320 * pK (1 : Int)) (vfPre (1 : Int) (rgR I) (I 186 5) → vfOk (1 : Int) (rpR I) (rgR I))) (fun a => a = 184 ∨ a = 186) (fun v I' L' => (¬ vfPre (1 : Int) (rgR I) (I 186 5) ∧ v = 0 ∧ fR0 qN I L I' L') ∨ (vfPre (1 : Int) (rgR I) (I 186 5) ∧ ((∀ j, j ≠ 6 → I' 186 j = I 186 j) ∧ I' 186 6 = pC (1 : Int)) ∧ (HR I' 184 0 (pC (1 : Int)) (vfC (1 : Int) (rpR I) (rgR I) (muW I (0 : Int))) ∧ rng (I 184) (I' 184)) ∧ (v = 0 ∨ v = 1) ∧ (v = 1 ↔ ∀ j, 0 ≤ j → j < pC (1 : Int) → vfC (1 : Int) (rpR I) (rgR I) (muW I (0 : Int)) j = rgR I j))) r_ h2_ → P r_ h2_) → AW l G M_Mo_dsaVerify P 0 [(0, vr 175), (1, vi 1), (2, vi 0)] [] (sD h I L) from key _ (fun _ _ q => q)
  intro P hP
  refine aw_aload_n d_Mo_dsaVerify_0 rfl rfl ?_
  refine aw_iload_n d_Mo_dsaVerify_1 rfl rfl ?_
  refine aw_iconst d_Mo_dsaVerify_2 ⟨by decide, by decide⟩ ?_
  refine aw_iconst d_Mo_dsaVerify_3 ⟨by decide, by decide⟩ ?_
  refine ax_S (st := [vr 175]) (as := [vi 1, vi 0, vi 2]) (v := some (vi 1)) (h' := sD h I L) d_Mo_dsaVerify_4 cs_Mo_dsaVerify_4 (c_in1 (by decide)) rfl rfl rfl ?_
  show AW l G M_Mo_dsaVerify P 7 [(0, vr 175), (1, vi 1), (2, vi 0)] [vi 1, vr 175] (sD h I L)
  refine aw_if_eq (tgt := 23) d_Mo_dsaVerify_7 (by decide) (fun c_7 => False.elim (by omega)) (fun c_7 => ?_)
  refine aw_iload_n d_Mo_dsaVerify_10 rfl rfl ?_
  refine aw_iconst d_Mo_dsaVerify_11 ⟨by decide, by decide⟩ ?_
  refine aw_iconst d_Mo_dsaVerify_12 ⟨by decide, by decide⟩ ?_
  refine ax_S (st := [vr 175]) (as := [vi 0, vi (-1), vi 0]) (v := some (vi 1)) (h' := sD h I L) d_Mo_dsaVerify_13 cs_Mo_dsaVerify_13 (c_in1 (by decide)) rfl rfl rfl ?_
  show AW l G M_Mo_dsaVerify P 16 [(0, vr 175), (1, vi 1), (2, vi 0)] [vi 1, vr 175] (sD h I L)
  refine aw_if_eq (tgt := 23) d_Mo_dsaVerify_16 (by decide) (fun c_16 => False.elim (by omega)) (fun c_16 => ?_)
  refine aw_iconst d_Mo_dsaVerify_19 ⟨by decide, by decide⟩ ?_
  refine aw_goto (tgt := 24) d_Mo_dsaVerify_20 (by decide) ?_
  refine aw_iconst d_Mo_dsaVerify_24 ⟨by decide, by decide⟩ ?_
  refine ax_V (st := []) (as := [vi 1, vi 1]) (b := 175) (v := some (vi 1)) (h' := sD h (a_up I 175 4 0) L) d_Mo_dsaVerify_25 cs_Mo_dsaVerify_25 (k_175 S) (c_good1 S (rfl)) rfl rfl rfl ?_
  show AW l G M_Mo_dsaVerify P 28 [(0, vr 175), (1, vi 1), (2, vi 0)] [vi 1] (sD h (a_up I 175 4 0) L)
  refine aw_if_ne (tgt := 33) d_Mo_dsaVerify_28 (by decide) (fun c_28 => ?_) (fun c_28 => False.elim (by omega))
  refine aw_aload_n d_Mo_dsaVerify_33 rfl rfl ?_
  refine aw_iload_n d_Mo_dsaVerify_34 rfl rfl ?_
  refine ax_Vr (st := []) (as := [vi 1]) (b := 175) d_Mo_dsaVerify_35 cs_Mo_dsaVerify_35 (k_175 S) (c_Mo_dsa1 S) rfl rfl rfl (fun u_35 q_35 => ?_)
  obtain ⟨d1, d2, d3⟩ := q_35
  have e0 : ∀ a j, (a < 175 ∨ 176 ≤ a ∧ a ≤ 202 ∨ 204 ≤ a) → u_35 a j = I a j := fun a j x => (d1 a j (by omega) (Or.inl (by omega)) (Or.inl (by omega)) (Or.inl (by omega)) (Or.inl (by omega)) (Or.inl (by omega)) (Or.inl (by omega)) (Or.inl (by omega)) (Or.inl (by omega)) (Or.inl (by omega))).trans (a_up_ne (Or.inl (by omega)))
  have R00 : fR0 qN I L u_35 L := ⟨fun a j x _ => e0 a j (by omega), (d1 175 3 (by decide) (Or.inr (by decide)) (Or.inr (by decide)) (Or.inr (by decide)) (Or.inr (by decide)) (Or.inr (by decide)) (Or.inr (by decide)) (Or.inr (by decide)) (Or.inr (by decide)) (Or.inr (by decide))).trans (a_up_ne (Or.inr (by decide))), fun _ _ _ => rfl⟩
  have D0 : RD u_35 L 1 := ⟨RS.of (fun j => e0 193 j (by omega)) (fun _ => rfl), d2, d3⟩
  have D1 := D0.fr (FR.c0 (p := fun _ => False) (v := 0)) ⟨fun z => z, fun z => z, fun z => z⟩
  have R1 : fR0 qN I L (a_up u_35 175 4 0) L := fR0.fr R00 (FR.c0 (p := fun _ => False)) (by intro a x y; exact ⟨fun z => z, fun z => z⟩) (fun z => z)
  show AW l G M_Mo_dsaVerify P 38 [(0, vr 175), (1, vi 1), (2, vi 0)] [] (sD h u_35 L)
  refine aw_aload_n d_Mo_dsaVerify_38 rfl rfl ?_
  refine aw_aload_n d_Mo_dsaVerify_39 rfl rfl ?_
  refine aw_iload_n d_Mo_dsaVerify_40 rfl rfl ?_
  by_cases cx_ : (0 : Int) < 0 ∨ u_35 186 4 ≤ 255
  · skip
    refine ax_V (st := [vr 175]) (as := [vi 0]) (b := 175) (v := some (vi 1)) (h' := sD h u_35 L) d_Mo_dsaVerify_41 cs_Mo_dsaVerify_41 (k_175 S) (by have z := c_Mo_context (l := l) (G := G) (h := h) (L := L) (I := u_35) (x := 0) S; rw [if_pos cx_] at z; exact z) rfl rfl rfl ?_
    show AW l G M_Mo_dsaVerify P 44 [(0, vr 175), (1, vi 1), (2, vi 0)] [vi 1, vr 175] (sD h u_35 L)
    refine aw_iconst d_Mo_dsaVerify_44 ⟨by decide, by decide⟩ ?_
    refine ax_V (st := []) (as := [vi 1, vi 2]) (b := 175) (v := some (vi 1)) (h' := sD h (a_up u_35 175 4 0) L) d_Mo_dsaVerify_45 cs_Mo_dsaVerify_45 (k_175 S) (c_good1 S (rfl)) rfl rfl rfl ?_
    show AW l G M_Mo_dsaVerify P 48 [(0, vr 175), (1, vi 1), (2, vi 0)] [vi 1] (sD h (a_up u_35 175 4 0) L)
    refine aw_if_eq (tgt := 84) d_Mo_dsaVerify_48 (by decide) (fun c_48 => False.elim (by omega)) (fun c_48 => ?_)
    have bb : (0 : Int) ≠ 0 ∨ I 186 4 ≤ 255 := by rw [e0 186 4 (by omega)] at cx_; omega
    refine aw_aload_n d_Mo_dsaVerify_51 rfl rfl ?_
    refine aw_aload_n d_Mo_dsaVerify_52 rfl rfl ?_
    refine ax_getR (b := 186) d_Mo_dsaVerify_53 fd_Mo_18 (k_175 S) (r_175_2 S) ?_
    refine aw_iconst d_Mo_dsaVerify_56 ⟨by decide, by decide⟩ ?_
    refine ax_ialde (x := I 186 1) d_Mo_dsaVerify_57 (k_186 S) (by omega) (by rw [n_186 S]; omega) (Eq.trans (a_up_ne (Or.inl (by decide))) (Eq.trans (e0 186 1 (by omega)) (rfl))) ?_
    refine aw_bipush d_Mo_dsaVerify_58 ⟨by decide, by decide⟩ (by decide) ?_
    refine aw_sipush d_Mo_dsaVerify_60 ⟨by decide, by decide⟩ (by decide) ?_
    refine aw_aload_n d_Mo_dsaVerify_63 rfl rfl ?_
    refine ax_getIe (x := 6) d_Mo_dsaVerify_64 fd_Mo_223 (k_175 S) (Eq.trans (a_up_ne (Or.inr (by decide))) (dr1_26 D0)) ?_
    refine ax_imul d_Mo_dsaVerify_67 ⟨(by omega), (by omega)⟩ ?_
    refine ax_ti (x := 1920) (by decide) ?_
    refine ax_iadd d_Mo_dsaVerify_68 ⟨(by omega), (by omega)⟩ ?_
    refine ax_ti (x := 1952) (by decide) ?_
    refine aw_icmp_ne (tgt := 76) d_Mo_dsaVerify_69 (by decide) (fun c_69 => ?_) (fun c_69 => ?_)
    · skip
      refine aw_iconst d_Mo_dsaVerify_76 ⟨by decide, by decide⟩ ?_
      refine aw_iconst d_Mo_dsaVerify_77 ⟨by decide, by decide⟩ ?_
      refine ax_V (st := []) (as := [vi 0, vi 3]) (b := 175) (v := some (vi 0)) (h' := sD h (a_up u_35 175 4 3) L) d_Mo_dsaVerify_78 cs_Mo_dsaVerify_78 (k_175 S) (c_good0 S (by rw [a_up_up])) rfl rfl rfl ?_
      show AW l G M_Mo_dsaVerify P 81 [(0, vr 175), (1, vi 1), (2, vi 0)] [vi 0] (sD h (a_up u_35 175 4 3) L)
      refine aw_if_ne (tgt := 86) d_Mo_dsaVerify_81 (by decide) (fun c_81 => False.elim (by omega)) (fun c_81 => ?_)
      refine aw_iconst d_Mo_dsaVerify_84 ⟨by decide, by decide⟩ ?_
      exact aw_zret d_Mo_dsaVerify_85 rfl ⟨by decide, by decide⟩ (hP _ _ (rsNo 0 3 (c4_3 ⟨by decide, by decide⟩ bb (fun z => by have z1 : I 186 1 = 1952 := z; omega)) (by decide) a_up_at (fR0.fr R00 (FR.c0 (p := fun _ => False)) (by intro a x y; exact ⟨fun z => z, fun z => z⟩) (fun z => z))))
    · skip
      refine aw_iconst d_Mo_dsaVerify_72 ⟨by decide, by decide⟩ ?_
      refine aw_goto (tgt := 77) d_Mo_dsaVerify_73 (by decide) ?_
      refine aw_iconst d_Mo_dsaVerify_77 ⟨by decide, by decide⟩ ?_
      refine ax_V (st := []) (as := [vi 1, vi 3]) (b := 175) (v := some (vi 1)) (h' := sD h (a_up u_35 175 4 0) L) d_Mo_dsaVerify_78 cs_Mo_dsaVerify_78 (k_175 S) (c_good1 S (by rw [a_up_up])) rfl rfl rfl ?_
      show AW l G M_Mo_dsaVerify P 81 [(0, vr 175), (1, vi 1), (2, vi 0)] [vi 1] (sD h (a_up u_35 175 4 0) L)
      refine aw_if_ne (tgt := 86) d_Mo_dsaVerify_81 (by decide) (fun c_81 => ?_) (fun c_81 => False.elim (by omega))
      have pb : I 186 1 = 32 + 320 * pK 1 := by show I 186 1 = 1952; omega
      refine aw_aload_n d_Mo_dsaVerify_86 rfl rfl ?_
      refine ax_getIe (x := 48) d_Mo_dsaVerify_87 fd_Mo_248 (k_175 S) (Eq.trans (a_up_ne (Or.inr (by decide))) (dr1_38 D0)) ?_
      refine aw_bipush d_Mo_dsaVerify_90 ⟨by decide, by decide⟩ (by decide) ?_
      refine aw_aload_n d_Mo_dsaVerify_92 rfl rfl ?_
      refine ax_getIe (x := 5) d_Mo_dsaVerify_93 fd_Mo_226 (k_175 S) (Eq.trans (a_up_ne (Or.inr (by decide))) (dr1_32 D0)) ?_
      refine ax_imul d_Mo_dsaVerify_96 ⟨(by omega), (by omega)⟩ ?_
      refine ax_ti (x := 160) (by decide) ?_
      refine aw_aload_n d_Mo_dsaVerify_97 rfl rfl ?_
      refine ax_getIe (x := 20) d_Mo_dsaVerify_98 fd_Mo_251 (k_175 S) (Eq.trans (a_up_ne (Or.inr (by decide))) (dr1_39 D0)) ?_
      refine ax_imul d_Mo_dsaVerify_101 ⟨(by omega), (by omega)⟩ ?_
      refine ax_ti (x := 3200) (by decide) ?_
      refine ax_iadd d_Mo_dsaVerify_102 ⟨(by omega), (by omega)⟩ ?_
      refine ax_ti (x := 3248) (by decide) ?_
      refine aw_istore_n (lv' := [(3, vi 3248), (0, vr 175), (1, vi 1), (2, vi 0)]) d_Mo_dsaVerify_103 rfl (by decide) rfl ?_
      refine aw_aload_n d_Mo_dsaVerify_104 rfl rfl ?_
      refine ax_getR (b := 186) d_Mo_dsaVerify_105 fd_Mo_18 (k_175 S) (r_175_2 S) ?_
      refine aw_iconst d_Mo_dsaVerify_108 ⟨by decide, by decide⟩ ?_
      refine ax_ialde (x := I 186 5) d_Mo_dsaVerify_109 (k_186 S) (by omega) (by rw [n_186 S]; omega) (Eq.trans (a_up_ne (Or.inl (by decide))) (Eq.trans (e0 186 5 (by omega)) (rfl))) ?_
      refine aw_iload_n d_Mo_dsaVerify_110 rfl rfl ?_
      refine aw_aload_n d_Mo_dsaVerify_111 rfl rfl ?_
      refine ax_getIe (x := 55) d_Mo_dsaVerify_112 fd_Mo_245 (k_175 S) (Eq.trans (a_up_ne (Or.inr (by decide))) (dr1_37 D0)) ?_
      refine ax_iadd d_Mo_dsaVerify_115 ⟨(by omega), (by omega)⟩ ?_
      refine ax_ti (x := 3303) (by decide) ?_
      refine aw_aload_n d_Mo_dsaVerify_116 rfl rfl ?_
      refine ax_getIe (x := 6) d_Mo_dsaVerify_117 fd_Mo_223 (k_175 S) (Eq.trans (a_up_ne (Or.inr (by decide))) (dr1_26 D0)) ?_
      refine ax_iadd d_Mo_dsaVerify_120 ⟨(by omega), (by omega)⟩ ?_
      refine ax_ti (x := 3309) (by decide) ?_
      refine aw_icmp_ne (tgt := 138) d_Mo_dsaVerify_121 (by decide) (fun c_121 => ?_) (fun c_121 => ?_)
      · skip
        refine aw_iconst d_Mo_dsaVerify_138 ⟨by decide, by decide⟩ ?_
        exact aw_zret d_Mo_dsaVerify_139 rfl ⟨by decide, by decide⟩ (hP _ _ ⟨_, _, _, rfl, rfl, by rw [c4_0 ⟨by decide, by decide⟩ bb pb (fun z => absurd z (fun z => by have z1 : I 186 5 = 3309 := z.1; omega))]; exact a_up_at, Or.inl ⟨c4_0 ⟨by decide, by decide⟩ bb pb (fun z => absurd z (fun z => by have z1 : I 186 5 = 3309 := z.1; omega)), fR0.mono (fR0.fr R00 (FR.c0 (p := fun _ => False)) (by intro a x y; exact ⟨fun z => z, fun z => z⟩) (fun z => z)) (fun _ _ z => z), Or.inl ⟨(fun z => by have z1 : I 186 5 = 3309 := z.1; omega), rfl, (fR0.fr R00 (FR.c0 (p := fun _ => False)) (by intro a x y; exact ⟨fun z => z, fun z => z⟩) (fun z => z))⟩⟩⟩)
      · skip
        refine aw_aload_n d_Mo_dsaVerify_124 rfl rfl ?_
        refine aw_aload_n d_Mo_dsaVerify_125 rfl rfl ?_
        refine ax_getR (b := 177) d_Mo_dsaVerify_126 fd_Mo_15 (k_175 S) (r_175_1 S) ?_
        refine aw_iconst d_Mo_dsaVerify_129 ⟨by decide, by decide⟩ ?_
        refine ax_aald (b := 183) d_Mo_dsaVerify_130 ⟨by rw [(k_177 S)]; decide, by rw [(k_177 S)]; decide⟩ (by omega) (by rw [n_177 S]; omega) (g_177 S (j := 5) (by decide) (by decide)) ?_
        refine aw_iload_n d_Mo_dsaVerify_131 rfl rfl ?_
        have kz : ∀ j, (a_up u_35 175 4 0) 183 j = I 183 j := fun j => (a_up_ne (Or.inl (by decide))).trans (e0 183 j (by omega))
        have k5 : (a_up u_35 175 4 0) 186 5 = I 186 5 := (a_up_ne (Or.inl (by decide))).trans (e0 186 5 (by omega))
        have eg : rgR (a_up u_35 175 4 0) = rgR I := funext (fun x => by unfold rgR gW; rw [k5]; show (if 0 ≤ x ∧ x < I 186 5 then (a_up u_35 175 4 0) 183 x % 256 else 0) = (if 0 ≤ x ∧ x < I 186 5 then I 183 x % 256 else 0); rw [kz])
        refine ax_Vr (st := []) (as := [vr 183, vi 3248]) (b := 175) d_Mo_dsaVerify_132 cs_Mo_dsaVerify_132 (k_175 S) (c_Mo_hints1 S D1 (fun j => by rw [kz]; exact rg j) (by rw [k5]; omega)) rfl rfl rfl (fun u_132 q_132 => ?_)
        obtain ⟨v9, K9⟩ := u_132
        obtain ⟨F9, p9, q9⟩ := q_132
        dsimp only at F9 p9 q9
        rw [eg] at q9
        have h49 : K9 175 4 = 0 := (p9 4).trans a_up_at
        show AW l G M_Mo_dsaVerify P 135 [(3, vi 3248), (0, vr 175), (1, vi 1), (2, vi 0)] [vi v9] (sD h K9 L)
        refine aw_if_ne (tgt := 140) d_Mo_dsaVerify_135 (by decide) (fun c_135 => ?_) (fun c_135 => ?_)
        · skip
          refine aw_sub (lv' := [(3, vi 3248), (2, vi 0), (0, vr 175)]) (by simp) ?_
          have g9 := q9.resolve_right (fun z => by have z1 := z.1; omega)
          exact vB10 S (fR0.fr R1 F9 (by intro a x y; exact ⟨fun z => z, by omega⟩) (by decide)) (D1.fr F9 (by decide)) rg bb pb rb (by show I 186 5 = 3309; omega) g9.2.1 h49 g9.2.2 hP
        · skip
          refine aw_iconst d_Mo_dsaVerify_138 ⟨by decide, by decide⟩ ?_
          exact aw_zret d_Mo_dsaVerify_139 rfl ⟨by decide, by decide⟩ (hP _ _ ⟨_, _, _, rfl, rfl, by rw [c4_0 ⟨by decide, by decide⟩ bb pb (fun z => absurd z (fun z => by rcases q9 with y | y; exact absurd y.1 (by omega); exact y.2 z.2.1))]; exact h49, Or.inl ⟨c4_0 ⟨by decide, by decide⟩ bb pb (fun z => absurd z (fun z => by rcases q9 with y | y; exact absurd y.1 (by omega); exact y.2 z.2.1)), fR0.mono (fR0.fr R1 F9 (r := qN) (by intro a x y; exact ⟨fun z => z, by omega⟩) (by decide)) (fun _ _ z => z), Or.inl ⟨(fun z => by rcases q9 with y | y; exact absurd y.1 (by omega); exact y.2 z.2.1), rfl, (fR0.fr R1 F9 (r := qN) (by intro a x y; exact ⟨fun z => z, by omega⟩) (by decide))⟩⟩⟩)
  · skip
    refine ax_V (st := [vr 175]) (as := [vi 0]) (b := 175) (v := some (vi 0)) (h' := sD h u_35 L) d_Mo_dsaVerify_41 cs_Mo_dsaVerify_41 (k_175 S) (by have z := c_Mo_context (l := l) (G := G) (h := h) (L := L) (I := u_35) (x := 0) S; rw [if_neg cx_] at z; exact z) rfl rfl rfl ?_
    show AW l G M_Mo_dsaVerify P 44 [(0, vr 175), (1, vi 1), (2, vi 0)] [vi 0, vr 175] (sD h u_35 L)
    refine aw_iconst d_Mo_dsaVerify_44 ⟨by decide, by decide⟩ ?_
    refine ax_V (st := []) (as := [vi 0, vi 2]) (b := 175) (v := some (vi 0)) (h' := sD h (a_up u_35 175 4 2) L) d_Mo_dsaVerify_45 cs_Mo_dsaVerify_45 (k_175 S) (c_good0 S (rfl)) rfl rfl rfl ?_
    show AW l G M_Mo_dsaVerify P 48 [(0, vr 175), (1, vi 1), (2, vi 0)] [vi 0] (sD h (a_up u_35 175 4 2) L)
    refine aw_if_eq (tgt := 84) d_Mo_dsaVerify_48 (by decide) (fun c_48 => ?_) (fun c_48 => False.elim (by omega))
    refine aw_iconst d_Mo_dsaVerify_84 ⟨by decide, by decide⟩ ?_
    exact aw_zret d_Mo_dsaVerify_85 rfl ⟨by decide, by decide⟩ (hP _ _ (rsNo 0 2 (c4_2 ⟨by decide, by decide⟩ (fun z => by rw [e0 186 4 (by omega)] at cx_; omega)) (by decide) a_up_at (fR0.fr R00 (FR.c0 (p := fun _ => False)) (by intro a x y; exact ⟨fun z => z, fun z => z⟩) (fun z => z))))
set_option maxHeartbeats 4000000 in
set_option maxRecDepth 100000 in
theorem vC1N {l : Launch} {G : a_G} {P : a_R → Hp → Prop} {h : Hp} {I L K M : Nat → Int → Int} (S : Shp h) (R0 : fR0 qN I L K M) (D : RD K M 1) (rg : ∀ j, -128 ≤ I 183 j ∧ I 183 j ≤ 127) (b1 : (-1 : Int) ≠ 0 ∨ I 186 4 ≤ 255) (b2 : I 186 1 = 32 + 320 * pK 1) (rb : RB I) (pre : vfPre 1 (rgR I) (I 186 5)) (hZ : ∀ m, 0 ≤ m → m < 5 → eqQ (K (205 + m.toNat)) ((vfZs 1 (rgR I)) m)) (tb : ∀ m, 0 ≤ m → m < 6 → tbl K (rgR I) 3248 55 m) (hP : ∀ r_ h2_, RsR h I L (c4 ((0 ≤ (1 : Int) ∧ (1 : Int) < 3) ∧ ((-1 : Int) = 0 ∨ (-1 : Int) = -1)) ((-1 : Int) ≠ 0 ∨ I 186 4 ≤ 255) (I 186 1 = 32 + 320 * pK (1 : Int)) (vfPre (1 : Int) (rgR I) (I 186 5) → vfOk (1 : Int) (rpR I) (rgR I))) (fun a => a = 184 ∨ a = 186) (fun v I' L' => (¬ vfPre (1 : Int) (rgR I) (I 186 5) ∧ v = 0 ∧ fR0 qN I L I' L') ∨ (vfPre (1 : Int) (rgR I) (I 186 5) ∧ ((∀ j, j ≠ 6 → I' 186 j = I 186 j) ∧ I' 186 6 = pC (1 : Int)) ∧ (HR I' 184 0 (pC (1 : Int)) (vfC (1 : Int) (rpR I) (rgR I) (muW I (-1 : Int))) ∧ rng (I 184) (I' 184)) ∧ (v = 0 ∨ v = 1) ∧ (v = 1 ↔ ∀ j, 0 ≤ j → j < pC (1 : Int) → vfC (1 : Int) (rpR I) (rgR I) (muW I (-1 : Int)) j = rgR I j))) r_ h2_ → P r_ h2_) : AW l G M_Mo_dsaVerify P 265 [(2, vi (-1)), (0, vr 175)] [] (sD h K M) := by
  refine aw_aload_n d_Mo_dsaVerify_265 rfl rfl ?_
  refine aw_bipush d_Mo_dsaVerify_266 ⟨by decide, by decide⟩ (by decide) ?_
  have RS := D.1
  refine ax_Vr (st := []) (as := [vi 12]) (b := 175) d_Mo_dsaVerify_268 cs_Mo_dsaVerify_268 (k_175 S) (c_Mo_begin12 S) rfl rfl rfl (fun u_268 q_268 => ?_)
  obtain ⟨I1, L1⟩ := u_268
  obtain ⟨F1, e1, k1⟩ := q_268
  dsimp only at F1 e1 k1
  show AW l G M_Mo_dsaVerify P 271 [(2, vi (-1)), (0, vr 175)] [] (sD h I1 L1)
  refine aw_aload_n d_Mo_dsaVerify_271 rfl rfl ?_
  refine aw_aload_n d_Mo_dsaVerify_272 rfl rfl ?_
  refine ax_getR (b := 177) d_Mo_dsaVerify_273 fd_Mo_15 (k_175 S) (r_175_1 S) ?_
  refine aw_iconst d_Mo_dsaVerify_276 ⟨by decide, by decide⟩ ?_
  refine ax_aald (b := 179) d_Mo_dsaVerify_277 ⟨by rw [(k_177 S)]; decide, by rw [(k_177 S)]; decide⟩ (by omega) (by rw [n_177 S]; omega) (g_177 S (j := 1) (by decide) (by decide)) ?_
  refine aw_iconst d_Mo_dsaVerify_278 ⟨by decide, by decide⟩ ?_
  refine aw_aload_n d_Mo_dsaVerify_279 rfl rfl ?_
  refine ax_getR (b := 186) d_Mo_dsaVerify_280 fd_Mo_18 (k_175 S) (r_175_2 S) ?_
  refine aw_iconst d_Mo_dsaVerify_283 ⟨by decide, by decide⟩ ?_
  refine ax_ialde (x := 1952) d_Mo_dsaVerify_284 (k_186 S) (by omega) (by rw [n_186 S]; omega) (Eq.trans (F1.1 186 1 (Or.inl (by decide))) ((R0.1 186 1 (by omega) (fun z => z)).trans b2)) ?_
  refine ax_Vr (st := []) (as := [vr 179, vi 0, vi 1952]) (b := 175) d_Mo_dsaVerify_285 cs_Mo_dsaVerify_285 (k_175 S) (c_Mo_put3 S (RS.rf F1) (by omega) (by rw [e1]; exact spStart_lt (by decide) (by decide)) ⟨k_179 S, by decide, by decide⟩ (by rw [n_179 S]; decide)) rfl rfl rfl (fun u_285 q_285 => ?_)
  obtain ⟨I2, L2⟩ := u_285
  obtain ⟨F2, e2, k2⟩ := q_285
  dsimp only at F2 e2 k2
  show AW l G M_Mo_dsaVerify P 288 [(2, vi (-1)), (0, vr 175)] [] (sD h I2 L2)
  have eS : spTurn (spR I2 L2) = blS (fun k => I 179 (0 + k)) (I 186 1) := by rw [e2, e1, show (fun k => I1 179 (0 + k)) = (fun k => I 179 (0 + k)) from funext (fun z => (F1.1 179 _ (Or.inl (by decide))).trans (R0.1 179 _ (by omega) (fun z => z))), show I 186 1 = 1952 from b2]; rfl
  refine aw_aload_n d_Mo_dsaVerify_288 rfl rfl ?_
  refine aw_aload_n d_Mo_dsaVerify_289 rfl rfl ?_
  refine ax_getR (b := 266) d_Mo_dsaVerify_290 fd_Mo_96 (k_175 S) (r_175_42 S) ?_
  refine aw_iconst d_Mo_dsaVerify_293 ⟨by decide, by decide⟩ ?_
  refine aw_bipush d_Mo_dsaVerify_294 ⟨by decide, by decide⟩ (by decide) ?_
  refine ax_Vr (st := []) (as := [vr 266, vi 0, vi 64]) (b := 175) d_Mo_dsaVerify_296 cs_Mo_dsaVerify_296 (k_175 S) (c_Mo_give S (RS.rf (F1.tr F2)) (by omega) (by rw [e2, e1]; exact (spPart_lt (spStart_lt (by decide) (by decide)) _ _).1) ⟨k_266 S, by decide, by decide, by decide⟩ (by rw [n_266 S]; decide)) rfl rfl rfl (fun u_296 q_296 => ?_)
  obtain ⟨I3, L3⟩ := u_296
  obtain ⟨F3, f3, e3, k3⟩ := q_296
  dsimp only at F3 f3 e3 k3
  rw [eS] at F3
  have h3 : HR I3 266 0 64 (spOut (blS (fun k => I 179 (0 + k)) (I 186 1))) := HR.give F3 (by decide)
  have G3 : FR (fun a => a = 266) K M I3 L3 := ((F1.tr F2).fr (p := fun a => a = 266)).tr (FR.give (p := fun a => a = 266) F3 f3 rfl) (fun a x => ⟨x, x⟩)
  have z3 : ∀ a j, (a < 175 ∨ 176 ≤ a ∧ a ≤ 194) → I3 a j = I a j := fun a j x => (G3.1 a j (by omega) (Or.inl (by omega))).trans (R0.1 a j (by omega) (fun z => z))
  have rb3 : RB I3 := ⟨fun s a b => by rw [z3 186 s (by omega)]; exact rb.1 s a b, by rw [G3.1 175 3 (by decide) (Or.inr (by decide)), R0.2.1]; exact rb.2⟩
  have D3 := D.fr G3 (by decide)
  show AW l G M_Mo_dsaVerify P 299 [(2, vi (-1)), (0, vr 175)] [] (sD h I3 L3)
  refine aw_aload_n d_Mo_dsaVerify_299 rfl rfl ?_
  refine aw_aload_n d_Mo_dsaVerify_300 rfl rfl ?_
  refine ax_getR (b := 266) d_Mo_dsaVerify_301 fd_Mo_96 (k_175 S) (r_175_42 S) ?_
  refine aw_iconst d_Mo_dsaVerify_304 ⟨by decide, by decide⟩ ?_
  refine aw_iload_n d_Mo_dsaVerify_305 rfl rfl ?_
  refine ax_Vr (st := []) (as := [vr 266, vi 0, vi (-1)]) (b := 175) d_Mo_dsaVerify_306 cs_Mo_dsaVerify_306 (k_175 S) (c_Mo_digestMessageN (f := 266) (pa := 0) S D3.1 rb3 ⟨k_266 S, by decide, by decide⟩ (by rw [n_266 S]; decide)) rfl rfl rfl (fun u_306 q_306 => ?_)
  obtain ⟨I4, L4⟩ := u_306
  obtain ⟨F4, h4_⟩ := q_306
  dsimp only at F4 h4_
  rw [z3 186 4 (by omega), z3 186 3 (by omega), show (fun k => I3 182 (0 + k)) = (fun k => I 182 (0 + k)) from funext (fun z => z3 182 _ (by omega)), show (fun k => I3 181 (0 + k)) = (fun k => I 181 (0 + k)) from funext (fun z => z3 181 _ (by omega)), dgS_congr (gk' := (spOut (blS (fun k => I 179 (0 + k)) (I 186 1)))) (fun k hk => by rw [h3 k (by omega) (by omega), spOut_m])] at h4_
  have h4_ : HR I4 265 0 64 (muW I (-1 : Int)) := h4_
  have D4 := D3.fr F4 (by decide)
  have G4 : FR (fun a => a = 265 ∨ a = 266) K M I4 L4 := G3.tr F4 (by intro a x; omega)
  have eB : blS (fun k => I4 183 (0 + k)) 48 = vfBs 1 (rgR I) := blS_congr (fun k hk => by rw [G4.1 183 _ (by decide) (Or.inl (by decide)), R0.1 183 _ (by omega) (fun z => z), Int.zero_add, rg_in (show I 186 5 = 3309 from pre.1) (by omega) (by omega)]; omega)
  show AW l G M_Mo_dsaVerify P 309 [(2, vi (-1)), (0, vr 175)] [] (sD h I4 L4)
  refine aw_aload_n d_Mo_dsaVerify_309 rfl rfl ?_
  refine aw_aload_n d_Mo_dsaVerify_310 rfl rfl ?_
  refine aw_aload_n d_Mo_dsaVerify_311 rfl rfl ?_
  refine ax_getR (b := 204) d_Mo_dsaVerify_312 fd_Mo_76 (k_175 S) (r_175_28 S) ?_
  refine aw_bipush d_Mo_dsaVerify_315 ⟨by decide, by decide⟩ (by decide) ?_
  refine ax_aald (b := 251) d_Mo_dsaVerify_317 ⟨by rw [(k_204 S)]; decide, by rw [(k_204 S)]; decide⟩ (by omega) (by rw [n_204 S]; omega) (g_204 S (j := 46) (by decide) (by decide)) ?_
  refine aw_aload_n d_Mo_dsaVerify_318 rfl rfl ?_
  refine ax_getR (b := 177) d_Mo_dsaVerify_319 fd_Mo_15 (k_175 S) (r_175_1 S) ?_
  refine aw_iconst d_Mo_dsaVerify_322 ⟨by decide, by decide⟩ ?_
  refine ax_aald (b := 183) d_Mo_dsaVerify_323 ⟨by rw [(k_177 S)]; decide, by rw [(k_177 S)]; decide⟩ (by omega) (by rw [n_177 S]; omega) (g_177 S (j := 5) (by decide) (by decide)) ?_
  refine aw_iconst d_Mo_dsaVerify_324 ⟨by decide, by decide⟩ ?_
  refine ax_Vr (st := [vr 175]) (as := [vr 251, vr 183, vi 0]) (b := 175) d_Mo_dsaVerify_325 cs_Mo_dsaVerify_325 (k_175 S) (c_Mo_ball S D4.1 ⟨k_183 S, by decide, by decide⟩ (dr1_38 D4) (dr1_34 D4) (by decide) (by rw [n_183 S]; decide)) rfl rfl rfl (fun u_325 q_325 => ?_)
  obtain ⟨I5, L5, v5⟩ := u_325
  obtain ⟨F5, q5, r5⟩ := q_325
  dsimp only at F5 q5 r5
  rw [eB] at q5 r5
  have G5 : FR (fun a => a = 200 ∨ a = 251) I4 L4 I5 L5 := ⟨fun a j x y => F5.1 a j (by rcases y with y | y; exact Or.inl y; exact Or.inr ⟨y.1, y.2.1, y.2.2.1⟩) (fun z => x (Or.inl z)) (fun z => x (Or.inr z)), fun a j x y z u _ => F5.2 a j x y z u⟩
  have GB : FR (fun a => a = 265 ∨ a = 266 ∨ a = 200 ∨ a = 251) K M I5 L5 := G4.tr G5 (by intro a x; omega)
  show AW l G M_Mo_dsaVerify P 328 [(2, vi (-1)), (0, vr 175)] [vi v5, vr 175] (sD h I5 L5)
  rcases q5 with ⟨vz, bn⟩ | ⟨vz, bn⟩
  · subst vz
    refine aw_iconst d_Mo_dsaVerify_328 ⟨by decide, by decide⟩ ?_
    refine ax_V (st := []) (as := [vi 1, vi 4]) (b := 175) (v := some (vi 1)) (h' := sD h (a_up I5 175 4 0) L5) d_Mo_dsaVerify_329 cs_Mo_dsaVerify_329 (k_175 S) (c_good1 S rfl) rfl rfl rfl ?_
    show AW l G M_Mo_dsaVerify P 332 [(2, vi (-1)), (0, vr 175)] [vi 1] (sD h (a_up I5 175 4 0) L5)
    refine aw_if_ne (tgt := 337) d_Mo_dsaVerify_332 (by decide) (fun c_332 => ?_) (fun c_332 => False.elim (by omega))
    refine aw_aload_n d_Mo_dsaVerify_337 rfl rfl ?_
    refine ax_getR (b := 204) d_Mo_dsaVerify_338 fd_Mo_76 (k_175 S) (r_175_28 S) ?_
    refine aw_bipush d_Mo_dsaVerify_341 ⟨by decide, by decide⟩ (by decide) ?_
    refine ax_aald (b := 251) d_Mo_dsaVerify_343 ⟨by rw [(k_204 S)]; decide, by rw [(k_204 S)]; decide⟩ (by omega) (by rw [n_204 S]; omega) (g_204 S (j := 46) (by decide) (by decide)) ?_
    refine ax_S (st := []) (as := [vr 251]) (v := none) (h' := sD h (rowTo (a_up I5 175 4 0) 251 256 (fun x => ((a_up I5 175 4 0) 251 x + 8380417) % 8380417)) L5) d_Mo_dsaVerify_344 cs_Mo_dsaVerify_344 (c_Mo_positive ⟨k_251 S, by decide, n_251 S⟩ (fun x a b => by rw [a_up_ne (Or.inl (by decide)), r5 bn x a b]; have := blX_b (tau := 49) (s := vfBs 1 (rgR I)) x; omega)) rfl rfl rfl ?_
    show AW l G M_Mo_dsaVerify P 347 [(2, vi (-1)), (0, vr 175)] [] (sD h (rowTo (a_up I5 175 4 0) 251 256 (fun x => ((a_up I5 175 4 0) 251 x + 8380417) % 8380417)) L5)
    refine aw_aload_n d_Mo_dsaVerify_347 rfl rfl ?_
    refine aw_aload_n d_Mo_dsaVerify_348 rfl rfl ?_
    refine ax_getR (b := 204) d_Mo_dsaVerify_349 fd_Mo_76 (k_175 S) (r_175_28 S) ?_
    refine aw_bipush d_Mo_dsaVerify_352 ⟨by decide, by decide⟩ (by decide) ?_
    refine ax_aald (b := 251) d_Mo_dsaVerify_354 ⟨by rw [(k_204 S)]; decide, by rw [(k_204 S)]; decide⟩ (by omega) (by rw [n_204 S]; omega) (g_204 S (j := 46) (by decide) (by decide)) ?_
    refine ax_Vr (st := []) (as := [vr 251]) (b := 175) d_Mo_dsaVerify_355 cs_Mo_dsaVerify_355 (k_175 S) (c_Mo_evaluate S ⟨k_251 S, by decide, n_251 S⟩ (by decide) (fun x a b => by rw [rowTo_in a b]; omega) (fun x a b => by rw [rowTo_ne (by decide), a_up_ne (Or.inl (by decide))]; exact (D.fr GB (by decide)).2.2 x a b)) rfl rfl rfl (fun u_355 q_355 => ?_)
    have l5 := q_355
    have GE : FR (fun a => a = 265 ∨ a = 266 ∨ a = 200 ∨ a = 251) K M (rowTo (rowTo (a_up I5 175 4 0) 251 256 (fun x => ((a_up I5 175 4 0) 251 x + 8380417) % 8380417)) 251 256 (eva ((rowTo (a_up I5 175 4 0) 251 256 (fun x => ((a_up I5 175 4 0) 251 x + 8380417) % 8380417)) 251))) u_355 := ((GB.tr (FR.c0 (p := fun a => a = 265 ∨ a = 266 ∨ a = 200 ∨ a = 251)) (fun a x => ⟨x, x⟩)).tr (FR.row (p := fun a => a = 265 ∨ a = 266 ∨ a = 200 ∨ a = 251) (by omega) (fun _ _ _ => rfl)) (fun a x => ⟨x, x⟩)).tr (FR.row (p := fun a => a = 265 ∨ a = 266 ∨ a = 200 ∨ a = 251) (by omega) l5) (fun a x => ⟨x, x⟩)
    have bE : eqQ ((rowTo (rowTo (a_up I5 175 4 0) 251 256 (fun x => ((a_up I5 175 4 0) 251 x + 8380417) % 8380417)) 251 256 (eva ((rowTo (a_up I5 175 4 0) 251 256 (fun x => ((a_up I5 175 4 0) 251 x + 8380417) % 8380417)) 251))) 251) (vfB 1 (rgR I)) := fun x a b => by rw [rowTo_in a b]; show eva _ x = fwd rt (fun j => blX 49 (vfBs 1 (rgR I)) j % 8380417) x; rw [fwd_eva a b]; exact eva_cq (fun y hy => cq.e (by rw [rowTo_in (by omega) (by omega), a_up_ne (Or.inl (by decide)), r5 bn y (by omega) (by omega), Int.add_emod_right]))
    have mE : HR (rowTo (rowTo (a_up I5 175 4 0) 251 256 (fun x => ((a_up I5 175 4 0) 251 x + 8380417) % 8380417)) 251 256 (eva ((rowTo (a_up I5 175 4 0) 251 256 (fun x => ((a_up I5 175 4 0) 251 x + 8380417) % 8380417)) 251))) 265 0 64 (muW I (-1 : Int)) := fun z x y => by rw [rowTo_ne (by decide), rowTo_ne (by decide), a_up_ne (Or.inl (by decide)), G5.1 265 _ (by decide) (Or.inl (by decide))]; exact h4_ z x y
    have cE : (rowTo (rowTo (a_up I5 175 4 0) 251 256 (fun x => ((a_up I5 175 4 0) 251 x + 8380417) % 8380417)) 251 256 (eva ((rowTo (a_up I5 175 4 0) 251 256 (fun x => ((a_up I5 175 4 0) 251 x + 8380417) % 8380417)) 251))) 175 4 = 0 := by rw [rowTo_ne (by decide), rowTo_ne (by decide), a_up_at]
    show AW l G M_Mo_dsaVerify P 358 [(2, vi (-1)), (0, vr 175)] [] (sD h (rowTo (rowTo (a_up I5 175 4 0) 251 256 (fun x => ((a_up I5 175 4 0) 251 x + 8380417) % 8380417)) 251 256 (eva ((rowTo (a_up I5 175 4 0) 251 256 (fun x => ((a_up I5 175 4 0) 251 x + 8380417) % 8380417)) 251))) u_355)
    refine aw_iconst d_Mo_dsaVerify_358 ⟨by decide, by decide⟩ ?_
    refine aw_istore (lv' := [(4, vi 0), (2, vi (-1)), (0, vr 175)]) d_Mo_dsaVerify_359 (by decide) rfl ?_
    have lp_361 : ∀ (n_ : Nat) (i : Int) (K6 : Nat → Int → Int) (M6 : Nat → Int → Int), (0 ≤ i ∧ i ≤ 5) → (FR (fun a => a = 265 ∨ a = 266 ∨ a = 200 ∨ a = 251 ∨ 205 ≤ a ∧ a < 210) K M K6 M6) → (∀ a j, (a < 205 ∨ 210 ≤ a) → K6 a j = (rowTo (rowTo (a_up I5 175 4 0) 251 256 (fun x => ((a_up I5 175 4 0) 251 x + 8380417) % 8380417)) 251 256 (eva ((rowTo (a_up I5 175 4 0) 251 256 (fun x => ((a_up I5 175 4 0) 251 x + 8380417) % 8380417)) 251))) a j) → (∀ m, 0 ≤ m → m < i → eqQ (K6 (205 + m.toNat)) (fwd rt ((vfZ 1 (rgR I)) m))) → (∀ m, 0 ≤ m → i ≤ m → m < 5 → eqQ (K6 (205 + m.toNat)) ((vfZs 1 (rgR I)) m)) → ((5 - i).toNat) = n_ → AW l G M_Mo_dsaVerify P 361 [(4, vi i), (0, vr 175)] [] (sD h K6 M6) := by
      intro n_
      induction n_ using Nat.strongRecOn with
      | _ n_ ih_361 =>
      intro i K6 M6 hi G6 f6 dn td hm_361
      refine aw_iload d_Mo_dsaVerify_361 rfl ?_
      refine aw_aload_n d_Mo_dsaVerify_363 rfl rfl ?_
      refine ax_getIe (x := 5) d_Mo_dsaVerify_364 fd_Mo_226 (k_175 S) (Eq.trans (G6.1 175 32 (by omega) (Or.inr (by decide))) (dr1_32 D)) ?_
      refine aw_icmp_ge (tgt := 397) d_Mo_dsaVerify_367 (by decide) (fun c_367 => ?_) (fun c_367 => ?_)
      · skip
        refine aw_aload_n d_Mo_dsaVerify_397 rfl rfl ?_
        refine aw_iconst d_Mo_dsaVerify_398 ⟨by decide, by decide⟩ ?_
        refine ax_putI d_Mo_dsaVerify_399 fd_Mo_216 (k_175 S) (by decide) rfl ?_
        refine aw_sub (lv' := [(0, vr 175)]) (by simp) ?_
        exact vD1N S (fR0.fr (fR0.fr R0 G6 (r := qN) (by intro a x y; exact ⟨fun z => z, by omega⟩) (by omega)) (FR.b0 (p := fun _ => False)) (by intro a x y; exact ⟨fun z => z, fun z => z⟩) (fun z => z)) ((D.fr G6 (by omega)).fr (FR.b0 (p := fun _ => False)) ⟨fun z => z, fun z => z, fun z => z⟩) rg b1 b2 pre bn (fun x a b => by rw [a_up_ne (Or.inl (by decide)), f6 251 x (by omega)]; exact bE x a b) (fun m a b x u v => by rw [a_up_ne (Or.inl (by omega))]; exact dn m a (by omega) x u v) (a_up_at.trans (by decide)) (fun z x y => by rw [a_up_ne (Or.inl (by decide)), f6 265 _ (by omega)]; exact mE z x y) (by rw [a_up_ne (Or.inr (by decide)), f6 175 4 (by omega)]; exact cE) (fun m a b c x y => by rw [a_up_ne (Or.inl (by omega)), G6.1 _ _ (by omega) (Or.inl (by omega))]; exact tb m a b c x y) hP
      · skip
        refine aw_aload_n d_Mo_dsaVerify_370 rfl rfl ?_
        refine ax_getR (b := 204) d_Mo_dsaVerify_371 fd_Mo_76 (k_175 S) (r_175_28 S) ?_
        refine aw_iload d_Mo_dsaVerify_374 rfl ?_
        refine ax_aald (b := 205 + i.toNat) d_Mo_dsaVerify_376 ⟨by rw [(k_204 S)]; decide, by rw [(k_204 S)]; decide⟩ (by omega) (by rw [n_204 S]; omega) (g_204 S (by omega) (by omega)) ?_
        refine ax_S (st := []) (as := [vr (205 + i.toNat)]) (v := none) (h' := sD h (rowTo K6 (205 + i.toNat) 256 (fun x => (K6 (205 + i.toNat) x + 8380417) % 8380417)) M6) d_Mo_dsaVerify_377 cs_Mo_dsaVerify_377 (c_Mo_positive ⟨kr_204 S (by omega), by omega, nr_204 S (by omega)⟩ (fun x a b => by rw [td i hi.1 (Int.le_refl _) (by omega) x a b]; have := (show -524288 < (vfZs 1 (rgR I)) i x ∧ (vfZs 1 (rgR I)) i x ≤ 524288 from ⟨by have := (vfZs_b (s := 1) (g := (rgR I)) (m := i) (j := x)).1; rw [show pG1 1 - 2 ^ (pB 1).toNat = -524288 from by decide] at this; exact this, (vfZs_b (s := 1) (g := (rgR I)) (m := i) (j := x)).2⟩); omega)) rfl rfl rfl ?_
        show AW l G M_Mo_dsaVerify P 380 [(4, vi i), (0, vr 175)] [] (sD h (rowTo K6 (205 + i.toNat) 256 (fun x => (K6 (205 + i.toNat) x + 8380417) % 8380417)) M6)
        refine aw_aload_n d_Mo_dsaVerify_380 rfl rfl ?_
        refine aw_aload_n d_Mo_dsaVerify_381 rfl rfl ?_
        refine ax_getR (b := 204) d_Mo_dsaVerify_382 fd_Mo_76 (k_175 S) (r_175_28 S) ?_
        refine aw_iload d_Mo_dsaVerify_385 rfl ?_
        refine ax_aald (b := 205 + i.toNat) d_Mo_dsaVerify_387 ⟨by rw [(k_204 S)]; decide, by rw [(k_204 S)]; decide⟩ (by omega) (by rw [n_204 S]; omega) (g_204 S (by omega) (by omega)) ?_
        refine ax_Vr (st := []) (as := [vr (205 + i.toNat)]) (b := 175) d_Mo_dsaVerify_388 cs_Mo_dsaVerify_388 (k_175 S) (c_Mo_evaluate S ⟨kr_204 S (by omega), by omega, nr_204 S (by omega)⟩ (by omega) (fun x a b => by rw [rowTo_in a b]; omega) (fun x a b => by rw [rowTo_ne (by omega)]; exact (D.fr G6 (by omega)).2.2 x a b)) rfl rfl rfl (fun u_388 q_388 => ?_)
        have l6 := q_388
        show AW l G M_Mo_dsaVerify P 391 [(4, vi i), (0, vr 175)] [] (sD h (rowTo (rowTo K6 (205 + i.toNat) 256 (fun x => (K6 (205 + i.toNat) x + 8380417) % 8380417)) (205 + i.toNat) 256 (eva ((rowTo K6 (205 + i.toNat) 256 (fun x => (K6 (205 + i.toNat) x + 8380417) % 8380417)) (205 + i.toNat)))) u_388)
        refine ax_iinc (lv' := [(4, vi (i + 1)), (0, vr 175)]) d_Mo_dsaVerify_391 rfl (by decide) ⟨(by omega), (by omega)⟩ rfl ?_
        refine aw_goto (tgt := 361) d_Mo_dsaVerify_394 (by decide) ?_
        exact ih_361 _ (by omega) (i + 1) (rowTo (rowTo K6 (205 + i.toNat) 256 (fun x => (K6 (205 + i.toNat) x + 8380417) % 8380417)) (205 + i.toNat) 256 (eva ((rowTo K6 (205 + i.toNat) 256 (fun x => (K6 (205 + i.toNat) x + 8380417) % 8380417)) (205 + i.toNat)))) u_388 (by omega) ((G6.tr (FR.row (p := fun a => a = 265 ∨ a = 266 ∨ a = 200 ∨ a = 251 ∨ 205 ≤ a ∧ a < 210) (by omega) (fun _ _ _ => rfl)) (fun a x => ⟨x, x⟩)).tr (FR.row (p := fun a => a = 265 ∨ a = 266 ∨ a = 200 ∨ a = 251 ∨ 205 ≤ a ∧ a < 210) (by omega) l6) (fun a x => ⟨x, x⟩)) (fun a j x => by rw [rowTo_ne (by omega), rowTo_ne (by omega)]; exact f6 a j x) (fun m a b x u v => by by_cases z : m = i; exact (by rw [z, rowTo_in u v, fwd_eva u v]; exact eva_cq (fun t ht => cq.e (by rw [rowTo_in (by omega) (by omega), td i hi.1 (Int.le_refl _) (by omega) t (by omega) (by omega), vfZ_Zs, Int.add_emod_right]))); exact (by rw [rowTo_ne (by omega), rowTo_ne (by omega)]; exact dn m a (by omega) x u v)) (fun m a b c x u v => by rw [rowTo_ne (by omega), rowTo_ne (by omega)]; exact td m a (by omega) c x u v) rfl
    skip
    refine aw_sub (lv' := [(4, vi 0), (0, vr 175)]) (by simp) ?_
    exact lp_361 _ 0 (rowTo (rowTo (a_up I5 175 4 0) 251 256 (fun x => ((a_up I5 175 4 0) 251 x + 8380417) % 8380417)) 251 256 (eva ((rowTo (a_up I5 175 4 0) 251 256 (fun x => ((a_up I5 175 4 0) 251 x + 8380417) % 8380417)) 251))) u_355 (by omega) (GE.mono (by intro a x; omega)) (fun _ _ _ => rfl) (fun m a b => by omega) (fun m a b c x u v => by rw [GE.1 _ _ (by omega) (Or.inl (by omega))]; exact hZ m a c x u v) rfl
  · subst vz
    refine aw_iconst d_Mo_dsaVerify_328 ⟨by decide, by decide⟩ ?_
    refine ax_V (st := []) (as := [vi 0, vi 4]) (b := 175) (v := some (vi 0)) (h' := sD h (a_up I5 175 4 4) L5) d_Mo_dsaVerify_329 cs_Mo_dsaVerify_329 (k_175 S) (c_good0 S rfl) rfl rfl rfl ?_
    show AW l G M_Mo_dsaVerify P 332 [(2, vi (-1)), (0, vr 175)] [vi 0] (sD h (a_up I5 175 4 4) L5)
    refine aw_if_ne (tgt := 337) d_Mo_dsaVerify_332 (by decide) (fun c_332 => False.elim (by omega)) (fun c_332 => ?_)
    refine aw_iconst d_Mo_dsaVerify_335 ⟨by decide, by decide⟩ ?_
    exact aw_zret d_Mo_dsaVerify_336 rfl ⟨by decide, by decide⟩ (hP _ _ (rsNo 0 4 (c4_4 ⟨by decide, by decide⟩ b1 b2 (fun z => (z pre).1 bn)) (by decide) a_up_at (fR0.fr (fR0.fr R0 GB (r := qN) (by intro a x y; exact ⟨fun z => z, by omega⟩) (by decide)) (FR.c0 (p := fun _ => False)) (by intro a x y; exact ⟨fun z => z, fun z => z⟩) (fun z => z))))
set_option maxHeartbeats 4000000 in
set_option maxRecDepth 100000 in
theorem vB1N {l : Launch} {G : a_G} {P : a_R → Hp → Prop} {h : Hp} {I L K M : Nat → Int → Int} (S : Shp h) (R0 : fR0 qN I L K M) (D : RD K M 1) (rg : ∀ j, -128 ≤ I 183 j ∧ I 183 j ≤ 127) (b1 : (-1 : Int) ≠ 0 ∨ I 186 4 ≤ 255) (b2 : I 186 1 = 32 + 320 * pK 1) (rb : RB I) (p1 : I 186 5 = sPkt 1) (p2 : hSt (rgR I) (sO3 1) (pW 1) (pK 1)) (h4 : K 175 4 = 0) (tb : ∀ m, 0 ≤ m → m < 6 → tbl K (rgR I) 3248 55 m) (hP : ∀ r_ h2_, RsR h I L (c4 ((0 ≤ (1 : Int) ∧ (1 : Int) < 3) ∧ ((-1 : Int) = 0 ∨ (-1 : Int) = -1)) ((-1 : Int) ≠ 0 ∨ I 186 4 ≤ 255) (I 186 1 = 32 + 320 * pK (1 : Int)) (vfPre (1 : Int) (rgR I) (I 186 5) → vfOk (1 : Int) (rpR I) (rgR I))) (fun a => a = 184 ∨ a = 186) (fun v I' L' => (¬ vfPre (1 : Int) (rgR I) (I 186 5) ∧ v = 0 ∧ fR0 qN I L I' L') ∨ (vfPre (1 : Int) (rgR I) (I 186 5) ∧ ((∀ j, j ≠ 6 → I' 186 j = I 186 j) ∧ I' 186 6 = pC (1 : Int)) ∧ (HR I' 184 0 (pC (1 : Int)) (vfC (1 : Int) (rpR I) (rgR I) (muW I (-1 : Int))) ∧ rng (I 184) (I' 184)) ∧ (v = 0 ∨ v = 1) ∧ (v = 1 ↔ ∀ j, 0 ≤ j → j < pC (1 : Int) → vfC (1 : Int) (rpR I) (rgR I) (muW I (-1 : Int)) j = rgR I j))) r_ h2_ → P r_ h2_) : AW l G M_Mo_dsaVerify P 140 [(3, vi 3248), (2, vi (-1)), (0, vr 175)] [] (sD h K M) := by
  refine aw_aload_n d_Mo_dsaVerify_140 rfl rfl ?_
  refine aw_iconst d_Mo_dsaVerify_141 ⟨by decide, by decide⟩ ?_
  refine ax_putI d_Mo_dsaVerify_142 fd_Mo_216 (k_175 S) (by decide) rfl ?_
  refine aw_iconst d_Mo_dsaVerify_145 ⟨by decide, by decide⟩ ?_
  refine aw_istore (lv' := [(4, vi 0), (3, vi 3248), (2, vi (-1)), (0, vr 175)]) d_Mo_dsaVerify_146 (by decide) rfl ?_
  have lp_148 : ∀ (n_ : Nat) (i : Int) (K2 : Nat → Int → Int), (0 ≤ i ∧ i ≤ 5) → (FR (fun a => 205 ≤ a ∧ a < 210) K M K2 M) → (K2 175 23 = 8 * (640 * i)) → (∀ m, 0 ≤ m → m < i → eqQ (K2 (205 + m.toNat)) ((vfZs 1 (rgR I)) m) ∧ wiN 524092 ((vfZ 1 (rgR I)) m)) → (K2 175 4 = 0) → ((5 - i).toNat) = n_ → AW l G M_Mo_dsaVerify P 148 [(4, vi i), (3, vi 3248), (2, vi (-1)), (0, vr 175)] [] (sD h K2 M) := by
    intro n_
    induction n_ using Nat.strongRecOn with
    | _ n_ ih_148 =>
    intro i K2 hi F2 bb dn h42 hm_148
    refine aw_iload d_Mo_dsaVerify_148 rfl ?_
    refine aw_aload_n d_Mo_dsaVerify_150 rfl rfl ?_
    refine ax_getIe (x := 5) d_Mo_dsaVerify_151 fd_Mo_226 (k_175 S) (Eq.trans (F2.1 175 32 (by omega) (Or.inr (by decide))) (dr1_32 D)) ?_
    refine aw_icmp_ge (tgt := 265) d_Mo_dsaVerify_154 (by decide) (fun c_154 => ?_) (fun c_154 => ?_)
    · skip
      refine aw_sub (lv' := [(2, vi (-1)), (0, vr 175)]) (by simp) ?_
      exact vC1N S (fR0.fr R0 F2 (by intro a x y; exact ⟨fun z => z, by omega⟩) (by omega)) (D.fr F2 (by omega)) rg b1 b2 rb ⟨p1, p2, fun m a b => (dn m a (by have b2 : m < 5 := b; omega)).2⟩ (fun m a b => (dn m a (by omega)).1) (fun m a b c x y => by rw [F2.1 _ _ (by omega) (Or.inl (by omega))]; exact tb m a b c x y) hP
    · skip
      refine aw_aload_n d_Mo_dsaVerify_157 rfl rfl ?_
      refine aw_aload_n d_Mo_dsaVerify_158 rfl rfl ?_
      refine ax_getR (b := 177) d_Mo_dsaVerify_159 fd_Mo_15 (k_175 S) (r_175_1 S) ?_
      refine aw_iconst d_Mo_dsaVerify_162 ⟨by decide, by decide⟩ ?_
      refine ax_aald (b := 183) d_Mo_dsaVerify_163 ⟨by rw [(k_177 S)]; decide, by rw [(k_177 S)]; decide⟩ (by omega) (by rw [n_177 S]; omega) (g_177 S (j := 5) (by decide) (by decide)) ?_
      refine aw_aload_n d_Mo_dsaVerify_164 rfl rfl ?_
      refine ax_getIe (x := 48) d_Mo_dsaVerify_165 fd_Mo_248 (k_175 S) (Eq.trans (F2.1 175 38 (by omega) (Or.inr (by decide))) (dr1_38 D)) ?_
      refine aw_aload_n d_Mo_dsaVerify_168 rfl rfl ?_
      refine ax_getR (b := 204) d_Mo_dsaVerify_169 fd_Mo_76 (k_175 S) (r_175_28 S) ?_
      refine aw_iload d_Mo_dsaVerify_172 rfl ?_
      refine ax_aald (b := 205 + i.toNat) d_Mo_dsaVerify_174 ⟨by rw [(k_204 S)]; decide, by rw [(k_204 S)]; decide⟩ (by omega) (by rw [n_204 S]; omega) (g_204 S (by omega) (by omega)) ?_
      refine aw_aload_n d_Mo_dsaVerify_175 rfl rfl ?_
      refine ax_getIe (x := 524288) d_Mo_dsaVerify_176 fd_Mo_237 (k_175 S) (Eq.trans (F2.1 175 35 (by omega) (Or.inr (by decide))) (dr1_35 D)) ?_
      refine aw_aload_n d_Mo_dsaVerify_179 rfl rfl ?_
      refine ax_getIe (x := 20) d_Mo_dsaVerify_180 fd_Mo_251 (k_175 S) (Eq.trans (F2.1 175 39 (by omega) (Or.inr (by decide))) (dr1_39 D)) ?_
      refine ax_Vr (st := []) (as := [vr 183, vi 48, vr (205 + i.toNat), vi 524288, vi 20]) (b := 175) d_Mo_dsaVerify_183 cs_Mo_dsaVerify_183 (k_175 S) (c_Mo_unpack (pa := 48) (c := 640 * i) (d := 20) (b := 524288) S ⟨k_183 S, by decide, by decide⟩ ⟨kr_204 S (by omega), by omega, nr_204 S (by omega)⟩ (by omega) (by decide) (by omega) (by decide) (by rw [n_183 S]; omega)) rfl rfl rfl (fun u_183 q_183 => ?_)
      obtain ⟨q1, q2, q3⟩ := q_183
      have F3 : FR (fun a => 205 ≤ a ∧ a < 210) K M u_183 M := F2.tr (FR.unp (p := fun a => 205 ≤ a ∧ a < 210) q1 (by omega)) (fun a x => ⟨x, x⟩)
      have z3 : eqQ (u_183 (205 + i.toNat)) ((vfZs 1 (rgR I)) i) := fun x u v => by rw [q3 x u v, gR_congr (g := fun j => K2 183 (48 + 640 * i + j) % 256) (g' := fun j => rgR I (48 + 640 * i + j)) (fun y y0 y1 => by rw [F2.1 183 _ (by omega) (Or.inl (by decide)), R0.1 183 _ (by omega) (fun z => z), rg_in (show I 186 5 = 3309 from p1) (by omega) (by omega)])]; rfl
      show AW l G M_Mo_dsaVerify P 186 [(4, vi i), (3, vi 3248), (2, vi (-1)), (0, vr 175)] [] (sD h u_183 M)
      refine aw_iconst d_Mo_dsaVerify_186 ⟨by decide, by decide⟩ ?_
      refine aw_istore (lv' := [(5, vi 0), (4, vi i), (3, vi 3248), (2, vi (-1)), (0, vr 175)]) d_Mo_dsaVerify_187 (by decide) rfl ?_
      have lp_189 : ∀ (n_ : Nat) (c : Int), (0 ≤ c ∧ c ≤ 256) → (∀ x, 0 ≤ x → x < c → -524092 < (vfZs 1 (rgR I)) i x ∧ (vfZs 1 (rgR I)) i x < 524092) → ((256 - c).toNat) = n_ → AW l G M_Mo_dsaVerify P 189 [(5, vi c), (4, vi i), (3, vi 3248), (2, vi (-1)), (0, vr 175)] [] (sD h u_183 M) := by
        intro n_
        induction n_ using Nat.strongRecOn with
        | _ n_ ih_189 =>
        intro c hc wk hm_189
        have zc : c < 256 → u_183 (205 + i.toNat) c = (vfZs 1 (rgR I)) i c := fun v => z3 c hc.1 v
        refine aw_iload d_Mo_dsaVerify_189 rfl ?_
        refine aw_sipush d_Mo_dsaVerify_191 ⟨by decide, by decide⟩ (by decide) ?_
        refine aw_icmp_ge (tgt := 259) d_Mo_dsaVerify_194 (by decide) (fun c_194 => ?_) (fun c_194 => ?_)
        · skip
          refine ax_iinc (lv' := [(4, vi (i + 1)), (5, vi c), (3, vi 3248), (2, vi (-1)), (0, vr 175)]) d_Mo_dsaVerify_259 rfl (by decide) ⟨(by omega), (by omega)⟩ rfl ?_
          refine aw_goto (tgt := 148) d_Mo_dsaVerify_262 (by decide) ?_
          refine aw_sub (lv' := [(4, vi (i + 1)), (3, vi 3248), (2, vi (-1)), (0, vr 175)]) (by simp) ?_
          exact ih_148 _ (by omega) (i + 1) u_183 (by omega) (F3) (by omega) (fun m a b => by by_cases z : m = i; exact (by rw [z]; exact ⟨z3, fun x u v => by have w_ := (zl0 (t := 524092) (by decide) (show -524288 < (vfZs 1 (rgR I)) i x ∧ (vfZs 1 (rgR I)) i x ≤ 524288 from ⟨by have := (vfZs_b (s := 1) (g := (rgR I)) (m := i) (j := x)).1; rw [show pG1 1 - 2 ^ (pB 1).toNat = -524288 from by decide] at this; exact this, (vfZs_b (s := 1) (g := (rgR I)) (m := i) (j := x)).2⟩)); rw [vfZ_Zs]; exact fun q_ => by have w2 := w_.2 q_; have w3 := wk x u (by omega); omega⟩); exact ⟨fun x u v => by rw [q1 _ _ (by omega) (Or.inl (by omega))]; exact (dn m a (by omega)).1 x u v, (dn m a (by omega)).2⟩) ((q1 175 4 (by omega) (Or.inr (by decide))).trans h42) rfl
        · skip
          have zb := (show -524288 < (vfZs 1 (rgR I)) i c ∧ (vfZs 1 (rgR I)) i c ≤ 524288 from ⟨by have := (vfZs_b (s := 1) (g := (rgR I)) (m := i) (j := c)).1; rw [show pG1 1 - 2 ^ (pB 1).toNat = -524288 from by decide] at this; exact this, (vfZs_b (s := 1) (g := (rgR I)) (m := i) (j := c)).2⟩)
          have wz := zl0 (t := 524092) (by decide) zb
          refine aw_aload_n d_Mo_dsaVerify_197 rfl rfl ?_
          refine ax_getR (b := 204) d_Mo_dsaVerify_198 fd_Mo_76 (k_175 S) (r_175_28 S) ?_
          refine aw_iload d_Mo_dsaVerify_201 rfl ?_
          refine ax_aald (b := 205 + i.toNat) d_Mo_dsaVerify_203 ⟨by rw [(k_204 S)]; decide, by rw [(k_204 S)]; decide⟩ (by omega) (by rw [n_204 S]; omega) (g_204 S (by omega) (by omega)) ?_
          refine aw_iload d_Mo_dsaVerify_204 rfl ?_
          refine ax_ialde (x := (vfZs 1 (rgR I)) i c) d_Mo_dsaVerify_206 (kr_204 S (by omega)) (by omega) (by rw [nr_204 S (by omega)]; omega) (zc (by omega)) ?_
          refine aw_aload_n d_Mo_dsaVerify_207 rfl rfl ?_
          refine ax_getIe (x := 524288) d_Mo_dsaVerify_208 fd_Mo_237 (k_175 S) (Eq.trans (F3.1 175 35 (by omega) (Or.inr (by decide))) (dr1_35 D)) ?_
          refine aw_aload_n d_Mo_dsaVerify_211 rfl rfl ?_
          refine ax_getIe (x := 49) d_Mo_dsaVerify_212 fd_Mo_232 (k_175 S) (Eq.trans (F3.1 175 34 (by omega) (Or.inr (by decide))) (dr1_34 D)) ?_
          refine aw_aload_n d_Mo_dsaVerify_215 rfl rfl ?_
          refine ax_getIe (x := 4) d_Mo_dsaVerify_216 fd_Mo_229 (k_175 S) (Eq.trans (F3.1 175 33 (by omega) (Or.inr (by decide))) (dr1_33 D)) ?_
          refine ax_imul d_Mo_dsaVerify_219 ⟨(by omega), (by omega)⟩ ?_
          refine ax_ti (x := 196) (by decide) ?_
          refine ax_isub d_Mo_dsaVerify_220 ⟨(by omega), (by omega)⟩ ?_
          refine ax_ti (x := 524092) (by decide) ?_
          refine aw_icmp_ge (tgt := 251) d_Mo_dsaVerify_221 (by decide) (fun c_221 => ?_) (fun c_221 => ?_)
          · skip
            refine aw_iconst d_Mo_dsaVerify_251 ⟨by decide, by decide⟩ ?_
            exact aw_zret d_Mo_dsaVerify_252 rfl ⟨by decide, by decide⟩ (hP _ _ ⟨_, _, _, rfl, rfl, by rw [c4_0 ⟨by decide, by decide⟩ b1 b2 (fun z => absurd z (fun z => by have y := z.2.2 i hi.1 (by show i < 5; omega) c hc.1 (by omega); rw [vfZ_Zs] at y; exact y (wz.1 (by omega))))]; exact (q1 175 4 (by omega) (Or.inr (by decide))).trans h42, Or.inl ⟨c4_0 ⟨by decide, by decide⟩ b1 b2 (fun z => absurd z (fun z => by have y := z.2.2 i hi.1 (by show i < 5; omega) c hc.1 (by omega); rw [vfZ_Zs] at y; exact y (wz.1 (by omega)))), (fR0.fr R0 F3 (r := qN) (by intro a x y; exact ⟨fun z => z, by omega⟩) (by omega)).mono (fun _ _ z => z), Or.inl ⟨(fun z => by have y := z.2.2 i hi.1 (by show i < 5; omega) c hc.1 (by omega); rw [vfZ_Zs] at y; exact y (wz.1 (by omega))), rfl, fR0.fr R0 F3 (by intro a x y; exact ⟨fun z => z, by omega⟩) (by omega)⟩⟩⟩)
          · skip
            refine aw_aload_n d_Mo_dsaVerify_224 rfl rfl ?_
            refine ax_getR (b := 204) d_Mo_dsaVerify_225 fd_Mo_76 (k_175 S) (r_175_28 S) ?_
            refine aw_iload d_Mo_dsaVerify_228 rfl ?_
            refine ax_aald (b := 205 + i.toNat) d_Mo_dsaVerify_230 ⟨by rw [(k_204 S)]; decide, by rw [(k_204 S)]; decide⟩ (by omega) (by rw [n_204 S]; omega) (g_204 S (by omega) (by omega)) ?_
            refine aw_iload d_Mo_dsaVerify_231 rfl ?_
            refine ax_ialde (x := (vfZs 1 (rgR I)) i c) d_Mo_dsaVerify_233 (kr_204 S (by omega)) (by omega) (by rw [nr_204 S (by omega)]; omega) (zc (by omega)) ?_
            refine aw_aload_n d_Mo_dsaVerify_234 rfl rfl ?_
            refine ax_getIe (x := 49) d_Mo_dsaVerify_235 fd_Mo_232 (k_175 S) (Eq.trans (F3.1 175 34 (by omega) (Or.inr (by decide))) (dr1_34 D)) ?_
            refine aw_aload_n d_Mo_dsaVerify_238 rfl rfl ?_
            refine ax_getIe (x := 4) d_Mo_dsaVerify_239 fd_Mo_229 (k_175 S) (Eq.trans (F3.1 175 33 (by omega) (Or.inr (by decide))) (dr1_33 D)) ?_
            refine ax_imul d_Mo_dsaVerify_242 ⟨(by omega), (by omega)⟩ ?_
            refine ax_ti (x := 196) (by decide) ?_
            refine aw_aload_n d_Mo_dsaVerify_243 rfl rfl ?_
            refine ax_getIe (x := 524288) d_Mo_dsaVerify_244 fd_Mo_237 (k_175 S) (Eq.trans (F3.1 175 35 (by omega) (Or.inr (by decide))) (dr1_35 D)) ?_
            refine ax_isub d_Mo_dsaVerify_247 ⟨(by omega), (by omega)⟩ ?_
            refine ax_ti (x := -524092) (by decide) ?_
            refine aw_icmp_gt (tgt := 253) d_Mo_dsaVerify_248 (by decide) (fun c_248 => ?_) (fun c_248 => ?_)
            · skip
              refine ax_iinc (lv' := [(5, vi (c + 1)), (4, vi i), (3, vi 3248), (2, vi (-1)), (0, vr 175)]) d_Mo_dsaVerify_253 rfl (by decide) ⟨(by omega), (by omega)⟩ rfl ?_
              refine aw_goto (tgt := 189) d_Mo_dsaVerify_256 (by decide) ?_
              exact ih_189 _ (by omega) (c + 1) (by omega) (fun x a b => by by_cases z : x = c; exact (by rw [z]; omega); exact wk x a (by omega)) rfl
            · skip
              refine aw_iconst d_Mo_dsaVerify_251 ⟨by decide, by decide⟩ ?_
              exact aw_zret d_Mo_dsaVerify_252 rfl ⟨by decide, by decide⟩ (hP _ _ ⟨_, _, _, rfl, rfl, by rw [c4_0 ⟨by decide, by decide⟩ b1 b2 (fun z => absurd z (fun z => by have y := z.2.2 i hi.1 (by show i < 5; omega) c hc.1 (by omega); rw [vfZ_Zs] at y; exact y (wz.1 (by omega))))]; exact (q1 175 4 (by omega) (Or.inr (by decide))).trans h42, Or.inl ⟨c4_0 ⟨by decide, by decide⟩ b1 b2 (fun z => absurd z (fun z => by have y := z.2.2 i hi.1 (by show i < 5; omega) c hc.1 (by omega); rw [vfZ_Zs] at y; exact y (wz.1 (by omega)))), (fR0.fr R0 F3 (r := qN) (by intro a x y; exact ⟨fun z => z, by omega⟩) (by omega)).mono (fun _ _ z => z), Or.inl ⟨(fun z => by have y := z.2.2 i hi.1 (by show i < 5; omega) c hc.1 (by omega); rw [vfZ_Zs] at y; exact y (wz.1 (by omega))), rfl, fR0.fr R0 F3 (by intro a x y; exact ⟨fun z => z, by omega⟩) (by omega)⟩⟩⟩)
      exact lp_189 _ 0 (by omega) (fun x a b => by omega) rfl
  skip
  exact lp_148 _ 0 (a_up K 175 23 0) (by omega) (FR.b0) (a_up_at.trans (by decide)) (fun m a b => by omega) (by rw [a_up_ne (Or.inr (by decide))]; exact h4) rfl
set_option maxHeartbeats 4000000 in
set_option maxRecDepth 100000 in
theorem c_Mo_dsaVerify1N {l : Launch} {G : a_G} {h : Hp} {I L : Nat → Int → Int} (S : Shp h) (RS : RSt I L) (rb : RB I) (rg : ∀ j, -128 ≤ I 183 j ∧ I 183 j ≤ 127) : AW l G M_Mo_dsaVerify (RsR h I L (c4 ((0 ≤ (1 : Int) ∧ (1 : Int) < 3) ∧ ((-1 : Int) = 0 ∨ (-1 : Int) = -1)) ((-1 : Int) ≠ 0 ∨ I 186 4 ≤ 255) (I 186 1 = 32 + 320 * pK (1 : Int)) (vfPre (1 : Int) (rgR I) (I 186 5) → vfOk (1 : Int) (rpR I) (rgR I))) (fun a => a = 184 ∨ a = 186) (fun v I' L' => (¬ vfPre (1 : Int) (rgR I) (I 186 5) ∧ v = 0 ∧ fR0 qN I L I' L') ∨ (vfPre (1 : Int) (rgR I) (I 186 5) ∧ ((∀ j, j ≠ 6 → I' 186 j = I 186 j) ∧ I' 186 6 = pC (1 : Int)) ∧ (HR I' 184 0 (pC (1 : Int)) (vfC (1 : Int) (rpR I) (rgR I) (muW I (-1 : Int))) ∧ rng (I 184) (I' 184)) ∧ (v = 0 ∨ v = 1) ∧ (v = 1 ↔ ∀ j, 0 ≤ j → j < pC (1 : Int) → vfC (1 : Int) (rpR I) (rgR I) (muW I (-1 : Int)) j = rgR I j)))) 0 (a_ar 0 [vr 175, vi 1, vi (-1)]) [] (sD h I L) := by
  suffices key : ∀ P : a_R → Hp → Prop, (∀ r_ h2_, RsR h I L (c4 ((0 ≤ (1 : Int) ∧ (1 : Int) < 3) ∧ ((-1 : Int) = 0 ∨ (-1 : Int) = -1)) ((-1 : Int) ≠ 0 ∨ I 186 4 ≤ 255) (I 186 1 = 32 + 320 * pK (1 : Int)) (vfPre (1 : Int) (rgR I) (I 186 5) → vfOk (1 : Int) (rpR I) (rgR I))) (fun a => a = 184 ∨ a = 186) (fun v I' L' => (¬ vfPre (1 : Int) (rgR I) (I 186 5) ∧ v = 0 ∧ fR0 qN I L I' L') ∨ (vfPre (1 : Int) (rgR I) (I 186 5) ∧ ((∀ j, j ≠ 6 → I' 186 j = I 186 j) ∧ I' 186 6 = pC (1 : Int)) ∧ (HR I' 184 0 (pC (1 : Int)) (vfC (1 : Int) (rpR I) (rgR I) (muW I (-1 : Int))) ∧ rng (I 184) (I' 184)) ∧ (v = 0 ∨ v = 1) ∧ (v = 1 ↔ ∀ j, 0 ≤ j → j < pC (1 : Int) → vfC (1 : Int) (rpR I) (rgR I) (muW I (-1 : Int)) j = rgR I j))) r_ h2_ → P r_ h2_) → AW l G M_Mo_dsaVerify P 0 [(0, vr 175), (1, vi 1), (2, vi (-1))] [] (sD h I L) from key _ (fun _ _ q => q)
  intro P hP
  refine aw_aload_n d_Mo_dsaVerify_0 rfl rfl ?_
  refine aw_iload_n d_Mo_dsaVerify_1 rfl rfl ?_
  refine aw_iconst d_Mo_dsaVerify_2 ⟨by decide, by decide⟩ ?_
  refine aw_iconst d_Mo_dsaVerify_3 ⟨by decide, by decide⟩ ?_
  refine ax_S (st := [vr 175]) (as := [vi 1, vi 0, vi 2]) (v := some (vi 1)) (h' := sD h I L) d_Mo_dsaVerify_4 cs_Mo_dsaVerify_4 (c_in1 (by decide)) rfl rfl rfl ?_
  show AW l G M_Mo_dsaVerify P 7 [(0, vr 175), (1, vi 1), (2, vi (-1))] [vi 1, vr 175] (sD h I L)
  refine aw_if_eq (tgt := 23) d_Mo_dsaVerify_7 (by decide) (fun c_7 => False.elim (by omega)) (fun c_7 => ?_)
  refine aw_iload_n d_Mo_dsaVerify_10 rfl rfl ?_
  refine aw_iconst d_Mo_dsaVerify_11 ⟨by decide, by decide⟩ ?_
  refine aw_iconst d_Mo_dsaVerify_12 ⟨by decide, by decide⟩ ?_
  refine ax_S (st := [vr 175]) (as := [vi (-1), vi (-1), vi 0]) (v := some (vi 1)) (h' := sD h I L) d_Mo_dsaVerify_13 cs_Mo_dsaVerify_13 (c_in1 (by decide)) rfl rfl rfl ?_
  show AW l G M_Mo_dsaVerify P 16 [(0, vr 175), (1, vi 1), (2, vi (-1))] [vi 1, vr 175] (sD h I L)
  refine aw_if_eq (tgt := 23) d_Mo_dsaVerify_16 (by decide) (fun c_16 => False.elim (by omega)) (fun c_16 => ?_)
  refine aw_iconst d_Mo_dsaVerify_19 ⟨by decide, by decide⟩ ?_
  refine aw_goto (tgt := 24) d_Mo_dsaVerify_20 (by decide) ?_
  refine aw_iconst d_Mo_dsaVerify_24 ⟨by decide, by decide⟩ ?_
  refine ax_V (st := []) (as := [vi 1, vi 1]) (b := 175) (v := some (vi 1)) (h' := sD h (a_up I 175 4 0) L) d_Mo_dsaVerify_25 cs_Mo_dsaVerify_25 (k_175 S) (c_good1 S (rfl)) rfl rfl rfl ?_
  show AW l G M_Mo_dsaVerify P 28 [(0, vr 175), (1, vi 1), (2, vi (-1))] [vi 1] (sD h (a_up I 175 4 0) L)
  refine aw_if_ne (tgt := 33) d_Mo_dsaVerify_28 (by decide) (fun c_28 => ?_) (fun c_28 => False.elim (by omega))
  refine aw_aload_n d_Mo_dsaVerify_33 rfl rfl ?_
  refine aw_iload_n d_Mo_dsaVerify_34 rfl rfl ?_
  refine ax_Vr (st := []) (as := [vi 1]) (b := 175) d_Mo_dsaVerify_35 cs_Mo_dsaVerify_35 (k_175 S) (c_Mo_dsa1 S) rfl rfl rfl (fun u_35 q_35 => ?_)
  obtain ⟨d1, d2, d3⟩ := q_35
  have e0 : ∀ a j, (a < 175 ∨ 176 ≤ a ∧ a ≤ 202 ∨ 204 ≤ a) → u_35 a j = I a j := fun a j x => (d1 a j (by omega) (Or.inl (by omega)) (Or.inl (by omega)) (Or.inl (by omega)) (Or.inl (by omega)) (Or.inl (by omega)) (Or.inl (by omega)) (Or.inl (by omega)) (Or.inl (by omega)) (Or.inl (by omega))).trans (a_up_ne (Or.inl (by omega)))
  have R00 : fR0 qN I L u_35 L := ⟨fun a j x _ => e0 a j (by omega), (d1 175 3 (by decide) (Or.inr (by decide)) (Or.inr (by decide)) (Or.inr (by decide)) (Or.inr (by decide)) (Or.inr (by decide)) (Or.inr (by decide)) (Or.inr (by decide)) (Or.inr (by decide)) (Or.inr (by decide))).trans (a_up_ne (Or.inr (by decide))), fun _ _ _ => rfl⟩
  have D0 : RD u_35 L 1 := ⟨RS.of (fun j => e0 193 j (by omega)) (fun _ => rfl), d2, d3⟩
  have D1 := D0.fr (FR.c0 (p := fun _ => False) (v := 0)) ⟨fun z => z, fun z => z, fun z => z⟩
  have R1 : fR0 qN I L (a_up u_35 175 4 0) L := fR0.fr R00 (FR.c0 (p := fun _ => False)) (by intro a x y; exact ⟨fun z => z, fun z => z⟩) (fun z => z)
  show AW l G M_Mo_dsaVerify P 38 [(0, vr 175), (1, vi 1), (2, vi (-1))] [] (sD h u_35 L)
  refine aw_aload_n d_Mo_dsaVerify_38 rfl rfl ?_
  refine aw_aload_n d_Mo_dsaVerify_39 rfl rfl ?_
  refine aw_iload_n d_Mo_dsaVerify_40 rfl rfl ?_
  by_cases cx_ : (-1 : Int) < 0 ∨ u_35 186 4 ≤ 255
  · skip
    refine ax_V (st := [vr 175]) (as := [vi (-1)]) (b := 175) (v := some (vi 1)) (h' := sD h u_35 L) d_Mo_dsaVerify_41 cs_Mo_dsaVerify_41 (k_175 S) (by have z := c_Mo_context (l := l) (G := G) (h := h) (L := L) (I := u_35) (x := -1) S; rw [if_pos cx_] at z; exact z) rfl rfl rfl ?_
    show AW l G M_Mo_dsaVerify P 44 [(0, vr 175), (1, vi 1), (2, vi (-1))] [vi 1, vr 175] (sD h u_35 L)
    refine aw_iconst d_Mo_dsaVerify_44 ⟨by decide, by decide⟩ ?_
    refine ax_V (st := []) (as := [vi 1, vi 2]) (b := 175) (v := some (vi 1)) (h' := sD h (a_up u_35 175 4 0) L) d_Mo_dsaVerify_45 cs_Mo_dsaVerify_45 (k_175 S) (c_good1 S (rfl)) rfl rfl rfl ?_
    show AW l G M_Mo_dsaVerify P 48 [(0, vr 175), (1, vi 1), (2, vi (-1))] [vi 1] (sD h (a_up u_35 175 4 0) L)
    refine aw_if_eq (tgt := 84) d_Mo_dsaVerify_48 (by decide) (fun c_48 => False.elim (by omega)) (fun c_48 => ?_)
    have bb : (-1 : Int) ≠ 0 ∨ I 186 4 ≤ 255 := by rw [e0 186 4 (by omega)] at cx_; omega
    refine aw_aload_n d_Mo_dsaVerify_51 rfl rfl ?_
    refine aw_aload_n d_Mo_dsaVerify_52 rfl rfl ?_
    refine ax_getR (b := 186) d_Mo_dsaVerify_53 fd_Mo_18 (k_175 S) (r_175_2 S) ?_
    refine aw_iconst d_Mo_dsaVerify_56 ⟨by decide, by decide⟩ ?_
    refine ax_ialde (x := I 186 1) d_Mo_dsaVerify_57 (k_186 S) (by omega) (by rw [n_186 S]; omega) (Eq.trans (a_up_ne (Or.inl (by decide))) (Eq.trans (e0 186 1 (by omega)) (rfl))) ?_
    refine aw_bipush d_Mo_dsaVerify_58 ⟨by decide, by decide⟩ (by decide) ?_
    refine aw_sipush d_Mo_dsaVerify_60 ⟨by decide, by decide⟩ (by decide) ?_
    refine aw_aload_n d_Mo_dsaVerify_63 rfl rfl ?_
    refine ax_getIe (x := 6) d_Mo_dsaVerify_64 fd_Mo_223 (k_175 S) (Eq.trans (a_up_ne (Or.inr (by decide))) (dr1_26 D0)) ?_
    refine ax_imul d_Mo_dsaVerify_67 ⟨(by omega), (by omega)⟩ ?_
    refine ax_ti (x := 1920) (by decide) ?_
    refine ax_iadd d_Mo_dsaVerify_68 ⟨(by omega), (by omega)⟩ ?_
    refine ax_ti (x := 1952) (by decide) ?_
    refine aw_icmp_ne (tgt := 76) d_Mo_dsaVerify_69 (by decide) (fun c_69 => ?_) (fun c_69 => ?_)
    · skip
      refine aw_iconst d_Mo_dsaVerify_76 ⟨by decide, by decide⟩ ?_
      refine aw_iconst d_Mo_dsaVerify_77 ⟨by decide, by decide⟩ ?_
      refine ax_V (st := []) (as := [vi 0, vi 3]) (b := 175) (v := some (vi 0)) (h' := sD h (a_up u_35 175 4 3) L) d_Mo_dsaVerify_78 cs_Mo_dsaVerify_78 (k_175 S) (c_good0 S (by rw [a_up_up])) rfl rfl rfl ?_
      show AW l G M_Mo_dsaVerify P 81 [(0, vr 175), (1, vi 1), (2, vi (-1))] [vi 0] (sD h (a_up u_35 175 4 3) L)
      refine aw_if_ne (tgt := 86) d_Mo_dsaVerify_81 (by decide) (fun c_81 => False.elim (by omega)) (fun c_81 => ?_)
      refine aw_iconst d_Mo_dsaVerify_84 ⟨by decide, by decide⟩ ?_
      exact aw_zret d_Mo_dsaVerify_85 rfl ⟨by decide, by decide⟩ (hP _ _ (rsNo 0 3 (c4_3 ⟨by decide, by decide⟩ bb (fun z => by have z1 : I 186 1 = 1952 := z; omega)) (by decide) a_up_at (fR0.fr R00 (FR.c0 (p := fun _ => False)) (by intro a x y; exact ⟨fun z => z, fun z => z⟩) (fun z => z))))
    · skip
      refine aw_iconst d_Mo_dsaVerify_72 ⟨by decide, by decide⟩ ?_
      refine aw_goto (tgt := 77) d_Mo_dsaVerify_73 (by decide) ?_
      refine aw_iconst d_Mo_dsaVerify_77 ⟨by decide, by decide⟩ ?_
      refine ax_V (st := []) (as := [vi 1, vi 3]) (b := 175) (v := some (vi 1)) (h' := sD h (a_up u_35 175 4 0) L) d_Mo_dsaVerify_78 cs_Mo_dsaVerify_78 (k_175 S) (c_good1 S (by rw [a_up_up])) rfl rfl rfl ?_
      show AW l G M_Mo_dsaVerify P 81 [(0, vr 175), (1, vi 1), (2, vi (-1))] [vi 1] (sD h (a_up u_35 175 4 0) L)
      refine aw_if_ne (tgt := 86) d_Mo_dsaVerify_81 (by decide) (fun c_81 => ?_) (fun c_81 => False.elim (by omega))
      have pb : I 186 1 = 32 + 320 * pK 1 := by show I 186 1 = 1952; omega
      refine aw_aload_n d_Mo_dsaVerify_86 rfl rfl ?_
      refine ax_getIe (x := 48) d_Mo_dsaVerify_87 fd_Mo_248 (k_175 S) (Eq.trans (a_up_ne (Or.inr (by decide))) (dr1_38 D0)) ?_
      refine aw_bipush d_Mo_dsaVerify_90 ⟨by decide, by decide⟩ (by decide) ?_
      refine aw_aload_n d_Mo_dsaVerify_92 rfl rfl ?_
      refine ax_getIe (x := 5) d_Mo_dsaVerify_93 fd_Mo_226 (k_175 S) (Eq.trans (a_up_ne (Or.inr (by decide))) (dr1_32 D0)) ?_
      refine ax_imul d_Mo_dsaVerify_96 ⟨(by omega), (by omega)⟩ ?_
      refine ax_ti (x := 160) (by decide) ?_
      refine aw_aload_n d_Mo_dsaVerify_97 rfl rfl ?_
      refine ax_getIe (x := 20) d_Mo_dsaVerify_98 fd_Mo_251 (k_175 S) (Eq.trans (a_up_ne (Or.inr (by decide))) (dr1_39 D0)) ?_
      refine ax_imul d_Mo_dsaVerify_101 ⟨(by omega), (by omega)⟩ ?_
      refine ax_ti (x := 3200) (by decide) ?_
      refine ax_iadd d_Mo_dsaVerify_102 ⟨(by omega), (by omega)⟩ ?_
      refine ax_ti (x := 3248) (by decide) ?_
      refine aw_istore_n (lv' := [(3, vi 3248), (0, vr 175), (1, vi 1), (2, vi (-1))]) d_Mo_dsaVerify_103 rfl (by decide) rfl ?_
      refine aw_aload_n d_Mo_dsaVerify_104 rfl rfl ?_
      refine ax_getR (b := 186) d_Mo_dsaVerify_105 fd_Mo_18 (k_175 S) (r_175_2 S) ?_
      refine aw_iconst d_Mo_dsaVerify_108 ⟨by decide, by decide⟩ ?_
      refine ax_ialde (x := I 186 5) d_Mo_dsaVerify_109 (k_186 S) (by omega) (by rw [n_186 S]; omega) (Eq.trans (a_up_ne (Or.inl (by decide))) (Eq.trans (e0 186 5 (by omega)) (rfl))) ?_
      refine aw_iload_n d_Mo_dsaVerify_110 rfl rfl ?_
      refine aw_aload_n d_Mo_dsaVerify_111 rfl rfl ?_
      refine ax_getIe (x := 55) d_Mo_dsaVerify_112 fd_Mo_245 (k_175 S) (Eq.trans (a_up_ne (Or.inr (by decide))) (dr1_37 D0)) ?_
      refine ax_iadd d_Mo_dsaVerify_115 ⟨(by omega), (by omega)⟩ ?_
      refine ax_ti (x := 3303) (by decide) ?_
      refine aw_aload_n d_Mo_dsaVerify_116 rfl rfl ?_
      refine ax_getIe (x := 6) d_Mo_dsaVerify_117 fd_Mo_223 (k_175 S) (Eq.trans (a_up_ne (Or.inr (by decide))) (dr1_26 D0)) ?_
      refine ax_iadd d_Mo_dsaVerify_120 ⟨(by omega), (by omega)⟩ ?_
      refine ax_ti (x := 3309) (by decide) ?_
      refine aw_icmp_ne (tgt := 138) d_Mo_dsaVerify_121 (by decide) (fun c_121 => ?_) (fun c_121 => ?_)
      · skip
        refine aw_iconst d_Mo_dsaVerify_138 ⟨by decide, by decide⟩ ?_
        exact aw_zret d_Mo_dsaVerify_139 rfl ⟨by decide, by decide⟩ (hP _ _ ⟨_, _, _, rfl, rfl, by rw [c4_0 ⟨by decide, by decide⟩ bb pb (fun z => absurd z (fun z => by have z1 : I 186 5 = 3309 := z.1; omega))]; exact a_up_at, Or.inl ⟨c4_0 ⟨by decide, by decide⟩ bb pb (fun z => absurd z (fun z => by have z1 : I 186 5 = 3309 := z.1; omega)), fR0.mono (fR0.fr R00 (FR.c0 (p := fun _ => False)) (by intro a x y; exact ⟨fun z => z, fun z => z⟩) (fun z => z)) (fun _ _ z => z), Or.inl ⟨(fun z => by have z1 : I 186 5 = 3309 := z.1; omega), rfl, (fR0.fr R00 (FR.c0 (p := fun _ => False)) (by intro a x y; exact ⟨fun z => z, fun z => z⟩) (fun z => z))⟩⟩⟩)
      · skip
        refine aw_aload_n d_Mo_dsaVerify_124 rfl rfl ?_
        refine aw_aload_n d_Mo_dsaVerify_125 rfl rfl ?_
        refine ax_getR (b := 177) d_Mo_dsaVerify_126 fd_Mo_15 (k_175 S) (r_175_1 S) ?_
        refine aw_iconst d_Mo_dsaVerify_129 ⟨by decide, by decide⟩ ?_
        refine ax_aald (b := 183) d_Mo_dsaVerify_130 ⟨by rw [(k_177 S)]; decide, by rw [(k_177 S)]; decide⟩ (by omega) (by rw [n_177 S]; omega) (g_177 S (j := 5) (by decide) (by decide)) ?_
        refine aw_iload_n d_Mo_dsaVerify_131 rfl rfl ?_
        have kz : ∀ j, (a_up u_35 175 4 0) 183 j = I 183 j := fun j => (a_up_ne (Or.inl (by decide))).trans (e0 183 j (by omega))
        have k5 : (a_up u_35 175 4 0) 186 5 = I 186 5 := (a_up_ne (Or.inl (by decide))).trans (e0 186 5 (by omega))
        have eg : rgR (a_up u_35 175 4 0) = rgR I := funext (fun x => by unfold rgR gW; rw [k5]; show (if 0 ≤ x ∧ x < I 186 5 then (a_up u_35 175 4 0) 183 x % 256 else 0) = (if 0 ≤ x ∧ x < I 186 5 then I 183 x % 256 else 0); rw [kz])
        refine ax_Vr (st := []) (as := [vr 183, vi 3248]) (b := 175) d_Mo_dsaVerify_132 cs_Mo_dsaVerify_132 (k_175 S) (c_Mo_hints1 S D1 (fun j => by rw [kz]; exact rg j) (by rw [k5]; omega)) rfl rfl rfl (fun u_132 q_132 => ?_)
        obtain ⟨v9, K9⟩ := u_132
        obtain ⟨F9, p9, q9⟩ := q_132
        dsimp only at F9 p9 q9
        rw [eg] at q9
        have h49 : K9 175 4 = 0 := (p9 4).trans a_up_at
        show AW l G M_Mo_dsaVerify P 135 [(3, vi 3248), (0, vr 175), (1, vi 1), (2, vi (-1))] [vi v9] (sD h K9 L)
        refine aw_if_ne (tgt := 140) d_Mo_dsaVerify_135 (by decide) (fun c_135 => ?_) (fun c_135 => ?_)
        · skip
          refine aw_sub (lv' := [(3, vi 3248), (2, vi (-1)), (0, vr 175)]) (by simp) ?_
          have g9 := q9.resolve_right (fun z => by have z1 := z.1; omega)
          exact vB1N S (fR0.fr R1 F9 (by intro a x y; exact ⟨fun z => z, by omega⟩) (by decide)) (D1.fr F9 (by decide)) rg bb pb rb (by show I 186 5 = 3309; omega) g9.2.1 h49 g9.2.2 hP
        · skip
          refine aw_iconst d_Mo_dsaVerify_138 ⟨by decide, by decide⟩ ?_
          exact aw_zret d_Mo_dsaVerify_139 rfl ⟨by decide, by decide⟩ (hP _ _ ⟨_, _, _, rfl, rfl, by rw [c4_0 ⟨by decide, by decide⟩ bb pb (fun z => absurd z (fun z => by rcases q9 with y | y; exact absurd y.1 (by omega); exact y.2 z.2.1))]; exact h49, Or.inl ⟨c4_0 ⟨by decide, by decide⟩ bb pb (fun z => absurd z (fun z => by rcases q9 with y | y; exact absurd y.1 (by omega); exact y.2 z.2.1)), fR0.mono (fR0.fr R1 F9 (r := qN) (by intro a x y; exact ⟨fun z => z, by omega⟩) (by decide)) (fun _ _ z => z), Or.inl ⟨(fun z => by rcases q9 with y | y; exact absurd y.1 (by omega); exact y.2 z.2.1), rfl, (fR0.fr R1 F9 (r := qN) (by intro a x y; exact ⟨fun z => z, by omega⟩) (by decide))⟩⟩⟩)
  · skip
    refine ax_V (st := [vr 175]) (as := [vi (-1)]) (b := 175) (v := some (vi 0)) (h' := sD h u_35 L) d_Mo_dsaVerify_41 cs_Mo_dsaVerify_41 (k_175 S) (by have z := c_Mo_context (l := l) (G := G) (h := h) (L := L) (I := u_35) (x := -1) S; rw [if_neg cx_] at z; exact z) rfl rfl rfl ?_
    show AW l G M_Mo_dsaVerify P 44 [(0, vr 175), (1, vi 1), (2, vi (-1))] [vi 0, vr 175] (sD h u_35 L)
    refine aw_iconst d_Mo_dsaVerify_44 ⟨by decide, by decide⟩ ?_
    refine ax_V (st := []) (as := [vi 0, vi 2]) (b := 175) (v := some (vi 0)) (h' := sD h (a_up u_35 175 4 2) L) d_Mo_dsaVerify_45 cs_Mo_dsaVerify_45 (k_175 S) (c_good0 S (rfl)) rfl rfl rfl ?_
    show AW l G M_Mo_dsaVerify P 48 [(0, vr 175), (1, vi 1), (2, vi (-1))] [vi 0] (sD h (a_up u_35 175 4 2) L)
    refine aw_if_eq (tgt := 84) d_Mo_dsaVerify_48 (by decide) (fun c_48 => ?_) (fun c_48 => False.elim (by omega))
    refine aw_iconst d_Mo_dsaVerify_84 ⟨by decide, by decide⟩ ?_
    exact aw_zret d_Mo_dsaVerify_85 rfl ⟨by decide, by decide⟩ (hP _ _ (rsNo 0 2 (c4_2 ⟨by decide, by decide⟩ (fun z => by rw [e0 186 4 (by omega)] at cx_; omega)) (by decide) a_up_at (fR0.fr R00 (FR.c0 (p := fun _ => False)) (by intro a x y; exact ⟨fun z => z, fun z => z⟩) (fun z => z))))
set_option maxHeartbeats 4000000 in
set_option maxRecDepth 100000 in
theorem vC20 {l : Launch} {G : a_G} {P : a_R → Hp → Prop} {h : Hp} {I L K M : Nat → Int → Int} (S : Shp h) (R0 : fR0 qN I L K M) (D : RD K M 2) (rg : ∀ j, -128 ≤ I 183 j ∧ I 183 j ≤ 127) (b1 : (0 : Int) ≠ 0 ∨ I 186 4 ≤ 255) (b2 : I 186 1 = 32 + 320 * pK 2) (rb : RB I) (pre : vfPre 2 (rgR I) (I 186 5)) (hZ : ∀ m, 0 ≤ m → m < 7 → eqQ (K (205 + m.toNat)) ((vfZs 2 (rgR I)) m)) (tb : ∀ m, 0 ≤ m → m < 8 → tbl K (rgR I) 4544 75 m) (hP : ∀ r_ h2_, RsR h I L (c4 ((0 ≤ (2 : Int) ∧ (2 : Int) < 3) ∧ ((0 : Int) = 0 ∨ (0 : Int) = -1)) ((0 : Int) ≠ 0 ∨ I 186 4 ≤ 255) (I 186 1 = 32 + 320 * pK (2 : Int)) (vfPre (2 : Int) (rgR I) (I 186 5) → vfOk (2 : Int) (rpR I) (rgR I))) (fun a => a = 184 ∨ a = 186) (fun v I' L' => (¬ vfPre (2 : Int) (rgR I) (I 186 5) ∧ v = 0 ∧ fR0 qN I L I' L') ∨ (vfPre (2 : Int) (rgR I) (I 186 5) ∧ ((∀ j, j ≠ 6 → I' 186 j = I 186 j) ∧ I' 186 6 = pC (2 : Int)) ∧ (HR I' 184 0 (pC (2 : Int)) (vfC (2 : Int) (rpR I) (rgR I) (muW I (0 : Int))) ∧ rng (I 184) (I' 184)) ∧ (v = 0 ∨ v = 1) ∧ (v = 1 ↔ ∀ j, 0 ≤ j → j < pC (2 : Int) → vfC (2 : Int) (rpR I) (rgR I) (muW I (0 : Int)) j = rgR I j))) r_ h2_ → P r_ h2_) : AW l G M_Mo_dsaVerify P 265 [(2, vi 0), (0, vr 175)] [] (sD h K M) := by
  refine aw_aload_n d_Mo_dsaVerify_265 rfl rfl ?_
  refine aw_bipush d_Mo_dsaVerify_266 ⟨by decide, by decide⟩ (by decide) ?_
  have RS := D.1
  refine ax_Vr (st := []) (as := [vi 12]) (b := 175) d_Mo_dsaVerify_268 cs_Mo_dsaVerify_268 (k_175 S) (c_Mo_begin12 S) rfl rfl rfl (fun u_268 q_268 => ?_)
  obtain ⟨I1, L1⟩ := u_268
  obtain ⟨F1, e1, k1⟩ := q_268
  dsimp only at F1 e1 k1
  show AW l G M_Mo_dsaVerify P 271 [(2, vi 0), (0, vr 175)] [] (sD h I1 L1)
  refine aw_aload_n d_Mo_dsaVerify_271 rfl rfl ?_
  refine aw_aload_n d_Mo_dsaVerify_272 rfl rfl ?_
  refine ax_getR (b := 177) d_Mo_dsaVerify_273 fd_Mo_15 (k_175 S) (r_175_1 S) ?_
  refine aw_iconst d_Mo_dsaVerify_276 ⟨by decide, by decide⟩ ?_
  refine ax_aald (b := 179) d_Mo_dsaVerify_277 ⟨by rw [(k_177 S)]; decide, by rw [(k_177 S)]; decide⟩ (by omega) (by rw [n_177 S]; omega) (g_177 S (j := 1) (by decide) (by decide)) ?_
  refine aw_iconst d_Mo_dsaVerify_278 ⟨by decide, by decide⟩ ?_
  refine aw_aload_n d_Mo_dsaVerify_279 rfl rfl ?_
  refine ax_getR (b := 186) d_Mo_dsaVerify_280 fd_Mo_18 (k_175 S) (r_175_2 S) ?_
  refine aw_iconst d_Mo_dsaVerify_283 ⟨by decide, by decide⟩ ?_
  refine ax_ialde (x := 2592) d_Mo_dsaVerify_284 (k_186 S) (by omega) (by rw [n_186 S]; omega) (Eq.trans (F1.1 186 1 (Or.inl (by decide))) ((R0.1 186 1 (by omega) (fun z => z)).trans b2)) ?_
  refine ax_Vr (st := []) (as := [vr 179, vi 0, vi 2592]) (b := 175) d_Mo_dsaVerify_285 cs_Mo_dsaVerify_285 (k_175 S) (c_Mo_put3 S (RS.rf F1) (by omega) (by rw [e1]; exact spStart_lt (by decide) (by decide)) ⟨k_179 S, by decide, by decide⟩ (by rw [n_179 S]; decide)) rfl rfl rfl (fun u_285 q_285 => ?_)
  obtain ⟨I2, L2⟩ := u_285
  obtain ⟨F2, e2, k2⟩ := q_285
  dsimp only at F2 e2 k2
  show AW l G M_Mo_dsaVerify P 288 [(2, vi 0), (0, vr 175)] [] (sD h I2 L2)
  have eS : spTurn (spR I2 L2) = blS (fun k => I 179 (0 + k)) (I 186 1) := by rw [e2, e1, show (fun k => I1 179 (0 + k)) = (fun k => I 179 (0 + k)) from funext (fun z => (F1.1 179 _ (Or.inl (by decide))).trans (R0.1 179 _ (by omega) (fun z => z))), show I 186 1 = 2592 from b2]; rfl
  refine aw_aload_n d_Mo_dsaVerify_288 rfl rfl ?_
  refine aw_aload_n d_Mo_dsaVerify_289 rfl rfl ?_
  refine ax_getR (b := 266) d_Mo_dsaVerify_290 fd_Mo_96 (k_175 S) (r_175_42 S) ?_
  refine aw_iconst d_Mo_dsaVerify_293 ⟨by decide, by decide⟩ ?_
  refine aw_bipush d_Mo_dsaVerify_294 ⟨by decide, by decide⟩ (by decide) ?_
  refine ax_Vr (st := []) (as := [vr 266, vi 0, vi 64]) (b := 175) d_Mo_dsaVerify_296 cs_Mo_dsaVerify_296 (k_175 S) (c_Mo_give S (RS.rf (F1.tr F2)) (by omega) (by rw [e2, e1]; exact (spPart_lt (spStart_lt (by decide) (by decide)) _ _).1) ⟨k_266 S, by decide, by decide, by decide⟩ (by rw [n_266 S]; decide)) rfl rfl rfl (fun u_296 q_296 => ?_)
  obtain ⟨I3, L3⟩ := u_296
  obtain ⟨F3, f3, e3, k3⟩ := q_296
  dsimp only at F3 f3 e3 k3
  rw [eS] at F3
  have h3 : HR I3 266 0 64 (spOut (blS (fun k => I 179 (0 + k)) (I 186 1))) := HR.give F3 (by decide)
  have G3 : FR (fun a => a = 266) K M I3 L3 := ((F1.tr F2).fr (p := fun a => a = 266)).tr (FR.give (p := fun a => a = 266) F3 f3 rfl) (fun a x => ⟨x, x⟩)
  have z3 : ∀ a j, (a < 175 ∨ 176 ≤ a ∧ a ≤ 194) → I3 a j = I a j := fun a j x => (G3.1 a j (by omega) (Or.inl (by omega))).trans (R0.1 a j (by omega) (fun z => z))
  have rb3 : RB I3 := ⟨fun s a b => by rw [z3 186 s (by omega)]; exact rb.1 s a b, by rw [G3.1 175 3 (by decide) (Or.inr (by decide)), R0.2.1]; exact rb.2⟩
  have D3 := D.fr G3 (by decide)
  show AW l G M_Mo_dsaVerify P 299 [(2, vi 0), (0, vr 175)] [] (sD h I3 L3)
  refine aw_aload_n d_Mo_dsaVerify_299 rfl rfl ?_
  refine aw_aload_n d_Mo_dsaVerify_300 rfl rfl ?_
  refine ax_getR (b := 266) d_Mo_dsaVerify_301 fd_Mo_96 (k_175 S) (r_175_42 S) ?_
  refine aw_iconst d_Mo_dsaVerify_304 ⟨by decide, by decide⟩ ?_
  refine aw_iload_n d_Mo_dsaVerify_305 rfl rfl ?_
  refine ax_Vr (st := []) (as := [vr 266, vi 0, vi 0]) (b := 175) d_Mo_dsaVerify_306 cs_Mo_dsaVerify_306 (k_175 S) (c_Mo_digestMessage0 (f := 266) (pa := 0) S D3.1 rb3 ⟨k_266 S, by decide, by decide⟩ (by rw [n_266 S]; decide)) rfl rfl rfl (fun u_306 q_306 => ?_)
  obtain ⟨I4, L4⟩ := u_306
  obtain ⟨F4, h4_⟩ := q_306
  dsimp only at F4 h4_
  rw [z3 186 4 (by omega), z3 186 3 (by omega), show (fun k => I3 182 (0 + k)) = (fun k => I 182 (0 + k)) from funext (fun z => z3 182 _ (by omega)), show (fun k => I3 181 (0 + k)) = (fun k => I 181 (0 + k)) from funext (fun z => z3 181 _ (by omega)), dgS_congr (gk' := (spOut (blS (fun k => I 179 (0 + k)) (I 186 1)))) (fun k hk => by rw [h3 k (by omega) (by omega), spOut_m])] at h4_
  have h4_ : HR I4 265 0 64 (muW I (0 : Int)) := h4_
  have D4 := D3.fr F4 (by decide)
  have G4 : FR (fun a => a = 265 ∨ a = 266) K M I4 L4 := G3.tr F4 (by intro a x; omega)
  have eB : blS (fun k => I4 183 (0 + k)) 64 = vfBs 2 (rgR I) := blS_congr (fun k hk => by rw [G4.1 183 _ (by decide) (Or.inl (by decide)), R0.1 183 _ (by omega) (fun z => z), Int.zero_add, rg_in (show I 186 5 = 4627 from pre.1) (by omega) (by omega)]; omega)
  show AW l G M_Mo_dsaVerify P 309 [(2, vi 0), (0, vr 175)] [] (sD h I4 L4)
  refine aw_aload_n d_Mo_dsaVerify_309 rfl rfl ?_
  refine aw_aload_n d_Mo_dsaVerify_310 rfl rfl ?_
  refine aw_aload_n d_Mo_dsaVerify_311 rfl rfl ?_
  refine ax_getR (b := 204) d_Mo_dsaVerify_312 fd_Mo_76 (k_175 S) (r_175_28 S) ?_
  refine aw_bipush d_Mo_dsaVerify_315 ⟨by decide, by decide⟩ (by decide) ?_
  refine ax_aald (b := 251) d_Mo_dsaVerify_317 ⟨by rw [(k_204 S)]; decide, by rw [(k_204 S)]; decide⟩ (by omega) (by rw [n_204 S]; omega) (g_204 S (j := 46) (by decide) (by decide)) ?_
  refine aw_aload_n d_Mo_dsaVerify_318 rfl rfl ?_
  refine ax_getR (b := 177) d_Mo_dsaVerify_319 fd_Mo_15 (k_175 S) (r_175_1 S) ?_
  refine aw_iconst d_Mo_dsaVerify_322 ⟨by decide, by decide⟩ ?_
  refine ax_aald (b := 183) d_Mo_dsaVerify_323 ⟨by rw [(k_177 S)]; decide, by rw [(k_177 S)]; decide⟩ (by omega) (by rw [n_177 S]; omega) (g_177 S (j := 5) (by decide) (by decide)) ?_
  refine aw_iconst d_Mo_dsaVerify_324 ⟨by decide, by decide⟩ ?_
  refine ax_Vr (st := [vr 175]) (as := [vr 251, vr 183, vi 0]) (b := 175) d_Mo_dsaVerify_325 cs_Mo_dsaVerify_325 (k_175 S) (c_Mo_ball S D4.1 ⟨k_183 S, by decide, by decide⟩ (dr2_38 D4) (dr2_34 D4) (by decide) (by rw [n_183 S]; decide)) rfl rfl rfl (fun u_325 q_325 => ?_)
  obtain ⟨I5, L5, v5⟩ := u_325
  obtain ⟨F5, q5, r5⟩ := q_325
  dsimp only at F5 q5 r5
  rw [eB] at q5 r5
  have G5 : FR (fun a => a = 200 ∨ a = 251) I4 L4 I5 L5 := ⟨fun a j x y => F5.1 a j (by rcases y with y | y; exact Or.inl y; exact Or.inr ⟨y.1, y.2.1, y.2.2.1⟩) (fun z => x (Or.inl z)) (fun z => x (Or.inr z)), fun a j x y z u _ => F5.2 a j x y z u⟩
  have GB : FR (fun a => a = 265 ∨ a = 266 ∨ a = 200 ∨ a = 251) K M I5 L5 := G4.tr G5 (by intro a x; omega)
  show AW l G M_Mo_dsaVerify P 328 [(2, vi 0), (0, vr 175)] [vi v5, vr 175] (sD h I5 L5)
  rcases q5 with ⟨vz, bn⟩ | ⟨vz, bn⟩
  · subst vz
    refine aw_iconst d_Mo_dsaVerify_328 ⟨by decide, by decide⟩ ?_
    refine ax_V (st := []) (as := [vi 1, vi 4]) (b := 175) (v := some (vi 1)) (h' := sD h (a_up I5 175 4 0) L5) d_Mo_dsaVerify_329 cs_Mo_dsaVerify_329 (k_175 S) (c_good1 S rfl) rfl rfl rfl ?_
    show AW l G M_Mo_dsaVerify P 332 [(2, vi 0), (0, vr 175)] [vi 1] (sD h (a_up I5 175 4 0) L5)
    refine aw_if_ne (tgt := 337) d_Mo_dsaVerify_332 (by decide) (fun c_332 => ?_) (fun c_332 => False.elim (by omega))
    refine aw_aload_n d_Mo_dsaVerify_337 rfl rfl ?_
    refine ax_getR (b := 204) d_Mo_dsaVerify_338 fd_Mo_76 (k_175 S) (r_175_28 S) ?_
    refine aw_bipush d_Mo_dsaVerify_341 ⟨by decide, by decide⟩ (by decide) ?_
    refine ax_aald (b := 251) d_Mo_dsaVerify_343 ⟨by rw [(k_204 S)]; decide, by rw [(k_204 S)]; decide⟩ (by omega) (by rw [n_204 S]; omega) (g_204 S (j := 46) (by decide) (by decide)) ?_
    refine ax_S (st := []) (as := [vr 251]) (v := none) (h' := sD h (rowTo (a_up I5 175 4 0) 251 256 (fun x => ((a_up I5 175 4 0) 251 x + 8380417) % 8380417)) L5) d_Mo_dsaVerify_344 cs_Mo_dsaVerify_344 (c_Mo_positive ⟨k_251 S, by decide, n_251 S⟩ (fun x a b => by rw [a_up_ne (Or.inl (by decide)), r5 bn x a b]; have := blX_b (tau := 60) (s := vfBs 2 (rgR I)) x; omega)) rfl rfl rfl ?_
    show AW l G M_Mo_dsaVerify P 347 [(2, vi 0), (0, vr 175)] [] (sD h (rowTo (a_up I5 175 4 0) 251 256 (fun x => ((a_up I5 175 4 0) 251 x + 8380417) % 8380417)) L5)
    refine aw_aload_n d_Mo_dsaVerify_347 rfl rfl ?_
    refine aw_aload_n d_Mo_dsaVerify_348 rfl rfl ?_
    refine ax_getR (b := 204) d_Mo_dsaVerify_349 fd_Mo_76 (k_175 S) (r_175_28 S) ?_
    refine aw_bipush d_Mo_dsaVerify_352 ⟨by decide, by decide⟩ (by decide) ?_
    refine ax_aald (b := 251) d_Mo_dsaVerify_354 ⟨by rw [(k_204 S)]; decide, by rw [(k_204 S)]; decide⟩ (by omega) (by rw [n_204 S]; omega) (g_204 S (j := 46) (by decide) (by decide)) ?_
    refine ax_Vr (st := []) (as := [vr 251]) (b := 175) d_Mo_dsaVerify_355 cs_Mo_dsaVerify_355 (k_175 S) (c_Mo_evaluate S ⟨k_251 S, by decide, n_251 S⟩ (by decide) (fun x a b => by rw [rowTo_in a b]; omega) (fun x a b => by rw [rowTo_ne (by decide), a_up_ne (Or.inl (by decide))]; exact (D.fr GB (by decide)).2.2 x a b)) rfl rfl rfl (fun u_355 q_355 => ?_)
    have l5 := q_355
    have GE : FR (fun a => a = 265 ∨ a = 266 ∨ a = 200 ∨ a = 251) K M (rowTo (rowTo (a_up I5 175 4 0) 251 256 (fun x => ((a_up I5 175 4 0) 251 x + 8380417) % 8380417)) 251 256 (eva ((rowTo (a_up I5 175 4 0) 251 256 (fun x => ((a_up I5 175 4 0) 251 x + 8380417) % 8380417)) 251))) u_355 := ((GB.tr (FR.c0 (p := fun a => a = 265 ∨ a = 266 ∨ a = 200 ∨ a = 251)) (fun a x => ⟨x, x⟩)).tr (FR.row (p := fun a => a = 265 ∨ a = 266 ∨ a = 200 ∨ a = 251) (by omega) (fun _ _ _ => rfl)) (fun a x => ⟨x, x⟩)).tr (FR.row (p := fun a => a = 265 ∨ a = 266 ∨ a = 200 ∨ a = 251) (by omega) l5) (fun a x => ⟨x, x⟩)
    have bE : eqQ ((rowTo (rowTo (a_up I5 175 4 0) 251 256 (fun x => ((a_up I5 175 4 0) 251 x + 8380417) % 8380417)) 251 256 (eva ((rowTo (a_up I5 175 4 0) 251 256 (fun x => ((a_up I5 175 4 0) 251 x + 8380417) % 8380417)) 251))) 251) (vfB 2 (rgR I)) := fun x a b => by rw [rowTo_in a b]; show eva _ x = fwd rt (fun j => blX 60 (vfBs 2 (rgR I)) j % 8380417) x; rw [fwd_eva a b]; exact eva_cq (fun y hy => cq.e (by rw [rowTo_in (by omega) (by omega), a_up_ne (Or.inl (by decide)), r5 bn y (by omega) (by omega), Int.add_emod_right]))
    have mE : HR (rowTo (rowTo (a_up I5 175 4 0) 251 256 (fun x => ((a_up I5 175 4 0) 251 x + 8380417) % 8380417)) 251 256 (eva ((rowTo (a_up I5 175 4 0) 251 256 (fun x => ((a_up I5 175 4 0) 251 x + 8380417) % 8380417)) 251))) 265 0 64 (muW I (0 : Int)) := fun z x y => by rw [rowTo_ne (by decide), rowTo_ne (by decide), a_up_ne (Or.inl (by decide)), G5.1 265 _ (by decide) (Or.inl (by decide))]; exact h4_ z x y
    have cE : (rowTo (rowTo (a_up I5 175 4 0) 251 256 (fun x => ((a_up I5 175 4 0) 251 x + 8380417) % 8380417)) 251 256 (eva ((rowTo (a_up I5 175 4 0) 251 256 (fun x => ((a_up I5 175 4 0) 251 x + 8380417) % 8380417)) 251))) 175 4 = 0 := by rw [rowTo_ne (by decide), rowTo_ne (by decide), a_up_at]
    show AW l G M_Mo_dsaVerify P 358 [(2, vi 0), (0, vr 175)] [] (sD h (rowTo (rowTo (a_up I5 175 4 0) 251 256 (fun x => ((a_up I5 175 4 0) 251 x + 8380417) % 8380417)) 251 256 (eva ((rowTo (a_up I5 175 4 0) 251 256 (fun x => ((a_up I5 175 4 0) 251 x + 8380417) % 8380417)) 251))) u_355)
    refine aw_iconst d_Mo_dsaVerify_358 ⟨by decide, by decide⟩ ?_
    refine aw_istore (lv' := [(4, vi 0), (2, vi 0), (0, vr 175)]) d_Mo_dsaVerify_359 (by decide) rfl ?_
    have lp_361 : ∀ (n_ : Nat) (i : Int) (K6 : Nat → Int → Int) (M6 : Nat → Int → Int), (0 ≤ i ∧ i ≤ 7) → (FR (fun a => a = 265 ∨ a = 266 ∨ a = 200 ∨ a = 251 ∨ 205 ≤ a ∧ a < 212) K M K6 M6) → (∀ a j, (a < 205 ∨ 212 ≤ a) → K6 a j = (rowTo (rowTo (a_up I5 175 4 0) 251 256 (fun x => ((a_up I5 175 4 0) 251 x + 8380417) % 8380417)) 251 256 (eva ((rowTo (a_up I5 175 4 0) 251 256 (fun x => ((a_up I5 175 4 0) 251 x + 8380417) % 8380417)) 251))) a j) → (∀ m, 0 ≤ m → m < i → eqQ (K6 (205 + m.toNat)) (fwd rt ((vfZ 2 (rgR I)) m))) → (∀ m, 0 ≤ m → i ≤ m → m < 7 → eqQ (K6 (205 + m.toNat)) ((vfZs 2 (rgR I)) m)) → ((7 - i).toNat) = n_ → AW l G M_Mo_dsaVerify P 361 [(4, vi i), (0, vr 175)] [] (sD h K6 M6) := by
      intro n_
      induction n_ using Nat.strongRecOn with
      | _ n_ ih_361 =>
      intro i K6 M6 hi G6 f6 dn td hm_361
      refine aw_iload d_Mo_dsaVerify_361 rfl ?_
      refine aw_aload_n d_Mo_dsaVerify_363 rfl rfl ?_
      refine ax_getIe (x := 7) d_Mo_dsaVerify_364 fd_Mo_226 (k_175 S) (Eq.trans (G6.1 175 32 (by omega) (Or.inr (by decide))) (dr2_32 D)) ?_
      refine aw_icmp_ge (tgt := 397) d_Mo_dsaVerify_367 (by decide) (fun c_367 => ?_) (fun c_367 => ?_)
      · skip
        refine aw_aload_n d_Mo_dsaVerify_397 rfl rfl ?_
        refine aw_iconst d_Mo_dsaVerify_398 ⟨by decide, by decide⟩ ?_
        refine ax_putI d_Mo_dsaVerify_399 fd_Mo_216 (k_175 S) (by decide) rfl ?_
        refine aw_sub (lv' := [(0, vr 175)]) (by simp) ?_
        exact vD20 S (fR0.fr (fR0.fr R0 G6 (r := qN) (by intro a x y; exact ⟨fun z => z, by omega⟩) (by omega)) (FR.b0 (p := fun _ => False)) (by intro a x y; exact ⟨fun z => z, fun z => z⟩) (fun z => z)) ((D.fr G6 (by omega)).fr (FR.b0 (p := fun _ => False)) ⟨fun z => z, fun z => z, fun z => z⟩) rg b1 b2 pre bn (fun x a b => by rw [a_up_ne (Or.inl (by decide)), f6 251 x (by omega)]; exact bE x a b) (fun m a b x u v => by rw [a_up_ne (Or.inl (by omega))]; exact dn m a (by omega) x u v) (a_up_at.trans (by decide)) (fun z x y => by rw [a_up_ne (Or.inl (by decide)), f6 265 _ (by omega)]; exact mE z x y) (by rw [a_up_ne (Or.inr (by decide)), f6 175 4 (by omega)]; exact cE) (fun m a b c x y => by rw [a_up_ne (Or.inl (by omega)), G6.1 _ _ (by omega) (Or.inl (by omega))]; exact tb m a b c x y) hP
      · skip
        refine aw_aload_n d_Mo_dsaVerify_370 rfl rfl ?_
        refine ax_getR (b := 204) d_Mo_dsaVerify_371 fd_Mo_76 (k_175 S) (r_175_28 S) ?_
        refine aw_iload d_Mo_dsaVerify_374 rfl ?_
        refine ax_aald (b := 205 + i.toNat) d_Mo_dsaVerify_376 ⟨by rw [(k_204 S)]; decide, by rw [(k_204 S)]; decide⟩ (by omega) (by rw [n_204 S]; omega) (g_204 S (by omega) (by omega)) ?_
        refine ax_S (st := []) (as := [vr (205 + i.toNat)]) (v := none) (h' := sD h (rowTo K6 (205 + i.toNat) 256 (fun x => (K6 (205 + i.toNat) x + 8380417) % 8380417)) M6) d_Mo_dsaVerify_377 cs_Mo_dsaVerify_377 (c_Mo_positive ⟨kr_204 S (by omega), by omega, nr_204 S (by omega)⟩ (fun x a b => by rw [td i hi.1 (Int.le_refl _) (by omega) x a b]; have := (show -524288 < (vfZs 2 (rgR I)) i x ∧ (vfZs 2 (rgR I)) i x ≤ 524288 from ⟨by have := (vfZs_b (s := 2) (g := (rgR I)) (m := i) (j := x)).1; rw [show pG1 2 - 2 ^ (pB 2).toNat = -524288 from by decide] at this; exact this, (vfZs_b (s := 2) (g := (rgR I)) (m := i) (j := x)).2⟩); omega)) rfl rfl rfl ?_
        show AW l G M_Mo_dsaVerify P 380 [(4, vi i), (0, vr 175)] [] (sD h (rowTo K6 (205 + i.toNat) 256 (fun x => (K6 (205 + i.toNat) x + 8380417) % 8380417)) M6)
        refine aw_aload_n d_Mo_dsaVerify_380 rfl rfl ?_
        refine aw_aload_n d_Mo_dsaVerify_381 rfl rfl ?_
        refine ax_getR (b := 204) d_Mo_dsaVerify_382 fd_Mo_76 (k_175 S) (r_175_28 S) ?_
        refine aw_iload d_Mo_dsaVerify_385 rfl ?_
        refine ax_aald (b := 205 + i.toNat) d_Mo_dsaVerify_387 ⟨by rw [(k_204 S)]; decide, by rw [(k_204 S)]; decide⟩ (by omega) (by rw [n_204 S]; omega) (g_204 S (by omega) (by omega)) ?_
        refine ax_Vr (st := []) (as := [vr (205 + i.toNat)]) (b := 175) d_Mo_dsaVerify_388 cs_Mo_dsaVerify_388 (k_175 S) (c_Mo_evaluate S ⟨kr_204 S (by omega), by omega, nr_204 S (by omega)⟩ (by omega) (fun x a b => by rw [rowTo_in a b]; omega) (fun x a b => by rw [rowTo_ne (by omega)]; exact (D.fr G6 (by omega)).2.2 x a b)) rfl rfl rfl (fun u_388 q_388 => ?_)
        have l6 := q_388
        show AW l G M_Mo_dsaVerify P 391 [(4, vi i), (0, vr 175)] [] (sD h (rowTo (rowTo K6 (205 + i.toNat) 256 (fun x => (K6 (205 + i.toNat) x + 8380417) % 8380417)) (205 + i.toNat) 256 (eva ((rowTo K6 (205 + i.toNat) 256 (fun x => (K6 (205 + i.toNat) x + 8380417) % 8380417)) (205 + i.toNat)))) u_388)
        refine ax_iinc (lv' := [(4, vi (i + 1)), (0, vr 175)]) d_Mo_dsaVerify_391 rfl (by decide) ⟨(by omega), (by omega)⟩ rfl ?_
        refine aw_goto (tgt := 361) d_Mo_dsaVerify_394 (by decide) ?_
        exact ih_361 _ (by omega) (i + 1) (rowTo (rowTo K6 (205 + i.toNat) 256 (fun x => (K6 (205 + i.toNat) x + 8380417) % 8380417)) (205 + i.toNat) 256 (eva ((rowTo K6 (205 + i.toNat) 256 (fun x => (K6 (205 + i.toNat) x + 8380417) % 8380417)) (205 + i.toNat)))) u_388 (by omega) ((G6.tr (FR.row (p := fun a => a = 265 ∨ a = 266 ∨ a = 200 ∨ a = 251 ∨ 205 ≤ a ∧ a < 212) (by omega) (fun _ _ _ => rfl)) (fun a x => ⟨x, x⟩)).tr (FR.row (p := fun a => a = 265 ∨ a = 266 ∨ a = 200 ∨ a = 251 ∨ 205 ≤ a ∧ a < 212) (by omega) l6) (fun a x => ⟨x, x⟩)) (fun a j x => by rw [rowTo_ne (by omega), rowTo_ne (by omega)]; exact f6 a j x) (fun m a b x u v => by by_cases z : m = i; exact (by rw [z, rowTo_in u v, fwd_eva u v]; exact eva_cq (fun t ht => cq.e (by rw [rowTo_in (by omega) (by omega), td i hi.1 (Int.le_refl _) (by omega) t (by omega) (by omega), vfZ_Zs, Int.add_emod_right]))); exact (by rw [rowTo_ne (by omega), rowTo_ne (by omega)]; exact dn m a (by omega) x u v)) (fun m a b c x u v => by rw [rowTo_ne (by omega), rowTo_ne (by omega)]; exact td m a (by omega) c x u v) rfl
    skip
    refine aw_sub (lv' := [(4, vi 0), (0, vr 175)]) (by simp) ?_
    exact lp_361 _ 0 (rowTo (rowTo (a_up I5 175 4 0) 251 256 (fun x => ((a_up I5 175 4 0) 251 x + 8380417) % 8380417)) 251 256 (eva ((rowTo (a_up I5 175 4 0) 251 256 (fun x => ((a_up I5 175 4 0) 251 x + 8380417) % 8380417)) 251))) u_355 (by omega) (GE.mono (by intro a x; omega)) (fun _ _ _ => rfl) (fun m a b => by omega) (fun m a b c x u v => by rw [GE.1 _ _ (by omega) (Or.inl (by omega))]; exact hZ m a c x u v) rfl
  · subst vz
    refine aw_iconst d_Mo_dsaVerify_328 ⟨by decide, by decide⟩ ?_
    refine ax_V (st := []) (as := [vi 0, vi 4]) (b := 175) (v := some (vi 0)) (h' := sD h (a_up I5 175 4 4) L5) d_Mo_dsaVerify_329 cs_Mo_dsaVerify_329 (k_175 S) (c_good0 S rfl) rfl rfl rfl ?_
    show AW l G M_Mo_dsaVerify P 332 [(2, vi 0), (0, vr 175)] [vi 0] (sD h (a_up I5 175 4 4) L5)
    refine aw_if_ne (tgt := 337) d_Mo_dsaVerify_332 (by decide) (fun c_332 => False.elim (by omega)) (fun c_332 => ?_)
    refine aw_iconst d_Mo_dsaVerify_335 ⟨by decide, by decide⟩ ?_
    exact aw_zret d_Mo_dsaVerify_336 rfl ⟨by decide, by decide⟩ (hP _ _ (rsNo 0 4 (c4_4 ⟨by decide, by decide⟩ b1 b2 (fun z => (z pre).1 bn)) (by decide) a_up_at (fR0.fr (fR0.fr R0 GB (r := qN) (by intro a x y; exact ⟨fun z => z, by omega⟩) (by decide)) (FR.c0 (p := fun _ => False)) (by intro a x y; exact ⟨fun z => z, fun z => z⟩) (fun z => z))))
set_option maxHeartbeats 4000000 in
set_option maxRecDepth 100000 in
theorem vB20 {l : Launch} {G : a_G} {P : a_R → Hp → Prop} {h : Hp} {I L K M : Nat → Int → Int} (S : Shp h) (R0 : fR0 qN I L K M) (D : RD K M 2) (rg : ∀ j, -128 ≤ I 183 j ∧ I 183 j ≤ 127) (b1 : (0 : Int) ≠ 0 ∨ I 186 4 ≤ 255) (b2 : I 186 1 = 32 + 320 * pK 2) (rb : RB I) (p1 : I 186 5 = sPkt 2) (p2 : hSt (rgR I) (sO3 2) (pW 2) (pK 2)) (h4 : K 175 4 = 0) (tb : ∀ m, 0 ≤ m → m < 8 → tbl K (rgR I) 4544 75 m) (hP : ∀ r_ h2_, RsR h I L (c4 ((0 ≤ (2 : Int) ∧ (2 : Int) < 3) ∧ ((0 : Int) = 0 ∨ (0 : Int) = -1)) ((0 : Int) ≠ 0 ∨ I 186 4 ≤ 255) (I 186 1 = 32 + 320 * pK (2 : Int)) (vfPre (2 : Int) (rgR I) (I 186 5) → vfOk (2 : Int) (rpR I) (rgR I))) (fun a => a = 184 ∨ a = 186) (fun v I' L' => (¬ vfPre (2 : Int) (rgR I) (I 186 5) ∧ v = 0 ∧ fR0 qN I L I' L') ∨ (vfPre (2 : Int) (rgR I) (I 186 5) ∧ ((∀ j, j ≠ 6 → I' 186 j = I 186 j) ∧ I' 186 6 = pC (2 : Int)) ∧ (HR I' 184 0 (pC (2 : Int)) (vfC (2 : Int) (rpR I) (rgR I) (muW I (0 : Int))) ∧ rng (I 184) (I' 184)) ∧ (v = 0 ∨ v = 1) ∧ (v = 1 ↔ ∀ j, 0 ≤ j → j < pC (2 : Int) → vfC (2 : Int) (rpR I) (rgR I) (muW I (0 : Int)) j = rgR I j))) r_ h2_ → P r_ h2_) : AW l G M_Mo_dsaVerify P 140 [(3, vi 4544), (2, vi 0), (0, vr 175)] [] (sD h K M) := by
  refine aw_aload_n d_Mo_dsaVerify_140 rfl rfl ?_
  refine aw_iconst d_Mo_dsaVerify_141 ⟨by decide, by decide⟩ ?_
  refine ax_putI d_Mo_dsaVerify_142 fd_Mo_216 (k_175 S) (by decide) rfl ?_
  refine aw_iconst d_Mo_dsaVerify_145 ⟨by decide, by decide⟩ ?_
  refine aw_istore (lv' := [(4, vi 0), (3, vi 4544), (2, vi 0), (0, vr 175)]) d_Mo_dsaVerify_146 (by decide) rfl ?_
  have lp_148 : ∀ (n_ : Nat) (i : Int) (K2 : Nat → Int → Int), (0 ≤ i ∧ i ≤ 7) → (FR (fun a => 205 ≤ a ∧ a < 212) K M K2 M) → (K2 175 23 = 8 * (640 * i)) → (∀ m, 0 ≤ m → m < i → eqQ (K2 (205 + m.toNat)) ((vfZs 2 (rgR I)) m) ∧ wiN 524168 ((vfZ 2 (rgR I)) m)) → (K2 175 4 = 0) → ((7 - i).toNat) = n_ → AW l G M_Mo_dsaVerify P 148 [(4, vi i), (3, vi 4544), (2, vi 0), (0, vr 175)] [] (sD h K2 M) := by
    intro n_
    induction n_ using Nat.strongRecOn with
    | _ n_ ih_148 =>
    intro i K2 hi F2 bb dn h42 hm_148
    refine aw_iload d_Mo_dsaVerify_148 rfl ?_
    refine aw_aload_n d_Mo_dsaVerify_150 rfl rfl ?_
    refine ax_getIe (x := 7) d_Mo_dsaVerify_151 fd_Mo_226 (k_175 S) (Eq.trans (F2.1 175 32 (by omega) (Or.inr (by decide))) (dr2_32 D)) ?_
    refine aw_icmp_ge (tgt := 265) d_Mo_dsaVerify_154 (by decide) (fun c_154 => ?_) (fun c_154 => ?_)
    · skip
      refine aw_sub (lv' := [(2, vi 0), (0, vr 175)]) (by simp) ?_
      exact vC20 S (fR0.fr R0 F2 (by intro a x y; exact ⟨fun z => z, by omega⟩) (by omega)) (D.fr F2 (by omega)) rg b1 b2 rb ⟨p1, p2, fun m a b => (dn m a (by have b2 : m < 7 := b; omega)).2⟩ (fun m a b => (dn m a (by omega)).1) (fun m a b c x y => by rw [F2.1 _ _ (by omega) (Or.inl (by omega))]; exact tb m a b c x y) hP
    · skip
      refine aw_aload_n d_Mo_dsaVerify_157 rfl rfl ?_
      refine aw_aload_n d_Mo_dsaVerify_158 rfl rfl ?_
      refine ax_getR (b := 177) d_Mo_dsaVerify_159 fd_Mo_15 (k_175 S) (r_175_1 S) ?_
      refine aw_iconst d_Mo_dsaVerify_162 ⟨by decide, by decide⟩ ?_
      refine ax_aald (b := 183) d_Mo_dsaVerify_163 ⟨by rw [(k_177 S)]; decide, by rw [(k_177 S)]; decide⟩ (by omega) (by rw [n_177 S]; omega) (g_177 S (j := 5) (by decide) (by decide)) ?_
      refine aw_aload_n d_Mo_dsaVerify_164 rfl rfl ?_
      refine ax_getIe (x := 64) d_Mo_dsaVerify_165 fd_Mo_248 (k_175 S) (Eq.trans (F2.1 175 38 (by omega) (Or.inr (by decide))) (dr2_38 D)) ?_
      refine aw_aload_n d_Mo_dsaVerify_168 rfl rfl ?_
      refine ax_getR (b := 204) d_Mo_dsaVerify_169 fd_Mo_76 (k_175 S) (r_175_28 S) ?_
      refine aw_iload d_Mo_dsaVerify_172 rfl ?_
      refine ax_aald (b := 205 + i.toNat) d_Mo_dsaVerify_174 ⟨by rw [(k_204 S)]; decide, by rw [(k_204 S)]; decide⟩ (by omega) (by rw [n_204 S]; omega) (g_204 S (by omega) (by omega)) ?_
      refine aw_aload_n d_Mo_dsaVerify_175 rfl rfl ?_
      refine ax_getIe (x := 524288) d_Mo_dsaVerify_176 fd_Mo_237 (k_175 S) (Eq.trans (F2.1 175 35 (by omega) (Or.inr (by decide))) (dr2_35 D)) ?_
      refine aw_aload_n d_Mo_dsaVerify_179 rfl rfl ?_
      refine ax_getIe (x := 20) d_Mo_dsaVerify_180 fd_Mo_251 (k_175 S) (Eq.trans (F2.1 175 39 (by omega) (Or.inr (by decide))) (dr2_39 D)) ?_
      refine ax_Vr (st := []) (as := [vr 183, vi 64, vr (205 + i.toNat), vi 524288, vi 20]) (b := 175) d_Mo_dsaVerify_183 cs_Mo_dsaVerify_183 (k_175 S) (c_Mo_unpack (pa := 64) (c := 640 * i) (d := 20) (b := 524288) S ⟨k_183 S, by decide, by decide⟩ ⟨kr_204 S (by omega), by omega, nr_204 S (by omega)⟩ (by omega) (by decide) (by omega) (by decide) (by rw [n_183 S]; omega)) rfl rfl rfl (fun u_183 q_183 => ?_)
      obtain ⟨q1, q2, q3⟩ := q_183
      have F3 : FR (fun a => 205 ≤ a ∧ a < 212) K M u_183 M := F2.tr (FR.unp (p := fun a => 205 ≤ a ∧ a < 212) q1 (by omega)) (fun a x => ⟨x, x⟩)
      have z3 : eqQ (u_183 (205 + i.toNat)) ((vfZs 2 (rgR I)) i) := fun x u v => by rw [q3 x u v, gR_congr (g := fun j => K2 183 (64 + 640 * i + j) % 256) (g' := fun j => rgR I (64 + 640 * i + j)) (fun y y0 y1 => by rw [F2.1 183 _ (by omega) (Or.inl (by decide)), R0.1 183 _ (by omega) (fun z => z), rg_in (show I 186 5 = 4627 from p1) (by omega) (by omega)])]; rfl
      show AW l G M_Mo_dsaVerify P 186 [(4, vi i), (3, vi 4544), (2, vi 0), (0, vr 175)] [] (sD h u_183 M)
      refine aw_iconst d_Mo_dsaVerify_186 ⟨by decide, by decide⟩ ?_
      refine aw_istore (lv' := [(5, vi 0), (4, vi i), (3, vi 4544), (2, vi 0), (0, vr 175)]) d_Mo_dsaVerify_187 (by decide) rfl ?_
      have lp_189 : ∀ (n_ : Nat) (c : Int), (0 ≤ c ∧ c ≤ 256) → (∀ x, 0 ≤ x → x < c → -524168 < (vfZs 2 (rgR I)) i x ∧ (vfZs 2 (rgR I)) i x < 524168) → ((256 - c).toNat) = n_ → AW l G M_Mo_dsaVerify P 189 [(5, vi c), (4, vi i), (3, vi 4544), (2, vi 0), (0, vr 175)] [] (sD h u_183 M) := by
        intro n_
        induction n_ using Nat.strongRecOn with
        | _ n_ ih_189 =>
        intro c hc wk hm_189
        have zc : c < 256 → u_183 (205 + i.toNat) c = (vfZs 2 (rgR I)) i c := fun v => z3 c hc.1 v
        refine aw_iload d_Mo_dsaVerify_189 rfl ?_
        refine aw_sipush d_Mo_dsaVerify_191 ⟨by decide, by decide⟩ (by decide) ?_
        refine aw_icmp_ge (tgt := 259) d_Mo_dsaVerify_194 (by decide) (fun c_194 => ?_) (fun c_194 => ?_)
        · skip
          refine ax_iinc (lv' := [(4, vi (i + 1)), (5, vi c), (3, vi 4544), (2, vi 0), (0, vr 175)]) d_Mo_dsaVerify_259 rfl (by decide) ⟨(by omega), (by omega)⟩ rfl ?_
          refine aw_goto (tgt := 148) d_Mo_dsaVerify_262 (by decide) ?_
          refine aw_sub (lv' := [(4, vi (i + 1)), (3, vi 4544), (2, vi 0), (0, vr 175)]) (by simp) ?_
          exact ih_148 _ (by omega) (i + 1) u_183 (by omega) (F3) (by omega) (fun m a b => by by_cases z : m = i; exact (by rw [z]; exact ⟨z3, fun x u v => by have w_ := (zl0 (t := 524168) (by decide) (show -524288 < (vfZs 2 (rgR I)) i x ∧ (vfZs 2 (rgR I)) i x ≤ 524288 from ⟨by have := (vfZs_b (s := 2) (g := (rgR I)) (m := i) (j := x)).1; rw [show pG1 2 - 2 ^ (pB 2).toNat = -524288 from by decide] at this; exact this, (vfZs_b (s := 2) (g := (rgR I)) (m := i) (j := x)).2⟩)); rw [vfZ_Zs]; exact fun q_ => by have w2 := w_.2 q_; have w3 := wk x u (by omega); omega⟩); exact ⟨fun x u v => by rw [q1 _ _ (by omega) (Or.inl (by omega))]; exact (dn m a (by omega)).1 x u v, (dn m a (by omega)).2⟩) ((q1 175 4 (by omega) (Or.inr (by decide))).trans h42) rfl
        · skip
          have zb := (show -524288 < (vfZs 2 (rgR I)) i c ∧ (vfZs 2 (rgR I)) i c ≤ 524288 from ⟨by have := (vfZs_b (s := 2) (g := (rgR I)) (m := i) (j := c)).1; rw [show pG1 2 - 2 ^ (pB 2).toNat = -524288 from by decide] at this; exact this, (vfZs_b (s := 2) (g := (rgR I)) (m := i) (j := c)).2⟩)
          have wz := zl0 (t := 524168) (by decide) zb
          refine aw_aload_n d_Mo_dsaVerify_197 rfl rfl ?_
          refine ax_getR (b := 204) d_Mo_dsaVerify_198 fd_Mo_76 (k_175 S) (r_175_28 S) ?_
          refine aw_iload d_Mo_dsaVerify_201 rfl ?_
          refine ax_aald (b := 205 + i.toNat) d_Mo_dsaVerify_203 ⟨by rw [(k_204 S)]; decide, by rw [(k_204 S)]; decide⟩ (by omega) (by rw [n_204 S]; omega) (g_204 S (by omega) (by omega)) ?_
          refine aw_iload d_Mo_dsaVerify_204 rfl ?_
          refine ax_ialde (x := (vfZs 2 (rgR I)) i c) d_Mo_dsaVerify_206 (kr_204 S (by omega)) (by omega) (by rw [nr_204 S (by omega)]; omega) (zc (by omega)) ?_
          refine aw_aload_n d_Mo_dsaVerify_207 rfl rfl ?_
          refine ax_getIe (x := 524288) d_Mo_dsaVerify_208 fd_Mo_237 (k_175 S) (Eq.trans (F3.1 175 35 (by omega) (Or.inr (by decide))) (dr2_35 D)) ?_
          refine aw_aload_n d_Mo_dsaVerify_211 rfl rfl ?_
          refine ax_getIe (x := 60) d_Mo_dsaVerify_212 fd_Mo_232 (k_175 S) (Eq.trans (F3.1 175 34 (by omega) (Or.inr (by decide))) (dr2_34 D)) ?_
          refine aw_aload_n d_Mo_dsaVerify_215 rfl rfl ?_
          refine ax_getIe (x := 2) d_Mo_dsaVerify_216 fd_Mo_229 (k_175 S) (Eq.trans (F3.1 175 33 (by omega) (Or.inr (by decide))) (dr2_33 D)) ?_
          refine ax_imul d_Mo_dsaVerify_219 ⟨(by omega), (by omega)⟩ ?_
          refine ax_ti (x := 120) (by decide) ?_
          refine ax_isub d_Mo_dsaVerify_220 ⟨(by omega), (by omega)⟩ ?_
          refine ax_ti (x := 524168) (by decide) ?_
          refine aw_icmp_ge (tgt := 251) d_Mo_dsaVerify_221 (by decide) (fun c_221 => ?_) (fun c_221 => ?_)
          · skip
            refine aw_iconst d_Mo_dsaVerify_251 ⟨by decide, by decide⟩ ?_
            exact aw_zret d_Mo_dsaVerify_252 rfl ⟨by decide, by decide⟩ (hP _ _ ⟨_, _, _, rfl, rfl, by rw [c4_0 ⟨by decide, by decide⟩ b1 b2 (fun z => absurd z (fun z => by have y := z.2.2 i hi.1 (by show i < 7; omega) c hc.1 (by omega); rw [vfZ_Zs] at y; exact y (wz.1 (by omega))))]; exact (q1 175 4 (by omega) (Or.inr (by decide))).trans h42, Or.inl ⟨c4_0 ⟨by decide, by decide⟩ b1 b2 (fun z => absurd z (fun z => by have y := z.2.2 i hi.1 (by show i < 7; omega) c hc.1 (by omega); rw [vfZ_Zs] at y; exact y (wz.1 (by omega)))), (fR0.fr R0 F3 (r := qN) (by intro a x y; exact ⟨fun z => z, by omega⟩) (by omega)).mono (fun _ _ z => z), Or.inl ⟨(fun z => by have y := z.2.2 i hi.1 (by show i < 7; omega) c hc.1 (by omega); rw [vfZ_Zs] at y; exact y (wz.1 (by omega))), rfl, fR0.fr R0 F3 (by intro a x y; exact ⟨fun z => z, by omega⟩) (by omega)⟩⟩⟩)
          · skip
            refine aw_aload_n d_Mo_dsaVerify_224 rfl rfl ?_
            refine ax_getR (b := 204) d_Mo_dsaVerify_225 fd_Mo_76 (k_175 S) (r_175_28 S) ?_
            refine aw_iload d_Mo_dsaVerify_228 rfl ?_
            refine ax_aald (b := 205 + i.toNat) d_Mo_dsaVerify_230 ⟨by rw [(k_204 S)]; decide, by rw [(k_204 S)]; decide⟩ (by omega) (by rw [n_204 S]; omega) (g_204 S (by omega) (by omega)) ?_
            refine aw_iload d_Mo_dsaVerify_231 rfl ?_
            refine ax_ialde (x := (vfZs 2 (rgR I)) i c) d_Mo_dsaVerify_233 (kr_204 S (by omega)) (by omega) (by rw [nr_204 S (by omega)]; omega) (zc (by omega)) ?_
            refine aw_aload_n d_Mo_dsaVerify_234 rfl rfl ?_
            refine ax_getIe (x := 60) d_Mo_dsaVerify_235 fd_Mo_232 (k_175 S) (Eq.trans (F3.1 175 34 (by omega) (Or.inr (by decide))) (dr2_34 D)) ?_
            refine aw_aload_n d_Mo_dsaVerify_238 rfl rfl ?_
            refine ax_getIe (x := 2) d_Mo_dsaVerify_239 fd_Mo_229 (k_175 S) (Eq.trans (F3.1 175 33 (by omega) (Or.inr (by decide))) (dr2_33 D)) ?_
            refine ax_imul d_Mo_dsaVerify_242 ⟨(by omega), (by omega)⟩ ?_
            refine ax_ti (x := 120) (by decide) ?_
            refine aw_aload_n d_Mo_dsaVerify_243 rfl rfl ?_
            refine ax_getIe (x := 524288) d_Mo_dsaVerify_244 fd_Mo_237 (k_175 S) (Eq.trans (F3.1 175 35 (by omega) (Or.inr (by decide))) (dr2_35 D)) ?_
            refine ax_isub d_Mo_dsaVerify_247 ⟨(by omega), (by omega)⟩ ?_
            refine ax_ti (x := -524168) (by decide) ?_
            refine aw_icmp_gt (tgt := 253) d_Mo_dsaVerify_248 (by decide) (fun c_248 => ?_) (fun c_248 => ?_)
            · skip
              refine ax_iinc (lv' := [(5, vi (c + 1)), (4, vi i), (3, vi 4544), (2, vi 0), (0, vr 175)]) d_Mo_dsaVerify_253 rfl (by decide) ⟨(by omega), (by omega)⟩ rfl ?_
              refine aw_goto (tgt := 189) d_Mo_dsaVerify_256 (by decide) ?_
              exact ih_189 _ (by omega) (c + 1) (by omega) (fun x a b => by by_cases z : x = c; exact (by rw [z]; omega); exact wk x a (by omega)) rfl
            · skip
              refine aw_iconst d_Mo_dsaVerify_251 ⟨by decide, by decide⟩ ?_
              exact aw_zret d_Mo_dsaVerify_252 rfl ⟨by decide, by decide⟩ (hP _ _ ⟨_, _, _, rfl, rfl, by rw [c4_0 ⟨by decide, by decide⟩ b1 b2 (fun z => absurd z (fun z => by have y := z.2.2 i hi.1 (by show i < 7; omega) c hc.1 (by omega); rw [vfZ_Zs] at y; exact y (wz.1 (by omega))))]; exact (q1 175 4 (by omega) (Or.inr (by decide))).trans h42, Or.inl ⟨c4_0 ⟨by decide, by decide⟩ b1 b2 (fun z => absurd z (fun z => by have y := z.2.2 i hi.1 (by show i < 7; omega) c hc.1 (by omega); rw [vfZ_Zs] at y; exact y (wz.1 (by omega)))), (fR0.fr R0 F3 (r := qN) (by intro a x y; exact ⟨fun z => z, by omega⟩) (by omega)).mono (fun _ _ z => z), Or.inl ⟨(fun z => by have y := z.2.2 i hi.1 (by show i < 7; omega) c hc.1 (by omega); rw [vfZ_Zs] at y; exact y (wz.1 (by omega))), rfl, fR0.fr R0 F3 (by intro a x y; exact ⟨fun z => z, by omega⟩) (by omega)⟩⟩⟩)
      exact lp_189 _ 0 (by omega) (fun x a b => by omega) rfl
  skip
  exact lp_148 _ 0 (a_up K 175 23 0) (by omega) (FR.b0) (a_up_at.trans (by decide)) (fun m a b => by omega) (by rw [a_up_ne (Or.inr (by decide))]; exact h4) rfl
set_option maxHeartbeats 4000000 in
set_option maxRecDepth 100000 in
theorem c_Mo_dsaVerify20 {l : Launch} {G : a_G} {h : Hp} {I L : Nat → Int → Int} (S : Shp h) (RS : RSt I L) (rb : RB I) (rg : ∀ j, -128 ≤ I 183 j ∧ I 183 j ≤ 127) : AW l G M_Mo_dsaVerify (RsR h I L (c4 ((0 ≤ (2 : Int) ∧ (2 : Int) < 3) ∧ ((0 : Int) = 0 ∨ (0 : Int) = -1)) ((0 : Int) ≠ 0 ∨ I 186 4 ≤ 255) (I 186 1 = 32 + 320 * pK (2 : Int)) (vfPre (2 : Int) (rgR I) (I 186 5) → vfOk (2 : Int) (rpR I) (rgR I))) (fun a => a = 184 ∨ a = 186) (fun v I' L' => (¬ vfPre (2 : Int) (rgR I) (I 186 5) ∧ v = 0 ∧ fR0 qN I L I' L') ∨ (vfPre (2 : Int) (rgR I) (I 186 5) ∧ ((∀ j, j ≠ 6 → I' 186 j = I 186 j) ∧ I' 186 6 = pC (2 : Int)) ∧ (HR I' 184 0 (pC (2 : Int)) (vfC (2 : Int) (rpR I) (rgR I) (muW I (0 : Int))) ∧ rng (I 184) (I' 184)) ∧ (v = 0 ∨ v = 1) ∧ (v = 1 ↔ ∀ j, 0 ≤ j → j < pC (2 : Int) → vfC (2 : Int) (rpR I) (rgR I) (muW I (0 : Int)) j = rgR I j)))) 0 (a_ar 0 [vr 175, vi 2, vi 0]) [] (sD h I L) := by
  suffices key : ∀ P : a_R → Hp → Prop, (∀ r_ h2_, RsR h I L (c4 ((0 ≤ (2 : Int) ∧ (2 : Int) < 3) ∧ ((0 : Int) = 0 ∨ (0 : Int) = -1)) ((0 : Int) ≠ 0 ∨ I 186 4 ≤ 255) (I 186 1 = 32 + 320 * pK (2 : Int)) (vfPre (2 : Int) (rgR I) (I 186 5) → vfOk (2 : Int) (rpR I) (rgR I))) (fun a => a = 184 ∨ a = 186) (fun v I' L' => (¬ vfPre (2 : Int) (rgR I) (I 186 5) ∧ v = 0 ∧ fR0 qN I L I' L') ∨ (vfPre (2 : Int) (rgR I) (I 186 5) ∧ ((∀ j, j ≠ 6 → I' 186 j = I 186 j) ∧ I' 186 6 = pC (2 : Int)) ∧ (HR I' 184 0 (pC (2 : Int)) (vfC (2 : Int) (rpR I) (rgR I) (muW I (0 : Int))) ∧ rng (I 184) (I' 184)) ∧ (v = 0 ∨ v = 1) ∧ (v = 1 ↔ ∀ j, 0 ≤ j → j < pC (2 : Int) → vfC (2 : Int) (rpR I) (rgR I) (muW I (0 : Int)) j = rgR I j))) r_ h2_ → P r_ h2_) → AW l G M_Mo_dsaVerify P 0 [(0, vr 175), (1, vi 2), (2, vi 0)] [] (sD h I L) from key _ (fun _ _ q => q)
  intro P hP
  refine aw_aload_n d_Mo_dsaVerify_0 rfl rfl ?_
  refine aw_iload_n d_Mo_dsaVerify_1 rfl rfl ?_
  refine aw_iconst d_Mo_dsaVerify_2 ⟨by decide, by decide⟩ ?_
  refine aw_iconst d_Mo_dsaVerify_3 ⟨by decide, by decide⟩ ?_
  refine ax_S (st := [vr 175]) (as := [vi 2, vi 0, vi 2]) (v := some (vi 1)) (h' := sD h I L) d_Mo_dsaVerify_4 cs_Mo_dsaVerify_4 (c_in1 (by decide)) rfl rfl rfl ?_
  show AW l G M_Mo_dsaVerify P 7 [(0, vr 175), (1, vi 2), (2, vi 0)] [vi 1, vr 175] (sD h I L)
  refine aw_if_eq (tgt := 23) d_Mo_dsaVerify_7 (by decide) (fun c_7 => False.elim (by omega)) (fun c_7 => ?_)
  refine aw_iload_n d_Mo_dsaVerify_10 rfl rfl ?_
  refine aw_iconst d_Mo_dsaVerify_11 ⟨by decide, by decide⟩ ?_
  refine aw_iconst d_Mo_dsaVerify_12 ⟨by decide, by decide⟩ ?_
  refine ax_S (st := [vr 175]) (as := [vi 0, vi (-1), vi 0]) (v := some (vi 1)) (h' := sD h I L) d_Mo_dsaVerify_13 cs_Mo_dsaVerify_13 (c_in1 (by decide)) rfl rfl rfl ?_
  show AW l G M_Mo_dsaVerify P 16 [(0, vr 175), (1, vi 2), (2, vi 0)] [vi 1, vr 175] (sD h I L)
  refine aw_if_eq (tgt := 23) d_Mo_dsaVerify_16 (by decide) (fun c_16 => False.elim (by omega)) (fun c_16 => ?_)
  refine aw_iconst d_Mo_dsaVerify_19 ⟨by decide, by decide⟩ ?_
  refine aw_goto (tgt := 24) d_Mo_dsaVerify_20 (by decide) ?_
  refine aw_iconst d_Mo_dsaVerify_24 ⟨by decide, by decide⟩ ?_
  refine ax_V (st := []) (as := [vi 1, vi 1]) (b := 175) (v := some (vi 1)) (h' := sD h (a_up I 175 4 0) L) d_Mo_dsaVerify_25 cs_Mo_dsaVerify_25 (k_175 S) (c_good1 S (rfl)) rfl rfl rfl ?_
  show AW l G M_Mo_dsaVerify P 28 [(0, vr 175), (1, vi 2), (2, vi 0)] [vi 1] (sD h (a_up I 175 4 0) L)
  refine aw_if_ne (tgt := 33) d_Mo_dsaVerify_28 (by decide) (fun c_28 => ?_) (fun c_28 => False.elim (by omega))
  refine aw_aload_n d_Mo_dsaVerify_33 rfl rfl ?_
  refine aw_iload_n d_Mo_dsaVerify_34 rfl rfl ?_
  refine ax_Vr (st := []) (as := [vi 2]) (b := 175) d_Mo_dsaVerify_35 cs_Mo_dsaVerify_35 (k_175 S) (c_Mo_dsa2 S) rfl rfl rfl (fun u_35 q_35 => ?_)
  obtain ⟨d1, d2, d3⟩ := q_35
  have e0 : ∀ a j, (a < 175 ∨ 176 ≤ a ∧ a ≤ 202 ∨ 204 ≤ a) → u_35 a j = I a j := fun a j x => (d1 a j (by omega) (Or.inl (by omega)) (Or.inl (by omega)) (Or.inl (by omega)) (Or.inl (by omega)) (Or.inl (by omega)) (Or.inl (by omega)) (Or.inl (by omega)) (Or.inl (by omega)) (Or.inl (by omega))).trans (a_up_ne (Or.inl (by omega)))
  have R00 : fR0 qN I L u_35 L := ⟨fun a j x _ => e0 a j (by omega), (d1 175 3 (by decide) (Or.inr (by decide)) (Or.inr (by decide)) (Or.inr (by decide)) (Or.inr (by decide)) (Or.inr (by decide)) (Or.inr (by decide)) (Or.inr (by decide)) (Or.inr (by decide)) (Or.inr (by decide))).trans (a_up_ne (Or.inr (by decide))), fun _ _ _ => rfl⟩
  have D0 : RD u_35 L 2 := ⟨RS.of (fun j => e0 193 j (by omega)) (fun _ => rfl), d2, d3⟩
  have D1 := D0.fr (FR.c0 (p := fun _ => False) (v := 0)) ⟨fun z => z, fun z => z, fun z => z⟩
  have R1 : fR0 qN I L (a_up u_35 175 4 0) L := fR0.fr R00 (FR.c0 (p := fun _ => False)) (by intro a x y; exact ⟨fun z => z, fun z => z⟩) (fun z => z)
  show AW l G M_Mo_dsaVerify P 38 [(0, vr 175), (1, vi 2), (2, vi 0)] [] (sD h u_35 L)
  refine aw_aload_n d_Mo_dsaVerify_38 rfl rfl ?_
  refine aw_aload_n d_Mo_dsaVerify_39 rfl rfl ?_
  refine aw_iload_n d_Mo_dsaVerify_40 rfl rfl ?_
  by_cases cx_ : (0 : Int) < 0 ∨ u_35 186 4 ≤ 255
  · skip
    refine ax_V (st := [vr 175]) (as := [vi 0]) (b := 175) (v := some (vi 1)) (h' := sD h u_35 L) d_Mo_dsaVerify_41 cs_Mo_dsaVerify_41 (k_175 S) (by have z := c_Mo_context (l := l) (G := G) (h := h) (L := L) (I := u_35) (x := 0) S; rw [if_pos cx_] at z; exact z) rfl rfl rfl ?_
    show AW l G M_Mo_dsaVerify P 44 [(0, vr 175), (1, vi 2), (2, vi 0)] [vi 1, vr 175] (sD h u_35 L)
    refine aw_iconst d_Mo_dsaVerify_44 ⟨by decide, by decide⟩ ?_
    refine ax_V (st := []) (as := [vi 1, vi 2]) (b := 175) (v := some (vi 1)) (h' := sD h (a_up u_35 175 4 0) L) d_Mo_dsaVerify_45 cs_Mo_dsaVerify_45 (k_175 S) (c_good1 S (rfl)) rfl rfl rfl ?_
    show AW l G M_Mo_dsaVerify P 48 [(0, vr 175), (1, vi 2), (2, vi 0)] [vi 1] (sD h (a_up u_35 175 4 0) L)
    refine aw_if_eq (tgt := 84) d_Mo_dsaVerify_48 (by decide) (fun c_48 => False.elim (by omega)) (fun c_48 => ?_)
    have bb : (0 : Int) ≠ 0 ∨ I 186 4 ≤ 255 := by rw [e0 186 4 (by omega)] at cx_; omega
    refine aw_aload_n d_Mo_dsaVerify_51 rfl rfl ?_
    refine aw_aload_n d_Mo_dsaVerify_52 rfl rfl ?_
    refine ax_getR (b := 186) d_Mo_dsaVerify_53 fd_Mo_18 (k_175 S) (r_175_2 S) ?_
    refine aw_iconst d_Mo_dsaVerify_56 ⟨by decide, by decide⟩ ?_
    refine ax_ialde (x := I 186 1) d_Mo_dsaVerify_57 (k_186 S) (by omega) (by rw [n_186 S]; omega) (Eq.trans (a_up_ne (Or.inl (by decide))) (Eq.trans (e0 186 1 (by omega)) (rfl))) ?_
    refine aw_bipush d_Mo_dsaVerify_58 ⟨by decide, by decide⟩ (by decide) ?_
    refine aw_sipush d_Mo_dsaVerify_60 ⟨by decide, by decide⟩ (by decide) ?_
    refine aw_aload_n d_Mo_dsaVerify_63 rfl rfl ?_
    refine ax_getIe (x := 8) d_Mo_dsaVerify_64 fd_Mo_223 (k_175 S) (Eq.trans (a_up_ne (Or.inr (by decide))) (dr2_26 D0)) ?_
    refine ax_imul d_Mo_dsaVerify_67 ⟨(by omega), (by omega)⟩ ?_
    refine ax_ti (x := 2560) (by decide) ?_
    refine ax_iadd d_Mo_dsaVerify_68 ⟨(by omega), (by omega)⟩ ?_
    refine ax_ti (x := 2592) (by decide) ?_
    refine aw_icmp_ne (tgt := 76) d_Mo_dsaVerify_69 (by decide) (fun c_69 => ?_) (fun c_69 => ?_)
    · skip
      refine aw_iconst d_Mo_dsaVerify_76 ⟨by decide, by decide⟩ ?_
      refine aw_iconst d_Mo_dsaVerify_77 ⟨by decide, by decide⟩ ?_
      refine ax_V (st := []) (as := [vi 0, vi 3]) (b := 175) (v := some (vi 0)) (h' := sD h (a_up u_35 175 4 3) L) d_Mo_dsaVerify_78 cs_Mo_dsaVerify_78 (k_175 S) (c_good0 S (by rw [a_up_up])) rfl rfl rfl ?_
      show AW l G M_Mo_dsaVerify P 81 [(0, vr 175), (1, vi 2), (2, vi 0)] [vi 0] (sD h (a_up u_35 175 4 3) L)
      refine aw_if_ne (tgt := 86) d_Mo_dsaVerify_81 (by decide) (fun c_81 => False.elim (by omega)) (fun c_81 => ?_)
      refine aw_iconst d_Mo_dsaVerify_84 ⟨by decide, by decide⟩ ?_
      exact aw_zret d_Mo_dsaVerify_85 rfl ⟨by decide, by decide⟩ (hP _ _ (rsNo 0 3 (c4_3 ⟨by decide, by decide⟩ bb (fun z => by have z1 : I 186 1 = 2592 := z; omega)) (by decide) a_up_at (fR0.fr R00 (FR.c0 (p := fun _ => False)) (by intro a x y; exact ⟨fun z => z, fun z => z⟩) (fun z => z))))
    · skip
      refine aw_iconst d_Mo_dsaVerify_72 ⟨by decide, by decide⟩ ?_
      refine aw_goto (tgt := 77) d_Mo_dsaVerify_73 (by decide) ?_
      refine aw_iconst d_Mo_dsaVerify_77 ⟨by decide, by decide⟩ ?_
      refine ax_V (st := []) (as := [vi 1, vi 3]) (b := 175) (v := some (vi 1)) (h' := sD h (a_up u_35 175 4 0) L) d_Mo_dsaVerify_78 cs_Mo_dsaVerify_78 (k_175 S) (c_good1 S (by rw [a_up_up])) rfl rfl rfl ?_
      show AW l G M_Mo_dsaVerify P 81 [(0, vr 175), (1, vi 2), (2, vi 0)] [vi 1] (sD h (a_up u_35 175 4 0) L)
      refine aw_if_ne (tgt := 86) d_Mo_dsaVerify_81 (by decide) (fun c_81 => ?_) (fun c_81 => False.elim (by omega))
      have pb : I 186 1 = 32 + 320 * pK 2 := by show I 186 1 = 2592; omega
      refine aw_aload_n d_Mo_dsaVerify_86 rfl rfl ?_
      refine ax_getIe (x := 64) d_Mo_dsaVerify_87 fd_Mo_248 (k_175 S) (Eq.trans (a_up_ne (Or.inr (by decide))) (dr2_38 D0)) ?_
      refine aw_bipush d_Mo_dsaVerify_90 ⟨by decide, by decide⟩ (by decide) ?_
      refine aw_aload_n d_Mo_dsaVerify_92 rfl rfl ?_
      refine ax_getIe (x := 7) d_Mo_dsaVerify_93 fd_Mo_226 (k_175 S) (Eq.trans (a_up_ne (Or.inr (by decide))) (dr2_32 D0)) ?_
      refine ax_imul d_Mo_dsaVerify_96 ⟨(by omega), (by omega)⟩ ?_
      refine ax_ti (x := 224) (by decide) ?_
      refine aw_aload_n d_Mo_dsaVerify_97 rfl rfl ?_
      refine ax_getIe (x := 20) d_Mo_dsaVerify_98 fd_Mo_251 (k_175 S) (Eq.trans (a_up_ne (Or.inr (by decide))) (dr2_39 D0)) ?_
      refine ax_imul d_Mo_dsaVerify_101 ⟨(by omega), (by omega)⟩ ?_
      refine ax_ti (x := 4480) (by decide) ?_
      refine ax_iadd d_Mo_dsaVerify_102 ⟨(by omega), (by omega)⟩ ?_
      refine ax_ti (x := 4544) (by decide) ?_
      refine aw_istore_n (lv' := [(3, vi 4544), (0, vr 175), (1, vi 2), (2, vi 0)]) d_Mo_dsaVerify_103 rfl (by decide) rfl ?_
      refine aw_aload_n d_Mo_dsaVerify_104 rfl rfl ?_
      refine ax_getR (b := 186) d_Mo_dsaVerify_105 fd_Mo_18 (k_175 S) (r_175_2 S) ?_
      refine aw_iconst d_Mo_dsaVerify_108 ⟨by decide, by decide⟩ ?_
      refine ax_ialde (x := I 186 5) d_Mo_dsaVerify_109 (k_186 S) (by omega) (by rw [n_186 S]; omega) (Eq.trans (a_up_ne (Or.inl (by decide))) (Eq.trans (e0 186 5 (by omega)) (rfl))) ?_
      refine aw_iload_n d_Mo_dsaVerify_110 rfl rfl ?_
      refine aw_aload_n d_Mo_dsaVerify_111 rfl rfl ?_
      refine ax_getIe (x := 75) d_Mo_dsaVerify_112 fd_Mo_245 (k_175 S) (Eq.trans (a_up_ne (Or.inr (by decide))) (dr2_37 D0)) ?_
      refine ax_iadd d_Mo_dsaVerify_115 ⟨(by omega), (by omega)⟩ ?_
      refine ax_ti (x := 4619) (by decide) ?_
      refine aw_aload_n d_Mo_dsaVerify_116 rfl rfl ?_
      refine ax_getIe (x := 8) d_Mo_dsaVerify_117 fd_Mo_223 (k_175 S) (Eq.trans (a_up_ne (Or.inr (by decide))) (dr2_26 D0)) ?_
      refine ax_iadd d_Mo_dsaVerify_120 ⟨(by omega), (by omega)⟩ ?_
      refine ax_ti (x := 4627) (by decide) ?_
      refine aw_icmp_ne (tgt := 138) d_Mo_dsaVerify_121 (by decide) (fun c_121 => ?_) (fun c_121 => ?_)
      · skip
        refine aw_iconst d_Mo_dsaVerify_138 ⟨by decide, by decide⟩ ?_
        exact aw_zret d_Mo_dsaVerify_139 rfl ⟨by decide, by decide⟩ (hP _ _ ⟨_, _, _, rfl, rfl, by rw [c4_0 ⟨by decide, by decide⟩ bb pb (fun z => absurd z (fun z => by have z1 : I 186 5 = 4627 := z.1; omega))]; exact a_up_at, Or.inl ⟨c4_0 ⟨by decide, by decide⟩ bb pb (fun z => absurd z (fun z => by have z1 : I 186 5 = 4627 := z.1; omega)), fR0.mono (fR0.fr R00 (FR.c0 (p := fun _ => False)) (by intro a x y; exact ⟨fun z => z, fun z => z⟩) (fun z => z)) (fun _ _ z => z), Or.inl ⟨(fun z => by have z1 : I 186 5 = 4627 := z.1; omega), rfl, (fR0.fr R00 (FR.c0 (p := fun _ => False)) (by intro a x y; exact ⟨fun z => z, fun z => z⟩) (fun z => z))⟩⟩⟩)
      · skip
        refine aw_aload_n d_Mo_dsaVerify_124 rfl rfl ?_
        refine aw_aload_n d_Mo_dsaVerify_125 rfl rfl ?_
        refine ax_getR (b := 177) d_Mo_dsaVerify_126 fd_Mo_15 (k_175 S) (r_175_1 S) ?_
        refine aw_iconst d_Mo_dsaVerify_129 ⟨by decide, by decide⟩ ?_
        refine ax_aald (b := 183) d_Mo_dsaVerify_130 ⟨by rw [(k_177 S)]; decide, by rw [(k_177 S)]; decide⟩ (by omega) (by rw [n_177 S]; omega) (g_177 S (j := 5) (by decide) (by decide)) ?_
        refine aw_iload_n d_Mo_dsaVerify_131 rfl rfl ?_
        have kz : ∀ j, (a_up u_35 175 4 0) 183 j = I 183 j := fun j => (a_up_ne (Or.inl (by decide))).trans (e0 183 j (by omega))
        have k5 : (a_up u_35 175 4 0) 186 5 = I 186 5 := (a_up_ne (Or.inl (by decide))).trans (e0 186 5 (by omega))
        have eg : rgR (a_up u_35 175 4 0) = rgR I := funext (fun x => by unfold rgR gW; rw [k5]; show (if 0 ≤ x ∧ x < I 186 5 then (a_up u_35 175 4 0) 183 x % 256 else 0) = (if 0 ≤ x ∧ x < I 186 5 then I 183 x % 256 else 0); rw [kz])
        refine ax_Vr (st := []) (as := [vr 183, vi 4544]) (b := 175) d_Mo_dsaVerify_132 cs_Mo_dsaVerify_132 (k_175 S) (c_Mo_hints2 S D1 (fun j => by rw [kz]; exact rg j) (by rw [k5]; omega)) rfl rfl rfl (fun u_132 q_132 => ?_)
        obtain ⟨v9, K9⟩ := u_132
        obtain ⟨F9, p9, q9⟩ := q_132
        dsimp only at F9 p9 q9
        rw [eg] at q9
        have h49 : K9 175 4 = 0 := (p9 4).trans a_up_at
        show AW l G M_Mo_dsaVerify P 135 [(3, vi 4544), (0, vr 175), (1, vi 2), (2, vi 0)] [vi v9] (sD h K9 L)
        refine aw_if_ne (tgt := 140) d_Mo_dsaVerify_135 (by decide) (fun c_135 => ?_) (fun c_135 => ?_)
        · skip
          refine aw_sub (lv' := [(3, vi 4544), (2, vi 0), (0, vr 175)]) (by simp) ?_
          have g9 := q9.resolve_right (fun z => by have z1 := z.1; omega)
          exact vB20 S (fR0.fr R1 F9 (by intro a x y; exact ⟨fun z => z, by omega⟩) (by decide)) (D1.fr F9 (by decide)) rg bb pb rb (by show I 186 5 = 4627; omega) g9.2.1 h49 g9.2.2 hP
        · skip
          refine aw_iconst d_Mo_dsaVerify_138 ⟨by decide, by decide⟩ ?_
          exact aw_zret d_Mo_dsaVerify_139 rfl ⟨by decide, by decide⟩ (hP _ _ ⟨_, _, _, rfl, rfl, by rw [c4_0 ⟨by decide, by decide⟩ bb pb (fun z => absurd z (fun z => by rcases q9 with y | y; exact absurd y.1 (by omega); exact y.2 z.2.1))]; exact h49, Or.inl ⟨c4_0 ⟨by decide, by decide⟩ bb pb (fun z => absurd z (fun z => by rcases q9 with y | y; exact absurd y.1 (by omega); exact y.2 z.2.1)), fR0.mono (fR0.fr R1 F9 (r := qN) (by intro a x y; exact ⟨fun z => z, by omega⟩) (by decide)) (fun _ _ z => z), Or.inl ⟨(fun z => by rcases q9 with y | y; exact absurd y.1 (by omega); exact y.2 z.2.1), rfl, (fR0.fr R1 F9 (r := qN) (by intro a x y; exact ⟨fun z => z, by omega⟩) (by decide))⟩⟩⟩)
  · skip
    refine ax_V (st := [vr 175]) (as := [vi 0]) (b := 175) (v := some (vi 0)) (h' := sD h u_35 L) d_Mo_dsaVerify_41 cs_Mo_dsaVerify_41 (k_175 S) (by have z := c_Mo_context (l := l) (G := G) (h := h) (L := L) (I := u_35) (x := 0) S; rw [if_neg cx_] at z; exact z) rfl rfl rfl ?_
    show AW l G M_Mo_dsaVerify P 44 [(0, vr 175), (1, vi 2), (2, vi 0)] [vi 0, vr 175] (sD h u_35 L)
    refine aw_iconst d_Mo_dsaVerify_44 ⟨by decide, by decide⟩ ?_
    refine ax_V (st := []) (as := [vi 0, vi 2]) (b := 175) (v := some (vi 0)) (h' := sD h (a_up u_35 175 4 2) L) d_Mo_dsaVerify_45 cs_Mo_dsaVerify_45 (k_175 S) (c_good0 S (rfl)) rfl rfl rfl ?_
    show AW l G M_Mo_dsaVerify P 48 [(0, vr 175), (1, vi 2), (2, vi 0)] [vi 0] (sD h (a_up u_35 175 4 2) L)
    refine aw_if_eq (tgt := 84) d_Mo_dsaVerify_48 (by decide) (fun c_48 => ?_) (fun c_48 => False.elim (by omega))
    refine aw_iconst d_Mo_dsaVerify_84 ⟨by decide, by decide⟩ ?_
    exact aw_zret d_Mo_dsaVerify_85 rfl ⟨by decide, by decide⟩ (hP _ _ (rsNo 0 2 (c4_2 ⟨by decide, by decide⟩ (fun z => by rw [e0 186 4 (by omega)] at cx_; omega)) (by decide) a_up_at (fR0.fr R00 (FR.c0 (p := fun _ => False)) (by intro a x y; exact ⟨fun z => z, fun z => z⟩) (fun z => z))))
set_option maxHeartbeats 4000000 in
set_option maxRecDepth 100000 in
theorem vC2N {l : Launch} {G : a_G} {P : a_R → Hp → Prop} {h : Hp} {I L K M : Nat → Int → Int} (S : Shp h) (R0 : fR0 qN I L K M) (D : RD K M 2) (rg : ∀ j, -128 ≤ I 183 j ∧ I 183 j ≤ 127) (b1 : (-1 : Int) ≠ 0 ∨ I 186 4 ≤ 255) (b2 : I 186 1 = 32 + 320 * pK 2) (rb : RB I) (pre : vfPre 2 (rgR I) (I 186 5)) (hZ : ∀ m, 0 ≤ m → m < 7 → eqQ (K (205 + m.toNat)) ((vfZs 2 (rgR I)) m)) (tb : ∀ m, 0 ≤ m → m < 8 → tbl K (rgR I) 4544 75 m) (hP : ∀ r_ h2_, RsR h I L (c4 ((0 ≤ (2 : Int) ∧ (2 : Int) < 3) ∧ ((-1 : Int) = 0 ∨ (-1 : Int) = -1)) ((-1 : Int) ≠ 0 ∨ I 186 4 ≤ 255) (I 186 1 = 32 + 320 * pK (2 : Int)) (vfPre (2 : Int) (rgR I) (I 186 5) → vfOk (2 : Int) (rpR I) (rgR I))) (fun a => a = 184 ∨ a = 186) (fun v I' L' => (¬ vfPre (2 : Int) (rgR I) (I 186 5) ∧ v = 0 ∧ fR0 qN I L I' L') ∨ (vfPre (2 : Int) (rgR I) (I 186 5) ∧ ((∀ j, j ≠ 6 → I' 186 j = I 186 j) ∧ I' 186 6 = pC (2 : Int)) ∧ (HR I' 184 0 (pC (2 : Int)) (vfC (2 : Int) (rpR I) (rgR I) (muW I (-1 : Int))) ∧ rng (I 184) (I' 184)) ∧ (v = 0 ∨ v = 1) ∧ (v = 1 ↔ ∀ j, 0 ≤ j → j < pC (2 : Int) → vfC (2 : Int) (rpR I) (rgR I) (muW I (-1 : Int)) j = rgR I j))) r_ h2_ → P r_ h2_) : AW l G M_Mo_dsaVerify P 265 [(2, vi (-1)), (0, vr 175)] [] (sD h K M) := by
  refine aw_aload_n d_Mo_dsaVerify_265 rfl rfl ?_
  refine aw_bipush d_Mo_dsaVerify_266 ⟨by decide, by decide⟩ (by decide) ?_
  have RS := D.1
  refine ax_Vr (st := []) (as := [vi 12]) (b := 175) d_Mo_dsaVerify_268 cs_Mo_dsaVerify_268 (k_175 S) (c_Mo_begin12 S) rfl rfl rfl (fun u_268 q_268 => ?_)
  obtain ⟨I1, L1⟩ := u_268
  obtain ⟨F1, e1, k1⟩ := q_268
  dsimp only at F1 e1 k1
  show AW l G M_Mo_dsaVerify P 271 [(2, vi (-1)), (0, vr 175)] [] (sD h I1 L1)
  refine aw_aload_n d_Mo_dsaVerify_271 rfl rfl ?_
  refine aw_aload_n d_Mo_dsaVerify_272 rfl rfl ?_
  refine ax_getR (b := 177) d_Mo_dsaVerify_273 fd_Mo_15 (k_175 S) (r_175_1 S) ?_
  refine aw_iconst d_Mo_dsaVerify_276 ⟨by decide, by decide⟩ ?_
  refine ax_aald (b := 179) d_Mo_dsaVerify_277 ⟨by rw [(k_177 S)]; decide, by rw [(k_177 S)]; decide⟩ (by omega) (by rw [n_177 S]; omega) (g_177 S (j := 1) (by decide) (by decide)) ?_
  refine aw_iconst d_Mo_dsaVerify_278 ⟨by decide, by decide⟩ ?_
  refine aw_aload_n d_Mo_dsaVerify_279 rfl rfl ?_
  refine ax_getR (b := 186) d_Mo_dsaVerify_280 fd_Mo_18 (k_175 S) (r_175_2 S) ?_
  refine aw_iconst d_Mo_dsaVerify_283 ⟨by decide, by decide⟩ ?_
  refine ax_ialde (x := 2592) d_Mo_dsaVerify_284 (k_186 S) (by omega) (by rw [n_186 S]; omega) (Eq.trans (F1.1 186 1 (Or.inl (by decide))) ((R0.1 186 1 (by omega) (fun z => z)).trans b2)) ?_
  refine ax_Vr (st := []) (as := [vr 179, vi 0, vi 2592]) (b := 175) d_Mo_dsaVerify_285 cs_Mo_dsaVerify_285 (k_175 S) (c_Mo_put3 S (RS.rf F1) (by omega) (by rw [e1]; exact spStart_lt (by decide) (by decide)) ⟨k_179 S, by decide, by decide⟩ (by rw [n_179 S]; decide)) rfl rfl rfl (fun u_285 q_285 => ?_)
  obtain ⟨I2, L2⟩ := u_285
  obtain ⟨F2, e2, k2⟩ := q_285
  dsimp only at F2 e2 k2
  show AW l G M_Mo_dsaVerify P 288 [(2, vi (-1)), (0, vr 175)] [] (sD h I2 L2)
  have eS : spTurn (spR I2 L2) = blS (fun k => I 179 (0 + k)) (I 186 1) := by rw [e2, e1, show (fun k => I1 179 (0 + k)) = (fun k => I 179 (0 + k)) from funext (fun z => (F1.1 179 _ (Or.inl (by decide))).trans (R0.1 179 _ (by omega) (fun z => z))), show I 186 1 = 2592 from b2]; rfl
  refine aw_aload_n d_Mo_dsaVerify_288 rfl rfl ?_
  refine aw_aload_n d_Mo_dsaVerify_289 rfl rfl ?_
  refine ax_getR (b := 266) d_Mo_dsaVerify_290 fd_Mo_96 (k_175 S) (r_175_42 S) ?_
  refine aw_iconst d_Mo_dsaVerify_293 ⟨by decide, by decide⟩ ?_
  refine aw_bipush d_Mo_dsaVerify_294 ⟨by decide, by decide⟩ (by decide) ?_
  refine ax_Vr (st := []) (as := [vr 266, vi 0, vi 64]) (b := 175) d_Mo_dsaVerify_296 cs_Mo_dsaVerify_296 (k_175 S) (c_Mo_give S (RS.rf (F1.tr F2)) (by omega) (by rw [e2, e1]; exact (spPart_lt (spStart_lt (by decide) (by decide)) _ _).1) ⟨k_266 S, by decide, by decide, by decide⟩ (by rw [n_266 S]; decide)) rfl rfl rfl (fun u_296 q_296 => ?_)
  obtain ⟨I3, L3⟩ := u_296
  obtain ⟨F3, f3, e3, k3⟩ := q_296
  dsimp only at F3 f3 e3 k3
  rw [eS] at F3
  have h3 : HR I3 266 0 64 (spOut (blS (fun k => I 179 (0 + k)) (I 186 1))) := HR.give F3 (by decide)
  have G3 : FR (fun a => a = 266) K M I3 L3 := ((F1.tr F2).fr (p := fun a => a = 266)).tr (FR.give (p := fun a => a = 266) F3 f3 rfl) (fun a x => ⟨x, x⟩)
  have z3 : ∀ a j, (a < 175 ∨ 176 ≤ a ∧ a ≤ 194) → I3 a j = I a j := fun a j x => (G3.1 a j (by omega) (Or.inl (by omega))).trans (R0.1 a j (by omega) (fun z => z))
  have rb3 : RB I3 := ⟨fun s a b => by rw [z3 186 s (by omega)]; exact rb.1 s a b, by rw [G3.1 175 3 (by decide) (Or.inr (by decide)), R0.2.1]; exact rb.2⟩
  have D3 := D.fr G3 (by decide)
  show AW l G M_Mo_dsaVerify P 299 [(2, vi (-1)), (0, vr 175)] [] (sD h I3 L3)
  refine aw_aload_n d_Mo_dsaVerify_299 rfl rfl ?_
  refine aw_aload_n d_Mo_dsaVerify_300 rfl rfl ?_
  refine ax_getR (b := 266) d_Mo_dsaVerify_301 fd_Mo_96 (k_175 S) (r_175_42 S) ?_
  refine aw_iconst d_Mo_dsaVerify_304 ⟨by decide, by decide⟩ ?_
  refine aw_iload_n d_Mo_dsaVerify_305 rfl rfl ?_
  refine ax_Vr (st := []) (as := [vr 266, vi 0, vi (-1)]) (b := 175) d_Mo_dsaVerify_306 cs_Mo_dsaVerify_306 (k_175 S) (c_Mo_digestMessageN (f := 266) (pa := 0) S D3.1 rb3 ⟨k_266 S, by decide, by decide⟩ (by rw [n_266 S]; decide)) rfl rfl rfl (fun u_306 q_306 => ?_)
  obtain ⟨I4, L4⟩ := u_306
  obtain ⟨F4, h4_⟩ := q_306
  dsimp only at F4 h4_
  rw [z3 186 4 (by omega), z3 186 3 (by omega), show (fun k => I3 182 (0 + k)) = (fun k => I 182 (0 + k)) from funext (fun z => z3 182 _ (by omega)), show (fun k => I3 181 (0 + k)) = (fun k => I 181 (0 + k)) from funext (fun z => z3 181 _ (by omega)), dgS_congr (gk' := (spOut (blS (fun k => I 179 (0 + k)) (I 186 1)))) (fun k hk => by rw [h3 k (by omega) (by omega), spOut_m])] at h4_
  have h4_ : HR I4 265 0 64 (muW I (-1 : Int)) := h4_
  have D4 := D3.fr F4 (by decide)
  have G4 : FR (fun a => a = 265 ∨ a = 266) K M I4 L4 := G3.tr F4 (by intro a x; omega)
  have eB : blS (fun k => I4 183 (0 + k)) 64 = vfBs 2 (rgR I) := blS_congr (fun k hk => by rw [G4.1 183 _ (by decide) (Or.inl (by decide)), R0.1 183 _ (by omega) (fun z => z), Int.zero_add, rg_in (show I 186 5 = 4627 from pre.1) (by omega) (by omega)]; omega)
  show AW l G M_Mo_dsaVerify P 309 [(2, vi (-1)), (0, vr 175)] [] (sD h I4 L4)
  refine aw_aload_n d_Mo_dsaVerify_309 rfl rfl ?_
  refine aw_aload_n d_Mo_dsaVerify_310 rfl rfl ?_
  refine aw_aload_n d_Mo_dsaVerify_311 rfl rfl ?_
  refine ax_getR (b := 204) d_Mo_dsaVerify_312 fd_Mo_76 (k_175 S) (r_175_28 S) ?_
  refine aw_bipush d_Mo_dsaVerify_315 ⟨by decide, by decide⟩ (by decide) ?_
  refine ax_aald (b := 251) d_Mo_dsaVerify_317 ⟨by rw [(k_204 S)]; decide, by rw [(k_204 S)]; decide⟩ (by omega) (by rw [n_204 S]; omega) (g_204 S (j := 46) (by decide) (by decide)) ?_
  refine aw_aload_n d_Mo_dsaVerify_318 rfl rfl ?_
  refine ax_getR (b := 177) d_Mo_dsaVerify_319 fd_Mo_15 (k_175 S) (r_175_1 S) ?_
  refine aw_iconst d_Mo_dsaVerify_322 ⟨by decide, by decide⟩ ?_
  refine ax_aald (b := 183) d_Mo_dsaVerify_323 ⟨by rw [(k_177 S)]; decide, by rw [(k_177 S)]; decide⟩ (by omega) (by rw [n_177 S]; omega) (g_177 S (j := 5) (by decide) (by decide)) ?_
  refine aw_iconst d_Mo_dsaVerify_324 ⟨by decide, by decide⟩ ?_
  refine ax_Vr (st := [vr 175]) (as := [vr 251, vr 183, vi 0]) (b := 175) d_Mo_dsaVerify_325 cs_Mo_dsaVerify_325 (k_175 S) (c_Mo_ball S D4.1 ⟨k_183 S, by decide, by decide⟩ (dr2_38 D4) (dr2_34 D4) (by decide) (by rw [n_183 S]; decide)) rfl rfl rfl (fun u_325 q_325 => ?_)
  obtain ⟨I5, L5, v5⟩ := u_325
  obtain ⟨F5, q5, r5⟩ := q_325
  dsimp only at F5 q5 r5
  rw [eB] at q5 r5
  have G5 : FR (fun a => a = 200 ∨ a = 251) I4 L4 I5 L5 := ⟨fun a j x y => F5.1 a j (by rcases y with y | y; exact Or.inl y; exact Or.inr ⟨y.1, y.2.1, y.2.2.1⟩) (fun z => x (Or.inl z)) (fun z => x (Or.inr z)), fun a j x y z u _ => F5.2 a j x y z u⟩
  have GB : FR (fun a => a = 265 ∨ a = 266 ∨ a = 200 ∨ a = 251) K M I5 L5 := G4.tr G5 (by intro a x; omega)
  show AW l G M_Mo_dsaVerify P 328 [(2, vi (-1)), (0, vr 175)] [vi v5, vr 175] (sD h I5 L5)
  rcases q5 with ⟨vz, bn⟩ | ⟨vz, bn⟩
  · subst vz
    refine aw_iconst d_Mo_dsaVerify_328 ⟨by decide, by decide⟩ ?_
    refine ax_V (st := []) (as := [vi 1, vi 4]) (b := 175) (v := some (vi 1)) (h' := sD h (a_up I5 175 4 0) L5) d_Mo_dsaVerify_329 cs_Mo_dsaVerify_329 (k_175 S) (c_good1 S rfl) rfl rfl rfl ?_
    show AW l G M_Mo_dsaVerify P 332 [(2, vi (-1)), (0, vr 175)] [vi 1] (sD h (a_up I5 175 4 0) L5)
    refine aw_if_ne (tgt := 337) d_Mo_dsaVerify_332 (by decide) (fun c_332 => ?_) (fun c_332 => False.elim (by omega))
    refine aw_aload_n d_Mo_dsaVerify_337 rfl rfl ?_
    refine ax_getR (b := 204) d_Mo_dsaVerify_338 fd_Mo_76 (k_175 S) (r_175_28 S) ?_
    refine aw_bipush d_Mo_dsaVerify_341 ⟨by decide, by decide⟩ (by decide) ?_
    refine ax_aald (b := 251) d_Mo_dsaVerify_343 ⟨by rw [(k_204 S)]; decide, by rw [(k_204 S)]; decide⟩ (by omega) (by rw [n_204 S]; omega) (g_204 S (j := 46) (by decide) (by decide)) ?_
    refine ax_S (st := []) (as := [vr 251]) (v := none) (h' := sD h (rowTo (a_up I5 175 4 0) 251 256 (fun x => ((a_up I5 175 4 0) 251 x + 8380417) % 8380417)) L5) d_Mo_dsaVerify_344 cs_Mo_dsaVerify_344 (c_Mo_positive ⟨k_251 S, by decide, n_251 S⟩ (fun x a b => by rw [a_up_ne (Or.inl (by decide)), r5 bn x a b]; have := blX_b (tau := 60) (s := vfBs 2 (rgR I)) x; omega)) rfl rfl rfl ?_
    show AW l G M_Mo_dsaVerify P 347 [(2, vi (-1)), (0, vr 175)] [] (sD h (rowTo (a_up I5 175 4 0) 251 256 (fun x => ((a_up I5 175 4 0) 251 x + 8380417) % 8380417)) L5)
    refine aw_aload_n d_Mo_dsaVerify_347 rfl rfl ?_
    refine aw_aload_n d_Mo_dsaVerify_348 rfl rfl ?_
    refine ax_getR (b := 204) d_Mo_dsaVerify_349 fd_Mo_76 (k_175 S) (r_175_28 S) ?_
    refine aw_bipush d_Mo_dsaVerify_352 ⟨by decide, by decide⟩ (by decide) ?_
    refine ax_aald (b := 251) d_Mo_dsaVerify_354 ⟨by rw [(k_204 S)]; decide, by rw [(k_204 S)]; decide⟩ (by omega) (by rw [n_204 S]; omega) (g_204 S (j := 46) (by decide) (by decide)) ?_
    refine ax_Vr (st := []) (as := [vr 251]) (b := 175) d_Mo_dsaVerify_355 cs_Mo_dsaVerify_355 (k_175 S) (c_Mo_evaluate S ⟨k_251 S, by decide, n_251 S⟩ (by decide) (fun x a b => by rw [rowTo_in a b]; omega) (fun x a b => by rw [rowTo_ne (by decide), a_up_ne (Or.inl (by decide))]; exact (D.fr GB (by decide)).2.2 x a b)) rfl rfl rfl (fun u_355 q_355 => ?_)
    have l5 := q_355
    have GE : FR (fun a => a = 265 ∨ a = 266 ∨ a = 200 ∨ a = 251) K M (rowTo (rowTo (a_up I5 175 4 0) 251 256 (fun x => ((a_up I5 175 4 0) 251 x + 8380417) % 8380417)) 251 256 (eva ((rowTo (a_up I5 175 4 0) 251 256 (fun x => ((a_up I5 175 4 0) 251 x + 8380417) % 8380417)) 251))) u_355 := ((GB.tr (FR.c0 (p := fun a => a = 265 ∨ a = 266 ∨ a = 200 ∨ a = 251)) (fun a x => ⟨x, x⟩)).tr (FR.row (p := fun a => a = 265 ∨ a = 266 ∨ a = 200 ∨ a = 251) (by omega) (fun _ _ _ => rfl)) (fun a x => ⟨x, x⟩)).tr (FR.row (p := fun a => a = 265 ∨ a = 266 ∨ a = 200 ∨ a = 251) (by omega) l5) (fun a x => ⟨x, x⟩)
    have bE : eqQ ((rowTo (rowTo (a_up I5 175 4 0) 251 256 (fun x => ((a_up I5 175 4 0) 251 x + 8380417) % 8380417)) 251 256 (eva ((rowTo (a_up I5 175 4 0) 251 256 (fun x => ((a_up I5 175 4 0) 251 x + 8380417) % 8380417)) 251))) 251) (vfB 2 (rgR I)) := fun x a b => by rw [rowTo_in a b]; show eva _ x = fwd rt (fun j => blX 60 (vfBs 2 (rgR I)) j % 8380417) x; rw [fwd_eva a b]; exact eva_cq (fun y hy => cq.e (by rw [rowTo_in (by omega) (by omega), a_up_ne (Or.inl (by decide)), r5 bn y (by omega) (by omega), Int.add_emod_right]))
    have mE : HR (rowTo (rowTo (a_up I5 175 4 0) 251 256 (fun x => ((a_up I5 175 4 0) 251 x + 8380417) % 8380417)) 251 256 (eva ((rowTo (a_up I5 175 4 0) 251 256 (fun x => ((a_up I5 175 4 0) 251 x + 8380417) % 8380417)) 251))) 265 0 64 (muW I (-1 : Int)) := fun z x y => by rw [rowTo_ne (by decide), rowTo_ne (by decide), a_up_ne (Or.inl (by decide)), G5.1 265 _ (by decide) (Or.inl (by decide))]; exact h4_ z x y
    have cE : (rowTo (rowTo (a_up I5 175 4 0) 251 256 (fun x => ((a_up I5 175 4 0) 251 x + 8380417) % 8380417)) 251 256 (eva ((rowTo (a_up I5 175 4 0) 251 256 (fun x => ((a_up I5 175 4 0) 251 x + 8380417) % 8380417)) 251))) 175 4 = 0 := by rw [rowTo_ne (by decide), rowTo_ne (by decide), a_up_at]
    show AW l G M_Mo_dsaVerify P 358 [(2, vi (-1)), (0, vr 175)] [] (sD h (rowTo (rowTo (a_up I5 175 4 0) 251 256 (fun x => ((a_up I5 175 4 0) 251 x + 8380417) % 8380417)) 251 256 (eva ((rowTo (a_up I5 175 4 0) 251 256 (fun x => ((a_up I5 175 4 0) 251 x + 8380417) % 8380417)) 251))) u_355)
    refine aw_iconst d_Mo_dsaVerify_358 ⟨by decide, by decide⟩ ?_
    refine aw_istore (lv' := [(4, vi 0), (2, vi (-1)), (0, vr 175)]) d_Mo_dsaVerify_359 (by decide) rfl ?_
    have lp_361 : ∀ (n_ : Nat) (i : Int) (K6 : Nat → Int → Int) (M6 : Nat → Int → Int), (0 ≤ i ∧ i ≤ 7) → (FR (fun a => a = 265 ∨ a = 266 ∨ a = 200 ∨ a = 251 ∨ 205 ≤ a ∧ a < 212) K M K6 M6) → (∀ a j, (a < 205 ∨ 212 ≤ a) → K6 a j = (rowTo (rowTo (a_up I5 175 4 0) 251 256 (fun x => ((a_up I5 175 4 0) 251 x + 8380417) % 8380417)) 251 256 (eva ((rowTo (a_up I5 175 4 0) 251 256 (fun x => ((a_up I5 175 4 0) 251 x + 8380417) % 8380417)) 251))) a j) → (∀ m, 0 ≤ m → m < i → eqQ (K6 (205 + m.toNat)) (fwd rt ((vfZ 2 (rgR I)) m))) → (∀ m, 0 ≤ m → i ≤ m → m < 7 → eqQ (K6 (205 + m.toNat)) ((vfZs 2 (rgR I)) m)) → ((7 - i).toNat) = n_ → AW l G M_Mo_dsaVerify P 361 [(4, vi i), (0, vr 175)] [] (sD h K6 M6) := by
      intro n_
      induction n_ using Nat.strongRecOn with
      | _ n_ ih_361 =>
      intro i K6 M6 hi G6 f6 dn td hm_361
      refine aw_iload d_Mo_dsaVerify_361 rfl ?_
      refine aw_aload_n d_Mo_dsaVerify_363 rfl rfl ?_
      refine ax_getIe (x := 7) d_Mo_dsaVerify_364 fd_Mo_226 (k_175 S) (Eq.trans (G6.1 175 32 (by omega) (Or.inr (by decide))) (dr2_32 D)) ?_
      refine aw_icmp_ge (tgt := 397) d_Mo_dsaVerify_367 (by decide) (fun c_367 => ?_) (fun c_367 => ?_)
      · skip
        refine aw_aload_n d_Mo_dsaVerify_397 rfl rfl ?_
        refine aw_iconst d_Mo_dsaVerify_398 ⟨by decide, by decide⟩ ?_
        refine ax_putI d_Mo_dsaVerify_399 fd_Mo_216 (k_175 S) (by decide) rfl ?_
        refine aw_sub (lv' := [(0, vr 175)]) (by simp) ?_
        exact vD2N S (fR0.fr (fR0.fr R0 G6 (r := qN) (by intro a x y; exact ⟨fun z => z, by omega⟩) (by omega)) (FR.b0 (p := fun _ => False)) (by intro a x y; exact ⟨fun z => z, fun z => z⟩) (fun z => z)) ((D.fr G6 (by omega)).fr (FR.b0 (p := fun _ => False)) ⟨fun z => z, fun z => z, fun z => z⟩) rg b1 b2 pre bn (fun x a b => by rw [a_up_ne (Or.inl (by decide)), f6 251 x (by omega)]; exact bE x a b) (fun m a b x u v => by rw [a_up_ne (Or.inl (by omega))]; exact dn m a (by omega) x u v) (a_up_at.trans (by decide)) (fun z x y => by rw [a_up_ne (Or.inl (by decide)), f6 265 _ (by omega)]; exact mE z x y) (by rw [a_up_ne (Or.inr (by decide)), f6 175 4 (by omega)]; exact cE) (fun m a b c x y => by rw [a_up_ne (Or.inl (by omega)), G6.1 _ _ (by omega) (Or.inl (by omega))]; exact tb m a b c x y) hP
      · skip
        refine aw_aload_n d_Mo_dsaVerify_370 rfl rfl ?_
        refine ax_getR (b := 204) d_Mo_dsaVerify_371 fd_Mo_76 (k_175 S) (r_175_28 S) ?_
        refine aw_iload d_Mo_dsaVerify_374 rfl ?_
        refine ax_aald (b := 205 + i.toNat) d_Mo_dsaVerify_376 ⟨by rw [(k_204 S)]; decide, by rw [(k_204 S)]; decide⟩ (by omega) (by rw [n_204 S]; omega) (g_204 S (by omega) (by omega)) ?_
        refine ax_S (st := []) (as := [vr (205 + i.toNat)]) (v := none) (h' := sD h (rowTo K6 (205 + i.toNat) 256 (fun x => (K6 (205 + i.toNat) x + 8380417) % 8380417)) M6) d_Mo_dsaVerify_377 cs_Mo_dsaVerify_377 (c_Mo_positive ⟨kr_204 S (by omega), by omega, nr_204 S (by omega)⟩ (fun x a b => by rw [td i hi.1 (Int.le_refl _) (by omega) x a b]; have := (show -524288 < (vfZs 2 (rgR I)) i x ∧ (vfZs 2 (rgR I)) i x ≤ 524288 from ⟨by have := (vfZs_b (s := 2) (g := (rgR I)) (m := i) (j := x)).1; rw [show pG1 2 - 2 ^ (pB 2).toNat = -524288 from by decide] at this; exact this, (vfZs_b (s := 2) (g := (rgR I)) (m := i) (j := x)).2⟩); omega)) rfl rfl rfl ?_
        show AW l G M_Mo_dsaVerify P 380 [(4, vi i), (0, vr 175)] [] (sD h (rowTo K6 (205 + i.toNat) 256 (fun x => (K6 (205 + i.toNat) x + 8380417) % 8380417)) M6)
        refine aw_aload_n d_Mo_dsaVerify_380 rfl rfl ?_
        refine aw_aload_n d_Mo_dsaVerify_381 rfl rfl ?_
        refine ax_getR (b := 204) d_Mo_dsaVerify_382 fd_Mo_76 (k_175 S) (r_175_28 S) ?_
        refine aw_iload d_Mo_dsaVerify_385 rfl ?_
        refine ax_aald (b := 205 + i.toNat) d_Mo_dsaVerify_387 ⟨by rw [(k_204 S)]; decide, by rw [(k_204 S)]; decide⟩ (by omega) (by rw [n_204 S]; omega) (g_204 S (by omega) (by omega)) ?_
        refine ax_Vr (st := []) (as := [vr (205 + i.toNat)]) (b := 175) d_Mo_dsaVerify_388 cs_Mo_dsaVerify_388 (k_175 S) (c_Mo_evaluate S ⟨kr_204 S (by omega), by omega, nr_204 S (by omega)⟩ (by omega) (fun x a b => by rw [rowTo_in a b]; omega) (fun x a b => by rw [rowTo_ne (by omega)]; exact (D.fr G6 (by omega)).2.2 x a b)) rfl rfl rfl (fun u_388 q_388 => ?_)
        have l6 := q_388
        show AW l G M_Mo_dsaVerify P 391 [(4, vi i), (0, vr 175)] [] (sD h (rowTo (rowTo K6 (205 + i.toNat) 256 (fun x => (K6 (205 + i.toNat) x + 8380417) % 8380417)) (205 + i.toNat) 256 (eva ((rowTo K6 (205 + i.toNat) 256 (fun x => (K6 (205 + i.toNat) x + 8380417) % 8380417)) (205 + i.toNat)))) u_388)
        refine ax_iinc (lv' := [(4, vi (i + 1)), (0, vr 175)]) d_Mo_dsaVerify_391 rfl (by decide) ⟨(by omega), (by omega)⟩ rfl ?_
        refine aw_goto (tgt := 361) d_Mo_dsaVerify_394 (by decide) ?_
        exact ih_361 _ (by omega) (i + 1) (rowTo (rowTo K6 (205 + i.toNat) 256 (fun x => (K6 (205 + i.toNat) x + 8380417) % 8380417)) (205 + i.toNat) 256 (eva ((rowTo K6 (205 + i.toNat) 256 (fun x => (K6 (205 + i.toNat) x + 8380417) % 8380417)) (205 + i.toNat)))) u_388 (by omega) ((G6.tr (FR.row (p := fun a => a = 265 ∨ a = 266 ∨ a = 200 ∨ a = 251 ∨ 205 ≤ a ∧ a < 212) (by omega) (fun _ _ _ => rfl)) (fun a x => ⟨x, x⟩)).tr (FR.row (p := fun a => a = 265 ∨ a = 266 ∨ a = 200 ∨ a = 251 ∨ 205 ≤ a ∧ a < 212) (by omega) l6) (fun a x => ⟨x, x⟩)) (fun a j x => by rw [rowTo_ne (by omega), rowTo_ne (by omega)]; exact f6 a j x) (fun m a b x u v => by by_cases z : m = i; exact (by rw [z, rowTo_in u v, fwd_eva u v]; exact eva_cq (fun t ht => cq.e (by rw [rowTo_in (by omega) (by omega), td i hi.1 (Int.le_refl _) (by omega) t (by omega) (by omega), vfZ_Zs, Int.add_emod_right]))); exact (by rw [rowTo_ne (by omega), rowTo_ne (by omega)]; exact dn m a (by omega) x u v)) (fun m a b c x u v => by rw [rowTo_ne (by omega), rowTo_ne (by omega)]; exact td m a (by omega) c x u v) rfl
    skip
    refine aw_sub (lv' := [(4, vi 0), (0, vr 175)]) (by simp) ?_
    exact lp_361 _ 0 (rowTo (rowTo (a_up I5 175 4 0) 251 256 (fun x => ((a_up I5 175 4 0) 251 x + 8380417) % 8380417)) 251 256 (eva ((rowTo (a_up I5 175 4 0) 251 256 (fun x => ((a_up I5 175 4 0) 251 x + 8380417) % 8380417)) 251))) u_355 (by omega) (GE.mono (by intro a x; omega)) (fun _ _ _ => rfl) (fun m a b => by omega) (fun m a b c x u v => by rw [GE.1 _ _ (by omega) (Or.inl (by omega))]; exact hZ m a c x u v) rfl
  · subst vz
    refine aw_iconst d_Mo_dsaVerify_328 ⟨by decide, by decide⟩ ?_
    refine ax_V (st := []) (as := [vi 0, vi 4]) (b := 175) (v := some (vi 0)) (h' := sD h (a_up I5 175 4 4) L5) d_Mo_dsaVerify_329 cs_Mo_dsaVerify_329 (k_175 S) (c_good0 S rfl) rfl rfl rfl ?_
    show AW l G M_Mo_dsaVerify P 332 [(2, vi (-1)), (0, vr 175)] [vi 0] (sD h (a_up I5 175 4 4) L5)
    refine aw_if_ne (tgt := 337) d_Mo_dsaVerify_332 (by decide) (fun c_332 => False.elim (by omega)) (fun c_332 => ?_)
    refine aw_iconst d_Mo_dsaVerify_335 ⟨by decide, by decide⟩ ?_
    exact aw_zret d_Mo_dsaVerify_336 rfl ⟨by decide, by decide⟩ (hP _ _ (rsNo 0 4 (c4_4 ⟨by decide, by decide⟩ b1 b2 (fun z => (z pre).1 bn)) (by decide) a_up_at (fR0.fr (fR0.fr R0 GB (r := qN) (by intro a x y; exact ⟨fun z => z, by omega⟩) (by decide)) (FR.c0 (p := fun _ => False)) (by intro a x y; exact ⟨fun z => z, fun z => z⟩) (fun z => z))))
set_option maxHeartbeats 4000000 in
set_option maxRecDepth 100000 in
theorem vB2N {l : Launch} {G : a_G} {P : a_R → Hp → Prop} {h : Hp} {I L K M : Nat → Int → Int} (S : Shp h) (R0 : fR0 qN I L K M) (D : RD K M 2) (rg : ∀ j, -128 ≤ I 183 j ∧ I 183 j ≤ 127) (b1 : (-1 : Int) ≠ 0 ∨ I 186 4 ≤ 255) (b2 : I 186 1 = 32 + 320 * pK 2) (rb : RB I) (p1 : I 186 5 = sPkt 2) (p2 : hSt (rgR I) (sO3 2) (pW 2) (pK 2)) (h4 : K 175 4 = 0) (tb : ∀ m, 0 ≤ m → m < 8 → tbl K (rgR I) 4544 75 m) (hP : ∀ r_ h2_, RsR h I L (c4 ((0 ≤ (2 : Int) ∧ (2 : Int) < 3) ∧ ((-1 : Int) = 0 ∨ (-1 : Int) = -1)) ((-1 : Int) ≠ 0 ∨ I 186 4 ≤ 255) (I 186 1 = 32 + 320 * pK (2 : Int)) (vfPre (2 : Int) (rgR I) (I 186 5) → vfOk (2 : Int) (rpR I) (rgR I))) (fun a => a = 184 ∨ a = 186) (fun v I' L' => (¬ vfPre (2 : Int) (rgR I) (I 186 5) ∧ v = 0 ∧ fR0 qN I L I' L') ∨ (vfPre (2 : Int) (rgR I) (I 186 5) ∧ ((∀ j, j ≠ 6 → I' 186 j = I 186 j) ∧ I' 186 6 = pC (2 : Int)) ∧ (HR I' 184 0 (pC (2 : Int)) (vfC (2 : Int) (rpR I) (rgR I) (muW I (-1 : Int))) ∧ rng (I 184) (I' 184)) ∧ (v = 0 ∨ v = 1) ∧ (v = 1 ↔ ∀ j, 0 ≤ j → j < pC (2 : Int) → vfC (2 : Int) (rpR I) (rgR I) (muW I (-1 : Int)) j = rgR I j))) r_ h2_ → P r_ h2_) : AW l G M_Mo_dsaVerify P 140 [(3, vi 4544), (2, vi (-1)), (0, vr 175)] [] (sD h K M) := by
  refine aw_aload_n d_Mo_dsaVerify_140 rfl rfl ?_
  refine aw_iconst d_Mo_dsaVerify_141 ⟨by decide, by decide⟩ ?_
  refine ax_putI d_Mo_dsaVerify_142 fd_Mo_216 (k_175 S) (by decide) rfl ?_
  refine aw_iconst d_Mo_dsaVerify_145 ⟨by decide, by decide⟩ ?_
  refine aw_istore (lv' := [(4, vi 0), (3, vi 4544), (2, vi (-1)), (0, vr 175)]) d_Mo_dsaVerify_146 (by decide) rfl ?_
  have lp_148 : ∀ (n_ : Nat) (i : Int) (K2 : Nat → Int → Int), (0 ≤ i ∧ i ≤ 7) → (FR (fun a => 205 ≤ a ∧ a < 212) K M K2 M) → (K2 175 23 = 8 * (640 * i)) → (∀ m, 0 ≤ m → m < i → eqQ (K2 (205 + m.toNat)) ((vfZs 2 (rgR I)) m) ∧ wiN 524168 ((vfZ 2 (rgR I)) m)) → (K2 175 4 = 0) → ((7 - i).toNat) = n_ → AW l G M_Mo_dsaVerify P 148 [(4, vi i), (3, vi 4544), (2, vi (-1)), (0, vr 175)] [] (sD h K2 M) := by
    intro n_
    induction n_ using Nat.strongRecOn with
    | _ n_ ih_148 =>
    intro i K2 hi F2 bb dn h42 hm_148
    refine aw_iload d_Mo_dsaVerify_148 rfl ?_
    refine aw_aload_n d_Mo_dsaVerify_150 rfl rfl ?_
    refine ax_getIe (x := 7) d_Mo_dsaVerify_151 fd_Mo_226 (k_175 S) (Eq.trans (F2.1 175 32 (by omega) (Or.inr (by decide))) (dr2_32 D)) ?_
    refine aw_icmp_ge (tgt := 265) d_Mo_dsaVerify_154 (by decide) (fun c_154 => ?_) (fun c_154 => ?_)
    · skip
      refine aw_sub (lv' := [(2, vi (-1)), (0, vr 175)]) (by simp) ?_
      exact vC2N S (fR0.fr R0 F2 (by intro a x y; exact ⟨fun z => z, by omega⟩) (by omega)) (D.fr F2 (by omega)) rg b1 b2 rb ⟨p1, p2, fun m a b => (dn m a (by have b2 : m < 7 := b; omega)).2⟩ (fun m a b => (dn m a (by omega)).1) (fun m a b c x y => by rw [F2.1 _ _ (by omega) (Or.inl (by omega))]; exact tb m a b c x y) hP
    · skip
      refine aw_aload_n d_Mo_dsaVerify_157 rfl rfl ?_
      refine aw_aload_n d_Mo_dsaVerify_158 rfl rfl ?_
      refine ax_getR (b := 177) d_Mo_dsaVerify_159 fd_Mo_15 (k_175 S) (r_175_1 S) ?_
      refine aw_iconst d_Mo_dsaVerify_162 ⟨by decide, by decide⟩ ?_
      refine ax_aald (b := 183) d_Mo_dsaVerify_163 ⟨by rw [(k_177 S)]; decide, by rw [(k_177 S)]; decide⟩ (by omega) (by rw [n_177 S]; omega) (g_177 S (j := 5) (by decide) (by decide)) ?_
      refine aw_aload_n d_Mo_dsaVerify_164 rfl rfl ?_
      refine ax_getIe (x := 64) d_Mo_dsaVerify_165 fd_Mo_248 (k_175 S) (Eq.trans (F2.1 175 38 (by omega) (Or.inr (by decide))) (dr2_38 D)) ?_
      refine aw_aload_n d_Mo_dsaVerify_168 rfl rfl ?_
      refine ax_getR (b := 204) d_Mo_dsaVerify_169 fd_Mo_76 (k_175 S) (r_175_28 S) ?_
      refine aw_iload d_Mo_dsaVerify_172 rfl ?_
      refine ax_aald (b := 205 + i.toNat) d_Mo_dsaVerify_174 ⟨by rw [(k_204 S)]; decide, by rw [(k_204 S)]; decide⟩ (by omega) (by rw [n_204 S]; omega) (g_204 S (by omega) (by omega)) ?_
      refine aw_aload_n d_Mo_dsaVerify_175 rfl rfl ?_
      refine ax_getIe (x := 524288) d_Mo_dsaVerify_176 fd_Mo_237 (k_175 S) (Eq.trans (F2.1 175 35 (by omega) (Or.inr (by decide))) (dr2_35 D)) ?_
      refine aw_aload_n d_Mo_dsaVerify_179 rfl rfl ?_
      refine ax_getIe (x := 20) d_Mo_dsaVerify_180 fd_Mo_251 (k_175 S) (Eq.trans (F2.1 175 39 (by omega) (Or.inr (by decide))) (dr2_39 D)) ?_
      refine ax_Vr (st := []) (as := [vr 183, vi 64, vr (205 + i.toNat), vi 524288, vi 20]) (b := 175) d_Mo_dsaVerify_183 cs_Mo_dsaVerify_183 (k_175 S) (c_Mo_unpack (pa := 64) (c := 640 * i) (d := 20) (b := 524288) S ⟨k_183 S, by decide, by decide⟩ ⟨kr_204 S (by omega), by omega, nr_204 S (by omega)⟩ (by omega) (by decide) (by omega) (by decide) (by rw [n_183 S]; omega)) rfl rfl rfl (fun u_183 q_183 => ?_)
      obtain ⟨q1, q2, q3⟩ := q_183
      have F3 : FR (fun a => 205 ≤ a ∧ a < 212) K M u_183 M := F2.tr (FR.unp (p := fun a => 205 ≤ a ∧ a < 212) q1 (by omega)) (fun a x => ⟨x, x⟩)
      have z3 : eqQ (u_183 (205 + i.toNat)) ((vfZs 2 (rgR I)) i) := fun x u v => by rw [q3 x u v, gR_congr (g := fun j => K2 183 (64 + 640 * i + j) % 256) (g' := fun j => rgR I (64 + 640 * i + j)) (fun y y0 y1 => by rw [F2.1 183 _ (by omega) (Or.inl (by decide)), R0.1 183 _ (by omega) (fun z => z), rg_in (show I 186 5 = 4627 from p1) (by omega) (by omega)])]; rfl
      show AW l G M_Mo_dsaVerify P 186 [(4, vi i), (3, vi 4544), (2, vi (-1)), (0, vr 175)] [] (sD h u_183 M)
      refine aw_iconst d_Mo_dsaVerify_186 ⟨by decide, by decide⟩ ?_
      refine aw_istore (lv' := [(5, vi 0), (4, vi i), (3, vi 4544), (2, vi (-1)), (0, vr 175)]) d_Mo_dsaVerify_187 (by decide) rfl ?_
      have lp_189 : ∀ (n_ : Nat) (c : Int), (0 ≤ c ∧ c ≤ 256) → (∀ x, 0 ≤ x → x < c → -524168 < (vfZs 2 (rgR I)) i x ∧ (vfZs 2 (rgR I)) i x < 524168) → ((256 - c).toNat) = n_ → AW l G M_Mo_dsaVerify P 189 [(5, vi c), (4, vi i), (3, vi 4544), (2, vi (-1)), (0, vr 175)] [] (sD h u_183 M) := by
        intro n_
        induction n_ using Nat.strongRecOn with
        | _ n_ ih_189 =>
        intro c hc wk hm_189
        have zc : c < 256 → u_183 (205 + i.toNat) c = (vfZs 2 (rgR I)) i c := fun v => z3 c hc.1 v
        refine aw_iload d_Mo_dsaVerify_189 rfl ?_
        refine aw_sipush d_Mo_dsaVerify_191 ⟨by decide, by decide⟩ (by decide) ?_
        refine aw_icmp_ge (tgt := 259) d_Mo_dsaVerify_194 (by decide) (fun c_194 => ?_) (fun c_194 => ?_)
        · skip
          refine ax_iinc (lv' := [(4, vi (i + 1)), (5, vi c), (3, vi 4544), (2, vi (-1)), (0, vr 175)]) d_Mo_dsaVerify_259 rfl (by decide) ⟨(by omega), (by omega)⟩ rfl ?_
          refine aw_goto (tgt := 148) d_Mo_dsaVerify_262 (by decide) ?_
          refine aw_sub (lv' := [(4, vi (i + 1)), (3, vi 4544), (2, vi (-1)), (0, vr 175)]) (by simp) ?_
          exact ih_148 _ (by omega) (i + 1) u_183 (by omega) (F3) (by omega) (fun m a b => by by_cases z : m = i; exact (by rw [z]; exact ⟨z3, fun x u v => by have w_ := (zl0 (t := 524168) (by decide) (show -524288 < (vfZs 2 (rgR I)) i x ∧ (vfZs 2 (rgR I)) i x ≤ 524288 from ⟨by have := (vfZs_b (s := 2) (g := (rgR I)) (m := i) (j := x)).1; rw [show pG1 2 - 2 ^ (pB 2).toNat = -524288 from by decide] at this; exact this, (vfZs_b (s := 2) (g := (rgR I)) (m := i) (j := x)).2⟩)); rw [vfZ_Zs]; exact fun q_ => by have w2 := w_.2 q_; have w3 := wk x u (by omega); omega⟩); exact ⟨fun x u v => by rw [q1 _ _ (by omega) (Or.inl (by omega))]; exact (dn m a (by omega)).1 x u v, (dn m a (by omega)).2⟩) ((q1 175 4 (by omega) (Or.inr (by decide))).trans h42) rfl
        · skip
          have zb := (show -524288 < (vfZs 2 (rgR I)) i c ∧ (vfZs 2 (rgR I)) i c ≤ 524288 from ⟨by have := (vfZs_b (s := 2) (g := (rgR I)) (m := i) (j := c)).1; rw [show pG1 2 - 2 ^ (pB 2).toNat = -524288 from by decide] at this; exact this, (vfZs_b (s := 2) (g := (rgR I)) (m := i) (j := c)).2⟩)
          have wz := zl0 (t := 524168) (by decide) zb
          refine aw_aload_n d_Mo_dsaVerify_197 rfl rfl ?_
          refine ax_getR (b := 204) d_Mo_dsaVerify_198 fd_Mo_76 (k_175 S) (r_175_28 S) ?_
          refine aw_iload d_Mo_dsaVerify_201 rfl ?_
          refine ax_aald (b := 205 + i.toNat) d_Mo_dsaVerify_203 ⟨by rw [(k_204 S)]; decide, by rw [(k_204 S)]; decide⟩ (by omega) (by rw [n_204 S]; omega) (g_204 S (by omega) (by omega)) ?_
          refine aw_iload d_Mo_dsaVerify_204 rfl ?_
          refine ax_ialde (x := (vfZs 2 (rgR I)) i c) d_Mo_dsaVerify_206 (kr_204 S (by omega)) (by omega) (by rw [nr_204 S (by omega)]; omega) (zc (by omega)) ?_
          refine aw_aload_n d_Mo_dsaVerify_207 rfl rfl ?_
          refine ax_getIe (x := 524288) d_Mo_dsaVerify_208 fd_Mo_237 (k_175 S) (Eq.trans (F3.1 175 35 (by omega) (Or.inr (by decide))) (dr2_35 D)) ?_
          refine aw_aload_n d_Mo_dsaVerify_211 rfl rfl ?_
          refine ax_getIe (x := 60) d_Mo_dsaVerify_212 fd_Mo_232 (k_175 S) (Eq.trans (F3.1 175 34 (by omega) (Or.inr (by decide))) (dr2_34 D)) ?_
          refine aw_aload_n d_Mo_dsaVerify_215 rfl rfl ?_
          refine ax_getIe (x := 2) d_Mo_dsaVerify_216 fd_Mo_229 (k_175 S) (Eq.trans (F3.1 175 33 (by omega) (Or.inr (by decide))) (dr2_33 D)) ?_
          refine ax_imul d_Mo_dsaVerify_219 ⟨(by omega), (by omega)⟩ ?_
          refine ax_ti (x := 120) (by decide) ?_
          refine ax_isub d_Mo_dsaVerify_220 ⟨(by omega), (by omega)⟩ ?_
          refine ax_ti (x := 524168) (by decide) ?_
          refine aw_icmp_ge (tgt := 251) d_Mo_dsaVerify_221 (by decide) (fun c_221 => ?_) (fun c_221 => ?_)
          · skip
            refine aw_iconst d_Mo_dsaVerify_251 ⟨by decide, by decide⟩ ?_
            exact aw_zret d_Mo_dsaVerify_252 rfl ⟨by decide, by decide⟩ (hP _ _ ⟨_, _, _, rfl, rfl, by rw [c4_0 ⟨by decide, by decide⟩ b1 b2 (fun z => absurd z (fun z => by have y := z.2.2 i hi.1 (by show i < 7; omega) c hc.1 (by omega); rw [vfZ_Zs] at y; exact y (wz.1 (by omega))))]; exact (q1 175 4 (by omega) (Or.inr (by decide))).trans h42, Or.inl ⟨c4_0 ⟨by decide, by decide⟩ b1 b2 (fun z => absurd z (fun z => by have y := z.2.2 i hi.1 (by show i < 7; omega) c hc.1 (by omega); rw [vfZ_Zs] at y; exact y (wz.1 (by omega)))), (fR0.fr R0 F3 (r := qN) (by intro a x y; exact ⟨fun z => z, by omega⟩) (by omega)).mono (fun _ _ z => z), Or.inl ⟨(fun z => by have y := z.2.2 i hi.1 (by show i < 7; omega) c hc.1 (by omega); rw [vfZ_Zs] at y; exact y (wz.1 (by omega))), rfl, fR0.fr R0 F3 (by intro a x y; exact ⟨fun z => z, by omega⟩) (by omega)⟩⟩⟩)
          · skip
            refine aw_aload_n d_Mo_dsaVerify_224 rfl rfl ?_
            refine ax_getR (b := 204) d_Mo_dsaVerify_225 fd_Mo_76 (k_175 S) (r_175_28 S) ?_
            refine aw_iload d_Mo_dsaVerify_228 rfl ?_
            refine ax_aald (b := 205 + i.toNat) d_Mo_dsaVerify_230 ⟨by rw [(k_204 S)]; decide, by rw [(k_204 S)]; decide⟩ (by omega) (by rw [n_204 S]; omega) (g_204 S (by omega) (by omega)) ?_
            refine aw_iload d_Mo_dsaVerify_231 rfl ?_
            refine ax_ialde (x := (vfZs 2 (rgR I)) i c) d_Mo_dsaVerify_233 (kr_204 S (by omega)) (by omega) (by rw [nr_204 S (by omega)]; omega) (zc (by omega)) ?_
            refine aw_aload_n d_Mo_dsaVerify_234 rfl rfl ?_
            refine ax_getIe (x := 60) d_Mo_dsaVerify_235 fd_Mo_232 (k_175 S) (Eq.trans (F3.1 175 34 (by omega) (Or.inr (by decide))) (dr2_34 D)) ?_
            refine aw_aload_n d_Mo_dsaVerify_238 rfl rfl ?_
            refine ax_getIe (x := 2) d_Mo_dsaVerify_239 fd_Mo_229 (k_175 S) (Eq.trans (F3.1 175 33 (by omega) (Or.inr (by decide))) (dr2_33 D)) ?_
            refine ax_imul d_Mo_dsaVerify_242 ⟨(by omega), (by omega)⟩ ?_
            refine ax_ti (x := 120) (by decide) ?_
            refine aw_aload_n d_Mo_dsaVerify_243 rfl rfl ?_
            refine ax_getIe (x := 524288) d_Mo_dsaVerify_244 fd_Mo_237 (k_175 S) (Eq.trans (F3.1 175 35 (by omega) (Or.inr (by decide))) (dr2_35 D)) ?_
            refine ax_isub d_Mo_dsaVerify_247 ⟨(by omega), (by omega)⟩ ?_
            refine ax_ti (x := -524168) (by decide) ?_
            refine aw_icmp_gt (tgt := 253) d_Mo_dsaVerify_248 (by decide) (fun c_248 => ?_) (fun c_248 => ?_)
            · skip
              refine ax_iinc (lv' := [(5, vi (c + 1)), (4, vi i), (3, vi 4544), (2, vi (-1)), (0, vr 175)]) d_Mo_dsaVerify_253 rfl (by decide) ⟨(by omega), (by omega)⟩ rfl ?_
              refine aw_goto (tgt := 189) d_Mo_dsaVerify_256 (by decide) ?_
              exact ih_189 _ (by omega) (c + 1) (by omega) (fun x a b => by by_cases z : x = c; exact (by rw [z]; omega); exact wk x a (by omega)) rfl
            · skip
              refine aw_iconst d_Mo_dsaVerify_251 ⟨by decide, by decide⟩ ?_
              exact aw_zret d_Mo_dsaVerify_252 rfl ⟨by decide, by decide⟩ (hP _ _ ⟨_, _, _, rfl, rfl, by rw [c4_0 ⟨by decide, by decide⟩ b1 b2 (fun z => absurd z (fun z => by have y := z.2.2 i hi.1 (by show i < 7; omega) c hc.1 (by omega); rw [vfZ_Zs] at y; exact y (wz.1 (by omega))))]; exact (q1 175 4 (by omega) (Or.inr (by decide))).trans h42, Or.inl ⟨c4_0 ⟨by decide, by decide⟩ b1 b2 (fun z => absurd z (fun z => by have y := z.2.2 i hi.1 (by show i < 7; omega) c hc.1 (by omega); rw [vfZ_Zs] at y; exact y (wz.1 (by omega)))), (fR0.fr R0 F3 (r := qN) (by intro a x y; exact ⟨fun z => z, by omega⟩) (by omega)).mono (fun _ _ z => z), Or.inl ⟨(fun z => by have y := z.2.2 i hi.1 (by show i < 7; omega) c hc.1 (by omega); rw [vfZ_Zs] at y; exact y (wz.1 (by omega))), rfl, fR0.fr R0 F3 (by intro a x y; exact ⟨fun z => z, by omega⟩) (by omega)⟩⟩⟩)
      exact lp_189 _ 0 (by omega) (fun x a b => by omega) rfl
  skip
  exact lp_148 _ 0 (a_up K 175 23 0) (by omega) (FR.b0) (a_up_at.trans (by decide)) (fun m a b => by omega) (by rw [a_up_ne (Or.inr (by decide))]; exact h4) rfl
set_option maxHeartbeats 4000000 in
set_option maxRecDepth 100000 in
theorem c_Mo_dsaVerify2N {l : Launch} {G : a_G} {h : Hp} {I L : Nat → Int → Int} (S : Shp h) (RS : RSt I L) (rb : RB I) (rg : ∀ j, -128 ≤ I 183 j ∧ I 183 j ≤ 127) : AW l G M_Mo_dsaVerify (RsR h I L (c4 ((0 ≤ (2 : Int) ∧ (2 : Int) < 3) ∧ ((-1 : Int) = 0 ∨ (-1 : Int) = -1)) ((-1 : Int) ≠ 0 ∨ I 186 4 ≤ 255) (I 186 1 = 32 + 320 * pK (2 : Int)) (vfPre (2 : Int) (rgR I) (I 186 5) → vfOk (2 : Int) (rpR I) (rgR I))) (fun a => a = 184 ∨ a = 186) (fun v I' L' => (¬ vfPre (2 : Int) (rgR I) (I 186 5) ∧ v = 0 ∧ fR0 qN I L I' L') ∨ (vfPre (2 : Int) (rgR I) (I 186 5) ∧ ((∀ j, j ≠ 6 → I' 186 j = I 186 j) ∧ I' 186 6 = pC (2 : Int)) ∧ (HR I' 184 0 (pC (2 : Int)) (vfC (2 : Int) (rpR I) (rgR I) (muW I (-1 : Int))) ∧ rng (I 184) (I' 184)) ∧ (v = 0 ∨ v = 1) ∧ (v = 1 ↔ ∀ j, 0 ≤ j → j < pC (2 : Int) → vfC (2 : Int) (rpR I) (rgR I) (muW I (-1 : Int)) j = rgR I j)))) 0 (a_ar 0 [vr 175, vi 2, vi (-1)]) [] (sD h I L) := by
  suffices key : ∀ P : a_R → Hp → Prop, (∀ r_ h2_, RsR h I L (c4 ((0 ≤ (2 : Int) ∧ (2 : Int) < 3) ∧ ((-1 : Int) = 0 ∨ (-1 : Int) = -1)) ((-1 : Int) ≠ 0 ∨ I 186 4 ≤ 255) (I 186 1 = 32 + 320 * pK (2 : Int)) (vfPre (2 : Int) (rgR I) (I 186 5) → vfOk (2 : Int) (rpR I) (rgR I))) (fun a => a = 184 ∨ a = 186) (fun v I' L' => (¬ vfPre (2 : Int) (rgR I) (I 186 5) ∧ v = 0 ∧ fR0 qN I L I' L') ∨ (vfPre (2 : Int) (rgR I) (I 186 5) ∧ ((∀ j, j ≠ 6 → I' 186 j = I 186 j) ∧ I' 186 6 = pC (2 : Int)) ∧ (HR I' 184 0 (pC (2 : Int)) (vfC (2 : Int) (rpR I) (rgR I) (muW I (-1 : Int))) ∧ rng (I 184) (I' 184)) ∧ (v = 0 ∨ v = 1) ∧ (v = 1 ↔ ∀ j, 0 ≤ j → j < pC (2 : Int) → vfC (2 : Int) (rpR I) (rgR I) (muW I (-1 : Int)) j = rgR I j))) r_ h2_ → P r_ h2_) → AW l G M_Mo_dsaVerify P 0 [(0, vr 175), (1, vi 2), (2, vi (-1))] [] (sD h I L) from key _ (fun _ _ q => q)
  intro P hP
  refine aw_aload_n d_Mo_dsaVerify_0 rfl rfl ?_
  refine aw_iload_n d_Mo_dsaVerify_1 rfl rfl ?_
  refine aw_iconst d_Mo_dsaVerify_2 ⟨by decide, by decide⟩ ?_
  refine aw_iconst d_Mo_dsaVerify_3 ⟨by decide, by decide⟩ ?_
  refine ax_S (st := [vr 175]) (as := [vi 2, vi 0, vi 2]) (v := some (vi 1)) (h' := sD h I L) d_Mo_dsaVerify_4 cs_Mo_dsaVerify_4 (c_in1 (by decide)) rfl rfl rfl ?_
  show AW l G M_Mo_dsaVerify P 7 [(0, vr 175), (1, vi 2), (2, vi (-1))] [vi 1, vr 175] (sD h I L)
  refine aw_if_eq (tgt := 23) d_Mo_dsaVerify_7 (by decide) (fun c_7 => False.elim (by omega)) (fun c_7 => ?_)
  refine aw_iload_n d_Mo_dsaVerify_10 rfl rfl ?_
  refine aw_iconst d_Mo_dsaVerify_11 ⟨by decide, by decide⟩ ?_
  refine aw_iconst d_Mo_dsaVerify_12 ⟨by decide, by decide⟩ ?_
  refine ax_S (st := [vr 175]) (as := [vi (-1), vi (-1), vi 0]) (v := some (vi 1)) (h' := sD h I L) d_Mo_dsaVerify_13 cs_Mo_dsaVerify_13 (c_in1 (by decide)) rfl rfl rfl ?_
  show AW l G M_Mo_dsaVerify P 16 [(0, vr 175), (1, vi 2), (2, vi (-1))] [vi 1, vr 175] (sD h I L)
  refine aw_if_eq (tgt := 23) d_Mo_dsaVerify_16 (by decide) (fun c_16 => False.elim (by omega)) (fun c_16 => ?_)
  refine aw_iconst d_Mo_dsaVerify_19 ⟨by decide, by decide⟩ ?_
  refine aw_goto (tgt := 24) d_Mo_dsaVerify_20 (by decide) ?_
  refine aw_iconst d_Mo_dsaVerify_24 ⟨by decide, by decide⟩ ?_
  refine ax_V (st := []) (as := [vi 1, vi 1]) (b := 175) (v := some (vi 1)) (h' := sD h (a_up I 175 4 0) L) d_Mo_dsaVerify_25 cs_Mo_dsaVerify_25 (k_175 S) (c_good1 S (rfl)) rfl rfl rfl ?_
  show AW l G M_Mo_dsaVerify P 28 [(0, vr 175), (1, vi 2), (2, vi (-1))] [vi 1] (sD h (a_up I 175 4 0) L)
  refine aw_if_ne (tgt := 33) d_Mo_dsaVerify_28 (by decide) (fun c_28 => ?_) (fun c_28 => False.elim (by omega))
  refine aw_aload_n d_Mo_dsaVerify_33 rfl rfl ?_
  refine aw_iload_n d_Mo_dsaVerify_34 rfl rfl ?_
  refine ax_Vr (st := []) (as := [vi 2]) (b := 175) d_Mo_dsaVerify_35 cs_Mo_dsaVerify_35 (k_175 S) (c_Mo_dsa2 S) rfl rfl rfl (fun u_35 q_35 => ?_)
  obtain ⟨d1, d2, d3⟩ := q_35
  have e0 : ∀ a j, (a < 175 ∨ 176 ≤ a ∧ a ≤ 202 ∨ 204 ≤ a) → u_35 a j = I a j := fun a j x => (d1 a j (by omega) (Or.inl (by omega)) (Or.inl (by omega)) (Or.inl (by omega)) (Or.inl (by omega)) (Or.inl (by omega)) (Or.inl (by omega)) (Or.inl (by omega)) (Or.inl (by omega)) (Or.inl (by omega))).trans (a_up_ne (Or.inl (by omega)))
  have R00 : fR0 qN I L u_35 L := ⟨fun a j x _ => e0 a j (by omega), (d1 175 3 (by decide) (Or.inr (by decide)) (Or.inr (by decide)) (Or.inr (by decide)) (Or.inr (by decide)) (Or.inr (by decide)) (Or.inr (by decide)) (Or.inr (by decide)) (Or.inr (by decide)) (Or.inr (by decide))).trans (a_up_ne (Or.inr (by decide))), fun _ _ _ => rfl⟩
  have D0 : RD u_35 L 2 := ⟨RS.of (fun j => e0 193 j (by omega)) (fun _ => rfl), d2, d3⟩
  have D1 := D0.fr (FR.c0 (p := fun _ => False) (v := 0)) ⟨fun z => z, fun z => z, fun z => z⟩
  have R1 : fR0 qN I L (a_up u_35 175 4 0) L := fR0.fr R00 (FR.c0 (p := fun _ => False)) (by intro a x y; exact ⟨fun z => z, fun z => z⟩) (fun z => z)
  show AW l G M_Mo_dsaVerify P 38 [(0, vr 175), (1, vi 2), (2, vi (-1))] [] (sD h u_35 L)
  refine aw_aload_n d_Mo_dsaVerify_38 rfl rfl ?_
  refine aw_aload_n d_Mo_dsaVerify_39 rfl rfl ?_
  refine aw_iload_n d_Mo_dsaVerify_40 rfl rfl ?_
  by_cases cx_ : (-1 : Int) < 0 ∨ u_35 186 4 ≤ 255
  · skip
    refine ax_V (st := [vr 175]) (as := [vi (-1)]) (b := 175) (v := some (vi 1)) (h' := sD h u_35 L) d_Mo_dsaVerify_41 cs_Mo_dsaVerify_41 (k_175 S) (by have z := c_Mo_context (l := l) (G := G) (h := h) (L := L) (I := u_35) (x := -1) S; rw [if_pos cx_] at z; exact z) rfl rfl rfl ?_
    show AW l G M_Mo_dsaVerify P 44 [(0, vr 175), (1, vi 2), (2, vi (-1))] [vi 1, vr 175] (sD h u_35 L)
    refine aw_iconst d_Mo_dsaVerify_44 ⟨by decide, by decide⟩ ?_
    refine ax_V (st := []) (as := [vi 1, vi 2]) (b := 175) (v := some (vi 1)) (h' := sD h (a_up u_35 175 4 0) L) d_Mo_dsaVerify_45 cs_Mo_dsaVerify_45 (k_175 S) (c_good1 S (rfl)) rfl rfl rfl ?_
    show AW l G M_Mo_dsaVerify P 48 [(0, vr 175), (1, vi 2), (2, vi (-1))] [vi 1] (sD h (a_up u_35 175 4 0) L)
    refine aw_if_eq (tgt := 84) d_Mo_dsaVerify_48 (by decide) (fun c_48 => False.elim (by omega)) (fun c_48 => ?_)
    have bb : (-1 : Int) ≠ 0 ∨ I 186 4 ≤ 255 := by rw [e0 186 4 (by omega)] at cx_; omega
    refine aw_aload_n d_Mo_dsaVerify_51 rfl rfl ?_
    refine aw_aload_n d_Mo_dsaVerify_52 rfl rfl ?_
    refine ax_getR (b := 186) d_Mo_dsaVerify_53 fd_Mo_18 (k_175 S) (r_175_2 S) ?_
    refine aw_iconst d_Mo_dsaVerify_56 ⟨by decide, by decide⟩ ?_
    refine ax_ialde (x := I 186 1) d_Mo_dsaVerify_57 (k_186 S) (by omega) (by rw [n_186 S]; omega) (Eq.trans (a_up_ne (Or.inl (by decide))) (Eq.trans (e0 186 1 (by omega)) (rfl))) ?_
    refine aw_bipush d_Mo_dsaVerify_58 ⟨by decide, by decide⟩ (by decide) ?_
    refine aw_sipush d_Mo_dsaVerify_60 ⟨by decide, by decide⟩ (by decide) ?_
    refine aw_aload_n d_Mo_dsaVerify_63 rfl rfl ?_
    refine ax_getIe (x := 8) d_Mo_dsaVerify_64 fd_Mo_223 (k_175 S) (Eq.trans (a_up_ne (Or.inr (by decide))) (dr2_26 D0)) ?_
    refine ax_imul d_Mo_dsaVerify_67 ⟨(by omega), (by omega)⟩ ?_
    refine ax_ti (x := 2560) (by decide) ?_
    refine ax_iadd d_Mo_dsaVerify_68 ⟨(by omega), (by omega)⟩ ?_
    refine ax_ti (x := 2592) (by decide) ?_
    refine aw_icmp_ne (tgt := 76) d_Mo_dsaVerify_69 (by decide) (fun c_69 => ?_) (fun c_69 => ?_)
    · skip
      refine aw_iconst d_Mo_dsaVerify_76 ⟨by decide, by decide⟩ ?_
      refine aw_iconst d_Mo_dsaVerify_77 ⟨by decide, by decide⟩ ?_
      refine ax_V (st := []) (as := [vi 0, vi 3]) (b := 175) (v := some (vi 0)) (h' := sD h (a_up u_35 175 4 3) L) d_Mo_dsaVerify_78 cs_Mo_dsaVerify_78 (k_175 S) (c_good0 S (by rw [a_up_up])) rfl rfl rfl ?_
      show AW l G M_Mo_dsaVerify P 81 [(0, vr 175), (1, vi 2), (2, vi (-1))] [vi 0] (sD h (a_up u_35 175 4 3) L)
      refine aw_if_ne (tgt := 86) d_Mo_dsaVerify_81 (by decide) (fun c_81 => False.elim (by omega)) (fun c_81 => ?_)
      refine aw_iconst d_Mo_dsaVerify_84 ⟨by decide, by decide⟩ ?_
      exact aw_zret d_Mo_dsaVerify_85 rfl ⟨by decide, by decide⟩ (hP _ _ (rsNo 0 3 (c4_3 ⟨by decide, by decide⟩ bb (fun z => by have z1 : I 186 1 = 2592 := z; omega)) (by decide) a_up_at (fR0.fr R00 (FR.c0 (p := fun _ => False)) (by intro a x y; exact ⟨fun z => z, fun z => z⟩) (fun z => z))))
    · skip
      refine aw_iconst d_Mo_dsaVerify_72 ⟨by decide, by decide⟩ ?_
      refine aw_goto (tgt := 77) d_Mo_dsaVerify_73 (by decide) ?_
      refine aw_iconst d_Mo_dsaVerify_77 ⟨by decide, by decide⟩ ?_
      refine ax_V (st := []) (as := [vi 1, vi 3]) (b := 175) (v := some (vi 1)) (h' := sD h (a_up u_35 175 4 0) L) d_Mo_dsaVerify_78 cs_Mo_dsaVerify_78 (k_175 S) (c_good1 S (by rw [a_up_up])) rfl rfl rfl ?_
      show AW l G M_Mo_dsaVerify P 81 [(0, vr 175), (1, vi 2), (2, vi (-1))] [vi 1] (sD h (a_up u_35 175 4 0) L)
      refine aw_if_ne (tgt := 86) d_Mo_dsaVerify_81 (by decide) (fun c_81 => ?_) (fun c_81 => False.elim (by omega))
      have pb : I 186 1 = 32 + 320 * pK 2 := by show I 186 1 = 2592; omega
      refine aw_aload_n d_Mo_dsaVerify_86 rfl rfl ?_
      refine ax_getIe (x := 64) d_Mo_dsaVerify_87 fd_Mo_248 (k_175 S) (Eq.trans (a_up_ne (Or.inr (by decide))) (dr2_38 D0)) ?_
      refine aw_bipush d_Mo_dsaVerify_90 ⟨by decide, by decide⟩ (by decide) ?_
      refine aw_aload_n d_Mo_dsaVerify_92 rfl rfl ?_
      refine ax_getIe (x := 7) d_Mo_dsaVerify_93 fd_Mo_226 (k_175 S) (Eq.trans (a_up_ne (Or.inr (by decide))) (dr2_32 D0)) ?_
      refine ax_imul d_Mo_dsaVerify_96 ⟨(by omega), (by omega)⟩ ?_
      refine ax_ti (x := 224) (by decide) ?_
      refine aw_aload_n d_Mo_dsaVerify_97 rfl rfl ?_
      refine ax_getIe (x := 20) d_Mo_dsaVerify_98 fd_Mo_251 (k_175 S) (Eq.trans (a_up_ne (Or.inr (by decide))) (dr2_39 D0)) ?_
      refine ax_imul d_Mo_dsaVerify_101 ⟨(by omega), (by omega)⟩ ?_
      refine ax_ti (x := 4480) (by decide) ?_
      refine ax_iadd d_Mo_dsaVerify_102 ⟨(by omega), (by omega)⟩ ?_
      refine ax_ti (x := 4544) (by decide) ?_
      refine aw_istore_n (lv' := [(3, vi 4544), (0, vr 175), (1, vi 2), (2, vi (-1))]) d_Mo_dsaVerify_103 rfl (by decide) rfl ?_
      refine aw_aload_n d_Mo_dsaVerify_104 rfl rfl ?_
      refine ax_getR (b := 186) d_Mo_dsaVerify_105 fd_Mo_18 (k_175 S) (r_175_2 S) ?_
      refine aw_iconst d_Mo_dsaVerify_108 ⟨by decide, by decide⟩ ?_
      refine ax_ialde (x := I 186 5) d_Mo_dsaVerify_109 (k_186 S) (by omega) (by rw [n_186 S]; omega) (Eq.trans (a_up_ne (Or.inl (by decide))) (Eq.trans (e0 186 5 (by omega)) (rfl))) ?_
      refine aw_iload_n d_Mo_dsaVerify_110 rfl rfl ?_
      refine aw_aload_n d_Mo_dsaVerify_111 rfl rfl ?_
      refine ax_getIe (x := 75) d_Mo_dsaVerify_112 fd_Mo_245 (k_175 S) (Eq.trans (a_up_ne (Or.inr (by decide))) (dr2_37 D0)) ?_
      refine ax_iadd d_Mo_dsaVerify_115 ⟨(by omega), (by omega)⟩ ?_
      refine ax_ti (x := 4619) (by decide) ?_
      refine aw_aload_n d_Mo_dsaVerify_116 rfl rfl ?_
      refine ax_getIe (x := 8) d_Mo_dsaVerify_117 fd_Mo_223 (k_175 S) (Eq.trans (a_up_ne (Or.inr (by decide))) (dr2_26 D0)) ?_
      refine ax_iadd d_Mo_dsaVerify_120 ⟨(by omega), (by omega)⟩ ?_
      refine ax_ti (x := 4627) (by decide) ?_
      refine aw_icmp_ne (tgt := 138) d_Mo_dsaVerify_121 (by decide) (fun c_121 => ?_) (fun c_121 => ?_)
      · skip
        refine aw_iconst d_Mo_dsaVerify_138 ⟨by decide, by decide⟩ ?_
        exact aw_zret d_Mo_dsaVerify_139 rfl ⟨by decide, by decide⟩ (hP _ _ ⟨_, _, _, rfl, rfl, by rw [c4_0 ⟨by decide, by decide⟩ bb pb (fun z => absurd z (fun z => by have z1 : I 186 5 = 4627 := z.1; omega))]; exact a_up_at, Or.inl ⟨c4_0 ⟨by decide, by decide⟩ bb pb (fun z => absurd z (fun z => by have z1 : I 186 5 = 4627 := z.1; omega)), fR0.mono (fR0.fr R00 (FR.c0 (p := fun _ => False)) (by intro a x y; exact ⟨fun z => z, fun z => z⟩) (fun z => z)) (fun _ _ z => z), Or.inl ⟨(fun z => by have z1 : I 186 5 = 4627 := z.1; omega), rfl, (fR0.fr R00 (FR.c0 (p := fun _ => False)) (by intro a x y; exact ⟨fun z => z, fun z => z⟩) (fun z => z))⟩⟩⟩)
      · skip
        refine aw_aload_n d_Mo_dsaVerify_124 rfl rfl ?_
        refine aw_aload_n d_Mo_dsaVerify_125 rfl rfl ?_
        refine ax_getR (b := 177) d_Mo_dsaVerify_126 fd_Mo_15 (k_175 S) (r_175_1 S) ?_
        refine aw_iconst d_Mo_dsaVerify_129 ⟨by decide, by decide⟩ ?_
        refine ax_aald (b := 183) d_Mo_dsaVerify_130 ⟨by rw [(k_177 S)]; decide, by rw [(k_177 S)]; decide⟩ (by omega) (by rw [n_177 S]; omega) (g_177 S (j := 5) (by decide) (by decide)) ?_
        refine aw_iload_n d_Mo_dsaVerify_131 rfl rfl ?_
        have kz : ∀ j, (a_up u_35 175 4 0) 183 j = I 183 j := fun j => (a_up_ne (Or.inl (by decide))).trans (e0 183 j (by omega))
        have k5 : (a_up u_35 175 4 0) 186 5 = I 186 5 := (a_up_ne (Or.inl (by decide))).trans (e0 186 5 (by omega))
        have eg : rgR (a_up u_35 175 4 0) = rgR I := funext (fun x => by unfold rgR gW; rw [k5]; show (if 0 ≤ x ∧ x < I 186 5 then (a_up u_35 175 4 0) 183 x % 256 else 0) = (if 0 ≤ x ∧ x < I 186 5 then I 183 x % 256 else 0); rw [kz])
        refine ax_Vr (st := []) (as := [vr 183, vi 4544]) (b := 175) d_Mo_dsaVerify_132 cs_Mo_dsaVerify_132 (k_175 S) (c_Mo_hints2 S D1 (fun j => by rw [kz]; exact rg j) (by rw [k5]; omega)) rfl rfl rfl (fun u_132 q_132 => ?_)
        obtain ⟨v9, K9⟩ := u_132
        obtain ⟨F9, p9, q9⟩ := q_132
        dsimp only at F9 p9 q9
        rw [eg] at q9
        have h49 : K9 175 4 = 0 := (p9 4).trans a_up_at
        show AW l G M_Mo_dsaVerify P 135 [(3, vi 4544), (0, vr 175), (1, vi 2), (2, vi (-1))] [vi v9] (sD h K9 L)
        refine aw_if_ne (tgt := 140) d_Mo_dsaVerify_135 (by decide) (fun c_135 => ?_) (fun c_135 => ?_)
        · skip
          refine aw_sub (lv' := [(3, vi 4544), (2, vi (-1)), (0, vr 175)]) (by simp) ?_
          have g9 := q9.resolve_right (fun z => by have z1 := z.1; omega)
          exact vB2N S (fR0.fr R1 F9 (by intro a x y; exact ⟨fun z => z, by omega⟩) (by decide)) (D1.fr F9 (by decide)) rg bb pb rb (by show I 186 5 = 4627; omega) g9.2.1 h49 g9.2.2 hP
        · skip
          refine aw_iconst d_Mo_dsaVerify_138 ⟨by decide, by decide⟩ ?_
          exact aw_zret d_Mo_dsaVerify_139 rfl ⟨by decide, by decide⟩ (hP _ _ ⟨_, _, _, rfl, rfl, by rw [c4_0 ⟨by decide, by decide⟩ bb pb (fun z => absurd z (fun z => by rcases q9 with y | y; exact absurd y.1 (by omega); exact y.2 z.2.1))]; exact h49, Or.inl ⟨c4_0 ⟨by decide, by decide⟩ bb pb (fun z => absurd z (fun z => by rcases q9 with y | y; exact absurd y.1 (by omega); exact y.2 z.2.1)), fR0.mono (fR0.fr R1 F9 (r := qN) (by intro a x y; exact ⟨fun z => z, by omega⟩) (by decide)) (fun _ _ z => z), Or.inl ⟨(fun z => by rcases q9 with y | y; exact absurd y.1 (by omega); exact y.2 z.2.1), rfl, (fR0.fr R1 F9 (r := qN) (by intro a x y; exact ⟨fun z => z, by omega⟩) (by decide))⟩⟩⟩)
  · skip
    refine ax_V (st := [vr 175]) (as := [vi (-1)]) (b := 175) (v := some (vi 0)) (h' := sD h u_35 L) d_Mo_dsaVerify_41 cs_Mo_dsaVerify_41 (k_175 S) (by have z := c_Mo_context (l := l) (G := G) (h := h) (L := L) (I := u_35) (x := -1) S; rw [if_neg cx_] at z; exact z) rfl rfl rfl ?_
    show AW l G M_Mo_dsaVerify P 44 [(0, vr 175), (1, vi 2), (2, vi (-1))] [vi 0, vr 175] (sD h u_35 L)
    refine aw_iconst d_Mo_dsaVerify_44 ⟨by decide, by decide⟩ ?_
    refine ax_V (st := []) (as := [vi 0, vi 2]) (b := 175) (v := some (vi 0)) (h' := sD h (a_up u_35 175 4 2) L) d_Mo_dsaVerify_45 cs_Mo_dsaVerify_45 (k_175 S) (c_good0 S (rfl)) rfl rfl rfl ?_
    show AW l G M_Mo_dsaVerify P 48 [(0, vr 175), (1, vi 2), (2, vi (-1))] [vi 0] (sD h (a_up u_35 175 4 2) L)
    refine aw_if_eq (tgt := 84) d_Mo_dsaVerify_48 (by decide) (fun c_48 => ?_) (fun c_48 => False.elim (by omega))
    refine aw_iconst d_Mo_dsaVerify_84 ⟨by decide, by decide⟩ ?_
    exact aw_zret d_Mo_dsaVerify_85 rfl ⟨by decide, by decide⟩ (hP _ _ (rsNo 0 2 (c4_2 ⟨by decide, by decide⟩ (fun z => by rw [e0 186 4 (by omega)] at cx_; omega)) (by decide) a_up_at (fR0.fr R00 (FR.c0 (p := fun _ => False)) (by intro a x y; exact ⟨fun z => z, fun z => z⟩) (fun z => z))))
set_option maxHeartbeats 800000 in
set_option maxRecDepth 100000 in
theorem c_Mo_dsaVerifyX {l : Launch} {G : a_G} {h : Hp} {I L : Nat → Int → Int} {s how : Int} (S : Shp h) (hs : ¬ (0 ≤ s ∧ s ≤ 2)) : AW l G M_Mo_dsaVerify (RsR h I L (c4 ((0 ≤ s ∧ s < 3) ∧ (how = 0 ∨ how = -1)) (how ≠ 0 ∨ I 186 4 ≤ 255) (I 186 1 = 32 + 320 * pK s) (vfPre s (rgR I) (I 186 5) → vfOk s (rpR I) (rgR I))) (fun a => a = 184 ∨ a = 186) (fun v I' L' => (¬ vfPre s (rgR I) (I 186 5) ∧ v = 0 ∧ fR0 qN I L I' L') ∨ (vfPre s (rgR I) (I 186 5) ∧ ((∀ j, j ≠ 6 → I' 186 j = I 186 j) ∧ I' 186 6 = pC s) ∧ (HR I' 184 0 (pC s) (vfC s (rpR I) (rgR I) (muW I how)) ∧ rng (I 184) (I' 184)) ∧ (v = 0 ∨ v = 1) ∧ (v = 1 ↔ ∀ j, 0 ≤ j → j < pC s → vfC s (rpR I) (rgR I) (muW I how) j = rgR I j)))) 0 (a_ar 0 [vr 175, vi s, vi how]) [] (sD h I L) := by
  suffices key : ∀ P : a_R → Hp → Prop, (∀ r_ h2_, RsR h I L (c4 ((0 ≤ s ∧ s < 3) ∧ (how = 0 ∨ how = -1)) (how ≠ 0 ∨ I 186 4 ≤ 255) (I 186 1 = 32 + 320 * pK s) (vfPre s (rgR I) (I 186 5) → vfOk s (rpR I) (rgR I))) (fun a => a = 184 ∨ a = 186) (fun v I' L' => (¬ vfPre s (rgR I) (I 186 5) ∧ v = 0 ∧ fR0 qN I L I' L') ∨ (vfPre s (rgR I) (I 186 5) ∧ ((∀ j, j ≠ 6 → I' 186 j = I 186 j) ∧ I' 186 6 = pC s) ∧ (HR I' 184 0 (pC s) (vfC s (rpR I) (rgR I) (muW I how)) ∧ rng (I 184) (I' 184)) ∧ (v = 0 ∨ v = 1) ∧ (v = 1 ↔ ∀ j, 0 ≤ j → j < pC s → vfC s (rpR I) (rgR I) (muW I how) j = rgR I j))) r_ h2_ → P r_ h2_) → AW l G M_Mo_dsaVerify P 0 [(0, vr 175), (1, vi s), (2, vi how)] [] (sD h I L) from key _ (fun _ _ q => q)
  intro P hP
  refine aw_aload_n d_Mo_dsaVerify_0 rfl rfl ?_
  refine aw_iload_n d_Mo_dsaVerify_1 rfl rfl ?_
  refine aw_iconst d_Mo_dsaVerify_2 ⟨by decide, by decide⟩ ?_
  refine aw_iconst d_Mo_dsaVerify_3 ⟨by decide, by decide⟩ ?_
  refine ax_S (st := [vr 175]) (as := [vi s, vi 0, vi 2]) (v := some (vi 0)) (h' := sD h I L) d_Mo_dsaVerify_4 cs_Mo_dsaVerify_4 (c_in0 hs) rfl rfl rfl ?_
  show AW l G M_Mo_dsaVerify P 7 [(0, vr 175), (1, vi s), (2, vi how)] [vi 0, vr 175] (sD h I L)
  refine aw_if_eq (tgt := 23) d_Mo_dsaVerify_7 (by decide) (fun c_7 => ?_) (fun c_7 => False.elim (by omega))
  refine aw_iconst d_Mo_dsaVerify_23 ⟨by decide, by decide⟩ ?_
  refine aw_iconst d_Mo_dsaVerify_24 ⟨by decide, by decide⟩ ?_
  refine ax_V (st := []) (as := [vi 0, vi 1]) (b := 175) (v := some (vi 0)) (h' := sD h (a_up I 175 4 1) L) d_Mo_dsaVerify_25 cs_Mo_dsaVerify_25 (k_175 S) (c_good0 S (rfl)) rfl rfl rfl ?_
  show AW l G M_Mo_dsaVerify P 28 [(0, vr 175), (1, vi s), (2, vi how)] [vi 0] (sD h (a_up I 175 4 1) L)
  refine aw_if_ne (tgt := 33) d_Mo_dsaVerify_28 (by decide) (fun c_28 => False.elim (by omega)) (fun c_28 => ?_)
  refine aw_iconst d_Mo_dsaVerify_31 ⟨by decide, by decide⟩ ?_
  exact aw_zret d_Mo_dsaVerify_32 rfl ⟨by decide, by decide⟩ (hP _ _ (rsNo 0 1 (c4_1 (fun z => by have z1 := z.1; have z2 := z.2; omega)) (by decide) a_up_at (fR0.fr fR0.rfl' (FR.c0 (p := fun _ => False)) (by intro a x y; exact ⟨fun z => z, fun z => z⟩) (fun z => z))))
set_option maxHeartbeats 800000 in
set_option maxRecDepth 100000 in
theorem c_Mo_dsaVerifyY {l : Launch} {G : a_G} {h : Hp} {I L : Nat → Int → Int} {s how : Int} (S : Shp h) (hw : ¬ (-1 ≤ how ∧ how ≤ 0)) : AW l G M_Mo_dsaVerify (RsR h I L (c4 ((0 ≤ s ∧ s < 3) ∧ (how = 0 ∨ how = -1)) (how ≠ 0 ∨ I 186 4 ≤ 255) (I 186 1 = 32 + 320 * pK s) (vfPre s (rgR I) (I 186 5) → vfOk s (rpR I) (rgR I))) (fun a => a = 184 ∨ a = 186) (fun v I' L' => (¬ vfPre s (rgR I) (I 186 5) ∧ v = 0 ∧ fR0 qN I L I' L') ∨ (vfPre s (rgR I) (I 186 5) ∧ ((∀ j, j ≠ 6 → I' 186 j = I 186 j) ∧ I' 186 6 = pC s) ∧ (HR I' 184 0 (pC s) (vfC s (rpR I) (rgR I) (muW I how)) ∧ rng (I 184) (I' 184)) ∧ (v = 0 ∨ v = 1) ∧ (v = 1 ↔ ∀ j, 0 ≤ j → j < pC s → vfC s (rpR I) (rgR I) (muW I how) j = rgR I j)))) 0 (a_ar 0 [vr 175, vi s, vi how]) [] (sD h I L) := by
  suffices key : ∀ P : a_R → Hp → Prop, (∀ r_ h2_, RsR h I L (c4 ((0 ≤ s ∧ s < 3) ∧ (how = 0 ∨ how = -1)) (how ≠ 0 ∨ I 186 4 ≤ 255) (I 186 1 = 32 + 320 * pK s) (vfPre s (rgR I) (I 186 5) → vfOk s (rpR I) (rgR I))) (fun a => a = 184 ∨ a = 186) (fun v I' L' => (¬ vfPre s (rgR I) (I 186 5) ∧ v = 0 ∧ fR0 qN I L I' L') ∨ (vfPre s (rgR I) (I 186 5) ∧ ((∀ j, j ≠ 6 → I' 186 j = I 186 j) ∧ I' 186 6 = pC s) ∧ (HR I' 184 0 (pC s) (vfC s (rpR I) (rgR I) (muW I how)) ∧ rng (I 184) (I' 184)) ∧ (v = 0 ∨ v = 1) ∧ (v = 1 ↔ ∀ j, 0 ≤ j → j < pC s → vfC s (rpR I) (rgR I) (muW I how) j = rgR I j))) r_ h2_ → P r_ h2_) → AW l G M_Mo_dsaVerify P 0 [(0, vr 175), (1, vi s), (2, vi how)] [] (sD h I L) from key _ (fun _ _ q => q)
  intro P hP
  refine aw_aload_n d_Mo_dsaVerify_0 rfl rfl ?_
  refine aw_iload_n d_Mo_dsaVerify_1 rfl rfl ?_
  refine aw_iconst d_Mo_dsaVerify_2 ⟨by decide, by decide⟩ ?_
  refine aw_iconst d_Mo_dsaVerify_3 ⟨by decide, by decide⟩ ?_
  by_cases in_4 : 0 ≤ s ∧ s ≤ 2
  · skip
    refine ax_S (st := [vr 175]) (as := [vi s, vi 0, vi 2]) (v := some (vi 1)) (h' := sD h I L) d_Mo_dsaVerify_4 cs_Mo_dsaVerify_4 (c_in1 in_4) rfl rfl rfl ?_
    show AW l G M_Mo_dsaVerify P 7 [(0, vr 175), (1, vi s), (2, vi how)] [vi 1, vr 175] (sD h I L)
    refine aw_if_eq (tgt := 23) d_Mo_dsaVerify_7 (by decide) (fun c_7 => False.elim (by omega)) (fun c_7 => ?_)
    refine aw_iload_n d_Mo_dsaVerify_10 rfl rfl ?_
    refine aw_iconst d_Mo_dsaVerify_11 ⟨by decide, by decide⟩ ?_
    refine aw_iconst d_Mo_dsaVerify_12 ⟨by decide, by decide⟩ ?_
    refine ax_S (st := [vr 175]) (as := [vi how, vi (-1), vi 0]) (v := some (vi 0)) (h' := sD h I L) d_Mo_dsaVerify_13 cs_Mo_dsaVerify_13 (c_in0 hw) rfl rfl rfl ?_
    show AW l G M_Mo_dsaVerify P 16 [(0, vr 175), (1, vi s), (2, vi how)] [vi 0, vr 175] (sD h I L)
    refine aw_if_eq (tgt := 23) d_Mo_dsaVerify_16 (by decide) (fun c_16 => ?_) (fun c_16 => False.elim (by omega))
    refine aw_iconst d_Mo_dsaVerify_23 ⟨by decide, by decide⟩ ?_
    refine aw_iconst d_Mo_dsaVerify_24 ⟨by decide, by decide⟩ ?_
    refine ax_V (st := []) (as := [vi 0, vi 1]) (b := 175) (v := some (vi 0)) (h' := sD h (a_up I 175 4 1) L) d_Mo_dsaVerify_25 cs_Mo_dsaVerify_25 (k_175 S) (c_good0 S (rfl)) rfl rfl rfl ?_
    show AW l G M_Mo_dsaVerify P 28 [(0, vr 175), (1, vi s), (2, vi how)] [vi 0] (sD h (a_up I 175 4 1) L)
    refine aw_if_ne (tgt := 33) d_Mo_dsaVerify_28 (by decide) (fun c_28 => False.elim (by omega)) (fun c_28 => ?_)
    refine aw_iconst d_Mo_dsaVerify_31 ⟨by decide, by decide⟩ ?_
    exact aw_zret d_Mo_dsaVerify_32 rfl ⟨by decide, by decide⟩ (hP _ _ (rsNo 0 1 (c4_1 (fun z => by have z1 := z.1; have z2 := z.2; omega)) (by decide) a_up_at (fR0.fr fR0.rfl' (FR.c0 (p := fun _ => False)) (by intro a x y; exact ⟨fun z => z, fun z => z⟩) (fun z => z))))
  · skip
    refine ax_S (st := [vr 175]) (as := [vi s, vi 0, vi 2]) (v := some (vi 0)) (h' := sD h I L) d_Mo_dsaVerify_4 cs_Mo_dsaVerify_4 (c_in0 in_4) rfl rfl rfl ?_
    show AW l G M_Mo_dsaVerify P 7 [(0, vr 175), (1, vi s), (2, vi how)] [vi 0, vr 175] (sD h I L)
    refine aw_if_eq (tgt := 23) d_Mo_dsaVerify_7 (by decide) (fun c_7 => ?_) (fun c_7 => False.elim (by omega))
    refine aw_iconst d_Mo_dsaVerify_23 ⟨by decide, by decide⟩ ?_
    refine aw_iconst d_Mo_dsaVerify_24 ⟨by decide, by decide⟩ ?_
    refine ax_V (st := []) (as := [vi 0, vi 1]) (b := 175) (v := some (vi 0)) (h' := sD h (a_up I 175 4 1) L) d_Mo_dsaVerify_25 cs_Mo_dsaVerify_25 (k_175 S) (c_good0 S (rfl)) rfl rfl rfl ?_
    show AW l G M_Mo_dsaVerify P 28 [(0, vr 175), (1, vi s), (2, vi how)] [vi 0] (sD h (a_up I 175 4 1) L)
    refine aw_if_ne (tgt := 33) d_Mo_dsaVerify_28 (by decide) (fun c_28 => False.elim (by omega)) (fun c_28 => ?_)
    refine aw_iconst d_Mo_dsaVerify_31 ⟨by decide, by decide⟩ ?_
    exact aw_zret d_Mo_dsaVerify_32 rfl ⟨by decide, by decide⟩ (hP _ _ (rsNo 0 1 (c4_1 (fun z => by have z1 := z.1; have z2 := z.2; omega)) (by decide) a_up_at (fR0.fr fR0.rfl' (FR.c0 (p := fun _ => False)) (by intro a x y; exact ⟨fun z => z, fun z => z⟩) (fun z => z))))
theorem c_Mo_dsaVerify {l : Launch} {G : a_G} {h : Hp} {I L : Nat → Int → Int} {s how : Int} (S : Shp h) (RS : RSt I L) (rb : RB I) (rg : ∀ j, -128 ≤ I 183 j ∧ I 183 j ≤ 127) : AW l G M_Mo_dsaVerify (RsR h I L (c4 ((0 ≤ s ∧ s < 3) ∧ (how = 0 ∨ how = -1)) (how ≠ 0 ∨ I 186 4 ≤ 255) (I 186 1 = 32 + 320 * pK s) (vfPre s (rgR I) (I 186 5) → vfOk s (rpR I) (rgR I))) (fun a => a = 184 ∨ a = 186) (fun v I' L' => (¬ vfPre s (rgR I) (I 186 5) ∧ v = 0 ∧ fR0 qN I L I' L') ∨ (vfPre s (rgR I) (I 186 5) ∧ ((∀ j, j ≠ 6 → I' 186 j = I 186 j) ∧ I' 186 6 = pC s) ∧ (HR I' 184 0 (pC s) (vfC s (rpR I) (rgR I) (muW I how)) ∧ rng (I 184) (I' 184)) ∧ (v = 0 ∨ v = 1) ∧ (v = 1 ↔ ∀ j, 0 ≤ j → j < pC s → vfC s (rpR I) (rgR I) (muW I how) j = rgR I j)))) 0 (a_ar 0 [vr 175, vi s, vi how]) [] (sD h I L) := by
  by_cases hs : 0 ≤ s ∧ s ≤ 2
  · by_cases hw : -1 ≤ how ∧ how ≤ 0
    · rcases (by omega : s = 0 ∨ s = 1 ∨ s = 2) with e | e | e
      · subst e
        rcases (by omega : how = 0 ∨ how = -1) with e2 | e2
        · subst e2; exact c_Mo_dsaVerify00 S RS rb rg
        · subst e2; exact c_Mo_dsaVerify0N S RS rb rg
      · subst e
        rcases (by omega : how = 0 ∨ how = -1) with e2 | e2
        · subst e2; exact c_Mo_dsaVerify10 S RS rb rg
        · subst e2; exact c_Mo_dsaVerify1N S RS rb rg
      · subst e
        rcases (by omega : how = 0 ∨ how = -1) with e2 | e2
        · subst e2; exact c_Mo_dsaVerify20 S RS rb rg
        · subst e2; exact c_Mo_dsaVerify2N S RS rb rg
    · exact c_Mo_dsaVerifyY S hw
  · exact c_Mo_dsaVerifyX S hs
