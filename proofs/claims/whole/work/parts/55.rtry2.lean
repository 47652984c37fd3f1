/-! the reference's attempt: first half -/
theorem zl {y p t g : Int} (hg : 0 < t ∧ t ≤ g ∧ g ≤ 524288) (hy : -g < y ∧ y ≤ g) (hp : 0 ≤ p ∧ p < 8380417) : (t ≤ y + cen p ∨ y + cen p ≤ -t) ↔ (t ≤ (y % 8380417 + p) % 8380417 ∧ (y % 8380417 + p) % 8380417 ≤ 8380417 - t) := by
  unfold cen
  split <;> omega
theorem zl2 {y p t g : Int} (hg : 0 < t ∧ t ≤ g ∧ g ≤ 524288) (hy : -g < y ∧ y ≤ g) (hp : 0 ≤ p ∧ p < 8380417) (h : -t < y + cen p ∧ y + cen p < t) : g - (y + cen p) = (g - (y % 8380417 + p) % 8380417) % 8380417 := by
  unfold cen at *
  split at h
  · rename_i c
    rw [if_pos c]; omega
  · rename_i c
    rw [if_neg c]; omega
theorem wide_sk {I : Nat → Int → Int} {sk : Int → Int} {n j i : Int} (hs : HR I 180 0 n sk) (sm : ∀ k, sk k % 256 = sk k) (hn : 32 ≤ n) : wide (fun k => I 180 (0 + k)) j i = wide sk j i := wide_congr (fun k hk => by rw [hs k (by omega) (by omega), sm])
set_option maxHeartbeats 4000000 in
set_option maxRecDepth 100000 in
theorem aD0 {l : Launch} {G : a_G} {P : a_R → Hp → Prop} {h : Hp} {K0 M0 K M : Nat → Int → Int} {sk rh mu : Int → Int} {t : Int} (S : Shp h) (D0 : RD K0 M0 0) (hk0 : HR K0 180 0 2560 sk) (km : ∀ x, sk x % 256 = sk x) (hr0 : HR K0 266 0 64 rh) (rm0 : ∀ x, rh x % 256 = rh x) (hm0 : HR K0 265 0 64 mu) (mm0 : ∀ x, mu x % 256 = mu x) (hS0 : ∀ m, 0 ≤ m → m < 8 → eqQ (K0 (205 + m.toNat)) (sgSs 0 sk m)) (hD0 : ∀ m, 0 ≤ m → m < 4 → eqQ (K0 (205 + (15 + m).toNat)) (sgDs 0 sk m)) (ht : 0 ≤ t ∧ t < 814) (F0 : FR pAt K0 M0 K M) (okk : (sgOk 0 sk ∧ bll 39 (sgBs 0 sk rh mu t) ≠ none)) (hch : HR K 267 0 32 (sgC 0 sk rh mu t)) (hM : ∀ m, 0 ≤ m → m < 4 → eqQ (K (205 + (23 + m).toNat)) (sgMs 0 rh (t * 4 + m))) (hW : ∀ m, 0 ≤ m → m < 4 → eqQ (K (205 + (30 + m).toNat)) ((sgW 0 sk rh t) m)) (hB : eqQ (K 251) (blX 39 (sgBs 0 sk rh mu t))) (hP : ∀ r_ h2_, RaR h K0 M0 pAt (sgOk 0 sk ∧ bll 39 (sgBs 0 sk rh mu t) ≠ none) (sgGood 0 sk rh mu t) 2420 (sgPk 0 sk rh mu t) r_ h2_ → P r_ h2_) : AW l G M_Mo_attempt P 335 [(0, vr 175)] [] (sD h K M) := by
  have D := D0.fr F0 (by decide)
  have hS : ∀ m, 0 ≤ m → m < 8 → eqQ (K (205 + m.toNat)) (sgSs 0 sk m) := fun m a b j x y => (F0.1 _ _ (by omega) (Or.inl (by omega))).trans (hS0 m a b j x y)
  refine aw_aload_n d_Mo_attempt_335 rfl rfl ?_
  refine ax_getIe (x := 39) d_Mo_attempt_336 fd_Mo_232 (k_175 S) (dr0_34 D) ?_
  refine aw_aload_n d_Mo_attempt_339 rfl rfl ?_
  refine ax_getIe (x := 2) d_Mo_attempt_340 fd_Mo_229 (k_175 S) (dr0_33 D) ?_
  refine ax_imul d_Mo_attempt_343 ⟨(by omega), (by omega)⟩ ?_
  refine ax_ti (x := 78) (by decide) ?_
  refine aw_istore_n (lv' := [(2, vi 78), (0, vr 175)]) d_Mo_attempt_344 rfl (by decide) rfl ?_
  refine aw_iconst d_Mo_attempt_345 ⟨by decide, by decide⟩ ?_
  refine aw_istore_n (lv' := [(3, vi 0), (2, vi 78), (0, vr 175)]) d_Mo_attempt_346 rfl (by decide) rfl ?_
  have lp_347 : ∀ (n_ : Nat) (i : Int) (K2 : Nat → Int → Int) (M2 : Nat → Int → Int), (0 ≤ i ∧ i ≤ 4) → (FR (fun a => a = 252 ∨ 228 ≤ a ∧ a ≤ 234) K M K2 M2) → (∀ m, 0 ≤ m → m < i → ∀ x, 0 ≤ x → x < 256 → K2 (205 + (23 + m).toNat) x = ((sgMs 0 rh (t * 4 + m)) x + cen (prB (sgB 0 sk rh mu t) (sgV 0 sk m) x)) ∧ (-130994 < ((sgMs 0 rh (t * 4 + m)) x + cen (prB (sgB 0 sk rh mu t) (sgV 0 sk m) x)) ∧ ((sgMs 0 rh (t * 4 + m)) x + cen (prB (sgB 0 sk rh mu t) (sgV 0 sk m) x)) < 130994)) → (∀ m, 0 ≤ m → i ≤ m → m < 4 → eqQ (K2 (205 + (23 + m).toNat)) (sgMs 0 rh (t * 4 + m))) → ((4 - i).toNat) = n_ → AW l G M_Mo_attempt P 347 [(3, vi i), (2, vi 78), (0, vr 175)] [] (sD h K2 M2) := by
    intro n_
    induction n_ using Nat.strongRecOn with
    | _ n_ ih_347 =>
    intro i K2 M2 hi F2 dn td hm_347
    refine aw_iload_n d_Mo_attempt_347 rfl rfl ?_
    refine aw_aload_n d_Mo_attempt_348 rfl rfl ?_
    refine ax_getIe (x := 4) d_Mo_attempt_349 fd_Mo_226 (k_175 S) (Eq.trans (F2.1 175 32 (by omega) (Or.inr (by decide))) (dr0_32 D)) ?_
    refine aw_icmp_ge (tgt := 471) d_Mo_attempt_352 (by decide) (fun c_352 => ?_) (fun c_352 => ?_)
    · skip
      refine aw_sub (lv' := [(2, vi 78), (0, vr 175)]) (by simp) ?_
      exact aE0 S D0 hk0 km hr0 rm0 hm0 mm0 hS0 hD0 ht (F0.tr F2 (by intro a x; exact ⟨x, by intro z; exact x (by omega)⟩)) okk (fun m a b j x y => by have b2 : m < 4 := b; have d_ := dn m a (by omega) j x y; have c5 := (show -131072 < (sgMs 0 rh (t * 4 + m)) j ∧ (sgMs 0 rh (t * 4 + m)) j ≤ 131072 from ⟨by have := (sgMs_b (s := 0) (rh := rh) (n := t * 4 + m) (j := j)).1; rw [show pG1 0 - 2 ^ (pB 0).toNat = -131072 from by decide] at this; exact this, (sgMs_b (s := 0) (rh := rh) (n := t * 4 + m) (j := j)).2⟩); have c1 := prB_in (B := (sgB 0 sk rh mu t)) (V := (sgV 0 sk m)) j x y; exact fun q_ => by have w_ := (zl (t := 130994) (by decide) c5 c1).2 q_; omega) (hch.fr F2 (by decide) (by decide)) (fun m a b j x y => by have d_ := dn m a (by omega) j x y; rw [d_.1]; exact zl2 (t := 130994) (by decide) (show -131072 < (sgMs 0 rh (t * 4 + m)) j ∧ (sgMs 0 rh (t * 4 + m)) j ≤ 131072 from ⟨by have := (sgMs_b (s := 0) (rh := rh) (n := t * 4 + m) (j := j)).1; rw [show pG1 0 - 2 ^ (pB 0).toNat = -131072 from by decide] at this; exact this, (sgMs_b (s := 0) (rh := rh) (n := t * 4 + m) (j := j)).2⟩) (prB_in (B := (sgB 0 sk rh mu t)) (V := (sgV 0 sk m)) j x y) d_.2) (fun m a b j x y => by rw [F2.1 _ _ (by omega) (Or.inl (by omega))]; exact hW m a b j x y) (fun j x y => by rw [F2.1 _ _ (by decide) (Or.inl (by decide))]; exact hB j x y) hP
    · skip
      refine aw_aload_n d_Mo_attempt_355 rfl rfl ?_
      refine aw_aload_n d_Mo_attempt_356 rfl rfl ?_
      refine ax_getR (b := 204) d_Mo_attempt_357 fd_Mo_76 (k_175 S) (r_175_28 S) ?_
      refine aw_bipush d_Mo_attempt_360 ⟨by decide, by decide⟩ (by decide) ?_
      refine ax_aald (b := 252) d_Mo_attempt_362 ⟨by rw [(k_204 S)]; decide, by rw [(k_204 S)]; decide⟩ (by omega) (by rw [n_204 S]; omega) (g_204 S (j := 47) (by decide) (by decide)) ?_
      refine aw_aload_n d_Mo_attempt_363 rfl rfl ?_
      refine ax_getR (b := 204) d_Mo_attempt_364 fd_Mo_76 (k_175 S) (r_175_28 S) ?_
      refine aw_bipush d_Mo_attempt_367 ⟨by decide, by decide⟩ (by decide) ?_
      refine ax_aald (b := 251) d_Mo_attempt_369 ⟨by rw [(k_204 S)]; decide, by rw [(k_204 S)]; decide⟩ (by omega) (by rw [n_204 S]; omega) (g_204 S (j := 46) (by decide) (by decide)) ?_
      refine aw_aload_n d_Mo_attempt_370 rfl rfl ?_
      refine ax_getR (b := 204) d_Mo_attempt_371 fd_Mo_76 (k_175 S) (r_175_28 S) ?_
      refine aw_iload_n d_Mo_attempt_374 rfl rfl ?_
      refine ax_aald (b := 205 + i.toNat) d_Mo_attempt_375 ⟨by rw [(k_204 S)]; decide, by rw [(k_204 S)]; decide⟩ (by omega) (by rw [n_204 S]; omega) (g_204 S (by omega) (by omega)) ?_
      refine ax_Vr (st := []) (as := [vr 252, vr 251, vr (205 + i.toNat)]) (b := 175) d_Mo_attempt_376 cs_Mo_attempt_376 (k_175 S) (c_Mo_few S ⟨k_252 S, by decide, n_252 S⟩ ⟨k_251 S, by decide, n_251 S⟩ ⟨kr_204 S (by omega), by omega, nr_204 S (by omega)⟩ (fun j x y => by rw [F2.1 _ _ (by omega) (Or.inl (by omega)), hB j x y]; exact blX_b j) (fun j x y => by rw [F2.1 _ _ (by omega) (Or.inl (by omega)), hS i hi.1 (by omega) j x y]; have := sgSs_b (s := 0) (sk := sk) (m := i) (j := j); omega)) rfl rfl rfl (fun u_376 q_376 => ?_)
      have l1 := q_376
      have q252 : eqQ ((rowTo K2 252 256 (few (K2 251) (K2 (205 + i.toNat)))) 252) (fun j => cen (prB (sgB 0 sk rh mu t) (sgV 0 sk i) j)) := fun j x y => by rw [rowTo_in x y]; exact few_prB (fun z u v => (F2.1 _ _ (by omega) (Or.inl (by omega))).trans (hB z u v)) (fun z u v => (F2.1 _ _ (by omega) (Or.inl (by omega))).trans (hS i hi.1 (by omega) z u v)) j x y
      show AW l G M_Mo_attempt P 379 [(3, vi i), (2, vi 78), (0, vr 175)] [] (sD h (rowTo K2 252 256 (few (K2 251) (K2 (205 + i.toNat)))) u_376)
      refine aw_iconst d_Mo_attempt_379 ⟨by decide, by decide⟩ ?_
      refine aw_istore (lv' := [(4, vi 0), (3, vi i), (2, vi 78), (0, vr 175)]) d_Mo_attempt_380 (by decide) rfl ?_
      have lp_382 : ∀ (n_ : Nat) (c : Int) (K3 : Nat → Int → Int), (0 ≤ c ∧ c ≤ 256) → (FR (fun a => a = 252 ∨ 228 ≤ a ∧ a ≤ 234) K M K3 u_376) → (FR (fun a => a = 205 + (23 + i).toNat) (rowTo K2 252 256 (few (K2 251) (K2 (205 + i.toNat)))) u_376 K3 u_376) → ((∀ x, 0 ≤ x → x < c → K3 (205 + (23 + i).toNat) x = ((sgMs 0 rh (t * 4 + i)) x + cen (prB (sgB 0 sk rh mu t) (sgV 0 sk i) x)) ∧ (-130994 < ((sgMs 0 rh (t * 4 + i)) x + cen (prB (sgB 0 sk rh mu t) (sgV 0 sk i) x)) ∧ ((sgMs 0 rh (t * 4 + i)) x + cen (prB (sgB 0 sk rh mu t) (sgV 0 sk i) x)) < 130994)) ∧ ∀ x, c ≤ x → x < 256 → K3 (205 + (23 + i).toNat) x = (sgMs 0 rh (t * 4 + i)) x) → ((256 - c).toNat) = n_ → AW l G M_Mo_attempt P 382 [(4, vi c), (3, vi i), (2, vi 78), (0, vr 175)] [] (sD h K3 u_376) := by
        intro n_
        induction n_ using Nat.strongRecOn with
        | _ n_ ih_382 =>
        intro c K3 hc F3 t3 r3 hm_382
        have p3 : c < 256 → K3 252 c = cen (prB (sgB 0 sk rh mu t) (sgV 0 sk i) c) := fun v => by rw [t3.1 _ _ (by omega) (Or.inl (by omega))]; exact q252 c hc.1 v
        refine aw_iload d_Mo_attempt_382 rfl ?_
        refine aw_sipush d_Mo_attempt_384 ⟨by decide, by decide⟩ (by decide) ?_
        refine aw_icmp_ge (tgt := 465) d_Mo_attempt_387 (by decide) (fun c_387 => ?_) (fun c_387 => ?_)
        · skip
          refine ax_iinc (lv' := [(3, vi (i + 1)), (4, vi c), (2, vi 78), (0, vr 175)]) d_Mo_attempt_465 rfl (by decide) ⟨(by omega), (by omega)⟩ rfl ?_
          refine aw_goto (tgt := 347) d_Mo_attempt_468 (by decide) ?_
          refine aw_sub (lv' := [(3, vi (i + 1)), (2, vi 78), (0, vr 175)]) (by simp) ?_
          exact ih_347 _ (by omega) (i + 1) K3 u_376 (by omega) (F3) (fun m a b x u v => by by_cases z : m = i; exact (by rw [z]; exact r3.1 x u (by omega)); exact (by rw [t3.1 _ _ (by omega) (Or.inl (by omega)), rowTo_ne (by omega)]; exact dn m a (by omega) x u v)) (fun m a b c x u v => by rw [t3.1 _ _ (by omega) (Or.inl (by omega)), rowTo_ne (by omega)]; exact td m a (by omega) c x u v) rfl
        · skip
          have c1 := prB_in (B := (sgB 0 sk rh mu t)) (V := (sgV 0 sk i)) c hc.1 (by omega)
          have c3 := cen_b c1
          have c5 := (show -131072 < (sgMs 0 rh (t * 4 + i)) c ∧ (sgMs 0 rh (t * 4 + i)) c ≤ 131072 from ⟨by have := (sgMs_b (s := 0) (rh := rh) (n := t * 4 + i) (j := c)).1; rw [show pG1 0 - 2 ^ (pB 0).toNat = -131072 from by decide] at this; exact this, (sgMs_b (s := 0) (rh := rh) (n := t * 4 + i) (j := c)).2⟩)
          have zz := zl (t := 130994) (by decide) c5 c1
          refine aw_aload_n d_Mo_attempt_390 rfl rfl ?_
          refine ax_getR (b := 204) d_Mo_attempt_391 fd_Mo_76 (k_175 S) (r_175_28 S) ?_
          refine aw_bipush d_Mo_attempt_394 ⟨by decide, by decide⟩ (by decide) ?_
          refine aw_iload_n d_Mo_attempt_396 rfl rfl ?_
          refine ax_iadd d_Mo_attempt_397 ⟨(by omega), (by omega)⟩ ?_
          refine ax_aald (b := 205 + (23 + i).toNat) d_Mo_attempt_398 ⟨by rw [(k_204 S)]; decide, by rw [(k_204 S)]; decide⟩ (by omega) (by rw [n_204 S]; omega) (g_204 S (by omega) (by omega)) ?_
          refine aw_iload d_Mo_attempt_399 rfl ?_
          refine aw_dup2 d_Mo_attempt_401 rfl rfl ?_
          refine ax_ialde (x := (sgMs 0 rh (t * 4 + i)) c) d_Mo_attempt_402 (kr_204 S (by omega)) (by omega) (by rw [nr_204 S (by omega)]; omega) (r3.2 c (Int.le_refl _) (by omega)) ?_
          refine aw_aload_n d_Mo_attempt_403 rfl rfl ?_
          refine ax_getR (b := 204) d_Mo_attempt_404 fd_Mo_76 (k_175 S) (r_175_28 S) ?_
          refine aw_bipush d_Mo_attempt_407 ⟨by decide, by decide⟩ (by decide) ?_
          refine ax_aald (b := 252) d_Mo_attempt_409 ⟨by rw [(k_204 S)]; decide, by rw [(k_204 S)]; decide⟩ (by omega) (by rw [n_204 S]; omega) (g_204 S (j := 47) (by decide) (by decide)) ?_
          refine aw_iload d_Mo_attempt_410 rfl ?_
          refine ax_ialde (x := cen (prB (sgB 0 sk rh mu t) (sgV 0 sk i) c)) d_Mo_attempt_412 (k_252 S) (by omega) (by rw [n_252 S]; omega) (p3 (by omega)) ?_
          refine ax_iadd d_Mo_attempt_413 ⟨(by omega), (by omega)⟩ ?_
          refine ax_iast d_Mo_attempt_414 (kr_204 S (by omega)) (by omega) (by omega) (by rw [nr_204 S (by omega)]; omega) ?_
          refine aw_aload_n d_Mo_attempt_415 rfl rfl ?_
          refine ax_getR (b := 204) d_Mo_attempt_416 fd_Mo_76 (k_175 S) (r_175_28 S) ?_
          refine aw_bipush d_Mo_attempt_419 ⟨by decide, by decide⟩ (by decide) ?_
          refine aw_iload_n d_Mo_attempt_421 rfl rfl ?_
          refine ax_iadd d_Mo_attempt_422 ⟨(by omega), (by omega)⟩ ?_
          refine ax_aald (b := 205 + (23 + i).toNat) d_Mo_attempt_423 ⟨by rw [(k_204 S)]; decide, by rw [(k_204 S)]; decide⟩ (by omega) (by rw [n_204 S]; omega) (g_204 S (by omega) (by omega)) ?_
          refine aw_iload d_Mo_attempt_424 rfl ?_
          refine ax_ialde (x := ((sgMs 0 rh (t * 4 + i)) c) + (cen (prB (sgB 0 sk rh mu t) (sgV 0 sk i) c))) d_Mo_attempt_426 (kr_204 S (by omega)) (by omega) (by rw [nr_204 S (by omega)]; omega) (a_up_at) ?_
          refine aw_aload_n d_Mo_attempt_427 rfl rfl ?_
          refine ax_getIe (x := 131072) d_Mo_attempt_428 fd_Mo_237 (k_175 S) (Eq.trans (a_up_ne (Or.inl (by omega))) (Eq.trans (F3.1 175 35 (by omega) (Or.inr (by decide))) (dr0_35 D))) ?_
          refine aw_iload_n d_Mo_attempt_431 rfl rfl ?_
          refine ax_isub d_Mo_attempt_432 ⟨(by omega), (by omega)⟩ ?_
          refine ax_ti (x := 130994) (by decide) ?_
          refine aw_icmp_ge (tgt := 457) d_Mo_attempt_433 (by decide) (fun c_433 => ?_) (fun c_433 => ?_)
          · skip
            refine aw_iconst d_Mo_attempt_457 ⟨by decide, by decide⟩ ?_
            exact aw_iret d_Mo_attempt_458 rfl (hP _ _ ⟨_, _, _, rfl, rfl, F0.tr (F3.tr (FR.up (p := fun a => a = 252 ∨ 228 ≤ a ∧ a ≤ 234) (by omega)) (fun a x => ⟨x, x⟩)) (by intro a x; exact ⟨x, by intro z; exact x (by omega)⟩), Or.inr (Or.inl ⟨rfl, okk, fun z => by have y := z.1 i hi.1 (by show i < 4; omega) c hc.1 (by omega); exact y (zz.1 (by omega))⟩)⟩)
          · skip
            refine aw_aload_n d_Mo_attempt_436 rfl rfl ?_
            refine ax_getR (b := 204) d_Mo_attempt_437 fd_Mo_76 (k_175 S) (r_175_28 S) ?_
            refine aw_bipush d_Mo_attempt_440 ⟨by decide, by decide⟩ (by decide) ?_
            refine aw_iload_n d_Mo_attempt_442 rfl rfl ?_
            refine ax_iadd d_Mo_attempt_443 ⟨(by omega), (by omega)⟩ ?_
            refine ax_aald (b := 205 + (23 + i).toNat) d_Mo_attempt_444 ⟨by rw [(k_204 S)]; decide, by rw [(k_204 S)]; decide⟩ (by omega) (by rw [n_204 S]; omega) (g_204 S (by omega) (by omega)) ?_
            refine aw_iload d_Mo_attempt_445 rfl ?_
            refine ax_ialde (x := ((sgMs 0 rh (t * 4 + i)) c) + (cen (prB (sgB 0 sk rh mu t) (sgV 0 sk i) c))) d_Mo_attempt_447 (kr_204 S (by omega)) (by omega) (by rw [nr_204 S (by omega)]; omega) (a_up_at) ?_
            refine aw_iload_n d_Mo_attempt_448 rfl rfl ?_
            refine aw_aload_n d_Mo_attempt_449 rfl rfl ?_
            refine ax_getIe (x := 131072) d_Mo_attempt_450 fd_Mo_237 (k_175 S) (Eq.trans (a_up_ne (Or.inl (by omega))) (Eq.trans (F3.1 175 35 (by omega) (Or.inr (by decide))) (dr0_35 D))) ?_
            refine ax_isub d_Mo_attempt_453 ⟨(by omega), (by omega)⟩ ?_
            refine ax_ti (x := -130994) (by decide) ?_
            refine aw_icmp_gt (tgt := 459) d_Mo_attempt_454 (by decide) (fun c_454 => ?_) (fun c_454 => ?_)
            · skip
              refine ax_iinc (lv' := [(4, vi (c + 1)), (3, vi i), (2, vi 78), (0, vr 175)]) d_Mo_attempt_459 rfl (by decide) ⟨(by omega), (by omega)⟩ rfl ?_
              refine aw_goto (tgt := 382) d_Mo_attempt_462 (by decide) ?_
              exact ih_382 _ (by omega) (c + 1) (a_up K3 (205 + (23 + i).toNat) c (((sgMs 0 rh (t * 4 + i)) c) + (cen (prB (sgB 0 sk rh mu t) (sgV 0 sk i) c)))) (by omega) (F3.tr (FR.up (p := fun a => a = 252 ∨ 228 ≤ a ∧ a ≤ 234) (by omega)) (fun a x => ⟨x, x⟩)) (t3.tr (FR.up (p := fun a => a = 205 + (23 + i).toNat) rfl) (fun a x => ⟨x, x⟩)) (⟨fun x a b => by by_cases z : x = c; exact (by rw [z, a_up_at]; exact ⟨rfl, by omega, by omega⟩); exact (by rw [a_up_ne (Or.inr z)]; exact r3.1 x a (by omega)), fun x a b => by rw [a_up_ne (Or.inr (by omega))]; exact r3.2 x (by omega) b⟩) rfl
            · skip
              refine aw_iconst d_Mo_attempt_457 ⟨by decide, by decide⟩ ?_
              exact aw_iret d_Mo_attempt_458 rfl (hP _ _ ⟨_, _, _, rfl, rfl, F0.tr (F3.tr (FR.up (p := fun a => a = 252 ∨ 228 ≤ a ∧ a ≤ 234) (by omega)) (fun a x => ⟨x, x⟩)) (by intro a x; exact ⟨x, by intro z; exact x (by omega)⟩), Or.inr (Or.inl ⟨rfl, okk, fun z => by have y := z.1 i hi.1 (by show i < 4; omega) c hc.1 (by omega); exact y (zz.1 (by omega))⟩)⟩)
      skip
      exact lp_382 _ 0 (rowTo K2 252 256 (few (K2 251) (K2 (205 + i.toNat)))) (by omega) (F2.tr (FR.row (p := fun a => a = 252 ∨ 228 ≤ a ∧ a ≤ 234) (by omega) l1) (fun a x => ⟨x, x⟩)) (FR.rfl') (⟨fun x a b => by omega, fun x a b => by rw [rowTo_ne (by omega)]; exact td i hi.1 (Int.le_refl _) (by omega) x (by omega) b⟩) rfl
  skip
  exact lp_347 _ 0 K M (by omega) (FR.rfl') (fun m a b => by omega) (fun m a b => hM m a) rfl
set_option maxHeartbeats 800000 in
set_option maxRecDepth 100000 in
theorem aC0 {l : Launch} {G : a_G} {P : a_R → Hp → Prop} {h : Hp} {K0 M0 K M : Nat → Int → Int} {sk rh mu : Int → Int} {t : Int} (S : Shp h) (D0 : RD K0 M0 0) (hk0 : HR K0 180 0 2560 sk) (km : ∀ x, sk x % 256 = sk x) (hr0 : HR K0 266 0 64 rh) (rm0 : ∀ x, rh x % 256 = rh x) (hm0 : HR K0 265 0 64 mu) (mm0 : ∀ x, mu x % 256 = mu x) (hS0 : ∀ m, 0 ≤ m → m < 8 → eqQ (K0 (205 + m.toNat)) (sgSs 0 sk m)) (hD0 : ∀ m, 0 ≤ m → m < 4 → eqQ (K0 (205 + (15 + m).toNat)) (sgDs 0 sk m)) (ht : 0 ≤ t ∧ t < 814) (F0 : FR pAt K0 M0 K M) (okA : sgOk 0 sk) (hM : ∀ m, 0 ≤ m → m < 4 → eqQ (K (205 + (23 + m).toNat)) (sgMs 0 rh (t * 4 + m))) (hW : ∀ m, 0 ≤ m → m < 4 → eqQ (K (205 + (30 + m).toNat)) ((sgW 0 sk rh t) m)) (hH : ∀ m, 0 ≤ m → m < 4 → eqQ (K (205 + (38 + m).toNat)) ((fun m j => dHigh 95232 ((sgW 0 sk rh t) m j)) m)) (hP : ∀ r_ h2_, RaR h K0 M0 pAt (sgOk 0 sk ∧ bll 39 (sgBs 0 sk rh mu t) ≠ none) (sgGood 0 sk rh mu t) 2420 (sgPk 0 sk rh mu t) r_ h2_ → P r_ h2_) : AW l G M_Mo_attempt P 304 [(0, vr 175)] [] (sD h K M) := by
  have D := D0.fr F0 (by decide)
  refine aw_aload_n d_Mo_attempt_304 rfl rfl ?_
  refine aw_bipush d_Mo_attempt_305 ⟨by decide, by decide⟩ (by decide) ?_
  refine aw_aload_n d_Mo_attempt_307 rfl rfl ?_
  refine ax_getR (b := 267) d_Mo_attempt_308 fd_Mo_99 (k_175 S) (r_175_43 S) ?_
  refine ax_Vr (st := []) (as := [vi 38, vr 267]) (b := 175) d_Mo_attempt_311 cs_Mo_attempt_311 (k_175 S) (c_Mo_challenge0_38 (mu := mu) (X := (fun m j => dHigh 95232 ((sgW 0 sk rh t) m j))) S D hH (fun m a b j x y => by have := dHi44 (imF_in (A := sgA 0 sk) (V := fun j => fwd rt (sgM 0 rh (t * pL 0 + j))) (l := pL 0) (n := (pL 0).toNat) (m := m) j x y); show 0 ≤ dHigh 95232 ((sgW 0 sk rh t) m j) ∧ dHigh 95232 ((sgW 0 sk rh t) m j) < 2 ^ 6; have e_ : imF (sgA 0 sk) (fun j => fwd rt (sgM 0 rh (t * pL 0 + j))) (pL 0) (pL 0).toNat m j = (sgW 0 sk rh t) m j := rfl; rw [e_] at this; omega) (hm0.fr F0 (by decide) (by decide)) (fun k _ _ => mm0 k)) rfl rfl rfl (fun u_311 q_311 => ?_)
  obtain ⟨I1, L1⟩ := u_311
  obtain ⟨F1, h1⟩ := q_311
  dsimp only at F1 h1
  have h1 : HR I1 267 0 32 (sgC 0 sk rh mu t) := h1
  have D1 := D.fr F1 (by decide)
  have eB : blS (fun k => I1 267 (0 + k)) 32 = sgBs 0 sk rh mu t := blS_congr (fun k hk => by rw [h1 k (by omega) hk, show (sgC 0 sk rh mu t) k = spOut _ k from rfl, spOut_m])
  show AW l G M_Mo_attempt P 314 [(0, vr 175)] [] (sD h I1 L1)
  refine aw_aload_n d_Mo_attempt_314 rfl rfl ?_
  refine aw_aload_n d_Mo_attempt_315 rfl rfl ?_
  refine ax_getR (b := 204) d_Mo_attempt_316 fd_Mo_76 (k_175 S) (r_175_28 S) ?_
  refine aw_bipush d_Mo_attempt_319 ⟨by decide, by decide⟩ (by decide) ?_
  refine ax_aald (b := 251) d_Mo_attempt_321 ⟨by rw [(k_204 S)]; decide, by rw [(k_204 S)]; decide⟩ (by omega) (by rw [n_204 S]; omega) (g_204 S (j := 46) (by decide) (by decide)) ?_
  refine aw_aload_n d_Mo_attempt_322 rfl rfl ?_
  refine ax_getR (b := 267) d_Mo_attempt_323 fd_Mo_99 (k_175 S) (r_175_43 S) ?_
  refine aw_iconst d_Mo_attempt_326 ⟨by decide, by decide⟩ ?_
  refine ax_Vr (st := []) (as := [vr 251, vr 267, vi 0]) (b := 175) d_Mo_attempt_327 cs_Mo_attempt_327 (k_175 S) (c_Mo_ball S D1.1 ⟨k_267 S, by decide, by decide⟩ (dr0_38 D1) (dr0_34 D1) (by decide) (by rw [n_267 S]; decide)) rfl rfl rfl (fun u_327 q_327 => ?_)
  obtain ⟨I2, L2, v2⟩ := u_327
  obtain ⟨F2, q2, r2⟩ := q_327
  dsimp only at F2 q2 r2
  rw [eB] at q2 r2
  have G2 : FR (fun a => a = 200 ∨ a = 251) I1 L1 I2 L2 := ⟨fun a j x y => F2.1 a j (by rcases y with y | y; exact Or.inl y; exact Or.inr ⟨y.1, y.2.1, y.2.2.1⟩) (fun z => x (Or.inl z)) (fun z => x (Or.inr z)), fun a j x y z u _ => F2.2 a j x y z u⟩
  have G3 : FR (fun a => a = 200 ∨ a = 251 ∨ a = 262 ∨ a = 267) K M I2 L2 := F1.tr G2 (by intro a x; omega)
  show AW l G M_Mo_attempt P 330 [(0, vr 175)] [vi v2] (sD h I2 L2)
  refine aw_if_ne (tgt := 335) d_Mo_attempt_330 (by decide) (fun c_330 => ?_) (fun c_330 => ?_)
  · skip
    refine aw_sub (lv' := [(0, vr 175)]) (by simp) ?_
    have bn : bll 39 (sgBs 0 sk rh mu t) ≠ none := by rcases q2 with y | y; exact y.2; exact absurd y.1 (by omega)
    exact aD0 S D0 hk0 km hr0 rm0 hm0 mm0 hS0 hD0 ht (F0.tr G3 (by intro a x; exact ⟨x, by intro z; exact x (by omega)⟩)) ⟨okA, bn⟩ (h1.fr G2 (by decide) (by decide)) (fun m a b j x y => by rw [G3.1 _ _ (by omega) (Or.inl (by omega))]; exact hM m a b j x y) (fun m a b j x y => by rw [G3.1 _ _ (by omega) (Or.inl (by omega))]; exact hW m a b j x y) (r2 bn) hP
  · skip
    refine aw_iconst d_Mo_attempt_333 ⟨by decide, by decide⟩ ?_
    exact aw_iret d_Mo_attempt_334 rfl (hP _ _ ⟨_, _, _, rfl, rfl, F0.tr G3 (by intro a x; exact ⟨x, by intro z; exact x (by omega)⟩), Or.inl ⟨rfl, fun z => by rcases q2 with y | y; exact absurd y.1 (by omega); exact z.2 y.2⟩⟩)
set_option maxHeartbeats 4000000 in
set_option maxRecDepth 100000 in
theorem aB0 {l : Launch} {G : a_G} {P : a_R → Hp → Prop} {h : Hp} {K0 M0 K M : Nat → Int → Int} {sk rh mu : Int → Int} {t : Int} (S : Shp h) (D0 : RD K0 M0 0) (hk0 : HR K0 180 0 2560 sk) (km : ∀ x, sk x % 256 = sk x) (hr0 : HR K0 266 0 64 rh) (rm0 : ∀ x, rh x % 256 = rh x) (hm0 : HR K0 265 0 64 mu) (mm0 : ∀ x, mu x % 256 = mu x) (hS0 : ∀ m, 0 ≤ m → m < 8 → eqQ (K0 (205 + m.toNat)) (sgSs 0 sk m)) (hD0 : ∀ m, 0 ≤ m → m < 4 → eqQ (K0 (205 + (15 + m).toNat)) (sgDs 0 sk m)) (ht : 0 ≤ t ∧ t < 814) (F0 : FR pAt K0 M0 K M) (hM : ∀ m, 0 ≤ m → m < 4 → eqQ (K (205 + (23 + m).toNat)) (sgMs 0 rh (t * 4 + m))) (hP : ∀ r_ h2_, RaR h K0 M0 pAt (sgOk 0 sk ∧ bll 39 (sgBs 0 sk rh mu t) ≠ none) (sgGood 0 sk rh mu t) 2420 (sgPk 0 sk rh mu t) r_ h2_ → P r_ h2_) : AW l G M_Mo_attempt P 97 [(0, vr 175)] [] (sD h K M) := by
  have D := D0.fr F0 (by decide)
  have hk := hk0.fr F0 (by decide) (by decide)
  refine aw_iconst d_Mo_attempt_97 ⟨by decide, by decide⟩ ?_
  refine aw_istore_n (lv' := [(2, vi 0), (0, vr 175)]) d_Mo_attempt_98 rfl (by decide) rfl ?_
  have lp_99 : ∀ (n_ : Nat) (i : Int) (K2 : Nat → Int → Int) (M2 : Nat → Int → Int), (0 ≤ i ∧ i ≤ 4) → (FR (fun a => 235 ≤ a ∧ a ≤ 252) K M K2 M2) → (∀ m, 0 ≤ m → m < i → eqQ (K2 (205 + (30 + m).toNat)) ((sgW 0 sk rh t) m)) → (∀ m, 0 ≤ m → m < i → eqQ (K2 (205 + (38 + m).toNat)) ((fun m j => dHigh 95232 ((sgW 0 sk rh t) m j)) m)) → (∀ m, 0 ≤ m → m < 4 * i → (wide sk (m % 4) (m / 4)).2.1 = 256) → ((4 - i).toNat) = n_ → AW l G M_Mo_attempt P 99 [(2, vi i), (0, vr 175)] [] (sD h K2 M2) := by
    intro n_
    induction n_ using Nat.strongRecOn with
    | _ n_ ih_99 =>
    intro i K2 M2 hi F2 dW dH okA hm_99
    refine aw_iload_n d_Mo_attempt_99 rfl rfl ?_
    refine aw_aload_n d_Mo_attempt_100 rfl rfl ?_
    refine ax_getIe (x := 4) d_Mo_attempt_101 fd_Mo_223 (k_175 S) (Eq.trans (F2.1 175 26 (by omega) (Or.inr (by decide))) (dr0_26 D)) ?_
    refine aw_icmp_ge (tgt := 304) d_Mo_attempt_104 (by decide) (fun c_104 => ?_) (fun c_104 => ?_)
    · skip
      refine aw_sub (lv' := [(0, vr 175)]) (by simp) ?_
      exact aC0 S D0 hk0 km hr0 rm0 hm0 mm0 hS0 hD0 ht (F0.tr F2 (by intro a x; exact ⟨x, by intro z; exact x (by omega)⟩)) (fun m a b => okA m a (by have b2 : m < 16 := b; omega)) (fun m a b j x y => by rw [F2.1 _ _ (by omega) (Or.inl (by omega))]; exact hM m a b j x y) (fun m a b => dW m a (by omega)) (fun m a b => dH m a (by omega)) hP
    · skip
      refine aw_aload_n d_Mo_attempt_107 rfl rfl ?_
      refine ax_getR (b := 204) d_Mo_attempt_108 fd_Mo_76 (k_175 S) (r_175_28 S) ?_
      refine aw_bipush d_Mo_attempt_111 ⟨by decide, by decide⟩ (by decide) ?_
      refine aw_iload_n d_Mo_attempt_113 rfl rfl ?_
      refine ax_iadd d_Mo_attempt_114 ⟨(by omega), (by omega)⟩ ?_
      refine ax_aald (b := 205 + (30 + i).toNat) d_Mo_attempt_115 ⟨by rw [(k_204 S)]; decide, by rw [(k_204 S)]; decide⟩ (by omega) (by rw [n_204 S]; omega) (g_204 S (by omega) (by omega)) ?_
      refine ax_S (st := []) (as := [vr (205 + (30 + i).toNat)]) (v := none) (h' := sD h (rowTo K2 (205 + (30 + i).toNat) 256 (fun _ => 0)) M2) d_Mo_attempt_116 cs_Mo_attempt_116 (c_Mo_clear ⟨kr_204 S (by omega), by omega, nr_204 S (by omega)⟩) rfl rfl rfl ?_
      show AW l G M_Mo_attempt P 119 [(2, vi i), (0, vr 175)] [] (sD h (rowTo K2 (205 + (30 + i).toNat) 256 (fun _ => 0)) M2)
      refine aw_iconst d_Mo_attempt_119 ⟨by decide, by decide⟩ ?_
      refine aw_istore_n (lv' := [(3, vi 0), (2, vi i), (0, vr 175)]) d_Mo_attempt_120 rfl (by decide) rfl ?_
      have lp_121 : ∀ (n_ : Nat) (j : Int) (K3 : Nat → Int → Int) (M3 : Nat → Int → Int), (0 ≤ j ∧ j ≤ 4) → (FR (fun a => a = 205 + (30 + i).toNat ∨ a = 251 ∨ a = 252) K2 M2 K3 M3) → (eqQ (K3 (205 + (30 + i).toNat)) (fun c => pS (sgA 0 sk) (fun j => fwd rt (sgM 0 rh (t * 4 + j))) (i * 4) c j.toNat % 8380417)) → (∀ m, 0 ≤ m → m < j → (wide sk m i).2.1 = 256) → ((4 - j).toNat) = n_ → AW l G M_Mo_attempt P 121 [(3, vi j), (2, vi i), (0, vr 175)] [] (sD h K3 M3) := by
        intro n_
        induction n_ using Nat.strongRecOn with
        | _ n_ ih_121 =>
        intro j K3 M3 hj F3 r3 okJ hm_121
        have D3 := (D.fr F2 (by omega)).fr F3 (by omega)
        have hs3 := (hk.fr F2 (by omega) (by decide)).fr F3 (by omega) (by decide)
        have m3 : ∀ c, 0 ≤ c → c < 256 → j < 4 → K3 (205 + (23 + j).toNat) c = (sgMs 0 rh (t * 4 + j)) c := fun c x y z => by rw [F3.1 _ _ (by omega) (Or.inl (by omega)), F2.1 _ _ (by omega) (Or.inl (by omega))]; exact hM j hj.1 z c x y
        refine aw_iload_n d_Mo_attempt_121 rfl rfl ?_
        refine aw_aload_n d_Mo_attempt_122 rfl rfl ?_
        refine ax_getIe (x := 4) d_Mo_attempt_123 fd_Mo_226 (k_175 S) (Eq.trans (F3.1 175 32 (by omega) (Or.inr (by decide))) (Eq.trans (F2.1 175 32 (by omega) (Or.inr (by decide))) (dr0_32 D))) ?_
        refine aw_icmp_ge (tgt := 244) d_Mo_attempt_126 (by decide) (fun c_126 => ?_) (fun c_126 => ?_)
        · skip
          refine aw_aload_n d_Mo_attempt_244 rfl rfl ?_
          refine aw_aload_n d_Mo_attempt_245 rfl rfl ?_
          refine ax_getR (b := 204) d_Mo_attempt_246 fd_Mo_76 (k_175 S) (r_175_28 S) ?_
          refine aw_bipush d_Mo_attempt_249 ⟨by decide, by decide⟩ (by decide) ?_
          refine aw_iload_n d_Mo_attempt_251 rfl rfl ?_
          refine ax_iadd d_Mo_attempt_252 ⟨(by omega), (by omega)⟩ ?_
          refine ax_aald (b := 205 + (30 + i).toNat) d_Mo_attempt_253 ⟨by rw [(k_204 S)]; decide, by rw [(k_204 S)]; decide⟩ (by omega) (by rw [n_204 S]; omega) (g_204 S (by omega) (by omega)) ?_
          refine ax_Vr (st := []) (as := [vr (205 + (30 + i).toNat)]) (b := 175) d_Mo_attempt_254 cs_Mo_attempt_254 (k_175 S) (c_Mo_interpolate S ⟨kr_204 S (by omega), by omega, nr_204 S (by omega)⟩ (by omega) (fun x a b => by rw [r3 x a b]; show 0 ≤ _ % 8380417 ∧ _ % 8380417 < 8380417; exact ⟨Int.emod_nonneg _ (by decide), Int.emod_lt_of_pos _ (by decide)⟩) D3.2.2) rfl rfl rfl (fun u_254 q_254 => ?_)
          have l7 := q_254
          have w7 : eqQ ((rowTo K3 (205 + (30 + i).toNat) 256 (itp (K3 (205 + (30 + i).toNat)))) (205 + (30 + i).toNat)) ((sgW 0 sk rh t) i) := fun x a b => by rw [rowTo_in a b]; show itp _ x = bck rt (fun c => pS (sgA 0 sk) (fun j => fwd rt (sgM 0 rh (t * 4 + j))) (i * 4) c 4 % 8380417) x; rw [bck_itp a b]; exact itp_cq (fun y hy => cq.e (by rw [r3 y (by omega) (by omega), show j.toNat = 4 by omega]))
          show AW l G M_Mo_attempt P 257 [(3, vi j), (2, vi i), (0, vr 175)] [] (sD h (rowTo K3 (205 + (30 + i).toNat) 256 (itp (K3 (205 + (30 + i).toNat)))) u_254)
          refine aw_iconst d_Mo_attempt_257 ⟨by decide, by decide⟩ ?_
          refine aw_istore_n (lv' := [(3, vi 0), (2, vi i), (0, vr 175)]) d_Mo_attempt_258 rfl (by decide) rfl ?_
          have lp_259 : ∀ (n_ : Nat) (c : Int), (0 ≤ c ∧ c ≤ 256) → ((256 - c).toNat) = n_ → AW l G M_Mo_attempt P 259 [(3, vi c), (2, vi i), (0, vr 175)] [] (sD h (rowTo (rowTo K3 (205 + (30 + i).toNat) 256 (itp (K3 (205 + (30 + i).toNat)))) (205 + (38 + i).toNat) c (fun x => dHigh 95232 ((sgW 0 sk rh t) i x))) u_254) := by
            intro n_
            induction n_ using Nat.strongRecOn with
            | _ n_ ih_259 =>
            intro c hc8 hm_259
            have w8 : c < 256 → (rowTo (rowTo K3 (205 + (30 + i).toNat) 256 (itp (K3 (205 + (30 + i).toNat)))) (205 + (38 + i).toNat) c (fun x => dHigh 95232 ((sgW 0 sk rh t) i x))) (205 + (30 + i).toNat) c = (sgW 0 sk rh t) i c := fun v => by rw [rowTo_ne (by omega)]; exact w7 c hc8.1 v
            have gp8 : (rowTo (rowTo K3 (205 + (30 + i).toNat) 256 (itp (K3 (205 + (30 + i).toNat)))) (205 + (38 + i).toNat) c (fun x => dHigh 95232 ((sgW 0 sk rh t) i x))) 175 36 = 95232 := by rw [rowTo_ne (by omega), rowTo_ne (by omega)]; exact dr0_36 D3
            refine aw_iload_n d_Mo_attempt_259 rfl rfl ?_
            refine aw_sipush d_Mo_attempt_260 ⟨by decide, by decide⟩ (by decide) ?_
            refine aw_icmp_ge (tgt := 298) d_Mo_attempt_263 (by decide) (fun c_263 => ?_) (fun c_263 => ?_)
            · skip
              rw [show c = 256 by omega]
              refine ax_iinc (lv' := [(2, vi (i + 1)), (3, vi 256), (0, vr 175)]) d_Mo_attempt_298 rfl (by decide) ⟨(by omega), (by omega)⟩ rfl ?_
              refine aw_goto (tgt := 99) d_Mo_attempt_301 (by decide) ?_
              refine aw_sub (lv' := [(2, vi (i + 1)), (0, vr 175)]) (by simp) ?_
              exact ih_99 _ (by omega) (i + 1) (rowTo (rowTo K3 (205 + (30 + i).toNat) 256 (itp (K3 (205 + (30 + i).toNat)))) (205 + (38 + i).toNat) 256 (fun x => dHigh 95232 ((sgW 0 sk rh t) i x))) u_254 (by omega) (((F2.tr (F3.mono (r := fun a => 235 ≤ a ∧ a ≤ 252) (by intro a x; omega)) (fun a x => ⟨x, x⟩)).tr (FR.row (p := fun a => 235 ≤ a ∧ a ≤ 252) (by omega) l7) (fun a x => ⟨x, x⟩)).tr (FR.row (p := fun a => 235 ≤ a ∧ a ≤ 252) (by omega) (fun _ _ _ => rfl)) (fun a x => ⟨x, x⟩)) (fun m a b x u v => by by_cases z : m = i; exact (by rw [z, rowTo_ne (by omega)]; exact w7 x u v); exact (by rw [rowTo_ne (by omega), rowTo_ne (by omega), F3.1 _ _ (by omega) (Or.inl (by omega))]; exact dW m a (by omega) x u v)) (fun m a b x u v => by by_cases z : m = i; exact (by rw [z, rowTo_in u v]); exact (by rw [rowTo_ne (by omega), rowTo_ne (by omega), F3.1 _ _ (by omega) (Or.inl (by omega))]; exact dH m a (by omega) x u v)) (fun m a b => by by_cases v : m < 4 * i; exact okA m a v; exact (by have w_ := okJ (m - 4 * i) (by omega) (by omega); rw [show m % 4 = m - 4 * i by omega, show m / 4 = i by omega]; exact w_)) rfl
            · skip
              have c2 := imF_in (A := (sgA 0 sk)) (V := fun j => fwd rt (sgM 0 rh (t * pL 0 + j))) (l := pL 0) (n := (pL 0).toNat) (m := i) c hc8.1 (by omega)
              have c2 : 0 ≤ (sgW 0 sk rh t) i c ∧ (sgW 0 sk rh t) i c < 8380417 := c2
              refine aw_aload_n d_Mo_attempt_266 rfl rfl ?_
              refine ax_getR (b := 204) d_Mo_attempt_267 fd_Mo_76 (k_175 S) (r_175_28 S) ?_
              refine aw_bipush d_Mo_attempt_270 ⟨by decide, by decide⟩ (by decide) ?_
              refine aw_iload_n d_Mo_attempt_272 rfl rfl ?_
              refine ax_iadd d_Mo_attempt_273 ⟨(by omega), (by omega)⟩ ?_
              refine ax_aald (b := 205 + (38 + i).toNat) d_Mo_attempt_274 ⟨by rw [(k_204 S)]; decide, by rw [(k_204 S)]; decide⟩ (by omega) (by rw [n_204 S]; omega) (g_204 S (by omega) (by omega)) ?_
              refine aw_iload_n d_Mo_attempt_275 rfl rfl ?_
              refine aw_aload_n d_Mo_attempt_276 rfl rfl ?_
              refine aw_aload_n d_Mo_attempt_277 rfl rfl ?_
              refine ax_getR (b := 204) d_Mo_attempt_278 fd_Mo_76 (k_175 S) (r_175_28 S) ?_
              refine aw_bipush d_Mo_attempt_281 ⟨by decide, by decide⟩ (by decide) ?_
              refine aw_iload_n d_Mo_attempt_283 rfl rfl ?_
              refine ax_iadd d_Mo_attempt_284 ⟨(by omega), (by omega)⟩ ?_
              refine ax_aald (b := 205 + (30 + i).toNat) d_Mo_attempt_285 ⟨by rw [(k_204 S)]; decide, by rw [(k_204 S)]; decide⟩ (by omega) (by rw [n_204 S]; omega) (g_204 S (by omega) (by omega)) ?_
              refine aw_iload_n d_Mo_attempt_286 rfl rfl ?_
              refine ax_ialde (x := (sgW 0 sk rh t) i c) d_Mo_attempt_287 (kr_204 S (by omega)) (by omega) (by rw [nr_204 S (by omega)]; omega) (w8 (by omega)) ?_
              refine ax_V (st := [vi c, vr (205 + (38 + i).toNat)]) (as := [vi ((sgW 0 sk rh t) i c)]) (b := 175) (v := some (vi (dHigh 95232 ((sgW 0 sk rh t) i c)))) (h' := sD h (rowTo (rowTo K3 (205 + (30 + i).toNat) 256 (itp (K3 (205 + (30 + i).toNat)))) (205 + (38 + i).toNat) c (fun x => dHigh 95232 ((sgW 0 sk rh t) i x))) u_254) d_Mo_attempt_288 cs_Mo_attempt_288 (k_175 S) (by have z := c_Mo_high (l := l) (G := G) (L := u_254) (I := rowTo (rowTo K3 (205 + (30 + i).toNat) 256 (itp (K3 (205 + (30 + i).toNat)))) (205 + (38 + i).toNat) c (fun x => dHigh 95232 ((sgW 0 sk rh t) i x))) (r := (sgW 0 sk rh t) i c) S (by rw [gp8]; decide) c2; rw [gp8] at z; exact z) rfl rfl rfl ?_
              show AW l G M_Mo_attempt P 291 [(3, vi c), (2, vi i), (0, vr 175)] [vi (dHigh 95232 ((sgW 0 sk rh t) i c)), vi c, vr (205 + (38 + i).toNat)] (sD h (rowTo (rowTo K3 (205 + (30 + i).toNat) 256 (itp (K3 (205 + (30 + i).toNat)))) (205 + (38 + i).toNat) c (fun x => dHigh 95232 ((sgW 0 sk rh t) i x))) u_254)
              refine ax_iast d_Mo_attempt_291 (kr_204 S (by omega)) (by omega) (by omega) (by rw [nr_204 S (by omega)]; omega) ?_
              rw [rowTo_1 (by omega) rfl]
              refine ax_iinc (lv' := [(3, vi (c + 1)), (2, vi i), (0, vr 175)]) d_Mo_attempt_292 rfl (by decide) ⟨(by omega), (by omega)⟩ rfl ?_
              refine aw_goto (tgt := 259) d_Mo_attempt_295 (by decide) ?_
              exact ih_259 _ (by omega) (c + 1) (by omega) rfl
          refine ax_hp (h' := sD h (rowTo (rowTo K3 (205 + (30 + i).toNat) 256 (itp (K3 (205 + (30 + i).toNat)))) (205 + (38 + i).toNat) 0 (fun x => dHigh 95232 ((sgW 0 sk rh t) i x))) u_254) (by rw [rowTo_0]) ?_
          exact lp_259 _ 0 (by omega) rfl
        · skip
          refine aw_iconst d_Mo_attempt_129 ⟨by decide, by decide⟩ ?_
          refine aw_istore (lv' := [(4, vi 0), (3, vi j), (2, vi i), (0, vr 175)]) d_Mo_attempt_130 (by decide) rfl ?_
          have lp_132 : ∀ (n_ : Nat) (c : Int), (0 ≤ c ∧ c ≤ 256) → ((256 - c).toNat) = n_ → AW l G M_Mo_attempt P 132 [(4, vi c), (3, vi j), (2, vi i), (0, vr 175)] [] (sD h (rowTo K3 251 c (fun x => ((sgMs 0 rh (t * 4 + j)) x + 8380417) % 8380417)) M3) := by
            intro n_
            induction n_ using Nat.strongRecOn with
            | _ n_ ih_132 =>
            intro c hc hm_132
            refine aw_iload d_Mo_attempt_132 rfl ?_
            refine aw_sipush d_Mo_attempt_134 ⟨by decide, by decide⟩ (by decide) ?_
            refine aw_icmp_ge (tgt := 176) d_Mo_attempt_137 (by decide) (fun c_137 => ?_) (fun c_137 => ?_)
            · skip
              rw [show c = 256 by omega]
              refine aw_aload_n d_Mo_attempt_176 rfl rfl ?_
              refine aw_aload_n d_Mo_attempt_177 rfl rfl ?_
              refine ax_getR (b := 204) d_Mo_attempt_178 fd_Mo_76 (k_175 S) (r_175_28 S) ?_
              refine aw_bipush d_Mo_attempt_181 ⟨by decide, by decide⟩ (by decide) ?_
              refine ax_aald (b := 251) d_Mo_attempt_183 ⟨by rw [(k_204 S)]; decide, by rw [(k_204 S)]; decide⟩ (by omega) (by rw [n_204 S]; omega) (g_204 S (j := 46) (by decide) (by decide)) ?_
              refine ax_Vr (st := []) (as := [vr 251]) (b := 175) d_Mo_attempt_184 cs_Mo_attempt_184 (k_175 S) (c_Mo_evaluate S ⟨k_251 S, by decide, n_251 S⟩ (by decide) (fun x u v => by rw [rowTo_in u v]; omega) (fun x u v => by rw [rowTo_ne (by decide)]; exact D3.2.2 x u v)) rfl rfl rfl (fun u_184 q_184 => ?_)
              have l5 := q_184
              have v5 : eqQ ((rowTo (rowTo K3 251 256 (fun x => ((sgMs 0 rh (t * 4 + j)) x + 8380417) % 8380417)) 251 256 (eva ((rowTo K3 251 256 (fun x => ((sgMs 0 rh (t * 4 + j)) x + 8380417) % 8380417)) 251))) 251) (fwd rt (sgM 0 rh (t * 4 + j))) := fun x u v => by rw [rowTo_in u v, fwd_eva u v]; exact eva_cq (fun y hy => cq.e (by rw [rowTo_in (by omega) (by omega)]; exact Int.add_emod_right _ _))
              have hs5 : HR (rowTo (rowTo K3 251 256 (fun x => ((sgMs 0 rh (t * 4 + j)) x + 8380417) % 8380417)) 251 256 (eva ((rowTo K3 251 256 (fun x => ((sgMs 0 rh (t * 4 + j)) x + 8380417) % 8380417)) 251))) 180 0 2560 sk := fun z x y => by rw [rowTo_ne (by decide), rowTo_ne (by decide)]; exact hs3 z x y
              have D5 := (D3.fr (FR.row (p := fun a => a = 251) (n := 256) (X := (fun x => ((sgMs 0 rh (t * 4 + j)) x + 8380417) % 8380417)) rfl (fun _ _ _ => rfl)) (by decide)).fr (FR.row (p := fun a => a = 251) (n := 256) (X := eva ((rowTo K3 251 256 (fun x => ((sgMs 0 rh (t * 4 + j)) x + 8380417) % 8380417)) 251)) rfl l5) (by decide)
              show AW l G M_Mo_attempt P 187 [(4, vi 256), (3, vi j), (2, vi i), (0, vr 175)] [] (sD h (rowTo (rowTo K3 251 256 (fun x => ((sgMs 0 rh (t * 4 + j)) x + 8380417) % 8380417)) 251 256 (eva ((rowTo K3 251 256 (fun x => ((sgMs 0 rh (t * 4 + j)) x + 8380417) % 8380417)) 251))) u_184)
              refine aw_aload_n d_Mo_attempt_187 rfl rfl ?_
              refine aw_aload_n d_Mo_attempt_188 rfl rfl ?_
              refine ax_getR (b := 204) d_Mo_attempt_189 fd_Mo_76 (k_175 S) (r_175_28 S) ?_
              refine aw_bipush d_Mo_attempt_192 ⟨by decide, by decide⟩ (by decide) ?_
              refine ax_aald (b := 252) d_Mo_attempt_194 ⟨by rw [(k_204 S)]; decide, by rw [(k_204 S)]; decide⟩ (by omega) (by rw [n_204 S]; omega) (g_204 S (j := 47) (by decide) (by decide)) ?_
              refine aw_aload_n d_Mo_attempt_195 rfl rfl ?_
              refine ax_getR (b := 177) d_Mo_attempt_196 fd_Mo_15 (k_175 S) (r_175_1 S) ?_
              refine aw_iconst d_Mo_attempt_199 ⟨by decide, by decide⟩ ?_
              refine ax_aald (b := 180) d_Mo_attempt_200 ⟨by rw [(k_177 S)]; decide, by rw [(k_177 S)]; decide⟩ (by omega) (by rw [n_177 S]; omega) (g_177 S (j := 2) (by decide) (by decide)) ?_
              refine aw_iconst d_Mo_attempt_201 ⟨by decide, by decide⟩ ?_
              refine aw_iload_n d_Mo_attempt_202 rfl rfl ?_
              refine aw_iload_n d_Mo_attempt_203 rfl rfl ?_
              refine ax_Vr (st := []) (as := [vr 252, vr 180, vi 0, vi j, vi i]) (b := 175) d_Mo_attempt_204 cs_Mo_attempt_204 (k_175 S) (by have z := c_Mo_sampleWide (l := l) (G := G) (I := rowTo (rowTo K3 251 256 (fun x => ((sgMs 0 rh (t * 4 + j)) x + 8380417) % 8380417)) 251 256 (eva ((rowTo K3 251 256 (fun x => ((sgMs 0 rh (t * 4 + j)) x + 8380417) % 8380417)) 251))) (L := u_184) (f := 252) (r := 180) (pa := 0) (x := j) (y := i) S D5.1 ⟨k_252 S, by decide, n_252 S⟩ (by decide) ⟨k_180 S, by decide, by decide⟩ (by rw [n_180 S]; decide); rw [wide_sk hs5 km (by decide)] at z; exact z) rfl rfl rfl (fun u_204 q_204 => ?_)
              obtain ⟨I6, L6⟩ := u_204
              obtain ⟨f6, r6⟩ := q_204
              dsimp only at f6 r6 ⊢
              by_cases ok_204 : (wide sk j i).2.1 = 256
              · skip
                rw [if_pos ok_204]
                show AW l G M_Mo_attempt P 207 [(4, vi 256), (3, vi j), (2, vi i), (0, vr 175)] [vi 1] (sD h I6 L6)
                refine aw_if_ne (tgt := 212) d_Mo_attempt_207 (by decide) (fun c_207 => ?_) (fun c_207 => False.elim (by omega))
                refine aw_aload_n d_Mo_attempt_212 rfl rfl ?_
                refine ax_getR (b := 204) d_Mo_attempt_213 fd_Mo_76 (k_175 S) (r_175_28 S) ?_
                refine aw_bipush d_Mo_attempt_216 ⟨by decide, by decide⟩ (by decide) ?_
                refine aw_iload_n d_Mo_attempt_218 rfl rfl ?_
                refine ax_iadd d_Mo_attempt_219 ⟨(by omega), (by omega)⟩ ?_
                refine ax_aald (b := 205 + (30 + i).toNat) d_Mo_attempt_220 ⟨by rw [(k_204 S)]; decide, by rw [(k_204 S)]; decide⟩ (by omega) (by rw [n_204 S]; omega) (g_204 S (by omega) (by omega)) ?_
                refine aw_aload_n d_Mo_attempt_221 rfl rfl ?_
                refine ax_getR (b := 204) d_Mo_attempt_222 fd_Mo_76 (k_175 S) (r_175_28 S) ?_
                refine aw_bipush d_Mo_attempt_225 ⟨by decide, by decide⟩ (by decide) ?_
                refine ax_aald (b := 251) d_Mo_attempt_227 ⟨by rw [(k_204 S)]; decide, by rw [(k_204 S)]; decide⟩ (by omega) (by rw [n_204 S]; omega) (g_204 S (j := 46) (by decide) (by decide)) ?_
                refine aw_aload_n d_Mo_attempt_228 rfl rfl ?_
                refine ax_getR (b := 204) d_Mo_attempt_229 fd_Mo_76 (k_175 S) (r_175_28 S) ?_
                refine aw_bipush d_Mo_attempt_232 ⟨by decide, by decide⟩ (by decide) ?_
                refine ax_aald (b := 252) d_Mo_attempt_234 ⟨by rw [(k_204 S)]; decide, by rw [(k_204 S)]; decide⟩ (by omega) (by rw [n_204 S]; omega) (g_204 S (j := 47) (by decide) (by decide)) ?_
                refine ax_S (st := []) (as := [vr (205 + (30 + i).toNat), vr 251, vr 252]) (v := none) (h' := sD h (rowTo I6 (205 + (30 + i).toNat) 256 (fun x => (I6 (205 + (30 + i).toNat) x + I6 251 x * I6 252 x) % 8380417)) L6) d_Mo_attempt_235 cs_Mo_attempt_235 (c_Mo_addProducts ⟨kr_204 S (by omega), by omega, nr_204 S (by omega)⟩ ⟨k_251 S, by decide, n_251 S⟩ ⟨k_252 S, by decide, n_252 S⟩ (fun x a b => by rw [f6.1 _ x (Or.inl (by omega)) (by omega), rowTo_ne (by omega), rowTo_ne (by omega), r3 x a b]; show 0 ≤ _ % 8380417 ∧ _ % 8380417 < 8380417; exact ⟨Int.emod_nonneg _ (by decide), Int.emod_lt_of_pos _ (by decide)⟩) (fun x a b => by rw [f6.1 251 x (Or.inl (by decide)) (by decide), v5 x a b]; exact fwd_in sgM_in x a b) (fun x a b => by rw [r6 x a (by rw [ok_204]; exact b)]; exact wide_b.2 x)) rfl rfl rfl ?_
                show AW l G M_Mo_attempt P 238 [(4, vi 256), (3, vi j), (2, vi i), (0, vr 175)] [] (sD h (rowTo I6 (205 + (30 + i).toNat) 256 (fun x => (I6 (205 + (30 + i).toNat) x + I6 251 x * I6 252 x) % 8380417)) L6)
                refine ax_iinc (lv' := [(3, vi (j + 1)), (4, vi 256), (2, vi i), (0, vr 175)]) d_Mo_attempt_238 rfl (by decide) ⟨(by omega), (by omega)⟩ rfl ?_
                refine aw_goto (tgt := 121) d_Mo_attempt_241 (by decide) ?_
                refine aw_sub (lv' := [(3, vi (j + 1)), (2, vi i), (0, vr 175)]) (by simp) ?_
                exact ih_121 _ (by omega) (j + 1) (rowTo I6 (205 + (30 + i).toNat) 256 (fun x => (I6 (205 + (30 + i).toNat) x + I6 251 x * I6 252 x) % 8380417)) L6 (by omega) ((((F3.tr (FR.row (p := fun a => a = 205 + (30 + i).toNat ∨ a = 251 ∨ a = 252) (by omega) (fun _ _ _ => rfl)) (fun a x => ⟨x, x⟩)).tr (FR.row (p := fun a => a = 205 + (30 + i).toNat ∨ a = 251 ∨ a = 252) (by omega) l5) (fun a x => ⟨x, x⟩)).tr (FR.smp (p := fun a => a = 205 + (30 + i).toNat ∨ a = 251 ∨ a = 252) f6 (by omega)) (fun a x => ⟨x, x⟩)).tr (FR.row (p := fun a => a = 205 + (30 + i).toNat ∨ a = 251 ∨ a = 252) (by omega) (fun _ _ _ => rfl)) (fun a x => ⟨x, x⟩)) (fun x a b => by rw [rowTo_in a b, f6.1 _ x (Or.inl (by omega)) (by omega), rowTo_ne (by omega), rowTo_ne (by omega), r3 x a b, r6 x a (by rw [ok_204]; exact b), f6.1 251 x (Or.inl (by decide)) (by decide), v5 x a b, show (j + 1).toNat = j.toNat + 1 by omega]; show _ = (pS (sgA 0 sk) (fun j => fwd rt (sgM 0 rh (t * 4 + j))) (i * 4) x j.toNat + (sgA 0 sk) (i * 4 + (j.toNat : Int)) x * (fwd rt (sgM 0 rh (t * 4 + (j.toNat : Int))) x)) % 8380417; rw [Int.toNat_of_nonneg hj.1, show (sgA 0 sk) (i * 4 + j) x = (wide sk j i).2.2 x from by unfold sgA; rw [show pL 0 = 4 from rfl, show (i * 4 + j) % 4 = j by omega, show (i * 4 + j) / 4 = i by omega], Int.mul_comm (fwd rt _ x)]; exact Int.emod_add_emod _ _ _) (fun m a b => by by_cases z : m = j; exact (by rw [z]; exact ok_204); exact okJ m a (by omega)) rfl
              · skip
                rw [if_neg ok_204]
                show AW l G M_Mo_attempt P 207 [(4, vi 256), (3, vi j), (2, vi i), (0, vr 175)] [vi 0] (sD h I6 L6)
                refine aw_if_ne (tgt := 212) d_Mo_attempt_207 (by decide) (fun c_207 => False.elim (by omega)) (fun c_207 => ?_)
                refine aw_iconst d_Mo_attempt_210 ⟨by decide, by decide⟩ ?_
                exact aw_iret d_Mo_attempt_211 rfl (hP _ _ ⟨_, _, _, rfl, rfl, F0.tr ((((F2.tr (F3.mono (r := fun a => 235 ≤ a ∧ a ≤ 252) (by intro a x; omega)) (fun a x => ⟨x, x⟩)).tr (FR.row (p := fun a => 235 ≤ a ∧ a ≤ 252) (by omega) (fun _ _ _ => rfl)) (fun a x => ⟨x, x⟩)).tr (FR.row (p := fun a => 235 ≤ a ∧ a ≤ 252) (by omega) l5) (fun a x => ⟨x, x⟩)).tr (FR.smp (p := fun a => 235 ≤ a ∧ a ≤ 252) f6 (by omega)) (fun a x => ⟨x, x⟩)) (by intro a x; exact ⟨x, by intro z; exact x (by omega)⟩), Or.inl ⟨rfl, fun z => ok_204 (by have y := z.1 (i * 4 + j) (by omega) (by show i * 4 + j < 16; omega); rw [show pL 0 = 4 from rfl, show (i * 4 + j) % 4 = j by omega, show (i * 4 + j) / 4 = i by omega] at y; exact y)⟩⟩)
            · skip
              have c5 := (show -131072 < (sgMs 0 rh (t * 4 + j)) c ∧ (sgMs 0 rh (t * 4 + j)) c ≤ 131072 from ⟨by have := (sgMs_b (s := 0) (rh := rh) (n := t * 4 + j) (j := c)).1; rw [show pG1 0 - 2 ^ (pB 0).toNat = -131072 from by decide] at this; exact this, (sgMs_b (s := 0) (rh := rh) (n := t * 4 + j) (j := c)).2⟩)
              refine aw_aload_n d_Mo_attempt_140 rfl rfl ?_
              refine ax_getR (b := 204) d_Mo_attempt_141 fd_Mo_76 (k_175 S) (r_175_28 S) ?_
              refine aw_bipush d_Mo_attempt_144 ⟨by decide, by decide⟩ (by decide) ?_
              refine ax_aald (b := 251) d_Mo_attempt_146 ⟨by rw [(k_204 S)]; decide, by rw [(k_204 S)]; decide⟩ (by omega) (by rw [n_204 S]; omega) (g_204 S (j := 46) (by decide) (by decide)) ?_
              refine aw_iload d_Mo_attempt_147 rfl ?_
              refine aw_aload_n d_Mo_attempt_149 rfl rfl ?_
              refine ax_getR (b := 204) d_Mo_attempt_150 fd_Mo_76 (k_175 S) (r_175_28 S) ?_
              refine aw_bipush d_Mo_attempt_153 ⟨by decide, by decide⟩ (by decide) ?_
              refine aw_iload_n d_Mo_attempt_155 rfl rfl ?_
              refine ax_iadd d_Mo_attempt_156 ⟨(by omega), (by omega)⟩ ?_
              refine ax_aald (b := 205 + (23 + j).toNat) d_Mo_attempt_157 ⟨by rw [(k_204 S)]; decide, by rw [(k_204 S)]; decide⟩ (by omega) (by rw [n_204 S]; omega) (g_204 S (by omega) (by omega)) ?_
              refine aw_iload d_Mo_attempt_158 rfl ?_
              refine ax_ialde (x := (sgMs 0 rh (t * 4 + j)) c) d_Mo_attempt_160 (kr_204 S (by omega)) (by omega) (by rw [nr_204 S (by omega)]; omega) (Eq.trans (rowTo_ne (by omega)) (m3 c hc.1 (by omega) (by omega))) ?_
              refine aw_ldcw (n := 8380417) d_Mo_attempt_161 lc_Mo_264 ⟨by decide, by decide⟩ ?_
              refine ax_iadd d_Mo_attempt_164 ⟨(by omega), (by omega)⟩ ?_
              refine aw_ldcw (n := 8380417) d_Mo_attempt_165 lc_Mo_264 ⟨by decide, by decide⟩ ?_
              refine ax_irem d_Mo_attempt_168 (by omega) (by omega) ?_
              refine ax_iast d_Mo_attempt_169 (k_251 S) (by decide) (by omega) (by rw [n_251 S]; omega) ?_
              rw [rowTo_1 (by omega) rfl]
              refine ax_iinc (lv' := [(4, vi (c + 1)), (3, vi j), (2, vi i), (0, vr 175)]) d_Mo_attempt_170 rfl (by decide) ⟨(by omega), (by omega)⟩ rfl ?_
              refine aw_goto (tgt := 132) d_Mo_attempt_173 (by decide) ?_
              exact ih_132 _ (by omega) (c + 1) (by omega) rfl
          refine ax_hp (h' := sD h (rowTo K3 251 0 (fun x => ((sgMs 0 rh (t * 4 + j)) x + 8380417) % 8380417)) M3) (by rw [rowTo_0]) ?_
          exact lp_132 _ 0 (by omega) rfl
      skip
      exact lp_121 _ 0 (rowTo K2 (205 + (30 + i).toNat) 256 (fun _ => 0)) M2 (by omega) (FR.row (p := fun a => a = 205 + (30 + i).toNat ∨ a = 251 ∨ a = 252) (by omega) (fun _ _ _ => rfl)) (fun x a b => by rw [rowTo_in a b]; rfl) (fun m a b => by omega) rfl
  skip
  exact lp_99 _ 0 K M (by omega) (FR.rfl') (fun m a b => by omega) (fun m a b => by omega) (fun m a b => by omega) rfl
set_option maxHeartbeats 800000 in
set_option maxRecDepth 100000 in
theorem c_Mo_attempt0 {l : Launch} {G : a_G} {h : Hp} {K0 M0 : Nat → Int → Int} {sk rh mu : Int → Int} {t aa : Int} (S : Shp h) (D0 : RD K0 M0 0) (hk0 : HR K0 180 0 2560 sk) (km : ∀ x, sk x % 256 = sk x) (hr0 : HR K0 266 0 64 rh) (rm0 : ∀ x, rh x % 256 = rh x) (hm0 : HR K0 265 0 64 mu) (mm0 : ∀ x, mu x % 256 = mu x) (hS0 : ∀ m, 0 ≤ m → m < 8 → eqQ (K0 (205 + m.toNat)) (sgSs 0 sk m)) (hD0 : ∀ m, 0 ≤ m → m < 4 → eqQ (K0 (205 + (15 + m).toNat)) (sgDs 0 sk m)) (ht : 0 ≤ t ∧ t < 814) (ha : aa = t * 4) : AW l G M_Mo_attempt (RaR h K0 M0 pAt (sgOk 0 sk ∧ bll 39 (sgBs 0 sk rh mu t) ≠ none) (sgGood 0 sk rh mu t) 2420 (sgPk 0 sk rh mu t)) 0 (a_ar 0 [vr 175, vi aa]) [] (sD h K0 M0) := by
  suffices key : ∀ P : a_R → Hp → Prop, (∀ r_ h2_, RaR h K0 M0 pAt (sgOk 0 sk ∧ bll 39 (sgBs 0 sk rh mu t) ≠ none) (sgGood 0 sk rh mu t) 2420 (sgPk 0 sk rh mu t) r_ h2_ → P r_ h2_) → AW l G M_Mo_attempt P 0 [(0, vr 175), (1, vi aa)] [] (sD h K0 M0) from key _ (fun _ _ q => q)
  intro P hP
  refine aw_iconst d_Mo_attempt_0 ⟨by decide, by decide⟩ ?_
  refine aw_istore_n (lv' := [(2, vi 0), (0, vr 175), (1, vi aa)]) d_Mo_attempt_1 rfl (by decide) rfl ?_
  have lp_2 : ∀ (n_ : Nat) (i : Int) (K : Nat → Int → Int) (M : Nat → Int → Int), (0 ≤ i ∧ i ≤ 4) → (FR (fun a => a = 262 ∨ 228 ≤ a ∧ a ≤ 234) K0 M0 K M) → (∀ m, 0 ≤ m → m < i → eqQ (K (205 + (23 + m).toNat)) (sgMs 0 rh (t * 4 + m))) → ((4 - i).toNat) = n_ → AW l G M_Mo_attempt P 2 [(2, vi i), (1, vi aa), (0, vr 175)] [] (sD h K M) := by
    intro n_
    induction n_ using Nat.strongRecOn with
    | _ n_ ih_2 =>
    intro i K M hi F dn hm_2
    have RS := D0.1.fr F (by omega)
    refine aw_iload_n d_Mo_attempt_2 rfl rfl ?_
    refine aw_aload_n d_Mo_attempt_3 rfl rfl ?_
    refine ax_getIe (x := 4) d_Mo_attempt_4 fd_Mo_226 (k_175 S) (Eq.trans (F.1 175 32 (by omega) (Or.inr (by decide))) (dr0_32 D0)) ?_
    refine aw_icmp_ge (tgt := 97) d_Mo_attempt_7 (by decide) (fun c_7 => ?_) (fun c_7 => ?_)
    · skip
      refine aw_sub (lv' := [(0, vr 175)]) (by simp) ?_
      exact aB0 S D0 hk0 km hr0 rm0 hm0 mm0 hS0 hD0 ht (F.mono (by intro a x z; exact x (by omega))) (fun m a b => dn m a (by omega)) hP
    · skip
      refine aw_aload_n d_Mo_attempt_10 rfl rfl ?_
      refine aw_bipush d_Mo_attempt_11 ⟨by decide, by decide⟩ (by decide) ?_
      refine ax_Vr (st := []) (as := [vi 12]) (b := 175) d_Mo_attempt_13 cs_Mo_attempt_13 (k_175 S) (c_Mo_begin12 S) rfl rfl rfl (fun u_13 q_13 => ?_)
      obtain ⟨I1, L1⟩ := u_13
      obtain ⟨F1, e1, k1⟩ := q_13
      dsimp only at F1 e1 k1
      show AW l G M_Mo_attempt P 16 [(2, vi i), (1, vi aa), (0, vr 175)] [] (sD h I1 L1)
      refine aw_aload_n d_Mo_attempt_16 rfl rfl ?_
      refine aw_aload_n d_Mo_attempt_17 rfl rfl ?_
      refine ax_getR (b := 266) d_Mo_attempt_18 fd_Mo_96 (k_175 S) (r_175_42 S) ?_
      refine aw_iconst d_Mo_attempt_21 ⟨by decide, by decide⟩ ?_
      refine aw_bipush d_Mo_attempt_22 ⟨by decide, by decide⟩ (by decide) ?_
      refine ax_Vr (st := []) (as := [vr 266, vi 0, vi 64]) (b := 175) d_Mo_attempt_24 cs_Mo_attempt_24 (k_175 S) (c_Mo_put3 S (RS.rf F1) (by omega) (by rw [e1]; exact spStart_lt (by decide) (by decide)) ⟨k_266 S, by decide, by decide⟩ (by rw [n_266 S]; decide)) rfl rfl rfl (fun u_24 q_24 => ?_)
      obtain ⟨I2, L2⟩ := u_24
      obtain ⟨F2, e2, k2⟩ := q_24
      dsimp only at F2 e2 k2
      show AW l G M_Mo_attempt P 27 [(2, vi i), (1, vi aa), (0, vr 175)] [] (sD h I2 L2)
      refine aw_aload_n d_Mo_attempt_27 rfl rfl ?_
      refine aw_iload_n d_Mo_attempt_28 rfl rfl ?_
      refine aw_iload_n d_Mo_attempt_29 rfl rfl ?_
      refine ax_iadd d_Mo_attempt_30 ⟨(by omega), (by omega)⟩ ?_
      refine ax_Vr (st := []) (as := [vi (aa + i)]) (b := 175) d_Mo_attempt_31 cs_Mo_attempt_31 (k_175 S) (c_Mo_put1 S ((RS.rf F1).rf F2) (by omega) (by rw [e2, e1]; exact spPart_lt (spStart_lt (by decide) (by decide)) _ _)) rfl rfl rfl (fun u_31 q_31 => ?_)
      obtain ⟨I3, L3⟩ := u_31
      obtain ⟨F3, e3, k3⟩ := q_31
      dsimp only at F3 e3 k3
      show AW l G M_Mo_attempt P 34 [(2, vi i), (1, vi aa), (0, vr 175)] [] (sD h I3 L3)
      refine aw_aload_n d_Mo_attempt_34 rfl rfl ?_
      refine aw_iload_n d_Mo_attempt_35 rfl rfl ?_
      refine aw_iload_n d_Mo_attempt_36 rfl rfl ?_
      refine ax_iadd d_Mo_attempt_37 ⟨(by omega), (by omega)⟩ ?_
      refine aw_bipush d_Mo_attempt_38 ⟨by decide, by decide⟩ (by decide) ?_
      refine aw_ishr d_Mo_attempt_40 ?_
      refine ax_ti (x := (aa + i) / 256) (a_shr' 8 rfl (by decide) (by decide) ⟨(by omega), (by omega)⟩) ?_
      refine ax_Vr (st := []) (as := [vi ((aa + i) / 256)]) (b := 175) d_Mo_attempt_41 cs_Mo_attempt_41 (k_175 S) (c_Mo_put1 S (((RS.rf F1).rf F2).rf F3) (by omega) (by rw [e3, e2, e1]; exact spTake_lt (spPart_lt (spStart_lt (by decide) (by decide)) _ _) _)) rfl rfl rfl (fun u_41 q_41 => ?_)
      obtain ⟨I4, L4⟩ := u_41
      obtain ⟨F4, e4, k4⟩ := q_41
      dsimp only at F4 e4 k4
      show AW l G M_Mo_attempt P 44 [(2, vi i), (1, vi aa), (0, vr 175)] [] (sD h I4 L4)
      have eS : spTurn (spR I4 L4) = nmS rh (t * 4 + i) := by rw [e4, e3, e2, e1, show Int.toNat 64 = 64 from rfl, spPart_congr (f := fun k => I1 266 (0 + k)) (g := rh) (fun k hk => by rw [F1.1 266 _ (Or.inl (by decide)), F.1 266 _ (by omega) (Or.inl (by decide)), hr0 k (by omega) (by omega), rm0]), ha]; rfl
      refine aw_aload_n d_Mo_attempt_44 rfl rfl ?_
      refine aw_aload_n d_Mo_attempt_45 rfl rfl ?_
      refine ax_getR (b := 262) d_Mo_attempt_46 fd_Mo_84 (k_175 S) (r_175_30 S) ?_
      refine aw_iconst d_Mo_attempt_49 ⟨by decide, by decide⟩ ?_
      refine aw_bipush d_Mo_attempt_50 ⟨by decide, by decide⟩ (by decide) ?_
      refine aw_aload_n d_Mo_attempt_52 rfl rfl ?_
      refine ax_getIe (x := 18) d_Mo_attempt_53 fd_Mo_251 (k_175 S) (Eq.trans ((((F1.tr F2).tr F3).tr F4).1 175 39 (Or.inr (by decide))) (Eq.trans (F.1 175 39 (by omega) (Or.inr (by decide))) (dr0_39 D0))) ?_
      refine ax_imul d_Mo_attempt_56 ⟨(by omega), (by omega)⟩ ?_
      refine ax_ti (x := 576) (by decide) ?_
      refine ax_Vr (st := []) (as := [vr 262, vi 0, vi 576]) (b := 175) d_Mo_attempt_57 cs_Mo_attempt_57 (k_175 S) (c_Mo_give S ((((RS.rf F1).rf F2).rf F3).rf F4) (by omega) (by rw [e4, e3, e2, e1]; exact (spTake_lt (spTake_lt (spPart_lt (spStart_lt (by decide) (by decide)) _ _) _) _).1) ⟨k_262 S, by decide, by decide, by decide⟩ (by rw [n_262 S]; decide)) rfl rfl rfl (fun u_57 q_57 => ?_)
      obtain ⟨I5, L5⟩ := u_57
      obtain ⟨F6, f5, e5, k5⟩ := q_57
      dsimp only at F6 f5 e5 k5
      rw [eS] at F6
      have h5 := HR.give F6 (by decide)
      have F5 : FR (fun a => a = 262) K M I5 L5 := ((((F1.tr F2).tr F3).tr F4).fr (p := fun a => a = 262)).tr (FR.give (p := fun a => a = 262) F6 f5 rfl) (fun a x => ⟨x, x⟩)
      show AW l G M_Mo_attempt P 60 [(2, vi i), (1, vi aa), (0, vr 175)] [] (sD h I5 L5)
      refine aw_aload_n d_Mo_attempt_60 rfl rfl ?_
      refine aw_iconst d_Mo_attempt_61 ⟨by decide, by decide⟩ ?_
      refine ax_putI d_Mo_attempt_62 fd_Mo_216 (k_175 S) (by decide) rfl ?_
      refine aw_aload_n d_Mo_attempt_65 rfl rfl ?_
      refine aw_aload_n d_Mo_attempt_66 rfl rfl ?_
      refine ax_getR (b := 262) d_Mo_attempt_67 fd_Mo_84 (k_175 S) (r_175_30 S) ?_
      refine aw_iconst d_Mo_attempt_70 ⟨by decide, by decide⟩ ?_
      refine aw_aload_n d_Mo_attempt_71 rfl rfl ?_
      refine ax_getR (b := 204) d_Mo_attempt_72 fd_Mo_76 (k_175 S) (r_175_28 S) ?_
      refine aw_bipush d_Mo_attempt_75 ⟨by decide, by decide⟩ (by decide) ?_
      refine aw_iload_n d_Mo_attempt_77 rfl rfl ?_
      refine ax_iadd d_Mo_attempt_78 ⟨(by omega), (by omega)⟩ ?_
      refine ax_aald (b := 205 + (23 + i).toNat) d_Mo_attempt_79 ⟨by rw [(k_204 S)]; decide, by rw [(k_204 S)]; decide⟩ (by omega) (by rw [n_204 S]; omega) (g_204 S (by omega) (by omega)) ?_
      refine aw_aload_n d_Mo_attempt_80 rfl rfl ?_
      refine ax_getIe (x := 131072) d_Mo_attempt_81 fd_Mo_237 (k_175 S) (Eq.trans (a_up_ne (Or.inr (by decide))) (Eq.trans (F5.1 175 35 (by omega) (Or.inr (by decide))) (Eq.trans (F.1 175 35 (by omega) (Or.inr (by decide))) (dr0_35 D0)))) ?_
      refine aw_aload_n d_Mo_attempt_84 rfl rfl ?_
      refine ax_getIe (x := 18) d_Mo_attempt_85 fd_Mo_251 (k_175 S) (Eq.trans (a_up_ne (Or.inr (by decide))) (Eq.trans (F5.1 175 39 (by omega) (Or.inr (by decide))) (Eq.trans (F.1 175 39 (by omega) (Or.inr (by decide))) (dr0_39 D0)))) ?_
      refine ax_Vr (st := []) (as := [vr 262, vi 0, vr (205 + (23 + i).toNat), vi 131072, vi 18]) (b := 175) d_Mo_attempt_88 cs_Mo_attempt_88 (k_175 S) (c_Mo_unpack (pa := 0) (c := 0) (d := 18) (b := 131072) S ⟨k_262 S, by decide, by decide⟩ ⟨kr_204 S (by omega), by omega, nr_204 S (by omega)⟩ (by omega) (by decide) (a_up_at.trans (by decide)) (by decide) (by rw [n_262 S]; decide)) rfl rfl rfl (fun u_88 q_88 => ?_)
      obtain ⟨q1, q2, q3⟩ := q_88
      have Fx : FR (fun a => a = 262 ∨ a = 205 + (23 + i).toNat) K M u_88 L5 := (F5.tr (FR.b0 (p := fun a => a = 262)) (fun a x => ⟨x, x⟩)).tr (FR.unp (p := fun a => a = 205 + (23 + i).toNat) q1 rfl) (by intro a x; omega)
      show AW l G M_Mo_attempt P 91 [(2, vi i), (1, vi aa), (0, vr 175)] [] (sD h u_88 L5)
      refine ax_iinc (lv' := [(2, vi (i + 1)), (1, vi aa), (0, vr 175)]) d_Mo_attempt_91 rfl (by decide) ⟨(by omega), (by omega)⟩ rfl ?_
      refine aw_goto (tgt := 2) d_Mo_attempt_94 (by decide) ?_
      exact ih_2 _ (by omega) (i + 1) u_88 L5 (by omega) (F.tr (Fx.mono (r := fun a => a = 262 ∨ 228 ≤ a ∧ a ≤ 234) (by intro a x; omega)) (fun a x => ⟨x, x⟩)) (fun m a b x u v => by by_cases z : m = i; exact (by rw [z, q3 x u v]; unfold sgMs; rw [show pG1 0 = 131072 from rfl, show (pB 0).toNat = 18 from rfl, gR_congr (g' := spOut (nmS rh (t * 4 + i))) (fun y y0 y1 => by rw [a_up_ne (Or.inl (by decide)), show (0 + 0 + y : Int) = 0 + y by omega]; exact h5 y y0 (by omega))]); exact (by rw [Fx.1 _ _ (by omega) (Or.inl (by omega))]; exact dn m a (by omega) x u v)) rfl
  skip
  refine aw_sub (lv' := [(2, vi 0), (1, vi aa), (0, vr 175)]) (by simp) ?_
  exact lp_2 _ 0 K0 M0 (by omega) (FR.rfl') (fun m a b => by omega) rfl
set_option maxHeartbeats 4000000 in
set_option maxRecDepth 100000 in
theorem aD1 {l : Launch} {G : a_G} {P : a_R → Hp → Prop} {h : Hp} {K0 M0 K M : Nat → Int → Int} {sk rh mu : Int → Int} {t : Int} (S : Shp h) (D0 : RD K0 M0 1) (hk0 : HR K0 180 0 4032 sk) (km : ∀ x, sk x % 256 = sk x) (hr0 : HR K0 266 0 64 rh) (rm0 : ∀ x, rh x % 256 = rh x) (hm0 : HR K0 265 0 64 mu) (mm0 : ∀ x, mu x % 256 = mu x) (hS0 : ∀ m, 0 ≤ m → m < 11 → eqQ (K0 (205 + m.toNat)) (sgSs 1 sk m)) (hD0 : ∀ m, 0 ≤ m → m < 6 → eqQ (K0 (205 + (15 + m).toNat)) (sgDs 1 sk m)) (ht : 0 ≤ t ∧ t < 814) (F0 : FR pAt K0 M0 K M) (okk : (sgOk 1 sk ∧ bll 49 (sgBs 1 sk rh mu t) ≠ none)) (hch : HR K 267 0 48 (sgC 1 sk rh mu t)) (hM : ∀ m, 0 ≤ m → m < 5 → eqQ (K (205 + (23 + m).toNat)) (sgMs 1 rh (t * 5 + m))) (hW : ∀ m, 0 ≤ m → m < 6 → eqQ (K (205 + (30 + m).toNat)) ((sgW 1 sk rh t) m)) (hB : eqQ (K 251) (blX 49 (sgBs 1 sk rh mu t))) (hP : ∀ r_ h2_, RaR h K0 M0 pAt (sgOk 1 sk ∧ bll 49 (sgBs 1 sk rh mu t) ≠ none) (sgGood 1 sk rh mu t) 3309 (sgPk 1 sk rh mu t) r_ h2_ → P r_ h2_) : AW l G M_Mo_attempt P 335 [(0, vr 175)] [] (sD h K M) := by
  have D := D0.fr F0 (by decide)
  have hS : ∀ m, 0 ≤ m → m < 11 → eqQ (K (205 + m.toNat)) (sgSs 1 sk m) := fun m a b j x y => (F0.1 _ _ (by omega) (Or.inl (by omega))).trans (hS0 m a b j x y)
  refine aw_aload_n d_Mo_attempt_335 rfl rfl ?_
  refine ax_getIe (x := 49) d_Mo_attempt_336 fd_Mo_232 (k_175 S) (dr1_34 D) ?_
  refine aw_aload_n d_Mo_attempt_339 rfl rfl ?_
  refine ax_getIe (x := 4) d_Mo_attempt_340 fd_Mo_229 (k_175 S) (dr1_33 D) ?_
  refine ax_imul d_Mo_attempt_343 ⟨(by omega), (by omega)⟩ ?_
  refine ax_ti (x := 196) (by decide) ?_
  refine aw_istore_n (lv' := [(2, vi 196), (0, vr 175)]) d_Mo_attempt_344 rfl (by decide) rfl ?_
  refine aw_iconst d_Mo_attempt_345 ⟨by decide, by decide⟩ ?_
  refine aw_istore_n (lv' := [(3, vi 0), (2, vi 196), (0, vr 175)]) d_Mo_attempt_346 rfl (by decide) rfl ?_
  have lp_347 : ∀ (n_ : Nat) (i : Int) (K2 : Nat → Int → Int) (M2 : Nat → Int → Int), (0 ≤ i ∧ i ≤ 5) → (FR (fun a => a = 252 ∨ 228 ≤ a ∧ a ≤ 234) K M K2 M2) → (∀ m, 0 ≤ m → m < i → ∀ x, 0 ≤ x → x < 256 → K2 (205 + (23 + m).toNat) x = ((sgMs 1 rh (t * 5 + m)) x + cen (prB (sgB 1 sk rh mu t) (sgV 1 sk m) x)) ∧ (-524092 < ((sgMs 1 rh (t * 5 + m)) x + cen (prB (sgB 1 sk rh mu t) (sgV 1 sk m) x)) ∧ ((sgMs 1 rh (t * 5 + m)) x + cen (prB (sgB 1 sk rh mu t) (sgV 1 sk m) x)) < 524092)) → (∀ m, 0 ≤ m → i ≤ m → m < 5 → eqQ (K2 (205 + (23 + m).toNat)) (sgMs 1 rh (t * 5 + m))) → ((5 - i).toNat) = n_ → AW l G M_Mo_attempt P 347 [(3, vi i), (2, vi 196), (0, vr 175)] [] (sD h K2 M2) := by
    intro n_
    induction n_ using Nat.strongRecOn with
    | _ n_ ih_347 =>
    intro i K2 M2 hi F2 dn td hm_347
    refine aw_iload_n d_Mo_attempt_347 rfl rfl ?_
    refine aw_aload_n d_Mo_attempt_348 rfl rfl ?_
    refine ax_getIe (x := 5) d_Mo_attempt_349 fd_Mo_226 (k_175 S) (Eq.trans (F2.1 175 32 (by omega) (Or.inr (by decide))) (dr1_32 D)) ?_
    refine aw_icmp_ge (tgt := 471) d_Mo_attempt_352 (by decide) (fun c_352 => ?_) (fun c_352 => ?_)
    · skip
      refine aw_sub (lv' := [(2, vi 196), (0, vr 175)]) (by simp) ?_
      exact aE1 S D0 hk0 km hr0 rm0 hm0 mm0 hS0 hD0 ht (F0.tr F2 (by intro a x; exact ⟨x, by intro z; exact x (by omega)⟩)) okk (fun m a b j x y => by have b2 : m < 5 := b; have d_ := dn m a (by omega) j x y; have c5 := (show -524288 < (sgMs 1 rh (t * 5 + m)) j ∧ (sgMs 1 rh (t * 5 + m)) j ≤ 524288 from ⟨by have := (sgMs_b (s := 1) (rh := rh) (n := t * 5 + m) (j := j)).1; rw [show pG1 1 - 2 ^ (pB 1).toNat = -524288 from by decide] at this; exact this, (sgMs_b (s := 1) (rh := rh) (n := t * 5 + m) (j := j)).2⟩); have c1 := prB_in (B := (sgB 1 sk rh mu t)) (V := (sgV 1 sk m)) j x y; exact fun q_ => by have w_ := (zl (t := 524092) (by decide) c5 c1).2 q_; omega) (hch.fr F2 (by decide) (by decide)) (fun m a b j x y => by have d_ := dn m a (by omega) j x y; rw [d_.1]; exact zl2 (t := 524092) (by decide) (show -524288 < (sgMs 1 rh (t * 5 + m)) j ∧ (sgMs 1 rh (t * 5 + m)) j ≤ 524288 from ⟨by have := (sgMs_b (s := 1) (rh := rh) (n := t * 5 + m) (j := j)).1; rw [show pG1 1 - 2 ^ (pB 1).toNat = -524288 from by decide] at this; exact this, (sgMs_b (s := 1) (rh := rh) (n := t * 5 + m) (j := j)).2⟩) (prB_in (B := (sgB 1 sk rh mu t)) (V := (sgV 1 sk m)) j x y) d_.2) (fun m a b j x y => by rw [F2.1 _ _ (by omega) (Or.inl (by omega))]; exact hW m a b j x y) (fun j x y => by rw [F2.1 _ _ (by decide) (Or.inl (by decide))]; exact hB j x y) hP
    · skip
      refine aw_aload_n d_Mo_attempt_355 rfl rfl ?_
      refine aw_aload_n d_Mo_attempt_356 rfl rfl ?_
      refine ax_getR (b := 204) d_Mo_attempt_357 fd_Mo_76 (k_175 S) (r_175_28 S) ?_
      refine aw_bipush d_Mo_attempt_360 ⟨by decide, by decide⟩ (by decide) ?_
      refine ax_aald (b := 252) d_Mo_attempt_362 ⟨by rw [(k_204 S)]; decide, by rw [(k_204 S)]; decide⟩ (by omega) (by rw [n_204 S]; omega) (g_204 S (j := 47) (by decide) (by decide)) ?_
      refine aw_aload_n d_Mo_attempt_363 rfl rfl ?_
      refine ax_getR (b := 204) d_Mo_attempt_364 fd_Mo_76 (k_175 S) (r_175_28 S) ?_
      refine aw_bipush d_Mo_attempt_367 ⟨by decide, by decide⟩ (by decide) ?_
      refine ax_aald (b := 251) d_Mo_attempt_369 ⟨by rw [(k_204 S)]; decide, by rw [(k_204 S)]; decide⟩ (by omega) (by rw [n_204 S]; omega) (g_204 S (j := 46) (by decide) (by decide)) ?_
      refine aw_aload_n d_Mo_attempt_370 rfl rfl ?_
      refine ax_getR (b := 204) d_Mo_attempt_371 fd_Mo_76 (k_175 S) (r_175_28 S) ?_
      refine aw_iload_n d_Mo_attempt_374 rfl rfl ?_
      refine ax_aald (b := 205 + i.toNat) d_Mo_attempt_375 ⟨by rw [(k_204 S)]; decide, by rw [(k_204 S)]; decide⟩ (by omega) (by rw [n_204 S]; omega) (g_204 S (by omega) (by omega)) ?_
      refine ax_Vr (st := []) (as := [vr 252, vr 251, vr (205 + i.toNat)]) (b := 175) d_Mo_attempt_376 cs_Mo_attempt_376 (k_175 S) (c_Mo_few S ⟨k_252 S, by decide, n_252 S⟩ ⟨k_251 S, by decide, n_251 S⟩ ⟨kr_204 S (by omega), by omega, nr_204 S (by omega)⟩ (fun j x y => by rw [F2.1 _ _ (by omega) (Or.inl (by omega)), hB j x y]; exact blX_b j) (fun j x y => by rw [F2.1 _ _ (by omega) (Or.inl (by omega)), hS i hi.1 (by omega) j x y]; have := sgSs_b (s := 1) (sk := sk) (m := i) (j := j); omega)) rfl rfl rfl (fun u_376 q_376 => ?_)
      have l1 := q_376
      have q252 : eqQ ((rowTo K2 252 256 (few (K2 251) (K2 (205 + i.toNat)))) 252) (fun j => cen (prB (sgB 1 sk rh mu t) (sgV 1 sk i) j)) := fun j x y => by rw [rowTo_in x y]; exact few_prB (fun z u v => (F2.1 _ _ (by omega) (Or.inl (by omega))).trans (hB z u v)) (fun z u v => (F2.1 _ _ (by omega) (Or.inl (by omega))).trans (hS i hi.1 (by omega) z u v)) j x y
      show AW l G M_Mo_attempt P 379 [(3, vi i), (2, vi 196), (0, vr 175)] [] (sD h (rowTo K2 252 256 (few (K2 251) (K2 (205 + i.toNat)))) u_376)
      refine aw_iconst d_Mo_attempt_379 ⟨by decide, by decide⟩ ?_
      refine aw_istore (lv' := [(4, vi 0), (3, vi i), (2, vi 196), (0, vr 175)]) d_Mo_attempt_380 (by decide) rfl ?_
      have lp_382 : ∀ (n_ : Nat) (c : Int) (K3 : Nat → Int → Int), (0 ≤ c ∧ c ≤ 256) → (FR (fun a => a = 252 ∨ 228 ≤ a ∧ a ≤ 234) K M K3 u_376) → (FR (fun a => a = 205 + (23 + i).toNat) (rowTo K2 252 256 (few (K2 251) (K2 (205 + i.toNat)))) u_376 K3 u_376) → ((∀ x, 0 ≤ x → x < c → K3 (205 + (23 + i).toNat) x = ((sgMs 1 rh (t * 5 + i)) x + cen (prB (sgB 1 sk rh mu t) (sgV 1 sk i) x)) ∧ (-524092 < ((sgMs 1 rh (t * 5 + i)) x + cen (prB (sgB 1 sk rh mu t) (sgV 1 sk i) x)) ∧ ((sgMs 1 rh (t * 5 + i)) x + cen (prB (sgB 1 sk rh mu t) (sgV 1 sk i) x)) < 524092)) ∧ ∀ x, c ≤ x → x < 256 → K3 (205 + (23 + i).toNat) x = (sgMs 1 rh (t * 5 + i)) x) → ((256 - c).toNat) = n_ → AW l G M_Mo_attempt P 382 [(4, vi c), (3, vi i), (2, vi 196), (0, vr 175)] [] (sD h K3 u_376) := by
        intro n_
        induction n_ using Nat.strongRecOn with
        | _ n_ ih_382 =>
        intro c K3 hc F3 t3 r3 hm_382
        have p3 : c < 256 → K3 252 c = cen (prB (sgB 1 sk rh mu t) (sgV 1 sk i) c) := fun v => by rw [t3.1 _ _ (by omega) (Or.inl (by omega))]; exact q252 c hc.1 v
        refine aw_iload d_Mo_attempt_382 rfl ?_
        refine aw_sipush d_Mo_attempt_384 ⟨by decide, by decide⟩ (by decide) ?_
        refine aw_icmp_ge (tgt := 465) d_Mo_attempt_387 (by decide) (fun c_387 => ?_) (fun c_387 => ?_)
        · skip
          refine ax_iinc (lv' := [(3, vi (i + 1)), (4, vi c), (2, vi 196), (0, vr 175)]) d_Mo_attempt_465 rfl (by decide) ⟨(by omega), (by omega)⟩ rfl ?_
          refine aw_goto (tgt := 347) d_Mo_attempt_468 (by decide) ?_
          refine aw_sub (lv' := [(3, vi (i + 1)), (2, vi 196), (0, vr 175)]) (by simp) ?_
          exact ih_347 _ (by omega) (i + 1) K3 u_376 (by omega) (F3) (fun m a b x u v => by by_cases z : m = i; exact (by rw [z]; exact r3.1 x u (by omega)); exact (by rw [t3.1 _ _ (by omega) (Or.inl (by omega)), rowTo_ne (by omega)]; exact dn m a (by omega) x u v)) (fun m a b c x u v => by rw [t3.1 _ _ (by omega) (Or.inl (by omega)), rowTo_ne (by omega)]; exact td m a (by omega) c x u v) rfl
        · skip
          have c1 := prB_in (B := (sgB 1 sk rh mu t)) (V := (sgV 1 sk i)) c hc.1 (by omega)
          have c3 := cen_b c1
          have c5 := (show -524288 < (sgMs 1 rh (t * 5 + i)) c ∧ (sgMs 1 rh (t * 5 + i)) c ≤ 524288 from ⟨by have := (sgMs_b (s := 1) (rh := rh) (n := t * 5 + i) (j := c)).1; rw [show pG1 1 - 2 ^ (pB 1).toNat = -524288 from by decide] at this; exact this, (sgMs_b (s := 1) (rh := rh) (n := t * 5 + i) (j := c)).2⟩)
          have zz := zl (t := 524092) (by decide) c5 c1
          refine aw_aload_n d_Mo_attempt_390 rfl rfl ?_
          refine ax_getR (b := 204) d_Mo_attempt_391 fd_Mo_76 (k_175 S) (r_175_28 S) ?_
          refine aw_bipush d_Mo_attempt_394 ⟨by decide, by decide⟩ (by decide) ?_
          refine aw_iload_n d_Mo_attempt_396 rfl rfl ?_
          refine ax_iadd d_Mo_attempt_397 ⟨(by omega), (by omega)⟩ ?_
          refine ax_aald (b := 205 + (23 + i).toNat) d_Mo_attempt_398 ⟨by rw [(k_204 S)]; decide, by rw [(k_204 S)]; decide⟩ (by omega) (by rw [n_204 S]; omega) (g_204 S (by omega) (by omega)) ?_
          refine aw_iload d_Mo_attempt_399 rfl ?_
          refine aw_dup2 d_Mo_attempt_401 rfl rfl ?_
          refine ax_ialde (x := (sgMs 1 rh (t * 5 + i)) c) d_Mo_attempt_402 (kr_204 S (by omega)) (by omega) (by rw [nr_204 S (by omega)]; omega) (r3.2 c (Int.le_refl _) (by omega)) ?_
          refine aw_aload_n d_Mo_attempt_403 rfl rfl ?_
          refine ax_getR (b := 204) d_Mo_attempt_404 fd_Mo_76 (k_175 S) (r_175_28 S) ?_
          refine aw_bipush d_Mo_attempt_407 ⟨by decide, by decide⟩ (by decide) ?_
          refine ax_aald (b := 252) d_Mo_attempt_409 ⟨by rw [(k_204 S)]; decide, by rw [(k_204 S)]; decide⟩ (by omega) (by rw [n_204 S]; omega) (g_204 S (j := 47) (by decide) (by decide)) ?_
          refine aw_iload d_Mo_attempt_410 rfl ?_
          refine ax_ialde (x := cen (prB (sgB 1 sk rh mu t) (sgV 1 sk i) c)) d_Mo_attempt_412 (k_252 S) (by omega) (by rw [n_252 S]; omega) (p3 (by omega)) ?_
          refine ax_iadd d_Mo_attempt_413 ⟨(by omega), (by omega)⟩ ?_
          refine ax_iast d_Mo_attempt_414 (kr_204 S (by omega)) (by omega) (by omega) (by rw [nr_204 S (by omega)]; omega) ?_
          refine aw_aload_n d_Mo_attempt_415 rfl rfl ?_
          refine ax_getR (b := 204) d_Mo_attempt_416 fd_Mo_76 (k_175 S) (r_175_28 S) ?_
          refine aw_bipush d_Mo_attempt_419 ⟨by decide, by decide⟩ (by decide) ?_
          refine aw_iload_n d_Mo_attempt_421 rfl rfl ?_
          refine ax_iadd d_Mo_attempt_422 ⟨(by omega), (by omega)⟩ ?_
          refine ax_aald (b := 205 + (23 + i).toNat) d_Mo_attempt_423 ⟨by rw [(k_204 S)]; decide, by rw [(k_204 S)]; decide⟩ (by omega) (by rw [n_204 S]; omega) (g_204 S (by omega) (by omega)) ?_
          refine aw_iload d_Mo_attempt_424 rfl ?_
          refine ax_ialde (x := ((sgMs 1 rh (t * 5 + i)) c) + (cen (prB (sgB 1 sk rh mu t) (sgV 1 sk i) c))) d_Mo_attempt_426 (kr_204 S (by omega)) (by omega) (by rw [nr_204 S (by omega)]; omega) (a_up_at) ?_
          refine aw_aload_n d_Mo_attempt_427 rfl rfl ?_
          refine ax_getIe (x := 524288) d_Mo_attempt_428 fd_Mo_237 (k_175 S) (Eq.trans (a_up_ne (Or.inl (by omega))) (Eq.trans (F3.1 175 35 (by omega) (Or.inr (by decide))) (dr1_35 D))) ?_
          refine aw_iload_n d_Mo_attempt_431 rfl rfl ?_
          refine ax_isub d_Mo_attempt_432 ⟨(by omega), (by omega)⟩ ?_
          refine ax_ti (x := 524092) (by decide) ?_
          refine aw_icmp_ge (tgt := 457) d_Mo_attempt_433 (by decide) (fun c_433 => ?_) (fun c_433 => ?_)
          · skip
            refine aw_iconst d_Mo_attempt_457 ⟨by decide, by decide⟩ ?_
            exact aw_iret d_Mo_attempt_458 rfl (hP _ _ ⟨_, _, _, rfl, rfl, F0.tr (F3.tr (FR.up (p := fun a => a = 252 ∨ 228 ≤ a ∧ a ≤ 234) (by omega)) (fun a x => ⟨x, x⟩)) (by intro a x; exact ⟨x, by intro z; exact x (by omega)⟩), Or.inr (Or.inl ⟨rfl, okk, fun z => by have y := z.1 i hi.1 (by show i < 5; omega) c hc.1 (by omega); exact y (zz.1 (by omega))⟩)⟩)
          · skip
            refine aw_aload_n d_Mo_attempt_436 rfl rfl ?_
            refine ax_getR (b := 204) d_Mo_attempt_437 fd_Mo_76 (k_175 S) (r_175_28 S) ?_
            refine aw_bipush d_Mo_attempt_440 ⟨by decide, by decide⟩ (by decide) ?_
            refine aw_iload_n d_Mo_attempt_442 rfl rfl ?_
            refine ax_iadd d_Mo_attempt_443 ⟨(by omega), (by omega)⟩ ?_
            refine ax_aald (b := 205 + (23 + i).toNat) d_Mo_attempt_444 ⟨by rw [(k_204 S)]; decide, by rw [(k_204 S)]; decide⟩ (by omega) (by rw [n_204 S]; omega) (g_204 S (by omega) (by omega)) ?_
            refine aw_iload d_Mo_attempt_445 rfl ?_
            refine ax_ialde (x := ((sgMs 1 rh (t * 5 + i)) c) + (cen (prB (sgB 1 sk rh mu t) (sgV 1 sk i) c))) d_Mo_attempt_447 (kr_204 S (by omega)) (by omega) (by rw [nr_204 S (by omega)]; omega) (a_up_at) ?_
            refine aw_iload_n d_Mo_attempt_448 rfl rfl ?_
            refine aw_aload_n d_Mo_attempt_449 rfl rfl ?_
            refine ax_getIe (x := 524288) d_Mo_attempt_450 fd_Mo_237 (k_175 S) (Eq.trans (a_up_ne (Or.inl (by omega))) (Eq.trans (F3.1 175 35 (by omega) (Or.inr (by decide))) (dr1_35 D))) ?_
            refine ax_isub d_Mo_attempt_453 ⟨(by omega), (by omega)⟩ ?_
            refine ax_ti (x := -524092) (by decide) ?_
            refine aw_icmp_gt (tgt := 459) d_Mo_attempt_454 (by decide) (fun c_454 => ?_) (fun c_454 => ?_)
            · skip
              refine ax_iinc (lv' := [(4, vi (c + 1)), (3, vi i), (2, vi 196), (0, vr 175)]) d_Mo_attempt_459 rfl (by decide) ⟨(by omega), (by omega)⟩ rfl ?_
              refine aw_goto (tgt := 382) d_Mo_attempt_462 (by decide) ?_
              exact ih_382 _ (by omega) (c + 1) (a_up K3 (205 + (23 + i).toNat) c (((sgMs 1 rh (t * 5 + i)) c) + (cen (prB (sgB 1 sk rh mu t) (sgV 1 sk i) c)))) (by omega) (F3.tr (FR.up (p := fun a => a = 252 ∨ 228 ≤ a ∧ a ≤ 234) (by omega)) (fun a x => ⟨x, x⟩)) (t3.tr (FR.up (p := fun a => a = 205 + (23 + i).toNat) rfl) (fun a x => ⟨x, x⟩)) (⟨fun x a b => by by_cases z : x = c; exact (by rw [z, a_up_at]; exact ⟨rfl, by omega, by omega⟩); exact (by rw [a_up_ne (Or.inr z)]; exact r3.1 x a (by omega)), fun x a b => by rw [a_up_ne (Or.inr (by omega))]; exact r3.2 x (by omega) b⟩) rfl
            · skip
              refine aw_iconst d_Mo_attempt_457 ⟨by decide, by decide⟩ ?_
              exact aw_iret d_Mo_attempt_458 rfl (hP _ _ ⟨_, _, _, rfl, rfl, F0.tr (F3.tr (FR.up (p := fun a => a = 252 ∨ 228 ≤ a ∧ a ≤ 234) (by omega)) (fun a x => ⟨x, x⟩)) (by intro a x; exact ⟨x, by intro z; exact x (by omega)⟩), Or.inr (Or.inl ⟨rfl, okk, fun z => by have y := z.1 i hi.1 (by show i < 5; omega) c hc.1 (by omega); exact y (zz.1 (by omega))⟩)⟩)
      skip
      exact lp_382 _ 0 (rowTo K2 252 256 (few (K2 251) (K2 (205 + i.toNat)))) (by omega) (F2.tr (FR.row (p := fun a => a = 252 ∨ 228 ≤ a ∧ a ≤ 234) (by omega) l1) (fun a x => ⟨x, x⟩)) (FR.rfl') (⟨fun x a b => by omega, fun x a b => by rw [rowTo_ne (by omega)]; exact td i hi.1 (Int.le_refl _) (by omega) x (by omega) b⟩) rfl
  skip
  exact lp_347 _ 0 K M (by omega) (FR.rfl') (fun m a b => by omega) (fun m a b => hM m a) rfl
set_option maxHeartbeats 800000 in
set_option maxRecDepth 100000 in
theorem aC1 {l : Launch} {G : a_G} {P : a_R → Hp → Prop} {h : Hp} {K0 M0 K M : Nat → Int → Int} {sk rh mu : Int → Int} {t : Int} (S : Shp h) (D0 : RD K0 M0 1) (hk0 : HR K0 180 0 4032 sk) (km : ∀ x, sk x % 256 = sk x) (hr0 : HR K0 266 0 64 rh) (rm0 : ∀ x, rh x % 256 = rh x) (hm0 : HR K0 265 0 64 mu) (mm0 : ∀ x, mu x % 256 = mu x) (hS0 : ∀ m, 0 ≤ m → m < 11 → eqQ (K0 (205 + m.toNat)) (sgSs 1 sk m)) (hD0 : ∀ m, 0 ≤ m → m < 6 → eqQ (K0 (205 + (15 + m).toNat)) (sgDs 1 sk m)) (ht : 0 ≤ t ∧ t < 814) (F0 : FR pAt K0 M0 K M) (okA : sgOk 1 sk) (hM : ∀ m, 0 ≤ m → m < 5 → eqQ (K (205 + (23 + m).toNat)) (sgMs 1 rh (t * 5 + m))) (hW : ∀ m, 0 ≤ m → m < 6 → eqQ (K (205 + (30 + m).toNat)) ((sgW 1 sk rh t) m)) (hH : ∀ m, 0 ≤ m → m < 6 → eqQ (K (205 + (38 + m).toNat)) ((fun m j => dHigh 261888 ((sgW 1 sk rh t) m j)) m)) (hP : ∀ r_ h2_, RaR h K0 M0 pAt (sgOk 1 sk ∧ bll 49 (sgBs 1 sk rh mu t) ≠ none) (sgGood 1 sk rh mu t) 3309 (sgPk 1 sk rh mu t) r_ h2_ → P r_ h2_) : AW l G M_Mo_attempt P 304 [(0, vr 175)] [] (sD h K M) := by
  have D := D0.fr F0 (by decide)
  refine aw_aload_n d_Mo_attempt_304 rfl rfl ?_
  refine aw_bipush d_Mo_attempt_305 ⟨by decide, by decide⟩ (by decide) ?_
  refine aw_aload_n d_Mo_attempt_307 rfl rfl ?_
  refine ax_getR (b := 267) d_Mo_attempt_308 fd_Mo_99 (k_175 S) (r_175_43 S) ?_
  refine ax_Vr (st := []) (as := [vi 38, vr 267]) (b := 175) d_Mo_attempt_311 cs_Mo_attempt_311 (k_175 S) (c_Mo_challenge1_38 (mu := mu) (X := (fun m j => dHigh 261888 ((sgW 1 sk rh t) m j))) S D hH (fun m a b j x y => by have := dHi16 (imF_in (A := sgA 1 sk) (V := fun j => fwd rt (sgM 1 rh (t * pL 1 + j))) (l := pL 1) (n := (pL 1).toNat) (m := m) j x y); show 0 ≤ dHigh 261888 ((sgW 1 sk rh t) m j) ∧ dHigh 261888 ((sgW 1 sk rh t) m j) < 2 ^ 4; have e_ : imF (sgA 1 sk) (fun j => fwd rt (sgM 1 rh (t * pL 1 + j))) (pL 1) (pL 1).toNat m j = (sgW 1 sk rh t) m j := rfl; rw [e_] at this; omega) (hm0.fr F0 (by decide) (by decide)) (fun k _ _ => mm0 k)) rfl rfl rfl (fun u_311 q_311 => ?_)
  obtain ⟨I1, L1⟩ := u_311
  obtain ⟨F1, h1⟩ := q_311
  dsimp only at F1 h1
  have h1 : HR I1 267 0 48 (sgC 1 sk rh mu t) := h1
  have D1 := D.fr F1 (by decide)
  have eB : blS (fun k => I1 267 (0 + k)) 48 = sgBs 1 sk rh mu t := blS_congr (fun k hk => by rw [h1 k (by omega) hk, show (sgC 1 sk rh mu t) k = spOut _ k from rfl, spOut_m])
  show AW l G M_Mo_attempt P 314 [(0, vr 175)] [] (sD h I1 L1)
  refine aw_aload_n d_Mo_attempt_314 rfl rfl ?_
  refine aw_aload_n d_Mo_attempt_315 rfl rfl ?_
  refine ax_getR (b := 204) d_Mo_attempt_316 fd_Mo_76 (k_175 S) (r_175_28 S) ?_
  refine aw_bipush d_Mo_attempt_319 ⟨by decide, by decide⟩ (by decide) ?_
  refine ax_aald (b := 251) d_Mo_attempt_321 ⟨by rw [(k_204 S)]; decide, by rw [(k_204 S)]; decide⟩ (by omega) (by rw [n_204 S]; omega) (g_204 S (j := 46) (by decide) (by decide)) ?_
  refine aw_aload_n d_Mo_attempt_322 rfl rfl ?_
  refine ax_getR (b := 267) d_Mo_attempt_323 fd_Mo_99 (k_175 S) (r_175_43 S) ?_
  refine aw_iconst d_Mo_attempt_326 ⟨by decide, by decide⟩ ?_
  refine ax_Vr (st := []) (as := [vr 251, vr 267, vi 0]) (b := 175) d_Mo_attempt_327 cs_Mo_attempt_327 (k_175 S) (c_Mo_ball S D1.1 ⟨k_267 S, by decide, by decide⟩ (dr1_38 D1) (dr1_34 D1) (by decide) (by rw [n_267 S]; decide)) rfl rfl rfl (fun u_327 q_327 => ?_)
  obtain ⟨I2, L2, v2⟩ := u_327
  obtain ⟨F2, q2, r2⟩ := q_327
  dsimp only at F2 q2 r2
  rw [eB] at q2 r2
  have G2 : FR (fun a => a = 200 ∨ a = 251) I1 L1 I2 L2 := ⟨fun a j x y => F2.1 a j (by rcases y with y | y; exact Or.inl y; exact Or.inr ⟨y.1, y.2.1, y.2.2.1⟩) (fun z => x (Or.inl z)) (fun z => x (Or.inr z)), fun a j x y z u _ => F2.2 a j x y z u⟩
  have G3 : FR (fun a => a = 200 ∨ a = 251 ∨ a = 262 ∨ a = 267) K M I2 L2 := F1.tr G2 (by intro a x; omega)
  show AW l G M_Mo_attempt P 330 [(0, vr 175)] [vi v2] (sD h I2 L2)
  refine aw_if_ne (tgt := 335) d_Mo_attempt_330 (by decide) (fun c_330 => ?_) (fun c_330 => ?_)
  · skip
    refine aw_sub (lv' := [(0, vr 175)]) (by simp) ?_
    have bn : bll 49 (sgBs 1 sk rh mu t) ≠ none := by rcases q2 with y | y; exact y.2; exact absurd y.1 (by omega)
    exact aD1 S D0 hk0 km hr0 rm0 hm0 mm0 hS0 hD0 ht (F0.tr G3 (by intro a x; exact ⟨x, by intro z; exact x (by omega)⟩)) ⟨okA, bn⟩ (h1.fr G2 (by decide) (by decide)) (fun m a b j x y => by rw [G3.1 _ _ (by omega) (Or.inl (by omega))]; exact hM m a b j x y) (fun m a b j x y => by rw [G3.1 _ _ (by omega) (Or.inl (by omega))]; exact hW m a b j x y) (r2 bn) hP
  · skip
    refine aw_iconst d_Mo_attempt_333 ⟨by decide, by decide⟩ ?_
    exact aw_iret d_Mo_attempt_334 rfl (hP _ _ ⟨_, _, _, rfl, rfl, F0.tr G3 (by intro a x; exact ⟨x, by intro z; exact x (by omega)⟩), Or.inl ⟨rfl, fun z => by rcases q2 with y | y; exact absurd y.1 (by omega); exact z.2 y.2⟩⟩)
set_option maxHeartbeats 4000000 in
set_option maxRecDepth 100000 in
theorem aB1 {l : Launch} {G : a_G} {P : a_R → Hp → Prop} {h : Hp} {K0 M0 K M : Nat → Int → Int} {sk rh mu : Int → Int} {t : Int} (S : Shp h) (D0 : RD K0 M0 1) (hk0 : HR K0 180 0 4032 sk) (km : ∀ x, sk x % 256 = sk x) (hr0 : HR K0 266 0 64 rh) (rm0 : ∀ x, rh x % 256 = rh x) (hm0 : HR K0 265 0 64 mu) (mm0 : ∀ x, mu x % 256 = mu x) (hS0 : ∀ m, 0 ≤ m → m < 11 → eqQ (K0 (205 + m.toNat)) (sgSs 1 sk m)) (hD0 : ∀ m, 0 ≤ m → m < 6 → eqQ (K0 (205 + (15 + m).toNat)) (sgDs 1 sk m)) (ht : 0 ≤ t ∧ t < 814) (F0 : FR pAt K0 M0 K M) (hM : ∀ m, 0 ≤ m → m < 5 → eqQ (K (205 + (23 + m).toNat)) (sgMs 1 rh (t * 5 + m))) (hP : ∀ r_ h2_, RaR h K0 M0 pAt (sgOk 1 sk ∧ bll 49 (sgBs 1 sk rh mu t) ≠ none) (sgGood 1 sk rh mu t) 3309 (sgPk 1 sk rh mu t) r_ h2_ → P r_ h2_) : AW l G M_Mo_attempt P 97 [(0, vr 175)] [] (sD h K M) := by
  have D := D0.fr F0 (by decide)
  have hk := hk0.fr F0 (by decide) (by decide)
  refine aw_iconst d_Mo_attempt_97 ⟨by decide, by decide⟩ ?_
  refine aw_istore_n (lv' := [(2, vi 0), (0, vr 175)]) d_Mo_attempt_98 rfl (by decide) rfl ?_
  have lp_99 : ∀ (n_ : Nat) (i : Int) (K2 : Nat → Int → Int) (M2 : Nat → Int → Int), (0 ≤ i ∧ i ≤ 6) → (FR (fun a => 235 ≤ a ∧ a ≤ 252) K M K2 M2) → (∀ m, 0 ≤ m → m < i → eqQ (K2 (205 + (30 + m).toNat)) ((sgW 1 sk rh t) m)) → (∀ m, 0 ≤ m → m < i → eqQ (K2 (205 + (38 + m).toNat)) ((fun m j => dHigh 261888 ((sgW 1 sk rh t) m j)) m)) → (∀ m, 0 ≤ m → m < 5 * i → (wide sk (m % 5) (m / 5)).2.1 = 256) → ((6 - i).toNat) = n_ → AW l G M_Mo_attempt P 99 [(2, vi i), (0, vr 175)] [] (sD h K2 M2) := by
    intro n_
    induction n_ using Nat.strongRecOn with
    | _ n_ ih_99 =>
    intro i K2 M2 hi F2 dW dH okA hm_99
    refine aw_iload_n d_Mo_attempt_99 rfl rfl ?_
    refine aw_aload_n d_Mo_attempt_100 rfl rfl ?_
    refine ax_getIe (x := 6) d_Mo_attempt_101 fd_Mo_223 (k_175 S) (Eq.trans (F2.1 175 26 (by omega) (Or.inr (by decide))) (dr1_26 D)) ?_
    refine aw_icmp_ge (tgt := 304) d_Mo_attempt_104 (by decide) (fun c_104 => ?_) (fun c_104 => ?_)
    · skip
      refine aw_sub (lv' := [(0, vr 175)]) (by simp) ?_
      exact aC1 S D0 hk0 km hr0 rm0 hm0 mm0 hS0 hD0 ht (F0.tr F2 (by intro a x; exact ⟨x, by intro z; exact x (by omega)⟩)) (fun m a b => okA m a (by have b2 : m < 30 := b; omega)) (fun m a b j x y => by rw [F2.1 _ _ (by omega) (Or.inl (by omega))]; exact hM m a b j x y) (fun m a b => dW m a (by omega)) (fun m a b => dH m a (by omega)) hP
    · skip
      refine aw_aload_n d_Mo_attempt_107 rfl rfl ?_
      refine ax_getR (b := 204) d_Mo_attempt_108 fd_Mo_76 (k_175 S) (r_175_28 S) ?_
      refine aw_bipush d_Mo_attempt_111 ⟨by decide, by decide⟩ (by decide) ?_
      refine aw_iload_n d_Mo_attempt_113 rfl rfl ?_
      refine ax_iadd d_Mo_attempt_114 ⟨(by omega), (by omega)⟩ ?_
      refine ax_aald (b := 205 + (30 + i).toNat) d_Mo_attempt_115 ⟨by rw [(k_204 S)]; decide, by rw [(k_204 S)]; decide⟩ (by omega) (by rw [n_204 S]; omega) (g_204 S (by omega) (by omega)) ?_
      refine ax_S (st := []) (as := [vr (205 + (30 + i).toNat)]) (v := none) (h' := sD h (rowTo K2 (205 + (30 + i).toNat) 256 (fun _ => 0)) M2) d_Mo_attempt_116 cs_Mo_attempt_116 (c_Mo_clear ⟨kr_204 S (by omega), by omega, nr_204 S (by omega)⟩) rfl rfl rfl ?_
      show AW l G M_Mo_attempt P 119 [(2, vi i), (0, vr 175)] [] (sD h (rowTo K2 (205 + (30 + i).toNat) 256 (fun _ => 0)) M2)
      refine aw_iconst d_Mo_attempt_119 ⟨by decide, by decide⟩ ?_
      refine aw_istore_n (lv' := [(3, vi 0), (2, vi i), (0, vr 175)]) d_Mo_attempt_120 rfl (by decide) rfl ?_
      have lp_121 : ∀ (n_ : Nat) (j : Int) (K3 : Nat → Int → Int) (M3 : Nat → Int → Int), (0 ≤ j ∧ j ≤ 5) → (FR (fun a => a = 205 + (30 + i).toNat ∨ a = 251 ∨ a = 252) K2 M2 K3 M3) → (eqQ (K3 (205 + (30 + i).toNat)) (fun c => pS (sgA 1 sk) (fun j => fwd rt (sgM 1 rh (t * 5 + j))) (i * 5) c j.toNat % 8380417)) → (∀ m, 0 ≤ m → m < j → (wide sk m i).2.1 = 256) → ((5 - j).toNat) = n_ → AW l G M_Mo_attempt P 121 [(3, vi j), (2, vi i), (0, vr 175)] [] (sD h K3 M3) := by
        intro n_
        induction n_ using Nat.strongRecOn with
        | _ n_ ih_121 =>
        intro j K3 M3 hj F3 r3 okJ hm_121
        have D3 := (D.fr F2 (by omega)).fr F3 (by omega)
        have hs3 := (hk.fr F2 (by omega) (by decide)).fr F3 (by omega) (by decide)
        have m3 : ∀ c, 0 ≤ c → c < 256 → j < 5 → K3 (205 + (23 + j).toNat) c = (sgMs 1 rh (t * 5 + j)) c := fun c x y z => by rw [F3.1 _ _ (by omega) (Or.inl (by omega)), F2.1 _ _ (by omega) (Or.inl (by omega))]; exact hM j hj.1 z c x y
        refine aw_iload_n d_Mo_attempt_121 rfl rfl ?_
        refine aw_aload_n d_Mo_attempt_122 rfl rfl ?_
        refine ax_getIe (x := 5) d_Mo_attempt_123 fd_Mo_226 (k_175 S) (Eq.trans (F3.1 175 32 (by omega) (Or.inr (by decide))) (Eq.trans (F2.1 175 32 (by omega) (Or.inr (by decide))) (dr1_32 D))) ?_
        refine aw_icmp_ge (tgt := 244) d_Mo_attempt_126 (by decide) (fun c_126 => ?_) (fun c_126 => ?_)
        · skip
          refine aw_aload_n d_Mo_attempt_244 rfl rfl ?_
          refine aw_aload_n d_Mo_attempt_245 rfl rfl ?_
          refine ax_getR (b := 204) d_Mo_attempt_246 fd_Mo_76 (k_175 S) (r_175_28 S) ?_
          refine aw_bipush d_Mo_attempt_249 ⟨by decide, by decide⟩ (by decide) ?_
          refine aw_iload_n d_Mo_attempt_251 rfl rfl ?_
          refine ax_iadd d_Mo_attempt_252 ⟨(by omega), (by omega)⟩ ?_
          refine ax_aald (b := 205 + (30 + i).toNat) d_Mo_attempt_253 ⟨by rw [(k_204 S)]; decide, by rw [(k_204 S)]; decide⟩ (by omega) (by rw [n_204 S]; omega) (g_204 S (by omega) (by omega)) ?_
          refine ax_Vr (st := []) (as := [vr (205 + (30 + i).toNat)]) (b := 175) d_Mo_attempt_254 cs_Mo_attempt_254 (k_175 S) (c_Mo_interpolate S ⟨kr_204 S (by omega), by omega, nr_204 S (by omega)⟩ (by omega) (fun x a b => by rw [r3 x a b]; show 0 ≤ _ % 8380417 ∧ _ % 8380417 < 8380417; exact ⟨Int.emod_nonneg _ (by decide), Int.emod_lt_of_pos _ (by decide)⟩) D3.2.2) rfl rfl rfl (fun u_254 q_254 => ?_)
          have l7 := q_254
          have w7 : eqQ ((rowTo K3 (205 + (30 + i).toNat) 256 (itp (K3 (205 + (30 + i).toNat)))) (205 + (30 + i).toNat)) ((sgW 1 sk rh t) i) := fun x a b => by rw [rowTo_in a b]; show itp _ x = bck rt (fun c => pS (sgA 1 sk) (fun j => fwd rt (sgM 1 rh (t * 5 + j))) (i * 5) c 5 % 8380417) x; rw [bck_itp a b]; exact itp_cq (fun y hy => cq.e (by rw [r3 y (by omega) (by omega), show j.toNat = 5 by omega]))
          show AW l G M_Mo_attempt P 257 [(3, vi j), (2, vi i), (0, vr 175)] [] (sD h (rowTo K3 (205 + (30 + i).toNat) 256 (itp (K3 (205 + (30 + i).toNat)))) u_254)
          refine aw_iconst d_Mo_attempt_257 ⟨by decide, by decide⟩ ?_
          refine aw_istore_n (lv' := [(3, vi 0), (2, vi i), (0, vr 175)]) d_Mo_attempt_258 rfl (by decide) rfl ?_
          have lp_259 : ∀ (n_ : Nat) (c : Int), (0 ≤ c ∧ c ≤ 256) → ((256 - c).toNat) = n_ → AW l G M_Mo_attempt P 259 [(3, vi c), (2, vi i), (0, vr 175)] [] (sD h (rowTo (rowTo K3 (205 + (30 + i).toNat) 256 (itp (K3 (205 + (30 + i).toNat)))) (205 + (38 + i).toNat) c (fun x => dHigh 261888 ((sgW 1 sk rh t) i x))) u_254) := by
            intro n_
            induction n_ using Nat.strongRecOn with
            | _ n_ ih_259 =>
            intro c hc8 hm_259
            have w8 : c < 256 → (rowTo (rowTo K3 (205 + (30 + i).toNat) 256 (itp (K3 (205 + (30 + i).toNat)))) (205 + (38 + i).toNat) c (fun x => dHigh 261888 ((sgW 1 sk rh t) i x))) (205 + (30 + i).toNat) c = (sgW 1 sk rh t) i c := fun v => by rw [rowTo_ne (by omega)]; exact w7 c hc8.1 v
            have gp8 : (rowTo (rowTo K3 (205 + (30 + i).toNat) 256 (itp (K3 (205 + (30 + i).toNat)))) (205 + (38 + i).toNat) c (fun x => dHigh 261888 ((sgW 1 sk rh t) i x))) 175 36 = 261888 := by rw [rowTo_ne (by omega), rowTo_ne (by omega)]; exact dr1_36 D3
            refine aw_iload_n d_Mo_attempt_259 rfl rfl ?_
            refine aw_sipush d_Mo_attempt_260 ⟨by decide, by decide⟩ (by decide) ?_
            refine aw_icmp_ge (tgt := 298) d_Mo_attempt_263 (by decide) (fun c_263 => ?_) (fun c_263 => ?_)
            · skip
              rw [show c = 256 by omega]
              refine ax_iinc (lv' := [(2, vi (i + 1)), (3, vi 256), (0, vr 175)]) d_Mo_attempt_298 rfl (by decide) ⟨(by omega), (by omega)⟩ rfl ?_
              refine aw_goto (tgt := 99) d_Mo_attempt_301 (by decide) ?_
              refine aw_sub (lv' := [(2, vi (i + 1)), (0, vr 175)]) (by simp) ?_
              exact ih_99 _ (by omega) (i + 1) (rowTo (rowTo K3 (205 + (30 + i).toNat) 256 (itp (K3 (205 + (30 + i).toNat)))) (205 + (38 + i).toNat) 256 (fun x => dHigh 261888 ((sgW 1 sk rh t) i x))) u_254 (by omega) (((F2.tr (F3.mono (r := fun a => 235 ≤ a ∧ a ≤ 252) (by intro a x; omega)) (fun a x => ⟨x, x⟩)).tr (FR.row (p := fun a => 235 ≤ a ∧ a ≤ 252) (by omega) l7) (fun a x => ⟨x, x⟩)).tr (FR.row (p := fun a => 235 ≤ a ∧ a ≤ 252) (by omega) (fun _ _ _ => rfl)) (fun a x => ⟨x, x⟩)) (fun m a b x u v => by by_cases z : m = i; exact (by rw [z, rowTo_ne (by omega)]; exact w7 x u v); exact (by rw [rowTo_ne (by omega), rowTo_ne (by omega), F3.1 _ _ (by omega) (Or.inl (by omega))]; exact dW m a (by omega) x u v)) (fun m a b x u v => by by_cases z : m = i; exact (by rw [z, rowTo_in u v]); exact (by rw [rowTo_ne (by omega), rowTo_ne (by omega), F3.1 _ _ (by omega) (Or.inl (by omega))]; exact dH m a (by omega) x u v)) (fun m a b => by by_cases v : m < 5 * i; exact okA m a v; exact (by have w_ := okJ (m - 5 * i) (by omega) (by omega); rw [show m % 5 = m - 5 * i by omega, show m / 5 = i by omega]; exact w_)) rfl
            · skip
              have c2 := imF_in (A := (sgA 1 sk)) (V := fun j => fwd rt (sgM 1 rh (t * pL 1 + j))) (l := pL 1) (n := (pL 1).toNat) (m := i) c hc8.1 (by omega)
              have c2 : 0 ≤ (sgW 1 sk rh t) i c ∧ (sgW 1 sk rh t) i c < 8380417 := c2
              refine aw_aload_n d_Mo_attempt_266 rfl rfl ?_
              refine ax_getR (b := 204) d_Mo_attempt_267 fd_Mo_76 (k_175 S) (r_175_28 S) ?_
              refine aw_bipush d_Mo_attempt_270 ⟨by decide, by decide⟩ (by decide) ?_
              refine aw_iload_n d_Mo_attempt_272 rfl rfl ?_
              refine ax_iadd d_Mo_attempt_273 ⟨(by omega), (by omega)⟩ ?_
              refine ax_aald (b := 205 + (38 + i).toNat) d_Mo_attempt_274 ⟨by rw [(k_204 S)]; decide, by rw [(k_204 S)]; decide⟩ (by omega) (by rw [n_204 S]; omega) (g_204 S (by omega) (by omega)) ?_
              refine aw_iload_n d_Mo_attempt_275 rfl rfl ?_
              refine aw_aload_n d_Mo_attempt_276 rfl rfl ?_
              refine aw_aload_n d_Mo_attempt_277 rfl rfl ?_
              refine ax_getR (b := 204) d_Mo_attempt_278 fd_Mo_76 (k_175 S) (r_175_28 S) ?_
              refine aw_bipush d_Mo_attempt_281 ⟨by decide, by decide⟩ (by decide) ?_
              refine aw_iload_n d_Mo_attempt_283 rfl rfl ?_
              refine ax_iadd d_Mo_attempt_284 ⟨(by omega), (by omega)⟩ ?_
              refine ax_aald (b := 205 + (30 + i).toNat) d_Mo_attempt_285 ⟨by rw [(k_204 S)]; decide, by rw [(k_204 S)]; decide⟩ (by omega) (by rw [n_204 S]; omega) (g_204 S (by omega) (by omega)) ?_
              refine aw_iload_n d_Mo_attempt_286 rfl rfl ?_
              refine ax_ialde (x := (sgW 1 sk rh t) i c) d_Mo_attempt_287 (kr_204 S (by omega)) (by omega) (by rw [nr_204 S (by omega)]; omega) (w8 (by omega)) ?_
              refine ax_V (st := [vi c, vr (205 + (38 + i).toNat)]) (as := [vi ((sgW 1 sk rh t) i c)]) (b := 175) (v := some (vi (dHigh 261888 ((sgW 1 sk rh t) i c)))) (h' := sD h (rowTo (rowTo K3 (205 + (30 + i).toNat) 256 (itp (K3 (205 + (30 + i).toNat)))) (205 + (38 + i).toNat) c (fun x => dHigh 261888 ((sgW 1 sk rh t) i x))) u_254) d_Mo_attempt_288 cs_Mo_attempt_288 (k_175 S) (by have z := c_Mo_high (l := l) (G := G) (L := u_254) (I := rowTo (rowTo K3 (205 + (30 + i).toNat) 256 (itp (K3 (205 + (30 + i).toNat)))) (205 + (38 + i).toNat) c (fun x => dHigh 261888 ((sgW 1 sk rh t) i x))) (r := (sgW 1 sk rh t) i c) S (by rw [gp8]; decide) c2; rw [gp8] at z; exact z) rfl rfl rfl ?_
              show AW l G M_Mo_attempt P 291 [(3, vi c), (2, vi i), (0, vr 175)] [vi (dHigh 261888 ((sgW 1 sk rh t) i c)), vi c, vr (205 + (38 + i).toNat)] (sD h (rowTo (rowTo K3 (205 + (30 + i).toNat) 256 (itp (K3 (205 + (30 + i).toNat)))) (205 + (38 + i).toNat) c (fun x => dHigh 261888 ((sgW 1 sk rh t) i x))) u_254)
              refine ax_iast d_Mo_attempt_291 (kr_204 S (by omega)) (by omega) (by omega) (by rw [nr_204 S (by omega)]; omega) ?_
              rw [rowTo_1 (by omega) rfl]
              refine ax_iinc (lv' := [(3, vi (c + 1)), (2, vi i), (0, vr 175)]) d_Mo_attempt_292 rfl (by decide) ⟨(by omega), (by omega)⟩ rfl ?_
              refine aw_goto (tgt := 259) d_Mo_attempt_295 (by decide) ?_
              exact ih_259 _ (by omega) (c + 1) (by omega) rfl
          refine ax_hp (h' := sD h (rowTo (rowTo K3 (205 + (30 + i).toNat) 256 (itp (K3 (205 + (30 + i).toNat)))) (205 + (38 + i).toNat) 0 (fun x => dHigh 261888 ((sgW 1 sk rh t) i x))) u_254) (by rw [rowTo_0]) ?_
          exact lp_259 _ 0 (by omega) rfl
        · skip
          refine aw_iconst d_Mo_attempt_129 ⟨by decide, by decide⟩ ?_
          refine aw_istore (lv' := [(4, vi 0), (3, vi j), (2, vi i), (0, vr 175)]) d_Mo_attempt_130 (by decide) rfl ?_
          have lp_132 : ∀ (n_ : Nat) (c : Int), (0 ≤ c ∧ c ≤ 256) → ((256 - c).toNat) = n_ → AW l G M_Mo_attempt P 132 [(4, vi c), (3, vi j), (2, vi i), (0, vr 175)] [] (sD h (rowTo K3 251 c (fun x => ((sgMs 1 rh (t * 5 + j)) x + 8380417) % 8380417)) M3) := by
            intro n_
            induction n_ using Nat.strongRecOn with
            | _ n_ ih_132 =>
            intro c hc hm_132
            refine aw_iload d_Mo_attempt_132 rfl ?_
            refine aw_sipush d_Mo_attempt_134 ⟨by decide, by decide⟩ (by decide) ?_
            refine aw_icmp_ge (tgt := 176) d_Mo_attempt_137 (by decide) (fun c_137 => ?_) (fun c_137 => ?_)
            · skip
              rw [show c = 256 by omega]
              refine aw_aload_n d_Mo_attempt_176 rfl rfl ?_
              refine aw_aload_n d_Mo_attempt_177 rfl rfl ?_
              refine ax_getR (b := 204) d_Mo_attempt_178 fd_Mo_76 (k_175 S) (r_175_28 S) ?_
              refine aw_bipush d_Mo_attempt_181 ⟨by decide, by decide⟩ (by decide) ?_
              refine ax_aald (b := 251) d_Mo_attempt_183 ⟨by rw [(k_204 S)]; decide, by rw [(k_204 S)]; decide⟩ (by omega) (by rw [n_204 S]; omega) (g_204 S (j := 46) (by decide) (by decide)) ?_
              refine ax_Vr (st := []) (as := [vr 251]) (b := 175) d_Mo_attempt_184 cs_Mo_attempt_184 (k_175 S) (c_Mo_evaluate S ⟨k_251 S, by decide, n_251 S⟩ (by decide) (fun x u v => by rw [rowTo_in u v]; omega) (fun x u v => by rw [rowTo_ne (by decide)]; exact D3.2.2 x u v)) rfl rfl rfl (fun u_184 q_184 => ?_)
              have l5 := q_184
              have v5 : eqQ ((rowTo (rowTo K3 251 256 (fun x => ((sgMs 1 rh (t * 5 + j)) x + 8380417) % 8380417)) 251 256 (eva ((rowTo K3 251 256 (fun x => ((sgMs 1 rh (t * 5 + j)) x + 8380417) % 8380417)) 251))) 251) (fwd rt (sgM 1 rh (t * 5 + j))) := fun x u v => by rw [rowTo_in u v, fwd_eva u v]; exact eva_cq (fun y hy => cq.e (by rw [rowTo_in (by omega) (by omega)]; exact Int.add_emod_right _ _))
              have hs5 : HR (rowTo (rowTo K3 251 256 (fun x => ((sgMs 1 rh (t * 5 + j)) x + 8380417) % 8380417)) 251 256 (eva ((rowTo K3 251 256 (fun x => ((sgMs 1 rh (t * 5 + j)) x + 8380417) % 8380417)) 251))) 180 0 4032 sk := fun z x y => by rw [rowTo_ne (by decide), rowTo_ne (by decide)]; exact hs3 z x y
              have D5 := (D3.fr (FR.row (p := fun a => a = 251) (n := 256) (X := (fun x => ((sgMs 1 rh (t * 5 + j)) x + 8380417) % 8380417)) rfl (fun _ _ _ => rfl)) (by decide)).fr (FR.row (p := fun a => a = 251) (n := 256) (X := eva ((rowTo K3 251 256 (fun x => ((sgMs 1 rh (t * 5 + j)) x + 8380417) % 8380417)) 251)) rfl l5) (by decide)
              show AW l G M_Mo_attempt P 187 [(4, vi 256), (3, vi j), (2, vi i), (0, vr 175)] [] (sD h (rowTo (rowTo K3 251 256 (fun x => ((sgMs 1 rh (t * 5 + j)) x + 8380417) % 8380417)) 251 256 (eva ((rowTo K3 251 256 (fun x => ((sgMs 1 rh (t * 5 + j)) x + 8380417) % 8380417)) 251))) u_184)
              refine aw_aload_n d_Mo_attempt_187 rfl rfl ?_
              refine aw_aload_n d_Mo_attempt_188 rfl rfl ?_
              refine ax_getR (b := 204) d_Mo_attempt_189 fd_Mo_76 (k_175 S) (r_175_28 S) ?_
              refine aw_bipush d_Mo_attempt_192 ⟨by decide, by decide⟩ (by decide) ?_
              refine ax_aald (b := 252) d_Mo_attempt_194 ⟨by rw [(k_204 S)]; decide, by rw [(k_204 S)]; decide⟩ (by omega) (by rw [n_204 S]; omega) (g_204 S (j := 47) (by decide) (by decide)) ?_
              refine aw_aload_n d_Mo_attempt_195 rfl rfl ?_
              refine ax_getR (b := 177) d_Mo_attempt_196 fd_Mo_15 (k_175 S) (r_175_1 S) ?_
              refine aw_iconst d_Mo_attempt_199 ⟨by decide, by decide⟩ ?_
              refine ax_aald (b := 180) d_Mo_attempt_200 ⟨by rw [(k_177 S)]; decide, by rw [(k_177 S)]; decide⟩ (by omega) (by rw [n_177 S]; omega) (g_177 S (j := 2) (by decide) (by decide)) ?_
              refine aw_iconst d_Mo_attempt_201 ⟨by decide, by decide⟩ ?_
              refine aw_iload_n d_Mo_attempt_202 rfl rfl ?_
              refine aw_iload_n d_Mo_attempt_203 rfl rfl ?_
              refine ax_Vr (st := []) (as := [vr 252, vr 180, vi 0, vi j, vi i]) (b := 175) d_Mo_attempt_204 cs_Mo_attempt_204 (k_175 S) (by have z := c_Mo_sampleWide (l := l) (G := G) (I := rowTo (rowTo K3 251 256 (fun x => ((sgMs 1 rh (t * 5 + j)) x + 8380417) % 8380417)) 251 256 (eva ((rowTo K3 251 256 (fun x => ((sgMs 1 rh (t * 5 + j)) x + 8380417) % 8380417)) 251))) (L := u_184) (f := 252) (r := 180) (pa := 0) (x := j) (y := i) S D5.1 ⟨k_252 S, by decide, n_252 S⟩ (by decide) ⟨k_180 S, by decide, by decide⟩ (by rw [n_180 S]; decide); rw [wide_sk hs5 km (by decide)] at z; exact z) rfl rfl rfl (fun u_204 q_204 => ?_)
              obtain ⟨I6, L6⟩ := u_204
              obtain ⟨f6, r6⟩ := q_204
              dsimp only at f6 r6 ⊢
              by_cases ok_204 : (wide sk j i).2.1 = 256
              · skip
                rw [if_pos ok_204]
                show AW l G M_Mo_attempt P 207 [(4, vi 256), (3, vi j), (2, vi i), (0, vr 175)] [vi 1] (sD h I6 L6)
                refine aw_if_ne (tgt := 212) d_Mo_attempt_207 (by decide) (fun c_207 => ?_) (fun c_207 => False.elim (by omega))
                refine aw_aload_n d_Mo_attempt_212 rfl rfl ?_
                refine ax_getR (b := 204) d_Mo_attempt_213 fd_Mo_76 (k_175 S) (r_175_28 S) ?_
                refine aw_bipush d_Mo_attempt_216 ⟨by decide, by decide⟩ (by decide) ?_
                refine aw_iload_n d_Mo_attempt_218 rfl rfl ?_
                refine ax_iadd d_Mo_attempt_219 ⟨(by omega), (by omega)⟩ ?_
                refine ax_aald (b := 205 + (30 + i).toNat) d_Mo_attempt_220 ⟨by rw [(k_204 S)]; decide, by rw [(k_204 S)]; decide⟩ (by omega) (by rw [n_204 S]; omega) (g_204 S (by omega) (by omega)) ?_
                refine aw_aload_n d_Mo_attempt_221 rfl rfl ?_
                refine ax_getR (b := 204) d_Mo_attempt_222 fd_Mo_76 (k_175 S) (r_175_28 S) ?_
                refine aw_bipush d_Mo_attempt_225 ⟨by decide, by decide⟩ (by decide) ?_
                refine ax_aald (b := 251) d_Mo_attempt_227 ⟨by rw [(k_204 S)]; decide, by rw [(k_204 S)]; decide⟩ (by omega) (by rw [n_204 S]; omega) (g_204 S (j := 46) (by decide) (by decide)) ?_
                refine aw_aload_n d_Mo_attempt_228 rfl rfl ?_
                refine ax_getR (b := 204) d_Mo_attempt_229 fd_Mo_76 (k_175 S) (r_175_28 S) ?_
                refine aw_bipush d_Mo_attempt_232 ⟨by decide, by decide⟩ (by decide) ?_
                refine ax_aald (b := 252) d_Mo_attempt_234 ⟨by rw [(k_204 S)]; decide, by rw [(k_204 S)]; decide⟩ (by omega) (by rw [n_204 S]; omega) (g_204 S (j := 47) (by decide) (by decide)) ?_
                refine ax_S (st := []) (as := [vr (205 + (30 + i).toNat), vr 251, vr 252]) (v := none) (h' := sD h (rowTo I6 (205 + (30 + i).toNat) 256 (fun x => (I6 (205 + (30 + i).toNat) x + I6 251 x * I6 252 x) % 8380417)) L6) d_Mo_attempt_235 cs_Mo_attempt_235 (c_Mo_addProducts ⟨kr_204 S (by omega), by omega, nr_204 S (by omega)⟩ ⟨k_251 S, by decide, n_251 S⟩ ⟨k_252 S, by decide, n_252 S⟩ (fun x a b => by rw [f6.1 _ x (Or.inl (by omega)) (by omega), rowTo_ne (by omega), rowTo_ne (by omega), r3 x a b]; show 0 ≤ _ % 8380417 ∧ _ % 8380417 < 8380417; exact ⟨Int.emod_nonneg _ (by decide), Int.emod_lt_of_pos _ (by decide)⟩) (fun x a b => by rw [f6.1 251 x (Or.inl (by decide)) (by decide), v5 x a b]; exact fwd_in sgM_in x a b) (fun x a b => by rw [r6 x a (by rw [ok_204]; exact b)]; exact wide_b.2 x)) rfl rfl rfl ?_
                show AW l G M_Mo_attempt P 238 [(4, vi 256), (3, vi j), (2, vi i), (0, vr 175)] [] (sD h (rowTo I6 (205 + (30 + i).toNat) 256 (fun x => (I6 (205 + (30 + i).toNat) x + I6 251 x * I6 252 x) % 8380417)) L6)
                refine ax_iinc (lv' := [(3, vi (j + 1)), (4, vi 256), (2, vi i), (0, vr 175)]) d_Mo_attempt_238 rfl (by decide) ⟨(by omega), (by omega)⟩ rfl ?_
                refine aw_goto (tgt := 121) d_Mo_attempt_241 (by decide) ?_
                refine aw_sub (lv' := [(3, vi (j + 1)), (2, vi i), (0, vr 175)]) (by simp) ?_
                exact ih_121 _ (by omega) (j + 1) (rowTo I6 (205 + (30 + i).toNat) 256 (fun x => (I6 (205 + (30 + i).toNat) x + I6 251 x * I6 252 x) % 8380417)) L6 (by omega) ((((F3.tr (FR.row (p := fun a => a = 205 + (30 + i).toNat ∨ a = 251 ∨ a = 252) (by omega) (fun _ _ _ => rfl)) (fun a x => ⟨x, x⟩)).tr (FR.row (p := fun a => a = 205 + (30 + i).toNat ∨ a = 251 ∨ a = 252) (by omega) l5) (fun a x => ⟨x, x⟩)).tr (FR.smp (p := fun a => a = 205 + (30 + i).toNat ∨ a = 251 ∨ a = 252) f6 (by omega)) (fun a x => ⟨x, x⟩)).tr (FR.row (p := fun a => a = 205 + (30 + i).toNat ∨ a = 251 ∨ a = 252) (by omega) (fun _ _ _ => rfl)) (fun a x => ⟨x, x⟩)) (fun x a b => by rw [rowTo_in a b, f6.1 _ x (Or.inl (by omega)) (by omega), rowTo_ne (by omega), rowTo_ne (by omega), r3 x a b, r6 x a (by rw [ok_204]; exact b), f6.1 251 x (Or.inl (by decide)) (by decide), v5 x a b, show (j + 1).toNat = j.toNat + 1 by omega]; show _ = (pS (sgA 1 sk) (fun j => fwd rt (sgM 1 rh (t * 5 + j))) (i * 5) x j.toNat + (sgA 1 sk) (i * 5 + (j.toNat : Int)) x * (fwd rt (sgM 1 rh (t * 5 + (j.toNat : Int))) x)) % 8380417; rw [Int.toNat_of_nonneg hj.1, show (sgA 1 sk) (i * 5 + j) x = (wide sk j i).2.2 x from by unfold sgA; rw [show pL 1 = 5 from rfl, show (i * 5 + j) % 5 = j by omega, show (i * 5 + j) / 5 = i by omega], Int.mul_comm (fwd rt _ x)]; exact Int.emod_add_emod _ _ _) (fun m a b => by by_cases z : m = j; exact (by rw [z]; exact ok_204); exact okJ m a (by omega)) rfl
              · skip
                rw [if_neg ok_204]
                show AW l G M_Mo_attempt P 207 [(4, vi 256), (3, vi j), (2, vi i), (0, vr 175)] [vi 0] (sD h I6 L6)
                refine aw_if_ne (tgt := 212) d_Mo_attempt_207 (by decide) (fun c_207 => False.elim (by omega)) (fun c_207 => ?_)
                refine aw_iconst d_Mo_attempt_210 ⟨by decide, by decide⟩ ?_
                exact aw_iret d_Mo_attempt_211 rfl (hP _ _ ⟨_, _, _, rfl, rfl, F0.tr ((((F2.tr (F3.mono (r := fun a => 235 ≤ a ∧ a ≤ 252) (by intro a x; omega)) (fun a x => ⟨x, x⟩)).tr (FR.row (p := fun a => 235 ≤ a ∧ a ≤ 252) (by omega) (fun _ _ _ => rfl)) (fun a x => ⟨x, x⟩)).tr (FR.row (p := fun a => 235 ≤ a ∧ a ≤ 252) (by omega) l5) (fun a x => ⟨x, x⟩)).tr (FR.smp (p := fun a => 235 ≤ a ∧ a ≤ 252) f6 (by omega)) (fun a x => ⟨x, x⟩)) (by intro a x; exact ⟨x, by intro z; exact x (by omega)⟩), Or.inl ⟨rfl, fun z => ok_204 (by have y := z.1 (i * 5 + j) (by omega) (by show i * 5 + j < 30; omega); rw [show pL 1 = 5 from rfl, show (i * 5 + j) % 5 = j by omega, show (i * 5 + j) / 5 = i by omega] at y; exact y)⟩⟩)
            · skip
              have c5 := (show -524288 < (sgMs 1 rh (t * 5 + j)) c ∧ (sgMs 1 rh (t * 5 + j)) c ≤ 524288 from ⟨by have := (sgMs_b (s := 1) (rh := rh) (n := t * 5 + j) (j := c)).1; rw [show pG1 1 - 2 ^ (pB 1).toNat = -524288 from by decide] at this; exact this, (sgMs_b (s := 1) (rh := rh) (n := t * 5 + j) (j := c)).2⟩)
              refine aw_aload_n d_Mo_attempt_140 rfl rfl ?_
              refine ax_getR (b := 204) d_Mo_attempt_141 fd_Mo_76 (k_175 S) (r_175_28 S) ?_
              refine aw_bipush d_Mo_attempt_144 ⟨by decide, by decide⟩ (by decide) ?_
              refine ax_aald (b := 251) d_Mo_attempt_146 ⟨by rw [(k_204 S)]; decide, by rw [(k_204 S)]; decide⟩ (by omega) (by rw [n_204 S]; omega) (g_204 S (j := 46) (by decide) (by decide)) ?_
              refine aw_iload d_Mo_attempt_147 rfl ?_
              refine aw_aload_n d_Mo_attempt_149 rfl rfl ?_
              refine ax_getR (b := 204) d_Mo_attempt_150 fd_Mo_76 (k_175 S) (r_175_28 S) ?_
              refine aw_bipush d_Mo_attempt_153 ⟨by decide, by decide⟩ (by decide) ?_
              refine aw_iload_n d_Mo_attempt_155 rfl rfl ?_
              refine ax_iadd d_Mo_attempt_156 ⟨(by omega), (by omega)⟩ ?_
              refine ax_aald (b := 205 + (23 + j).toNat) d_Mo_attempt_157 ⟨by rw [(k_204 S)]; decide, by rw [(k_204 S)]; decide⟩ (by omega) (by rw [n_204 S]; omega) (g_204 S (by omega) (by omega)) ?_
              refine aw_iload d_Mo_attempt_158 rfl ?_
              refine ax_ialde (x := (sgMs 1 rh (t * 5 + j)) c) d_Mo_attempt_160 (kr_204 S (by omega)) (by omega) (by rw [nr_204 S (by omega)]; omega) (Eq.trans (rowTo_ne (by omega)) (m3 c hc.1 (by omega) (by omega))) ?_
              refine aw_ldcw (n := 8380417) d_Mo_attempt_161 lc_Mo_264 ⟨by decide, by decide⟩ ?_
              refine ax_iadd d_Mo_attempt_164 ⟨(by omega), (by omega)⟩ ?_
              refine aw_ldcw (n := 8380417) d_Mo_attempt_165 lc_Mo_264 ⟨by decide, by decide⟩ ?_
              refine ax_irem d_Mo_attempt_168 (by omega) (by omega) ?_
              refine ax_iast d_Mo_attempt_169 (k_251 S) (by decide) (by omega) (by rw [n_251 S]; omega) ?_
              rw [rowTo_1 (by omega) rfl]
              refine ax_iinc (lv' := [(4, vi (c + 1)), (3, vi j), (2, vi i), (0, vr 175)]) d_Mo_attempt_170 rfl (by decide) ⟨(by omega), (by omega)⟩ rfl ?_
              refine aw_goto (tgt := 132) d_Mo_attempt_173 (by decide) ?_
              exact ih_132 _ (by omega) (c + 1) (by omega) rfl
          refine ax_hp (h' := sD h (rowTo K3 251 0 (fun x => ((sgMs 1 rh (t * 5 + j)) x + 8380417) % 8380417)) M3) (by rw [rowTo_0]) ?_
          exact lp_132 _ 0 (by omega) rfl
      skip
      exact lp_121 _ 0 (rowTo K2 (205 + (30 + i).toNat) 256 (fun _ => 0)) M2 (by omega) (FR.row (p := fun a => a = 205 + (30 + i).toNat ∨ a = 251 ∨ a = 252) (by omega) (fun _ _ _ => rfl)) (fun x a b => by rw [rowTo_in a b]; rfl) (fun m a b => by omega) rfl
  skip
  exact lp_99 _ 0 K M (by omega) (FR.rfl') (fun m a b => by omega) (fun m a b => by omega) (fun m a b => by omega) rfl
set_option maxHeartbeats 800000 in
set_option maxRecDepth 100000 in
theorem c_Mo_attempt1 {l : Launch} {G : a_G} {h : Hp} {K0 M0 : Nat → Int → Int} {sk rh mu : Int → Int} {t aa : Int} (S : Shp h) (D0 : RD K0 M0 1) (hk0 : HR K0 180 0 4032 sk) (km : ∀ x, sk x % 256 = sk x) (hr0 : HR K0 266 0 64 rh) (rm0 : ∀ x, rh x % 256 = rh x) (hm0 : HR K0 265 0 64 mu) (mm0 : ∀ x, mu x % 256 = mu x) (hS0 : ∀ m, 0 ≤ m → m < 11 → eqQ (K0 (205 + m.toNat)) (sgSs 1 sk m)) (hD0 : ∀ m, 0 ≤ m → m < 6 → eqQ (K0 (205 + (15 + m).toNat)) (sgDs 1 sk m)) (ht : 0 ≤ t ∧ t < 814) (ha : aa = t * 5) : AW l G M_Mo_attempt (RaR h K0 M0 pAt (sgOk 1 sk ∧ bll 49 (sgBs 1 sk rh mu t) ≠ none) (sgGood 1 sk rh mu t) 3309 (sgPk 1 sk rh mu t)) 0 (a_ar 0 [vr 175, vi aa]) [] (sD h K0 M0) := by
  suffices key : ∀ P : a_R → Hp → Prop, (∀ r_ h2_, RaR h K0 M0 pAt (sgOk 1 sk ∧ bll 49 (sgBs 1 sk rh mu t) ≠ none) (sgGood 1 sk rh mu t) 3309 (sgPk 1 sk rh mu t) r_ h2_ → P r_ h2_) → AW l G M_Mo_attempt P 0 [(0, vr 175), (1, vi aa)] [] (sD h K0 M0) from key _ (fun _ _ q => q)
  intro P hP
  refine aw_iconst d_Mo_attempt_0 ⟨by decide, by decide⟩ ?_
  refine aw_istore_n (lv' := [(2, vi 0), (0, vr 175), (1, vi aa)]) d_Mo_attempt_1 rfl (by decide) rfl ?_
  have lp_2 : ∀ (n_ : Nat) (i : Int) (K : Nat → Int → Int) (M : Nat → Int → Int), (0 ≤ i ∧ i ≤ 5) → (FR (fun a => a = 262 ∨ 228 ≤ a ∧ a ≤ 234) K0 M0 K M) → (∀ m, 0 ≤ m → m < i → eqQ (K (205 + (23 + m).toNat)) (sgMs 1 rh (t * 5 + m))) → ((5 - i).toNat) = n_ → AW l G M_Mo_attempt P 2 [(2, vi i), (1, vi aa), (0, vr 175)] [] (sD h K M) := by
    intro n_
    induction n_ using Nat.strongRecOn with
    | _ n_ ih_2 =>
    intro i K M hi F dn hm_2
    have RS := D0.1.fr F (by omega)
    refine aw_iload_n d_Mo_attempt_2 rfl rfl ?_
    refine aw_aload_n d_Mo_attempt_3 rfl rfl ?_
    refine ax_getIe (x := 5) d_Mo_attempt_4 fd_Mo_226 (k_175 S) (Eq.trans (F.1 175 32 (by omega) (Or.inr (by decide))) (dr1_32 D0)) ?_
    refine aw_icmp_ge (tgt := 97) d_Mo_attempt_7 (by decide) (fun c_7 => ?_) (fun c_7 => ?_)
    · skip
      refine aw_sub (lv' := [(0, vr 175)]) (by simp) ?_
      exact aB1 S D0 hk0 km hr0 rm0 hm0 mm0 hS0 hD0 ht (F.mono (by intro a x z; exact x (by omega))) (fun m a b => dn m a (by omega)) hP
    · skip
      refine aw_aload_n d_Mo_attempt_10 rfl rfl ?_
      refine aw_bipush d_Mo_attempt_11 ⟨by decide, by decide⟩ (by decide) ?_
      refine ax_Vr (st := []) (as := [vi 12]) (b := 175) d_Mo_attempt_13 cs_Mo_attempt_13 (k_175 S) (c_Mo_begin12 S) rfl rfl rfl (fun u_13 q_13 => ?_)
      obtain ⟨I1, L1⟩ := u_13
      obtain ⟨F1, e1, k1⟩ := q_13
      dsimp only at F1 e1 k1
      show AW l G M_Mo_attempt P 16 [(2, vi i), (1, vi aa), (0, vr 175)] [] (sD h I1 L1)
      refine aw_aload_n d_Mo_attempt_16 rfl rfl ?_
      refine aw_aload_n d_Mo_attempt_17 rfl rfl ?_
      refine ax_getR (b := 266) d_Mo_attempt_18 fd_Mo_96 (k_175 S) (r_175_42 S) ?_
      refine aw_iconst d_Mo_attempt_21 ⟨by decide, by decide⟩ ?_
      refine aw_bipush d_Mo_attempt_22 ⟨by decide, by decide⟩ (by decide) ?_
      refine ax_Vr (st := []) (as := [vr 266, vi 0, vi 64]) (b := 175) d_Mo_attempt_24 cs_Mo_attempt_24 (k_175 S) (c_Mo_put3 S (RS.rf F1) (by omega) (by rw [e1]; exact spStart_lt (by decide) (by decide)) ⟨k_266 S, by decide, by decide⟩ (by rw [n_266 S]; decide)) rfl rfl rfl (fun u_24 q_24 => ?_)
      obtain ⟨I2, L2⟩ := u_24
      obtain ⟨F2, e2, k2⟩ := q_24
      dsimp only at F2 e2 k2
      show AW l G M_Mo_attempt P 27 [(2, vi i), (1, vi aa), (0, vr 175)] [] (sD h I2 L2)
      refine aw_aload_n d_Mo_attempt_27 rfl rfl ?_
      refine aw_iload_n d_Mo_attempt_28 rfl rfl ?_
      refine aw_iload_n d_Mo_attempt_29 rfl rfl ?_
      refine ax_iadd d_Mo_attempt_30 ⟨(by omega), (by omega)⟩ ?_
      refine ax_Vr (st := []) (as := [vi (aa + i)]) (b := 175) d_Mo_attempt_31 cs_Mo_attempt_31 (k_175 S) (c_Mo_put1 S ((RS.rf F1).rf F2) (by omega) (by rw [e2, e1]; exact spPart_lt (spStart_lt (by decide) (by decide)) _ _)) rfl rfl rfl (fun u_31 q_31 => ?_)
      obtain ⟨I3, L3⟩ := u_31
      obtain ⟨F3, e3, k3⟩ := q_31
      dsimp only at F3 e3 k3
      show AW l G M_Mo_attempt P 34 [(2, vi i), (1, vi aa), (0, vr 175)] [] (sD h I3 L3)
      refine aw_aload_n d_Mo_attempt_34 rfl rfl ?_
      refine aw_iload_n d_Mo_attempt_35 rfl rfl ?_
      refine aw_iload_n d_Mo_attempt_36 rfl rfl ?_
      refine ax_iadd d_Mo_attempt_37 ⟨(by omega), (by omega)⟩ ?_
      refine aw_bipush d_Mo_attempt_38 ⟨by decide, by decide⟩ (by decide) ?_
      refine aw_ishr d_Mo_attempt_40 ?_
      refine ax_ti (x := (aa + i) / 256) (a_shr' 8 rfl (by decide) (by decide) ⟨(by omega), (by omega)⟩) ?_
      refine ax_Vr (st := []) (as := [vi ((aa + i) / 256)]) (b := 175) d_Mo_attempt_41 cs_Mo_attempt_41 (k_175 S) (c_Mo_put1 S (((RS.rf F1).rf F2).rf F3) (by omega) (by rw [e3, e2, e1]; exact spTake_lt (spPart_lt (spStart_lt (by decide) (by decide)) _ _) _)) rfl rfl rfl (fun u_41 q_41 => ?_)
      obtain ⟨I4, L4⟩ := u_41
      obtain ⟨F4, e4, k4⟩ := q_41
      dsimp only at F4 e4 k4
      show AW l G M_Mo_attempt P 44 [(2, vi i), (1, vi aa), (0, vr 175)] [] (sD h I4 L4)
      have eS : spTurn (spR I4 L4) = nmS rh (t * 5 + i) := by rw [e4, e3, e2, e1, show Int.toNat 64 = 64 from rfl, spPart_congr (f := fun k => I1 266 (0 + k)) (g := rh) (fun k hk => by rw [F1.1 266 _ (Or.inl (by decide)), F.1 266 _ (by omega) (Or.inl (by decide)), hr0 k (by omega) (by omega), rm0]), ha]; rfl
      refine aw_aload_n d_Mo_attempt_44 rfl rfl ?_
      refine aw_aload_n d_Mo_attempt_45 rfl rfl ?_
      refine ax_getR (b := 262) d_Mo_attempt_46 fd_Mo_84 (k_175 S) (r_175_30 S) ?_
      refine aw_iconst d_Mo_attempt_49 ⟨by decide, by decide⟩ ?_
      refine aw_bipush d_Mo_attempt_50 ⟨by decide, by decide⟩ (by decide) ?_
      refine aw_aload_n d_Mo_attempt_52 rfl rfl ?_
      refine ax_getIe (x := 20) d_Mo_attempt_53 fd_Mo_251 (k_175 S) (Eq.trans ((((F1.tr F2).tr F3).tr F4).1 175 39 (Or.inr (by decide))) (Eq.trans (F.1 175 39 (by omega) (Or.inr (by decide))) (dr1_39 D0))) ?_
      refine ax_imul d_Mo_attempt_56 ⟨(by omega), (by omega)⟩ ?_
      refine ax_ti (x := 640) (by decide) ?_
      refine ax_Vr (st := []) (as := [vr 262, vi 0, vi 640]) (b := 175) d_Mo_attempt_57 cs_Mo_attempt_57 (k_175 S) (c_Mo_give S ((((RS.rf F1).rf F2).rf F3).rf F4) (by omega) (by rw [e4, e3, e2, e1]; exact (spTake_lt (spTake_lt (spPart_lt (spStart_lt (by decide) (by decide)) _ _) _) _).1) ⟨k_262 S, by decide, by decide, by decide⟩ (by rw [n_262 S]; decide)) rfl rfl rfl (fun u_57 q_57 => ?_)
      obtain ⟨I5, L5⟩ := u_57
      obtain ⟨F6, f5, e5, k5⟩ := q_57
      dsimp only at F6 f5 e5 k5
      rw [eS] at F6
      have h5 := HR.give F6 (by decide)
      have F5 : FR (fun a => a = 262) K M I5 L5 := ((((F1.tr F2).tr F3).tr F4).fr (p := fun a => a = 262)).tr (FR.give (p := fun a => a = 262) F6 f5 rfl) (fun a x => ⟨x, x⟩)
      show AW l G M_Mo_attempt P 60 [(2, vi i), (1, vi aa), (0, vr 175)] [] (sD h I5 L5)
      refine aw_aload_n d_Mo_attempt_60 rfl rfl ?_
      refine aw_iconst d_Mo_attempt_61 ⟨by decide, by decide⟩ ?_
      refine ax_putI d_Mo_attempt_62 fd_Mo_216 (k_175 S) (by decide) rfl ?_
      refine aw_aload_n d_Mo_attempt_65 rfl rfl ?_
      refine aw_aload_n d_Mo_attempt_66 rfl rfl ?_
      refine ax_getR (b := 262) d_Mo_attempt_67 fd_Mo_84 (k_175 S) (r_175_30 S) ?_
      refine aw_iconst d_Mo_attempt_70 ⟨by decide, by decide⟩ ?_
      refine aw_aload_n d_Mo_attempt_71 rfl rfl ?_
      refine ax_getR (b := 204) d_Mo_attempt_72 fd_Mo_76 (k_175 S) (r_175_28 S) ?_
      refine aw_bipush d_Mo_attempt_75 ⟨by decide, by decide⟩ (by decide) ?_
      refine aw_iload_n d_Mo_attempt_77 rfl rfl ?_
      refine ax_iadd d_Mo_attempt_78 ⟨(by omega), (by omega)⟩ ?_
      refine ax_aald (b := 205 + (23 + i).toNat) d_Mo_attempt_79 ⟨by rw [(k_204 S)]; decide, by rw [(k_204 S)]; decide⟩ (by omega) (by rw [n_204 S]; omega) (g_204 S (by omega) (by omega)) ?_
      refine aw_aload_n d_Mo_attempt_80 rfl rfl ?_
      refine ax_getIe (x := 524288) d_Mo_attempt_81 fd_Mo_237 (k_175 S) (Eq.trans (a_up_ne (Or.inr (by decide))) (Eq.trans (F5.1 175 35 (by omega) (Or.inr (by decide))) (Eq.trans (F.1 175 35 (by omega) (Or.inr (by decide))) (dr1_35 D0)))) ?_
      refine aw_aload_n d_Mo_attempt_84 rfl rfl ?_
      refine ax_getIe (x := 20) d_Mo_attempt_85 fd_Mo_251 (k_175 S) (Eq.trans (a_up_ne (Or.inr (by decide))) (Eq.trans (F5.1 175 39 (by omega) (Or.inr (by decide))) (Eq.trans (F.1 175 39 (by omega) (Or.inr (by decide))) (dr1_39 D0)))) ?_
      refine ax_Vr (st := []) (as := [vr 262, vi 0, vr (205 + (23 + i).toNat), vi 524288, vi 20]) (b := 175) d_Mo_attempt_88 cs_Mo_attempt_88 (k_175 S) (c_Mo_unpack (pa := 0) (c := 0) (d := 20) (b := 524288) S ⟨k_262 S, by decide, by decide⟩ ⟨kr_204 S (by omega), by omega, nr_204 S (by omega)⟩ (by omega) (by decide) (a_up_at.trans (by decide)) (by decide) (by rw [n_262 S]; decide)) rfl rfl rfl (fun u_88 q_88 => ?_)
      obtain ⟨q1, q2, q3⟩ := q_88
      have Fx : FR (fun a => a = 262 ∨ a = 205 + (23 + i).toNat) K M u_88 L5 := (F5.tr (FR.b0 (p := fun a => a = 262)) (fun a x => ⟨x, x⟩)).tr (FR.unp (p := fun a => a = 205 + (23 + i).toNat) q1 rfl) (by intro a x; omega)
      show AW l G M_Mo_attempt P 91 [(2, vi i), (1, vi aa), (0, vr 175)] [] (sD h u_88 L5)
      refine ax_iinc (lv' := [(2, vi (i + 1)), (1, vi aa), (0, vr 175)]) d_Mo_attempt_91 rfl (by decide) ⟨(by omega), (by omega)⟩ rfl ?_
      refine aw_goto (tgt := 2) d_Mo_attempt_94 (by decide) ?_
      exact ih_2 _ (by omega) (i + 1) u_88 L5 (by omega) (F.tr (Fx.mono (r := fun a => a = 262 ∨ 228 ≤ a ∧ a ≤ 234) (by intro a x; omega)) (fun a x => ⟨x, x⟩)) (fun m a b x u v => by by_cases z : m = i; exact (by rw [z, q3 x u v]; unfold sgMs; rw [show pG1 1 = 524288 from rfl, show (pB 1).toNat = 20 from rfl, gR_congr (g' := spOut (nmS rh (t * 5 + i))) (fun y y0 y1 => by rw [a_up_ne (Or.inl (by decide)), show (0 + 0 + y : Int) = 0 + y by omega]; exact h5 y y0 (by omega))]); exact (by rw [Fx.1 _ _ (by omega) (Or.inl (by omega))]; exact dn m a (by omega) x u v)) rfl
  skip
  refine aw_sub (lv' := [(2, vi 0), (1, vi aa), (0, vr 175)]) (by simp) ?_
  exact lp_2 _ 0 K0 M0 (by omega) (FR.rfl') (fun m a b => by omega) rfl
set_option maxHeartbeats 4000000 in
set_option maxRecDepth 100000 in
theorem aD2 {l : Launch} {G : a_G} {P : a_R → Hp → Prop} {h : Hp} {K0 M0 K M : Nat → Int → Int} {sk rh mu : Int → Int} {t : Int} (S : Shp h) (D0 : RD K0 M0 2) (hk0 : HR K0 180 0 4896 sk) (km : ∀ x, sk x % 256 = sk x) (hr0 : HR K0 266 0 64 rh) (rm0 : ∀ x, rh x % 256 = rh x) (hm0 : HR K0 265 0 64 mu) (mm0 : ∀ x, mu x % 256 = mu x) (hS0 : ∀ m, 0 ≤ m → m < 15 → eqQ (K0 (205 + m.toNat)) (sgSs 2 sk m)) (hD0 : ∀ m, 0 ≤ m → m < 8 → eqQ (K0 (205 + (15 + m).toNat)) (sgDs 2 sk m)) (ht : 0 ≤ t ∧ t < 814) (F0 : FR pAt K0 M0 K M) (okk : (sgOk 2 sk ∧ bll 60 (sgBs 2 sk rh mu t) ≠ none)) (hch : HR K 267 0 64 (sgC 2 sk rh mu t)) (hM : ∀ m, 0 ≤ m → m < 7 → eqQ (K (205 + (23 + m).toNat)) (sgMs 2 rh (t * 7 + m))) (hW : ∀ m, 0 ≤ m → m < 8 → eqQ (K (205 + (30 + m).toNat)) ((sgW 2 sk rh t) m)) (hB : eqQ (K 251) (blX 60 (sgBs 2 sk rh mu t))) (hP : ∀ r_ h2_, RaR h K0 M0 pAt (sgOk 2 sk ∧ bll 60 (sgBs 2 sk rh mu t) ≠ none) (sgGood 2 sk rh mu t) 4627 (sgPk 2 sk rh mu t) r_ h2_ → P r_ h2_) : AW l G M_Mo_attempt P 335 [(0, vr 175)] [] (sD h K M) := by
  have D := D0.fr F0 (by decide)
  have hS : ∀ m, 0 ≤ m → m < 15 → eqQ (K (205 + m.toNat)) (sgSs 2 sk m) := fun m a b j x y => (F0.1 _ _ (by omega) (Or.inl (by omega))).trans (hS0 m a b j x y)
  refine aw_aload_n d_Mo_attempt_335 rfl rfl ?_
  refine ax_getIe (x := 60) d_Mo_attempt_336 fd_Mo_232 (k_175 S) (dr2_34 D) ?_
  refine aw_aload_n d_Mo_attempt_339 rfl rfl ?_
  refine ax_getIe (x := 2) d_Mo_attempt_340 fd_Mo_229 (k_175 S) (dr2_33 D) ?_
  refine ax_imul d_Mo_attempt_343 ⟨(by omega), (by omega)⟩ ?_
  refine ax_ti (x := 120) (by decide) ?_
  refine aw_istore_n (lv' := [(2, vi 120), (0, vr 175)]) d_Mo_attempt_344 rfl (by decide) rfl ?_
  refine aw_iconst d_Mo_attempt_345 ⟨by decide, by decide⟩ ?_
  refine aw_istore_n (lv' := [(3, vi 0), (2, vi 120), (0, vr 175)]) d_Mo_attempt_346 rfl (by decide) rfl ?_
  have lp_347 : ∀ (n_ : Nat) (i : Int) (K2 : Nat → Int → Int) (M2 : Nat → Int → Int), (0 ≤ i ∧ i ≤ 7) → (FR (fun a => a = 252 ∨ 228 ≤ a ∧ a ≤ 234) K M K2 M2) → (∀ m, 0 ≤ m → m < i → ∀ x, 0 ≤ x → x < 256 → K2 (205 + (23 + m).toNat) x = ((sgMs 2 rh (t * 7 + m)) x + cen (prB (sgB 2 sk rh mu t) (sgV 2 sk m) x)) ∧ (-524168 < ((sgMs 2 rh (t * 7 + m)) x + cen (prB (sgB 2 sk rh mu t) (sgV 2 sk m) x)) ∧ ((sgMs 2 rh (t * 7 + m)) x + cen (prB (sgB 2 sk rh mu t) (sgV 2 sk m) x)) < 524168)) → (∀ m, 0 ≤ m → i ≤ m → m < 7 → eqQ (K2 (205 + (23 + m).toNat)) (sgMs 2 rh (t * 7 + m))) → ((7 - i).toNat) = n_ → AW l G M_Mo_attempt P 347 [(3, vi i), (2, vi 120), (0, vr 175)] [] (sD h K2 M2) := by
    intro n_
    induction n_ using Nat.strongRecOn with
    | _ n_ ih_347 =>
    intro i K2 M2 hi F2 dn td hm_347
    refine aw_iload_n d_Mo_attempt_347 rfl rfl ?_
    refine aw_aload_n d_Mo_attempt_348 rfl rfl ?_
    refine ax_getIe (x := 7) d_Mo_attempt_349 fd_Mo_226 (k_175 S) (Eq.trans (F2.1 175 32 (by omega) (Or.inr (by decide))) (dr2_32 D)) ?_
    refine aw_icmp_ge (tgt := 471) d_Mo_attempt_352 (by decide) (fun c_352 => ?_) (fun c_352 => ?_)
    · skip
      refine aw_sub (lv' := [(2, vi 120), (0, vr 175)]) (by simp) ?_
      exact aE2 S D0 hk0 km hr0 rm0 hm0 mm0 hS0 hD0 ht (F0.tr F2 (by intro a x; exact ⟨x, by intro z; exact x (by omega)⟩)) okk (fun m a b j x y => by have b2 : m < 7 := b; have d_ := dn m a (by omega) j x y; have c5 := (show -524288 < (sgMs 2 rh (t * 7 + m)) j ∧ (sgMs 2 rh (t * 7 + m)) j ≤ 524288 from ⟨by have := (sgMs_b (s := 2) (rh := rh) (n := t * 7 + m) (j := j)).1; rw [show pG1 2 - 2 ^ (pB 2).toNat = -524288 from by decide] at this; exact this, (sgMs_b (s := 2) (rh := rh) (n := t * 7 + m) (j := j)).2⟩); have c1 := prB_in (B := (sgB 2 sk rh mu t)) (V := (sgV 2 sk m)) j x y; exact fun q_ => by have w_ := (zl (t := 524168) (by decide) c5 c1).2 q_; omega) (hch.fr F2 (by decide) (by decide)) (fun m a b j x y => by have d_ := dn m a (by omega) j x y; rw [d_.1]; exact zl2 (t := 524168) (by decide) (show -524288 < (sgMs 2 rh (t * 7 + m)) j ∧ (sgMs 2 rh (t * 7 + m)) j ≤ 524288 from ⟨by have := (sgMs_b (s := 2) (rh := rh) (n := t * 7 + m) (j := j)).1; rw [show pG1 2 - 2 ^ (pB 2).toNat = -524288 from by decide] at this; exact this, (sgMs_b (s := 2) (rh := rh) (n := t * 7 + m) (j := j)).2⟩) (prB_in (B := (sgB 2 sk rh mu t)) (V := (sgV 2 sk m)) j x y) d_.2) (fun m a b j x y => by rw [F2.1 _ _ (by omega) (Or.inl (by omega))]; exact hW m a b j x y) (fun j x y => by rw [F2.1 _ _ (by decide) (Or.inl (by decide))]; exact hB j x y) hP
    · skip
      refine aw_aload_n d_Mo_attempt_355 rfl rfl ?_
      refine aw_aload_n d_Mo_attempt_356 rfl rfl ?_
      refine ax_getR (b := 204) d_Mo_attempt_357 fd_Mo_76 (k_175 S) (r_175_28 S) ?_
      refine aw_bipush d_Mo_attempt_360 ⟨by decide, by decide⟩ (by decide) ?_
      refine ax_aald (b := 252) d_Mo_attempt_362 ⟨by rw [(k_204 S)]; decide, by rw [(k_204 S)]; decide⟩ (by omega) (by rw [n_204 S]; omega) (g_204 S (j := 47) (by decide) (by decide)) ?_
      refine aw_aload_n d_Mo_attempt_363 rfl rfl ?_
      refine ax_getR (b := 204) d_Mo_attempt_364 fd_Mo_76 (k_175 S) (r_175_28 S) ?_
      refine aw_bipush d_Mo_attempt_367 ⟨by decide, by decide⟩ (by decide) ?_
      refine ax_aald (b := 251) d_Mo_attempt_369 ⟨by rw [(k_204 S)]; decide, by rw [(k_204 S)]; decide⟩ (by omega) (by rw [n_204 S]; omega) (g_204 S (j := 46) (by decide) (by decide)) ?_
      refine aw_aload_n d_Mo_attempt_370 rfl rfl ?_
      refine ax_getR (b := 204) d_Mo_attempt_371 fd_Mo_76 (k_175 S) (r_175_28 S) ?_
      refine aw_iload_n d_Mo_attempt_374 rfl rfl ?_
      refine ax_aald (b := 205 + i.toNat) d_Mo_attempt_375 ⟨by rw [(k_204 S)]; decide, by rw [(k_204 S)]; decide⟩ (by omega) (by rw [n_204 S]; omega) (g_204 S (by omega) (by omega)) ?_
      refine ax_Vr (st := []) (as := [vr 252, vr 251, vr (205 + i.toNat)]) (b := 175) d_Mo_attempt_376 cs_Mo_attempt_376 (k_175 S) (c_Mo_few S ⟨k_252 S, by decide, n_252 S⟩ ⟨k_251 S, by decide, n_251 S⟩ ⟨kr_204 S (by omega), by omega, nr_204 S (by omega)⟩ (fun j x y => by rw [F2.1 _ _ (by omega) (Or.inl (by omega)), hB j x y]; exact blX_b j) (fun j x y => by rw [F2.1 _ _ (by omega) (Or.inl (by omega)), hS i hi.1 (by omega) j x y]; have := sgSs_b (s := 2) (sk := sk) (m := i) (j := j); omega)) rfl rfl rfl (fun u_376 q_376 => ?_)
      have l1 := q_376
      have q252 : eqQ ((rowTo K2 252 256 (few (K2 251) (K2 (205 + i.toNat)))) 252) (fun j => cen (prB (sgB 2 sk rh mu t) (sgV 2 sk i) j)) := fun j x y => by rw [rowTo_in x y]; exact few_prB (fun z u v => (F2.1 _ _ (by omega) (Or.inl (by omega))).trans (hB z u v)) (fun z u v => (F2.1 _ _ (by omega) (Or.inl (by omega))).trans (hS i hi.1 (by omega) z u v)) j x y
      show AW l G M_Mo_attempt P 379 [(3, vi i), (2, vi 120), (0, vr 175)] [] (sD h (rowTo K2 252 256 (few (K2 251) (K2 (205 + i.toNat)))) u_376)
      refine aw_iconst d_Mo_attempt_379 ⟨by decide, by decide⟩ ?_
      refine aw_istore (lv' := [(4, vi 0), (3, vi i), (2, vi 120), (0, vr 175)]) d_Mo_attempt_380 (by decide) rfl ?_
      have lp_382 : ∀ (n_ : Nat) (c : Int) (K3 : Nat → Int → Int), (0 ≤ c ∧ c ≤ 256) → (FR (fun a => a = 252 ∨ 228 ≤ a ∧ a ≤ 234) K M K3 u_376) → (FR (fun a => a = 205 + (23 + i).toNat) (rowTo K2 252 256 (few (K2 251) (K2 (205 + i.toNat)))) u_376 K3 u_376) → ((∀ x, 0 ≤ x → x < c → K3 (205 + (23 + i).toNat) x = ((sgMs 2 rh (t * 7 + i)) x + cen (prB (sgB 2 sk rh mu t) (sgV 2 sk i) x)) ∧ (-524168 < ((sgMs 2 rh (t * 7 + i)) x + cen (prB (sgB 2 sk rh mu t) (sgV 2 sk i) x)) ∧ ((sgMs 2 rh (t * 7 + i)) x + cen (prB (sgB 2 sk rh mu t) (sgV 2 sk i) x)) < 524168)) ∧ ∀ x, c ≤ x → x < 256 → K3 (205 + (23 + i).toNat) x = (sgMs 2 rh (t * 7 + i)) x) → ((256 - c).toNat) = n_ → AW l G M_Mo_attempt P 382 [(4, vi c), (3, vi i), (2, vi 120), (0, vr 175)] [] (sD h K3 u_376) := by
        intro n_
        induction n_ using Nat.strongRecOn with
        | _ n_ ih_382 =>
        intro c K3 hc F3 t3 r3 hm_382
        have p3 : c < 256 → K3 252 c = cen (prB (sgB 2 sk rh mu t) (sgV 2 sk i) c) := fun v => by rw [t3.1 _ _ (by omega) (Or.inl (by omega))]; exact q252 c hc.1 v
        refine aw_iload d_Mo_attempt_382 rfl ?_
        refine aw_sipush d_Mo_attempt_384 ⟨by decide, by decide⟩ (by decide) ?_
        refine aw_icmp_ge (tgt := 465) d_Mo_attempt_387 (by decide) (fun c_387 => ?_) (fun c_387 => ?_)
        · skip
          refine ax_iinc (lv' := [(3, vi (i + 1)), (4, vi c), (2, vi 120), (0, vr 175)]) d_Mo_attempt_465 rfl (by decide) ⟨(by omega), (by omega)⟩ rfl ?_
          refine aw_goto (tgt := 347) d_Mo_attempt_468 (by decide) ?_
          refine aw_sub (lv' := [(3, vi (i + 1)), (2, vi 120), (0, vr 175)]) (by simp) ?_
          exact ih_347 _ (by omega) (i + 1) K3 u_376 (by omega) (F3) (fun m a b x u v => by by_cases z : m = i; exact (by rw [z]; exact r3.1 x u (by omega)); exact (by rw [t3.1 _ _ (by omega) (Or.inl (by omega)), rowTo_ne (by omega)]; exact dn m a (by omega) x u v)) (fun m a b c x u v => by rw [t3.1 _ _ (by omega) (Or.inl (by omega)), rowTo_ne (by omega)]; exact td m a (by omega) c x u v) rfl
        · skip
          have c1 := prB_in (B := (sgB 2 sk rh mu t)) (V := (sgV 2 sk i)) c hc.1 (by omega)
          have c3 := cen_b c1
          have c5 := (show -524288 < (sgMs 2 rh (t * 7 + i)) c ∧ (sgMs 2 rh (t * 7 + i)) c ≤ 524288 from ⟨by have := (sgMs_b (s := 2) (rh := rh) (n := t * 7 + i) (j := c)).1; rw [show pG1 2 - 2 ^ (pB 2).toNat = -524288 from by decide] at this; exact this, (sgMs_b (s := 2) (rh := rh) (n := t * 7 + i) (j := c)).2⟩)
          have zz := zl (t := 524168) (by decide) c5 c1
          refine aw_aload_n d_Mo_attempt_390 rfl rfl ?_
          refine ax_getR (b := 204) d_Mo_attempt_391 fd_Mo_76 (k_175 S) (r_175_28 S) ?_
          refine aw_bipush d_Mo_attempt_394 ⟨by decide, by decide⟩ (by decide) ?_
          refine aw_iload_n d_Mo_attempt_396 rfl rfl ?_
          refine ax_iadd d_Mo_attempt_397 ⟨(by omega), (by omega)⟩ ?_
          refine ax_aald (b := 205 + (23 + i).toNat) d_Mo_attempt_398 ⟨by rw [(k_204 S)]; decide, by rw [(k_204 S)]; decide⟩ (by omega) (by rw [n_204 S]; omega) (g_204 S (by omega) (by omega)) ?_
          refine aw_iload d_Mo_attempt_399 rfl ?_
          refine aw_dup2 d_Mo_attempt_401 rfl rfl ?_
          refine ax_ialde (x := (sgMs 2 rh (t * 7 + i)) c) d_Mo_attempt_402 (kr_204 S (by omega)) (by omega) (by rw [nr_204 S (by omega)]; omega) (r3.2 c (Int.le_refl _) (by omega)) ?_
          refine aw_aload_n d_Mo_attempt_403 rfl rfl ?_
          refine ax_getR (b := 204) d_Mo_attempt_404 fd_Mo_76 (k_175 S) (r_175_28 S) ?_
          refine aw_bipush d_Mo_attempt_407 ⟨by decide, by decide⟩ (by decide) ?_
          refine ax_aald (b := 252) d_Mo_attempt_409 ⟨by rw [(k_204 S)]; decide, by rw [(k_204 S)]; decide⟩ (by omega) (by rw [n_204 S]; omega) (g_204 S (j := 47) (by decide) (by decide)) ?_
          refine aw_iload d_Mo_attempt_410 rfl ?_
          refine ax_ialde (x := cen (prB (sgB 2 sk rh mu t) (sgV 2 sk i) c)) d_Mo_attempt_412 (k_252 S) (by omega) (by rw [n_252 S]; omega) (p3 (by omega)) ?_
          refine ax_iadd d_Mo_attempt_413 ⟨(by omega), (by omega)⟩ ?_
          refine ax_iast d_Mo_attempt_414 (kr_204 S (by omega)) (by omega) (by omega) (by rw [nr_204 S (by omega)]; omega) ?_
          refine aw_aload_n d_Mo_attempt_415 rfl rfl ?_
          refine ax_getR (b := 204) d_Mo_attempt_416 fd_Mo_76 (k_175 S) (r_175_28 S) ?_
          refine aw_bipush d_Mo_attempt_419 ⟨by decide, by decide⟩ (by decide) ?_
          refine aw_iload_n d_Mo_attempt_421 rfl rfl ?_
          refine ax_iadd d_Mo_attempt_422 ⟨(by omega), (by omega)⟩ ?_
          refine ax_aald (b := 205 + (23 + i).toNat) d_Mo_attempt_423 ⟨by rw [(k_204 S)]; decide, by rw [(k_204 S)]; decide⟩ (by omega) (by rw [n_204 S]; omega) (g_204 S (by omega) (by omega)) ?_
          refine aw_iload d_Mo_attempt_424 rfl ?_
          refine ax_ialde (x := ((sgMs 2 rh (t * 7 + i)) c) + (cen (prB (sgB 2 sk rh mu t) (sgV 2 sk i) c))) d_Mo_attempt_426 (kr_204 S (by omega)) (by omega) (by rw [nr_204 S (by omega)]; omega) (a_up_at) ?_
          refine aw_aload_n d_Mo_attempt_427 rfl rfl ?_
          refine ax_getIe (x := 524288) d_Mo_attempt_428 fd_Mo_237 (k_175 S) (Eq.trans (a_up_ne (Or.inl (by omega))) (Eq.trans (F3.1 175 35 (by omega) (Or.inr (by decide))) (dr2_35 D))) ?_
          refine aw_iload_n d_Mo_attempt_431 rfl rfl ?_
          refine ax_isub d_Mo_attempt_432 ⟨(by omega), (by omega)⟩ ?_
          refine ax_ti (x := 524168) (by decide) ?_
          refine aw_icmp_ge (tgt := 457) d_Mo_attempt_433 (by decide) (fun c_433 => ?_) (fun c_433 => ?_)
          · skip
            refine aw_iconst d_Mo_attempt_457 ⟨by decide, by decide⟩ ?_
            exact aw_iret d_Mo_attempt_458 rfl (hP _ _ ⟨_, _, _, rfl, rfl, F0.tr (F3.tr (FR.up (p := fun a => a = 252 ∨ 228 ≤ a ∧ a ≤ 234) (by omega)) (fun a x => ⟨x, x⟩)) (by intro a x; exact ⟨x, by intro z; exact x (by omega)⟩), Or.inr (Or.inl ⟨rfl, okk, fun z => by have y := z.1 i hi.1 (by show i < 7; omega) c hc.1 (by omega); exact y (zz.1 (by omega))⟩)⟩)
          · skip
            refine aw_aload_n d_Mo_attempt_436 rfl rfl ?_
            refine ax_getR (b := 204) d_Mo_attempt_437 fd_Mo_76 (k_175 S) (r_175_28 S) ?_
            refine aw_bipush d_Mo_attempt_440 ⟨by decide, by decide⟩ (by decide) ?_
            refine aw_iload_n d_Mo_attempt_442 rfl rfl ?_
            refine ax_iadd d_Mo_attempt_443 ⟨(by omega), (by omega)⟩ ?_
            refine ax_aald (b := 205 + (23 + i).toNat) d_Mo_attempt_444 ⟨by rw [(k_204 S)]; decide, by rw [(k_204 S)]; decide⟩ (by omega) (by rw [n_204 S]; omega) (g_204 S (by omega) (by omega)) ?_
            refine aw_iload d_Mo_attempt_445 rfl ?_
            refine ax_ialde (x := ((sgMs 2 rh (t * 7 + i)) c) + (cen (prB (sgB 2 sk rh mu t) (sgV 2 sk i) c))) d_Mo_attempt_447 (kr_204 S (by omega)) (by omega) (by rw [nr_204 S (by omega)]; omega) (a_up_at) ?_
            refine aw_iload_n d_Mo_attempt_448 rfl rfl ?_
            refine aw_aload_n d_Mo_attempt_449 rfl rfl ?_
            refine ax_getIe (x := 524288) d_Mo_attempt_450 fd_Mo_237 (k_175 S) (Eq.trans (a_up_ne (Or.inl (by omega))) (Eq.trans (F3.1 175 35 (by omega) (Or.inr (by decide))) (dr2_35 D))) ?_
            refine ax_isub d_Mo_attempt_453 ⟨(by omega), (by omega)⟩ ?_
            refine ax_ti (x := -524168) (by decide) ?_
            refine aw_icmp_gt (tgt := 459) d_Mo_attempt_454 (by decide) (fun c_454 => ?_) (fun c_454 => ?_)
            · skip
              refine ax_iinc (lv' := [(4, vi (c + 1)), (3, vi i), (2, vi 120), (0, vr 175)]) d_Mo_attempt_459 rfl (by decide) ⟨(by omega), (by omega)⟩ rfl ?_
              refine aw_goto (tgt := 382) d_Mo_attempt_462 (by decide) ?_
              exact ih_382 _ (by omega) (c + 1) (a_up K3 (205 + (23 + i).toNat) c (((sgMs 2 rh (t * 7 + i)) c) + (cen (prB (sgB 2 sk rh mu t) (sgV 2 sk i) c)))) (by omega) (F3.tr (FR.up (p := fun a => a = 252 ∨ 228 ≤ a ∧ a ≤ 234) (by omega)) (fun a x => ⟨x, x⟩)) (t3.tr (FR.up (p := fun a => a = 205 + (23 + i).toNat) rfl) (fun a x => ⟨x, x⟩)) (⟨fun x a b => by by_cases z : x = c; exact (by rw [z, a_up_at]; exact ⟨rfl, by omega, by omega⟩); exact (by rw [a_up_ne (Or.inr z)]; exact r3.1 x a (by omega)), fun x a b => by rw [a_up_ne (Or.inr (by omega))]; exact r3.2 x (by omega) b⟩) rfl
            · skip
              refine aw_iconst d_Mo_attempt_457 ⟨by decide, by decide⟩ ?_
              exact aw_iret d_Mo_attempt_458 rfl (hP _ _ ⟨_, _, _, rfl, rfl, F0.tr (F3.tr (FR.up (p := fun a => a = 252 ∨ 228 ≤ a ∧ a ≤ 234) (by omega)) (fun a x => ⟨x, x⟩)) (by intro a x; exact ⟨x, by intro z; exact x (by omega)⟩), Or.inr (Or.inl ⟨rfl, okk, fun z => by have y := z.1 i hi.1 (by show i < 7; omega) c hc.1 (by omega); exact y (zz.1 (by omega))⟩)⟩)
      skip
      exact lp_382 _ 0 (rowTo K2 252 256 (few (K2 251) (K2 (205 + i.toNat)))) (by omega) (F2.tr (FR.row (p := fun a => a = 252 ∨ 228 ≤ a ∧ a ≤ 234) (by omega) l1) (fun a x => ⟨x, x⟩)) (FR.rfl') (⟨fun x a b => by omega, fun x a b => by rw [rowTo_ne (by omega)]; exact td i hi.1 (Int.le_refl _) (by omega) x (by omega) b⟩) rfl
  skip
  exact lp_347 _ 0 K M (by omega) (FR.rfl') (fun m a b => by omega) (fun m a b => hM m a) rfl
set_option maxHeartbeats 800000 in
set_option maxRecDepth 100000 in
theorem aC2 {l : Launch} {G : a_G} {P : a_R → Hp → Prop} {h : Hp} {K0 M0 K M : Nat → Int → Int} {sk rh mu : Int → Int} {t : Int} (S : Shp h) (D0 : RD K0 M0 2) (hk0 : HR K0 180 0 4896 sk) (km : ∀ x, sk x % 256 = sk x) (hr0 : HR K0 266 0 64 rh) (rm0 : ∀ x, rh x % 256 = rh x) (hm0 : HR K0 265 0 64 mu) (mm0 : ∀ x, mu x % 256 = mu x) (hS0 : ∀ m, 0 ≤ m → m < 15 → eqQ (K0 (205 + m.toNat)) (sgSs 2 sk m)) (hD0 : ∀ m, 0 ≤ m → m < 8 → eqQ (K0 (205 + (15 + m).toNat)) (sgDs 2 sk m)) (ht : 0 ≤ t ∧ t < 814) (F0 : FR pAt K0 M0 K M) (okA : sgOk 2 sk) (hM : ∀ m, 0 ≤ m → m < 7 → eqQ (K (205 + (23 + m).toNat)) (sgMs 2 rh (t * 7 + m))) (hW : ∀ m, 0 ≤ m → m < 8 → eqQ (K (205 + (30 + m).toNat)) ((sgW 2 sk rh t) m)) (hH : ∀ m, 0 ≤ m → m < 8 → eqQ (K (205 + (38 + m).toNat)) ((fun m j => dHigh 261888 ((sgW 2 sk rh t) m j)) m)) (hP : ∀ r_ h2_, RaR h K0 M0 pAt (sgOk 2 sk ∧ bll 60 (sgBs 2 sk rh mu t) ≠ none) (sgGood 2 sk rh mu t) 4627 (sgPk 2 sk rh mu t) r_ h2_ → P r_ h2_) : AW l G M_Mo_attempt P 304 [(0, vr 175)] [] (sD h K M) := by
  have D := D0.fr F0 (by decide)
  refine aw_aload_n d_Mo_attempt_304 rfl rfl ?_
  refine aw_bipush d_Mo_attempt_305 ⟨by decide, by decide⟩ (by decide) ?_
  refine aw_aload_n d_Mo_attempt_307 rfl rfl ?_
  refine ax_getR (b := 267) d_Mo_attempt_308 fd_Mo_99 (k_175 S) (r_175_43 S) ?_
  refine ax_Vr (st := []) (as := [vi 38, vr 267]) (b := 175) d_Mo_attempt_311 cs_Mo_attempt_311 (k_175 S) (c_Mo_challenge2_38 (mu := mu) (X := (fun m j => dHigh 261888 ((sgW 2 sk rh t) m j))) S D hH (fun m a b j x y => by have := dHi16 (imF_in (A := sgA 2 sk) (V := fun j => fwd rt (sgM 2 rh (t * pL 2 + j))) (l := pL 2) (n := (pL 2).toNat) (m := m) j x y); show 0 ≤ dHigh 261888 ((sgW 2 sk rh t) m j) ∧ dHigh 261888 ((sgW 2 sk rh t) m j) < 2 ^ 4; have e_ : imF (sgA 2 sk) (fun j => fwd rt (sgM 2 rh (t * pL 2 + j))) (pL 2) (pL 2).toNat m j = (sgW 2 sk rh t) m j := rfl; rw [e_] at this; omega) (hm0.fr F0 (by decide) (by decide)) (fun k _ _ => mm0 k)) rfl rfl rfl (fun u_311 q_311 => ?_)
  obtain ⟨I1, L1⟩ := u_311
  obtain ⟨F1, h1⟩ := q_311
  dsimp only at F1 h1
  have h1 : HR I1 267 0 64 (sgC 2 sk rh mu t) := h1
  have D1 := D.fr F1 (by decide)
  have eB : blS (fun k => I1 267 (0 + k)) 64 = sgBs 2 sk rh mu t := blS_congr (fun k hk => by rw [h1 k (by omega) hk, show (sgC 2 sk rh mu t) k = spOut _ k from rfl, spOut_m])
  show AW l G M_Mo_attempt P 314 [(0, vr 175)] [] (sD h I1 L1)
  refine aw_aload_n d_Mo_attempt_314 rfl rfl ?_
  refine aw_aload_n d_Mo_attempt_315 rfl rfl ?_
  refine ax_getR (b := 204) d_Mo_attempt_316 fd_Mo_76 (k_175 S) (r_175_28 S) ?_
  refine aw_bipush d_Mo_attempt_319 ⟨by decide, by decide⟩ (by decide) ?_
  refine ax_aald (b := 251) d_Mo_attempt_321 ⟨by rw [(k_204 S)]; decide, by rw [(k_204 S)]; decide⟩ (by omega) (by rw [n_204 S]; omega) (g_204 S (j := 46) (by decide) (by decide)) ?_
  refine aw_aload_n d_Mo_attempt_322 rfl rfl ?_
  refine ax_getR (b := 267) d_Mo_attempt_323 fd_Mo_99 (k_175 S) (r_175_43 S) ?_
  refine aw_iconst d_Mo_attempt_326 ⟨by decide, by decide⟩ ?_
  refine ax_Vr (st := []) (as := [vr 251, vr 267, vi 0]) (b := 175) d_Mo_attempt_327 cs_Mo_attempt_327 (k_175 S) (c_Mo_ball S D1.1 ⟨k_267 S, by decide, by decide⟩ (dr2_38 D1) (dr2_34 D1) (by decide) (by rw [n_267 S]; decide)) rfl rfl rfl (fun u_327 q_327 => ?_)
  obtain ⟨I2, L2, v2⟩ := u_327
  obtain ⟨F2, q2, r2⟩ := q_327
  dsimp only at F2 q2 r2
  rw [eB] at q2 r2
  have G2 : FR (fun a => a = 200 ∨ a = 251) I1 L1 I2 L2 := ⟨fun a j x y => F2.1 a j (by rcases y with y | y; exact Or.inl y; exact Or.inr ⟨y.1, y.2.1, y.2.2.1⟩) (fun z => x (Or.inl z)) (fun z => x (Or.inr z)), fun a j x y z u _ => F2.2 a j x y z u⟩
  have G3 : FR (fun a => a = 200 ∨ a = 251 ∨ a = 262 ∨ a = 267) K M I2 L2 := F1.tr G2 (by intro a x; omega)
  show AW l G M_Mo_attempt P 330 [(0, vr 175)] [vi v2] (sD h I2 L2)
  refine aw_if_ne (tgt := 335) d_Mo_attempt_330 (by decide) (fun c_330 => ?_) (fun c_330 => ?_)
  · skip
    refine aw_sub (lv' := [(0, vr 175)]) (by simp) ?_
    have bn : bll 60 (sgBs 2 sk rh mu t) ≠ none := by rcases q2 with y | y; exact y.2; exact absurd y.1 (by omega)
    exact aD2 S D0 hk0 km hr0 rm0 hm0 mm0 hS0 hD0 ht (F0.tr G3 (by intro a x; exact ⟨x, by intro z; exact x (by omega)⟩)) ⟨okA, bn⟩ (h1.fr G2 (by decide) (by decide)) (fun m a b j x y => by rw [G3.1 _ _ (by omega) (Or.inl (by omega))]; exact hM m a b j x y) (fun m a b j x y => by rw [G3.1 _ _ (by omega) (Or.inl (by omega))]; exact hW m a b j x y) (r2 bn) hP
  · skip
    refine aw_iconst d_Mo_attempt_333 ⟨by decide, by decide⟩ ?_
    exact aw_iret d_Mo_attempt_334 rfl (hP _ _ ⟨_, _, _, rfl, rfl, F0.tr G3 (by intro a x; exact ⟨x, by intro z; exact x (by omega)⟩), Or.inl ⟨rfl, fun z => by rcases q2 with y | y; exact absurd y.1 (by omega); exact z.2 y.2⟩⟩)
set_option maxHeartbeats 4000000 in
set_option maxRecDepth 100000 in
theorem aB2 {l : Launch} {G : a_G} {P : a_R → Hp → Prop} {h : Hp} {K0 M0 K M : Nat → Int → Int} {sk rh mu : Int → Int} {t : Int} (S : Shp h) (D0 : RD K0 M0 2) (hk0 : HR K0 180 0 4896 sk) (km : ∀ x, sk x % 256 = sk x) (hr0 : HR K0 266 0 64 rh) (rm0 : ∀ x, rh x % 256 = rh x) (hm0 : HR K0 265 0 64 mu) (mm0 : ∀ x, mu x % 256 = mu x) (hS0 : ∀ m, 0 ≤ m → m < 15 → eqQ (K0 (205 + m.toNat)) (sgSs 2 sk m)) (hD0 : ∀ m, 0 ≤ m → m < 8 → eqQ (K0 (205 + (15 + m).toNat)) (sgDs 2 sk m)) (ht : 0 ≤ t ∧ t < 814) (F0 : FR pAt K0 M0 K M) (hM : ∀ m, 0 ≤ m → m < 7 → eqQ (K (205 + (23 + m).toNat)) (sgMs 2 rh (t * 7 + m))) (hP : ∀ r_ h2_, RaR h K0 M0 pAt (sgOk 2 sk ∧ bll 60 (sgBs 2 sk rh mu t) ≠ none) (sgGood 2 sk rh mu t) 4627 (sgPk 2 sk rh mu t) r_ h2_ → P r_ h2_) : AW l G M_Mo_attempt P 97 [(0, vr 175)] [] (sD h K M) := by
  have D := D0.fr F0 (by decide)
  have hk := hk0.fr F0 (by decide) (by decide)
  refine aw_iconst d_Mo_attempt_97 ⟨by decide, by decide⟩ ?_
  refine aw_istore_n (lv' := [(2, vi 0), (0, vr 175)]) d_Mo_attempt_98 rfl (by decide) rfl ?_
  have lp_99 : ∀ (n_ : Nat) (i : Int) (K2 : Nat → Int → Int) (M2 : Nat → Int → Int), (0 ≤ i ∧ i ≤ 8) → (FR (fun a => 235 ≤ a ∧ a ≤ 252) K M K2 M2) → (∀ m, 0 ≤ m → m < i → eqQ (K2 (205 + (30 + m).toNat)) ((sgW 2 sk rh t) m)) → (∀ m, 0 ≤ m → m < i → eqQ (K2 (205 + (38 + m).toNat)) ((fun m j => dHigh 261888 ((sgW 2 sk rh t) m j)) m)) → (∀ m, 0 ≤ m → m < 7 * i → (wide sk (m % 7) (m / 7)).2.1 = 256) → ((8 - i).toNat) = n_ → AW l G M_Mo_attempt P 99 [(2, vi i), (0, vr 175)] [] (sD h K2 M2) := by
    intro n_
    induction n_ using Nat.strongRecOn with
    | _ n_ ih_99 =>
    intro i K2 M2 hi F2 dW dH okA hm_99
    refine aw_iload_n d_Mo_attempt_99 rfl rfl ?_
    refine aw_aload_n d_Mo_attempt_100 rfl rfl ?_
    refine ax_getIe (x := 8) d_Mo_attempt_101 fd_Mo_223 (k_175 S) (Eq.trans (F2.1 175 26 (by omega) (Or.inr (by decide))) (dr2_26 D)) ?_
    refine aw_icmp_ge (tgt := 304) d_Mo_attempt_104 (by decide) (fun c_104 => ?_) (fun c_104 => ?_)
    · skip
      refine aw_sub (lv' := [(0, vr 175)]) (by simp) ?_
      exact aC2 S D0 hk0 km hr0 rm0 hm0 mm0 hS0 hD0 ht (F0.tr F2 (by intro a x; exact ⟨x, by intro z; exact x (by omega)⟩)) (fun m a b => okA m a (by have b2 : m < 56 := b; omega)) (fun m a b j x y => by rw [F2.1 _ _ (by omega) (Or.inl (by omega))]; exact hM m a b j x y) (fun m a b => dW m a (by omega)) (fun m a b => dH m a (by omega)) hP
    · skip
      refine aw_aload_n d_Mo_attempt_107 rfl rfl ?_
      refine ax_getR (b := 204) d_Mo_attempt_108 fd_Mo_76 (k_175 S) (r_175_28 S) ?_
      refine aw_bipush d_Mo_attempt_111 ⟨by decide, by decide⟩ (by decide) ?_
      refine aw_iload_n d_Mo_attempt_113 rfl rfl ?_
      refine ax_iadd d_Mo_attempt_114 ⟨(by omega), (by omega)⟩ ?_
      refine ax_aald (b := 205 + (30 + i).toNat) d_Mo_attempt_115 ⟨by rw [(k_204 S)]; decide, by rw [(k_204 S)]; decide⟩ (by omega) (by rw [n_204 S]; omega) (g_204 S (by omega) (by omega)) ?_
      refine ax_S (st := []) (as := [vr (205 + (30 + i).toNat)]) (v := none) (h' := sD h (rowTo K2 (205 + (30 + i).toNat) 256 (fun _ => 0)) M2) d_Mo_attempt_116 cs_Mo_attempt_116 (c_Mo_clear ⟨kr_204 S (by omega), by omega, nr_204 S (by omega)⟩) rfl rfl rfl ?_
      show AW l G M_Mo_attempt P 119 [(2, vi i), (0, vr 175)] [] (sD h (rowTo K2 (205 + (30 + i).toNat) 256 (fun _ => 0)) M2)
      refine aw_iconst d_Mo_attempt_119 ⟨by decide, by decide⟩ ?_
      refine aw_istore_n (lv' := [(3, vi 0), (2, vi i), (0, vr 175)]) d_Mo_attempt_120 rfl (by decide) rfl ?_
      have lp_121 : ∀ (n_ : Nat) (j : Int) (K3 : Nat → Int → Int) (M3 : Nat → Int → Int), (0 ≤ j ∧ j ≤ 7) → (FR (fun a => a = 205 + (30 + i).toNat ∨ a = 251 ∨ a = 252) K2 M2 K3 M3) → (eqQ (K3 (205 + (30 + i).toNat)) (fun c => pS (sgA 2 sk) (fun j => fwd rt (sgM 2 rh (t * 7 + j))) (i * 7) c j.toNat % 8380417)) → (∀ m, 0 ≤ m → m < j → (wide sk m i).2.1 = 256) → ((7 - j).toNat) = n_ → AW l G M_Mo_attempt P 121 [(3, vi j), (2, vi i), (0, vr 175)] [] (sD h K3 M3) := by
        intro n_
        induction n_ using Nat.strongRecOn with
        | _ n_ ih_121 =>
        intro j K3 M3 hj F3 r3 okJ hm_121
        have D3 := (D.fr F2 (by omega)).fr F3 (by omega)
        have hs3 := (hk.fr F2 (by omega) (by decide)).fr F3 (by omega) (by decide)
        have m3 : ∀ c, 0 ≤ c → c < 256 → j < 7 → K3 (205 + (23 + j).toNat) c = (sgMs 2 rh (t * 7 + j)) c := fun c x y z => by rw [F3.1 _ _ (by omega) (Or.inl (by omega)), F2.1 _ _ (by omega) (Or.inl (by omega))]; exact hM j hj.1 z c x y
        refine aw_iload_n d_Mo_attempt_121 rfl rfl ?_
        refine aw_aload_n d_Mo_attempt_122 rfl rfl ?_
        refine ax_getIe (x := 7) d_Mo_attempt_123 fd_Mo_226 (k_175 S) (Eq.trans (F3.1 175 32 (by omega) (Or.inr (by decide))) (Eq.trans (F2.1 175 32 (by omega) (Or.inr (by decide))) (dr2_32 D))) ?_
        refine aw_icmp_ge (tgt := 244) d_Mo_attempt_126 (by decide) (fun c_126 => ?_) (fun c_126 => ?_)
        · skip
          refine aw_aload_n d_Mo_attempt_244 rfl rfl ?_
          refine aw_aload_n d_Mo_attempt_245 rfl rfl ?_
          refine ax_getR (b := 204) d_Mo_attempt_246 fd_Mo_76 (k_175 S) (r_175_28 S) ?_
          refine aw_bipush d_Mo_attempt_249 ⟨by decide, by decide⟩ (by decide) ?_
          refine aw_iload_n d_Mo_attempt_251 rfl rfl ?_
          refine ax_iadd d_Mo_attempt_252 ⟨(by omega), (by omega)⟩ ?_
          refine ax_aald (b := 205 + (30 + i).toNat) d_Mo_attempt_253 ⟨by rw [(k_204 S)]; decide, by rw [(k_204 S)]; decide⟩ (by omega) (by rw [n_204 S]; omega) (g_204 S (by omega) (by omega)) ?_
          refine ax_Vr (st := []) (as := [vr (205 + (30 + i).toNat)]) (b := 175) d_Mo_attempt_254 cs_Mo_attempt_254 (k_175 S) (c_Mo_interpolate S ⟨kr_204 S (by omega), by omega, nr_204 S (by omega)⟩ (by omega) (fun x a b => by rw [r3 x a b]; show 0 ≤ _ % 8380417 ∧ _ % 8380417 < 8380417; exact ⟨Int.emod_nonneg _ (by decide), Int.emod_lt_of_pos _ (by decide)⟩) D3.2.2) rfl rfl rfl (fun u_254 q_254 => ?_)
          have l7 := q_254
          have w7 : eqQ ((rowTo K3 (205 + (30 + i).toNat) 256 (itp (K3 (205 + (30 + i).toNat)))) (205 + (30 + i).toNat)) ((sgW 2 sk rh t) i) := fun x a b => by rw [rowTo_in a b]; show itp _ x = bck rt (fun c => pS (sgA 2 sk) (fun j => fwd rt (sgM 2 rh (t * 7 + j))) (i * 7) c 7 % 8380417) x; rw [bck_itp a b]; exact itp_cq (fun y hy => cq.e (by rw [r3 y (by omega) (by omega), show j.toNat = 7 by omega]))
          show AW l G M_Mo_attempt P 257 [(3, vi j), (2, vi i), (0, vr 175)] [] (sD h (rowTo K3 (205 + (30 + i).toNat) 256 (itp (K3 (205 + (30 + i).toNat)))) u_254)
          refine aw_iconst d_Mo_attempt_257 ⟨by decide, by decide⟩ ?_
          refine aw_istore_n (lv' := [(3, vi 0), (2, vi i), (0, vr 175)]) d_Mo_attempt_258 rfl (by decide) rfl ?_
          have lp_259 : ∀ (n_ : Nat) (c : Int), (0 ≤ c ∧ c ≤ 256) → ((256 - c).toNat) = n_ → AW l G M_Mo_attempt P 259 [(3, vi c), (2, vi i), (0, vr 175)] [] (sD h (rowTo (rowTo K3 (205 + (30 + i).toNat) 256 (itp (K3 (205 + (30 + i).toNat)))) (205 + (38 + i).toNat) c (fun x => dHigh 261888 ((sgW 2 sk rh t) i x))) u_254) := by
            intro n_
            induction n_ using Nat.strongRecOn with
            | _ n_ ih_259 =>
            intro c hc8 hm_259
            have w8 : c < 256 → (rowTo (rowTo K3 (205 + (30 + i).toNat) 256 (itp (K3 (205 + (30 + i).toNat)))) (205 + (38 + i).toNat) c (fun x => dHigh 261888 ((sgW 2 sk rh t) i x))) (205 + (30 + i).toNat) c = (sgW 2 sk rh t) i c := fun v => by rw [rowTo_ne (by omega)]; exact w7 c hc8.1 v
            have gp8 : (rowTo (rowTo K3 (205 + (30 + i).toNat) 256 (itp (K3 (205 + (30 + i).toNat)))) (205 + (38 + i).toNat) c (fun x => dHigh 261888 ((sgW 2 sk rh t) i x))) 175 36 = 261888 := by rw [rowTo_ne (by omega), rowTo_ne (by omega)]; exact dr2_36 D3
            refine aw_iload_n d_Mo_attempt_259 rfl rfl ?_
            refine aw_sipush d_Mo_attempt_260 ⟨by decide, by decide⟩ (by decide) ?_
            refine aw_icmp_ge (tgt := 298) d_Mo_attempt_263 (by decide) (fun c_263 => ?_) (fun c_263 => ?_)
            · skip
              rw [show c = 256 by omega]
              refine ax_iinc (lv' := [(2, vi (i + 1)), (3, vi 256), (0, vr 175)]) d_Mo_attempt_298 rfl (by decide) ⟨(by omega), (by omega)⟩ rfl ?_
              refine aw_goto (tgt := 99) d_Mo_attempt_301 (by decide) ?_
              refine aw_sub (lv' := [(2, vi (i + 1)), (0, vr 175)]) (by simp) ?_
              exact ih_99 _ (by omega) (i + 1) (rowTo (rowTo K3 (205 + (30 + i).toNat) 256 (itp (K3 (205 + (30 + i).toNat)))) (205 + (38 + i).toNat) 256 (fun x => dHigh 261888 ((sgW 2 sk rh t) i x))) u_254 (by omega) (((F2.tr (F3.mono (r := fun a => 235 ≤ a ∧ a ≤ 252) (by intro a x; omega)) (fun a x => ⟨x, x⟩)).tr (FR.row (p := fun a => 235 ≤ a ∧ a ≤ 252) (by omega) l7) (fun a x => ⟨x, x⟩)).tr (FR.row (p := fun a => 235 ≤ a ∧ a ≤ 252) (by omega) (fun _ _ _ => rfl)) (fun a x => ⟨x, x⟩)) (fun m a b x u v => by by_cases z : m = i; exact (by rw [z, rowTo_ne (by omega)]; exact w7 x u v); exact (by rw [rowTo_ne (by omega), rowTo_ne (by omega), F3.1 _ _ (by omega) (Or.inl (by omega))]; exact dW m a (by omega) x u v)) (fun m a b x u v => by by_cases z : m = i; exact (by rw [z, rowTo_in u v]); exact (by rw [rowTo_ne (by omega), rowTo_ne (by omega), F3.1 _ _ (by omega) (Or.inl (by omega))]; exact dH m a (by omega) x u v)) (fun m a b => by by_cases v : m < 7 * i; exact okA m a v; exact (by have w_ := okJ (m - 7 * i) (by omega) (by omega); rw [show m % 7 = m - 7 * i by omega, show m / 7 = i by omega]; exact w_)) rfl
            · skip
              have c2 := imF_in (A := (sgA 2 sk)) (V := fun j => fwd rt (sgM 2 rh (t * pL 2 + j))) (l := pL 2) (n := (pL 2).toNat) (m := i) c hc8.1 (by omega)
              have c2 : 0 ≤ (sgW 2 sk rh t) i c ∧ (sgW 2 sk rh t) i c < 8380417 := c2
              refine aw_aload_n d_Mo_attempt_266 rfl rfl ?_
              refine ax_getR (b := 204) d_Mo_attempt_267 fd_Mo_76 (k_175 S) (r_175_28 S) ?_
              refine aw_bipush d_Mo_attempt_270 ⟨by decide, by decide⟩ (by decide) ?_
              refine aw_iload_n d_Mo_attempt_272 rfl rfl ?_
              refine ax_iadd d_Mo_attempt_273 ⟨(by omega), (by omega)⟩ ?_
              refine ax_aald (b := 205 + (38 + i).toNat) d_Mo_attempt_274 ⟨by rw [(k_204 S)]; decide, by rw [(k_204 S)]; decide⟩ (by omega) (by rw [n_204 S]; omega) (g_204 S (by omega) (by omega)) ?_
              refine aw_iload_n d_Mo_attempt_275 rfl rfl ?_
              refine aw_aload_n d_Mo_attempt_276 rfl rfl ?_
              refine aw_aload_n d_Mo_attempt_277 rfl rfl ?_
              refine ax_getR (b := 204) d_Mo_attempt_278 fd_Mo_76 (k_175 S) (r_175_28 S) ?_
              refine aw_bipush d_Mo_attempt_281 ⟨by decide, by decide⟩ (by decide) ?_
              refine aw_iload_n d_Mo_attempt_283 rfl rfl ?_
              refine ax_iadd d_Mo_attempt_284 ⟨(by omega), (by omega)⟩ ?_
              refine ax_aald (b := 205 + (30 + i).toNat) d_Mo_attempt_285 ⟨by rw [(k_204 S)]; decide, by rw [(k_204 S)]; decide⟩ (by omega) (by rw [n_204 S]; omega) (g_204 S (by omega) (by omega)) ?_
              refine aw_iload_n d_Mo_attempt_286 rfl rfl ?_
              refine ax_ialde (x := (sgW 2 sk rh t) i c) d_Mo_attempt_287 (kr_204 S (by omega)) (by omega) (by rw [nr_204 S (by omega)]; omega) (w8 (by omega)) ?_
              refine ax_V (st := [vi c, vr (205 + (38 + i).toNat)]) (as := [vi ((sgW 2 sk rh t) i c)]) (b := 175) (v := some (vi (dHigh 261888 ((sgW 2 sk rh t) i c)))) (h' := sD h (rowTo (rowTo K3 (205 + (30 + i).toNat) 256 (itp (K3 (205 + (30 + i).toNat)))) (205 + (38 + i).toNat) c (fun x => dHigh 261888 ((sgW 2 sk rh t) i x))) u_254) d_Mo_attempt_288 cs_Mo_attempt_288 (k_175 S) (by have z := c_Mo_high (l := l) (G := G) (L := u_254) (I := rowTo (rowTo K3 (205 + (30 + i).toNat) 256 (itp (K3 (205 + (30 + i).toNat)))) (205 + (38 + i).toNat) c (fun x => dHigh 261888 ((sgW 2 sk rh t) i x))) (r := (sgW 2 sk rh t) i c) S (by rw [gp8]; decide) c2; rw [gp8] at z; exact z) rfl rfl rfl ?_
              show AW l G M_Mo_attempt P 291 [(3, vi c), (2, vi i), (0, vr 175)] [vi (dHigh 261888 ((sgW 2 sk rh t) i c)), vi c, vr (205 + (38 + i).toNat)] (sD h (rowTo (rowTo K3 (205 + (30 + i).toNat) 256 (itp (K3 (205 + (30 + i).toNat)))) (205 + (38 + i).toNat) c (fun x => dHigh 261888 ((sgW 2 sk rh t) i x))) u_254)
              refine ax_iast d_Mo_attempt_291 (kr_204 S (by omega)) (by omega) (by omega) (by rw [nr_204 S (by omega)]; omega) ?_
              rw [rowTo_1 (by omega) rfl]
              refine ax_iinc (lv' := [(3, vi (c + 1)), (2, vi i), (0, vr 175)]) d_Mo_attempt_292 rfl (by decide) ⟨(by omega), (by omega)⟩ rfl ?_
              refine aw_goto (tgt := 259) d_Mo_attempt_295 (by decide) ?_
              exact ih_259 _ (by omega) (c + 1) (by omega) rfl
          refine ax_hp (h' := sD h (rowTo (rowTo K3 (205 + (30 + i).toNat) 256 (itp (K3 (205 + (30 + i).toNat)))) (205 + (38 + i).toNat) 0 (fun x => dHigh 261888 ((sgW 2 sk rh t) i x))) u_254) (by rw [rowTo_0]) ?_
          exact lp_259 _ 0 (by omega) rfl
        · skip
          refine aw_iconst d_Mo_attempt_129 ⟨by decide, by decide⟩ ?_
          refine aw_istore (lv' := [(4, vi 0), (3, vi j), (2, vi i), (0, vr 175)]) d_Mo_attempt_130 (by decide) rfl ?_
          have lp_132 : ∀ (n_ : Nat) (c : Int), (0 ≤ c ∧ c ≤ 256) → ((256 - c).toNat) = n_ → AW l G M_Mo_attempt P 132 [(4, vi c), (3, vi j), (2, vi i), (0, vr 175)] [] (sD h (rowTo K3 251 c (fun x => ((sgMs 2 rh (t * 7 + j)) x + 8380417) % 8380417)) M3) := by
            intro n_
            induction n_ using Nat.strongRecOn with
            | _ n_ ih_132 =>
            intro c hc hm_132
            refine aw_iload d_Mo_attempt_132 rfl ?_
            refine aw_sipush d_Mo_attempt_134 ⟨by decide, by decide⟩ (by decide) ?_
            refine aw_icmp_ge (tgt := 176) d_Mo_attempt_137 (by decide) (fun c_137 => ?_) (fun c_137 => ?_)
            · skip
              rw [show c = 256 by omega]
              refine aw_aload_n d_Mo_attempt_176 rfl rfl ?_
              refine aw_aload_n d_Mo_attempt_177 rfl rfl ?_
              refine ax_getR (b := 204) d_Mo_attempt_178 fd_Mo_76 (k_175 S) (r_175_28 S) ?_
              refine aw_bipush d_Mo_attempt_181 ⟨by decide, by decide⟩ (by decide) ?_
              refine ax_aald (b := 251) d_Mo_attempt_183 ⟨by rw [(k_204 S)]; decide, by rw [(k_204 S)]; decide⟩ (by omega) (by rw [n_204 S]; omega) (g_204 S (j := 46) (by decide) (by decide)) ?_
              refine ax_Vr (st := []) (as := [vr 251]) (b := 175) d_Mo_attempt_184 cs_Mo_attempt_184 (k_175 S) (c_Mo_evaluate S ⟨k_251 S, by decide, n_251 S⟩ (by decide) (fun x u v => by rw [rowTo_in u v]; omega) (fun x u v => by rw [rowTo_ne (by decide)]; exact D3.2.2 x u v)) rfl rfl rfl (fun u_184 q_184 => ?_)
              have l5 := q_184
              have v5 : eqQ ((rowTo (rowTo K3 251 256 (fun x => ((sgMs 2 rh (t * 7 + j)) x + 8380417) % 8380417)) 251 256 (eva ((rowTo K3 251 256 (fun x => ((sgMs 2 rh (t * 7 + j)) x + 8380417) % 8380417)) 251))) 251) (fwd rt (sgM 2 rh (t * 7 + j))) := fun x u v => by rw [rowTo_in u v, fwd_eva u v]; exact eva_cq (fun y hy => cq.e (by rw [rowTo_in (by omega) (by omega)]; exact Int.add_emod_right _ _))
              have hs5 : HR (rowTo (rowTo K3 251 256 (fun x => ((sgMs 2 rh (t * 7 + j)) x + 8380417) % 8380417)) 251 256 (eva ((rowTo K3 251 256 (fun x => ((sgMs 2 rh (t * 7 + j)) x + 8380417) % 8380417)) 251))) 180 0 4896 sk := fun z x y => by rw [rowTo_ne (by decide), rowTo_ne (by decide)]; exact hs3 z x y
              have D5 := (D3.fr (FR.row (p := fun a => a = 251) (n := 256) (X := (fun x => ((sgMs 2 rh (t * 7 + j)) x + 8380417) % 8380417)) rfl (fun _ _ _ => rfl)) (by decide)).fr (FR.row (p := fun a => a = 251) (n := 256) (X := eva ((rowTo K3 251 256 (fun x => ((sgMs 2 rh (t * 7 + j)) x + 8380417) % 8380417)) 251)) rfl l5) (by decide)
              show AW l G M_Mo_attempt P 187 [(4, vi 256), (3, vi j), (2, vi i), (0, vr 175)] [] (sD h (rowTo (rowTo K3 251 256 (fun x => ((sgMs 2 rh (t * 7 + j)) x + 8380417) % 8380417)) 251 256 (eva ((rowTo K3 251 256 (fun x => ((sgMs 2 rh (t * 7 + j)) x + 8380417) % 8380417)) 251))) u_184)
              refine aw_aload_n d_Mo_attempt_187 rfl rfl ?_
              refine aw_aload_n d_Mo_attempt_188 rfl rfl ?_
              refine ax_getR (b := 204) d_Mo_attempt_189 fd_Mo_76 (k_175 S) (r_175_28 S) ?_
              refine aw_bipush d_Mo_attempt_192 ⟨by decide, by decide⟩ (by decide) ?_
              refine ax_aald (b := 252) d_Mo_attempt_194 ⟨by rw [(k_204 S)]; decide, by rw [(k_204 S)]; decide⟩ (by omega) (by rw [n_204 S]; omega) (g_204 S (j := 47) (by decide) (by decide)) ?_
              refine aw_aload_n d_Mo_attempt_195 rfl rfl ?_
              refine ax_getR (b := 177) d_Mo_attempt_196 fd_Mo_15 (k_175 S) (r_175_1 S) ?_
              refine aw_iconst d_Mo_attempt_199 ⟨by decide, by decide⟩ ?_
              refine ax_aald (b := 180) d_Mo_attempt_200 ⟨by rw [(k_177 S)]; decide, by rw [(k_177 S)]; decide⟩ (by omega) (by rw [n_177 S]; omega) (g_177 S (j := 2) (by decide) (by decide)) ?_
              refine aw_iconst d_Mo_attempt_201 ⟨by decide, by decide⟩ ?_
              refine aw_iload_n d_Mo_attempt_202 rfl rfl ?_
              refine aw_iload_n d_Mo_attempt_203 rfl rfl ?_
              refine ax_Vr (st := []) (as := [vr 252, vr 180, vi 0, vi j, vi i]) (b := 175) d_Mo_attempt_204 cs_Mo_attempt_204 (k_175 S) (by have z := c_Mo_sampleWide (l := l) (G := G) (I := rowTo (rowTo K3 251 256 (fun x => ((sgMs 2 rh (t * 7 + j)) x + 8380417) % 8380417)) 251 256 (eva ((rowTo K3 251 256 (fun x => ((sgMs 2 rh (t * 7 + j)) x + 8380417) % 8380417)) 251))) (L := u_184) (f := 252) (r := 180) (pa := 0) (x := j) (y := i) S D5.1 ⟨k_252 S, by decide, n_252 S⟩ (by decide) ⟨k_180 S, by decide, by decide⟩ (by rw [n_180 S]; decide); rw [wide_sk hs5 km (by decide)] at z; exact z) rfl rfl rfl (fun u_204 q_204 => ?_)
              obtain ⟨I6, L6⟩ := u_204
              obtain ⟨f6, r6⟩ := q_204
              dsimp only at f6 r6 ⊢
              by_cases ok_204 : (wide sk j i).2.1 = 256
              · skip
                rw [if_pos ok_204]
                show AW l G M_Mo_attempt P 207 [(4, vi 256), (3, vi j), (2, vi i), (0, vr 175)] [vi 1] (sD h I6 L6)
                refine aw_if_ne (tgt := 212) d_Mo_attempt_207 (by decide) (fun c_207 => ?_) (fun c_207 => False.elim (by omega))
                refine aw_aload_n d_Mo_attempt_212 rfl rfl ?_
                refine ax_getR (b := 204) d_Mo_attempt_213 fd_Mo_76 (k_175 S) (r_175_28 S) ?_
                refine aw_bipush d_Mo_attempt_216 ⟨by decide, by decide⟩ (by decide) ?_
                refine aw_iload_n d_Mo_attempt_218 rfl rfl ?_
                refine ax_iadd d_Mo_attempt_219 ⟨(by omega), (by omega)⟩ ?_
                refine ax_aald (b := 205 + (30 + i).toNat) d_Mo_attempt_220 ⟨by rw [(k_204 S)]; decide, by rw [(k_204 S)]; decide⟩ (by omega) (by rw [n_204 S]; omega) (g_204 S (by omega) (by omega)) ?_
                refine aw_aload_n d_Mo_attempt_221 rfl rfl ?_
                refine ax_getR (b := 204) d_Mo_attempt_222 fd_Mo_76 (k_175 S) (r_175_28 S) ?_
                refine aw_bipush d_Mo_attempt_225 ⟨by decide, by decide⟩ (by decide) ?_
                refine ax_aald (b := 251) d_Mo_attempt_227 ⟨by rw [(k_204 S)]; decide, by rw [(k_204 S)]; decide⟩ (by omega) (by rw [n_204 S]; omega) (g_204 S (j := 46) (by decide) (by decide)) ?_
                refine aw_aload_n d_Mo_attempt_228 rfl rfl ?_
                refine ax_getR (b := 204) d_Mo_attempt_229 fd_Mo_76 (k_175 S) (r_175_28 S) ?_
                refine aw_bipush d_Mo_attempt_232 ⟨by decide, by decide⟩ (by decide) ?_
                refine ax_aald (b := 252) d_Mo_attempt_234 ⟨by rw [(k_204 S)]; decide, by rw [(k_204 S)]; decide⟩ (by omega) (by rw [n_204 S]; omega) (g_204 S (j := 47) (by decide) (by decide)) ?_
                refine ax_S (st := []) (as := [vr (205 + (30 + i).toNat), vr 251, vr 252]) (v := none) (h' := sD h (rowTo I6 (205 + (30 + i).toNat) 256 (fun x => (I6 (205 + (30 + i).toNat) x + I6 251 x * I6 252 x) % 8380417)) L6) d_Mo_attempt_235 cs_Mo_attempt_235 (c_Mo_addProducts ⟨kr_204 S (by omega), by omega, nr_204 S (by omega)⟩ ⟨k_251 S, by decide, n_251 S⟩ ⟨k_252 S, by decide, n_252 S⟩ (fun x a b => by rw [f6.1 _ x (Or.inl (by omega)) (by omega), rowTo_ne (by omega), rowTo_ne (by omega), r3 x a b]; show 0 ≤ _ % 8380417 ∧ _ % 8380417 < 8380417; exact ⟨Int.emod_nonneg _ (by decide), Int.emod_lt_of_pos _ (by decide)⟩) (fun x a b => by rw [f6.1 251 x (Or.inl (by decide)) (by decide), v5 x a b]; exact fwd_in sgM_in x a b) (fun x a b => by rw [r6 x a (by rw [ok_204]; exact b)]; exact wide_b.2 x)) rfl rfl rfl ?_
                show AW l G M_Mo_attempt P 238 [(4, vi 256), (3, vi j), (2, vi i), (0, vr 175)] [] (sD h (rowTo I6 (205 + (30 + i).toNat) 256 (fun x => (I6 (205 + (30 + i).toNat) x + I6 251 x * I6 252 x) % 8380417)) L6)
                refine ax_iinc (lv' := [(3, vi (j + 1)), (4, vi 256), (2, vi i), (0, vr 175)]) d_Mo_attempt_238 rfl (by decide) ⟨(by omega), (by omega)⟩ rfl ?_
                refine aw_goto (tgt := 121) d_Mo_attempt_241 (by decide) ?_
                refine aw_sub (lv' := [(3, vi (j + 1)), (2, vi i), (0, vr 175)]) (by simp) ?_
                exact ih_121 _ (by omega) (j + 1) (rowTo I6 (205 + (30 + i).toNat) 256 (fun x => (I6 (205 + (30 + i).toNat) x + I6 251 x * I6 252 x) % 8380417)) L6 (by omega) ((((F3.tr (FR.row (p := fun a => a = 205 + (30 + i).toNat ∨ a = 251 ∨ a = 252) (by omega) (fun _ _ _ => rfl)) (fun a x => ⟨x, x⟩)).tr (FR.row (p := fun a => a = 205 + (30 + i).toNat ∨ a = 251 ∨ a = 252) (by omega) l5) (fun a x => ⟨x, x⟩)).tr (FR.smp (p := fun a => a = 205 + (30 + i).toNat ∨ a = 251 ∨ a = 252) f6 (by omega)) (fun a x => ⟨x, x⟩)).tr (FR.row (p := fun a => a = 205 + (30 + i).toNat ∨ a = 251 ∨ a = 252) (by omega) (fun _ _ _ => rfl)) (fun a x => ⟨x, x⟩)) (fun x a b => by rw [rowTo_in a b, f6.1 _ x (Or.inl (by omega)) (by omega), rowTo_ne (by omega), rowTo_ne (by omega), r3 x a b, r6 x a (by rw [ok_204]; exact b), f6.1 251 x (Or.inl (by decide)) (by decide), v5 x a b, show (j + 1).toNat = j.toNat + 1 by omega]; show _ = (pS (sgA 2 sk) (fun j => fwd rt (sgM 2 rh (t * 7 + j))) (i * 7) x j.toNat + (sgA 2 sk) (i * 7 + (j.toNat : Int)) x * (fwd rt (sgM 2 rh (t * 7 + (j.toNat : Int))) x)) % 8380417; rw [Int.toNat_of_nonneg hj.1, show (sgA 2 sk) (i * 7 + j) x = (wide sk j i).2.2 x from by unfold sgA; rw [show pL 2 = 7 from rfl, show (i * 7 + j) % 7 = j by omega, show (i * 7 + j) / 7 = i by omega], Int.mul_comm (fwd rt _ x)]; exact Int.emod_add_emod _ _ _) (fun m a b => by by_cases z : m = j; exact (by rw [z]; exact ok_204); exact okJ m a (by omega)) rfl
              · skip
                rw [if_neg ok_204]
                show AW l G M_Mo_attempt P 207 [(4, vi 256), (3, vi j), (2, vi i), (0, vr 175)] [vi 0] (sD h I6 L6)
                refine aw_if_ne (tgt := 212) d_Mo_attempt_207 (by decide) (fun c_207 => False.elim (by omega)) (fun c_207 => ?_)
                refine aw_iconst d_Mo_attempt_210 ⟨by decide, by decide⟩ ?_
                exact aw_iret d_Mo_attempt_211 rfl (hP _ _ ⟨_, _, _, rfl, rfl, F0.tr ((((F2.tr (F3.mono (r := fun a => 235 ≤ a ∧ a ≤ 252) (by intro a x; omega)) (fun a x => ⟨x, x⟩)).tr (FR.row (p := fun a => 235 ≤ a ∧ a ≤ 252) (by omega) (fun _ _ _ => rfl)) (fun a x => ⟨x, x⟩)).tr (FR.row (p := fun a => 235 ≤ a ∧ a ≤ 252) (by omega) l5) (fun a x => ⟨x, x⟩)).tr (FR.smp (p := fun a => 235 ≤ a ∧ a ≤ 252) f6 (by omega)) (fun a x => ⟨x, x⟩)) (by intro a x; exact ⟨x, by intro z; exact x (by omega)⟩), Or.inl ⟨rfl, fun z => ok_204 (by have y := z.1 (i * 7 + j) (by omega) (by show i * 7 + j < 56; omega); rw [show pL 2 = 7 from rfl, show (i * 7 + j) % 7 = j by omega, show (i * 7 + j) / 7 = i by omega] at y; exact y)⟩⟩)
            · skip
              have c5 := (show -524288 < (sgMs 2 rh (t * 7 + j)) c ∧ (sgMs 2 rh (t * 7 + j)) c ≤ 524288 from ⟨by have := (sgMs_b (s := 2) (rh := rh) (n := t * 7 + j) (j := c)).1; rw [show pG1 2 - 2 ^ (pB 2).toNat = -524288 from by decide] at this; exact this, (sgMs_b (s := 2) (rh := rh) (n := t * 7 + j) (j := c)).2⟩)
              refine aw_aload_n d_Mo_attempt_140 rfl rfl ?_
              refine ax_getR (b := 204) d_Mo_attempt_141 fd_Mo_76 (k_175 S) (r_175_28 S) ?_
              refine aw_bipush d_Mo_attempt_144 ⟨by decide, by decide⟩ (by decide) ?_
              refine ax_aald (b := 251) d_Mo_attempt_146 ⟨by rw [(k_204 S)]; decide, by rw [(k_204 S)]; decide⟩ (by omega) (by rw [n_204 S]; omega) (g_204 S (j := 46) (by decide) (by decide)) ?_
              refine aw_iload d_Mo_attempt_147 rfl ?_
              refine aw_aload_n d_Mo_attempt_149 rfl rfl ?_
              refine ax_getR (b := 204) d_Mo_attempt_150 fd_Mo_76 (k_175 S) (r_175_28 S) ?_
              refine aw_bipush d_Mo_attempt_153 ⟨by decide, by decide⟩ (by decide) ?_
              refine aw_iload_n d_Mo_attempt_155 rfl rfl ?_
              refine ax_iadd d_Mo_attempt_156 ⟨(by omega), (by omega)⟩ ?_
              refine ax_aald (b := 205 + (23 + j).toNat) d_Mo_attempt_157 ⟨by rw [(k_204 S)]; decide, by rw [(k_204 S)]; decide⟩ (by omega) (by rw [n_204 S]; omega) (g_204 S (by omega) (by omega)) ?_
              refine aw_iload d_Mo_attempt_158 rfl ?_
              refine ax_ialde (x := (sgMs 2 rh (t * 7 + j)) c) d_Mo_attempt_160 (kr_204 S (by omega)) (by omega) (by rw [nr_204 S (by omega)]; omega) (Eq.trans (rowTo_ne (by omega)) (m3 c hc.1 (by omega) (by omega))) ?_
              refine aw_ldcw (n := 8380417) d_Mo_attempt_161 lc_Mo_264 ⟨by decide, by decide⟩ ?_
              refine ax_iadd d_Mo_attempt_164 ⟨(by omega), (by omega)⟩ ?_
              refine aw_ldcw (n := 8380417) d_Mo_attempt_165 lc_Mo_264 ⟨by decide, by decide⟩ ?_
              refine ax_irem d_Mo_attempt_168 (by omega) (by omega) ?_
              refine ax_iast d_Mo_attempt_169 (k_251 S) (by decide) (by omega) (by rw [n_251 S]; omega) ?_
              rw [rowTo_1 (by omega) rfl]
              refine ax_iinc (lv' := [(4, vi (c + 1)), (3, vi j), (2, vi i), (0, vr 175)]) d_Mo_attempt_170 rfl (by decide) ⟨(by omega), (by omega)⟩ rfl ?_
              refine aw_goto (tgt := 132) d_Mo_attempt_173 (by decide) ?_
              exact ih_132 _ (by omega) (c + 1) (by omega) rfl
          refine ax_hp (h' := sD h (rowTo K3 251 0 (fun x => ((sgMs 2 rh (t * 7 + j)) x + 8380417) % 8380417)) M3) (by rw [rowTo_0]) ?_
          exact lp_132 _ 0 (by omega) rfl
      skip
      exact lp_121 _ 0 (rowTo K2 (205 + (30 + i).toNat) 256 (fun _ => 0)) M2 (by omega) (FR.row (p := fun a => a = 205 + (30 + i).toNat ∨ a = 251 ∨ a = 252) (by omega) (fun _ _ _ => rfl)) (fun x a b => by rw [rowTo_in a b]; rfl) (fun m a b => by omega) rfl
  skip
  exact lp_99 _ 0 K M (by omega) (FR.rfl') (fun m a b => by omega) (fun m a b => by omega) (fun m a b => by omega) rfl
set_option maxHeartbeats 800000 in
set_option maxRecDepth 100000 in
theorem c_Mo_attempt2 {l : Launch} {G : a_G} {h : Hp} {K0 M0 : Nat → Int → Int} {sk rh mu : Int → Int} {t aa : Int} (S : Shp h) (D0 : RD K0 M0 2) (hk0 : HR K0 180 0 4896 sk) (km : ∀ x, sk x % 256 = sk x) (hr0 : HR K0 266 0 64 rh) (rm0 : ∀ x, rh x % 256 = rh x) (hm0 : HR K0 265 0 64 mu) (mm0 : ∀ x, mu x % 256 = mu x) (hS0 : ∀ m, 0 ≤ m → m < 15 → eqQ (K0 (205 + m.toNat)) (sgSs 2 sk m)) (hD0 : ∀ m, 0 ≤ m → m < 8 → eqQ (K0 (205 + (15 + m).toNat)) (sgDs 2 sk m)) (ht : 0 ≤ t ∧ t < 814) (ha : aa = t * 7) : AW l G M_Mo_attempt (RaR h K0 M0 pAt (sgOk 2 sk ∧ bll 60 (sgBs 2 sk rh mu t) ≠ none) (sgGood 2 sk rh mu t) 4627 (sgPk 2 sk rh mu t)) 0 (a_ar 0 [vr 175, vi aa]) [] (sD h K0 M0) := by
  suffices key : ∀ P : a_R → Hp → Prop, (∀ r_ h2_, RaR h K0 M0 pAt (sgOk 2 sk ∧ bll 60 (sgBs 2 sk rh mu t) ≠ none) (sgGood 2 sk rh mu t) 4627 (sgPk 2 sk rh mu t) r_ h2_ → P r_ h2_) → AW l G M_Mo_attempt P 0 [(0, vr 175), (1, vi aa)] [] (sD h K0 M0) from key _ (fun _ _ q => q)
  intro P hP
  refine aw_iconst d_Mo_attempt_0 ⟨by decide, by decide⟩ ?_
  refine aw_istore_n (lv' := [(2, vi 0), (0, vr 175), (1, vi aa)]) d_Mo_attempt_1 rfl (by decide) rfl ?_
  have lp_2 : ∀ (n_ : Nat) (i : Int) (K : Nat → Int → Int) (M : Nat → Int → Int), (0 ≤ i ∧ i ≤ 7) → (FR (fun a => a = 262 ∨ 228 ≤ a ∧ a ≤ 234) K0 M0 K M) → (∀ m, 0 ≤ m → m < i → eqQ (K (205 + (23 + m).toNat)) (sgMs 2 rh (t * 7 + m))) → ((7 - i).toNat) = n_ → AW l G M_Mo_attempt P 2 [(2, vi i), (1, vi aa), (0, vr 175)] [] (sD h K M) := by
    intro n_
    induction n_ using Nat.strongRecOn with
    | _ n_ ih_2 =>
    intro i K M hi F dn hm_2
    have RS := D0.1.fr F (by omega)
    refine aw_iload_n d_Mo_attempt_2 rfl rfl ?_
    refine aw_aload_n d_Mo_attempt_3 rfl rfl ?_
    refine ax_getIe (x := 7) d_Mo_attempt_4 fd_Mo_226 (k_175 S) (Eq.trans (F.1 175 32 (by omega) (Or.inr (by decide))) (dr2_32 D0)) ?_
    refine aw_icmp_ge (tgt := 97) d_Mo_attempt_7 (by decide) (fun c_7 => ?_) (fun c_7 => ?_)
    · skip
      refine aw_sub (lv' := [(0, vr 175)]) (by simp) ?_
      exact aB2 S D0 hk0 km hr0 rm0 hm0 mm0 hS0 hD0 ht (F.mono (by intro a x z; exact x (by omega))) (fun m a b => dn m a (by omega)) hP
    · skip
      refine aw_aload_n d_Mo_attempt_10 rfl rfl ?_
      refine aw_bipush d_Mo_attempt_11 ⟨by decide, by decide⟩ (by decide) ?_
      refine ax_Vr (st := []) (as := [vi 12]) (b := 175) d_Mo_attempt_13 cs_Mo_attempt_13 (k_175 S) (c_Mo_begin12 S) rfl rfl rfl (fun u_13 q_13 => ?_)
      obtain ⟨I1, L1⟩ := u_13
      obtain ⟨F1, e1, k1⟩ := q_13
      dsimp only at F1 e1 k1
      show AW l G M_Mo_attempt P 16 [(2, vi i), (1, vi aa), (0, vr 175)] [] (sD h I1 L1)
      refine aw_aload_n d_Mo_attempt_16 rfl rfl ?_
      refine aw_aload_n d_Mo_attempt_17 rfl rfl ?_
      refine ax_getR (b := 266) d_Mo_attempt_18 fd_Mo_96 (k_175 S) (r_175_42 S) ?_
      refine aw_iconst d_Mo_attempt_21 ⟨by decide, by decide⟩ ?_
      refine aw_bipush d_Mo_attempt_22 ⟨by decide, by decide⟩ (by decide) ?_
      refine ax_Vr (st := []) (as := [vr 266, vi 0, vi 64]) (b := 175) d_Mo_attempt_24 cs_Mo_attempt_24 (k_175 S) (c_Mo_put3 S (RS.rf F1) (by omega) (by rw [e1]; exact spStart_lt (by decide) (by decide)) ⟨k_266 S, by decide, by decide⟩ (by rw [n_266 S]; decide)) rfl rfl rfl (fun u_24 q_24 => ?_)
      obtain ⟨I2, L2⟩ := u_24
      obtain ⟨F2, e2, k2⟩ := q_24
      dsimp only at F2 e2 k2
      show AW l G M_Mo_attempt P 27 [(2, vi i), (1, vi aa), (0, vr 175)] [] (sD h I2 L2)
      refine aw_aload_n d_Mo_attempt_27 rfl rfl ?_
      refine aw_iload_n d_Mo_attempt_28 rfl rfl ?_
      refine aw_iload_n d_Mo_attempt_29 rfl rfl ?_
      refine ax_iadd d_Mo_attempt_30 ⟨(by omega), (by omega)⟩ ?_
      refine ax_Vr (st := []) (as := [vi (aa + i)]) (b := 175) d_Mo_attempt_31 cs_Mo_attempt_31 (k_175 S) (c_Mo_put1 S ((RS.rf F1).rf F2) (by omega) (by rw [e2, e1]; exact spPart_lt (spStart_lt (by decide) (by decide)) _ _)) rfl rfl rfl (fun u_31 q_31 => ?_)
      obtain ⟨I3, L3⟩ := u_31
      obtain ⟨F3, e3, k3⟩ := q_31
      dsimp only at F3 e3 k3
      show AW l G M_Mo_attempt P 34 [(2, vi i), (1, vi aa), (0, vr 175)] [] (sD h I3 L3)
      refine aw_aload_n d_Mo_attempt_34 rfl rfl ?_
      refine aw_iload_n d_Mo_attempt_35 rfl rfl ?_
      refine aw_iload_n d_Mo_attempt_36 rfl rfl ?_
      refine ax_iadd d_Mo_attempt_37 ⟨(by omega), (by omega)⟩ ?_
      refine aw_bipush d_Mo_attempt_38 ⟨by decide, by decide⟩ (by decide) ?_
      refine aw_ishr d_Mo_attempt_40 ?_
      refine ax_ti (x := (aa + i) / 256) (a_shr' 8 rfl (by decide) (by decide) ⟨(by omega), (by omega)⟩) ?_
      refine ax_Vr (st := []) (as := [vi ((aa + i) / 256)]) (b := 175) d_Mo_attempt_41 cs_Mo_attempt_41 (k_175 S) (c_Mo_put1 S (((RS.rf F1).rf F2).rf F3) (by omega) (by rw [e3, e2, e1]; exact spTake_lt (spPart_lt (spStart_lt (by decide) (by decide)) _ _) _)) rfl rfl rfl (fun u_41 q_41 => ?_)
      obtain ⟨I4, L4⟩ := u_41
      obtain ⟨F4, e4, k4⟩ := q_41
      dsimp only at F4 e4 k4
      show AW l G M_Mo_attempt P 44 [(2, vi i), (1, vi aa), (0, vr 175)] [] (sD h I4 L4)
      have eS : spTurn (spR I4 L4) = nmS rh (t * 7 + i) := by rw [e4, e3, e2, e1, show Int.toNat 64 = 64 from rfl, spPart_congr (f := fun k => I1 266 (0 + k)) (g := rh) (fun k hk => by rw [F1.1 266 _ (Or.inl (by decide)), F.1 266 _ (by omega) (Or.inl (by decide)), hr0 k (by omega) (by omega), rm0]), ha]; rfl
      refine aw_aload_n d_Mo_attempt_44 rfl rfl ?_
      refine aw_aload_n d_Mo_attempt_45 rfl rfl ?_
      refine ax_getR (b := 262) d_Mo_attempt_46 fd_Mo_84 (k_175 S) (r_175_30 S) ?_
      refine aw_iconst d_Mo_attempt_49 ⟨by decide, by decide⟩ ?_
      refine aw_bipush d_Mo_attempt_50 ⟨by decide, by decide⟩ (by decide) ?_
      refine aw_aload_n d_Mo_attempt_52 rfl rfl ?_
      refine ax_getIe (x := 20) d_Mo_attempt_53 fd_Mo_251 (k_175 S) (Eq.trans ((((F1.tr F2).tr F3).tr F4).1 175 39 (Or.inr (by decide))) (Eq.trans (F.1 175 39 (by omega) (Or.inr (by decide))) (dr2_39 D0))) ?_
      refine ax_imul d_Mo_attempt_56 ⟨(by omega), (by omega)⟩ ?_
      refine ax_ti (x := 640) (by decide) ?_
      refine ax_Vr (st := []) (as := [vr 262, vi 0, vi 640]) (b := 175) d_Mo_attempt_57 cs_Mo_attempt_57 (k_175 S) (c_Mo_give S ((((RS.rf F1).rf F2).rf F3).rf F4) (by omega) (by rw [e4, e3, e2, e1]; exact (spTake_lt (spTake_lt (spPart_lt (spStart_lt (by decide) (by decide)) _ _) _) _).1) ⟨k_262 S, by decide, by decide, by decide⟩ (by rw [n_262 S]; decide)) rfl rfl rfl (fun u_57 q_57 => ?_)
      obtain ⟨I5, L5⟩ := u_57
      obtain ⟨F6, f5, e5, k5⟩ := q_57
      dsimp only at F6 f5 e5 k5
      rw [eS] at F6
      have h5 := HR.give F6 (by decide)
      have F5 : FR (fun a => a = 262) K M I5 L5 := ((((F1.tr F2).tr F3).tr F4).fr (p := fun a => a = 262)).tr (FR.give (p := fun a => a = 262) F6 f5 rfl) (fun a x => ⟨x, x⟩)
      show AW l G M_Mo_attempt P 60 [(2, vi i), (1, vi aa), (0, vr 175)] [] (sD h I5 L5)
      refine aw_aload_n d_Mo_attempt_60 rfl rfl ?_
      refine aw_iconst d_Mo_attempt_61 ⟨by decide, by decide⟩ ?_
      refine ax_putI d_Mo_attempt_62 fd_Mo_216 (k_175 S) (by decide) rfl ?_
      refine aw_aload_n d_Mo_attempt_65 rfl rfl ?_
      refine aw_aload_n d_Mo_attempt_66 rfl rfl ?_
      refine ax_getR (b := 262) d_Mo_attempt_67 fd_Mo_84 (k_175 S) (r_175_30 S) ?_
      refine aw_iconst d_Mo_attempt_70 ⟨by decide, by decide⟩ ?_
      refine aw_aload_n d_Mo_attempt_71 rfl rfl ?_
      refine ax_getR (b := 204) d_Mo_attempt_72 fd_Mo_76 (k_175 S) (r_175_28 S) ?_
      refine aw_bipush d_Mo_attempt_75 ⟨by decide, by decide⟩ (by decide) ?_
      refine aw_iload_n d_Mo_attempt_77 rfl rfl ?_
      refine ax_iadd d_Mo_attempt_78 ⟨(by omega), (by omega)⟩ ?_
      refine ax_aald (b := 205 + (23 + i).toNat) d_Mo_attempt_79 ⟨by rw [(k_204 S)]; decide, by rw [(k_204 S)]; decide⟩ (by omega) (by rw [n_204 S]; omega) (g_204 S (by omega) (by omega)) ?_
      refine aw_aload_n d_Mo_attempt_80 rfl rfl ?_
      refine ax_getIe (x := 524288) d_Mo_attempt_81 fd_Mo_237 (k_175 S) (Eq.trans (a_up_ne (Or.inr (by decide))) (Eq.trans (F5.1 175 35 (by omega) (Or.inr (by decide))) (Eq.trans (F.1 175 35 (by omega) (Or.inr (by decide))) (dr2_35 D0)))) ?_
      refine aw_aload_n d_Mo_attempt_84 rfl rfl ?_
      refine ax_getIe (x := 20) d_Mo_attempt_85 fd_Mo_251 (k_175 S) (Eq.trans (a_up_ne (Or.inr (by decide))) (Eq.trans (F5.1 175 39 (by omega) (Or.inr (by decide))) (Eq.trans (F.1 175 39 (by omega) (Or.inr (by decide))) (dr2_39 D0)))) ?_
      refine ax_Vr (st := []) (as := [vr 262, vi 0, vr (205 + (23 + i).toNat), vi 524288, vi 20]) (b := 175) d_Mo_attempt_88 cs_Mo_attempt_88 (k_175 S) (c_Mo_unpack (pa := 0) (c := 0) (d := 20) (b := 524288) S ⟨k_262 S, by decide, by decide⟩ ⟨kr_204 S (by omega), by omega, nr_204 S (by omega)⟩ (by omega) (by decide) (a_up_at.trans (by decide)) (by decide) (by rw [n_262 S]; decide)) rfl rfl rfl (fun u_88 q_88 => ?_)
      obtain ⟨q1, q2, q3⟩ := q_88
      have Fx : FR (fun a => a = 262 ∨ a = 205 + (23 + i).toNat) K M u_88 L5 := (F5.tr (FR.b0 (p := fun a => a = 262)) (fun a x => ⟨x, x⟩)).tr (FR.unp (p := fun a => a = 205 + (23 + i).toNat) q1 rfl) (by intro a x; omega)
      show AW l G M_Mo_attempt P 91 [(2, vi i), (1, vi aa), (0, vr 175)] [] (sD h u_88 L5)
      refine ax_iinc (lv' := [(2, vi (i + 1)), (1, vi aa), (0, vr 175)]) d_Mo_attempt_91 rfl (by decide) ⟨(by omega), (by omega)⟩ rfl ?_
      refine aw_goto (tgt := 2) d_Mo_attempt_94 (by decide) ?_
      exact ih_2 _ (by omega) (i + 1) u_88 L5 (by omega) (F.tr (Fx.mono (r := fun a => a = 262 ∨ 228 ≤ a ∧ a ≤ 234) (by intro a x; omega)) (fun a x => ⟨x, x⟩)) (fun m a b x u v => by by_cases z : m = i; exact (by rw [z, q3 x u v]; unfold sgMs; rw [show pG1 2 = 524288 from rfl, show (pB 2).toNat = 20 from rfl, gR_congr (g' := spOut (nmS rh (t * 7 + i))) (fun y y0 y1 => by rw [a_up_ne (Or.inl (by decide)), show (0 + 0 + y : Int) = 0 + y by omega]; exact h5 y y0 (by omega))]); exact (by rw [Fx.1 _ _ (by omega) (Or.inl (by omega))]; exact dn m a (by omega) x u v)) rfl
  skip
  refine aw_sub (lv' := [(2, vi 0), (1, vi aa), (0, vr 175)]) (by simp) ?_
  exact lp_2 _ 0 K0 M0 (by omega) (FR.rfl') (fun m a b => by omega) rfl
