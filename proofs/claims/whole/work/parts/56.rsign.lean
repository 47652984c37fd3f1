/-! the reference's dsaSign -/
def rkR (I : Nat → Int → Int) : Int → Int := gW I 2
theorem gW_m (I : Nat → Int → Int) (s x : Int) : gW I s x % 256 = gW I s x := by unfold gW; split <;> omega
theorem gW_in {I : Nat → Int → Int} {s x : Int} (h0 : 0 ≤ x) (h1 : x < I 186 s) : gW I s x = I (178 + s.toNat) x % 256 := if_pos ⟨h0, h1⟩
def rnR (I : Nat → Int → Int) (k : Int) : Int := if I 186 0 = 0 then 0 else I 178 k
def muR (I : Nat → Int → Int) (kh : Int → Int) (how : Int) : Int → Int := spOut (dgS kh how (fun k => I 182 (0 + k)) (I 186 4) (fun k => I 181 (0 + k)) (I 186 3))
def rhR (I : Nat → Int → Int) (how : Int) : Int → Int := spOut (rhS (fun k => I 180 (32 + k)) (rnR I) (muR I (fun k => I 180 (64 + k)) how))
theorem FR.cR {p : Nat → Prop} {I L I' L' : Nat → Int → Int} (h : RF I L I' L') : FR p I L I' L' := h.fr
set_option maxHeartbeats 2000000 in
set_option maxRecDepth 100000 in
theorem sB00 {l : Launch} {G : a_G} {P : a_R → Hp → Prop} {h : Hp} {I L K M : Nat → Int → Int} (S : Shp h) (R0 : fR0 qN I L K M) (D : RD K M 0) (hm : HR K 265 0 64 (muR I (fun k => I 180 (64 + k)) (0 : Int))) (hr : HR K 266 0 64 (rhR I (0 : Int))) (hSs : ∀ m, 0 ≤ m → m < 8 → eqQ (K (205 + m.toNat)) (sgSs 0 (rkR I) m)) (hDs : ∀ m, 0 ≤ m → m < 4 → eqQ (K (205 + (15 + m).toNat)) (sgDs 0 (rkR I) m)) (b1 : ((0 : Int) ≠ 0 ∨ I 186 4 ≤ 255) ∧ (I 186 0 = 32 ∨ I 186 0 = 0)) (b2 : I 186 2 = sSec 0) (hP : ∀ r_ h2_, RsR h I L (c4 ((0 ≤ (0 : Int) ∧ (0 : Int) < 3) ∧ ((0 : Int) = 0 ∨ (0 : Int) = -1)) (((0 : Int) ≠ 0 ∨ I 186 4 ≤ 255) ∧ (I 186 0 = 32 ∨ I 186 0 = 0)) (I 186 2 = sSec (0 : Int)) (sgOk (0 : Int) (rkR I) ∧ sgRun (0 : Int) (rkR I) (rhR I (0 : Int)) (muR I (fun k => I 180 (64 + k)) (0 : Int)) 814 0 ≠ none)) (fun a => a = 183 ∨ a = 186) (fun v I' _ => ∃ t, sgRun (0 : Int) (rkR I) (rhR I (0 : Int)) (muR I (fun k => I 180 (64 + k)) (0 : Int)) 814 0 = some t ∧ v = t + 1 ∧ ((∀ j, j ≠ 5 → I' 186 j = I 186 j) ∧ I' 186 5 = sPkt (0 : Int)) ∧ HR I' 183 0 (sPkt (0 : Int)) (sgPk (0 : Int) (rkR I) (rhR I (0 : Int)) (muR I (fun k => I 180 (64 + k)) (0 : Int)) t) ∧ rng (I 183) (I' 183)) r_ h2_ → P r_ h2_) : AW l G M_Mo_dsaSign P 314 [(0, vr 175)] [] (sD h K M) := by
  have hk : HR K 180 0 2560 (rkR I) := fun z x y => by rw [R0.1 180 _ (by omega) (fun z => z), Int.zero_add]; exact (gW_in (s := 2) x (by rw [show I 186 2 = 2560 from b2]; exact y)).symm
  refine aw_iconst d_Mo_dsaSign_314 ⟨by decide, by decide⟩ ?_
  refine aw_istore (lv' := [(4, vi 0), (0, vr 175)]) d_Mo_dsaSign_315 (by decide) rfl ?_
  have lp_317 : ∀ (n_ : Nat) (t : Int) (K2 : Nat → Int → Int) (M2 : Nat → Int → Int), (0 ≤ t ∧ t ≤ 814) → (FR pAt K M K2 M2) → (sgRun 0 (rkR I) (rhR I (0 : Int)) (muR I (fun k => I 180 (64 + k)) (0 : Int)) 814 0 = sgRun 0 (rkR I) (rhR I (0 : Int)) (muR I (fun k => I 180 (64 + k)) (0 : Int)) (814 - t).toNat t) → ((814 - t).toNat) = n_ → AW l G M_Mo_dsaSign P 317 [(4, vi t), (0, vr 175)] [] (sD h K2 M2) := by
    intro n_
    induction n_ using Nat.strongRecOn with
    | _ n_ ih_317 =>
    intro t K2 M2 ht F run hm_317
    refine aw_iload d_Mo_dsaSign_317 rfl ?_
    refine aw_sipush d_Mo_dsaSign_319 ⟨by decide, by decide⟩ (by decide) ?_
    refine aw_icmp_ge (tgt := 429) d_Mo_dsaSign_322 (by decide) (fun c_322 => ?_) (fun c_322 => ?_)
    · skip
      refine aw_aload_n d_Mo_dsaSign_429 rfl rfl ?_
      refine aw_iconst d_Mo_dsaSign_430 ⟨by decide, by decide⟩ ?_
      refine aw_iconst d_Mo_dsaSign_431 ⟨by decide, by decide⟩ ?_
      refine ax_V (st := []) (as := [vi 0, vi 4]) (b := 175) (v := some (vi 0)) (h' := sD h (a_up K2 175 4 4) M2) d_Mo_dsaSign_432 cs_Mo_dsaSign_432 (k_175 S) (c_good0 S rfl) rfl rfl rfl ?_
      show AW l G M_Mo_dsaSign P 435 [(4, vi t), (0, vr 175)] [vi 0] (sD h (a_up K2 175 4 4) M2)
      refine aw_pop d_Mo_dsaSign_435 rfl ?_
      refine aw_iconst d_Mo_dsaSign_436 ⟨by decide, by decide⟩ ?_
      exact aw_iret d_Mo_dsaSign_437 rfl (hP _ _ (rsNo 0 4 (c4_4 ⟨by decide, by decide⟩ b1 b2 (fun z => z.2 (by rw [run, show (814 - t).toNat = 0 by omega]; rfl))) (by decide) a_up_at (fR0.fr (fR0.fr R0 F (r := qN) (by intro a x y; exact ⟨fun z => z, by omega⟩) (by decide)) (FR.c0 (p := fun _ => False)) (by intro a x y; exact ⟨fun z => z, fun z => z⟩) (fun z => z))))
    · skip
      refine aw_aload_n d_Mo_dsaSign_325 rfl rfl ?_
      refine aw_iload d_Mo_dsaSign_326 rfl ?_
      refine aw_aload_n d_Mo_dsaSign_328 rfl rfl ?_
      refine ax_getIe (x := 4) d_Mo_dsaSign_329 fd_Mo_226 (k_175 S) (Eq.trans (F.1 175 32 (by omega) (Or.inr (by decide))) (dr0_32 D)) ?_
      refine ax_imul d_Mo_dsaSign_332 ⟨(by omega), (by omega)⟩ ?_
      refine ax_Vt (st := []) (as := [vi (t * 4)]) (b := 175) d_Mo_dsaSign_333 cs_Mo_dsaSign_333 (k_175 S) (c_Mo_attempt0 (t := t) (sk := (rkR I)) (rh := (rhR I (0 : Int))) (mu := (muR I (fun k => I 180 (64 + k)) (0 : Int))) S (D.fr F (by decide)) (hk.fr F (by decide) (by decide)) (fun x => gW_m _ _ _) (hr.fr F (by decide) (by decide)) (fun x => spOut_m _ _) (hm.fr F (by decide) (by decide)) (fun x => spOut_m _ _) (fun m a b j x y => by rw [F.1 _ _ (by omega) (Or.inl (by omega))]; exact hSs m a b j x y) (fun m a b j x y => by rw [F.1 _ _ (by omega) (Or.inl (by omega))]; exact hDs m a b j x y) (by omega) rfl) rfl rfl rfl (fun v_ h_ q_ => ?_) (fun x_ h_ q_ => ?_)
      · obtain ⟨v, I6, L6, q3, q4, F6, q6⟩ := q_
        cases q3; subst q4
        have F7 : FR pAt K M I6 L6 := F.tr F6 (fun a x => ⟨x, x⟩)
        have eN : (814 - t).toNat = (814 - (t + 1)).toNat + 1 := by omega
        show AW l G M_Mo_dsaSign P 336 [(4, vi t), (0, vr 175)] [vi v] (sD h I6 L6)
        refine aw_istore (lv' := [(5, vi v), (4, vi t), (0, vr 175)]) d_Mo_dsaSign_336 (by decide) rfl ?_
        refine aw_aload_n d_Mo_dsaSign_338 rfl rfl ?_
        refine aw_iload d_Mo_dsaSign_339 rfl ?_
        refine aw_if_lt (tgt := 348) d_Mo_dsaSign_341 (by decide) (fun c_341 => ?_) (fun c_341 => ?_)
        · skip
          refine aw_iconst d_Mo_dsaSign_348 ⟨by decide, by decide⟩ ?_
          refine aw_iconst d_Mo_dsaSign_349 ⟨by decide, by decide⟩ ?_
          refine ax_V (st := []) (as := [vi 0, vi 4]) (b := 175) (v := some (vi 0)) (h' := sD h (a_up I6 175 4 4) L6) d_Mo_dsaSign_350 cs_Mo_dsaSign_350 (k_175 S) (c_good0 S rfl) rfl rfl rfl ?_
          show AW l G M_Mo_dsaSign P 353 [(5, vi v), (4, vi t), (0, vr 175)] [vi 0] (sD h (a_up I6 175 4 4) L6)
          refine aw_if_ne (tgt := 358) d_Mo_dsaSign_353 (by decide) (fun c_353 => False.elim (by omega)) (fun c_353 => ?_)
          refine aw_iconst d_Mo_dsaSign_356 ⟨by decide, by decide⟩ ?_
          exact aw_iret d_Mo_dsaSign_357 rfl (hP _ _ (rsNo 0 4 (c4_4 ⟨by decide, by decide⟩ b1 b2 (fun z => by rcases q6 with y | y | y; exact (by have z2 := z.2; rw [run, eN] at z2; exact z2 (sgRun_x (Classical.byContradiction (fun x => y.2 ⟨z.1, x⟩)))); exact absurd y.1 (by omega); exact absurd y.1 (by omega))) (by decide) a_up_at (fR0.fr (fR0.fr R0 F7 (r := qN) (by intro a x y; exact ⟨fun z => z, by omega⟩) (by decide)) (FR.c0 (p := fun _ => False)) (by intro a x y; exact ⟨fun z => z, fun z => z⟩) (fun z => z))))
        · skip
          refine aw_iconst d_Mo_dsaSign_344 ⟨by decide, by decide⟩ ?_
          refine aw_goto (tgt := 349) d_Mo_dsaSign_345 (by decide) ?_
          refine aw_iconst d_Mo_dsaSign_349 ⟨by decide, by decide⟩ ?_
          refine ax_V (st := []) (as := [vi 1, vi 4]) (b := 175) (v := some (vi 1)) (h' := sD h (a_up I6 175 4 0) L6) d_Mo_dsaSign_350 cs_Mo_dsaSign_350 (k_175 S) (c_good1 S rfl) rfl rfl rfl ?_
          show AW l G M_Mo_dsaSign P 353 [(5, vi v), (4, vi t), (0, vr 175)] [vi 1] (sD h (a_up I6 175 4 0) L6)
          refine aw_if_ne (tgt := 358) d_Mo_dsaSign_353 (by decide) (fun c_353 => ?_) (fun c_353 => False.elim (by omega))
          refine aw_iload d_Mo_dsaSign_358 rfl ?_
          refine aw_iconst d_Mo_dsaSign_360 ⟨by decide, by decide⟩ ?_
          refine aw_icmp_ne (tgt := 423) d_Mo_dsaSign_361 (by decide) (fun c_361 => ?_) (fun c_361 => ?_)
          · skip
            refine ax_iinc (lv' := [(4, vi (t + 1)), (5, vi v), (0, vr 175)]) d_Mo_dsaSign_423 rfl (by decide) ⟨(by omega), (by omega)⟩ rfl ?_
            refine aw_goto (tgt := 317) d_Mo_dsaSign_426 (by decide) ?_
            refine aw_sub (lv' := [(4, vi (t + 1)), (0, vr 175)]) (by simp) ?_
            exact ih_317 _ (by omega) (t + 1) (a_up I6 175 4 0) L6 (by omega) (F7.tr (FR.c0 (p := pAt)) (fun a x => ⟨x, x⟩)) (by rw [run, eN]; rcases q6 with y | y | y; exact absurd y.1 (by omega); exact sgRun_n y.2.1.2 y.2.2; exact absurd y.1 (by omega)) rfl
          · skip
            have yy := (q6.resolve_left (fun y => by have y1 := y.1; omega)).resolve_left (fun y => by have y1 := y.1; omega)
            have rn : sgRun 0 (rkR I) (rhR I (0 : Int)) (muR I (fun k => I 180 (64 + k)) (0 : Int)) 814 0 = some t := by rw [run, eN]; exact sgRun_g yy.2.1.2 yy.2.2.1
            have okk : sgOk 0 (rkR I) ∧ sgRun 0 (rkR I) (rhR I (0 : Int)) (muR I (fun k => I 180 (64 + k)) (0 : Int)) 814 0 ≠ none := ⟨yy.2.1.1, by rw [rn]; exact (fun z => by cases z)⟩
            refine aw_aload_n d_Mo_dsaSign_364 rfl rfl ?_
            refine ax_getR (b := 186) d_Mo_dsaSign_365 fd_Mo_18 (k_175 S) (r_175_2 S) ?_
            refine aw_iconst d_Mo_dsaSign_368 ⟨by decide, by decide⟩ ?_
            refine aw_aload_n d_Mo_dsaSign_369 rfl rfl ?_
            refine ax_getIe (x := 32) d_Mo_dsaSign_370 fd_Mo_248 (k_175 S) (Eq.trans (a_up_ne (Or.inr (by decide))) (Eq.trans (F7.1 175 38 (by omega) (Or.inr (by decide))) (dr0_38 D))) ?_
            refine aw_bipush d_Mo_dsaSign_373 ⟨by decide, by decide⟩ (by decide) ?_
            refine aw_aload_n d_Mo_dsaSign_375 rfl rfl ?_
            refine ax_getIe (x := 4) d_Mo_dsaSign_376 fd_Mo_226 (k_175 S) (Eq.trans (a_up_ne (Or.inr (by decide))) (Eq.trans (F7.1 175 32 (by omega) (Or.inr (by decide))) (dr0_32 D))) ?_
            refine ax_imul d_Mo_dsaSign_379 ⟨(by omega), (by omega)⟩ ?_
            refine ax_ti (x := 128) (by decide) ?_
            refine aw_aload_n d_Mo_dsaSign_380 rfl rfl ?_
            refine ax_getIe (x := 18) d_Mo_dsaSign_381 fd_Mo_251 (k_175 S) (Eq.trans (a_up_ne (Or.inr (by decide))) (Eq.trans (F7.1 175 39 (by omega) (Or.inr (by decide))) (dr0_39 D))) ?_
            refine ax_imul d_Mo_dsaSign_384 ⟨(by omega), (by omega)⟩ ?_
            refine ax_ti (x := 2304) (by decide) ?_
            refine ax_iadd d_Mo_dsaSign_385 ⟨(by omega), (by omega)⟩ ?_
            refine ax_ti (x := 2336) (by decide) ?_
            refine aw_aload_n d_Mo_dsaSign_386 rfl rfl ?_
            refine ax_getIe (x := 80) d_Mo_dsaSign_387 fd_Mo_245 (k_175 S) (Eq.trans (a_up_ne (Or.inr (by decide))) (Eq.trans (F7.1 175 37 (by omega) (Or.inr (by decide))) (dr0_37 D))) ?_
            refine ax_iadd d_Mo_dsaSign_390 ⟨(by omega), (by omega)⟩ ?_
            refine ax_ti (x := 2416) (by decide) ?_
            refine aw_aload_n d_Mo_dsaSign_391 rfl rfl ?_
            refine ax_getIe (x := 4) d_Mo_dsaSign_392 fd_Mo_223 (k_175 S) (Eq.trans (a_up_ne (Or.inr (by decide))) (Eq.trans (F7.1 175 26 (by omega) (Or.inr (by decide))) (dr0_26 D))) ?_
            refine ax_iadd d_Mo_dsaSign_395 ⟨(by omega), (by omega)⟩ ?_
            refine ax_ti (x := 2420) (by decide) ?_
            refine ax_iast d_Mo_dsaSign_396 (k_186 S) (by decide) (by omega) (by rw [n_186 S]; omega) ?_
            refine aw_aload_n d_Mo_dsaSign_397 rfl rfl ?_
            refine ax_getR (b := 263) d_Mo_dsaSign_398 fd_Mo_87 (k_175 S) (r_175_31 S) ?_
            refine aw_iconst d_Mo_dsaSign_401 ⟨by decide, by decide⟩ ?_
            refine aw_aload_n d_Mo_dsaSign_402 rfl rfl ?_
            refine ax_getR (b := 177) d_Mo_dsaSign_403 fd_Mo_15 (k_175 S) (r_175_1 S) ?_
            refine aw_iconst d_Mo_dsaSign_406 ⟨by decide, by decide⟩ ?_
            refine ax_aald (b := 183) d_Mo_dsaSign_407 ⟨by rw [(k_177 S)]; decide, by rw [(k_177 S)]; decide⟩ (by omega) (by rw [n_177 S]; omega) (g_177 S (j := 5) (by decide) (by decide)) ?_
            refine aw_iconst d_Mo_dsaSign_408 ⟨by decide, by decide⟩ ?_
            refine aw_aload_n d_Mo_dsaSign_409 rfl rfl ?_
            refine ax_getR (b := 186) d_Mo_dsaSign_410 fd_Mo_18 (k_175 S) (r_175_2 S) ?_
            refine aw_iconst d_Mo_dsaSign_413 ⟨by decide, by decide⟩ ?_
            refine ax_ialde (x := 2420) d_Mo_dsaSign_414 (k_186 S) (by omega) (by rw [n_186 S]; omega) (a_up_at) ?_
            refine ax_S (st := []) (as := [vr 263, vi 0, vr 183, vi 0, vi 2420]) (v := none) (h' := sD h (putRow (a_up (a_up I6 175 4 0) 186 5 2420) 183 0 2420 (fun k => (a_up (a_up I6 175 4 0) 186 5 2420) 263 (0 + k))) L6) d_Mo_dsaSign_415 cs_Mo_dsaSign_415 (c_Mo_move ⟨k_263 S, by decide⟩ ⟨k_183 S, by decide, trivial⟩ (by decide) (by rw [n_263 S, n_183 S]; omega)) rfl rfl rfl ?_
            show AW l G M_Mo_dsaSign P 418 [(5, vi v), (4, vi t), (0, vr 175)] [] (sD h (putRow (a_up (a_up I6 175 4 0) 186 5 2420) 183 0 2420 (fun k => (a_up (a_up I6 175 4 0) 186 5 2420) 263 (0 + k))) L6)
            refine aw_iload d_Mo_dsaSign_418 rfl ?_
            refine aw_iconst d_Mo_dsaSign_420 ⟨by decide, by decide⟩ ?_
            refine ax_iadd d_Mo_dsaSign_421 ⟨(by omega), (by omega)⟩ ?_
            exact aw_iret d_Mo_dsaSign_422 rfl (hP _ _ ⟨_, _, _, rfl, rfl, by rw [putRow_ne (by decide), a_up_ne (Or.inl (by decide)), a_up_at, c4_0 ⟨by decide, by decide⟩ b1 b2 okk], Or.inl ⟨c4_0 ⟨by decide, by decide⟩ b1 b2 okk, fR0.fr (fR0.fr (fR0.fr (fR0.fr R0 F7 (r := qN) (by intro a x y; exact ⟨fun z => z, by omega⟩) (by decide)) (FR.c0 (p := fun _ => False)) (r := qN) (by intro a x y; exact ⟨fun z => z, fun z => z⟩) (fun z => z)) (FR.up (p := fun a => a = 186) rfl) (r := fun a => a = 183 ∨ a = 186) (by intro a x y; exact ⟨fun z => z, by omega⟩) (by decide)) (FR.put (p := fun a => a = 183) rfl) (by intro a x y; exact ⟨y, by omega⟩) (by decide), t, rn, rfl, ⟨fun j x => by rw [putRow_ne (by decide), a_up_ne (Or.inr x), a_up_ne (Or.inl (by decide))]; exact (fR0.fr R0 F7 (r := qN) (by intro a x y; exact ⟨fun z => z, by omega⟩) (by decide)).1 186 j (by omega) (fun z => z), by rw [putRow_ne (by decide), a_up_at]; rfl⟩, HR.put (fun z x y => by rw [a_up_ne (Or.inl (by decide)), a_up_ne (Or.inl (by decide))]; exact yy.2.2.2 z x y), fun j => by have z := rng.p (I := a_up (a_up I6 175 4 0) 186 5 2420) (f := 183) (o := 0) (n := 2420) (g := fun k => (a_up (a_up I6 175 4 0) 186 5 2420) 263 (0 + k)) j; rw [show (a_up (a_up I6 175 4 0) 186 5 2420) 183 j = I 183 j from by rw [a_up_ne (Or.inl (by decide)), a_up_ne (Or.inl (by decide))]; exact (fR0.fr R0 F7 (r := qN) (by intro a x y; exact ⟨fun z => z, by omega⟩) (by decide)).1 183 j (by omega) (fun z => z)] at z; exact z⟩⟩)
      · obtain ⟨v, I6, L6, q3, q4, F6, q6⟩ := q_
        cases q3
  skip
  exact lp_317 _ 0 K M (by omega) (FR.rfl') (rfl) rfl
set_option maxHeartbeats 4000000 in
set_option maxRecDepth 100000 in
theorem c_Mo_dsaSign00 {l : Launch} {G : a_G} {h : Hp} {I L : Nat → Int → Int} (S : Shp h) (RS : RSt I L) (rb : RB I) : AW l G M_Mo_dsaSign (RsR h I L (c4 ((0 ≤ (0 : Int) ∧ (0 : Int) < 3) ∧ ((0 : Int) = 0 ∨ (0 : Int) = -1)) (((0 : Int) ≠ 0 ∨ I 186 4 ≤ 255) ∧ (I 186 0 = 32 ∨ I 186 0 = 0)) (I 186 2 = sSec (0 : Int)) (sgOk (0 : Int) (rkR I) ∧ sgRun (0 : Int) (rkR I) (rhR I (0 : Int)) (muR I (fun k => I 180 (64 + k)) (0 : Int)) 814 0 ≠ none)) (fun a => a = 183 ∨ a = 186) (fun v I' _ => ∃ t, sgRun (0 : Int) (rkR I) (rhR I (0 : Int)) (muR I (fun k => I 180 (64 + k)) (0 : Int)) 814 0 = some t ∧ v = t + 1 ∧ ((∀ j, j ≠ 5 → I' 186 j = I 186 j) ∧ I' 186 5 = sPkt (0 : Int)) ∧ HR I' 183 0 (sPkt (0 : Int)) (sgPk (0 : Int) (rkR I) (rhR I (0 : Int)) (muR I (fun k => I 180 (64 + k)) (0 : Int)) t) ∧ rng (I 183) (I' 183))) 0 (a_ar 0 [vr 175, vi 0, vi 0]) [] (sD h I L) := by
  suffices key : ∀ P : a_R → Hp → Prop, (∀ r_ h2_, RsR h I L (c4 ((0 ≤ (0 : Int) ∧ (0 : Int) < 3) ∧ ((0 : Int) = 0 ∨ (0 : Int) = -1)) (((0 : Int) ≠ 0 ∨ I 186 4 ≤ 255) ∧ (I 186 0 = 32 ∨ I 186 0 = 0)) (I 186 2 = sSec (0 : Int)) (sgOk (0 : Int) (rkR I) ∧ sgRun (0 : Int) (rkR I) (rhR I (0 : Int)) (muR I (fun k => I 180 (64 + k)) (0 : Int)) 814 0 ≠ none)) (fun a => a = 183 ∨ a = 186) (fun v I' _ => ∃ t, sgRun (0 : Int) (rkR I) (rhR I (0 : Int)) (muR I (fun k => I 180 (64 + k)) (0 : Int)) 814 0 = some t ∧ v = t + 1 ∧ ((∀ j, j ≠ 5 → I' 186 j = I 186 j) ∧ I' 186 5 = sPkt (0 : Int)) ∧ HR I' 183 0 (sPkt (0 : Int)) (sgPk (0 : Int) (rkR I) (rhR I (0 : Int)) (muR I (fun k => I 180 (64 + k)) (0 : Int)) t) ∧ rng (I 183) (I' 183)) r_ h2_ → P r_ h2_) → AW l G M_Mo_dsaSign P 0 [(0, vr 175), (1, vi 0), (2, vi 0)] [] (sD h I L) from key _ (fun _ _ q => q)
  intro P hP
  refine aw_aload_n d_Mo_dsaSign_0 rfl rfl ?_
  refine aw_iload_n d_Mo_dsaSign_1 rfl rfl ?_
  refine aw_iconst d_Mo_dsaSign_2 ⟨by decide, by decide⟩ ?_
  refine aw_iconst d_Mo_dsaSign_3 ⟨by decide, by decide⟩ ?_
  refine ax_S (st := [vr 175]) (as := [vi 0, vi 0, vi 2]) (v := some (vi 1)) (h' := sD h I L) d_Mo_dsaSign_4 cs_Mo_dsaSign_4 (c_in1 (by decide)) rfl rfl rfl ?_
  show AW l G M_Mo_dsaSign P 7 [(0, vr 175), (1, vi 0), (2, vi 0)] [vi 1, vr 175] (sD h I L)
  refine aw_if_eq (tgt := 23) d_Mo_dsaSign_7 (by decide) (fun c_7 => False.elim (by omega)) (fun c_7 => ?_)
  refine aw_iload_n d_Mo_dsaSign_10 rfl rfl ?_
  refine aw_iconst d_Mo_dsaSign_11 ⟨by decide, by decide⟩ ?_
  refine aw_iconst d_Mo_dsaSign_12 ⟨by decide, by decide⟩ ?_
  refine ax_S (st := [vr 175]) (as := [vi 0, vi (-1), vi 0]) (v := some (vi 1)) (h' := sD h I L) d_Mo_dsaSign_13 cs_Mo_dsaSign_13 (c_in1 (by decide)) rfl rfl rfl ?_
  show AW l G M_Mo_dsaSign P 16 [(0, vr 175), (1, vi 0), (2, vi 0)] [vi 1, vr 175] (sD h I L)
  refine aw_if_eq (tgt := 23) d_Mo_dsaSign_16 (by decide) (fun c_16 => False.elim (by omega)) (fun c_16 => ?_)
  refine aw_iconst d_Mo_dsaSign_19 ⟨by decide, by decide⟩ ?_
  refine aw_goto (tgt := 24) d_Mo_dsaSign_20 (by decide) ?_
  refine aw_iconst d_Mo_dsaSign_24 ⟨by decide, by decide⟩ ?_
  refine ax_V (st := []) (as := [vi 1, vi 1]) (b := 175) (v := some (vi 1)) (h' := sD h (a_up I 175 4 0) L) d_Mo_dsaSign_25 cs_Mo_dsaSign_25 (k_175 S) (c_good1 S (rfl)) rfl rfl rfl ?_
  show AW l G M_Mo_dsaSign P 28 [(0, vr 175), (1, vi 0), (2, vi 0)] [vi 1] (sD h (a_up I 175 4 0) L)
  refine aw_if_ne (tgt := 33) d_Mo_dsaSign_28 (by decide) (fun c_28 => ?_) (fun c_28 => False.elim (by omega))
  refine aw_aload_n d_Mo_dsaSign_33 rfl rfl ?_
  refine aw_iload_n d_Mo_dsaSign_34 rfl rfl ?_
  refine ax_Vr (st := []) (as := [vi 0]) (b := 175) d_Mo_dsaSign_35 cs_Mo_dsaSign_35 (k_175 S) (c_Mo_dsa0 S) rfl rfl rfl (fun u_35 q_35 => ?_)
  obtain ⟨d1, d2, d3⟩ := q_35
  have e0 : ∀ a j, (a < 175 ∨ 176 ≤ a ∧ a ≤ 202 ∨ 204 ≤ a) → u_35 a j = I a j := fun a j x => (d1 a j (by omega) (Or.inl (by omega)) (Or.inl (by omega)) (Or.inl (by omega)) (Or.inl (by omega)) (Or.inl (by omega)) (Or.inl (by omega)) (Or.inl (by omega)) (Or.inl (by omega)) (Or.inl (by omega))).trans (a_up_ne (Or.inl (by omega)))
  have R00 : fR0 qN I L u_35 L := ⟨fun a j x _ => e0 a j (by omega), (d1 175 3 (by decide) (Or.inr (by decide)) (Or.inr (by decide)) (Or.inr (by decide)) (Or.inr (by decide)) (Or.inr (by decide)) (Or.inr (by decide)) (Or.inr (by decide)) (Or.inr (by decide)) (Or.inr (by decide))).trans (a_up_ne (Or.inr (by decide))), fun _ _ _ => rfl⟩
  have D0 : RD u_35 L 0 := ⟨RS.of (fun j => e0 193 j (by omega)) (fun _ => rfl), d2, d3⟩
  have D1 := D0.fr (FR.c0 (p := fun _ => False) (v := 0)) ⟨fun z => z, fun z => z, fun z => z⟩
  have R1 : fR0 qN I L (a_up u_35 175 4 0) L := fR0.fr R00 (FR.c0 (p := fun _ => False)) (by intro a x y; exact ⟨fun z => z, fun z => z⟩) (fun z => z)
  show AW l G M_Mo_dsaSign P 38 [(0, vr 175), (1, vi 0), (2, vi 0)] [] (sD h u_35 L)
  refine aw_aload_n d_Mo_dsaSign_38 rfl rfl ?_
  refine aw_aload_n d_Mo_dsaSign_39 rfl rfl ?_
  refine aw_iload_n d_Mo_dsaSign_40 rfl rfl ?_
  by_cases cx_ : (0 : Int) < 0 ∨ u_35 186 4 ≤ 255
  · skip
    refine ax_V (st := [vr 175]) (as := [vi 0]) (b := 175) (v := some (vi 1)) (h' := sD h u_35 L) d_Mo_dsaSign_41 cs_Mo_dsaSign_41 (k_175 S) (by have z := c_Mo_context (l := l) (G := G) (h := h) (L := L) (I := u_35) (x := 0) S; rw [if_pos cx_] at z; exact z) rfl rfl rfl ?_
    show AW l G M_Mo_dsaSign P 44 [(0, vr 175), (1, vi 0), (2, vi 0)] [vi 1, vr 175] (sD h u_35 L)
    refine aw_if_eq (tgt := 71) d_Mo_dsaSign_44 (by decide) (fun c_44 => False.elim (by omega)) (fun c_44 => ?_)
    refine aw_aload_n d_Mo_dsaSign_47 rfl rfl ?_
    refine ax_getR (b := 186) d_Mo_dsaSign_48 fd_Mo_18 (k_175 S) (r_175_2 S) ?_
    refine aw_iconst d_Mo_dsaSign_51 ⟨by decide, by decide⟩ ?_
    refine ax_ialde (x := I 186 0) d_Mo_dsaSign_52 (k_186 S) (by omega) (by rw [n_186 S]; omega) (Eq.trans (e0 186 0 (by omega)) (rfl)) ?_
    refine aw_bipush d_Mo_dsaSign_53 ⟨by decide, by decide⟩ (by decide) ?_
    refine aw_icmp_eq (tgt := 67) d_Mo_dsaSign_55 (by decide) (fun c_55 => ?_) (fun c_55 => ?_)
    · skip
      refine aw_iconst d_Mo_dsaSign_67 ⟨by decide, by decide⟩ ?_
      refine aw_goto (tgt := 72) d_Mo_dsaSign_68 (by decide) ?_
      refine aw_iconst d_Mo_dsaSign_72 ⟨by decide, by decide⟩ ?_
      refine ax_V (st := []) (as := [vi 1, vi 2]) (b := 175) (v := some (vi 1)) (h' := sD h (a_up u_35 175 4 0) L) d_Mo_dsaSign_73 cs_Mo_dsaSign_73 (k_175 S) (c_good1 S (rfl)) rfl rfl rfl ?_
      show AW l G M_Mo_dsaSign P 76 [(0, vr 175), (1, vi 0), (2, vi 0)] [vi 1] (sD h (a_up u_35 175 4 0) L)
      refine aw_if_eq (tgt := 105) d_Mo_dsaSign_76 (by decide) (fun c_76 => False.elim (by omega)) (fun c_76 => ?_)
      have bb : (0 : Int) ≠ 0 ∨ I 186 4 ≤ 255 := by rw [e0 186 4 (by omega)] at cx_; omega
      refine aw_aload_n d_Mo_dsaSign_79 rfl rfl ?_
      refine aw_aload_n d_Mo_dsaSign_80 rfl rfl ?_
      refine ax_getR (b := 186) d_Mo_dsaSign_81 fd_Mo_18 (k_175 S) (r_175_2 S) ?_
      refine aw_iconst d_Mo_dsaSign_84 ⟨by decide, by decide⟩ ?_
      refine ax_ialde (x := I 186 2) d_Mo_dsaSign_85 (k_186 S) (by omega) (by rw [n_186 S]; omega) (Eq.trans (a_up_ne (Or.inl (by decide))) (Eq.trans (e0 186 2 (by omega)) (rfl))) ?_
      refine aw_aload_n d_Mo_dsaSign_86 rfl rfl ?_
      refine ax_V (st := [vi (I 186 2), vr 175]) (as := []) (b := 175) (v := some (vi 2560)) (h' := sD h (a_up u_35 175 4 0) L) d_Mo_dsaSign_87 cs_Mo_dsaSign_87 (k_175 S) (c_Mo_secretLength (z := 2560) S (by rw [dr0_33 D1, dr0_32 D1, dr0_26 D1]; decide) (by rw [dr0_32 D1, dr0_26 D1]; decide)) rfl rfl rfl ?_
      show AW l G M_Mo_dsaSign P 90 [(0, vr 175), (1, vi 0), (2, vi 0)] [vi 2560, vi (I 186 2), vr 175] (sD h (a_up u_35 175 4 0) L)
      refine aw_icmp_ne (tgt := 97) d_Mo_dsaSign_90 (by decide) (fun c_90 => ?_) (fun c_90 => ?_)
      · skip
        refine aw_iconst d_Mo_dsaSign_97 ⟨by decide, by decide⟩ ?_
        refine aw_iconst d_Mo_dsaSign_98 ⟨by decide, by decide⟩ ?_
        refine ax_V (st := []) (as := [vi 0, vi 3]) (b := 175) (v := some (vi 0)) (h' := sD h (a_up u_35 175 4 3) L) d_Mo_dsaSign_99 cs_Mo_dsaSign_99 (k_175 S) (c_good0 S (by rw [a_up_up])) rfl rfl rfl ?_
        show AW l G M_Mo_dsaSign P 102 [(0, vr 175), (1, vi 0), (2, vi 0)] [vi 0] (sD h (a_up u_35 175 4 3) L)
        refine aw_if_ne (tgt := 107) d_Mo_dsaSign_102 (by decide) (fun c_102 => False.elim (by omega)) (fun c_102 => ?_)
        refine aw_iconst d_Mo_dsaSign_105 ⟨by decide, by decide⟩ ?_
        exact aw_iret d_Mo_dsaSign_106 rfl (hP _ _ (rsNo 0 3 (c4_3 ⟨by decide, by decide⟩ ⟨bb, by omega⟩ (fun z => by have z1 : I 186 2 = 2560 := z; omega)) (by decide) a_up_at (fR0.fr R00 (FR.c0 (p := fun _ => False)) (by intro a x y; exact ⟨fun z => z, fun z => z⟩) (fun z => z))))
      · skip
        refine aw_iconst d_Mo_dsaSign_93 ⟨by decide, by decide⟩ ?_
        refine aw_goto (tgt := 98) d_Mo_dsaSign_94 (by decide) ?_
        refine aw_iconst d_Mo_dsaSign_98 ⟨by decide, by decide⟩ ?_
        refine ax_V (st := []) (as := [vi 1, vi 3]) (b := 175) (v := some (vi 1)) (h' := sD h (a_up u_35 175 4 0) L) d_Mo_dsaSign_99 cs_Mo_dsaSign_99 (k_175 S) (c_good1 S (by rw [a_up_up])) rfl rfl rfl ?_
        show AW l G M_Mo_dsaSign P 102 [(0, vr 175), (1, vi 0), (2, vi 0)] [vi 1] (sD h (a_up u_35 175 4 0) L)
        refine aw_if_ne (tgt := 107) d_Mo_dsaSign_102 (by decide) (fun c_102 => ?_) (fun c_102 => False.elim (by omega))
        refine aw_aload_n d_Mo_dsaSign_107 rfl rfl ?_
        refine aw_aload_n d_Mo_dsaSign_108 rfl rfl ?_
        refine ax_getR (b := 177) d_Mo_dsaSign_109 fd_Mo_15 (k_175 S) (r_175_1 S) ?_
        refine aw_iconst d_Mo_dsaSign_112 ⟨by decide, by decide⟩ ?_
        refine ax_aald (b := 180) d_Mo_dsaSign_113 ⟨by rw [(k_177 S)]; decide, by rw [(k_177 S)]; decide⟩ (by omega) (by rw [n_177 S]; omega) (g_177 S (j := 2) (by decide) (by decide)) ?_
        refine aw_bipush d_Mo_dsaSign_114 ⟨by decide, by decide⟩ (by decide) ?_
        refine aw_iload_n d_Mo_dsaSign_116 rfl rfl ?_
        have kz : ∀ a j, (a < 175 ∨ 176 ≤ a ∧ a ≤ 202 ∨ 204 ≤ a) → (a_up u_35 175 4 0) a j = I a j := fun a j x => (a_up_ne (Or.inl (by omega))).trans (e0 a j x)
        have rb1 : RB (a_up u_35 175 4 0) := ⟨fun s a b => by rw [kz 186 s (by omega)]; exact rb.1 s a b, by rw [R1.2.1]; exact rb.2⟩
        have k4 := kz 186 4 (by omega)
        have k3 := kz 186 3 (by omega)
        have f180 : ∀ x : Int, (fun k => (a_up u_35 175 4 0) 180 (x + k)) = (fun k => I 180 (x + k)) := fun x => funext (fun k => kz 180 _ (by omega))
        have f0 : ∀ a : Nat, a = 181 ∨ a = 182 → (fun k => (a_up u_35 175 4 0) a (0 + k)) = (fun k => I a (0 + k)) := fun a ha => funext (fun k => kz a _ (by omega))
        refine ax_Vr (st := []) (as := [vr 180, vi 64, vi 0]) (b := 175) d_Mo_dsaSign_117 cs_Mo_dsaSign_117 (k_175 S) (c_Mo_digestMessage0 (f := 180) (pa := 64) S D1.1 rb1 ⟨k_180 S, by decide, by decide⟩ (by rw [n_180 S]; decide)) rfl rfl rfl (fun u_117 q_117 => ?_)
        obtain ⟨I1, L1⟩ := u_117
        obtain ⟨F1, h1⟩ := q_117
        dsimp only at F1 h1
        rw [k3, f180 64, f0 181 (Or.inl rfl), k4, f0 182 (Or.inr rfl)] at h1
        have h1 : HR I1 265 0 64 (muR I (fun k => I 180 (64 + k)) (0 : Int)) := h1
        have RS1 := D1.1.fr F1 (by decide)
        show AW l G M_Mo_dsaSign P 120 [(0, vr 175), (1, vi 0), (2, vi 0)] [] (sD h I1 L1)
        refine aw_aload_n d_Mo_dsaSign_120 rfl rfl ?_
        refine aw_bipush d_Mo_dsaSign_121 ⟨by decide, by decide⟩ (by decide) ?_
        refine ax_Vr (st := []) (as := [vi 12]) (b := 175) d_Mo_dsaSign_123 cs_Mo_dsaSign_123 (k_175 S) (c_Mo_begin12 S) rfl rfl rfl (fun u_123 q_123 => ?_)
        obtain ⟨I2, L2⟩ := u_123
        obtain ⟨F2, e2, k2⟩ := q_123
        dsimp only at F2 e2 k2
        show AW l G M_Mo_dsaSign P 126 [(0, vr 175), (1, vi 0), (2, vi 0)] [] (sD h I2 L2)
        refine aw_aload_n d_Mo_dsaSign_126 rfl rfl ?_
        refine aw_aload_n d_Mo_dsaSign_127 rfl rfl ?_
        refine ax_getR (b := 177) d_Mo_dsaSign_128 fd_Mo_15 (k_175 S) (r_175_1 S) ?_
        refine aw_iconst d_Mo_dsaSign_131 ⟨by decide, by decide⟩ ?_
        refine ax_aald (b := 180) d_Mo_dsaSign_132 ⟨by rw [(k_177 S)]; decide, by rw [(k_177 S)]; decide⟩ (by omega) (by rw [n_177 S]; omega) (g_177 S (j := 2) (by decide) (by decide)) ?_
        refine aw_bipush d_Mo_dsaSign_133 ⟨by decide, by decide⟩ (by decide) ?_
        refine aw_bipush d_Mo_dsaSign_135 ⟨by decide, by decide⟩ (by decide) ?_
        refine ax_Vr (st := []) (as := [vr 180, vi 32, vi 32]) (b := 175) d_Mo_dsaSign_137 cs_Mo_dsaSign_137 (k_175 S) (c_Mo_put3 S (RS1.rf F2) (by omega) (by rw [e2]; exact spStart_lt (by decide) (by decide)) ⟨k_180 S, by decide, by decide⟩ (by rw [n_180 S]; decide)) rfl rfl rfl (fun u_137 q_137 => ?_)
        obtain ⟨I3, L3⟩ := u_137
        obtain ⟨F3, e3, k3⟩ := q_137
        dsimp only at F3 e3 k3
        show AW l G M_Mo_dsaSign P 140 [(0, vr 175), (1, vi 0), (2, vi 0)] [] (sD h I3 L3)
        refine aw_iconst d_Mo_dsaSign_140 ⟨by decide, by decide⟩ ?_
        refine aw_istore_n (lv' := [(3, vi 0), (0, vr 175), (1, vi 0), (2, vi 0)]) d_Mo_dsaSign_141 rfl (by decide) rfl ?_
        have lp_142 : ∀ (n_ : Nat) (i : Int) (K4 : Nat → Int → Int) (M4 : Nat → Int → Int), (0 ≤ i ∧ i ≤ 32) → (RF I3 L3 K4 M4) → (spR K4 M4 = spPart (spR I3 L3) (rnR I) i.toNat) → (K4 175 18 = 12) → ((32 - i).toNat) = n_ → AW l G M_Mo_dsaSign P 142 [(3, vi i), (2, vi 0), (1, vi 0), (0, vr 175)] [] (sD h K4 M4) := by
          intro n_
          induction n_ using Nat.strongRecOn with
          | _ n_ ih_142 =>
          intro i K4 M4 hi F4 e4 k4_ hm_142
          refine aw_iload_n d_Mo_dsaSign_142 rfl rfl ?_
          refine aw_bipush d_Mo_dsaSign_143 ⟨by decide, by decide⟩ (by decide) ?_
          refine aw_icmp_ge (tgt := 179) d_Mo_dsaSign_145 (by decide) (fun c_145 => ?_) (fun c_145 => ?_)
          · skip
            refine aw_aload_n d_Mo_dsaSign_179 rfl rfl ?_
            refine aw_aload_n d_Mo_dsaSign_180 rfl rfl ?_
            refine ax_getR (b := 265) d_Mo_dsaSign_181 fd_Mo_93 (k_175 S) (r_175_41 S) ?_
            refine aw_iconst d_Mo_dsaSign_184 ⟨by decide, by decide⟩ ?_
            refine aw_bipush d_Mo_dsaSign_185 ⟨by decide, by decide⟩ (by decide) ?_
            refine ax_Vr (st := []) (as := [vr 265, vi 0, vi 64]) (b := 175) d_Mo_dsaSign_187 cs_Mo_dsaSign_187 (k_175 S) (c_Mo_put3 S ((RS1.rf F2).rf (F3.tr F4)) (by omega) (by rw [e4, e3, e2]; exact spPart_lt (spPart_lt (spStart_lt (by decide) (by decide)) _ _) _ _) ⟨k_265 S, by decide, by decide⟩ (by rw [n_265 S]; decide)) rfl rfl rfl (fun u_187 q_187 => ?_)
            obtain ⟨I6, L6⟩ := u_187
            obtain ⟨F6, e6, k6⟩ := q_187
            dsimp only at F6 e6 k6
            have G6 := (F2.tr (F3.tr F4)).tr F6
            have eS : spTurn (spR I6 L6) = rhS (fun k => I 180 (32 + k)) (rnR I) (muR I (fun k => I 180 (64 + k)) (0 : Int)) := by rw [e6, e4, e3, e2, show i.toNat = 32 by omega, show Int.toNat 32 = 32 from rfl, show Int.toNat 64 = 64 from rfl, show (fun k => I2 180 (32 + k)) = (fun k => I 180 (32 + k)) from funext (fun z => (F2.1 180 _ (Or.inl (by decide))).trans ((F1.1 180 _ (by decide) (Or.inl (by decide))).trans (kz 180 _ (by omega)))), spPart_congr (f := fun k => K4 265 (0 + k)) (g := (muR I (fun k => I 180 (64 + k)) (0 : Int))) (fun k hk => by rw [(F2.tr (F3.tr F4)).1 265 _ (Or.inl (by decide)), h1 k (by omega) (by omega)]; exact (spOut_m _ _).symm)]; rfl
            show AW l G M_Mo_dsaSign P 190 [(3, vi i), (2, vi 0), (1, vi 0), (0, vr 175)] [] (sD h I6 L6)
            refine aw_aload_n d_Mo_dsaSign_190 rfl rfl ?_
            refine aw_aload_n d_Mo_dsaSign_191 rfl rfl ?_
            refine ax_getR (b := 266) d_Mo_dsaSign_192 fd_Mo_96 (k_175 S) (r_175_42 S) ?_
            refine aw_iconst d_Mo_dsaSign_195 ⟨by decide, by decide⟩ ?_
            refine aw_bipush d_Mo_dsaSign_196 ⟨by decide, by decide⟩ (by decide) ?_
            refine ax_Vr (st := []) (as := [vr 266, vi 0, vi 64]) (b := 175) d_Mo_dsaSign_198 cs_Mo_dsaSign_198 (k_175 S) (c_Mo_give S (RS1.rf G6) (by omega) (by rw [e6, e4, e3, e2]; exact (spPart_lt (spPart_lt (spPart_lt (spStart_lt (by decide) (by decide)) _ _) _ _) _ _).1) ⟨k_266 S, by decide, by decide, by decide⟩ (by rw [n_266 S]; decide)) rfl rfl rfl (fun u_198 q_198 => ?_)
            obtain ⟨I7, L7⟩ := u_198
            obtain ⟨F7, f7, e7, k7⟩ := q_198
            dsimp only at F7 f7 e7 k7
            rw [eS] at F7
            have h7 : HR I7 266 0 64 (rhR I (0 : Int)) := HR.give F7 (by decide)
            have G7 : FR (fun a => a = 265 ∨ a = 266) (a_up u_35 175 4 0) L I7 L7 := (F1.tr (G6.fr (p := fun a => a = 265)) (fun a x => ⟨x, x⟩)).tr (FR.give (p := fun a => a = 266) F7 f7 rfl) (by intro a x; omega)
            have D7 := D1.fr G7 (by decide)
            have m7 : HR I7 265 0 64 (muR I (fun k => I 180 (64 + k)) (0 : Int)) := (h1.fr (G6.fr (p := fun _ => False)) (fun z => z) (by decide)).fr (FR.give (p := fun a => a = 266) F7 f7 rfl) (by decide) (by decide)
            show AW l G M_Mo_dsaSign P 201 [(3, vi i), (2, vi 0), (1, vi 0), (0, vr 175)] [] (sD h I7 L7)
            refine aw_aload_n d_Mo_dsaSign_201 rfl rfl ?_
            refine ax_getIe (x := 2) d_Mo_dsaSign_202 fd_Mo_229 (k_175 S) (dr0_33 D7) ?_
            refine aw_iconst d_Mo_dsaSign_205 ⟨by decide, by decide⟩ ?_
            refine aw_icmp_ne (tgt := 213) d_Mo_dsaSign_206 (by decide) (fun c_206 => False.elim (by omega)) (fun c_206 => ?_)
            refine aw_iconst d_Mo_dsaSign_209 ⟨by decide, by decide⟩ ?_
            refine aw_goto (tgt := 214) d_Mo_dsaSign_210 (by decide) ?_
            refine aw_istore_n (lv' := [(3, vi 3), (2, vi 0), (1, vi 0), (0, vr 175)]) d_Mo_dsaSign_214 rfl (by decide) rfl ?_
            refine aw_aload_n d_Mo_dsaSign_215 rfl rfl ?_
            refine aw_iconst d_Mo_dsaSign_216 ⟨by decide, by decide⟩ ?_
            refine ax_putI d_Mo_dsaSign_217 fd_Mo_216 (k_175 S) (by decide) rfl ?_
            refine aw_iconst d_Mo_dsaSign_220 ⟨by decide, by decide⟩ ?_
            refine aw_istore (lv' := [(4, vi 0), (3, vi 3), (2, vi 0), (1, vi 0), (0, vr 175)]) d_Mo_dsaSign_221 (by decide) rfl ?_
            have lp_223 : ∀ (n_ : Nat) (i : Int) (K5 : Nat → Int → Int), (0 ≤ i ∧ i ≤ 8) → (FR (fun a => 205 ≤ a ∧ a ≤ 219) I7 L7 K5 L7) → (K5 175 23 = 8 * (96 * i)) → (∀ m, 0 ≤ m → m < i → eqQ (K5 (205 + m.toNat)) (sgSs 0 (rkR I) m)) → ((8 - i).toNat) = n_ → AW l G M_Mo_dsaSign P 223 [(4, vi i), (3, vi 3), (2, vi 0), (1, vi 0), (0, vr 175)] [] (sD h K5 L7) := by
              intro n_
              induction n_ using Nat.strongRecOn with
              | _ n_ ih_223 =>
              intro i K5 hi5 G5 b5 s5 hm_223
              have sk5 : ∀ x, K5 180 x = I 180 x := fun x => (G5.1 _ _ (by decide) (Or.inl (by decide))).trans ((G7.1 _ _ (by decide) (Or.inl (by decide))).trans (kz 180 x (by omega)))
              refine aw_iload d_Mo_dsaSign_223 rfl ?_
              refine aw_aload_n d_Mo_dsaSign_225 rfl rfl ?_
              refine ax_getIe (x := 4) d_Mo_dsaSign_226 fd_Mo_226 (k_175 S) (Eq.trans (G5.1 175 32 (by omega) (Or.inr (by decide))) (dr0_32 D7)) ?_
              refine aw_aload_n d_Mo_dsaSign_229 rfl rfl ?_
              refine ax_getIe (x := 4) d_Mo_dsaSign_230 fd_Mo_223 (k_175 S) (Eq.trans (G5.1 175 26 (by omega) (Or.inr (by decide))) (dr0_26 D7)) ?_
              refine ax_iadd d_Mo_dsaSign_233 ⟨(by omega), (by omega)⟩ ?_
              refine ax_ti (x := 8) (by decide) ?_
              refine aw_icmp_ge (tgt := 268) d_Mo_dsaSign_234 (by decide) (fun c_234 => ?_) (fun c_234 => ?_)
              · skip
                refine aw_iconst d_Mo_dsaSign_268 ⟨by decide, by decide⟩ ?_
                refine aw_istore (lv' := [(4, vi 0), (3, vi 3), (2, vi 0), (1, vi 0), (0, vr 175)]) d_Mo_dsaSign_269 (by decide) rfl ?_
                have lp_271 : ∀ (n_ : Nat) (i : Int) (K6 : Nat → Int → Int), (0 ≤ i ∧ i ≤ 4) → (FR (fun a => 205 ≤ a ∧ a ≤ 227) I7 L7 K6 L7) → (K6 175 23 = 8 * (768 + 416 * i)) → (∀ m, 0 ≤ m → m < 8 → eqQ (K6 (205 + m.toNat)) (sgSs 0 (rkR I) m)) → (∀ m, 0 ≤ m → m < i → eqQ (K6 (205 + (15 + m).toNat)) (sgDs 0 (rkR I) m)) → ((4 - i).toNat) = n_ → AW l G M_Mo_dsaSign P 271 [(4, vi i), (2, vi 0), (1, vi 0), (0, vr 175)] [] (sD h K6 L7) := by
                  intro n_
                  induction n_ using Nat.strongRecOn with
                  | _ n_ ih_271 =>
                  intro i K6 hi6 Gy b6 s6 t6 hm_271
                  have sk6 : ∀ x, K6 180 x = I 180 x := fun x => (Gy.1 _ _ (by decide) (Or.inl (by decide))).trans ((G7.1 _ _ (by decide) (Or.inl (by decide))).trans (kz 180 x (by omega)))
                  refine aw_iload d_Mo_dsaSign_271 rfl ?_
                  refine aw_aload_n d_Mo_dsaSign_273 rfl rfl ?_
                  refine ax_getIe (x := 4) d_Mo_dsaSign_274 fd_Mo_223 (k_175 S) (Eq.trans (Gy.1 175 26 (by omega) (Or.inr (by decide))) (dr0_26 D7)) ?_
                  refine aw_icmp_ge (tgt := 314) d_Mo_dsaSign_277 (by decide) (fun c_277 => ?_) (fun c_277 => ?_)
                  · skip
                    refine aw_sub (lv' := [(0, vr 175)]) (by simp) ?_
                    exact sB00 S (fR0.fr (fR0.fr R1 G7 (r := qN) (by intro a x y; exact ⟨fun z => z, by omega⟩) (by decide)) Gy (by intro a x y; exact ⟨fun z => z, by omega⟩) (by decide)) (D7.fr Gy (by decide)) (m7.fr Gy (by decide) (by decide)) (h7.fr Gy (by decide) (by decide)) s6 (fun m a b => t6 m a (by omega)) ⟨bb, by omega⟩ (by show I 186 2 = 2560; omega) hP
                  · skip
                    refine aw_aload_n d_Mo_dsaSign_280 rfl rfl ?_
                    refine aw_aload_n d_Mo_dsaSign_281 rfl rfl ?_
                    refine ax_getR (b := 177) d_Mo_dsaSign_282 fd_Mo_15 (k_175 S) (r_175_1 S) ?_
                    refine aw_iconst d_Mo_dsaSign_285 ⟨by decide, by decide⟩ ?_
                    refine ax_aald (b := 180) d_Mo_dsaSign_286 ⟨by rw [(k_177 S)]; decide, by rw [(k_177 S)]; decide⟩ (by omega) (by rw [n_177 S]; omega) (g_177 S (j := 2) (by decide) (by decide)) ?_
                    refine aw_sipush d_Mo_dsaSign_287 ⟨by decide, by decide⟩ (by decide) ?_
                    refine aw_aload_n d_Mo_dsaSign_290 rfl rfl ?_
                    refine ax_getR (b := 204) d_Mo_dsaSign_291 fd_Mo_76 (k_175 S) (r_175_28 S) ?_
                    refine aw_bipush d_Mo_dsaSign_294 ⟨by decide, by decide⟩ (by decide) ?_
                    refine aw_iload d_Mo_dsaSign_296 rfl ?_
                    refine ax_iadd d_Mo_dsaSign_298 ⟨(by omega), (by omega)⟩ ?_
                    refine ax_aald (b := 205 + (15 + i).toNat) d_Mo_dsaSign_299 ⟨by rw [(k_204 S)]; decide, by rw [(k_204 S)]; decide⟩ (by omega) (by rw [n_204 S]; omega) (g_204 S (by omega) (by omega)) ?_
                    refine aw_sipush d_Mo_dsaSign_300 ⟨by decide, by decide⟩ (by decide) ?_
                    refine aw_bipush d_Mo_dsaSign_303 ⟨by decide, by decide⟩ (by decide) ?_
                    refine ax_Vr (st := []) (as := [vr 180, vi 128, vr (205 + (15 + i).toNat), vi 4096, vi 13]) (b := 175) d_Mo_dsaSign_305 cs_Mo_dsaSign_305 (k_175 S) (c_Mo_unpack (pa := 128) (c := 768 + 416 * i) (d := 13) (b := 4096) S ⟨k_180 S, by decide, by decide⟩ ⟨kr_204 S (by omega), by omega, nr_204 S (by omega)⟩ (by omega) (by decide) (by omega) (by decide) (by rw [n_180 S]; omega)) rfl rfl rfl (fun u_305 q_305 => ?_)
                    obtain ⟨q1, q2, q3⟩ := q_305
                    have Fy : FR (fun a => 220 ≤ a ∧ a ≤ 227) K6 L7 u_305 L7 := FR.unp q1 (by omega)
                    show AW l G M_Mo_dsaSign P 308 [(4, vi i), (2, vi 0), (1, vi 0), (0, vr 175)] [] (sD h u_305 L7)
                    refine ax_iinc (lv' := [(4, vi (i + 1)), (2, vi 0), (1, vi 0), (0, vr 175)]) d_Mo_dsaSign_308 rfl (by decide) ⟨(by omega), (by omega)⟩ rfl ?_
                    refine aw_goto (tgt := 271) d_Mo_dsaSign_311 (by decide) ?_
                    exact ih_271 _ (by omega) (i + 1) u_305 (by omega) (Gy.tr (Fy.mono (r := fun a => 205 ≤ a ∧ a ≤ 227) (by intro a x; omega)) (fun a x => ⟨x, x⟩)) (by omega) (fun m a b x u v => by rw [q1 _ _ (by omega) (Or.inl (by omega))]; exact s6 m a b x u v) (fun m a b x u v => by by_cases z : m = i; exact (by rw [z, q3 x u v, show (fun j => K6 180 (128 + (768 + 416 * i) + j) % 256) = (fun j => I 180 (896 + 416 * i + j) % 256) from funext (fun y => by rw [sk6, show (128 + (768 + 416 * i) : Int) = 896 + 416 * i by omega])]; show _ = 4096 - gR (fun k => rkR I (896 + 416 * i + k)) 13 x; rw [gR_congr (g := fun j => I 180 (896 + 416 * i + j) % 256) (g' := fun k => rkR I (896 + 416 * i + k)) (fun y y0 y1 => (gW_in (s := 2) (by omega) (by rw [show I 186 2 = 2560 by omega]; omega)).symm)]); exact (by rw [q1 _ _ (by omega) (Or.inl (by omega))]; exact t6 m a (by omega) x u v)) rfl
                skip
                refine aw_sub (lv' := [(4, vi 0), (2, vi 0), (1, vi 0), (0, vr 175)]) (by simp) ?_
                exact lp_271 _ 0 K5 (by omega) (G5.mono (by intro a x; omega)) (by omega) (fun m a b => s5 m a (by omega)) (fun m a b => by omega) rfl
              · skip
                refine aw_aload_n d_Mo_dsaSign_237 rfl rfl ?_
                refine aw_aload_n d_Mo_dsaSign_238 rfl rfl ?_
                refine ax_getR (b := 177) d_Mo_dsaSign_239 fd_Mo_15 (k_175 S) (r_175_1 S) ?_
                refine aw_iconst d_Mo_dsaSign_242 ⟨by decide, by decide⟩ ?_
                refine ax_aald (b := 180) d_Mo_dsaSign_243 ⟨by rw [(k_177 S)]; decide, by rw [(k_177 S)]; decide⟩ (by omega) (by rw [n_177 S]; omega) (g_177 S (j := 2) (by decide) (by decide)) ?_
                refine aw_sipush d_Mo_dsaSign_244 ⟨by decide, by decide⟩ (by decide) ?_
                refine aw_aload_n d_Mo_dsaSign_247 rfl rfl ?_
                refine ax_getR (b := 204) d_Mo_dsaSign_248 fd_Mo_76 (k_175 S) (r_175_28 S) ?_
                refine aw_iload d_Mo_dsaSign_251 rfl ?_
                refine ax_aald (b := 205 + i.toNat) d_Mo_dsaSign_253 ⟨by rw [(k_204 S)]; decide, by rw [(k_204 S)]; decide⟩ (by omega) (by rw [n_204 S]; omega) (g_204 S (by omega) (by omega)) ?_
                refine aw_aload_n d_Mo_dsaSign_254 rfl rfl ?_
                refine ax_getIe (x := 2) d_Mo_dsaSign_255 fd_Mo_229 (k_175 S) (Eq.trans (G5.1 175 33 (by omega) (Or.inr (by decide))) (dr0_33 D7)) ?_
                refine aw_iload_n d_Mo_dsaSign_258 rfl rfl ?_
                refine ax_Vr (st := []) (as := [vr 180, vi 128, vr (205 + i.toNat), vi 2, vi 3]) (b := 175) d_Mo_dsaSign_259 cs_Mo_dsaSign_259 (k_175 S) (c_Mo_unpack (pa := 128) (c := 96 * i) (d := 3) (b := 2) S ⟨k_180 S, by decide, by decide⟩ ⟨kr_204 S (by omega), by omega, nr_204 S (by omega)⟩ (by omega) (by decide) (by omega) (by decide) (by rw [n_180 S]; omega)) rfl rfl rfl (fun u_259 q_259 => ?_)
                obtain ⟨q1, q2, q3⟩ := q_259
                have Fx : FR (fun a => 205 ≤ a ∧ a ≤ 219) K5 L7 u_259 L7 := FR.unp q1 (by omega)
                show AW l G M_Mo_dsaSign P 262 [(4, vi i), (3, vi 3), (2, vi 0), (1, vi 0), (0, vr 175)] [] (sD h u_259 L7)
                refine ax_iinc (lv' := [(4, vi (i + 1)), (3, vi 3), (2, vi 0), (1, vi 0), (0, vr 175)]) d_Mo_dsaSign_262 rfl (by decide) ⟨(by omega), (by omega)⟩ rfl ?_
                refine aw_goto (tgt := 223) d_Mo_dsaSign_265 (by decide) ?_
                exact ih_223 _ (by omega) (i + 1) u_259 (by omega) (G5.tr Fx (fun a x => ⟨x, x⟩)) (by omega) (fun m a b x u v => by by_cases z : m = i; exact (by rw [z, q3 x u v, show (fun j => K5 180 (128 + 96 * i + j) % 256) = (fun j => I 180 (128 + 96 * i + j) % 256) from funext (fun y => by rw [sk5])]; show _ = 2 - gR (fun k => rkR I (128 + 96 * i + k)) 3 x; rw [gR_congr (g := fun j => I 180 (128 + 96 * i + j) % 256) (g' := fun k => rkR I (128 + 96 * i + k)) (fun y y0 y1 => (gW_in (s := 2) (by omega) (by rw [show I 186 2 = 2560 by omega]; omega)).symm)]); exact (by rw [q1 _ _ (by omega) (Or.inl (by omega))]; exact s5 m a (by omega) x u v)) rfl
            skip
            exact lp_223 _ 0 (a_up I7 175 23 0) (by omega) (FR.b0) (a_up_at.trans (by decide)) (fun m a b => by omega) rfl
          · skip
            refine aw_aload_n d_Mo_dsaSign_148 rfl rfl ?_
            refine aw_aload_n d_Mo_dsaSign_149 rfl rfl ?_
            refine ax_getR (b := 186) d_Mo_dsaSign_150 fd_Mo_18 (k_175 S) (r_175_2 S) ?_
            refine aw_iconst d_Mo_dsaSign_153 ⟨by decide, by decide⟩ ?_
            refine ax_ialde (x := I 186 0) d_Mo_dsaSign_154 (k_186 S) (by omega) (by rw [n_186 S]; omega) (Eq.trans ((F2.tr (F3.tr F4)).1 186 0 (Or.inl (by decide))) (Eq.trans (F1.1 186 0 (by decide) (Or.inl (by decide))) (Eq.trans (kz 186 0 (by omega)) (rfl)))) ?_
            refine aw_if_ne (tgt := 162) d_Mo_dsaSign_155 (by decide) (fun c_155 => ?_) (fun c_155 => ?_)
            · skip
              refine aw_aload_n d_Mo_dsaSign_162 rfl rfl ?_
              refine ax_getR (b := 177) d_Mo_dsaSign_163 fd_Mo_15 (k_175 S) (r_175_1 S) ?_
              refine aw_iconst d_Mo_dsaSign_166 ⟨by decide, by decide⟩ ?_
              refine ax_aald (b := 178) d_Mo_dsaSign_167 ⟨by rw [(k_177 S)]; decide, by rw [(k_177 S)]; decide⟩ (by omega) (by rw [n_177 S]; omega) (g_177 S (j := 0) (by decide) (by decide)) ?_
              refine aw_iload_n d_Mo_dsaSign_168 rfl rfl ?_
              refine ax_balde (x := I 178 i) d_Mo_dsaSign_169 (k_178 S) (by omega) (by rw [n_178 S]; omega) (Eq.trans ((F2.tr (F3.tr F4)).1 178 i (Or.inl (by decide))) (Eq.trans (F1.1 178 i (by decide) (Or.inl (by decide))) (Eq.trans (kz 178 i (by omega)) (rfl)))) ?_
              have vv : rnR I i = I 178 i := by unfold rnR; rw [if_neg (by omega)]
              refine ax_Vr (st := []) (as := [vi (I 178 i)]) (b := 175) d_Mo_dsaSign_170 cs_Mo_dsaSign_170 (k_175 S) (c_Mo_put1 S ((RS1.rf F2).rf (F3.tr F4)) (by omega) (by rw [e4, e3, e2]; exact spPart_lt (spPart_lt (spStart_lt (by decide) (by decide)) _ _) _ _)) rfl rfl rfl (fun u_170 q_170 => ?_)
              obtain ⟨I5, L5⟩ := u_170
              obtain ⟨F5, e5, k5⟩ := q_170
              dsimp only at F5 e5 k5
              show AW l G M_Mo_dsaSign P 173 [(3, vi i), (2, vi 0), (1, vi 0), (0, vr 175)] [] (sD h I5 L5)
              refine ax_iinc (lv' := [(3, vi (i + 1)), (2, vi 0), (1, vi 0), (0, vr 175)]) d_Mo_dsaSign_173 rfl (by decide) ⟨(by omega), (by omega)⟩ rfl ?_
              refine aw_goto (tgt := 142) d_Mo_dsaSign_176 (by decide) ?_
              exact ih_142 _ (by omega) (i + 1) I5 L5 (by omega) (F4.tr F5) (by rw [e5, e4, show (i + 1).toNat = i.toNat + 1 by omega]; show _ = spTake (spPart (spR I3 L3) (rnR I) i.toNat) (rnR I (i.toNat : Int)); rw [Int.toNat_of_nonneg hi.1, vv]) (by omega) rfl
            · skip
              refine aw_iconst d_Mo_dsaSign_158 ⟨by decide, by decide⟩ ?_
              refine aw_goto (tgt := 170) d_Mo_dsaSign_159 (by decide) ?_
              have vv : rnR I i = 0 := by unfold rnR; rw [if_pos (by omega)]
              refine ax_Vr (st := []) (as := [vi 0]) (b := 175) d_Mo_dsaSign_170 cs_Mo_dsaSign_170 (k_175 S) (c_Mo_put1 S ((RS1.rf F2).rf (F3.tr F4)) (by omega) (by rw [e4, e3, e2]; exact spPart_lt (spPart_lt (spStart_lt (by decide) (by decide)) _ _) _ _)) rfl rfl rfl (fun u_170 q_170 => ?_)
              obtain ⟨I5, L5⟩ := u_170
              obtain ⟨F5, e5, k5⟩ := q_170
              dsimp only at F5 e5 k5
              show AW l G M_Mo_dsaSign P 173 [(3, vi i), (2, vi 0), (1, vi 0), (0, vr 175)] [] (sD h I5 L5)
              refine ax_iinc (lv' := [(3, vi (i + 1)), (2, vi 0), (1, vi 0), (0, vr 175)]) d_Mo_dsaSign_173 rfl (by decide) ⟨(by omega), (by omega)⟩ rfl ?_
              refine aw_goto (tgt := 142) d_Mo_dsaSign_176 (by decide) ?_
              exact ih_142 _ (by omega) (i + 1) I5 L5 (by omega) (F4.tr F5) (by rw [e5, e4, show (i + 1).toNat = i.toNat + 1 by omega]; show _ = spTake (spPart (spR I3 L3) (rnR I) i.toNat) (rnR I (i.toNat : Int)); rw [Int.toNat_of_nonneg hi.1, vv]) (by omega) rfl
        skip
        refine aw_sub (lv' := [(3, vi 0), (2, vi 0), (1, vi 0), (0, vr 175)]) (by simp) ?_
        exact lp_142 _ 0 I3 L3 (by omega) (RF.rfl') (rfl) (by omega) rfl
    · skip
      refine aw_aload_n d_Mo_dsaSign_58 rfl rfl ?_
      refine ax_getR (b := 186) d_Mo_dsaSign_59 fd_Mo_18 (k_175 S) (r_175_2 S) ?_
      refine aw_iconst d_Mo_dsaSign_62 ⟨by decide, by decide⟩ ?_
      refine ax_ialde (x := I 186 0) d_Mo_dsaSign_63 (k_186 S) (by omega) (by rw [n_186 S]; omega) (Eq.trans (e0 186 0 (by omega)) (rfl)) ?_
      refine aw_if_ne (tgt := 71) d_Mo_dsaSign_64 (by decide) (fun c_64 => ?_) (fun c_64 => ?_)
      · skip
        refine aw_iconst d_Mo_dsaSign_71 ⟨by decide, by decide⟩ ?_
        refine aw_iconst d_Mo_dsaSign_72 ⟨by decide, by decide⟩ ?_
        refine ax_V (st := []) (as := [vi 0, vi 2]) (b := 175) (v := some (vi 0)) (h' := sD h (a_up u_35 175 4 2) L) d_Mo_dsaSign_73 cs_Mo_dsaSign_73 (k_175 S) (c_good0 S (rfl)) rfl rfl rfl ?_
        show AW l G M_Mo_dsaSign P 76 [(0, vr 175), (1, vi 0), (2, vi 0)] [vi 0] (sD h (a_up u_35 175 4 2) L)
        refine aw_if_eq (tgt := 105) d_Mo_dsaSign_76 (by decide) (fun c_76 => ?_) (fun c_76 => False.elim (by omega))
        refine aw_iconst d_Mo_dsaSign_105 ⟨by decide, by decide⟩ ?_
        exact aw_iret d_Mo_dsaSign_106 rfl (hP _ _ (rsNo 0 2 (c4_2 ⟨by decide, by decide⟩ (fun z => by rw [e0 186 4 (by omega)] at cx_; have z1 := z.1; have z2 := z.2; omega)) (by decide) a_up_at (fR0.fr R00 (FR.c0 (p := fun _ => False)) (by intro a x y; exact ⟨fun z => z, fun z => z⟩) (fun z => z))))
      · skip
        refine aw_iconst d_Mo_dsaSign_67 ⟨by decide, by decide⟩ ?_
        refine aw_goto (tgt := 72) d_Mo_dsaSign_68 (by decide) ?_
        refine aw_iconst d_Mo_dsaSign_72 ⟨by decide, by decide⟩ ?_
        refine ax_V (st := []) (as := [vi 1, vi 2]) (b := 175) (v := some (vi 1)) (h' := sD h (a_up u_35 175 4 0) L) d_Mo_dsaSign_73 cs_Mo_dsaSign_73 (k_175 S) (c_good1 S (rfl)) rfl rfl rfl ?_
        show AW l G M_Mo_dsaSign P 76 [(0, vr 175), (1, vi 0), (2, vi 0)] [vi 1] (sD h (a_up u_35 175 4 0) L)
        refine aw_if_eq (tgt := 105) d_Mo_dsaSign_76 (by decide) (fun c_76 => False.elim (by omega)) (fun c_76 => ?_)
        have bb : (0 : Int) ≠ 0 ∨ I 186 4 ≤ 255 := by rw [e0 186 4 (by omega)] at cx_; omega
        refine aw_aload_n d_Mo_dsaSign_79 rfl rfl ?_
        refine aw_aload_n d_Mo_dsaSign_80 rfl rfl ?_
        refine ax_getR (b := 186) d_Mo_dsaSign_81 fd_Mo_18 (k_175 S) (r_175_2 S) ?_
        refine aw_iconst d_Mo_dsaSign_84 ⟨by decide, by decide⟩ ?_
        refine ax_ialde (x := I 186 2) d_Mo_dsaSign_85 (k_186 S) (by omega) (by rw [n_186 S]; omega) (Eq.trans (a_up_ne (Or.inl (by decide))) (Eq.trans (e0 186 2 (by omega)) (rfl))) ?_
        refine aw_aload_n d_Mo_dsaSign_86 rfl rfl ?_
        refine ax_V (st := [vi (I 186 2), vr 175]) (as := []) (b := 175) (v := some (vi 2560)) (h' := sD h (a_up u_35 175 4 0) L) d_Mo_dsaSign_87 cs_Mo_dsaSign_87 (k_175 S) (c_Mo_secretLength (z := 2560) S (by rw [dr0_33 D1, dr0_32 D1, dr0_26 D1]; decide) (by rw [dr0_32 D1, dr0_26 D1]; decide)) rfl rfl rfl ?_
        show AW l G M_Mo_dsaSign P 90 [(0, vr 175), (1, vi 0), (2, vi 0)] [vi 2560, vi (I 186 2), vr 175] (sD h (a_up u_35 175 4 0) L)
        refine aw_icmp_ne (tgt := 97) d_Mo_dsaSign_90 (by decide) (fun c_90 => ?_) (fun c_90 => ?_)
        · skip
          refine aw_iconst d_Mo_dsaSign_97 ⟨by decide, by decide⟩ ?_
          refine aw_iconst d_Mo_dsaSign_98 ⟨by decide, by decide⟩ ?_
          refine ax_V (st := []) (as := [vi 0, vi 3]) (b := 175) (v := some (vi 0)) (h' := sD h (a_up u_35 175 4 3) L) d_Mo_dsaSign_99 cs_Mo_dsaSign_99 (k_175 S) (c_good0 S (by rw [a_up_up])) rfl rfl rfl ?_
          show AW l G M_Mo_dsaSign P 102 [(0, vr 175), (1, vi 0), (2, vi 0)] [vi 0] (sD h (a_up u_35 175 4 3) L)
          refine aw_if_ne (tgt := 107) d_Mo_dsaSign_102 (by decide) (fun c_102 => False.elim (by omega)) (fun c_102 => ?_)
          refine aw_iconst d_Mo_dsaSign_105 ⟨by decide, by decide⟩ ?_
          exact aw_iret d_Mo_dsaSign_106 rfl (hP _ _ (rsNo 0 3 (c4_3 ⟨by decide, by decide⟩ ⟨bb, by omega⟩ (fun z => by have z1 : I 186 2 = 2560 := z; omega)) (by decide) a_up_at (fR0.fr R00 (FR.c0 (p := fun _ => False)) (by intro a x y; exact ⟨fun z => z, fun z => z⟩) (fun z => z))))
        · skip
          refine aw_iconst d_Mo_dsaSign_93 ⟨by decide, by decide⟩ ?_
          refine aw_goto (tgt := 98) d_Mo_dsaSign_94 (by decide) ?_
          refine aw_iconst d_Mo_dsaSign_98 ⟨by decide, by decide⟩ ?_
          refine ax_V (st := []) (as := [vi 1, vi 3]) (b := 175) (v := some (vi 1)) (h' := sD h (a_up u_35 175 4 0) L) d_Mo_dsaSign_99 cs_Mo_dsaSign_99 (k_175 S) (c_good1 S (by rw [a_up_up])) rfl rfl rfl ?_
          show AW l G M_Mo_dsaSign P 102 [(0, vr 175), (1, vi 0), (2, vi 0)] [vi 1] (sD h (a_up u_35 175 4 0) L)
          refine aw_if_ne (tgt := 107) d_Mo_dsaSign_102 (by decide) (fun c_102 => ?_) (fun c_102 => False.elim (by omega))
          refine aw_aload_n d_Mo_dsaSign_107 rfl rfl ?_
          refine aw_aload_n d_Mo_dsaSign_108 rfl rfl ?_
          refine ax_getR (b := 177) d_Mo_dsaSign_109 fd_Mo_15 (k_175 S) (r_175_1 S) ?_
          refine aw_iconst d_Mo_dsaSign_112 ⟨by decide, by decide⟩ ?_
          refine ax_aald (b := 180) d_Mo_dsaSign_113 ⟨by rw [(k_177 S)]; decide, by rw [(k_177 S)]; decide⟩ (by omega) (by rw [n_177 S]; omega) (g_177 S (j := 2) (by decide) (by decide)) ?_
          refine aw_bipush d_Mo_dsaSign_114 ⟨by decide, by decide⟩ (by decide) ?_
          refine aw_iload_n d_Mo_dsaSign_116 rfl rfl ?_
          have kz : ∀ a j, (a < 175 ∨ 176 ≤ a ∧ a ≤ 202 ∨ 204 ≤ a) → (a_up u_35 175 4 0) a j = I a j := fun a j x => (a_up_ne (Or.inl (by omega))).trans (e0 a j x)
          have rb1 : RB (a_up u_35 175 4 0) := ⟨fun s a b => by rw [kz 186 s (by omega)]; exact rb.1 s a b, by rw [R1.2.1]; exact rb.2⟩
          have k4 := kz 186 4 (by omega)
          have k3 := kz 186 3 (by omega)
          have f180 : ∀ x : Int, (fun k => (a_up u_35 175 4 0) 180 (x + k)) = (fun k => I 180 (x + k)) := fun x => funext (fun k => kz 180 _ (by omega))
          have f0 : ∀ a : Nat, a = 181 ∨ a = 182 → (fun k => (a_up u_35 175 4 0) a (0 + k)) = (fun k => I a (0 + k)) := fun a ha => funext (fun k => kz a _ (by omega))
          refine ax_Vr (st := []) (as := [vr 180, vi 64, vi 0]) (b := 175) d_Mo_dsaSign_117 cs_Mo_dsaSign_117 (k_175 S) (c_Mo_digestMessage0 (f := 180) (pa := 64) S D1.1 rb1 ⟨k_180 S, by decide, by decide⟩ (by rw [n_180 S]; decide)) rfl rfl rfl (fun u_117 q_117 => ?_)
          obtain ⟨I1, L1⟩ := u_117
          obtain ⟨F1, h1⟩ := q_117
          dsimp only at F1 h1
          rw [k3, f180 64, f0 181 (Or.inl rfl), k4, f0 182 (Or.inr rfl)] at h1
          have h1 : HR I1 265 0 64 (muR I (fun k => I 180 (64 + k)) (0 : Int)) := h1
          have RS1 := D1.1.fr F1 (by decide)
          show AW l G M_Mo_dsaSign P 120 [(0, vr 175), (1, vi 0), (2, vi 0)] [] (sD h I1 L1)
          refine aw_aload_n d_Mo_dsaSign_120 rfl rfl ?_
          refine aw_bipush d_Mo_dsaSign_121 ⟨by decide, by decide⟩ (by decide) ?_
          refine ax_Vr (st := []) (as := [vi 12]) (b := 175) d_Mo_dsaSign_123 cs_Mo_dsaSign_123 (k_175 S) (c_Mo_begin12 S) rfl rfl rfl (fun u_123 q_123 => ?_)
          obtain ⟨I2, L2⟩ := u_123
          obtain ⟨F2, e2, k2⟩ := q_123
          dsimp only at F2 e2 k2
          show AW l G M_Mo_dsaSign P 126 [(0, vr 175), (1, vi 0), (2, vi 0)] [] (sD h I2 L2)
          refine aw_aload_n d_Mo_dsaSign_126 rfl rfl ?_
          refine aw_aload_n d_Mo_dsaSign_127 rfl rfl ?_
          refine ax_getR (b := 177) d_Mo_dsaSign_128 fd_Mo_15 (k_175 S) (r_175_1 S) ?_
          refine aw_iconst d_Mo_dsaSign_131 ⟨by decide, by decide⟩ ?_
          refine ax_aald (b := 180) d_Mo_dsaSign_132 ⟨by rw [(k_177 S)]; decide, by rw [(k_177 S)]; decide⟩ (by omega) (by rw [n_177 S]; omega) (g_177 S (j := 2) (by decide) (by decide)) ?_
          refine aw_bipush d_Mo_dsaSign_133 ⟨by decide, by decide⟩ (by decide) ?_
          refine aw_bipush d_Mo_dsaSign_135 ⟨by decide, by decide⟩ (by decide) ?_
          refine ax_Vr (st := []) (as := [vr 180, vi 32, vi 32]) (b := 175) d_Mo_dsaSign_137 cs_Mo_dsaSign_137 (k_175 S) (c_Mo_put3 S (RS1.rf F2) (by omega) (by rw [e2]; exact spStart_lt (by decide) (by decide)) ⟨k_180 S, by decide, by decide⟩ (by rw [n_180 S]; decide)) rfl rfl rfl (fun u_137 q_137 => ?_)
          obtain ⟨I3, L3⟩ := u_137
          obtain ⟨F3, e3, k3⟩ := q_137
          dsimp only at F3 e3 k3
          show AW l G M_Mo_dsaSign P 140 [(0, vr 175), (1, vi 0), (2, vi 0)] [] (sD h I3 L3)
          refine aw_iconst d_Mo_dsaSign_140 ⟨by decide, by decide⟩ ?_
          refine aw_istore_n (lv' := [(3, vi 0), (0, vr 175), (1, vi 0), (2, vi 0)]) d_Mo_dsaSign_141 rfl (by decide) rfl ?_
          have lp_142 : ∀ (n_ : Nat) (i : Int) (K4 : Nat → Int → Int) (M4 : Nat → Int → Int), (0 ≤ i ∧ i ≤ 32) → (RF I3 L3 K4 M4) → (spR K4 M4 = spPart (spR I3 L3) (rnR I) i.toNat) → (K4 175 18 = 12) → ((32 - i).toNat) = n_ → AW l G M_Mo_dsaSign P 142 [(3, vi i), (2, vi 0), (1, vi 0), (0, vr 175)] [] (sD h K4 M4) := by
            intro n_
            induction n_ using Nat.strongRecOn with
            | _ n_ ih_142 =>
            intro i K4 M4 hi F4 e4 k4_ hm_142
            refine aw_iload_n d_Mo_dsaSign_142 rfl rfl ?_
            refine aw_bipush d_Mo_dsaSign_143 ⟨by decide, by decide⟩ (by decide) ?_
            refine aw_icmp_ge (tgt := 179) d_Mo_dsaSign_145 (by decide) (fun c_145 => ?_) (fun c_145 => ?_)
            · skip
              refine aw_aload_n d_Mo_dsaSign_179 rfl rfl ?_
              refine aw_aload_n d_Mo_dsaSign_180 rfl rfl ?_
              refine ax_getR (b := 265) d_Mo_dsaSign_181 fd_Mo_93 (k_175 S) (r_175_41 S) ?_
              refine aw_iconst d_Mo_dsaSign_184 ⟨by decide, by decide⟩ ?_
              refine aw_bipush d_Mo_dsaSign_185 ⟨by decide, by decide⟩ (by decide) ?_
              refine ax_Vr (st := []) (as := [vr 265, vi 0, vi 64]) (b := 175) d_Mo_dsaSign_187 cs_Mo_dsaSign_187 (k_175 S) (c_Mo_put3 S ((RS1.rf F2).rf (F3.tr F4)) (by omega) (by rw [e4, e3, e2]; exact spPart_lt (spPart_lt (spStart_lt (by decide) (by decide)) _ _) _ _) ⟨k_265 S, by decide, by decide⟩ (by rw [n_265 S]; decide)) rfl rfl rfl (fun u_187 q_187 => ?_)
              obtain ⟨I6, L6⟩ := u_187
              obtain ⟨F6, e6, k6⟩ := q_187
              dsimp only at F6 e6 k6
              have G6 := (F2.tr (F3.tr F4)).tr F6
              have eS : spTurn (spR I6 L6) = rhS (fun k => I 180 (32 + k)) (rnR I) (muR I (fun k => I 180 (64 + k)) (0 : Int)) := by rw [e6, e4, e3, e2, show i.toNat = 32 by omega, show Int.toNat 32 = 32 from rfl, show Int.toNat 64 = 64 from rfl, show (fun k => I2 180 (32 + k)) = (fun k => I 180 (32 + k)) from funext (fun z => (F2.1 180 _ (Or.inl (by decide))).trans ((F1.1 180 _ (by decide) (Or.inl (by decide))).trans (kz 180 _ (by omega)))), spPart_congr (f := fun k => K4 265 (0 + k)) (g := (muR I (fun k => I 180 (64 + k)) (0 : Int))) (fun k hk => by rw [(F2.tr (F3.tr F4)).1 265 _ (Or.inl (by decide)), h1 k (by omega) (by omega)]; exact (spOut_m _ _).symm)]; rfl
              show AW l G M_Mo_dsaSign P 190 [(3, vi i), (2, vi 0), (1, vi 0), (0, vr 175)] [] (sD h I6 L6)
              refine aw_aload_n d_Mo_dsaSign_190 rfl rfl ?_
              refine aw_aload_n d_Mo_dsaSign_191 rfl rfl ?_
              refine ax_getR (b := 266) d_Mo_dsaSign_192 fd_Mo_96 (k_175 S) (r_175_42 S) ?_
              refine aw_iconst d_Mo_dsaSign_195 ⟨by decide, by decide⟩ ?_
              refine aw_bipush d_Mo_dsaSign_196 ⟨by decide, by decide⟩ (by decide) ?_
              refine ax_Vr (st := []) (as := [vr 266, vi 0, vi 64]) (b := 175) d_Mo_dsaSign_198 cs_Mo_dsaSign_198 (k_175 S) (c_Mo_give S (RS1.rf G6) (by omega) (by rw [e6, e4, e3, e2]; exact (spPart_lt (spPart_lt (spPart_lt (spStart_lt (by decide) (by decide)) _ _) _ _) _ _).1) ⟨k_266 S, by decide, by decide, by decide⟩ (by rw [n_266 S]; decide)) rfl rfl rfl (fun u_198 q_198 => ?_)
              obtain ⟨I7, L7⟩ := u_198
              obtain ⟨F7, f7, e7, k7⟩ := q_198
              dsimp only at F7 f7 e7 k7
              rw [eS] at F7
              have h7 : HR I7 266 0 64 (rhR I (0 : Int)) := HR.give F7 (by decide)
              have G7 : FR (fun a => a = 265 ∨ a = 266) (a_up u_35 175 4 0) L I7 L7 := (F1.tr (G6.fr (p := fun a => a = 265)) (fun a x => ⟨x, x⟩)).tr (FR.give (p := fun a => a = 266) F7 f7 rfl) (by intro a x; omega)
              have D7 := D1.fr G7 (by decide)
              have m7 : HR I7 265 0 64 (muR I (fun k => I 180 (64 + k)) (0 : Int)) := (h1.fr (G6.fr (p := fun _ => False)) (fun z => z) (by decide)).fr (FR.give (p := fun a => a = 266) F7 f7 rfl) (by decide) (by decide)
              show AW l G M_Mo_dsaSign P 201 [(3, vi i), (2, vi 0), (1, vi 0), (0, vr 175)] [] (sD h I7 L7)
              refine aw_aload_n d_Mo_dsaSign_201 rfl rfl ?_
              refine ax_getIe (x := 2) d_Mo_dsaSign_202 fd_Mo_229 (k_175 S) (dr0_33 D7) ?_
              refine aw_iconst d_Mo_dsaSign_205 ⟨by decide, by decide⟩ ?_
              refine aw_icmp_ne (tgt := 213) d_Mo_dsaSign_206 (by decide) (fun c_206 => False.elim (by omega)) (fun c_206 => ?_)
              refine aw_iconst d_Mo_dsaSign_209 ⟨by decide, by decide⟩ ?_
              refine aw_goto (tgt := 214) d_Mo_dsaSign_210 (by decide) ?_
              refine aw_istore_n (lv' := [(3, vi 3), (2, vi 0), (1, vi 0), (0, vr 175)]) d_Mo_dsaSign_214 rfl (by decide) rfl ?_
              refine aw_aload_n d_Mo_dsaSign_215 rfl rfl ?_
              refine aw_iconst d_Mo_dsaSign_216 ⟨by decide, by decide⟩ ?_
              refine ax_putI d_Mo_dsaSign_217 fd_Mo_216 (k_175 S) (by decide) rfl ?_
              refine aw_iconst d_Mo_dsaSign_220 ⟨by decide, by decide⟩ ?_
              refine aw_istore (lv' := [(4, vi 0), (3, vi 3), (2, vi 0), (1, vi 0), (0, vr 175)]) d_Mo_dsaSign_221 (by decide) rfl ?_
              have lp_223 : ∀ (n_ : Nat) (i : Int) (K5 : Nat → Int → Int), (0 ≤ i ∧ i ≤ 8) → (FR (fun a => 205 ≤ a ∧ a ≤ 219) I7 L7 K5 L7) → (K5 175 23 = 8 * (96 * i)) → (∀ m, 0 ≤ m → m < i → eqQ (K5 (205 + m.toNat)) (sgSs 0 (rkR I) m)) → ((8 - i).toNat) = n_ → AW l G M_Mo_dsaSign P 223 [(4, vi i), (3, vi 3), (2, vi 0), (1, vi 0), (0, vr 175)] [] (sD h K5 L7) := by
                intro n_
                induction n_ using Nat.strongRecOn with
                | _ n_ ih_223 =>
                intro i K5 hi5 G5 b5 s5 hm_223
                have sk5 : ∀ x, K5 180 x = I 180 x := fun x => (G5.1 _ _ (by decide) (Or.inl (by decide))).trans ((G7.1 _ _ (by decide) (Or.inl (by decide))).trans (kz 180 x (by omega)))
                refine aw_iload d_Mo_dsaSign_223 rfl ?_
                refine aw_aload_n d_Mo_dsaSign_225 rfl rfl ?_
                refine ax_getIe (x := 4) d_Mo_dsaSign_226 fd_Mo_226 (k_175 S) (Eq.trans (G5.1 175 32 (by omega) (Or.inr (by decide))) (dr0_32 D7)) ?_
                refine aw_aload_n d_Mo_dsaSign_229 rfl rfl ?_
                refine ax_getIe (x := 4) d_Mo_dsaSign_230 fd_Mo_223 (k_175 S) (Eq.trans (G5.1 175 26 (by omega) (Or.inr (by decide))) (dr0_26 D7)) ?_
                refine ax_iadd d_Mo_dsaSign_233 ⟨(by omega), (by omega)⟩ ?_
                refine ax_ti (x := 8) (by decide) ?_
                refine aw_icmp_ge (tgt := 268) d_Mo_dsaSign_234 (by decide) (fun c_234 => ?_) (fun c_234 => ?_)
                · skip
                  refine aw_iconst d_Mo_dsaSign_268 ⟨by decide, by decide⟩ ?_
                  refine aw_istore (lv' := [(4, vi 0), (3, vi 3), (2, vi 0), (1, vi 0), (0, vr 175)]) d_Mo_dsaSign_269 (by decide) rfl ?_
                  have lp_271 : ∀ (n_ : Nat) (i : Int) (K6 : Nat → Int → Int), (0 ≤ i ∧ i ≤ 4) → (FR (fun a => 205 ≤ a ∧ a ≤ 227) I7 L7 K6 L7) → (K6 175 23 = 8 * (768 + 416 * i)) → (∀ m, 0 ≤ m → m < 8 → eqQ (K6 (205 + m.toNat)) (sgSs 0 (rkR I) m)) → (∀ m, 0 ≤ m → m < i → eqQ (K6 (205 + (15 + m).toNat)) (sgDs 0 (rkR I) m)) → ((4 - i).toNat) = n_ → AW l G M_Mo_dsaSign P 271 [(4, vi i), (2, vi 0), (1, vi 0), (0, vr 175)] [] (sD h K6 L7) := by
                    intro n_
                    induction n_ using Nat.strongRecOn with
                    | _ n_ ih_271 =>
                    intro i K6 hi6 Gy b6 s6 t6 hm_271
                    have sk6 : ∀ x, K6 180 x = I 180 x := fun x => (Gy.1 _ _ (by decide) (Or.inl (by decide))).trans ((G7.1 _ _ (by decide) (Or.inl (by decide))).trans (kz 180 x (by omega)))
                    refine aw_iload d_Mo_dsaSign_271 rfl ?_
                    refine aw_aload_n d_Mo_dsaSign_273 rfl rfl ?_
                    refine ax_getIe (x := 4) d_Mo_dsaSign_274 fd_Mo_223 (k_175 S) (Eq.trans (Gy.1 175 26 (by omega) (Or.inr (by decide))) (dr0_26 D7)) ?_
                    refine aw_icmp_ge (tgt := 314) d_Mo_dsaSign_277 (by decide) (fun c_277 => ?_) (fun c_277 => ?_)
                    · skip
                      refine aw_sub (lv' := [(0, vr 175)]) (by simp) ?_
                      exact sB00 S (fR0.fr (fR0.fr R1 G7 (r := qN) (by intro a x y; exact ⟨fun z => z, by omega⟩) (by decide)) Gy (by intro a x y; exact ⟨fun z => z, by omega⟩) (by decide)) (D7.fr Gy (by decide)) (m7.fr Gy (by decide) (by decide)) (h7.fr Gy (by decide) (by decide)) s6 (fun m a b => t6 m a (by omega)) ⟨bb, by omega⟩ (by show I 186 2 = 2560; omega) hP
                    · skip
                      refine aw_aload_n d_Mo_dsaSign_280 rfl rfl ?_
                      refine aw_aload_n d_Mo_dsaSign_281 rfl rfl ?_
                      refine ax_getR (b := 177) d_Mo_dsaSign_282 fd_Mo_15 (k_175 S) (r_175_1 S) ?_
                      refine aw_iconst d_Mo_dsaSign_285 ⟨by decide, by decide⟩ ?_
                      refine ax_aald (b := 180) d_Mo_dsaSign_286 ⟨by rw [(k_177 S)]; decide, by rw [(k_177 S)]; decide⟩ (by omega) (by rw [n_177 S]; omega) (g_177 S (j := 2) (by decide) (by decide)) ?_
                      refine aw_sipush d_Mo_dsaSign_287 ⟨by decide, by decide⟩ (by decide) ?_
                      refine aw_aload_n d_Mo_dsaSign_290 rfl rfl ?_
                      refine ax_getR (b := 204) d_Mo_dsaSign_291 fd_Mo_76 (k_175 S) (r_175_28 S) ?_
                      refine aw_bipush d_Mo_dsaSign_294 ⟨by decide, by decide⟩ (by decide) ?_
                      refine aw_iload d_Mo_dsaSign_296 rfl ?_
                      refine ax_iadd d_Mo_dsaSign_298 ⟨(by omega), (by omega)⟩ ?_
                      refine ax_aald (b := 205 + (15 + i).toNat) d_Mo_dsaSign_299 ⟨by rw [(k_204 S)]; decide, by rw [(k_204 S)]; decide⟩ (by omega) (by rw [n_204 S]; omega) (g_204 S (by omega) (by omega)) ?_
                      refine aw_sipush d_Mo_dsaSign_300 ⟨by decide, by decide⟩ (by decide) ?_
                      refine aw_bipush d_Mo_dsaSign_303 ⟨by decide, by decide⟩ (by decide) ?_
                      refine ax_Vr (st := []) (as := [vr 180, vi 128, vr (205 + (15 + i).toNat), vi 4096, vi 13]) (b := 175) d_Mo_dsaSign_305 cs_Mo_dsaSign_305 (k_175 S) (c_Mo_unpack (pa := 128) (c := 768 + 416 * i) (d := 13) (b := 4096) S ⟨k_180 S, by decide, by decide⟩ ⟨kr_204 S (by omega), by omega, nr_204 S (by omega)⟩ (by omega) (by decide) (by omega) (by decide) (by rw [n_180 S]; omega)) rfl rfl rfl (fun u_305 q_305 => ?_)
                      obtain ⟨q1, q2, q3⟩ := q_305
                      have Fy : FR (fun a => 220 ≤ a ∧ a ≤ 227) K6 L7 u_305 L7 := FR.unp q1 (by omega)
                      show AW l G M_Mo_dsaSign P 308 [(4, vi i), (2, vi 0), (1, vi 0), (0, vr 175)] [] (sD h u_305 L7)
                      refine ax_iinc (lv' := [(4, vi (i + 1)), (2, vi 0), (1, vi 0), (0, vr 175)]) d_Mo_dsaSign_308 rfl (by decide) ⟨(by omega), (by omega)⟩ rfl ?_
                      refine aw_goto (tgt := 271) d_Mo_dsaSign_311 (by decide) ?_
                      exact ih_271 _ (by omega) (i + 1) u_305 (by omega) (Gy.tr (Fy.mono (r := fun a => 205 ≤ a ∧ a ≤ 227) (by intro a x; omega)) (fun a x => ⟨x, x⟩)) (by omega) (fun m a b x u v => by rw [q1 _ _ (by omega) (Or.inl (by omega))]; exact s6 m a b x u v) (fun m a b x u v => by by_cases z : m = i; exact (by rw [z, q3 x u v, show (fun j => K6 180 (128 + (768 + 416 * i) + j) % 256) = (fun j => I 180 (896 + 416 * i + j) % 256) from funext (fun y => by rw [sk6, show (128 + (768 + 416 * i) : Int) = 896 + 416 * i by omega])]; show _ = 4096 - gR (fun k => rkR I (896 + 416 * i + k)) 13 x; rw [gR_congr (g := fun j => I 180 (896 + 416 * i + j) % 256) (g' := fun k => rkR I (896 + 416 * i + k)) (fun y y0 y1 => (gW_in (s := 2) (by omega) (by rw [show I 186 2 = 2560 by omega]; omega)).symm)]); exact (by rw [q1 _ _ (by omega) (Or.inl (by omega))]; exact t6 m a (by omega) x u v)) rfl
                  skip
                  refine aw_sub (lv' := [(4, vi 0), (2, vi 0), (1, vi 0), (0, vr 175)]) (by simp) ?_
                  exact lp_271 _ 0 K5 (by omega) (G5.mono (by intro a x; omega)) (by omega) (fun m a b => s5 m a (by omega)) (fun m a b => by omega) rfl
                · skip
                  refine aw_aload_n d_Mo_dsaSign_237 rfl rfl ?_
                  refine aw_aload_n d_Mo_dsaSign_238 rfl rfl ?_
                  refine ax_getR (b := 177) d_Mo_dsaSign_239 fd_Mo_15 (k_175 S) (r_175_1 S) ?_
                  refine aw_iconst d_Mo_dsaSign_242 ⟨by decide, by decide⟩ ?_
                  refine ax_aald (b := 180) d_Mo_dsaSign_243 ⟨by rw [(k_177 S)]; decide, by rw [(k_177 S)]; decide⟩ (by omega) (by rw [n_177 S]; omega) (g_177 S (j := 2) (by decide) (by decide)) ?_
                  refine aw_sipush d_Mo_dsaSign_244 ⟨by decide, by decide⟩ (by decide) ?_
                  refine aw_aload_n d_Mo_dsaSign_247 rfl rfl ?_
                  refine ax_getR (b := 204) d_Mo_dsaSign_248 fd_Mo_76 (k_175 S) (r_175_28 S) ?_
                  refine aw_iload d_Mo_dsaSign_251 rfl ?_
                  refine ax_aald (b := 205 + i.toNat) d_Mo_dsaSign_253 ⟨by rw [(k_204 S)]; decide, by rw [(k_204 S)]; decide⟩ (by omega) (by rw [n_204 S]; omega) (g_204 S (by omega) (by omega)) ?_
                  refine aw_aload_n d_Mo_dsaSign_254 rfl rfl ?_
                  refine ax_getIe (x := 2) d_Mo_dsaSign_255 fd_Mo_229 (k_175 S) (Eq.trans (G5.1 175 33 (by omega) (Or.inr (by decide))) (dr0_33 D7)) ?_
                  refine aw_iload_n d_Mo_dsaSign_258 rfl rfl ?_
                  refine ax_Vr (st := []) (as := [vr 180, vi 128, vr (205 + i.toNat), vi 2, vi 3]) (b := 175) d_Mo_dsaSign_259 cs_Mo_dsaSign_259 (k_175 S) (c_Mo_unpack (pa := 128) (c := 96 * i) (d := 3) (b := 2) S ⟨k_180 S, by decide, by decide⟩ ⟨kr_204 S (by omega), by omega, nr_204 S (by omega)⟩ (by omega) (by decide) (by omega) (by decide) (by rw [n_180 S]; omega)) rfl rfl rfl (fun u_259 q_259 => ?_)
                  obtain ⟨q1, q2, q3⟩ := q_259
                  have Fx : FR (fun a => 205 ≤ a ∧ a ≤ 219) K5 L7 u_259 L7 := FR.unp q1 (by omega)
                  show AW l G M_Mo_dsaSign P 262 [(4, vi i), (3, vi 3), (2, vi 0), (1, vi 0), (0, vr 175)] [] (sD h u_259 L7)
                  refine ax_iinc (lv' := [(4, vi (i + 1)), (3, vi 3), (2, vi 0), (1, vi 0), (0, vr 175)]) d_Mo_dsaSign_262 rfl (by decide) ⟨(by omega), (by omega)⟩ rfl ?_
                  refine aw_goto (tgt := 223) d_Mo_dsaSign_265 (by decide) ?_
                  exact ih_223 _ (by omega) (i + 1) u_259 (by omega) (G5.tr Fx (fun a x => ⟨x, x⟩)) (by omega) (fun m a b x u v => by by_cases z : m = i; exact (by rw [z, q3 x u v, show (fun j => K5 180 (128 + 96 * i + j) % 256) = (fun j => I 180 (128 + 96 * i + j) % 256) from funext (fun y => by rw [sk5])]; show _ = 2 - gR (fun k => rkR I (128 + 96 * i + k)) 3 x; rw [gR_congr (g := fun j => I 180 (128 + 96 * i + j) % 256) (g' := fun k => rkR I (128 + 96 * i + k)) (fun y y0 y1 => (gW_in (s := 2) (by omega) (by rw [show I 186 2 = 2560 by omega]; omega)).symm)]); exact (by rw [q1 _ _ (by omega) (Or.inl (by omega))]; exact s5 m a (by omega) x u v)) rfl
              skip
              exact lp_223 _ 0 (a_up I7 175 23 0) (by omega) (FR.b0) (a_up_at.trans (by decide)) (fun m a b => by omega) rfl
            · skip
              refine aw_aload_n d_Mo_dsaSign_148 rfl rfl ?_
              refine aw_aload_n d_Mo_dsaSign_149 rfl rfl ?_
              refine ax_getR (b := 186) d_Mo_dsaSign_150 fd_Mo_18 (k_175 S) (r_175_2 S) ?_
              refine aw_iconst d_Mo_dsaSign_153 ⟨by decide, by decide⟩ ?_
              refine ax_ialde (x := I 186 0) d_Mo_dsaSign_154 (k_186 S) (by omega) (by rw [n_186 S]; omega) (Eq.trans ((F2.tr (F3.tr F4)).1 186 0 (Or.inl (by decide))) (Eq.trans (F1.1 186 0 (by decide) (Or.inl (by decide))) (Eq.trans (kz 186 0 (by omega)) (rfl)))) ?_
              refine aw_if_ne (tgt := 162) d_Mo_dsaSign_155 (by decide) (fun c_155 => ?_) (fun c_155 => ?_)
              · skip
                refine aw_aload_n d_Mo_dsaSign_162 rfl rfl ?_
                refine ax_getR (b := 177) d_Mo_dsaSign_163 fd_Mo_15 (k_175 S) (r_175_1 S) ?_
                refine aw_iconst d_Mo_dsaSign_166 ⟨by decide, by decide⟩ ?_
                refine ax_aald (b := 178) d_Mo_dsaSign_167 ⟨by rw [(k_177 S)]; decide, by rw [(k_177 S)]; decide⟩ (by omega) (by rw [n_177 S]; omega) (g_177 S (j := 0) (by decide) (by decide)) ?_
                refine aw_iload_n d_Mo_dsaSign_168 rfl rfl ?_
                refine ax_balde (x := I 178 i) d_Mo_dsaSign_169 (k_178 S) (by omega) (by rw [n_178 S]; omega) (Eq.trans ((F2.tr (F3.tr F4)).1 178 i (Or.inl (by decide))) (Eq.trans (F1.1 178 i (by decide) (Or.inl (by decide))) (Eq.trans (kz 178 i (by omega)) (rfl)))) ?_
                have vv : rnR I i = I 178 i := by unfold rnR; rw [if_neg (by omega)]
                refine ax_Vr (st := []) (as := [vi (I 178 i)]) (b := 175) d_Mo_dsaSign_170 cs_Mo_dsaSign_170 (k_175 S) (c_Mo_put1 S ((RS1.rf F2).rf (F3.tr F4)) (by omega) (by rw [e4, e3, e2]; exact spPart_lt (spPart_lt (spStart_lt (by decide) (by decide)) _ _) _ _)) rfl rfl rfl (fun u_170 q_170 => ?_)
                obtain ⟨I5, L5⟩ := u_170
                obtain ⟨F5, e5, k5⟩ := q_170
                dsimp only at F5 e5 k5
                show AW l G M_Mo_dsaSign P 173 [(3, vi i), (2, vi 0), (1, vi 0), (0, vr 175)] [] (sD h I5 L5)
                refine ax_iinc (lv' := [(3, vi (i + 1)), (2, vi 0), (1, vi 0), (0, vr 175)]) d_Mo_dsaSign_173 rfl (by decide) ⟨(by omega), (by omega)⟩ rfl ?_
                refine aw_goto (tgt := 142) d_Mo_dsaSign_176 (by decide) ?_
                exact ih_142 _ (by omega) (i + 1) I5 L5 (by omega) (F4.tr F5) (by rw [e5, e4, show (i + 1).toNat = i.toNat + 1 by omega]; show _ = spTake (spPart (spR I3 L3) (rnR I) i.toNat) (rnR I (i.toNat : Int)); rw [Int.toNat_of_nonneg hi.1, vv]) (by omega) rfl
              · skip
                refine aw_iconst d_Mo_dsaSign_158 ⟨by decide, by decide⟩ ?_
                refine aw_goto (tgt := 170) d_Mo_dsaSign_159 (by decide) ?_
                have vv : rnR I i = 0 := by unfold rnR; rw [if_pos (by omega)]
                refine ax_Vr (st := []) (as := [vi 0]) (b := 175) d_Mo_dsaSign_170 cs_Mo_dsaSign_170 (k_175 S) (c_Mo_put1 S ((RS1.rf F2).rf (F3.tr F4)) (by omega) (by rw [e4, e3, e2]; exact spPart_lt (spPart_lt (spStart_lt (by decide) (by decide)) _ _) _ _)) rfl rfl rfl (fun u_170 q_170 => ?_)
                obtain ⟨I5, L5⟩ := u_170
                obtain ⟨F5, e5, k5⟩ := q_170
                dsimp only at F5 e5 k5
                show AW l G M_Mo_dsaSign P 173 [(3, vi i), (2, vi 0), (1, vi 0), (0, vr 175)] [] (sD h I5 L5)
                refine ax_iinc (lv' := [(3, vi (i + 1)), (2, vi 0), (1, vi 0), (0, vr 175)]) d_Mo_dsaSign_173 rfl (by decide) ⟨(by omega), (by omega)⟩ rfl ?_
                refine aw_goto (tgt := 142) d_Mo_dsaSign_176 (by decide) ?_
                exact ih_142 _ (by omega) (i + 1) I5 L5 (by omega) (F4.tr F5) (by rw [e5, e4, show (i + 1).toNat = i.toNat + 1 by omega]; show _ = spTake (spPart (spR I3 L3) (rnR I) i.toNat) (rnR I (i.toNat : Int)); rw [Int.toNat_of_nonneg hi.1, vv]) (by omega) rfl
          skip
          refine aw_sub (lv' := [(3, vi 0), (2, vi 0), (1, vi 0), (0, vr 175)]) (by simp) ?_
          exact lp_142 _ 0 I3 L3 (by omega) (RF.rfl') (rfl) (by omega) rfl
  · skip
    refine ax_V (st := [vr 175]) (as := [vi 0]) (b := 175) (v := some (vi 0)) (h' := sD h u_35 L) d_Mo_dsaSign_41 cs_Mo_dsaSign_41 (k_175 S) (by have z := c_Mo_context (l := l) (G := G) (h := h) (L := L) (I := u_35) (x := 0) S; rw [if_neg cx_] at z; exact z) rfl rfl rfl ?_
    show AW l G M_Mo_dsaSign P 44 [(0, vr 175), (1, vi 0), (2, vi 0)] [vi 0, vr 175] (sD h u_35 L)
    refine aw_if_eq (tgt := 71) d_Mo_dsaSign_44 (by decide) (fun c_44 => ?_) (fun c_44 => False.elim (by omega))
    refine aw_iconst d_Mo_dsaSign_71 ⟨by decide, by decide⟩ ?_
    refine aw_iconst d_Mo_dsaSign_72 ⟨by decide, by decide⟩ ?_
    refine ax_V (st := []) (as := [vi 0, vi 2]) (b := 175) (v := some (vi 0)) (h' := sD h (a_up u_35 175 4 2) L) d_Mo_dsaSign_73 cs_Mo_dsaSign_73 (k_175 S) (c_good0 S (rfl)) rfl rfl rfl ?_
    show AW l G M_Mo_dsaSign P 76 [(0, vr 175), (1, vi 0), (2, vi 0)] [vi 0] (sD h (a_up u_35 175 4 2) L)
    refine aw_if_eq (tgt := 105) d_Mo_dsaSign_76 (by decide) (fun c_76 => ?_) (fun c_76 => False.elim (by omega))
    refine aw_iconst d_Mo_dsaSign_105 ⟨by decide, by decide⟩ ?_
    exact aw_iret d_Mo_dsaSign_106 rfl (hP _ _ (rsNo 0 2 (c4_2 ⟨by decide, by decide⟩ (fun z => by rw [e0 186 4 (by omega)] at cx_; have z1 := z.1; have z2 := z.2; omega)) (by decide) a_up_at (fR0.fr R00 (FR.c0 (p := fun _ => False)) (by intro a x y; exact ⟨fun z => z, fun z => z⟩) (fun z => z))))
set_option maxHeartbeats 2000000 in
set_option maxRecDepth 100000 in
theorem sB0N {l : Launch} {G : a_G} {P : a_R → Hp → Prop} {h : Hp} {I L K M : Nat → Int → Int} (S : Shp h) (R0 : fR0 qN I L K M) (D : RD K M 0) (hm : HR K 265 0 64 (muR I (fun k => I 180 (64 + k)) (-1 : Int))) (hr : HR K 266 0 64 (rhR I (-1 : Int))) (hSs : ∀ m, 0 ≤ m → m < 8 → eqQ (K (205 + m.toNat)) (sgSs 0 (rkR I) m)) (hDs : ∀ m, 0 ≤ m → m < 4 → eqQ (K (205 + (15 + m).toNat)) (sgDs 0 (rkR I) m)) (b1 : ((-1 : Int) ≠ 0 ∨ I 186 4 ≤ 255) ∧ (I 186 0 = 32 ∨ I 186 0 = 0)) (b2 : I 186 2 = sSec 0) (hP : ∀ r_ h2_, RsR h I L (c4 ((0 ≤ (0 : Int) ∧ (0 : Int) < 3) ∧ ((-1 : Int) = 0 ∨ (-1 : Int) = -1)) (((-1 : Int) ≠ 0 ∨ I 186 4 ≤ 255) ∧ (I 186 0 = 32 ∨ I 186 0 = 0)) (I 186 2 = sSec (0 : Int)) (sgOk (0 : Int) (rkR I) ∧ sgRun (0 : Int) (rkR I) (rhR I (-1 : Int)) (muR I (fun k => I 180 (64 + k)) (-1 : Int)) 814 0 ≠ none)) (fun a => a = 183 ∨ a = 186) (fun v I' _ => ∃ t, sgRun (0 : Int) (rkR I) (rhR I (-1 : Int)) (muR I (fun k => I 180 (64 + k)) (-1 : Int)) 814 0 = some t ∧ v = t + 1 ∧ ((∀ j, j ≠ 5 → I' 186 j = I 186 j) ∧ I' 186 5 = sPkt (0 : Int)) ∧ HR I' 183 0 (sPkt (0 : Int)) (sgPk (0 : Int) (rkR I) (rhR I (-1 : Int)) (muR I (fun k => I 180 (64 + k)) (-1 : Int)) t) ∧ rng (I 183) (I' 183)) r_ h2_ → P r_ h2_) : AW l G M_Mo_dsaSign P 314 [(0, vr 175)] [] (sD h K M) := by
  have hk : HR K 180 0 2560 (rkR I) := fun z x y => by rw [R0.1 180 _ (by omega) (fun z => z), Int.zero_add]; exact (gW_in (s := 2) x (by rw [show I 186 2 = 2560 from b2]; exact y)).symm
  refine aw_iconst d_Mo_dsaSign_314 ⟨by decide, by decide⟩ ?_
  refine aw_istore (lv' := [(4, vi 0), (0, vr 175)]) d_Mo_dsaSign_315 (by decide) rfl ?_
  have lp_317 : ∀ (n_ : Nat) (t : Int) (K2 : Nat → Int → Int) (M2 : Nat → Int → Int), (0 ≤ t ∧ t ≤ 814) → (FR pAt K M K2 M2) → (sgRun 0 (rkR I) (rhR I (-1 : Int)) (muR I (fun k => I 180 (64 + k)) (-1 : Int)) 814 0 = sgRun 0 (rkR I) (rhR I (-1 : Int)) (muR I (fun k => I 180 (64 + k)) (-1 : Int)) (814 - t).toNat t) → ((814 - t).toNat) = n_ → AW l G M_Mo_dsaSign P 317 [(4, vi t), (0, vr 175)] [] (sD h K2 M2) := by
    intro n_
    induction n_ using Nat.strongRecOn with
    | _ n_ ih_317 =>
    intro t K2 M2 ht F run hm_317
    refine aw_iload d_Mo_dsaSign_317 rfl ?_
    refine aw_sipush d_Mo_dsaSign_319 ⟨by decide, by decide⟩ (by decide) ?_
    refine aw_icmp_ge (tgt := 429) d_Mo_dsaSign_322 (by decide) (fun c_322 => ?_) (fun c_322 => ?_)
    · skip
      refine aw_aload_n d_Mo_dsaSign_429 rfl rfl ?_
      refine aw_iconst d_Mo_dsaSign_430 ⟨by decide, by decide⟩ ?_
      refine aw_iconst d_Mo_dsaSign_431 ⟨by decide, by decide⟩ ?_
      refine ax_V (st := []) (as := [vi 0, vi 4]) (b := 175) (v := some (vi 0)) (h' := sD h (a_up K2 175 4 4) M2) d_Mo_dsaSign_432 cs_Mo_dsaSign_432 (k_175 S) (c_good0 S rfl) rfl rfl rfl ?_
      show AW l G M_Mo_dsaSign P 435 [(4, vi t), (0, vr 175)] [vi 0] (sD h (a_up K2 175 4 4) M2)
      refine aw_pop d_Mo_dsaSign_435 rfl ?_
      refine aw_iconst d_Mo_dsaSign_436 ⟨by decide, by decide⟩ ?_
      exact aw_iret d_Mo_dsaSign_437 rfl (hP _ _ (rsNo 0 4 (c4_4 ⟨by decide, by decide⟩ b1 b2 (fun z => z.2 (by rw [run, show (814 - t).toNat = 0 by omega]; rfl))) (by decide) a_up_at (fR0.fr (fR0.fr R0 F (r := qN) (by intro a x y; exact ⟨fun z => z, by omega⟩) (by decide)) (FR.c0 (p := fun _ => False)) (by intro a x y; exact ⟨fun z => z, fun z => z⟩) (fun z => z))))
    · skip
      refine aw_aload_n d_Mo_dsaSign_325 rfl rfl ?_
      refine aw_iload d_Mo_dsaSign_326 rfl ?_
      refine aw_aload_n d_Mo_dsaSign_328 rfl rfl ?_
      refine ax_getIe (x := 4) d_Mo_dsaSign_329 fd_Mo_226 (k_175 S) (Eq.trans (F.1 175 32 (by omega) (Or.inr (by decide))) (dr0_32 D)) ?_
      refine ax_imul d_Mo_dsaSign_332 ⟨(by omega), (by omega)⟩ ?_
      refine ax_Vt (st := []) (as := [vi (t * 4)]) (b := 175) d_Mo_dsaSign_333 cs_Mo_dsaSign_333 (k_175 S) (c_Mo_attempt0 (t := t) (sk := (rkR I)) (rh := (rhR I (-1 : Int))) (mu := (muR I (fun k => I 180 (64 + k)) (-1 : Int))) S (D.fr F (by decide)) (hk.fr F (by decide) (by decide)) (fun x => gW_m _ _ _) (hr.fr F (by decide) (by decide)) (fun x => spOut_m _ _) (hm.fr F (by decide) (by decide)) (fun x => spOut_m _ _) (fun m a b j x y => by rw [F.1 _ _ (by omega) (Or.inl (by omega))]; exact hSs m a b j x y) (fun m a b j x y => by rw [F.1 _ _ (by omega) (Or.inl (by omega))]; exact hDs m a b j x y) (by omega) rfl) rfl rfl rfl (fun v_ h_ q_ => ?_) (fun x_ h_ q_ => ?_)
      · obtain ⟨v, I6, L6, q3, q4, F6, q6⟩ := q_
        cases q3; subst q4
        have F7 : FR pAt K M I6 L6 := F.tr F6 (fun a x => ⟨x, x⟩)
        have eN : (814 - t).toNat = (814 - (t + 1)).toNat + 1 := by omega
        show AW l G M_Mo_dsaSign P 336 [(4, vi t), (0, vr 175)] [vi v] (sD h I6 L6)
        refine aw_istore (lv' := [(5, vi v), (4, vi t), (0, vr 175)]) d_Mo_dsaSign_336 (by decide) rfl ?_
        refine aw_aload_n d_Mo_dsaSign_338 rfl rfl ?_
        refine aw_iload d_Mo_dsaSign_339 rfl ?_
        refine aw_if_lt (tgt := 348) d_Mo_dsaSign_341 (by decide) (fun c_341 => ?_) (fun c_341 => ?_)
        · skip
          refine aw_iconst d_Mo_dsaSign_348 ⟨by decide, by decide⟩ ?_
          refine aw_iconst d_Mo_dsaSign_349 ⟨by decide, by decide⟩ ?_
          refine ax_V (st := []) (as := [vi 0, vi 4]) (b := 175) (v := some (vi 0)) (h' := sD h (a_up I6 175 4 4) L6) d_Mo_dsaSign_350 cs_Mo_dsaSign_350 (k_175 S) (c_good0 S rfl) rfl rfl rfl ?_
          show AW l G M_Mo_dsaSign P 353 [(5, vi v), (4, vi t), (0, vr 175)] [vi 0] (sD h (a_up I6 175 4 4) L6)
          refine aw_if_ne (tgt := 358) d_Mo_dsaSign_353 (by decide) (fun c_353 => False.elim (by omega)) (fun c_353 => ?_)
          refine aw_iconst d_Mo_dsaSign_356 ⟨by decide, by decide⟩ ?_
          exact aw_iret d_Mo_dsaSign_357 rfl (hP _ _ (rsNo 0 4 (c4_4 ⟨by decide, by decide⟩ b1 b2 (fun z => by rcases q6 with y | y | y; exact (by have z2 := z.2; rw [run, eN] at z2; exact z2 (sgRun_x (Classical.byContradiction (fun x => y.2 ⟨z.1, x⟩)))); exact absurd y.1 (by omega); exact absurd y.1 (by omega))) (by decide) a_up_at (fR0.fr (fR0.fr R0 F7 (r := qN) (by intro a x y; exact ⟨fun z => z, by omega⟩) (by decide)) (FR.c0 (p := fun _ => False)) (by intro a x y; exact ⟨fun z => z, fun z => z⟩) (fun z => z))))
        · skip
          refine aw_iconst d_Mo_dsaSign_344 ⟨by decide, by decide⟩ ?_
          refine aw_goto (tgt := 349) d_Mo_dsaSign_345 (by decide) ?_
          refine aw_iconst d_Mo_dsaSign_349 ⟨by decide, by decide⟩ ?_
          refine ax_V (st := []) (as := [vi 1, vi 4]) (b := 175) (v := some (vi 1)) (h' := sD h (a_up I6 175 4 0) L6) d_Mo_dsaSign_350 cs_Mo_dsaSign_350 (k_175 S) (c_good1 S rfl) rfl rfl rfl ?_
          show AW l G M_Mo_dsaSign P 353 [(5, vi v), (4, vi t), (0, vr 175)] [vi 1] (sD h (a_up I6 175 4 0) L6)
          refine aw_if_ne (tgt := 358) d_Mo_dsaSign_353 (by decide) (fun c_353 => ?_) (fun c_353 => False.elim (by omega))
          refine aw_iload d_Mo_dsaSign_358 rfl ?_
          refine aw_iconst d_Mo_dsaSign_360 ⟨by decide, by decide⟩ ?_
          refine aw_icmp_ne (tgt := 423) d_Mo_dsaSign_361 (by decide) (fun c_361 => ?_) (fun c_361 => ?_)
          · skip
            refine ax_iinc (lv' := [(4, vi (t + 1)), (5, vi v), (0, vr 175)]) d_Mo_dsaSign_423 rfl (by decide) ⟨(by omega), (by omega)⟩ rfl ?_
            refine aw_goto (tgt := 317) d_Mo_dsaSign_426 (by decide) ?_
            refine aw_sub (lv' := [(4, vi (t + 1)), (0, vr 175)]) (by simp) ?_
            exact ih_317 _ (by omega) (t + 1) (a_up I6 175 4 0) L6 (by omega) (F7.tr (FR.c0 (p := pAt)) (fun a x => ⟨x, x⟩)) (by rw [run, eN]; rcases q6 with y | y | y; exact absurd y.1 (by omega); exact sgRun_n y.2.1.2 y.2.2; exact absurd y.1 (by omega)) rfl
          · skip
            have yy := (q6.resolve_left (fun y => by have y1 := y.1; omega)).resolve_left (fun y => by have y1 := y.1; omega)
            have rn : sgRun 0 (rkR I) (rhR I (-1 : Int)) (muR I (fun k => I 180 (64 + k)) (-1 : Int)) 814 0 = some t := by rw [run, eN]; exact sgRun_g yy.2.1.2 yy.2.2.1
            have okk : sgOk 0 (rkR I) ∧ sgRun 0 (rkR I) (rhR I (-1 : Int)) (muR I (fun k => I 180 (64 + k)) (-1 : Int)) 814 0 ≠ none := ⟨yy.2.1.1, by rw [rn]; exact (fun z => by cases z)⟩
            refine aw_aload_n d_Mo_dsaSign_364 rfl rfl ?_
            refine ax_getR (b := 186) d_Mo_dsaSign_365 fd_Mo_18 (k_175 S) (r_175_2 S) ?_
            refine aw_iconst d_Mo_dsaSign_368 ⟨by decide, by decide⟩ ?_
            refine aw_aload_n d_Mo_dsaSign_369 rfl rfl ?_
            refine ax_getIe (x := 32) d_Mo_dsaSign_370 fd_Mo_248 (k_175 S) (Eq.trans (a_up_ne (Or.inr (by decide))) (Eq.trans (F7.1 175 38 (by omega) (Or.inr (by decide))) (dr0_38 D))) ?_
            refine aw_bipush d_Mo_dsaSign_373 ⟨by decide, by decide⟩ (by decide) ?_
            refine aw_aload_n d_Mo_dsaSign_375 rfl rfl ?_
            refine ax_getIe (x := 4) d_Mo_dsaSign_376 fd_Mo_226 (k_175 S) (Eq.trans (a_up_ne (Or.inr (by decide))) (Eq.trans (F7.1 175 32 (by omega) (Or.inr (by decide))) (dr0_32 D))) ?_
            refine ax_imul d_Mo_dsaSign_379 ⟨(by omega), (by omega)⟩ ?_
            refine ax_ti (x := 128) (by decide) ?_
            refine aw_aload_n d_Mo_dsaSign_380 rfl rfl ?_
            refine ax_getIe (x := 18) d_Mo_dsaSign_381 fd_Mo_251 (k_175 S) (Eq.trans (a_up_ne (Or.inr (by decide))) (Eq.trans (F7.1 175 39 (by omega) (Or.inr (by decide))) (dr0_39 D))) ?_
            refine ax_imul d_Mo_dsaSign_384 ⟨(by omega), (by omega)⟩ ?_
            refine ax_ti (x := 2304) (by decide) ?_
            refine ax_iadd d_Mo_dsaSign_385 ⟨(by omega), (by omega)⟩ ?_
            refine ax_ti (x := 2336) (by decide) ?_
            refine aw_aload_n d_Mo_dsaSign_386 rfl rfl ?_
            refine ax_getIe (x := 80) d_Mo_dsaSign_387 fd_Mo_245 (k_175 S) (Eq.trans (a_up_ne (Or.inr (by decide))) (Eq.trans (F7.1 175 37 (by omega) (Or.inr (by decide))) (dr0_37 D))) ?_
            refine ax_iadd d_Mo_dsaSign_390 ⟨(by omega), (by omega)⟩ ?_
            refine ax_ti (x := 2416) (by decide) ?_
            refine aw_aload_n d_Mo_dsaSign_391 rfl rfl ?_
            refine ax_getIe (x := 4) d_Mo_dsaSign_392 fd_Mo_223 (k_175 S) (Eq.trans (a_up_ne (Or.inr (by decide))) (Eq.trans (F7.1 175 26 (by omega) (Or.inr (by decide))) (dr0_26 D))) ?_
            refine ax_iadd d_Mo_dsaSign_395 ⟨(by omega), (by omega)⟩ ?_
            refine ax_ti (x := 2420) (by decide) ?_
            refine ax_iast d_Mo_dsaSign_396 (k_186 S) (by decide) (by omega) (by rw [n_186 S]; omega) ?_
            refine aw_aload_n d_Mo_dsaSign_397 rfl rfl ?_
            refine ax_getR (b := 263) d_Mo_dsaSign_398 fd_Mo_87 (k_175 S) (r_175_31 S) ?_
            refine aw_iconst d_Mo_dsaSign_401 ⟨by decide, by decide⟩ ?_
            refine aw_aload_n d_Mo_dsaSign_402 rfl rfl ?_
            refine ax_getR (b := 177) d_Mo_dsaSign_403 fd_Mo_15 (k_175 S) (r_175_1 S) ?_
            refine aw_iconst d_Mo_dsaSign_406 ⟨by decide, by decide⟩ ?_
            refine ax_aald (b := 183) d_Mo_dsaSign_407 ⟨by rw [(k_177 S)]; decide, by rw [(k_177 S)]; decide⟩ (by omega) (by rw [n_177 S]; omega) (g_177 S (j := 5) (by decide) (by decide)) ?_
            refine aw_iconst d_Mo_dsaSign_408 ⟨by decide, by decide⟩ ?_
            refine aw_aload_n d_Mo_dsaSign_409 rfl rfl ?_
            refine ax_getR (b := 186) d_Mo_dsaSign_410 fd_Mo_18 (k_175 S) (r_175_2 S) ?_
            refine aw_iconst d_Mo_dsaSign_413 ⟨by decide, by decide⟩ ?_
            refine ax_ialde (x := 2420) d_Mo_dsaSign_414 (k_186 S) (by omega) (by rw [n_186 S]; omega) (a_up_at) ?_
            refine ax_S (st := []) (as := [vr 263, vi 0, vr 183, vi 0, vi 2420]) (v := none) (h' := sD h (putRow (a_up (a_up I6 175 4 0) 186 5 2420) 183 0 2420 (fun k => (a_up (a_up I6 175 4 0) 186 5 2420) 263 (0 + k))) L6) d_Mo_dsaSign_415 cs_Mo_dsaSign_415 (c_Mo_move ⟨k_263 S, by decide⟩ ⟨k_183 S, by decide, trivial⟩ (by decide) (by rw [n_263 S, n_183 S]; omega)) rfl rfl rfl ?_
            show AW l G M_Mo_dsaSign P 418 [(5, vi v), (4, vi t), (0, vr 175)] [] (sD h (putRow (a_up (a_up I6 175 4 0) 186 5 2420) 183 0 2420 (fun k => (a_up (a_up I6 175 4 0) 186 5 2420) 263 (0 + k))) L6)
            refine aw_iload d_Mo_dsaSign_418 rfl ?_
            refine aw_iconst d_Mo_dsaSign_420 ⟨by decide, by decide⟩ ?_
            refine ax_iadd d_Mo_dsaSign_421 ⟨(by omega), (by omega)⟩ ?_
            exact aw_iret d_Mo_dsaSign_422 rfl (hP _ _ ⟨_, _, _, rfl, rfl, by rw [putRow_ne (by decide), a_up_ne (Or.inl (by decide)), a_up_at, c4_0 ⟨by decide, by decide⟩ b1 b2 okk], Or.inl ⟨c4_0 ⟨by decide, by decide⟩ b1 b2 okk, fR0.fr (fR0.fr (fR0.fr (fR0.fr R0 F7 (r := qN) (by intro a x y; exact ⟨fun z => z, by omega⟩) (by decide)) (FR.c0 (p := fun _ => False)) (r := qN) (by intro a x y; exact ⟨fun z => z, fun z => z⟩) (fun z => z)) (FR.up (p := fun a => a = 186) rfl) (r := fun a => a = 183 ∨ a = 186) (by intro a x y; exact ⟨fun z => z, by omega⟩) (by decide)) (FR.put (p := fun a => a = 183) rfl) (by intro a x y; exact ⟨y, by omega⟩) (by decide), t, rn, rfl, ⟨fun j x => by rw [putRow_ne (by decide), a_up_ne (Or.inr x), a_up_ne (Or.inl (by decide))]; exact (fR0.fr R0 F7 (r := qN) (by intro a x y; exact ⟨fun z => z, by omega⟩) (by decide)).1 186 j (by omega) (fun z => z), by rw [putRow_ne (by decide), a_up_at]; rfl⟩, HR.put (fun z x y => by rw [a_up_ne (Or.inl (by decide)), a_up_ne (Or.inl (by decide))]; exact yy.2.2.2 z x y), fun j => by have z := rng.p (I := a_up (a_up I6 175 4 0) 186 5 2420) (f := 183) (o := 0) (n := 2420) (g := fun k => (a_up (a_up I6 175 4 0) 186 5 2420) 263 (0 + k)) j; rw [show (a_up (a_up I6 175 4 0) 186 5 2420) 183 j = I 183 j from by rw [a_up_ne (Or.inl (by decide)), a_up_ne (Or.inl (by decide))]; exact (fR0.fr R0 F7 (r := qN) (by intro a x y; exact ⟨fun z => z, by omega⟩) (by decide)).1 183 j (by omega) (fun z => z)] at z; exact z⟩⟩)
      · obtain ⟨v, I6, L6, q3, q4, F6, q6⟩ := q_
        cases q3
  skip
  exact lp_317 _ 0 K M (by omega) (FR.rfl') (rfl) rfl
set_option maxHeartbeats 4000000 in
set_option maxRecDepth 100000 in
theorem c_Mo_dsaSign0N {l : Launch} {G : a_G} {h : Hp} {I L : Nat → Int → Int} (S : Shp h) (RS : RSt I L) (rb : RB I) : AW l G M_Mo_dsaSign (RsR h I L (c4 ((0 ≤ (0 : Int) ∧ (0 : Int) < 3) ∧ ((-1 : Int) = 0 ∨ (-1 : Int) = -1)) (((-1 : Int) ≠ 0 ∨ I 186 4 ≤ 255) ∧ (I 186 0 = 32 ∨ I 186 0 = 0)) (I 186 2 = sSec (0 : Int)) (sgOk (0 : Int) (rkR I) ∧ sgRun (0 : Int) (rkR I) (rhR I (-1 : Int)) (muR I (fun k => I 180 (64 + k)) (-1 : Int)) 814 0 ≠ none)) (fun a => a = 183 ∨ a = 186) (fun v I' _ => ∃ t, sgRun (0 : Int) (rkR I) (rhR I (-1 : Int)) (muR I (fun k => I 180 (64 + k)) (-1 : Int)) 814 0 = some t ∧ v = t + 1 ∧ ((∀ j, j ≠ 5 → I' 186 j = I 186 j) ∧ I' 186 5 = sPkt (0 : Int)) ∧ HR I' 183 0 (sPkt (0 : Int)) (sgPk (0 : Int) (rkR I) (rhR I (-1 : Int)) (muR I (fun k => I 180 (64 + k)) (-1 : Int)) t) ∧ rng (I 183) (I' 183))) 0 (a_ar 0 [vr 175, vi 0, vi (-1)]) [] (sD h I L) := by
  suffices key : ∀ P : a_R → Hp → Prop, (∀ r_ h2_, RsR h I L (c4 ((0 ≤ (0 : Int) ∧ (0 : Int) < 3) ∧ ((-1 : Int) = 0 ∨ (-1 : Int) = -1)) (((-1 : Int) ≠ 0 ∨ I 186 4 ≤ 255) ∧ (I 186 0 = 32 ∨ I 186 0 = 0)) (I 186 2 = sSec (0 : Int)) (sgOk (0 : Int) (rkR I) ∧ sgRun (0 : Int) (rkR I) (rhR I (-1 : Int)) (muR I (fun k => I 180 (64 + k)) (-1 : Int)) 814 0 ≠ none)) (fun a => a = 183 ∨ a = 186) (fun v I' _ => ∃ t, sgRun (0 : Int) (rkR I) (rhR I (-1 : Int)) (muR I (fun k => I 180 (64 + k)) (-1 : Int)) 814 0 = some t ∧ v = t + 1 ∧ ((∀ j, j ≠ 5 → I' 186 j = I 186 j) ∧ I' 186 5 = sPkt (0 : Int)) ∧ HR I' 183 0 (sPkt (0 : Int)) (sgPk (0 : Int) (rkR I) (rhR I (-1 : Int)) (muR I (fun k => I 180 (64 + k)) (-1 : Int)) t) ∧ rng (I 183) (I' 183)) r_ h2_ → P r_ h2_) → AW l G M_Mo_dsaSign P 0 [(0, vr 175), (1, vi 0), (2, vi (-1))] [] (sD h I L) from key _ (fun _ _ q => q)
  intro P hP
  refine aw_aload_n d_Mo_dsaSign_0 rfl rfl ?_
  refine aw_iload_n d_Mo_dsaSign_1 rfl rfl ?_
  refine aw_iconst d_Mo_dsaSign_2 ⟨by decide, by decide⟩ ?_
  refine aw_iconst d_Mo_dsaSign_3 ⟨by decide, by decide⟩ ?_
  refine ax_S (st := [vr 175]) (as := [vi 0, vi 0, vi 2]) (v := some (vi 1)) (h' := sD h I L) d_Mo_dsaSign_4 cs_Mo_dsaSign_4 (c_in1 (by decide)) rfl rfl rfl ?_
  show AW l G M_Mo_dsaSign P 7 [(0, vr 175), (1, vi 0), (2, vi (-1))] [vi 1, vr 175] (sD h I L)
  refine aw_if_eq (tgt := 23) d_Mo_dsaSign_7 (by decide) (fun c_7 => False.elim (by omega)) (fun c_7 => ?_)
  refine aw_iload_n d_Mo_dsaSign_10 rfl rfl ?_
  refine aw_iconst d_Mo_dsaSign_11 ⟨by decide, by decide⟩ ?_
  refine aw_iconst d_Mo_dsaSign_12 ⟨by decide, by decide⟩ ?_
  refine ax_S (st := [vr 175]) (as := [vi (-1), vi (-1), vi 0]) (v := some (vi 1)) (h' := sD h I L) d_Mo_dsaSign_13 cs_Mo_dsaSign_13 (c_in1 (by decide)) rfl rfl rfl ?_
  show AW l G M_Mo_dsaSign P 16 [(0, vr 175), (1, vi 0), (2, vi (-1))] [vi 1, vr 175] (sD h I L)
  refine aw_if_eq (tgt := 23) d_Mo_dsaSign_16 (by decide) (fun c_16 => False.elim (by omega)) (fun c_16 => ?_)
  refine aw_iconst d_Mo_dsaSign_19 ⟨by decide, by decide⟩ ?_
  refine aw_goto (tgt := 24) d_Mo_dsaSign_20 (by decide) ?_
  refine aw_iconst d_Mo_dsaSign_24 ⟨by decide, by decide⟩ ?_
  refine ax_V (st := []) (as := [vi 1, vi 1]) (b := 175) (v := some (vi 1)) (h' := sD h (a_up I 175 4 0) L) d_Mo_dsaSign_25 cs_Mo_dsaSign_25 (k_175 S) (c_good1 S (rfl)) rfl rfl rfl ?_
  show AW l G M_Mo_dsaSign P 28 [(0, vr 175), (1, vi 0), (2, vi (-1))] [vi 1] (sD h (a_up I 175 4 0) L)
  refine aw_if_ne (tgt := 33) d_Mo_dsaSign_28 (by decide) (fun c_28 => ?_) (fun c_28 => False.elim (by omega))
  refine aw_aload_n d_Mo_dsaSign_33 rfl rfl ?_
  refine aw_iload_n d_Mo_dsaSign_34 rfl rfl ?_
  refine ax_Vr (st := []) (as := [vi 0]) (b := 175) d_Mo_dsaSign_35 cs_Mo_dsaSign_35 (k_175 S) (c_Mo_dsa0 S) rfl rfl rfl (fun u_35 q_35 => ?_)
  obtain ⟨d1, d2, d3⟩ := q_35
  have e0 : ∀ a j, (a < 175 ∨ 176 ≤ a ∧ a ≤ 202 ∨ 204 ≤ a) → u_35 a j = I a j := fun a j x => (d1 a j (by omega) (Or.inl (by omega)) (Or.inl (by omega)) (Or.inl (by omega)) (Or.inl (by omega)) (Or.inl (by omega)) (Or.inl (by omega)) (Or.inl (by omega)) (Or.inl (by omega)) (Or.inl (by omega))).trans (a_up_ne (Or.inl (by omega)))
  have R00 : fR0 qN I L u_35 L := ⟨fun a j x _ => e0 a j (by omega), (d1 175 3 (by decide) (Or.inr (by decide)) (Or.inr (by decide)) (Or.inr (by decide)) (Or.inr (by decide)) (Or.inr (by decide)) (Or.inr (by decide)) (Or.inr (by decide)) (Or.inr (by decide)) (Or.inr (by decide))).trans (a_up_ne (Or.inr (by decide))), fun _ _ _ => rfl⟩
  have D0 : RD u_35 L 0 := ⟨RS.of (fun j => e0 193 j (by omega)) (fun _ => rfl), d2, d3⟩
  have D1 := D0.fr (FR.c0 (p := fun _ => False) (v := 0)) ⟨fun z => z, fun z => z, fun z => z⟩
  have R1 : fR0 qN I L (a_up u_35 175 4 0) L := fR0.fr R00 (FR.c0 (p := fun _ => False)) (by intro a x y; exact ⟨fun z => z, fun z => z⟩) (fun z => z)
  show AW l G M_Mo_dsaSign P 38 [(0, vr 175), (1, vi 0), (2, vi (-1))] [] (sD h u_35 L)
  refine aw_aload_n d_Mo_dsaSign_38 rfl rfl ?_
  refine aw_aload_n d_Mo_dsaSign_39 rfl rfl ?_
  refine aw_iload_n d_Mo_dsaSign_40 rfl rfl ?_
  by_cases cx_ : (-1 : Int) < 0 ∨ u_35 186 4 ≤ 255
  · skip
    refine ax_V (st := [vr 175]) (as := [vi (-1)]) (b := 175) (v := some (vi 1)) (h' := sD h u_35 L) d_Mo_dsaSign_41 cs_Mo_dsaSign_41 (k_175 S) (by have z := c_Mo_context (l := l) (G := G) (h := h) (L := L) (I := u_35) (x := -1) S; rw [if_pos cx_] at z; exact z) rfl rfl rfl ?_
    show AW l G M_Mo_dsaSign P 44 [(0, vr 175), (1, vi 0), (2, vi (-1))] [vi 1, vr 175] (sD h u_35 L)
    refine aw_if_eq (tgt := 71) d_Mo_dsaSign_44 (by decide) (fun c_44 => False.elim (by omega)) (fun c_44 => ?_)
    refine aw_aload_n d_Mo_dsaSign_47 rfl rfl ?_
    refine ax_getR (b := 186) d_Mo_dsaSign_48 fd_Mo_18 (k_175 S) (r_175_2 S) ?_
    refine aw_iconst d_Mo_dsaSign_51 ⟨by decide, by decide⟩ ?_
    refine ax_ialde (x := I 186 0) d_Mo_dsaSign_52 (k_186 S) (by omega) (by rw [n_186 S]; omega) (Eq.trans (e0 186 0 (by omega)) (rfl)) ?_
    refine aw_bipush d_Mo_dsaSign_53 ⟨by decide, by decide⟩ (by decide) ?_
    refine aw_icmp_eq (tgt := 67) d_Mo_dsaSign_55 (by decide) (fun c_55 => ?_) (fun c_55 => ?_)
    · skip
      refine aw_iconst d_Mo_dsaSign_67 ⟨by decide, by decide⟩ ?_
      refine aw_goto (tgt := 72) d_Mo_dsaSign_68 (by decide) ?_
      refine aw_iconst d_Mo_dsaSign_72 ⟨by decide, by decide⟩ ?_
      refine ax_V (st := []) (as := [vi 1, vi 2]) (b := 175) (v := some (vi 1)) (h' := sD h (a_up u_35 175 4 0) L) d_Mo_dsaSign_73 cs_Mo_dsaSign_73 (k_175 S) (c_good1 S (rfl)) rfl rfl rfl ?_
      show AW l G M_Mo_dsaSign P 76 [(0, vr 175), (1, vi 0), (2, vi (-1))] [vi 1] (sD h (a_up u_35 175 4 0) L)
      refine aw_if_eq (tgt := 105) d_Mo_dsaSign_76 (by decide) (fun c_76 => False.elim (by omega)) (fun c_76 => ?_)
      have bb : (-1 : Int) ≠ 0 ∨ I 186 4 ≤ 255 := by rw [e0 186 4 (by omega)] at cx_; omega
      refine aw_aload_n d_Mo_dsaSign_79 rfl rfl ?_
      refine aw_aload_n d_Mo_dsaSign_80 rfl rfl ?_
      refine ax_getR (b := 186) d_Mo_dsaSign_81 fd_Mo_18 (k_175 S) (r_175_2 S) ?_
      refine aw_iconst d_Mo_dsaSign_84 ⟨by decide, by decide⟩ ?_
      refine ax_ialde (x := I 186 2) d_Mo_dsaSign_85 (k_186 S) (by omega) (by rw [n_186 S]; omega) (Eq.trans (a_up_ne (Or.inl (by decide))) (Eq.trans (e0 186 2 (by omega)) (rfl))) ?_
      refine aw_aload_n d_Mo_dsaSign_86 rfl rfl ?_
      refine ax_V (st := [vi (I 186 2), vr 175]) (as := []) (b := 175) (v := some (vi 2560)) (h' := sD h (a_up u_35 175 4 0) L) d_Mo_dsaSign_87 cs_Mo_dsaSign_87 (k_175 S) (c_Mo_secretLength (z := 2560) S (by rw [dr0_33 D1, dr0_32 D1, dr0_26 D1]; decide) (by rw [dr0_32 D1, dr0_26 D1]; decide)) rfl rfl rfl ?_
      show AW l G M_Mo_dsaSign P 90 [(0, vr 175), (1, vi 0), (2, vi (-1))] [vi 2560, vi (I 186 2), vr 175] (sD h (a_up u_35 175 4 0) L)
      refine aw_icmp_ne (tgt := 97) d_Mo_dsaSign_90 (by decide) (fun c_90 => ?_) (fun c_90 => ?_)
      · skip
        refine aw_iconst d_Mo_dsaSign_97 ⟨by decide, by decide⟩ ?_
        refine aw_iconst d_Mo_dsaSign_98 ⟨by decide, by decide⟩ ?_
        refine ax_V (st := []) (as := [vi 0, vi 3]) (b := 175) (v := some (vi 0)) (h' := sD h (a_up u_35 175 4 3) L) d_Mo_dsaSign_99 cs_Mo_dsaSign_99 (k_175 S) (c_good0 S (by rw [a_up_up])) rfl rfl rfl ?_
        show AW l G M_Mo_dsaSign P 102 [(0, vr 175), (1, vi 0), (2, vi (-1))] [vi 0] (sD h (a_up u_35 175 4 3) L)
        refine aw_if_ne (tgt := 107) d_Mo_dsaSign_102 (by decide) (fun c_102 => False.elim (by omega)) (fun c_102 => ?_)
        refine aw_iconst d_Mo_dsaSign_105 ⟨by decide, by decide⟩ ?_
        exact aw_iret d_Mo_dsaSign_106 rfl (hP _ _ (rsNo 0 3 (c4_3 ⟨by decide, by decide⟩ ⟨bb, by omega⟩ (fun z => by have z1 : I 186 2 = 2560 := z; omega)) (by decide) a_up_at (fR0.fr R00 (FR.c0 (p := fun _ => False)) (by intro a x y; exact ⟨fun z => z, fun z => z⟩) (fun z => z))))
      · skip
        refine aw_iconst d_Mo_dsaSign_93 ⟨by decide, by decide⟩ ?_
        refine aw_goto (tgt := 98) d_Mo_dsaSign_94 (by decide) ?_
        refine aw_iconst d_Mo_dsaSign_98 ⟨by decide, by decide⟩ ?_
        refine ax_V (st := []) (as := [vi 1, vi 3]) (b := 175) (v := some (vi 1)) (h' := sD h (a_up u_35 175 4 0) L) d_Mo_dsaSign_99 cs_Mo_dsaSign_99 (k_175 S) (c_good1 S (by rw [a_up_up])) rfl rfl rfl ?_
        show AW l G M_Mo_dsaSign P 102 [(0, vr 175), (1, vi 0), (2, vi (-1))] [vi 1] (sD h (a_up u_35 175 4 0) L)
        refine aw_if_ne (tgt := 107) d_Mo_dsaSign_102 (by decide) (fun c_102 => ?_) (fun c_102 => False.elim (by omega))
        refine aw_aload_n d_Mo_dsaSign_107 rfl rfl ?_
        refine aw_aload_n d_Mo_dsaSign_108 rfl rfl ?_
        refine ax_getR (b := 177) d_Mo_dsaSign_109 fd_Mo_15 (k_175 S) (r_175_1 S) ?_
        refine aw_iconst d_Mo_dsaSign_112 ⟨by decide, by decide⟩ ?_
        refine ax_aald (b := 180) d_Mo_dsaSign_113 ⟨by rw [(k_177 S)]; decide, by rw [(k_177 S)]; decide⟩ (by omega) (by rw [n_177 S]; omega) (g_177 S (j := 2) (by decide) (by decide)) ?_
        refine aw_bipush d_Mo_dsaSign_114 ⟨by decide, by decide⟩ (by decide) ?_
        refine aw_iload_n d_Mo_dsaSign_116 rfl rfl ?_
        have kz : ∀ a j, (a < 175 ∨ 176 ≤ a ∧ a ≤ 202 ∨ 204 ≤ a) → (a_up u_35 175 4 0) a j = I a j := fun a j x => (a_up_ne (Or.inl (by omega))).trans (e0 a j x)
        have rb1 : RB (a_up u_35 175 4 0) := ⟨fun s a b => by rw [kz 186 s (by omega)]; exact rb.1 s a b, by rw [R1.2.1]; exact rb.2⟩
        have k4 := kz 186 4 (by omega)
        have k3 := kz 186 3 (by omega)
        have f180 : ∀ x : Int, (fun k => (a_up u_35 175 4 0) 180 (x + k)) = (fun k => I 180 (x + k)) := fun x => funext (fun k => kz 180 _ (by omega))
        have f0 : ∀ a : Nat, a = 181 ∨ a = 182 → (fun k => (a_up u_35 175 4 0) a (0 + k)) = (fun k => I a (0 + k)) := fun a ha => funext (fun k => kz a _ (by omega))
        refine ax_Vr (st := []) (as := [vr 180, vi 64, vi (-1)]) (b := 175) d_Mo_dsaSign_117 cs_Mo_dsaSign_117 (k_175 S) (c_Mo_digestMessageN (f := 180) (pa := 64) S D1.1 rb1 ⟨k_180 S, by decide, by decide⟩ (by rw [n_180 S]; decide)) rfl rfl rfl (fun u_117 q_117 => ?_)
        obtain ⟨I1, L1⟩ := u_117
        obtain ⟨F1, h1⟩ := q_117
        dsimp only at F1 h1
        rw [k3, f180 64, f0 181 (Or.inl rfl), k4, f0 182 (Or.inr rfl)] at h1
        have h1 : HR I1 265 0 64 (muR I (fun k => I 180 (64 + k)) (-1 : Int)) := h1
        have RS1 := D1.1.fr F1 (by decide)
        show AW l G M_Mo_dsaSign P 120 [(0, vr 175), (1, vi 0), (2, vi (-1))] [] (sD h I1 L1)
        refine aw_aload_n d_Mo_dsaSign_120 rfl rfl ?_
        refine aw_bipush d_Mo_dsaSign_121 ⟨by decide, by decide⟩ (by decide) ?_
        refine ax_Vr (st := []) (as := [vi 12]) (b := 175) d_Mo_dsaSign_123 cs_Mo_dsaSign_123 (k_175 S) (c_Mo_begin12 S) rfl rfl rfl (fun u_123 q_123 => ?_)
        obtain ⟨I2, L2⟩ := u_123
        obtain ⟨F2, e2, k2⟩ := q_123
        dsimp only at F2 e2 k2
        show AW l G M_Mo_dsaSign P 126 [(0, vr 175), (1, vi 0), (2, vi (-1))] [] (sD h I2 L2)
        refine aw_aload_n d_Mo_dsaSign_126 rfl rfl ?_
        refine aw_aload_n d_Mo_dsaSign_127 rfl rfl ?_
        refine ax_getR (b := 177) d_Mo_dsaSign_128 fd_Mo_15 (k_175 S) (r_175_1 S) ?_
        refine aw_iconst d_Mo_dsaSign_131 ⟨by decide, by decide⟩ ?_
        refine ax_aald (b := 180) d_Mo_dsaSign_132 ⟨by rw [(k_177 S)]; decide, by rw [(k_177 S)]; decide⟩ (by omega) (by rw [n_177 S]; omega) (g_177 S (j := 2) (by decide) (by decide)) ?_
        refine aw_bipush d_Mo_dsaSign_133 ⟨by decide, by decide⟩ (by decide) ?_
        refine aw_bipush d_Mo_dsaSign_135 ⟨by decide, by decide⟩ (by decide) ?_
        refine ax_Vr (st := []) (as := [vr 180, vi 32, vi 32]) (b := 175) d_Mo_dsaSign_137 cs_Mo_dsaSign_137 (k_175 S) (c_Mo_put3 S (RS1.rf F2) (by omega) (by rw [e2]; exact spStart_lt (by decide) (by decide)) ⟨k_180 S, by decide, by decide⟩ (by rw [n_180 S]; decide)) rfl rfl rfl (fun u_137 q_137 => ?_)
        obtain ⟨I3, L3⟩ := u_137
        obtain ⟨F3, e3, k3⟩ := q_137
        dsimp only at F3 e3 k3
        show AW l G M_Mo_dsaSign P 140 [(0, vr 175), (1, vi 0), (2, vi (-1))] [] (sD h I3 L3)
        refine aw_iconst d_Mo_dsaSign_140 ⟨by decide, by decide⟩ ?_
        refine aw_istore_n (lv' := [(3, vi 0), (0, vr 175), (1, vi 0), (2, vi (-1))]) d_Mo_dsaSign_141 rfl (by decide) rfl ?_
        have lp_142 : ∀ (n_ : Nat) (i : Int) (K4 : Nat → Int → Int) (M4 : Nat → Int → Int), (0 ≤ i ∧ i ≤ 32) → (RF I3 L3 K4 M4) → (spR K4 M4 = spPart (spR I3 L3) (rnR I) i.toNat) → (K4 175 18 = 12) → ((32 - i).toNat) = n_ → AW l G M_Mo_dsaSign P 142 [(3, vi i), (2, vi (-1)), (1, vi 0), (0, vr 175)] [] (sD h K4 M4) := by
          intro n_
          induction n_ using Nat.strongRecOn with
          | _ n_ ih_142 =>
          intro i K4 M4 hi F4 e4 k4_ hm_142
          refine aw_iload_n d_Mo_dsaSign_142 rfl rfl ?_
          refine aw_bipush d_Mo_dsaSign_143 ⟨by decide, by decide⟩ (by decide) ?_
          refine aw_icmp_ge (tgt := 179) d_Mo_dsaSign_145 (by decide) (fun c_145 => ?_) (fun c_145 => ?_)
          · skip
            refine aw_aload_n d_Mo_dsaSign_179 rfl rfl ?_
            refine aw_aload_n d_Mo_dsaSign_180 rfl rfl ?_
            refine ax_getR (b := 265) d_Mo_dsaSign_181 fd_Mo_93 (k_175 S) (r_175_41 S) ?_
            refine aw_iconst d_Mo_dsaSign_184 ⟨by decide, by decide⟩ ?_
            refine aw_bipush d_Mo_dsaSign_185 ⟨by decide, by decide⟩ (by decide) ?_
            refine ax_Vr (st := []) (as := [vr 265, vi 0, vi 64]) (b := 175) d_Mo_dsaSign_187 cs_Mo_dsaSign_187 (k_175 S) (c_Mo_put3 S ((RS1.rf F2).rf (F3.tr F4)) (by omega) (by rw [e4, e3, e2]; exact spPart_lt (spPart_lt (spStart_lt (by decide) (by decide)) _ _) _ _) ⟨k_265 S, by decide, by decide⟩ (by rw [n_265 S]; decide)) rfl rfl rfl (fun u_187 q_187 => ?_)
            obtain ⟨I6, L6⟩ := u_187
            obtain ⟨F6, e6, k6⟩ := q_187
            dsimp only at F6 e6 k6
            have G6 := (F2.tr (F3.tr F4)).tr F6
            have eS : spTurn (spR I6 L6) = rhS (fun k => I 180 (32 + k)) (rnR I) (muR I (fun k => I 180 (64 + k)) (-1 : Int)) := by rw [e6, e4, e3, e2, show i.toNat = 32 by omega, show Int.toNat 32 = 32 from rfl, show Int.toNat 64 = 64 from rfl, show (fun k => I2 180 (32 + k)) = (fun k => I 180 (32 + k)) from funext (fun z => (F2.1 180 _ (Or.inl (by decide))).trans ((F1.1 180 _ (by decide) (Or.inl (by decide))).trans (kz 180 _ (by omega)))), spPart_congr (f := fun k => K4 265 (0 + k)) (g := (muR I (fun k => I 180 (64 + k)) (-1 : Int))) (fun k hk => by rw [(F2.tr (F3.tr F4)).1 265 _ (Or.inl (by decide)), h1 k (by omega) (by omega)]; exact (spOut_m _ _).symm)]; rfl
            show AW l G M_Mo_dsaSign P 190 [(3, vi i), (2, vi (-1)), (1, vi 0), (0, vr 175)] [] (sD h I6 L6)
            refine aw_aload_n d_Mo_dsaSign_190 rfl rfl ?_
            refine aw_aload_n d_Mo_dsaSign_191 rfl rfl ?_
            refine ax_getR (b := 266) d_Mo_dsaSign_192 fd_Mo_96 (k_175 S) (r_175_42 S) ?_
            refine aw_iconst d_Mo_dsaSign_195 ⟨by decide, by decide⟩ ?_
            refine aw_bipush d_Mo_dsaSign_196 ⟨by decide, by decide⟩ (by decide) ?_
            refine ax_Vr (st := []) (as := [vr 266, vi 0, vi 64]) (b := 175) d_Mo_dsaSign_198 cs_Mo_dsaSign_198 (k_175 S) (c_Mo_give S (RS1.rf G6) (by omega) (by rw [e6, e4, e3, e2]; exact (spPart_lt (spPart_lt (spPart_lt (spStart_lt (by decide) (by decide)) _ _) _ _) _ _).1) ⟨k_266 S, by decide, by decide, by decide⟩ (by rw [n_266 S]; decide)) rfl rfl rfl (fun u_198 q_198 => ?_)
            obtain ⟨I7, L7⟩ := u_198
            obtain ⟨F7, f7, e7, k7⟩ := q_198
            dsimp only at F7 f7 e7 k7
            rw [eS] at F7
            have h7 : HR I7 266 0 64 (rhR I (-1 : Int)) := HR.give F7 (by decide)
            have G7 : FR (fun a => a = 265 ∨ a = 266) (a_up u_35 175 4 0) L I7 L7 := (F1.tr (G6.fr (p := fun a => a = 265)) (fun a x => ⟨x, x⟩)).tr (FR.give (p := fun a => a = 266) F7 f7 rfl) (by intro a x; omega)
            have D7 := D1.fr G7 (by decide)
            have m7 : HR I7 265 0 64 (muR I (fun k => I 180 (64 + k)) (-1 : Int)) := (h1.fr (G6.fr (p := fun _ => False)) (fun z => z) (by decide)).fr (FR.give (p := fun a => a = 266) F7 f7 rfl) (by decide) (by decide)
            show AW l G M_Mo_dsaSign P 201 [(3, vi i), (2, vi (-1)), (1, vi 0), (0, vr 175)] [] (sD h I7 L7)
            refine aw_aload_n d_Mo_dsaSign_201 rfl rfl ?_
            refine ax_getIe (x := 2) d_Mo_dsaSign_202 fd_Mo_229 (k_175 S) (dr0_33 D7) ?_
            refine aw_iconst d_Mo_dsaSign_205 ⟨by decide, by decide⟩ ?_
            refine aw_icmp_ne (tgt := 213) d_Mo_dsaSign_206 (by decide) (fun c_206 => False.elim (by omega)) (fun c_206 => ?_)
            refine aw_iconst d_Mo_dsaSign_209 ⟨by decide, by decide⟩ ?_
            refine aw_goto (tgt := 214) d_Mo_dsaSign_210 (by decide) ?_
            refine aw_istore_n (lv' := [(3, vi 3), (2, vi (-1)), (1, vi 0), (0, vr 175)]) d_Mo_dsaSign_214 rfl (by decide) rfl ?_
            refine aw_aload_n d_Mo_dsaSign_215 rfl rfl ?_
            refine aw_iconst d_Mo_dsaSign_216 ⟨by decide, by decide⟩ ?_
            refine ax_putI d_Mo_dsaSign_217 fd_Mo_216 (k_175 S) (by decide) rfl ?_
            refine aw_iconst d_Mo_dsaSign_220 ⟨by decide, by decide⟩ ?_
            refine aw_istore (lv' := [(4, vi 0), (3, vi 3), (2, vi (-1)), (1, vi 0), (0, vr 175)]) d_Mo_dsaSign_221 (by decide) rfl ?_
            have lp_223 : ∀ (n_ : Nat) (i : Int) (K5 : Nat → Int → Int), (0 ≤ i ∧ i ≤ 8) → (FR (fun a => 205 ≤ a ∧ a ≤ 219) I7 L7 K5 L7) → (K5 175 23 = 8 * (96 * i)) → (∀ m, 0 ≤ m → m < i → eqQ (K5 (205 + m.toNat)) (sgSs 0 (rkR I) m)) → ((8 - i).toNat) = n_ → AW l G M_Mo_dsaSign P 223 [(4, vi i), (3, vi 3), (2, vi (-1)), (1, vi 0), (0, vr 175)] [] (sD h K5 L7) := by
              intro n_
              induction n_ using Nat.strongRecOn with
              | _ n_ ih_223 =>
              intro i K5 hi5 G5 b5 s5 hm_223
              have sk5 : ∀ x, K5 180 x = I 180 x := fun x => (G5.1 _ _ (by decide) (Or.inl (by decide))).trans ((G7.1 _ _ (by decide) (Or.inl (by decide))).trans (kz 180 x (by omega)))
              refine aw_iload d_Mo_dsaSign_223 rfl ?_
              refine aw_aload_n d_Mo_dsaSign_225 rfl rfl ?_
              refine ax_getIe (x := 4) d_Mo_dsaSign_226 fd_Mo_226 (k_175 S) (Eq.trans (G5.1 175 32 (by omega) (Or.inr (by decide))) (dr0_32 D7)) ?_
              refine aw_aload_n d_Mo_dsaSign_229 rfl rfl ?_
              refine ax_getIe (x := 4) d_Mo_dsaSign_230 fd_Mo_223 (k_175 S) (Eq.trans (G5.1 175 26 (by omega) (Or.inr (by decide))) (dr0_26 D7)) ?_
              refine ax_iadd d_Mo_dsaSign_233 ⟨(by omega), (by omega)⟩ ?_
              refine ax_ti (x := 8) (by decide) ?_
              refine aw_icmp_ge (tgt := 268) d_Mo_dsaSign_234 (by decide) (fun c_234 => ?_) (fun c_234 => ?_)
              · skip
                refine aw_iconst d_Mo_dsaSign_268 ⟨by decide, by decide⟩ ?_
                refine aw_istore (lv' := [(4, vi 0), (3, vi 3), (2, vi (-1)), (1, vi 0), (0, vr 175)]) d_Mo_dsaSign_269 (by decide) rfl ?_
                have lp_271 : ∀ (n_ : Nat) (i : Int) (K6 : Nat → Int → Int), (0 ≤ i ∧ i ≤ 4) → (FR (fun a => 205 ≤ a ∧ a ≤ 227) I7 L7 K6 L7) → (K6 175 23 = 8 * (768 + 416 * i)) → (∀ m, 0 ≤ m → m < 8 → eqQ (K6 (205 + m.toNat)) (sgSs 0 (rkR I) m)) → (∀ m, 0 ≤ m → m < i → eqQ (K6 (205 + (15 + m).toNat)) (sgDs 0 (rkR I) m)) → ((4 - i).toNat) = n_ → AW l G M_Mo_dsaSign P 271 [(4, vi i), (2, vi (-1)), (1, vi 0), (0, vr 175)] [] (sD h K6 L7) := by
                  intro n_
                  induction n_ using Nat.strongRecOn with
                  | _ n_ ih_271 =>
                  intro i K6 hi6 Gy b6 s6 t6 hm_271
                  have sk6 : ∀ x, K6 180 x = I 180 x := fun x => (Gy.1 _ _ (by decide) (Or.inl (by decide))).trans ((G7.1 _ _ (by decide) (Or.inl (by decide))).trans (kz 180 x (by omega)))
                  refine aw_iload d_Mo_dsaSign_271 rfl ?_
                  refine aw_aload_n d_Mo_dsaSign_273 rfl rfl ?_
                  refine ax_getIe (x := 4) d_Mo_dsaSign_274 fd_Mo_223 (k_175 S) (Eq.trans (Gy.1 175 26 (by omega) (Or.inr (by decide))) (dr0_26 D7)) ?_
                  refine aw_icmp_ge (tgt := 314) d_Mo_dsaSign_277 (by decide) (fun c_277 => ?_) (fun c_277 => ?_)
                  · skip
                    refine aw_sub (lv' := [(0, vr 175)]) (by simp) ?_
                    exact sB0N S (fR0.fr (fR0.fr R1 G7 (r := qN) (by intro a x y; exact ⟨fun z => z, by omega⟩) (by decide)) Gy (by intro a x y; exact ⟨fun z => z, by omega⟩) (by decide)) (D7.fr Gy (by decide)) (m7.fr Gy (by decide) (by decide)) (h7.fr Gy (by decide) (by decide)) s6 (fun m a b => t6 m a (by omega)) ⟨bb, by omega⟩ (by show I 186 2 = 2560; omega) hP
                  · skip
                    refine aw_aload_n d_Mo_dsaSign_280 rfl rfl ?_
                    refine aw_aload_n d_Mo_dsaSign_281 rfl rfl ?_
                    refine ax_getR (b := 177) d_Mo_dsaSign_282 fd_Mo_15 (k_175 S) (r_175_1 S) ?_
                    refine aw_iconst d_Mo_dsaSign_285 ⟨by decide, by decide⟩ ?_
                    refine ax_aald (b := 180) d_Mo_dsaSign_286 ⟨by rw [(k_177 S)]; decide, by rw [(k_177 S)]; decide⟩ (by omega) (by rw [n_177 S]; omega) (g_177 S (j := 2) (by decide) (by decide)) ?_
                    refine aw_sipush d_Mo_dsaSign_287 ⟨by decide, by decide⟩ (by decide) ?_
                    refine aw_aload_n d_Mo_dsaSign_290 rfl rfl ?_
                    refine ax_getR (b := 204) d_Mo_dsaSign_291 fd_Mo_76 (k_175 S) (r_175_28 S) ?_
                    refine aw_bipush d_Mo_dsaSign_294 ⟨by decide, by decide⟩ (by decide) ?_
                    refine aw_iload d_Mo_dsaSign_296 rfl ?_
                    refine ax_iadd d_Mo_dsaSign_298 ⟨(by omega), (by omega)⟩ ?_
                    refine ax_aald (b := 205 + (15 + i).toNat) d_Mo_dsaSign_299 ⟨by rw [(k_204 S)]; decide, by rw [(k_204 S)]; decide⟩ (by omega) (by rw [n_204 S]; omega) (g_204 S (by omega) (by omega)) ?_
                    refine aw_sipush d_Mo_dsaSign_300 ⟨by decide, by decide⟩ (by decide) ?_
                    refine aw_bipush d_Mo_dsaSign_303 ⟨by decide, by decide⟩ (by decide) ?_
                    refine ax_Vr (st := []) (as := [vr 180, vi 128, vr (205 + (15 + i).toNat), vi 4096, vi 13]) (b := 175) d_Mo_dsaSign_305 cs_Mo_dsaSign_305 (k_175 S) (c_Mo_unpack (pa := 128) (c := 768 + 416 * i) (d := 13) (b := 4096) S ⟨k_180 S, by decide, by decide⟩ ⟨kr_204 S (by omega), by omega, nr_204 S (by omega)⟩ (by omega) (by decide) (by omega) (by decide) (by rw [n_180 S]; omega)) rfl rfl rfl (fun u_305 q_305 => ?_)
                    obtain ⟨q1, q2, q3⟩ := q_305
                    have Fy : FR (fun a => 220 ≤ a ∧ a ≤ 227) K6 L7 u_305 L7 := FR.unp q1 (by omega)
                    show AW l G M_Mo_dsaSign P 308 [(4, vi i), (2, vi (-1)), (1, vi 0), (0, vr 175)] [] (sD h u_305 L7)
                    refine ax_iinc (lv' := [(4, vi (i + 1)), (2, vi (-1)), (1, vi 0), (0, vr 175)]) d_Mo_dsaSign_308 rfl (by decide) ⟨(by omega), (by omega)⟩ rfl ?_
                    refine aw_goto (tgt := 271) d_Mo_dsaSign_311 (by decide) ?_
                    exact ih_271 _ (by omega) (i + 1) u_305 (by omega) (Gy.tr (Fy.mono (r := fun a => 205 ≤ a ∧ a ≤ 227) (by intro a x; omega)) (fun a x => ⟨x, x⟩)) (by omega) (fun m a b x u v => by rw [q1 _ _ (by omega) (Or.inl (by omega))]; exact s6 m a b x u v) (fun m a b x u v => by by_cases z : m = i; exact (by rw [z, q3 x u v, show (fun j => K6 180 (128 + (768 + 416 * i) + j) % 256) = (fun j => I 180 (896 + 416 * i + j) % 256) from funext (fun y => by rw [sk6, show (128 + (768 + 416 * i) : Int) = 896 + 416 * i by omega])]; show _ = 4096 - gR (fun k => rkR I (896 + 416 * i + k)) 13 x; rw [gR_congr (g := fun j => I 180 (896 + 416 * i + j) % 256) (g' := fun k => rkR I (896 + 416 * i + k)) (fun y y0 y1 => (gW_in (s := 2) (by omega) (by rw [show I 186 2 = 2560 by omega]; omega)).symm)]); exact (by rw [q1 _ _ (by omega) (Or.inl (by omega))]; exact t6 m a (by omega) x u v)) rfl
                skip
                refine aw_sub (lv' := [(4, vi 0), (2, vi (-1)), (1, vi 0), (0, vr 175)]) (by simp) ?_
                exact lp_271 _ 0 K5 (by omega) (G5.mono (by intro a x; omega)) (by omega) (fun m a b => s5 m a (by omega)) (fun m a b => by omega) rfl
              · skip
                refine aw_aload_n d_Mo_dsaSign_237 rfl rfl ?_
                refine aw_aload_n d_Mo_dsaSign_238 rfl rfl ?_
                refine ax_getR (b := 177) d_Mo_dsaSign_239 fd_Mo_15 (k_175 S) (r_175_1 S) ?_
                refine aw_iconst d_Mo_dsaSign_242 ⟨by decide, by decide⟩ ?_
                refine ax_aald (b := 180) d_Mo_dsaSign_243 ⟨by rw [(k_177 S)]; decide, by rw [(k_177 S)]; decide⟩ (by omega) (by rw [n_177 S]; omega) (g_177 S (j := 2) (by decide) (by decide)) ?_
                refine aw_sipush d_Mo_dsaSign_244 ⟨by decide, by decide⟩ (by decide) ?_
                refine aw_aload_n d_Mo_dsaSign_247 rfl rfl ?_
                refine ax_getR (b := 204) d_Mo_dsaSign_248 fd_Mo_76 (k_175 S) (r_175_28 S) ?_
                refine aw_iload d_Mo_dsaSign_251 rfl ?_
                refine ax_aald (b := 205 + i.toNat) d_Mo_dsaSign_253 ⟨by rw [(k_204 S)]; decide, by rw [(k_204 S)]; decide⟩ (by omega) (by rw [n_204 S]; omega) (g_204 S (by omega) (by omega)) ?_
                refine aw_aload_n d_Mo_dsaSign_254 rfl rfl ?_
                refine ax_getIe (x := 2) d_Mo_dsaSign_255 fd_Mo_229 (k_175 S) (Eq.trans (G5.1 175 33 (by omega) (Or.inr (by decide))) (dr0_33 D7)) ?_
                refine aw_iload_n d_Mo_dsaSign_258 rfl rfl ?_
                refine ax_Vr (st := []) (as := [vr 180, vi 128, vr (205 + i.toNat), vi 2, vi 3]) (b := 175) d_Mo_dsaSign_259 cs_Mo_dsaSign_259 (k_175 S) (c_Mo_unpack (pa := 128) (c := 96 * i) (d := 3) (b := 2) S ⟨k_180 S, by decide, by decide⟩ ⟨kr_204 S (by omega), by omega, nr_204 S (by omega)⟩ (by omega) (by decide) (by omega) (by decide) (by rw [n_180 S]; omega)) rfl rfl rfl (fun u_259 q_259 => ?_)
                obtain ⟨q1, q2, q3⟩ := q_259
                have Fx : FR (fun a => 205 ≤ a ∧ a ≤ 219) K5 L7 u_259 L7 := FR.unp q1 (by omega)
                show AW l G M_Mo_dsaSign P 262 [(4, vi i), (3, vi 3), (2, vi (-1)), (1, vi 0), (0, vr 175)] [] (sD h u_259 L7)
                refine ax_iinc (lv' := [(4, vi (i + 1)), (3, vi 3), (2, vi (-1)), (1, vi 0), (0, vr 175)]) d_Mo_dsaSign_262 rfl (by decide) ⟨(by omega), (by omega)⟩ rfl ?_
                refine aw_goto (tgt := 223) d_Mo_dsaSign_265 (by decide) ?_
                exact ih_223 _ (by omega) (i + 1) u_259 (by omega) (G5.tr Fx (fun a x => ⟨x, x⟩)) (by omega) (fun m a b x u v => by by_cases z : m = i; exact (by rw [z, q3 x u v, show (fun j => K5 180 (128 + 96 * i + j) % 256) = (fun j => I 180 (128 + 96 * i + j) % 256) from funext (fun y => by rw [sk5])]; show _ = 2 - gR (fun k => rkR I (128 + 96 * i + k)) 3 x; rw [gR_congr (g := fun j => I 180 (128 + 96 * i + j) % 256) (g' := fun k => rkR I (128 + 96 * i + k)) (fun y y0 y1 => (gW_in (s := 2) (by omega) (by rw [show I 186 2 = 2560 by omega]; omega)).symm)]); exact (by rw [q1 _ _ (by omega) (Or.inl (by omega))]; exact s5 m a (by omega) x u v)) rfl
            skip
            exact lp_223 _ 0 (a_up I7 175 23 0) (by omega) (FR.b0) (a_up_at.trans (by decide)) (fun m a b => by omega) rfl
          · skip
            refine aw_aload_n d_Mo_dsaSign_148 rfl rfl ?_
            refine aw_aload_n d_Mo_dsaSign_149 rfl rfl ?_
            refine ax_getR (b := 186) d_Mo_dsaSign_150 fd_Mo_18 (k_175 S) (r_175_2 S) ?_
            refine aw_iconst d_Mo_dsaSign_153 ⟨by decide, by decide⟩ ?_
            refine ax_ialde (x := I 186 0) d_Mo_dsaSign_154 (k_186 S) (by omega) (by rw [n_186 S]; omega) (Eq.trans ((F2.tr (F3.tr F4)).1 186 0 (Or.inl (by decide))) (Eq.trans (F1.1 186 0 (by decide) (Or.inl (by decide))) (Eq.trans (kz 186 0 (by omega)) (rfl)))) ?_
            refine aw_if_ne (tgt := 162) d_Mo_dsaSign_155 (by decide) (fun c_155 => ?_) (fun c_155 => ?_)
            · skip
              refine aw_aload_n d_Mo_dsaSign_162 rfl rfl ?_
              refine ax_getR (b := 177) d_Mo_dsaSign_163 fd_Mo_15 (k_175 S) (r_175_1 S) ?_
              refine aw_iconst d_Mo_dsaSign_166 ⟨by decide, by decide⟩ ?_
              refine ax_aald (b := 178) d_Mo_dsaSign_167 ⟨by rw [(k_177 S)]; decide, by rw [(k_177 S)]; decide⟩ (by omega) (by rw [n_177 S]; omega) (g_177 S (j := 0) (by decide) (by decide)) ?_
              refine aw_iload_n d_Mo_dsaSign_168 rfl rfl ?_
              refine ax_balde (x := I 178 i) d_Mo_dsaSign_169 (k_178 S) (by omega) (by rw [n_178 S]; omega) (Eq.trans ((F2.tr (F3.tr F4)).1 178 i (Or.inl (by decide))) (Eq.trans (F1.1 178 i (by decide) (Or.inl (by decide))) (Eq.trans (kz 178 i (by omega)) (rfl)))) ?_
              have vv : rnR I i = I 178 i := by unfold rnR; rw [if_neg (by omega)]
              refine ax_Vr (st := []) (as := [vi (I 178 i)]) (b := 175) d_Mo_dsaSign_170 cs_Mo_dsaSign_170 (k_175 S) (c_Mo_put1 S ((RS1.rf F2).rf (F3.tr F4)) (by omega) (by rw [e4, e3, e2]; exact spPart_lt (spPart_lt (spStart_lt (by decide) (by decide)) _ _) _ _)) rfl rfl rfl (fun u_170 q_170 => ?_)
              obtain ⟨I5, L5⟩ := u_170
              obtain ⟨F5, e5, k5⟩ := q_170
              dsimp only at F5 e5 k5
              show AW l G M_Mo_dsaSign P 173 [(3, vi i), (2, vi (-1)), (1, vi 0), (0, vr 175)] [] (sD h I5 L5)
              refine ax_iinc (lv' := [(3, vi (i + 1)), (2, vi (-1)), (1, vi 0), (0, vr 175)]) d_Mo_dsaSign_173 rfl (by decide) ⟨(by omega), (by omega)⟩ rfl ?_
              refine aw_goto (tgt := 142) d_Mo_dsaSign_176 (by decide) ?_
              exact ih_142 _ (by omega) (i + 1) I5 L5 (by omega) (F4.tr F5) (by rw [e5, e4, show (i + 1).toNat = i.toNat + 1 by omega]; show _ = spTake (spPart (spR I3 L3) (rnR I) i.toNat) (rnR I (i.toNat : Int)); rw [Int.toNat_of_nonneg hi.1, vv]) (by omega) rfl
            · skip
              refine aw_iconst d_Mo_dsaSign_158 ⟨by decide, by decide⟩ ?_
              refine aw_goto (tgt := 170) d_Mo_dsaSign_159 (by decide) ?_
              have vv : rnR I i = 0 := by unfold rnR; rw [if_pos (by omega)]
              refine ax_Vr (st := []) (as := [vi 0]) (b := 175) d_Mo_dsaSign_170 cs_Mo_dsaSign_170 (k_175 S) (c_Mo_put1 S ((RS1.rf F2).rf (F3.tr F4)) (by omega) (by rw [e4, e3, e2]; exact spPart_lt (spPart_lt (spStart_lt (by decide) (by decide)) _ _) _ _)) rfl rfl rfl (fun u_170 q_170 => ?_)
              obtain ⟨I5, L5⟩ := u_170
              obtain ⟨F5, e5, k5⟩ := q_170
              dsimp only at F5 e5 k5
              show AW l G M_Mo_dsaSign P 173 [(3, vi i), (2, vi (-1)), (1, vi 0), (0, vr 175)] [] (sD h I5 L5)
              refine ax_iinc (lv' := [(3, vi (i + 1)), (2, vi (-1)), (1, vi 0), (0, vr 175)]) d_Mo_dsaSign_173 rfl (by decide) ⟨(by omega), (by omega)⟩ rfl ?_
              refine aw_goto (tgt := 142) d_Mo_dsaSign_176 (by decide) ?_
              exact ih_142 _ (by omega) (i + 1) I5 L5 (by omega) (F4.tr F5) (by rw [e5, e4, show (i + 1).toNat = i.toNat + 1 by omega]; show _ = spTake (spPart (spR I3 L3) (rnR I) i.toNat) (rnR I (i.toNat : Int)); rw [Int.toNat_of_nonneg hi.1, vv]) (by omega) rfl
        skip
        refine aw_sub (lv' := [(3, vi 0), (2, vi (-1)), (1, vi 0), (0, vr 175)]) (by simp) ?_
        exact lp_142 _ 0 I3 L3 (by omega) (RF.rfl') (rfl) (by omega) rfl
    · skip
      refine aw_aload_n d_Mo_dsaSign_58 rfl rfl ?_
      refine ax_getR (b := 186) d_Mo_dsaSign_59 fd_Mo_18 (k_175 S) (r_175_2 S) ?_
      refine aw_iconst d_Mo_dsaSign_62 ⟨by decide, by decide⟩ ?_
      refine ax_ialde (x := I 186 0) d_Mo_dsaSign_63 (k_186 S) (by omega) (by rw [n_186 S]; omega) (Eq.trans (e0 186 0 (by omega)) (rfl)) ?_
      refine aw_if_ne (tgt := 71) d_Mo_dsaSign_64 (by decide) (fun c_64 => ?_) (fun c_64 => ?_)
      · skip
        refine aw_iconst d_Mo_dsaSign_71 ⟨by decide, by decide⟩ ?_
        refine aw_iconst d_Mo_dsaSign_72 ⟨by decide, by decide⟩ ?_
        refine ax_V (st := []) (as := [vi 0, vi 2]) (b := 175) (v := some (vi 0)) (h' := sD h (a_up u_35 175 4 2) L) d_Mo_dsaSign_73 cs_Mo_dsaSign_73 (k_175 S) (c_good0 S (rfl)) rfl rfl rfl ?_
        show AW l G M_Mo_dsaSign P 76 [(0, vr 175), (1, vi 0), (2, vi (-1))] [vi 0] (sD h (a_up u_35 175 4 2) L)
        refine aw_if_eq (tgt := 105) d_Mo_dsaSign_76 (by decide) (fun c_76 => ?_) (fun c_76 => False.elim (by omega))
        refine aw_iconst d_Mo_dsaSign_105 ⟨by decide, by decide⟩ ?_
        exact aw_iret d_Mo_dsaSign_106 rfl (hP _ _ (rsNo 0 2 (c4_2 ⟨by decide, by decide⟩ (fun z => by rw [e0 186 4 (by omega)] at cx_; have z1 := z.1; have z2 := z.2; omega)) (by decide) a_up_at (fR0.fr R00 (FR.c0 (p := fun _ => False)) (by intro a x y; exact ⟨fun z => z, fun z => z⟩) (fun z => z))))
      · skip
        refine aw_iconst d_Mo_dsaSign_67 ⟨by decide, by decide⟩ ?_
        refine aw_goto (tgt := 72) d_Mo_dsaSign_68 (by decide) ?_
        refine aw_iconst d_Mo_dsaSign_72 ⟨by decide, by decide⟩ ?_
        refine ax_V (st := []) (as := [vi 1, vi 2]) (b := 175) (v := some (vi 1)) (h' := sD h (a_up u_35 175 4 0) L) d_Mo_dsaSign_73 cs_Mo_dsaSign_73 (k_175 S) (c_good1 S (rfl)) rfl rfl rfl ?_
        show AW l G M_Mo_dsaSign P 76 [(0, vr 175), (1, vi 0), (2, vi (-1))] [vi 1] (sD h (a_up u_35 175 4 0) L)
        refine aw_if_eq (tgt := 105) d_Mo_dsaSign_76 (by decide) (fun c_76 => False.elim (by omega)) (fun c_76 => ?_)
        have bb : (-1 : Int) ≠ 0 ∨ I 186 4 ≤ 255 := by rw [e0 186 4 (by omega)] at cx_; omega
        refine aw_aload_n d_Mo_dsaSign_79 rfl rfl ?_
        refine aw_aload_n d_Mo_dsaSign_80 rfl rfl ?_
        refine ax_getR (b := 186) d_Mo_dsaSign_81 fd_Mo_18 (k_175 S) (r_175_2 S) ?_
        refine aw_iconst d_Mo_dsaSign_84 ⟨by decide, by decide⟩ ?_
        refine ax_ialde (x := I 186 2) d_Mo_dsaSign_85 (k_186 S) (by omega) (by rw [n_186 S]; omega) (Eq.trans (a_up_ne (Or.inl (by decide))) (Eq.trans (e0 186 2 (by omega)) (rfl))) ?_
        refine aw_aload_n d_Mo_dsaSign_86 rfl rfl ?_
        refine ax_V (st := [vi (I 186 2), vr 175]) (as := []) (b := 175) (v := some (vi 2560)) (h' := sD h (a_up u_35 175 4 0) L) d_Mo_dsaSign_87 cs_Mo_dsaSign_87 (k_175 S) (c_Mo_secretLength (z := 2560) S (by rw [dr0_33 D1, dr0_32 D1, dr0_26 D1]; decide) (by rw [dr0_32 D1, dr0_26 D1]; decide)) rfl rfl rfl ?_
        show AW l G M_Mo_dsaSign P 90 [(0, vr 175), (1, vi 0), (2, vi (-1))] [vi 2560, vi (I 186 2), vr 175] (sD h (a_up u_35 175 4 0) L)
        refine aw_icmp_ne (tgt := 97) d_Mo_dsaSign_90 (by decide) (fun c_90 => ?_) (fun c_90 => ?_)
        · skip
          refine aw_iconst d_Mo_dsaSign_97 ⟨by decide, by decide⟩ ?_
          refine aw_iconst d_Mo_dsaSign_98 ⟨by decide, by decide⟩ ?_
          refine ax_V (st := []) (as := [vi 0, vi 3]) (b := 175) (v := some (vi 0)) (h' := sD h (a_up u_35 175 4 3) L) d_Mo_dsaSign_99 cs_Mo_dsaSign_99 (k_175 S) (c_good0 S (by rw [a_up_up])) rfl rfl rfl ?_
          show AW l G M_Mo_dsaSign P 102 [(0, vr 175), (1, vi 0), (2, vi (-1))] [vi 0] (sD h (a_up u_35 175 4 3) L)
          refine aw_if_ne (tgt := 107) d_Mo_dsaSign_102 (by decide) (fun c_102 => False.elim (by omega)) (fun c_102 => ?_)
          refine aw_iconst d_Mo_dsaSign_105 ⟨by decide, by decide⟩ ?_
          exact aw_iret d_Mo_dsaSign_106 rfl (hP _ _ (rsNo 0 3 (c4_3 ⟨by decide, by decide⟩ ⟨bb, by omega⟩ (fun z => by have z1 : I 186 2 = 2560 := z; omega)) (by decide) a_up_at (fR0.fr R00 (FR.c0 (p := fun _ => False)) (by intro a x y; exact ⟨fun z => z, fun z => z⟩) (fun z => z))))
        · skip
          refine aw_iconst d_Mo_dsaSign_93 ⟨by decide, by decide⟩ ?_
          refine aw_goto (tgt := 98) d_Mo_dsaSign_94 (by decide) ?_
          refine aw_iconst d_Mo_dsaSign_98 ⟨by decide, by decide⟩ ?_
          refine ax_V (st := []) (as := [vi 1, vi 3]) (b := 175) (v := some (vi 1)) (h' := sD h (a_up u_35 175 4 0) L) d_Mo_dsaSign_99 cs_Mo_dsaSign_99 (k_175 S) (c_good1 S (by rw [a_up_up])) rfl rfl rfl ?_
          show AW l G M_Mo_dsaSign P 102 [(0, vr 175), (1, vi 0), (2, vi (-1))] [vi 1] (sD h (a_up u_35 175 4 0) L)
          refine aw_if_ne (tgt := 107) d_Mo_dsaSign_102 (by decide) (fun c_102 => ?_) (fun c_102 => False.elim (by omega))
          refine aw_aload_n d_Mo_dsaSign_107 rfl rfl ?_
          refine aw_aload_n d_Mo_dsaSign_108 rfl rfl ?_
          refine ax_getR (b := 177) d_Mo_dsaSign_109 fd_Mo_15 (k_175 S) (r_175_1 S) ?_
          refine aw_iconst d_Mo_dsaSign_112 ⟨by decide, by decide⟩ ?_
          refine ax_aald (b := 180) d_Mo_dsaSign_113 ⟨by rw [(k_177 S)]; decide, by rw [(k_177 S)]; decide⟩ (by omega) (by rw [n_177 S]; omega) (g_177 S (j := 2) (by decide) (by decide)) ?_
          refine aw_bipush d_Mo_dsaSign_114 ⟨by decide, by decide⟩ (by decide) ?_
          refine aw_iload_n d_Mo_dsaSign_116 rfl rfl ?_
          have kz : ∀ a j, (a < 175 ∨ 176 ≤ a ∧ a ≤ 202 ∨ 204 ≤ a) → (a_up u_35 175 4 0) a j = I a j := fun a j x => (a_up_ne (Or.inl (by omega))).trans (e0 a j x)
          have rb1 : RB (a_up u_35 175 4 0) := ⟨fun s a b => by rw [kz 186 s (by omega)]; exact rb.1 s a b, by rw [R1.2.1]; exact rb.2⟩
          have k4 := kz 186 4 (by omega)
          have k3 := kz 186 3 (by omega)
          have f180 : ∀ x : Int, (fun k => (a_up u_35 175 4 0) 180 (x + k)) = (fun k => I 180 (x + k)) := fun x => funext (fun k => kz 180 _ (by omega))
          have f0 : ∀ a : Nat, a = 181 ∨ a = 182 → (fun k => (a_up u_35 175 4 0) a (0 + k)) = (fun k => I a (0 + k)) := fun a ha => funext (fun k => kz a _ (by omega))
          refine ax_Vr (st := []) (as := [vr 180, vi 64, vi (-1)]) (b := 175) d_Mo_dsaSign_117 cs_Mo_dsaSign_117 (k_175 S) (c_Mo_digestMessageN (f := 180) (pa := 64) S D1.1 rb1 ⟨k_180 S, by decide, by decide⟩ (by rw [n_180 S]; decide)) rfl rfl rfl (fun u_117 q_117 => ?_)
          obtain ⟨I1, L1⟩ := u_117
          obtain ⟨F1, h1⟩ := q_117
          dsimp only at F1 h1
          rw [k3, f180 64, f0 181 (Or.inl rfl), k4, f0 182 (Or.inr rfl)] at h1
          have h1 : HR I1 265 0 64 (muR I (fun k => I 180 (64 + k)) (-1 : Int)) := h1
          have RS1 := D1.1.fr F1 (by decide)
          show AW l G M_Mo_dsaSign P 120 [(0, vr 175), (1, vi 0), (2, vi (-1))] [] (sD h I1 L1)
          refine aw_aload_n d_Mo_dsaSign_120 rfl rfl ?_
          refine aw_bipush d_Mo_dsaSign_121 ⟨by decide, by decide⟩ (by decide) ?_
          refine ax_Vr (st := []) (as := [vi 12]) (b := 175) d_Mo_dsaSign_123 cs_Mo_dsaSign_123 (k_175 S) (c_Mo_begin12 S) rfl rfl rfl (fun u_123 q_123 => ?_)
          obtain ⟨I2, L2⟩ := u_123
          obtain ⟨F2, e2, k2⟩ := q_123
          dsimp only at F2 e2 k2
          show AW l G M_Mo_dsaSign P 126 [(0, vr 175), (1, vi 0), (2, vi (-1))] [] (sD h I2 L2)
          refine aw_aload_n d_Mo_dsaSign_126 rfl rfl ?_
          refine aw_aload_n d_Mo_dsaSign_127 rfl rfl ?_
          refine ax_getR (b := 177) d_Mo_dsaSign_128 fd_Mo_15 (k_175 S) (r_175_1 S) ?_
          refine aw_iconst d_Mo_dsaSign_131 ⟨by decide, by decide⟩ ?_
          refine ax_aald (b := 180) d_Mo_dsaSign_132 ⟨by rw [(k_177 S)]; decide, by rw [(k_177 S)]; decide⟩ (by omega) (by rw [n_177 S]; omega) (g_177 S (j := 2) (by decide) (by decide)) ?_
          refine aw_bipush d_Mo_dsaSign_133 ⟨by decide, by decide⟩ (by decide) ?_
          refine aw_bipush d_Mo_dsaSign_135 ⟨by decide, by decide⟩ (by decide) ?_
          refine ax_Vr (st := []) (as := [vr 180, vi 32, vi 32]) (b := 175) d_Mo_dsaSign_137 cs_Mo_dsaSign_137 (k_175 S) (c_Mo_put3 S (RS1.rf F2) (by omega) (by rw [e2]; exact spStart_lt (by decide) (by decide)) ⟨k_180 S, by decide, by decide⟩ (by rw [n_180 S]; decide)) rfl rfl rfl (fun u_137 q_137 => ?_)
          obtain ⟨I3, L3⟩ := u_137
          obtain ⟨F3, e3, k3⟩ := q_137
          dsimp only at F3 e3 k3
          show AW l G M_Mo_dsaSign P 140 [(0, vr 175), (1, vi 0), (2, vi (-1))] [] (sD h I3 L3)
          refine aw_iconst d_Mo_dsaSign_140 ⟨by decide, by decide⟩ ?_
          refine aw_istore_n (lv' := [(3, vi 0), (0, vr 175), (1, vi 0), (2, vi (-1))]) d_Mo_dsaSign_141 rfl (by decide) rfl ?_
          have lp_142 : ∀ (n_ : Nat) (i : Int) (K4 : Nat → Int → Int) (M4 : Nat → Int → Int), (0 ≤ i ∧ i ≤ 32) → (RF I3 L3 K4 M4) → (spR K4 M4 = spPart (spR I3 L3) (rnR I) i.toNat) → (K4 175 18 = 12) → ((32 - i).toNat) = n_ → AW l G M_Mo_dsaSign P 142 [(3, vi i), (2, vi (-1)), (1, vi 0), (0, vr 175)] [] (sD h K4 M4) := by
            intro n_
            induction n_ using Nat.strongRecOn with
            | _ n_ ih_142 =>
            intro i K4 M4 hi F4 e4 k4_ hm_142
            refine aw_iload_n d_Mo_dsaSign_142 rfl rfl ?_
            refine aw_bipush d_Mo_dsaSign_143 ⟨by decide, by decide⟩ (by decide) ?_
            refine aw_icmp_ge (tgt := 179) d_Mo_dsaSign_145 (by decide) (fun c_145 => ?_) (fun c_145 => ?_)
            · skip
              refine aw_aload_n d_Mo_dsaSign_179 rfl rfl ?_
              refine aw_aload_n d_Mo_dsaSign_180 rfl rfl ?_
              refine ax_getR (b := 265) d_Mo_dsaSign_181 fd_Mo_93 (k_175 S) (r_175_41 S) ?_
              refine aw_iconst d_Mo_dsaSign_184 ⟨by decide, by decide⟩ ?_
              refine aw_bipush d_Mo_dsaSign_185 ⟨by decide, by decide⟩ (by decide) ?_
              refine ax_Vr (st := []) (as := [vr 265, vi 0, vi 64]) (b := 175) d_Mo_dsaSign_187 cs_Mo_dsaSign_187 (k_175 S) (c_Mo_put3 S ((RS1.rf F2).rf (F3.tr F4)) (by omega) (by rw [e4, e3, e2]; exact spPart_lt (spPart_lt (spStart_lt (by decide) (by decide)) _ _) _ _) ⟨k_265 S, by decide, by decide⟩ (by rw [n_265 S]; decide)) rfl rfl rfl (fun u_187 q_187 => ?_)
              obtain ⟨I6, L6⟩ := u_187
              obtain ⟨F6, e6, k6⟩ := q_187
              dsimp only at F6 e6 k6
              have G6 := (F2.tr (F3.tr F4)).tr F6
              have eS : spTurn (spR I6 L6) = rhS (fun k => I 180 (32 + k)) (rnR I) (muR I (fun k => I 180 (64 + k)) (-1 : Int)) := by rw [e6, e4, e3, e2, show i.toNat = 32 by omega, show Int.toNat 32 = 32 from rfl, show Int.toNat 64 = 64 from rfl, show (fun k => I2 180 (32 + k)) = (fun k => I 180 (32 + k)) from funext (fun z => (F2.1 180 _ (Or.inl (by decide))).trans ((F1.1 180 _ (by decide) (Or.inl (by decide))).trans (kz 180 _ (by omega)))), spPart_congr (f := fun k => K4 265 (0 + k)) (g := (muR I (fun k => I 180 (64 + k)) (-1 : Int))) (fun k hk => by rw [(F2.tr (F3.tr F4)).1 265 _ (Or.inl (by decide)), h1 k (by omega) (by omega)]; exact (spOut_m _ _).symm)]; rfl
              show AW l G M_Mo_dsaSign P 190 [(3, vi i), (2, vi (-1)), (1, vi 0), (0, vr 175)] [] (sD h I6 L6)
              refine aw_aload_n d_Mo_dsaSign_190 rfl rfl ?_
              refine aw_aload_n d_Mo_dsaSign_191 rfl rfl ?_
              refine ax_getR (b := 266) d_Mo_dsaSign_192 fd_Mo_96 (k_175 S) (r_175_42 S) ?_
              refine aw_iconst d_Mo_dsaSign_195 ⟨by decide, by decide⟩ ?_
              refine aw_bipush d_Mo_dsaSign_196 ⟨by decide, by decide⟩ (by decide) ?_
              refine ax_Vr (st := []) (as := [vr 266, vi 0, vi 64]) (b := 175) d_Mo_dsaSign_198 cs_Mo_dsaSign_198 (k_175 S) (c_Mo_give S (RS1.rf G6) (by omega) (by rw [e6, e4, e3, e2]; exact (spPart_lt (spPart_lt (spPart_lt (spStart_lt (by decide) (by decide)) _ _) _ _) _ _).1) ⟨k_266 S, by decide, by decide, by decide⟩ (by rw [n_266 S]; decide)) rfl rfl rfl (fun u_198 q_198 => ?_)
              obtain ⟨I7, L7⟩ := u_198
              obtain ⟨F7, f7, e7, k7⟩ := q_198
              dsimp only at F7 f7 e7 k7
              rw [eS] at F7
              have h7 : HR I7 266 0 64 (rhR I (-1 : Int)) := HR.give F7 (by decide)
              have G7 : FR (fun a => a = 265 ∨ a = 266) (a_up u_35 175 4 0) L I7 L7 := (F1.tr (G6.fr (p := fun a => a = 265)) (fun a x => ⟨x, x⟩)).tr (FR.give (p := fun a => a = 266) F7 f7 rfl) (by intro a x; omega)
              have D7 := D1.fr G7 (by decide)
              have m7 : HR I7 265 0 64 (muR I (fun k => I 180 (64 + k)) (-1 : Int)) := (h1.fr (G6.fr (p := fun _ => False)) (fun z => z) (by decide)).fr (FR.give (p := fun a => a = 266) F7 f7 rfl) (by decide) (by decide)
              show AW l G M_Mo_dsaSign P 201 [(3, vi i), (2, vi (-1)), (1, vi 0), (0, vr 175)] [] (sD h I7 L7)
              refine aw_aload_n d_Mo_dsaSign_201 rfl rfl ?_
              refine ax_getIe (x := 2) d_Mo_dsaSign_202 fd_Mo_229 (k_175 S) (dr0_33 D7) ?_
              refine aw_iconst d_Mo_dsaSign_205 ⟨by decide, by decide⟩ ?_
              refine aw_icmp_ne (tgt := 213) d_Mo_dsaSign_206 (by decide) (fun c_206 => False.elim (by omega)) (fun c_206 => ?_)
              refine aw_iconst d_Mo_dsaSign_209 ⟨by decide, by decide⟩ ?_
              refine aw_goto (tgt := 214) d_Mo_dsaSign_210 (by decide) ?_
              refine aw_istore_n (lv' := [(3, vi 3), (2, vi (-1)), (1, vi 0), (0, vr 175)]) d_Mo_dsaSign_214 rfl (by decide) rfl ?_
              refine aw_aload_n d_Mo_dsaSign_215 rfl rfl ?_
              refine aw_iconst d_Mo_dsaSign_216 ⟨by decide, by decide⟩ ?_
              refine ax_putI d_Mo_dsaSign_217 fd_Mo_216 (k_175 S) (by decide) rfl ?_
              refine aw_iconst d_Mo_dsaSign_220 ⟨by decide, by decide⟩ ?_
              refine aw_istore (lv' := [(4, vi 0), (3, vi 3), (2, vi (-1)), (1, vi 0), (0, vr 175)]) d_Mo_dsaSign_221 (by decide) rfl ?_
              have lp_223 : ∀ (n_ : Nat) (i : Int) (K5 : Nat → Int → Int), (0 ≤ i ∧ i ≤ 8) → (FR (fun a => 205 ≤ a ∧ a ≤ 219) I7 L7 K5 L7) → (K5 175 23 = 8 * (96 * i)) → (∀ m, 0 ≤ m → m < i → eqQ (K5 (205 + m.toNat)) (sgSs 0 (rkR I) m)) → ((8 - i).toNat) = n_ → AW l G M_Mo_dsaSign P 223 [(4, vi i), (3, vi 3), (2, vi (-1)), (1, vi 0), (0, vr 175)] [] (sD h K5 L7) := by
                intro n_
                induction n_ using Nat.strongRecOn with
                | _ n_ ih_223 =>
                intro i K5 hi5 G5 b5 s5 hm_223
                have sk5 : ∀ x, K5 180 x = I 180 x := fun x => (G5.1 _ _ (by decide) (Or.inl (by decide))).trans ((G7.1 _ _ (by decide) (Or.inl (by decide))).trans (kz 180 x (by omega)))
                refine aw_iload d_Mo_dsaSign_223 rfl ?_
                refine aw_aload_n d_Mo_dsaSign_225 rfl rfl ?_
                refine ax_getIe (x := 4) d_Mo_dsaSign_226 fd_Mo_226 (k_175 S) (Eq.trans (G5.1 175 32 (by omega) (Or.inr (by decide))) (dr0_32 D7)) ?_
                refine aw_aload_n d_Mo_dsaSign_229 rfl rfl ?_
                refine ax_getIe (x := 4) d_Mo_dsaSign_230 fd_Mo_223 (k_175 S) (Eq.trans (G5.1 175 26 (by omega) (Or.inr (by decide))) (dr0_26 D7)) ?_
                refine ax_iadd d_Mo_dsaSign_233 ⟨(by omega), (by omega)⟩ ?_
                refine ax_ti (x := 8) (by decide) ?_
                refine aw_icmp_ge (tgt := 268) d_Mo_dsaSign_234 (by decide) (fun c_234 => ?_) (fun c_234 => ?_)
                · skip
                  refine aw_iconst d_Mo_dsaSign_268 ⟨by decide, by decide⟩ ?_
                  refine aw_istore (lv' := [(4, vi 0), (3, vi 3), (2, vi (-1)), (1, vi 0), (0, vr 175)]) d_Mo_dsaSign_269 (by decide) rfl ?_
                  have lp_271 : ∀ (n_ : Nat) (i : Int) (K6 : Nat → Int → Int), (0 ≤ i ∧ i ≤ 4) → (FR (fun a => 205 ≤ a ∧ a ≤ 227) I7 L7 K6 L7) → (K6 175 23 = 8 * (768 + 416 * i)) → (∀ m, 0 ≤ m → m < 8 → eqQ (K6 (205 + m.toNat)) (sgSs 0 (rkR I) m)) → (∀ m, 0 ≤ m → m < i → eqQ (K6 (205 + (15 + m).toNat)) (sgDs 0 (rkR I) m)) → ((4 - i).toNat) = n_ → AW l G M_Mo_dsaSign P 271 [(4, vi i), (2, vi (-1)), (1, vi 0), (0, vr 175)] [] (sD h K6 L7) := by
                    intro n_
                    induction n_ using Nat.strongRecOn with
                    | _ n_ ih_271 =>
                    intro i K6 hi6 Gy b6 s6 t6 hm_271
                    have sk6 : ∀ x, K6 180 x = I 180 x := fun x => (Gy.1 _ _ (by decide) (Or.inl (by decide))).trans ((G7.1 _ _ (by decide) (Or.inl (by decide))).trans (kz 180 x (by omega)))
                    refine aw_iload d_Mo_dsaSign_271 rfl ?_
                    refine aw_aload_n d_Mo_dsaSign_273 rfl rfl ?_
                    refine ax_getIe (x := 4) d_Mo_dsaSign_274 fd_Mo_223 (k_175 S) (Eq.trans (Gy.1 175 26 (by omega) (Or.inr (by decide))) (dr0_26 D7)) ?_
                    refine aw_icmp_ge (tgt := 314) d_Mo_dsaSign_277 (by decide) (fun c_277 => ?_) (fun c_277 => ?_)
                    · skip
                      refine aw_sub (lv' := [(0, vr 175)]) (by simp) ?_
                      exact sB0N S (fR0.fr (fR0.fr R1 G7 (r := qN) (by intro a x y; exact ⟨fun z => z, by omega⟩) (by decide)) Gy (by intro a x y; exact ⟨fun z => z, by omega⟩) (by decide)) (D7.fr Gy (by decide)) (m7.fr Gy (by decide) (by decide)) (h7.fr Gy (by decide) (by decide)) s6 (fun m a b => t6 m a (by omega)) ⟨bb, by omega⟩ (by show I 186 2 = 2560; omega) hP
                    · skip
                      refine aw_aload_n d_Mo_dsaSign_280 rfl rfl ?_
                      refine aw_aload_n d_Mo_dsaSign_281 rfl rfl ?_
                      refine ax_getR (b := 177) d_Mo_dsaSign_282 fd_Mo_15 (k_175 S) (r_175_1 S) ?_
                      refine aw_iconst d_Mo_dsaSign_285 ⟨by decide, by decide⟩ ?_
                      refine ax_aald (b := 180) d_Mo_dsaSign_286 ⟨by rw [(k_177 S)]; decide, by rw [(k_177 S)]; decide⟩ (by omega) (by rw [n_177 S]; omega) (g_177 S (j := 2) (by decide) (by decide)) ?_
                      refine aw_sipush d_Mo_dsaSign_287 ⟨by decide, by decide⟩ (by decide) ?_
                      refine aw_aload_n d_Mo_dsaSign_290 rfl rfl ?_
                      refine ax_getR (b := 204) d_Mo_dsaSign_291 fd_Mo_76 (k_175 S) (r_175_28 S) ?_
                      refine aw_bipush d_Mo_dsaSign_294 ⟨by decide, by decide⟩ (by decide) ?_
                      refine aw_iload d_Mo_dsaSign_296 rfl ?_
                      refine ax_iadd d_Mo_dsaSign_298 ⟨(by omega), (by omega)⟩ ?_
                      refine ax_aald (b := 205 + (15 + i).toNat) d_Mo_dsaSign_299 ⟨by rw [(k_204 S)]; decide, by rw [(k_204 S)]; decide⟩ (by omega) (by rw [n_204 S]; omega) (g_204 S (by omega) (by omega)) ?_
                      refine aw_sipush d_Mo_dsaSign_300 ⟨by decide, by decide⟩ (by decide) ?_
                      refine aw_bipush d_Mo_dsaSign_303 ⟨by decide, by decide⟩ (by decide) ?_
                      refine ax_Vr (st := []) (as := [vr 180, vi 128, vr (205 + (15 + i).toNat), vi 4096, vi 13]) (b := 175) d_Mo_dsaSign_305 cs_Mo_dsaSign_305 (k_175 S) (c_Mo_unpack (pa := 128) (c := 768 + 416 * i) (d := 13) (b := 4096) S ⟨k_180 S, by decide, by decide⟩ ⟨kr_204 S (by omega), by omega, nr_204 S (by omega)⟩ (by omega) (by decide) (by omega) (by decide) (by rw [n_180 S]; omega)) rfl rfl rfl (fun u_305 q_305 => ?_)
                      obtain ⟨q1, q2, q3⟩ := q_305
                      have Fy : FR (fun a => 220 ≤ a ∧ a ≤ 227) K6 L7 u_305 L7 := FR.unp q1 (by omega)
                      show AW l G M_Mo_dsaSign P 308 [(4, vi i), (2, vi (-1)), (1, vi 0), (0, vr 175)] [] (sD h u_305 L7)
                      refine ax_iinc (lv' := [(4, vi (i + 1)), (2, vi (-1)), (1, vi 0), (0, vr 175)]) d_Mo_dsaSign_308 rfl (by decide) ⟨(by omega), (by omega)⟩ rfl ?_
                      refine aw_goto (tgt := 271) d_Mo_dsaSign_311 (by decide) ?_
                      exact ih_271 _ (by omega) (i + 1) u_305 (by omega) (Gy.tr (Fy.mono (r := fun a => 205 ≤ a ∧ a ≤ 227) (by intro a x; omega)) (fun a x => ⟨x, x⟩)) (by omega) (fun m a b x u v => by rw [q1 _ _ (by omega) (Or.inl (by omega))]; exact s6 m a b x u v) (fun m a b x u v => by by_cases z : m = i; exact (by rw [z, q3 x u v, show (fun j => K6 180 (128 + (768 + 416 * i) + j) % 256) = (fun j => I 180 (896 + 416 * i + j) % 256) from funext (fun y => by rw [sk6, show (128 + (768 + 416 * i) : Int) = 896 + 416 * i by omega])]; show _ = 4096 - gR (fun k => rkR I (896 + 416 * i + k)) 13 x; rw [gR_congr (g := fun j => I 180 (896 + 416 * i + j) % 256) (g' := fun k => rkR I (896 + 416 * i + k)) (fun y y0 y1 => (gW_in (s := 2) (by omega) (by rw [show I 186 2 = 2560 by omega]; omega)).symm)]); exact (by rw [q1 _ _ (by omega) (Or.inl (by omega))]; exact t6 m a (by omega) x u v)) rfl
                  skip
                  refine aw_sub (lv' := [(4, vi 0), (2, vi (-1)), (1, vi 0), (0, vr 175)]) (by simp) ?_
                  exact lp_271 _ 0 K5 (by omega) (G5.mono (by intro a x; omega)) (by omega) (fun m a b => s5 m a (by omega)) (fun m a b => by omega) rfl
                · skip
                  refine aw_aload_n d_Mo_dsaSign_237 rfl rfl ?_
                  refine aw_aload_n d_Mo_dsaSign_238 rfl rfl ?_
                  refine ax_getR (b := 177) d_Mo_dsaSign_239 fd_Mo_15 (k_175 S) (r_175_1 S) ?_
                  refine aw_iconst d_Mo_dsaSign_242 ⟨by decide, by decide⟩ ?_
                  refine ax_aald (b := 180) d_Mo_dsaSign_243 ⟨by rw [(k_177 S)]; decide, by rw [(k_177 S)]; decide⟩ (by omega) (by rw [n_177 S]; omega) (g_177 S (j := 2) (by decide) (by decide)) ?_
                  refine aw_sipush d_Mo_dsaSign_244 ⟨by decide, by decide⟩ (by decide) ?_
                  refine aw_aload_n d_Mo_dsaSign_247 rfl rfl ?_
                  refine ax_getR (b := 204) d_Mo_dsaSign_248 fd_Mo_76 (k_175 S) (r_175_28 S) ?_
                  refine aw_iload d_Mo_dsaSign_251 rfl ?_
                  refine ax_aald (b := 205 + i.toNat) d_Mo_dsaSign_253 ⟨by rw [(k_204 S)]; decide, by rw [(k_204 S)]; decide⟩ (by omega) (by rw [n_204 S]; omega) (g_204 S (by omega) (by omega)) ?_
                  refine aw_aload_n d_Mo_dsaSign_254 rfl rfl ?_
                  refine ax_getIe (x := 2) d_Mo_dsaSign_255 fd_Mo_229 (k_175 S) (Eq.trans (G5.1 175 33 (by omega) (Or.inr (by decide))) (dr0_33 D7)) ?_
                  refine aw_iload_n d_Mo_dsaSign_258 rfl rfl ?_
                  refine ax_Vr (st := []) (as := [vr 180, vi 128, vr (205 + i.toNat), vi 2, vi 3]) (b := 175) d_Mo_dsaSign_259 cs_Mo_dsaSign_259 (k_175 S) (c_Mo_unpack (pa := 128) (c := 96 * i) (d := 3) (b := 2) S ⟨k_180 S, by decide, by decide⟩ ⟨kr_204 S (by omega), by omega, nr_204 S (by omega)⟩ (by omega) (by decide) (by omega) (by decide) (by rw [n_180 S]; omega)) rfl rfl rfl (fun u_259 q_259 => ?_)
                  obtain ⟨q1, q2, q3⟩ := q_259
                  have Fx : FR (fun a => 205 ≤ a ∧ a ≤ 219) K5 L7 u_259 L7 := FR.unp q1 (by omega)
                  show AW l G M_Mo_dsaSign P 262 [(4, vi i), (3, vi 3), (2, vi (-1)), (1, vi 0), (0, vr 175)] [] (sD h u_259 L7)
                  refine ax_iinc (lv' := [(4, vi (i + 1)), (3, vi 3), (2, vi (-1)), (1, vi 0), (0, vr 175)]) d_Mo_dsaSign_262 rfl (by decide) ⟨(by omega), (by omega)⟩ rfl ?_
                  refine aw_goto (tgt := 223) d_Mo_dsaSign_265 (by decide) ?_
                  exact ih_223 _ (by omega) (i + 1) u_259 (by omega) (G5.tr Fx (fun a x => ⟨x, x⟩)) (by omega) (fun m a b x u v => by by_cases z : m = i; exact (by rw [z, q3 x u v, show (fun j => K5 180 (128 + 96 * i + j) % 256) = (fun j => I 180 (128 + 96 * i + j) % 256) from funext (fun y => by rw [sk5])]; show _ = 2 - gR (fun k => rkR I (128 + 96 * i + k)) 3 x; rw [gR_congr (g := fun j => I 180 (128 + 96 * i + j) % 256) (g' := fun k => rkR I (128 + 96 * i + k)) (fun y y0 y1 => (gW_in (s := 2) (by omega) (by rw [show I 186 2 = 2560 by omega]; omega)).symm)]); exact (by rw [q1 _ _ (by omega) (Or.inl (by omega))]; exact s5 m a (by omega) x u v)) rfl
              skip
              exact lp_223 _ 0 (a_up I7 175 23 0) (by omega) (FR.b0) (a_up_at.trans (by decide)) (fun m a b => by omega) rfl
            · skip
              refine aw_aload_n d_Mo_dsaSign_148 rfl rfl ?_
              refine aw_aload_n d_Mo_dsaSign_149 rfl rfl ?_
              refine ax_getR (b := 186) d_Mo_dsaSign_150 fd_Mo_18 (k_175 S) (r_175_2 S) ?_
              refine aw_iconst d_Mo_dsaSign_153 ⟨by decide, by decide⟩ ?_
              refine ax_ialde (x := I 186 0) d_Mo_dsaSign_154 (k_186 S) (by omega) (by rw [n_186 S]; omega) (Eq.trans ((F2.tr (F3.tr F4)).1 186 0 (Or.inl (by decide))) (Eq.trans (F1.1 186 0 (by decide) (Or.inl (by decide))) (Eq.trans (kz 186 0 (by omega)) (rfl)))) ?_
              refine aw_if_ne (tgt := 162) d_Mo_dsaSign_155 (by decide) (fun c_155 => ?_) (fun c_155 => ?_)
              · skip
                refine aw_aload_n d_Mo_dsaSign_162 rfl rfl ?_
                refine ax_getR (b := 177) d_Mo_dsaSign_163 fd_Mo_15 (k_175 S) (r_175_1 S) ?_
                refine aw_iconst d_Mo_dsaSign_166 ⟨by decide, by decide⟩ ?_
                refine ax_aald (b := 178) d_Mo_dsaSign_167 ⟨by rw [(k_177 S)]; decide, by rw [(k_177 S)]; decide⟩ (by omega) (by rw [n_177 S]; omega) (g_177 S (j := 0) (by decide) (by decide)) ?_
                refine aw_iload_n d_Mo_dsaSign_168 rfl rfl ?_
                refine ax_balde (x := I 178 i) d_Mo_dsaSign_169 (k_178 S) (by omega) (by rw [n_178 S]; omega) (Eq.trans ((F2.tr (F3.tr F4)).1 178 i (Or.inl (by decide))) (Eq.trans (F1.1 178 i (by decide) (Or.inl (by decide))) (Eq.trans (kz 178 i (by omega)) (rfl)))) ?_
                have vv : rnR I i = I 178 i := by unfold rnR; rw [if_neg (by omega)]
                refine ax_Vr (st := []) (as := [vi (I 178 i)]) (b := 175) d_Mo_dsaSign_170 cs_Mo_dsaSign_170 (k_175 S) (c_Mo_put1 S ((RS1.rf F2).rf (F3.tr F4)) (by omega) (by rw [e4, e3, e2]; exact spPart_lt (spPart_lt (spStart_lt (by decide) (by decide)) _ _) _ _)) rfl rfl rfl (fun u_170 q_170 => ?_)
                obtain ⟨I5, L5⟩ := u_170
                obtain ⟨F5, e5, k5⟩ := q_170
                dsimp only at F5 e5 k5
                show AW l G M_Mo_dsaSign P 173 [(3, vi i), (2, vi (-1)), (1, vi 0), (0, vr 175)] [] (sD h I5 L5)
                refine ax_iinc (lv' := [(3, vi (i + 1)), (2, vi (-1)), (1, vi 0), (0, vr 175)]) d_Mo_dsaSign_173 rfl (by decide) ⟨(by omega), (by omega)⟩ rfl ?_
                refine aw_goto (tgt := 142) d_Mo_dsaSign_176 (by decide) ?_
                exact ih_142 _ (by omega) (i + 1) I5 L5 (by omega) (F4.tr F5) (by rw [e5, e4, show (i + 1).toNat = i.toNat + 1 by omega]; show _ = spTake (spPart (spR I3 L3) (rnR I) i.toNat) (rnR I (i.toNat : Int)); rw [Int.toNat_of_nonneg hi.1, vv]) (by omega) rfl
              · skip
                refine aw_iconst d_Mo_dsaSign_158 ⟨by decide, by decide⟩ ?_
                refine aw_goto (tgt := 170) d_Mo_dsaSign_159 (by decide) ?_
                have vv : rnR I i = 0 := by unfold rnR; rw [if_pos (by omega)]
                refine ax_Vr (st := []) (as := [vi 0]) (b := 175) d_Mo_dsaSign_170 cs_Mo_dsaSign_170 (k_175 S) (c_Mo_put1 S ((RS1.rf F2).rf (F3.tr F4)) (by omega) (by rw [e4, e3, e2]; exact spPart_lt (spPart_lt (spStart_lt (by decide) (by decide)) _ _) _ _)) rfl rfl rfl (fun u_170 q_170 => ?_)
                obtain ⟨I5, L5⟩ := u_170
                obtain ⟨F5, e5, k5⟩ := q_170
                dsimp only at F5 e5 k5
                show AW l G M_Mo_dsaSign P 173 [(3, vi i), (2, vi (-1)), (1, vi 0), (0, vr 175)] [] (sD h I5 L5)
                refine ax_iinc (lv' := [(3, vi (i + 1)), (2, vi (-1)), (1, vi 0), (0, vr 175)]) d_Mo_dsaSign_173 rfl (by decide) ⟨(by omega), (by omega)⟩ rfl ?_
                refine aw_goto (tgt := 142) d_Mo_dsaSign_176 (by decide) ?_
                exact ih_142 _ (by omega) (i + 1) I5 L5 (by omega) (F4.tr F5) (by rw [e5, e4, show (i + 1).toNat = i.toNat + 1 by omega]; show _ = spTake (spPart (spR I3 L3) (rnR I) i.toNat) (rnR I (i.toNat : Int)); rw [Int.toNat_of_nonneg hi.1, vv]) (by omega) rfl
          skip
          refine aw_sub (lv' := [(3, vi 0), (2, vi (-1)), (1, vi 0), (0, vr 175)]) (by simp) ?_
          exact lp_142 _ 0 I3 L3 (by omega) (RF.rfl') (rfl) (by omega) rfl
  · skip
    refine ax_V (st := [vr 175]) (as := [vi (-1)]) (b := 175) (v := some (vi 0)) (h' := sD h u_35 L) d_Mo_dsaSign_41 cs_Mo_dsaSign_41 (k_175 S) (by have z := c_Mo_context (l := l) (G := G) (h := h) (L := L) (I := u_35) (x := -1) S; rw [if_neg cx_] at z; exact z) rfl rfl rfl ?_
    show AW l G M_Mo_dsaSign P 44 [(0, vr 175), (1, vi 0), (2, vi (-1))] [vi 0, vr 175] (sD h u_35 L)
    refine aw_if_eq (tgt := 71) d_Mo_dsaSign_44 (by decide) (fun c_44 => ?_) (fun c_44 => False.elim (by omega))
    refine aw_iconst d_Mo_dsaSign_71 ⟨by decide, by decide⟩ ?_
    refine aw_iconst d_Mo_dsaSign_72 ⟨by decide, by decide⟩ ?_
    refine ax_V (st := []) (as := [vi 0, vi 2]) (b := 175) (v := some (vi 0)) (h' := sD h (a_up u_35 175 4 2) L) d_Mo_dsaSign_73 cs_Mo_dsaSign_73 (k_175 S) (c_good0 S (rfl)) rfl rfl rfl ?_
    show AW l G M_Mo_dsaSign P 76 [(0, vr 175), (1, vi 0), (2, vi (-1))] [vi 0] (sD h (a_up u_35 175 4 2) L)
    refine aw_if_eq (tgt := 105) d_Mo_dsaSign_76 (by decide) (fun c_76 => ?_) (fun c_76 => False.elim (by omega))
    refine aw_iconst d_Mo_dsaSign_105 ⟨by decide, by decide⟩ ?_
    exact aw_iret d_Mo_dsaSign_106 rfl (hP _ _ (rsNo 0 2 (c4_2 ⟨by decide, by decide⟩ (fun z => by rw [e0 186 4 (by omega)] at cx_; have z1 := z.1; have z2 := z.2; omega)) (by decide) a_up_at (fR0.fr R00 (FR.c0 (p := fun _ => False)) (by intro a x y; exact ⟨fun z => z, fun z => z⟩) (fun z => z))))
set_option maxHeartbeats 2000000 in
set_option maxRecDepth 100000 in
theorem sB10 {l : Launch} {G : a_G} {P : a_R → Hp → Prop} {h : Hp} {I L K M : Nat → Int → Int} (S : Shp h) (R0 : fR0 qN I L K M) (D : RD K M 1) (hm : HR K 265 0 64 (muR I (fun k => I 180 (64 + k)) (0 : Int))) (hr : HR K 266 0 64 (rhR I (0 : Int))) (hSs : ∀ m, 0 ≤ m → m < 11 → eqQ (K (205 + m.toNat)) (sgSs 1 (rkR I) m)) (hDs : ∀ m, 0 ≤ m → m < 6 → eqQ (K (205 + (15 + m).toNat)) (sgDs 1 (rkR I) m)) (b1 : ((0 : Int) ≠ 0 ∨ I 186 4 ≤ 255) ∧ (I 186 0 = 32 ∨ I 186 0 = 0)) (b2 : I 186 2 = sSec 1) (hP : ∀ r_ h2_, RsR h I L (c4 ((0 ≤ (1 : Int) ∧ (1 : Int) < 3) ∧ ((0 : Int) = 0 ∨ (0 : Int) = -1)) (((0 : Int) ≠ 0 ∨ I 186 4 ≤ 255) ∧ (I 186 0 = 32 ∨ I 186 0 = 0)) (I 186 2 = sSec (1 : Int)) (sgOk (1 : Int) (rkR I) ∧ sgRun (1 : Int) (rkR I) (rhR I (0 : Int)) (muR I (fun k => I 180 (64 + k)) (0 : Int)) 814 0 ≠ none)) (fun a => a = 183 ∨ a = 186) (fun v I' _ => ∃ t, sgRun (1 : Int) (rkR I) (rhR I (0 : Int)) (muR I (fun k => I 180 (64 + k)) (0 : Int)) 814 0 = some t ∧ v = t + 1 ∧ ((∀ j, j ≠ 5 → I' 186 j = I 186 j) ∧ I' 186 5 = sPkt (1 : Int)) ∧ HR I' 183 0 (sPkt (1 : Int)) (sgPk (1 : Int) (rkR I) (rhR I (0 : Int)) (muR I (fun k => I 180 (64 + k)) (0 : Int)) t) ∧ rng (I 183) (I' 183)) r_ h2_ → P r_ h2_) : AW l G M_Mo_dsaSign P 314 [(0, vr 175)] [] (sD h K M) := by
  have hk : HR K 180 0 4032 (rkR I) := fun z x y => by rw [R0.1 180 _ (by omega) (fun z => z), Int.zero_add]; exact (gW_in (s := 2) x (by rw [show I 186 2 = 4032 from b2]; exact y)).symm
  refine aw_iconst d_Mo_dsaSign_314 ⟨by decide, by decide⟩ ?_
  refine aw_istore (lv' := [(4, vi 0), (0, vr 175)]) d_Mo_dsaSign_315 (by decide) rfl ?_
  have lp_317 : ∀ (n_ : Nat) (t : Int) (K2 : Nat → Int → Int) (M2 : Nat → Int → Int), (0 ≤ t ∧ t ≤ 814) → (FR pAt K M K2 M2) → (sgRun 1 (rkR I) (rhR I (0 : Int)) (muR I (fun k => I 180 (64 + k)) (0 : Int)) 814 0 = sgRun 1 (rkR I) (rhR I (0 : Int)) (muR I (fun k => I 180 (64 + k)) (0 : Int)) (814 - t).toNat t) → ((814 - t).toNat) = n_ → AW l G M_Mo_dsaSign P 317 [(4, vi t), (0, vr 175)] [] (sD h K2 M2) := by
    intro n_
    induction n_ using Nat.strongRecOn with
    | _ n_ ih_317 =>
    intro t K2 M2 ht F run hm_317
    refine aw_iload d_Mo_dsaSign_317 rfl ?_
    refine aw_sipush d_Mo_dsaSign_319 ⟨by decide, by decide⟩ (by decide) ?_
    refine aw_icmp_ge (tgt := 429) d_Mo_dsaSign_322 (by decide) (fun c_322 => ?_) (fun c_322 => ?_)
    · skip
      refine aw_aload_n d_Mo_dsaSign_429 rfl rfl ?_
      refine aw_iconst d_Mo_dsaSign_430 ⟨by decide, by decide⟩ ?_
      refine aw_iconst d_Mo_dsaSign_431 ⟨by decide, by decide⟩ ?_
      refine ax_V (st := []) (as := [vi 0, vi 4]) (b := 175) (v := some (vi 0)) (h' := sD h (a_up K2 175 4 4) M2) d_Mo_dsaSign_432 cs_Mo_dsaSign_432 (k_175 S) (c_good0 S rfl) rfl rfl rfl ?_
      show AW l G M_Mo_dsaSign P 435 [(4, vi t), (0, vr 175)] [vi 0] (sD h (a_up K2 175 4 4) M2)
      refine aw_pop d_Mo_dsaSign_435 rfl ?_
      refine aw_iconst d_Mo_dsaSign_436 ⟨by decide, by decide⟩ ?_
      exact aw_iret d_Mo_dsaSign_437 rfl (hP _ _ (rsNo 0 4 (c4_4 ⟨by decide, by decide⟩ b1 b2 (fun z => z.2 (by rw [run, show (814 - t).toNat = 0 by omega]; rfl))) (by decide) a_up_at (fR0.fr (fR0.fr R0 F (r := qN) (by intro a x y; exact ⟨fun z => z, by omega⟩) (by decide)) (FR.c0 (p := fun _ => False)) (by intro a x y; exact ⟨fun z => z, fun z => z⟩) (fun z => z))))
    · skip
      refine aw_aload_n d_Mo_dsaSign_325 rfl rfl ?_
      refine aw_iload d_Mo_dsaSign_326 rfl ?_
      refine aw_aload_n d_Mo_dsaSign_328 rfl rfl ?_
      refine ax_getIe (x := 5) d_Mo_dsaSign_329 fd_Mo_226 (k_175 S) (Eq.trans (F.1 175 32 (by omega) (Or.inr (by decide))) (dr1_32 D)) ?_
      refine ax_imul d_Mo_dsaSign_332 ⟨(by omega), (by omega)⟩ ?_
      refine ax_Vt (st := []) (as := [vi (t * 5)]) (b := 175) d_Mo_dsaSign_333 cs_Mo_dsaSign_333 (k_175 S) (c_Mo_attempt1 (t := t) (sk := (rkR I)) (rh := (rhR I (0 : Int))) (mu := (muR I (fun k => I 180 (64 + k)) (0 : Int))) S (D.fr F (by decide)) (hk.fr F (by decide) (by decide)) (fun x => gW_m _ _ _) (hr.fr F (by decide) (by decide)) (fun x => spOut_m _ _) (hm.fr F (by decide) (by decide)) (fun x => spOut_m _ _) (fun m a b j x y => by rw [F.1 _ _ (by omega) (Or.inl (by omega))]; exact hSs m a b j x y) (fun m a b j x y => by rw [F.1 _ _ (by omega) (Or.inl (by omega))]; exact hDs m a b j x y) (by omega) rfl) rfl rfl rfl (fun v_ h_ q_ => ?_) (fun x_ h_ q_ => ?_)
      · obtain ⟨v, I6, L6, q3, q4, F6, q6⟩ := q_
        cases q3; subst q4
        have F7 : FR pAt K M I6 L6 := F.tr F6 (fun a x => ⟨x, x⟩)
        have eN : (814 - t).toNat = (814 - (t + 1)).toNat + 1 := by omega
        show AW l G M_Mo_dsaSign P 336 [(4, vi t), (0, vr 175)] [vi v] (sD h I6 L6)
        refine aw_istore (lv' := [(5, vi v), (4, vi t), (0, vr 175)]) d_Mo_dsaSign_336 (by decide) rfl ?_
        refine aw_aload_n d_Mo_dsaSign_338 rfl rfl ?_
        refine aw_iload d_Mo_dsaSign_339 rfl ?_
        refine aw_if_lt (tgt := 348) d_Mo_dsaSign_341 (by decide) (fun c_341 => ?_) (fun c_341 => ?_)
        · skip
          refine aw_iconst d_Mo_dsaSign_348 ⟨by decide, by decide⟩ ?_
          refine aw_iconst d_Mo_dsaSign_349 ⟨by decide, by decide⟩ ?_
          refine ax_V (st := []) (as := [vi 0, vi 4]) (b := 175) (v := some (vi 0)) (h' := sD h (a_up I6 175 4 4) L6) d_Mo_dsaSign_350 cs_Mo_dsaSign_350 (k_175 S) (c_good0 S rfl) rfl rfl rfl ?_
          show AW l G M_Mo_dsaSign P 353 [(5, vi v), (4, vi t), (0, vr 175)] [vi 0] (sD h (a_up I6 175 4 4) L6)
          refine aw_if_ne (tgt := 358) d_Mo_dsaSign_353 (by decide) (fun c_353 => False.elim (by omega)) (fun c_353 => ?_)
          refine aw_iconst d_Mo_dsaSign_356 ⟨by decide, by decide⟩ ?_
          exact aw_iret d_Mo_dsaSign_357 rfl (hP _ _ (rsNo 0 4 (c4_4 ⟨by decide, by decide⟩ b1 b2 (fun z => by rcases q6 with y | y | y; exact (by have z2 := z.2; rw [run, eN] at z2; exact z2 (sgRun_x (Classical.byContradiction (fun x => y.2 ⟨z.1, x⟩)))); exact absurd y.1 (by omega); exact absurd y.1 (by omega))) (by decide) a_up_at (fR0.fr (fR0.fr R0 F7 (r := qN) (by intro a x y; exact ⟨fun z => z, by omega⟩) (by decide)) (FR.c0 (p := fun _ => False)) (by intro a x y; exact ⟨fun z => z, fun z => z⟩) (fun z => z))))
        · skip
          refine aw_iconst d_Mo_dsaSign_344 ⟨by decide, by decide⟩ ?_
          refine aw_goto (tgt := 349) d_Mo_dsaSign_345 (by decide) ?_
          refine aw_iconst d_Mo_dsaSign_349 ⟨by decide, by decide⟩ ?_
          refine ax_V (st := []) (as := [vi 1, vi 4]) (b := 175) (v := some (vi 1)) (h' := sD h (a_up I6 175 4 0) L6) d_Mo_dsaSign_350 cs_Mo_dsaSign_350 (k_175 S) (c_good1 S rfl) rfl rfl rfl ?_
          show AW l G M_Mo_dsaSign P 353 [(5, vi v), (4, vi t), (0, vr 175)] [vi 1] (sD h (a_up I6 175 4 0) L6)
          refine aw_if_ne (tgt := 358) d_Mo_dsaSign_353 (by decide) (fun c_353 => ?_) (fun c_353 => False.elim (by omega))
          refine aw_iload d_Mo_dsaSign_358 rfl ?_
          refine aw_iconst d_Mo_dsaSign_360 ⟨by decide, by decide⟩ ?_
          refine aw_icmp_ne (tgt := 423) d_Mo_dsaSign_361 (by decide) (fun c_361 => ?_) (fun c_361 => ?_)
          · skip
            refine ax_iinc (lv' := [(4, vi (t + 1)), (5, vi v), (0, vr 175)]) d_Mo_dsaSign_423 rfl (by decide) ⟨(by omega), (by omega)⟩ rfl ?_
            refine aw_goto (tgt := 317) d_Mo_dsaSign_426 (by decide) ?_
            refine aw_sub (lv' := [(4, vi (t + 1)), (0, vr 175)]) (by simp) ?_
            exact ih_317 _ (by omega) (t + 1) (a_up I6 175 4 0) L6 (by omega) (F7.tr (FR.c0 (p := pAt)) (fun a x => ⟨x, x⟩)) (by rw [run, eN]; rcases q6 with y | y | y; exact absurd y.1 (by omega); exact sgRun_n y.2.1.2 y.2.2; exact absurd y.1 (by omega)) rfl
          · skip
            have yy := (q6.resolve_left (fun y => by have y1 := y.1; omega)).resolve_left (fun y => by have y1 := y.1; omega)
            have rn : sgRun 1 (rkR I) (rhR I (0 : Int)) (muR I (fun k => I 180 (64 + k)) (0 : Int)) 814 0 = some t := by rw [run, eN]; exact sgRun_g yy.2.1.2 yy.2.2.1
            have okk : sgOk 1 (rkR I) ∧ sgRun 1 (rkR I) (rhR I (0 : Int)) (muR I (fun k => I 180 (64 + k)) (0 : Int)) 814 0 ≠ none := ⟨yy.2.1.1, by rw [rn]; exact (fun z => by cases z)⟩
            refine aw_aload_n d_Mo_dsaSign_364 rfl rfl ?_
            refine ax_getR (b := 186) d_Mo_dsaSign_365 fd_Mo_18 (k_175 S) (r_175_2 S) ?_
            refine aw_iconst d_Mo_dsaSign_368 ⟨by decide, by decide⟩ ?_
            refine aw_aload_n d_Mo_dsaSign_369 rfl rfl ?_
            refine ax_getIe (x := 48) d_Mo_dsaSign_370 fd_Mo_248 (k_175 S) (Eq.trans (a_up_ne (Or.inr (by decide))) (Eq.trans (F7.1 175 38 (by omega) (Or.inr (by decide))) (dr1_38 D))) ?_
            refine aw_bipush d_Mo_dsaSign_373 ⟨by decide, by decide⟩ (by decide) ?_
            refine aw_aload_n d_Mo_dsaSign_375 rfl rfl ?_
            refine ax_getIe (x := 5) d_Mo_dsaSign_376 fd_Mo_226 (k_175 S) (Eq.trans (a_up_ne (Or.inr (by decide))) (Eq.trans (F7.1 175 32 (by omega) (Or.inr (by decide))) (dr1_32 D))) ?_
            refine ax_imul d_Mo_dsaSign_379 ⟨(by omega), (by omega)⟩ ?_
            refine ax_ti (x := 160) (by decide) ?_
            refine aw_aload_n d_Mo_dsaSign_380 rfl rfl ?_
            refine ax_getIe (x := 20) d_Mo_dsaSign_381 fd_Mo_251 (k_175 S) (Eq.trans (a_up_ne (Or.inr (by decide))) (Eq.trans (F7.1 175 39 (by omega) (Or.inr (by decide))) (dr1_39 D))) ?_
            refine ax_imul d_Mo_dsaSign_384 ⟨(by omega), (by omega)⟩ ?_
            refine ax_ti (x := 3200) (by decide) ?_
            refine ax_iadd d_Mo_dsaSign_385 ⟨(by omega), (by omega)⟩ ?_
            refine ax_ti (x := 3248) (by decide) ?_
            refine aw_aload_n d_Mo_dsaSign_386 rfl rfl ?_
            refine ax_getIe (x := 55) d_Mo_dsaSign_387 fd_Mo_245 (k_175 S) (Eq.trans (a_up_ne (Or.inr (by decide))) (Eq.trans (F7.1 175 37 (by omega) (Or.inr (by decide))) (dr1_37 D))) ?_
            refine ax_iadd d_Mo_dsaSign_390 ⟨(by omega), (by omega)⟩ ?_
            refine ax_ti (x := 3303) (by decide) ?_
            refine aw_aload_n d_Mo_dsaSign_391 rfl rfl ?_
            refine ax_getIe (x := 6) d_Mo_dsaSign_392 fd_Mo_223 (k_175 S) (Eq.trans (a_up_ne (Or.inr (by decide))) (Eq.trans (F7.1 175 26 (by omega) (Or.inr (by decide))) (dr1_26 D))) ?_
            refine ax_iadd d_Mo_dsaSign_395 ⟨(by omega), (by omega)⟩ ?_
            refine ax_ti (x := 3309) (by decide) ?_
            refine ax_iast d_Mo_dsaSign_396 (k_186 S) (by decide) (by omega) (by rw [n_186 S]; omega) ?_
            refine aw_aload_n d_Mo_dsaSign_397 rfl rfl ?_
            refine ax_getR (b := 263) d_Mo_dsaSign_398 fd_Mo_87 (k_175 S) (r_175_31 S) ?_
            refine aw_iconst d_Mo_dsaSign_401 ⟨by decide, by decide⟩ ?_
            refine aw_aload_n d_Mo_dsaSign_402 rfl rfl ?_
            refine ax_getR (b := 177) d_Mo_dsaSign_403 fd_Mo_15 (k_175 S) (r_175_1 S) ?_
            refine aw_iconst d_Mo_dsaSign_406 ⟨by decide, by decide⟩ ?_
            refine ax_aald (b := 183) d_Mo_dsaSign_407 ⟨by rw [(k_177 S)]; decide, by rw [(k_177 S)]; decide⟩ (by omega) (by rw [n_177 S]; omega) (g_177 S (j := 5) (by decide) (by decide)) ?_
            refine aw_iconst d_Mo_dsaSign_408 ⟨by decide, by decide⟩ ?_
            refine aw_aload_n d_Mo_dsaSign_409 rfl rfl ?_
            refine ax_getR (b := 186) d_Mo_dsaSign_410 fd_Mo_18 (k_175 S) (r_175_2 S) ?_
            refine aw_iconst d_Mo_dsaSign_413 ⟨by decide, by decide⟩ ?_
            refine ax_ialde (x := 3309) d_Mo_dsaSign_414 (k_186 S) (by omega) (by rw [n_186 S]; omega) (a_up_at) ?_
            refine ax_S (st := []) (as := [vr 263, vi 0, vr 183, vi 0, vi 3309]) (v := none) (h' := sD h (putRow (a_up (a_up I6 175 4 0) 186 5 3309) 183 0 3309 (fun k => (a_up (a_up I6 175 4 0) 186 5 3309) 263 (0 + k))) L6) d_Mo_dsaSign_415 cs_Mo_dsaSign_415 (c_Mo_move ⟨k_263 S, by decide⟩ ⟨k_183 S, by decide, trivial⟩ (by decide) (by rw [n_263 S, n_183 S]; omega)) rfl rfl rfl ?_
            show AW l G M_Mo_dsaSign P 418 [(5, vi v), (4, vi t), (0, vr 175)] [] (sD h (putRow (a_up (a_up I6 175 4 0) 186 5 3309) 183 0 3309 (fun k => (a_up (a_up I6 175 4 0) 186 5 3309) 263 (0 + k))) L6)
            refine aw_iload d_Mo_dsaSign_418 rfl ?_
            refine aw_iconst d_Mo_dsaSign_420 ⟨by decide, by decide⟩ ?_
            refine ax_iadd d_Mo_dsaSign_421 ⟨(by omega), (by omega)⟩ ?_
            exact aw_iret d_Mo_dsaSign_422 rfl (hP _ _ ⟨_, _, _, rfl, rfl, by rw [putRow_ne (by decide), a_up_ne (Or.inl (by decide)), a_up_at, c4_0 ⟨by decide, by decide⟩ b1 b2 okk], Or.inl ⟨c4_0 ⟨by decide, by decide⟩ b1 b2 okk, fR0.fr (fR0.fr (fR0.fr (fR0.fr R0 F7 (r := qN) (by intro a x y; exact ⟨fun z => z, by omega⟩) (by decide)) (FR.c0 (p := fun _ => False)) (r := qN) (by intro a x y; exact ⟨fun z => z, fun z => z⟩) (fun z => z)) (FR.up (p := fun a => a = 186) rfl) (r := fun a => a = 183 ∨ a = 186) (by intro a x y; exact ⟨fun z => z, by omega⟩) (by decide)) (FR.put (p := fun a => a = 183) rfl) (by intro a x y; exact ⟨y, by omega⟩) (by decide), t, rn, rfl, ⟨fun j x => by rw [putRow_ne (by decide), a_up_ne (Or.inr x), a_up_ne (Or.inl (by decide))]; exact (fR0.fr R0 F7 (r := qN) (by intro a x y; exact ⟨fun z => z, by omega⟩) (by decide)).1 186 j (by omega) (fun z => z), by rw [putRow_ne (by decide), a_up_at]; rfl⟩, HR.put (fun z x y => by rw [a_up_ne (Or.inl (by decide)), a_up_ne (Or.inl (by decide))]; exact yy.2.2.2 z x y), fun j => by have z := rng.p (I := a_up (a_up I6 175 4 0) 186 5 3309) (f := 183) (o := 0) (n := 3309) (g := fun k => (a_up (a_up I6 175 4 0) 186 5 3309) 263 (0 + k)) j; rw [show (a_up (a_up I6 175 4 0) 186 5 3309) 183 j = I 183 j from by rw [a_up_ne (Or.inl (by decide)), a_up_ne (Or.inl (by decide))]; exact (fR0.fr R0 F7 (r := qN) (by intro a x y; exact ⟨fun z => z, by omega⟩) (by decide)).1 183 j (by omega) (fun z => z)] at z; exact z⟩⟩)
      · obtain ⟨v, I6, L6, q3, q4, F6, q6⟩ := q_
        cases q3
  skip
  exact lp_317 _ 0 K M (by omega) (FR.rfl') (rfl) rfl
set_option maxHeartbeats 4000000 in
set_option maxRecDepth 100000 in
theorem c_Mo_dsaSign10 {l : Launch} {G : a_G} {h : Hp} {I L : Nat → Int → Int} (S : Shp h) (RS : RSt I L) (rb : RB I) : AW l G M_Mo_dsaSign (RsR h I L (c4 ((0 ≤ (1 : Int) ∧ (1 : Int) < 3) ∧ ((0 : Int) = 0 ∨ (0 : Int) = -1)) (((0 : Int) ≠ 0 ∨ I 186 4 ≤ 255) ∧ (I 186 0 = 32 ∨ I 186 0 = 0)) (I 186 2 = sSec (1 : Int)) (sgOk (1 : Int) (rkR I) ∧ sgRun (1 : Int) (rkR I) (rhR I (0 : Int)) (muR I (fun k => I 180 (64 + k)) (0 : Int)) 814 0 ≠ none)) (fun a => a = 183 ∨ a = 186) (fun v I' _ => ∃ t, sgRun (1 : Int) (rkR I) (rhR I (0 : Int)) (muR I (fun k => I 180 (64 + k)) (0 : Int)) 814 0 = some t ∧ v = t + 1 ∧ ((∀ j, j ≠ 5 → I' 186 j = I 186 j) ∧ I' 186 5 = sPkt (1 : Int)) ∧ HR I' 183 0 (sPkt (1 : Int)) (sgPk (1 : Int) (rkR I) (rhR I (0 : Int)) (muR I (fun k => I 180 (64 + k)) (0 : Int)) t) ∧ rng (I 183) (I' 183))) 0 (a_ar 0 [vr 175, vi 1, vi 0]) [] (sD h I L) := by
  suffices key : ∀ P : a_R → Hp → Prop, (∀ r_ h2_, RsR h I L (c4 ((0 ≤ (1 : Int) ∧ (1 : Int) < 3) ∧ ((0 : Int) = 0 ∨ (0 : Int) = -1)) (((0 : Int) ≠ 0 ∨ I 186 4 ≤ 255) ∧ (I 186 0 = 32 ∨ I 186 0 = 0)) (I 186 2 = sSec (1 : Int)) (sgOk (1 : Int) (rkR I) ∧ sgRun (1 : Int) (rkR I) (rhR I (0 : Int)) (muR I (fun k => I 180 (64 + k)) (0 : Int)) 814 0 ≠ none)) (fun a => a = 183 ∨ a = 186) (fun v I' _ => ∃ t, sgRun (1 : Int) (rkR I) (rhR I (0 : Int)) (muR I (fun k => I 180 (64 + k)) (0 : Int)) 814 0 = some t ∧ v = t + 1 ∧ ((∀ j, j ≠ 5 → I' 186 j = I 186 j) ∧ I' 186 5 = sPkt (1 : Int)) ∧ HR I' 183 0 (sPkt (1 : Int)) (sgPk (1 : Int) (rkR I) (rhR I (0 : Int)) (muR I (fun k => I 180 (64 + k)) (0 : Int)) t) ∧ rng (I 183) (I' 183)) r_ h2_ → P r_ h2_) → AW l G M_Mo_dsaSign P 0 [(0, vr 175), (1, vi 1), (2, vi 0)] [] (sD h I L) from key _ (fun _ _ q => q)
  intro P hP
  refine aw_aload_n d_Mo_dsaSign_0 rfl rfl ?_
  refine aw_iload_n d_Mo_dsaSign_1 rfl rfl ?_
  refine aw_iconst d_Mo_dsaSign_2 ⟨by decide, by decide⟩ ?_
  refine aw_iconst d_Mo_dsaSign_3 ⟨by decide, by decide⟩ ?_
  refine ax_S (st := [vr 175]) (as := [vi 1, vi 0, vi 2]) (v := some (vi 1)) (h' := sD h I L) d_Mo_dsaSign_4 cs_Mo_dsaSign_4 (c_in1 (by decide)) rfl rfl rfl ?_
  show AW l G M_Mo_dsaSign P 7 [(0, vr 175), (1, vi 1), (2, vi 0)] [vi 1, vr 175] (sD h I L)
  refine aw_if_eq (tgt := 23) d_Mo_dsaSign_7 (by decide) (fun c_7 => False.elim (by omega)) (fun c_7 => ?_)
  refine aw_iload_n d_Mo_dsaSign_10 rfl rfl ?_
  refine aw_iconst d_Mo_dsaSign_11 ⟨by decide, by decide⟩ ?_
  refine aw_iconst d_Mo_dsaSign_12 ⟨by decide, by decide⟩ ?_
  refine ax_S (st := [vr 175]) (as := [vi 0, vi (-1), vi 0]) (v := some (vi 1)) (h' := sD h I L) d_Mo_dsaSign_13 cs_Mo_dsaSign_13 (c_in1 (by decide)) rfl rfl rfl ?_
  show AW l G M_Mo_dsaSign P 16 [(0, vr 175), (1, vi 1), (2, vi 0)] [vi 1, vr 175] (sD h I L)
  refine aw_if_eq (tgt := 23) d_Mo_dsaSign_16 (by decide) (fun c_16 => False.elim (by omega)) (fun c_16 => ?_)
  refine aw_iconst d_Mo_dsaSign_19 ⟨by decide, by decide⟩ ?_
  refine aw_goto (tgt := 24) d_Mo_dsaSign_20 (by decide) ?_
  refine aw_iconst d_Mo_dsaSign_24 ⟨by decide, by decide⟩ ?_
  refine ax_V (st := []) (as := [vi 1, vi 1]) (b := 175) (v := some (vi 1)) (h' := sD h (a_up I 175 4 0) L) d_Mo_dsaSign_25 cs_Mo_dsaSign_25 (k_175 S) (c_good1 S (rfl)) rfl rfl rfl ?_
  show AW l G M_Mo_dsaSign P 28 [(0, vr 175), (1, vi 1), (2, vi 0)] [vi 1] (sD h (a_up I 175 4 0) L)
  refine aw_if_ne (tgt := 33) d_Mo_dsaSign_28 (by decide) (fun c_28 => ?_) (fun c_28 => False.elim (by omega))
  refine aw_aload_n d_Mo_dsaSign_33 rfl rfl ?_
  refine aw_iload_n d_Mo_dsaSign_34 rfl rfl ?_
  refine ax_Vr (st := []) (as := [vi 1]) (b := 175) d_Mo_dsaSign_35 cs_Mo_dsaSign_35 (k_175 S) (c_Mo_dsa1 S) rfl rfl rfl (fun u_35 q_35 => ?_)
  obtain ⟨d1, d2, d3⟩ := q_35
  have e0 : ∀ a j, (a < 175 ∨ 176 ≤ a ∧ a ≤ 202 ∨ 204 ≤ a) → u_35 a j = I a j := fun a j x => (d1 a j (by omega) (Or.inl (by omega)) (Or.inl (by omega)) (Or.inl (by omega)) (Or.inl (by omega)) (Or.inl (by omega)) (Or.inl (by omega)) (Or.inl (by omega)) (Or.inl (by omega)) (Or.inl (by omega))).trans (a_up_ne (Or.inl (by omega)))
  have R00 : fR0 qN I L u_35 L := ⟨fun a j x _ => e0 a j (by omega), (d1 175 3 (by decide) (Or.inr (by decide)) (Or.inr (by decide)) (Or.inr (by decide)) (Or.inr (by decide)) (Or.inr (by decide)) (Or.inr (by decide)) (Or.inr (by decide)) (Or.inr (by decide)) (Or.inr (by decide))).trans (a_up_ne (Or.inr (by decide))), fun _ _ _ => rfl⟩
  have D0 : RD u_35 L 1 := ⟨RS.of (fun j => e0 193 j (by omega)) (fun _ => rfl), d2, d3⟩
  have D1 := D0.fr (FR.c0 (p := fun _ => False) (v := 0)) ⟨fun z => z, fun z => z, fun z => z⟩
  have R1 : fR0 qN I L (a_up u_35 175 4 0) L := fR0.fr R00 (FR.c0 (p := fun _ => False)) (by intro a x y; exact ⟨fun z => z, fun z => z⟩) (fun z => z)
  show AW l G M_Mo_dsaSign P 38 [(0, vr 175), (1, vi 1), (2, vi 0)] [] (sD h u_35 L)
  refine aw_aload_n d_Mo_dsaSign_38 rfl rfl ?_
  refine aw_aload_n d_Mo_dsaSign_39 rfl rfl ?_
  refine aw_iload_n d_Mo_dsaSign_40 rfl rfl ?_
  by_cases cx_ : (0 : Int) < 0 ∨ u_35 186 4 ≤ 255
  · skip
    refine ax_V (st := [vr 175]) (as := [vi 0]) (b := 175) (v := some (vi 1)) (h' := sD h u_35 L) d_Mo_dsaSign_41 cs_Mo_dsaSign_41 (k_175 S) (by have z := c_Mo_context (l := l) (G := G) (h := h) (L := L) (I := u_35) (x := 0) S; rw [if_pos cx_] at z; exact z) rfl rfl rfl ?_
    show AW l G M_Mo_dsaSign P 44 [(0, vr 175), (1, vi 1), (2, vi 0)] [vi 1, vr 175] (sD h u_35 L)
    refine aw_if_eq (tgt := 71) d_Mo_dsaSign_44 (by decide) (fun c_44 => False.elim (by omega)) (fun c_44 => ?_)
    refine aw_aload_n d_Mo_dsaSign_47 rfl rfl ?_
    refine ax_getR (b := 186) d_Mo_dsaSign_48 fd_Mo_18 (k_175 S) (r_175_2 S) ?_
    refine aw_iconst d_Mo_dsaSign_51 ⟨by decide, by decide⟩ ?_
    refine ax_ialde (x := I 186 0) d_Mo_dsaSign_52 (k_186 S) (by omega) (by rw [n_186 S]; omega) (Eq.trans (e0 186 0 (by omega)) (rfl)) ?_
    refine aw_bipush d_Mo_dsaSign_53 ⟨by decide, by decide⟩ (by decide) ?_
    refine aw_icmp_eq (tgt := 67) d_Mo_dsaSign_55 (by decide) (fun c_55 => ?_) (fun c_55 => ?_)
    · skip
      refine aw_iconst d_Mo_dsaSign_67 ⟨by decide, by decide⟩ ?_
      refine aw_goto (tgt := 72) d_Mo_dsaSign_68 (by decide) ?_
      refine aw_iconst d_Mo_dsaSign_72 ⟨by decide, by decide⟩ ?_
      refine ax_V (st := []) (as := [vi 1, vi 2]) (b := 175) (v := some (vi 1)) (h' := sD h (a_up u_35 175 4 0) L) d_Mo_dsaSign_73 cs_Mo_dsaSign_73 (k_175 S) (c_good1 S (rfl)) rfl rfl rfl ?_
      show AW l G M_Mo_dsaSign P 76 [(0, vr 175), (1, vi 1), (2, vi 0)] [vi 1] (sD h (a_up u_35 175 4 0) L)
      refine aw_if_eq (tgt := 105) d_Mo_dsaSign_76 (by decide) (fun c_76 => False.elim (by omega)) (fun c_76 => ?_)
      have bb : (0 : Int) ≠ 0 ∨ I 186 4 ≤ 255 := by rw [e0 186 4 (by omega)] at cx_; omega
      refine aw_aload_n d_Mo_dsaSign_79 rfl rfl ?_
      refine aw_aload_n d_Mo_dsaSign_80 rfl rfl ?_
      refine ax_getR (b := 186) d_Mo_dsaSign_81 fd_Mo_18 (k_175 S) (r_175_2 S) ?_
      refine aw_iconst d_Mo_dsaSign_84 ⟨by decide, by decide⟩ ?_
      refine ax_ialde (x := I 186 2) d_Mo_dsaSign_85 (k_186 S) (by omega) (by rw [n_186 S]; omega) (Eq.trans (a_up_ne (Or.inl (by decide))) (Eq.trans (e0 186 2 (by omega)) (rfl))) ?_
      refine aw_aload_n d_Mo_dsaSign_86 rfl rfl ?_
      refine ax_V (st := [vi (I 186 2), vr 175]) (as := []) (b := 175) (v := some (vi 4032)) (h' := sD h (a_up u_35 175 4 0) L) d_Mo_dsaSign_87 cs_Mo_dsaSign_87 (k_175 S) (c_Mo_secretLength (z := 4032) S (by rw [dr1_33 D1, dr1_32 D1, dr1_26 D1]; decide) (by rw [dr1_32 D1, dr1_26 D1]; decide)) rfl rfl rfl ?_
      show AW l G M_Mo_dsaSign P 90 [(0, vr 175), (1, vi 1), (2, vi 0)] [vi 4032, vi (I 186 2), vr 175] (sD h (a_up u_35 175 4 0) L)
      refine aw_icmp_ne (tgt := 97) d_Mo_dsaSign_90 (by decide) (fun c_90 => ?_) (fun c_90 => ?_)
      · skip
        refine aw_iconst d_Mo_dsaSign_97 ⟨by decide, by decide⟩ ?_
        refine aw_iconst d_Mo_dsaSign_98 ⟨by decide, by decide⟩ ?_
        refine ax_V (st := []) (as := [vi 0, vi 3]) (b := 175) (v := some (vi 0)) (h' := sD h (a_up u_35 175 4 3) L) d_Mo_dsaSign_99 cs_Mo_dsaSign_99 (k_175 S) (c_good0 S (by rw [a_up_up])) rfl rfl rfl ?_
        show AW l G M_Mo_dsaSign P 102 [(0, vr 175), (1, vi 1), (2, vi 0)] [vi 0] (sD h (a_up u_35 175 4 3) L)
        refine aw_if_ne (tgt := 107) d_Mo_dsaSign_102 (by decide) (fun c_102 => False.elim (by omega)) (fun c_102 => ?_)
        refine aw_iconst d_Mo_dsaSign_105 ⟨by decide, by decide⟩ ?_
        exact aw_iret d_Mo_dsaSign_106 rfl (hP _ _ (rsNo 0 3 (c4_3 ⟨by decide, by decide⟩ ⟨bb, by omega⟩ (fun z => by have z1 : I 186 2 = 4032 := z; omega)) (by decide) a_up_at (fR0.fr R00 (FR.c0 (p := fun _ => False)) (by intro a x y; exact ⟨fun z => z, fun z => z⟩) (fun z => z))))
      · skip
        refine aw_iconst d_Mo_dsaSign_93 ⟨by decide, by decide⟩ ?_
        refine aw_goto (tgt := 98) d_Mo_dsaSign_94 (by decide) ?_
        refine aw_iconst d_Mo_dsaSign_98 ⟨by decide, by decide⟩ ?_
        refine ax_V (st := []) (as := [vi 1, vi 3]) (b := 175) (v := some (vi 1)) (h' := sD h (a_up u_35 175 4 0) L) d_Mo_dsaSign_99 cs_Mo_dsaSign_99 (k_175 S) (c_good1 S (by rw [a_up_up])) rfl rfl rfl ?_
        show AW l G M_Mo_dsaSign P 102 [(0, vr 175), (1, vi 1), (2, vi 0)] [vi 1] (sD h (a_up u_35 175 4 0) L)
        refine aw_if_ne (tgt := 107) d_Mo_dsaSign_102 (by decide) (fun c_102 => ?_) (fun c_102 => False.elim (by omega))
        refine aw_aload_n d_Mo_dsaSign_107 rfl rfl ?_
        refine aw_aload_n d_Mo_dsaSign_108 rfl rfl ?_
        refine ax_getR (b := 177) d_Mo_dsaSign_109 fd_Mo_15 (k_175 S) (r_175_1 S) ?_
        refine aw_iconst d_Mo_dsaSign_112 ⟨by decide, by decide⟩ ?_
        refine ax_aald (b := 180) d_Mo_dsaSign_113 ⟨by rw [(k_177 S)]; decide, by rw [(k_177 S)]; decide⟩ (by omega) (by rw [n_177 S]; omega) (g_177 S (j := 2) (by decide) (by decide)) ?_
        refine aw_bipush d_Mo_dsaSign_114 ⟨by decide, by decide⟩ (by decide) ?_
        refine aw_iload_n d_Mo_dsaSign_116 rfl rfl ?_
        have kz : ∀ a j, (a < 175 ∨ 176 ≤ a ∧ a ≤ 202 ∨ 204 ≤ a) → (a_up u_35 175 4 0) a j = I a j := fun a j x => (a_up_ne (Or.inl (by omega))).trans (e0 a j x)
        have rb1 : RB (a_up u_35 175 4 0) := ⟨fun s a b => by rw [kz 186 s (by omega)]; exact rb.1 s a b, by rw [R1.2.1]; exact rb.2⟩
        have k4 := kz 186 4 (by omega)
        have k3 := kz 186 3 (by omega)
        have f180 : ∀ x : Int, (fun k => (a_up u_35 175 4 0) 180 (x + k)) = (fun k => I 180 (x + k)) := fun x => funext (fun k => kz 180 _ (by omega))
        have f0 : ∀ a : Nat, a = 181 ∨ a = 182 → (fun k => (a_up u_35 175 4 0) a (0 + k)) = (fun k => I a (0 + k)) := fun a ha => funext (fun k => kz a _ (by omega))
        refine ax_Vr (st := []) (as := [vr 180, vi 64, vi 0]) (b := 175) d_Mo_dsaSign_117 cs_Mo_dsaSign_117 (k_175 S) (c_Mo_digestMessage0 (f := 180) (pa := 64) S D1.1 rb1 ⟨k_180 S, by decide, by decide⟩ (by rw [n_180 S]; decide)) rfl rfl rfl (fun u_117 q_117 => ?_)
        obtain ⟨I1, L1⟩ := u_117
        obtain ⟨F1, h1⟩ := q_117
        dsimp only at F1 h1
        rw [k3, f180 64, f0 181 (Or.inl rfl), k4, f0 182 (Or.inr rfl)] at h1
        have h1 : HR I1 265 0 64 (muR I (fun k => I 180 (64 + k)) (0 : Int)) := h1
        have RS1 := D1.1.fr F1 (by decide)
        show AW l G M_Mo_dsaSign P 120 [(0, vr 175), (1, vi 1), (2, vi 0)] [] (sD h I1 L1)
        refine aw_aload_n d_Mo_dsaSign_120 rfl rfl ?_
        refine aw_bipush d_Mo_dsaSign_121 ⟨by decide, by decide⟩ (by decide) ?_
        refine ax_Vr (st := []) (as := [vi 12]) (b := 175) d_Mo_dsaSign_123 cs_Mo_dsaSign_123 (k_175 S) (c_Mo_begin12 S) rfl rfl rfl (fun u_123 q_123 => ?_)
        obtain ⟨I2, L2⟩ := u_123
        obtain ⟨F2, e2, k2⟩ := q_123
        dsimp only at F2 e2 k2
        show AW l G M_Mo_dsaSign P 126 [(0, vr 175), (1, vi 1), (2, vi 0)] [] (sD h I2 L2)
        refine aw_aload_n d_Mo_dsaSign_126 rfl rfl ?_
        refine aw_aload_n d_Mo_dsaSign_127 rfl rfl ?_
        refine ax_getR (b := 177) d_Mo_dsaSign_128 fd_Mo_15 (k_175 S) (r_175_1 S) ?_
        refine aw_iconst d_Mo_dsaSign_131 ⟨by decide, by decide⟩ ?_
        refine ax_aald (b := 180) d_Mo_dsaSign_132 ⟨by rw [(k_177 S)]; decide, by rw [(k_177 S)]; decide⟩ (by omega) (by rw [n_177 S]; omega) (g_177 S (j := 2) (by decide) (by decide)) ?_
        refine aw_bipush d_Mo_dsaSign_133 ⟨by decide, by decide⟩ (by decide) ?_
        refine aw_bipush d_Mo_dsaSign_135 ⟨by decide, by decide⟩ (by decide) ?_
        refine ax_Vr (st := []) (as := [vr 180, vi 32, vi 32]) (b := 175) d_Mo_dsaSign_137 cs_Mo_dsaSign_137 (k_175 S) (c_Mo_put3 S (RS1.rf F2) (by omega) (by rw [e2]; exact spStart_lt (by decide) (by decide)) ⟨k_180 S, by decide, by decide⟩ (by rw [n_180 S]; decide)) rfl rfl rfl (fun u_137 q_137 => ?_)
        obtain ⟨I3, L3⟩ := u_137
        obtain ⟨F3, e3, k3⟩ := q_137
        dsimp only at F3 e3 k3
        show AW l G M_Mo_dsaSign P 140 [(0, vr 175), (1, vi 1), (2, vi 0)] [] (sD h I3 L3)
        refine aw_iconst d_Mo_dsaSign_140 ⟨by decide, by decide⟩ ?_
        refine aw_istore_n (lv' := [(3, vi 0), (0, vr 175), (1, vi 1), (2, vi 0)]) d_Mo_dsaSign_141 rfl (by decide) rfl ?_
        have lp_142 : ∀ (n_ : Nat) (i : Int) (K4 : Nat → Int → Int) (M4 : Nat → Int → Int), (0 ≤ i ∧ i ≤ 32) → (RF I3 L3 K4 M4) → (spR K4 M4 = spPart (spR I3 L3) (rnR I) i.toNat) → (K4 175 18 = 12) → ((32 - i).toNat) = n_ → AW l G M_Mo_dsaSign P 142 [(3, vi i), (2, vi 0), (1, vi 1), (0, vr 175)] [] (sD h K4 M4) := by
          intro n_
          induction n_ using Nat.strongRecOn with
          | _ n_ ih_142 =>
          intro i K4 M4 hi F4 e4 k4_ hm_142
          refine aw_iload_n d_Mo_dsaSign_142 rfl rfl ?_
          refine aw_bipush d_Mo_dsaSign_143 ⟨by decide, by decide⟩ (by decide) ?_
          refine aw_icmp_ge (tgt := 179) d_Mo_dsaSign_145 (by decide) (fun c_145 => ?_) (fun c_145 => ?_)
          · skip
            refine aw_aload_n d_Mo_dsaSign_179 rfl rfl ?_
            refine aw_aload_n d_Mo_dsaSign_180 rfl rfl ?_
            refine ax_getR (b := 265) d_Mo_dsaSign_181 fd_Mo_93 (k_175 S) (r_175_41 S) ?_
            refine aw_iconst d_Mo_dsaSign_184 ⟨by decide, by decide⟩ ?_
            refine aw_bipush d_Mo_dsaSign_185 ⟨by decide, by decide⟩ (by decide) ?_
            refine ax_Vr (st := []) (as := [vr 265, vi 0, vi 64]) (b := 175) d_Mo_dsaSign_187 cs_Mo_dsaSign_187 (k_175 S) (c_Mo_put3 S ((RS1.rf F2).rf (F3.tr F4)) (by omega) (by rw [e4, e3, e2]; exact spPart_lt (spPart_lt (spStart_lt (by decide) (by decide)) _ _) _ _) ⟨k_265 S, by decide, by decide⟩ (by rw [n_265 S]; decide)) rfl rfl rfl (fun u_187 q_187 => ?_)
            obtain ⟨I6, L6⟩ := u_187
            obtain ⟨F6, e6, k6⟩ := q_187
            dsimp only at F6 e6 k6
            have G6 := (F2.tr (F3.tr F4)).tr F6
            have eS : spTurn (spR I6 L6) = rhS (fun k => I 180 (32 + k)) (rnR I) (muR I (fun k => I 180 (64 + k)) (0 : Int)) := by rw [e6, e4, e3, e2, show i.toNat = 32 by omega, show Int.toNat 32 = 32 from rfl, show Int.toNat 64 = 64 from rfl, show (fun k => I2 180 (32 + k)) = (fun k => I 180 (32 + k)) from funext (fun z => (F2.1 180 _ (Or.inl (by decide))).trans ((F1.1 180 _ (by decide) (Or.inl (by decide))).trans (kz 180 _ (by omega)))), spPart_congr (f := fun k => K4 265 (0 + k)) (g := (muR I (fun k => I 180 (64 + k)) (0 : Int))) (fun k hk => by rw [(F2.tr (F3.tr F4)).1 265 _ (Or.inl (by decide)), h1 k (by omega) (by omega)]; exact (spOut_m _ _).symm)]; rfl
            show AW l G M_Mo_dsaSign P 190 [(3, vi i), (2, vi 0), (1, vi 1), (0, vr 175)] [] (sD h I6 L6)
            refine aw_aload_n d_Mo_dsaSign_190 rfl rfl ?_
            refine aw_aload_n d_Mo_dsaSign_191 rfl rfl ?_
            refine ax_getR (b := 266) d_Mo_dsaSign_192 fd_Mo_96 (k_175 S) (r_175_42 S) ?_
            refine aw_iconst d_Mo_dsaSign_195 ⟨by decide, by decide⟩ ?_
            refine aw_bipush d_Mo_dsaSign_196 ⟨by decide, by decide⟩ (by decide) ?_
            refine ax_Vr (st := []) (as := [vr 266, vi 0, vi 64]) (b := 175) d_Mo_dsaSign_198 cs_Mo_dsaSign_198 (k_175 S) (c_Mo_give S (RS1.rf G6) (by omega) (by rw [e6, e4, e3, e2]; exact (spPart_lt (spPart_lt (spPart_lt (spStart_lt (by decide) (by decide)) _ _) _ _) _ _).1) ⟨k_266 S, by decide, by decide, by decide⟩ (by rw [n_266 S]; decide)) rfl rfl rfl (fun u_198 q_198 => ?_)
            obtain ⟨I7, L7⟩ := u_198
            obtain ⟨F7, f7, e7, k7⟩ := q_198
            dsimp only at F7 f7 e7 k7
            rw [eS] at F7
            have h7 : HR I7 266 0 64 (rhR I (0 : Int)) := HR.give F7 (by decide)
            have G7 : FR (fun a => a = 265 ∨ a = 266) (a_up u_35 175 4 0) L I7 L7 := (F1.tr (G6.fr (p := fun a => a = 265)) (fun a x => ⟨x, x⟩)).tr (FR.give (p := fun a => a = 266) F7 f7 rfl) (by intro a x; omega)
            have D7 := D1.fr G7 (by decide)
            have m7 : HR I7 265 0 64 (muR I (fun k => I 180 (64 + k)) (0 : Int)) := (h1.fr (G6.fr (p := fun _ => False)) (fun z => z) (by decide)).fr (FR.give (p := fun a => a = 266) F7 f7 rfl) (by decide) (by decide)
            show AW l G M_Mo_dsaSign P 201 [(3, vi i), (2, vi 0), (1, vi 1), (0, vr 175)] [] (sD h I7 L7)
            refine aw_aload_n d_Mo_dsaSign_201 rfl rfl ?_
            refine ax_getIe (x := 4) d_Mo_dsaSign_202 fd_Mo_229 (k_175 S) (dr1_33 D7) ?_
            refine aw_iconst d_Mo_dsaSign_205 ⟨by decide, by decide⟩ ?_
            refine aw_icmp_ne (tgt := 213) d_Mo_dsaSign_206 (by decide) (fun c_206 => ?_) (fun c_206 => False.elim (by omega))
            refine aw_iconst d_Mo_dsaSign_213 ⟨by decide, by decide⟩ ?_
            refine aw_istore_n (lv' := [(3, vi 4), (2, vi 0), (1, vi 1), (0, vr 175)]) d_Mo_dsaSign_214 rfl (by decide) rfl ?_
            refine aw_aload_n d_Mo_dsaSign_215 rfl rfl ?_
            refine aw_iconst d_Mo_dsaSign_216 ⟨by decide, by decide⟩ ?_
            refine ax_putI d_Mo_dsaSign_217 fd_Mo_216 (k_175 S) (by decide) rfl ?_
            refine aw_iconst d_Mo_dsaSign_220 ⟨by decide, by decide⟩ ?_
            refine aw_istore (lv' := [(4, vi 0), (3, vi 4), (2, vi 0), (1, vi 1), (0, vr 175)]) d_Mo_dsaSign_221 (by decide) rfl ?_
            have lp_223 : ∀ (n_ : Nat) (i : Int) (K5 : Nat → Int → Int), (0 ≤ i ∧ i ≤ 11) → (FR (fun a => 205 ≤ a ∧ a ≤ 219) I7 L7 K5 L7) → (K5 175 23 = 8 * (128 * i)) → (∀ m, 0 ≤ m → m < i → eqQ (K5 (205 + m.toNat)) (sgSs 1 (rkR I) m)) → ((11 - i).toNat) = n_ → AW l G M_Mo_dsaSign P 223 [(4, vi i), (3, vi 4), (2, vi 0), (1, vi 1), (0, vr 175)] [] (sD h K5 L7) := by
              intro n_
              induction n_ using Nat.strongRecOn with
              | _ n_ ih_223 =>
              intro i K5 hi5 G5 b5 s5 hm_223
              have sk5 : ∀ x, K5 180 x = I 180 x := fun x => (G5.1 _ _ (by decide) (Or.inl (by decide))).trans ((G7.1 _ _ (by decide) (Or.inl (by decide))).trans (kz 180 x (by omega)))
              refine aw_iload d_Mo_dsaSign_223 rfl ?_
              refine aw_aload_n d_Mo_dsaSign_225 rfl rfl ?_
              refine ax_getIe (x := 5) d_Mo_dsaSign_226 fd_Mo_226 (k_175 S) (Eq.trans (G5.1 175 32 (by omega) (Or.inr (by decide))) (dr1_32 D7)) ?_
              refine aw_aload_n d_Mo_dsaSign_229 rfl rfl ?_
              refine ax_getIe (x := 6) d_Mo_dsaSign_230 fd_Mo_223 (k_175 S) (Eq.trans (G5.1 175 26 (by omega) (Or.inr (by decide))) (dr1_26 D7)) ?_
              refine ax_iadd d_Mo_dsaSign_233 ⟨(by omega), (by omega)⟩ ?_
              refine ax_ti (x := 11) (by decide) ?_
              refine aw_icmp_ge (tgt := 268) d_Mo_dsaSign_234 (by decide) (fun c_234 => ?_) (fun c_234 => ?_)
              · skip
                refine aw_iconst d_Mo_dsaSign_268 ⟨by decide, by decide⟩ ?_
                refine aw_istore (lv' := [(4, vi 0), (3, vi 4), (2, vi 0), (1, vi 1), (0, vr 175)]) d_Mo_dsaSign_269 (by decide) rfl ?_
                have lp_271 : ∀ (n_ : Nat) (i : Int) (K6 : Nat → Int → Int), (0 ≤ i ∧ i ≤ 6) → (FR (fun a => 205 ≤ a ∧ a ≤ 227) I7 L7 K6 L7) → (K6 175 23 = 8 * (1408 + 416 * i)) → (∀ m, 0 ≤ m → m < 11 → eqQ (K6 (205 + m.toNat)) (sgSs 1 (rkR I) m)) → (∀ m, 0 ≤ m → m < i → eqQ (K6 (205 + (15 + m).toNat)) (sgDs 1 (rkR I) m)) → ((6 - i).toNat) = n_ → AW l G M_Mo_dsaSign P 271 [(4, vi i), (2, vi 0), (1, vi 1), (0, vr 175)] [] (sD h K6 L7) := by
                  intro n_
                  induction n_ using Nat.strongRecOn with
                  | _ n_ ih_271 =>
                  intro i K6 hi6 Gy b6 s6 t6 hm_271
                  have sk6 : ∀ x, K6 180 x = I 180 x := fun x => (Gy.1 _ _ (by decide) (Or.inl (by decide))).trans ((G7.1 _ _ (by decide) (Or.inl (by decide))).trans (kz 180 x (by omega)))
                  refine aw_iload d_Mo_dsaSign_271 rfl ?_
                  refine aw_aload_n d_Mo_dsaSign_273 rfl rfl ?_
                  refine ax_getIe (x := 6) d_Mo_dsaSign_274 fd_Mo_223 (k_175 S) (Eq.trans (Gy.1 175 26 (by omega) (Or.inr (by decide))) (dr1_26 D7)) ?_
                  refine aw_icmp_ge (tgt := 314) d_Mo_dsaSign_277 (by decide) (fun c_277 => ?_) (fun c_277 => ?_)
                  · skip
                    refine aw_sub (lv' := [(0, vr 175)]) (by simp) ?_
                    exact sB10 S (fR0.fr (fR0.fr R1 G7 (r := qN) (by intro a x y; exact ⟨fun z => z, by omega⟩) (by decide)) Gy (by intro a x y; exact ⟨fun z => z, by omega⟩) (by decide)) (D7.fr Gy (by decide)) (m7.fr Gy (by decide) (by decide)) (h7.fr Gy (by decide) (by decide)) s6 (fun m a b => t6 m a (by omega)) ⟨bb, by omega⟩ (by show I 186 2 = 4032; omega) hP
                  · skip
                    refine aw_aload_n d_Mo_dsaSign_280 rfl rfl ?_
                    refine aw_aload_n d_Mo_dsaSign_281 rfl rfl ?_
                    refine ax_getR (b := 177) d_Mo_dsaSign_282 fd_Mo_15 (k_175 S) (r_175_1 S) ?_
                    refine aw_iconst d_Mo_dsaSign_285 ⟨by decide, by decide⟩ ?_
                    refine ax_aald (b := 180) d_Mo_dsaSign_286 ⟨by rw [(k_177 S)]; decide, by rw [(k_177 S)]; decide⟩ (by omega) (by rw [n_177 S]; omega) (g_177 S (j := 2) (by decide) (by decide)) ?_
                    refine aw_sipush d_Mo_dsaSign_287 ⟨by decide, by decide⟩ (by decide) ?_
                    refine aw_aload_n d_Mo_dsaSign_290 rfl rfl ?_
                    refine ax_getR (b := 204) d_Mo_dsaSign_291 fd_Mo_76 (k_175 S) (r_175_28 S) ?_
                    refine aw_bipush d_Mo_dsaSign_294 ⟨by decide, by decide⟩ (by decide) ?_
                    refine aw_iload d_Mo_dsaSign_296 rfl ?_
                    refine ax_iadd d_Mo_dsaSign_298 ⟨(by omega), (by omega)⟩ ?_
                    refine ax_aald (b := 205 + (15 + i).toNat) d_Mo_dsaSign_299 ⟨by rw [(k_204 S)]; decide, by rw [(k_204 S)]; decide⟩ (by omega) (by rw [n_204 S]; omega) (g_204 S (by omega) (by omega)) ?_
                    refine aw_sipush d_Mo_dsaSign_300 ⟨by decide, by decide⟩ (by decide) ?_
                    refine aw_bipush d_Mo_dsaSign_303 ⟨by decide, by decide⟩ (by decide) ?_
                    refine ax_Vr (st := []) (as := [vr 180, vi 128, vr (205 + (15 + i).toNat), vi 4096, vi 13]) (b := 175) d_Mo_dsaSign_305 cs_Mo_dsaSign_305 (k_175 S) (c_Mo_unpack (pa := 128) (c := 1408 + 416 * i) (d := 13) (b := 4096) S ⟨k_180 S, by decide, by decide⟩ ⟨kr_204 S (by omega), by omega, nr_204 S (by omega)⟩ (by omega) (by decide) (by omega) (by decide) (by rw [n_180 S]; omega)) rfl rfl rfl (fun u_305 q_305 => ?_)
                    obtain ⟨q1, q2, q3⟩ := q_305
                    have Fy : FR (fun a => 220 ≤ a ∧ a ≤ 227) K6 L7 u_305 L7 := FR.unp q1 (by omega)
                    show AW l G M_Mo_dsaSign P 308 [(4, vi i), (2, vi 0), (1, vi 1), (0, vr 175)] [] (sD h u_305 L7)
                    refine ax_iinc (lv' := [(4, vi (i + 1)), (2, vi 0), (1, vi 1), (0, vr 175)]) d_Mo_dsaSign_308 rfl (by decide) ⟨(by omega), (by omega)⟩ rfl ?_
                    refine aw_goto (tgt := 271) d_Mo_dsaSign_311 (by decide) ?_
                    exact ih_271 _ (by omega) (i + 1) u_305 (by omega) (Gy.tr (Fy.mono (r := fun a => 205 ≤ a ∧ a ≤ 227) (by intro a x; omega)) (fun a x => ⟨x, x⟩)) (by omega) (fun m a b x u v => by rw [q1 _ _ (by omega) (Or.inl (by omega))]; exact s6 m a b x u v) (fun m a b x u v => by by_cases z : m = i; exact (by rw [z, q3 x u v, show (fun j => K6 180 (128 + (1408 + 416 * i) + j) % 256) = (fun j => I 180 (1536 + 416 * i + j) % 256) from funext (fun y => by rw [sk6, show (128 + (1408 + 416 * i) : Int) = 1536 + 416 * i by omega])]; show _ = 4096 - gR (fun k => rkR I (1536 + 416 * i + k)) 13 x; rw [gR_congr (g := fun j => I 180 (1536 + 416 * i + j) % 256) (g' := fun k => rkR I (1536 + 416 * i + k)) (fun y y0 y1 => (gW_in (s := 2) (by omega) (by rw [show I 186 2 = 4032 by omega]; omega)).symm)]); exact (by rw [q1 _ _ (by omega) (Or.inl (by omega))]; exact t6 m a (by omega) x u v)) rfl
                skip
                refine aw_sub (lv' := [(4, vi 0), (2, vi 0), (1, vi 1), (0, vr 175)]) (by simp) ?_
                exact lp_271 _ 0 K5 (by omega) (G5.mono (by intro a x; omega)) (by omega) (fun m a b => s5 m a (by omega)) (fun m a b => by omega) rfl
              · skip
                refine aw_aload_n d_Mo_dsaSign_237 rfl rfl ?_
                refine aw_aload_n d_Mo_dsaSign_238 rfl rfl ?_
                refine ax_getR (b := 177) d_Mo_dsaSign_239 fd_Mo_15 (k_175 S) (r_175_1 S) ?_
                refine aw_iconst d_Mo_dsaSign_242 ⟨by decide, by decide⟩ ?_
                refine ax_aald (b := 180) d_Mo_dsaSign_243 ⟨by rw [(k_177 S)]; decide, by rw [(k_177 S)]; decide⟩ (by omega) (by rw [n_177 S]; omega) (g_177 S (j := 2) (by decide) (by decide)) ?_
                refine aw_sipush d_Mo_dsaSign_244 ⟨by decide, by decide⟩ (by decide) ?_
                refine aw_aload_n d_Mo_dsaSign_247 rfl rfl ?_
                refine ax_getR (b := 204) d_Mo_dsaSign_248 fd_Mo_76 (k_175 S) (r_175_28 S) ?_
                refine aw_iload d_Mo_dsaSign_251 rfl ?_
                refine ax_aald (b := 205 + i.toNat) d_Mo_dsaSign_253 ⟨by rw [(k_204 S)]; decide, by rw [(k_204 S)]; decide⟩ (by omega) (by rw [n_204 S]; omega) (g_204 S (by omega) (by omega)) ?_
                refine aw_aload_n d_Mo_dsaSign_254 rfl rfl ?_
                refine ax_getIe (x := 4) d_Mo_dsaSign_255 fd_Mo_229 (k_175 S) (Eq.trans (G5.1 175 33 (by omega) (Or.inr (by decide))) (dr1_33 D7)) ?_
                refine aw_iload_n d_Mo_dsaSign_258 rfl rfl ?_
                refine ax_Vr (st := []) (as := [vr 180, vi 128, vr (205 + i.toNat), vi 4, vi 4]) (b := 175) d_Mo_dsaSign_259 cs_Mo_dsaSign_259 (k_175 S) (c_Mo_unpack (pa := 128) (c := 128 * i) (d := 4) (b := 4) S ⟨k_180 S, by decide, by decide⟩ ⟨kr_204 S (by omega), by omega, nr_204 S (by omega)⟩ (by omega) (by decide) (by omega) (by decide) (by rw [n_180 S]; omega)) rfl rfl rfl (fun u_259 q_259 => ?_)
                obtain ⟨q1, q2, q3⟩ := q_259
                have Fx : FR (fun a => 205 ≤ a ∧ a ≤ 219) K5 L7 u_259 L7 := FR.unp q1 (by omega)
                show AW l G M_Mo_dsaSign P 262 [(4, vi i), (3, vi 4), (2, vi 0), (1, vi 1), (0, vr 175)] [] (sD h u_259 L7)
                refine ax_iinc (lv' := [(4, vi (i + 1)), (3, vi 4), (2, vi 0), (1, vi 1), (0, vr 175)]) d_Mo_dsaSign_262 rfl (by decide) ⟨(by omega), (by omega)⟩ rfl ?_
                refine aw_goto (tgt := 223) d_Mo_dsaSign_265 (by decide) ?_
                exact ih_223 _ (by omega) (i + 1) u_259 (by omega) (G5.tr Fx (fun a x => ⟨x, x⟩)) (by omega) (fun m a b x u v => by by_cases z : m = i; exact (by rw [z, q3 x u v, show (fun j => K5 180 (128 + 128 * i + j) % 256) = (fun j => I 180 (128 + 128 * i + j) % 256) from funext (fun y => by rw [sk5])]; show _ = 4 - gR (fun k => rkR I (128 + 128 * i + k)) 4 x; rw [gR_congr (g := fun j => I 180 (128 + 128 * i + j) % 256) (g' := fun k => rkR I (128 + 128 * i + k)) (fun y y0 y1 => (gW_in (s := 2) (by omega) (by rw [show I 186 2 = 4032 by omega]; omega)).symm)]); exact (by rw [q1 _ _ (by omega) (Or.inl (by omega))]; exact s5 m a (by omega) x u v)) rfl
            skip
            exact lp_223 _ 0 (a_up I7 175 23 0) (by omega) (FR.b0) (a_up_at.trans (by decide)) (fun m a b => by omega) rfl
          · skip
            refine aw_aload_n d_Mo_dsaSign_148 rfl rfl ?_
            refine aw_aload_n d_Mo_dsaSign_149 rfl rfl ?_
            refine ax_getR (b := 186) d_Mo_dsaSign_150 fd_Mo_18 (k_175 S) (r_175_2 S) ?_
            refine aw_iconst d_Mo_dsaSign_153 ⟨by decide, by decide⟩ ?_
            refine ax_ialde (x := I 186 0) d_Mo_dsaSign_154 (k_186 S) (by omega) (by rw [n_186 S]; omega) (Eq.trans ((F2.tr (F3.tr F4)).1 186 0 (Or.inl (by decide))) (Eq.trans (F1.1 186 0 (by decide) (Or.inl (by decide))) (Eq.trans (kz 186 0 (by omega)) (rfl)))) ?_
            refine aw_if_ne (tgt := 162) d_Mo_dsaSign_155 (by decide) (fun c_155 => ?_) (fun c_155 => ?_)
            · skip
              refine aw_aload_n d_Mo_dsaSign_162 rfl rfl ?_
              refine ax_getR (b := 177) d_Mo_dsaSign_163 fd_Mo_15 (k_175 S) (r_175_1 S) ?_
              refine aw_iconst d_Mo_dsaSign_166 ⟨by decide, by decide⟩ ?_
              refine ax_aald (b := 178) d_Mo_dsaSign_167 ⟨by rw [(k_177 S)]; decide, by rw [(k_177 S)]; decide⟩ (by omega) (by rw [n_177 S]; omega) (g_177 S (j := 0) (by decide) (by decide)) ?_
              refine aw_iload_n d_Mo_dsaSign_168 rfl rfl ?_
              refine ax_balde (x := I 178 i) d_Mo_dsaSign_169 (k_178 S) (by omega) (by rw [n_178 S]; omega) (Eq.trans ((F2.tr (F3.tr F4)).1 178 i (Or.inl (by decide))) (Eq.trans (F1.1 178 i (by decide) (Or.inl (by decide))) (Eq.trans (kz 178 i (by omega)) (rfl)))) ?_
              have vv : rnR I i = I 178 i := by unfold rnR; rw [if_neg (by omega)]
              refine ax_Vr (st := []) (as := [vi (I 178 i)]) (b := 175) d_Mo_dsaSign_170 cs_Mo_dsaSign_170 (k_175 S) (c_Mo_put1 S ((RS1.rf F2).rf (F3.tr F4)) (by omega) (by rw [e4, e3, e2]; exact spPart_lt (spPart_lt (spStart_lt (by decide) (by decide)) _ _) _ _)) rfl rfl rfl (fun u_170 q_170 => ?_)
              obtain ⟨I5, L5⟩ := u_170
              obtain ⟨F5, e5, k5⟩ := q_170
              dsimp only at F5 e5 k5
              show AW l G M_Mo_dsaSign P 173 [(3, vi i), (2, vi 0), (1, vi 1), (0, vr 175)] [] (sD h I5 L5)
              refine ax_iinc (lv' := [(3, vi (i + 1)), (2, vi 0), (1, vi 1), (0, vr 175)]) d_Mo_dsaSign_173 rfl (by decide) ⟨(by omega), (by omega)⟩ rfl ?_
              refine aw_goto (tgt := 142) d_Mo_dsaSign_176 (by decide) ?_
              exact ih_142 _ (by omega) (i + 1) I5 L5 (by omega) (F4.tr F5) (by rw [e5, e4, show (i + 1).toNat = i.toNat + 1 by omega]; show _ = spTake (spPart (spR I3 L3) (rnR I) i.toNat) (rnR I (i.toNat : Int)); rw [Int.toNat_of_nonneg hi.1, vv]) (by omega) rfl
            · skip
              refine aw_iconst d_Mo_dsaSign_158 ⟨by decide, by decide⟩ ?_
              refine aw_goto (tgt := 170) d_Mo_dsaSign_159 (by decide) ?_
              have vv : rnR I i = 0 := by unfold rnR; rw [if_pos (by omega)]
              refine ax_Vr (st := []) (as := [vi 0]) (b := 175) d_Mo_dsaSign_170 cs_Mo_dsaSign_170 (k_175 S) (c_Mo_put1 S ((RS1.rf F2).rf (F3.tr F4)) (by omega) (by rw [e4, e3, e2]; exact spPart_lt (spPart_lt (spStart_lt (by decide) (by decide)) _ _) _ _)) rfl rfl rfl (fun u_170 q_170 => ?_)
              obtain ⟨I5, L5⟩ := u_170
              obtain ⟨F5, e5, k5⟩ := q_170
              dsimp only at F5 e5 k5
              show AW l G M_Mo_dsaSign P 173 [(3, vi i), (2, vi 0), (1, vi 1), (0, vr 175)] [] (sD h I5 L5)
              refine ax_iinc (lv' := [(3, vi (i + 1)), (2, vi 0), (1, vi 1), (0, vr 175)]) d_Mo_dsaSign_173 rfl (by decide) ⟨(by omega), (by omega)⟩ rfl ?_
              refine aw_goto (tgt := 142) d_Mo_dsaSign_176 (by decide) ?_
              exact ih_142 _ (by omega) (i + 1) I5 L5 (by omega) (F4.tr F5) (by rw [e5, e4, show (i + 1).toNat = i.toNat + 1 by omega]; show _ = spTake (spPart (spR I3 L3) (rnR I) i.toNat) (rnR I (i.toNat : Int)); rw [Int.toNat_of_nonneg hi.1, vv]) (by omega) rfl
        skip
        refine aw_sub (lv' := [(3, vi 0), (2, vi 0), (1, vi 1), (0, vr 175)]) (by simp) ?_
        exact lp_142 _ 0 I3 L3 (by omega) (RF.rfl') (rfl) (by omega) rfl
    · skip
      refine aw_aload_n d_Mo_dsaSign_58 rfl rfl ?_
      refine ax_getR (b := 186) d_Mo_dsaSign_59 fd_Mo_18 (k_175 S) (r_175_2 S) ?_
      refine aw_iconst d_Mo_dsaSign_62 ⟨by decide, by decide⟩ ?_
      refine ax_ialde (x := I 186 0) d_Mo_dsaSign_63 (k_186 S) (by omega) (by rw [n_186 S]; omega) (Eq.trans (e0 186 0 (by omega)) (rfl)) ?_
      refine aw_if_ne (tgt := 71) d_Mo_dsaSign_64 (by decide) (fun c_64 => ?_) (fun c_64 => ?_)
      · skip
        refine aw_iconst d_Mo_dsaSign_71 ⟨by decide, by decide⟩ ?_
        refine aw_iconst d_Mo_dsaSign_72 ⟨by decide, by decide⟩ ?_
        refine ax_V (st := []) (as := [vi 0, vi 2]) (b := 175) (v := some (vi 0)) (h' := sD h (a_up u_35 175 4 2) L) d_Mo_dsaSign_73 cs_Mo_dsaSign_73 (k_175 S) (c_good0 S (rfl)) rfl rfl rfl ?_
        show AW l G M_Mo_dsaSign P 76 [(0, vr 175), (1, vi 1), (2, vi 0)] [vi 0] (sD h (a_up u_35 175 4 2) L)
        refine aw_if_eq (tgt := 105) d_Mo_dsaSign_76 (by decide) (fun c_76 => ?_) (fun c_76 => False.elim (by omega))
        refine aw_iconst d_Mo_dsaSign_105 ⟨by decide, by decide⟩ ?_
        exact aw_iret d_Mo_dsaSign_106 rfl (hP _ _ (rsNo 0 2 (c4_2 ⟨by decide, by decide⟩ (fun z => by rw [e0 186 4 (by omega)] at cx_; have z1 := z.1; have z2 := z.2; omega)) (by decide) a_up_at (fR0.fr R00 (FR.c0 (p := fun _ => False)) (by intro a x y; exact ⟨fun z => z, fun z => z⟩) (fun z => z))))
      · skip
        refine aw_iconst d_Mo_dsaSign_67 ⟨by decide, by decide⟩ ?_
        refine aw_goto (tgt := 72) d_Mo_dsaSign_68 (by decide) ?_
        refine aw_iconst d_Mo_dsaSign_72 ⟨by decide, by decide⟩ ?_
        refine ax_V (st := []) (as := [vi 1, vi 2]) (b := 175) (v := some (vi 1)) (h' := sD h (a_up u_35 175 4 0) L) d_Mo_dsaSign_73 cs_Mo_dsaSign_73 (k_175 S) (c_good1 S (rfl)) rfl rfl rfl ?_
        show AW l G M_Mo_dsaSign P 76 [(0, vr 175), (1, vi 1), (2, vi 0)] [vi 1] (sD h (a_up u_35 175 4 0) L)
        refine aw_if_eq (tgt := 105) d_Mo_dsaSign_76 (by decide) (fun c_76 => False.elim (by omega)) (fun c_76 => ?_)
        have bb : (0 : Int) ≠ 0 ∨ I 186 4 ≤ 255 := by rw [e0 186 4 (by omega)] at cx_; omega
        refine aw_aload_n d_Mo_dsaSign_79 rfl rfl ?_
        refine aw_aload_n d_Mo_dsaSign_80 rfl rfl ?_
        refine ax_getR (b := 186) d_Mo_dsaSign_81 fd_Mo_18 (k_175 S) (r_175_2 S) ?_
        refine aw_iconst d_Mo_dsaSign_84 ⟨by decide, by decide⟩ ?_
        refine ax_ialde (x := I 186 2) d_Mo_dsaSign_85 (k_186 S) (by omega) (by rw [n_186 S]; omega) (Eq.trans (a_up_ne (Or.inl (by decide))) (Eq.trans (e0 186 2 (by omega)) (rfl))) ?_
        refine aw_aload_n d_Mo_dsaSign_86 rfl rfl ?_
        refine ax_V (st := [vi (I 186 2), vr 175]) (as := []) (b := 175) (v := some (vi 4032)) (h' := sD h (a_up u_35 175 4 0) L) d_Mo_dsaSign_87 cs_Mo_dsaSign_87 (k_175 S) (c_Mo_secretLength (z := 4032) S (by rw [dr1_33 D1, dr1_32 D1, dr1_26 D1]; decide) (by rw [dr1_32 D1, dr1_26 D1]; decide)) rfl rfl rfl ?_
        show AW l G M_Mo_dsaSign P 90 [(0, vr 175), (1, vi 1), (2, vi 0)] [vi 4032, vi (I 186 2), vr 175] (sD h (a_up u_35 175 4 0) L)
        refine aw_icmp_ne (tgt := 97) d_Mo_dsaSign_90 (by decide) (fun c_90 => ?_) (fun c_90 => ?_)
        · skip
          refine aw_iconst d_Mo_dsaSign_97 ⟨by decide, by decide⟩ ?_
          refine aw_iconst d_Mo_dsaSign_98 ⟨by decide, by decide⟩ ?_
          refine ax_V (st := []) (as := [vi 0, vi 3]) (b := 175) (v := some (vi 0)) (h' := sD h (a_up u_35 175 4 3) L) d_Mo_dsaSign_99 cs_Mo_dsaSign_99 (k_175 S) (c_good0 S (by rw [a_up_up])) rfl rfl rfl ?_
          show AW l G M_Mo_dsaSign P 102 [(0, vr 175), (1, vi 1), (2, vi 0)] [vi 0] (sD h (a_up u_35 175 4 3) L)
          refine aw_if_ne (tgt := 107) d_Mo_dsaSign_102 (by decide) (fun c_102 => False.elim (by omega)) (fun c_102 => ?_)
          refine aw_iconst d_Mo_dsaSign_105 ⟨by decide, by decide⟩ ?_
          exact aw_iret d_Mo_dsaSign_106 rfl (hP _ _ (rsNo 0 3 (c4_3 ⟨by decide, by decide⟩ ⟨bb, by omega⟩ (fun z => by have z1 : I 186 2 = 4032 := z; omega)) (by decide) a_up_at (fR0.fr R00 (FR.c0 (p := fun _ => False)) (by intro a x y; exact ⟨fun z => z, fun z => z⟩) (fun z => z))))
        · skip
          refine aw_iconst d_Mo_dsaSign_93 ⟨by decide, by decide⟩ ?_
          refine aw_goto (tgt := 98) d_Mo_dsaSign_94 (by decide) ?_
          refine aw_iconst d_Mo_dsaSign_98 ⟨by decide, by decide⟩ ?_
          refine ax_V (st := []) (as := [vi 1, vi 3]) (b := 175) (v := some (vi 1)) (h' := sD h (a_up u_35 175 4 0) L) d_Mo_dsaSign_99 cs_Mo_dsaSign_99 (k_175 S) (c_good1 S (by rw [a_up_up])) rfl rfl rfl ?_
          show AW l G M_Mo_dsaSign P 102 [(0, vr 175), (1, vi 1), (2, vi 0)] [vi 1] (sD h (a_up u_35 175 4 0) L)
          refine aw_if_ne (tgt := 107) d_Mo_dsaSign_102 (by decide) (fun c_102 => ?_) (fun c_102 => False.elim (by omega))
          refine aw_aload_n d_Mo_dsaSign_107 rfl rfl ?_
          refine aw_aload_n d_Mo_dsaSign_108 rfl rfl ?_
          refine ax_getR (b := 177) d_Mo_dsaSign_109 fd_Mo_15 (k_175 S) (r_175_1 S) ?_
          refine aw_iconst d_Mo_dsaSign_112 ⟨by decide, by decide⟩ ?_
          refine ax_aald (b := 180) d_Mo_dsaSign_113 ⟨by rw [(k_177 S)]; decide, by rw [(k_177 S)]; decide⟩ (by omega) (by rw [n_177 S]; omega) (g_177 S (j := 2) (by decide) (by decide)) ?_
          refine aw_bipush d_Mo_dsaSign_114 ⟨by decide, by decide⟩ (by decide) ?_
          refine aw_iload_n d_Mo_dsaSign_116 rfl rfl ?_
          have kz : ∀ a j, (a < 175 ∨ 176 ≤ a ∧ a ≤ 202 ∨ 204 ≤ a) → (a_up u_35 175 4 0) a j = I a j := fun a j x => (a_up_ne (Or.inl (by omega))).trans (e0 a j x)
          have rb1 : RB (a_up u_35 175 4 0) := ⟨fun s a b => by rw [kz 186 s (by omega)]; exact rb.1 s a b, by rw [R1.2.1]; exact rb.2⟩
          have k4 := kz 186 4 (by omega)
          have k3 := kz 186 3 (by omega)
          have f180 : ∀ x : Int, (fun k => (a_up u_35 175 4 0) 180 (x + k)) = (fun k => I 180 (x + k)) := fun x => funext (fun k => kz 180 _ (by omega))
          have f0 : ∀ a : Nat, a = 181 ∨ a = 182 → (fun k => (a_up u_35 175 4 0) a (0 + k)) = (fun k => I a (0 + k)) := fun a ha => funext (fun k => kz a _ (by omega))
          refine ax_Vr (st := []) (as := [vr 180, vi 64, vi 0]) (b := 175) d_Mo_dsaSign_117 cs_Mo_dsaSign_117 (k_175 S) (c_Mo_digestMessage0 (f := 180) (pa := 64) S D1.1 rb1 ⟨k_180 S, by decide, by decide⟩ (by rw [n_180 S]; decide)) rfl rfl rfl (fun u_117 q_117 => ?_)
          obtain ⟨I1, L1⟩ := u_117
          obtain ⟨F1, h1⟩ := q_117
          dsimp only at F1 h1
          rw [k3, f180 64, f0 181 (Or.inl rfl), k4, f0 182 (Or.inr rfl)] at h1
          have h1 : HR I1 265 0 64 (muR I (fun k => I 180 (64 + k)) (0 : Int)) := h1
          have RS1 := D1.1.fr F1 (by decide)
          show AW l G M_Mo_dsaSign P 120 [(0, vr 175), (1, vi 1), (2, vi 0)] [] (sD h I1 L1)
          refine aw_aload_n d_Mo_dsaSign_120 rfl rfl ?_
          refine aw_bipush d_Mo_dsaSign_121 ⟨by decide, by decide⟩ (by decide) ?_
          refine ax_Vr (st := []) (as := [vi 12]) (b := 175) d_Mo_dsaSign_123 cs_Mo_dsaSign_123 (k_175 S) (c_Mo_begin12 S) rfl rfl rfl (fun u_123 q_123 => ?_)
          obtain ⟨I2, L2⟩ := u_123
          obtain ⟨F2, e2, k2⟩ := q_123
          dsimp only at F2 e2 k2
          show AW l G M_Mo_dsaSign P 126 [(0, vr 175), (1, vi 1), (2, vi 0)] [] (sD h I2 L2)
          refine aw_aload_n d_Mo_dsaSign_126 rfl rfl ?_
          refine aw_aload_n d_Mo_dsaSign_127 rfl rfl ?_
          refine ax_getR (b := 177) d_Mo_dsaSign_128 fd_Mo_15 (k_175 S) (r_175_1 S) ?_
          refine aw_iconst d_Mo_dsaSign_131 ⟨by decide, by decide⟩ ?_
          refine ax_aald (b := 180) d_Mo_dsaSign_132 ⟨by rw [(k_177 S)]; decide, by rw [(k_177 S)]; decide⟩ (by omega) (by rw [n_177 S]; omega) (g_177 S (j := 2) (by decide) (by decide)) ?_
          refine aw_bipush d_Mo_dsaSign_133 ⟨by decide, by decide⟩ (by decide) ?_
          refine aw_bipush d_Mo_dsaSign_135 ⟨by decide, by decide⟩ (by decide) ?_
          refine ax_Vr (st := []) (as := [vr 180, vi 32, vi 32]) (b := 175) d_Mo_dsaSign_137 cs_Mo_dsaSign_137 (k_175 S) (c_Mo_put3 S (RS1.rf F2) (by omega) (by rw [e2]; exact spStart_lt (by decide) (by decide)) ⟨k_180 S, by decide, by decide⟩ (by rw [n_180 S]; decide)) rfl rfl rfl (fun u_137 q_137 => ?_)
          obtain ⟨I3, L3⟩ := u_137
          obtain ⟨F3, e3, k3⟩ := q_137
          dsimp only at F3 e3 k3
          show AW l G M_Mo_dsaSign P 140 [(0, vr 175), (1, vi 1), (2, vi 0)] [] (sD h I3 L3)
          refine aw_iconst d_Mo_dsaSign_140 ⟨by decide, by decide⟩ ?_
          refine aw_istore_n (lv' := [(3, vi 0), (0, vr 175), (1, vi 1), (2, vi 0)]) d_Mo_dsaSign_141 rfl (by decide) rfl ?_
          have lp_142 : ∀ (n_ : Nat) (i : Int) (K4 : Nat → Int → Int) (M4 : Nat → Int → Int), (0 ≤ i ∧ i ≤ 32) → (RF I3 L3 K4 M4) → (spR K4 M4 = spPart (spR I3 L3) (rnR I) i.toNat) → (K4 175 18 = 12) → ((32 - i).toNat) = n_ → AW l G M_Mo_dsaSign P 142 [(3, vi i), (2, vi 0), (1, vi 1), (0, vr 175)] [] (sD h K4 M4) := by
            intro n_
            induction n_ using Nat.strongRecOn with
            | _ n_ ih_142 =>
            intro i K4 M4 hi F4 e4 k4_ hm_142
            refine aw_iload_n d_Mo_dsaSign_142 rfl rfl ?_
            refine aw_bipush d_Mo_dsaSign_143 ⟨by decide, by decide⟩ (by decide) ?_
            refine aw_icmp_ge (tgt := 179) d_Mo_dsaSign_145 (by decide) (fun c_145 => ?_) (fun c_145 => ?_)
            · skip
              refine aw_aload_n d_Mo_dsaSign_179 rfl rfl ?_
              refine aw_aload_n d_Mo_dsaSign_180 rfl rfl ?_
              refine ax_getR (b := 265) d_Mo_dsaSign_181 fd_Mo_93 (k_175 S) (r_175_41 S) ?_
              refine aw_iconst d_Mo_dsaSign_184 ⟨by decide, by decide⟩ ?_
              refine aw_bipush d_Mo_dsaSign_185 ⟨by decide, by decide⟩ (by decide) ?_
              refine ax_Vr (st := []) (as := [vr 265, vi 0, vi 64]) (b := 175) d_Mo_dsaSign_187 cs_Mo_dsaSign_187 (k_175 S) (c_Mo_put3 S ((RS1.rf F2).rf (F3.tr F4)) (by omega) (by rw [e4, e3, e2]; exact spPart_lt (spPart_lt (spStart_lt (by decide) (by decide)) _ _) _ _) ⟨k_265 S, by decide, by decide⟩ (by rw [n_265 S]; decide)) rfl rfl rfl (fun u_187 q_187 => ?_)
              obtain ⟨I6, L6⟩ := u_187
              obtain ⟨F6, e6, k6⟩ := q_187
              dsimp only at F6 e6 k6
              have G6 := (F2.tr (F3.tr F4)).tr F6
              have eS : spTurn (spR I6 L6) = rhS (fun k => I 180 (32 + k)) (rnR I) (muR I (fun k => I 180 (64 + k)) (0 : Int)) := by rw [e6, e4, e3, e2, show i.toNat = 32 by omega, show Int.toNat 32 = 32 from rfl, show Int.toNat 64 = 64 from rfl, show (fun k => I2 180 (32 + k)) = (fun k => I 180 (32 + k)) from funext (fun z => (F2.1 180 _ (Or.inl (by decide))).trans ((F1.1 180 _ (by decide) (Or.inl (by decide))).trans (kz 180 _ (by omega)))), spPart_congr (f := fun k => K4 265 (0 + k)) (g := (muR I (fun k => I 180 (64 + k)) (0 : Int))) (fun k hk => by rw [(F2.tr (F3.tr F4)).1 265 _ (Or.inl (by decide)), h1 k (by omega) (by omega)]; exact (spOut_m _ _).symm)]; rfl
              show AW l G M_Mo_dsaSign P 190 [(3, vi i), (2, vi 0), (1, vi 1), (0, vr 175)] [] (sD h I6 L6)
              refine aw_aload_n d_Mo_dsaSign_190 rfl rfl ?_
              refine aw_aload_n d_Mo_dsaSign_191 rfl rfl ?_
              refine ax_getR (b := 266) d_Mo_dsaSign_192 fd_Mo_96 (k_175 S) (r_175_42 S) ?_
              refine aw_iconst d_Mo_dsaSign_195 ⟨by decide, by decide⟩ ?_
              refine aw_bipush d_Mo_dsaSign_196 ⟨by decide, by decide⟩ (by decide) ?_
              refine ax_Vr (st := []) (as := [vr 266, vi 0, vi 64]) (b := 175) d_Mo_dsaSign_198 cs_Mo_dsaSign_198 (k_175 S) (c_Mo_give S (RS1.rf G6) (by omega) (by rw [e6, e4, e3, e2]; exact (spPart_lt (spPart_lt (spPart_lt (spStart_lt (by decide) (by decide)) _ _) _ _) _ _).1) ⟨k_266 S, by decide, by decide, by decide⟩ (by rw [n_266 S]; decide)) rfl rfl rfl (fun u_198 q_198 => ?_)
              obtain ⟨I7, L7⟩ := u_198
              obtain ⟨F7, f7, e7, k7⟩ := q_198
              dsimp only at F7 f7 e7 k7
              rw [eS] at F7
              have h7 : HR I7 266 0 64 (rhR I (0 : Int)) := HR.give F7 (by decide)
              have G7 : FR (fun a => a = 265 ∨ a = 266) (a_up u_35 175 4 0) L I7 L7 := (F1.tr (G6.fr (p := fun a => a = 265)) (fun a x => ⟨x, x⟩)).tr (FR.give (p := fun a => a = 266) F7 f7 rfl) (by intro a x; omega)
              have D7 := D1.fr G7 (by decide)
              have m7 : HR I7 265 0 64 (muR I (fun k => I 180 (64 + k)) (0 : Int)) := (h1.fr (G6.fr (p := fun _ => False)) (fun z => z) (by decide)).fr (FR.give (p := fun a => a = 266) F7 f7 rfl) (by decide) (by decide)
              show AW l G M_Mo_dsaSign P 201 [(3, vi i), (2, vi 0), (1, vi 1), (0, vr 175)] [] (sD h I7 L7)
              refine aw_aload_n d_Mo_dsaSign_201 rfl rfl ?_
              refine ax_getIe (x := 4) d_Mo_dsaSign_202 fd_Mo_229 (k_175 S) (dr1_33 D7) ?_
              refine aw_iconst d_Mo_dsaSign_205 ⟨by decide, by decide⟩ ?_
              refine aw_icmp_ne (tgt := 213) d_Mo_dsaSign_206 (by decide) (fun c_206 => ?_) (fun c_206 => False.elim (by omega))
              refine aw_iconst d_Mo_dsaSign_213 ⟨by decide, by decide⟩ ?_
              refine aw_istore_n (lv' := [(3, vi 4), (2, vi 0), (1, vi 1), (0, vr 175)]) d_Mo_dsaSign_214 rfl (by decide) rfl ?_
              refine aw_aload_n d_Mo_dsaSign_215 rfl rfl ?_
              refine aw_iconst d_Mo_dsaSign_216 ⟨by decide, by decide⟩ ?_
              refine ax_putI d_Mo_dsaSign_217 fd_Mo_216 (k_175 S) (by decide) rfl ?_
              refine aw_iconst d_Mo_dsaSign_220 ⟨by decide, by decide⟩ ?_
              refine aw_istore (lv' := [(4, vi 0), (3, vi 4), (2, vi 0), (1, vi 1), (0, vr 175)]) d_Mo_dsaSign_221 (by decide) rfl ?_
              have lp_223 : ∀ (n_ : Nat) (i : Int) (K5 : Nat → Int → Int), (0 ≤ i ∧ i ≤ 11) → (FR (fun a => 205 ≤ a ∧ a ≤ 219) I7 L7 K5 L7) → (K5 175 23 = 8 * (128 * i)) → (∀ m, 0 ≤ m → m < i → eqQ (K5 (205 + m.toNat)) (sgSs 1 (rkR I) m)) → ((11 - i).toNat) = n_ → AW l G M_Mo_dsaSign P 223 [(4, vi i), (3, vi 4), (2, vi 0), (1, vi 1), (0, vr 175)] [] (sD h K5 L7) := by
                intro n_
                induction n_ using Nat.strongRecOn with
                | _ n_ ih_223 =>
                intro i K5 hi5 G5 b5 s5 hm_223
                have sk5 : ∀ x, K5 180 x = I 180 x := fun x => (G5.1 _ _ (by decide) (Or.inl (by decide))).trans ((G7.1 _ _ (by decide) (Or.inl (by decide))).trans (kz 180 x (by omega)))
                refine aw_iload d_Mo_dsaSign_223 rfl ?_
                refine aw_aload_n d_Mo_dsaSign_225 rfl rfl ?_
                refine ax_getIe (x := 5) d_Mo_dsaSign_226 fd_Mo_226 (k_175 S) (Eq.trans (G5.1 175 32 (by omega) (Or.inr (by decide))) (dr1_32 D7)) ?_
                refine aw_aload_n d_Mo_dsaSign_229 rfl rfl ?_
                refine ax_getIe (x := 6) d_Mo_dsaSign_230 fd_Mo_223 (k_175 S) (Eq.trans (G5.1 175 26 (by omega) (Or.inr (by decide))) (dr1_26 D7)) ?_
                refine ax_iadd d_Mo_dsaSign_233 ⟨(by omega), (by omega)⟩ ?_
                refine ax_ti (x := 11) (by decide) ?_
                refine aw_icmp_ge (tgt := 268) d_Mo_dsaSign_234 (by decide) (fun c_234 => ?_) (fun c_234 => ?_)
                · skip
                  refine aw_iconst d_Mo_dsaSign_268 ⟨by decide, by decide⟩ ?_
                  refine aw_istore (lv' := [(4, vi 0), (3, vi 4), (2, vi 0), (1, vi 1), (0, vr 175)]) d_Mo_dsaSign_269 (by decide) rfl ?_
                  have lp_271 : ∀ (n_ : Nat) (i : Int) (K6 : Nat → Int → Int), (0 ≤ i ∧ i ≤ 6) → (FR (fun a => 205 ≤ a ∧ a ≤ 227) I7 L7 K6 L7) → (K6 175 23 = 8 * (1408 + 416 * i)) → (∀ m, 0 ≤ m → m < 11 → eqQ (K6 (205 + m.toNat)) (sgSs 1 (rkR I) m)) → (∀ m, 0 ≤ m → m < i → eqQ (K6 (205 + (15 + m).toNat)) (sgDs 1 (rkR I) m)) → ((6 - i).toNat) = n_ → AW l G M_Mo_dsaSign P 271 [(4, vi i), (2, vi 0), (1, vi 1), (0, vr 175)] [] (sD h K6 L7) := by
                    intro n_
                    induction n_ using Nat.strongRecOn with
                    | _ n_ ih_271 =>
                    intro i K6 hi6 Gy b6 s6 t6 hm_271
                    have sk6 : ∀ x, K6 180 x = I 180 x := fun x => (Gy.1 _ _ (by decide) (Or.inl (by decide))).trans ((G7.1 _ _ (by decide) (Or.inl (by decide))).trans (kz 180 x (by omega)))
                    refine aw_iload d_Mo_dsaSign_271 rfl ?_
                    refine aw_aload_n d_Mo_dsaSign_273 rfl rfl ?_
                    refine ax_getIe (x := 6) d_Mo_dsaSign_274 fd_Mo_223 (k_175 S) (Eq.trans (Gy.1 175 26 (by omega) (Or.inr (by decide))) (dr1_26 D7)) ?_
                    refine aw_icmp_ge (tgt := 314) d_Mo_dsaSign_277 (by decide) (fun c_277 => ?_) (fun c_277 => ?_)
                    · skip
                      refine aw_sub (lv' := [(0, vr 175)]) (by simp) ?_
                      exact sB10 S (fR0.fr (fR0.fr R1 G7 (r := qN) (by intro a x y; exact ⟨fun z => z, by omega⟩) (by decide)) Gy (by intro a x y; exact ⟨fun z => z, by omega⟩) (by decide)) (D7.fr Gy (by decide)) (m7.fr Gy (by decide) (by decide)) (h7.fr Gy (by decide) (by decide)) s6 (fun m a b => t6 m a (by omega)) ⟨bb, by omega⟩ (by show I 186 2 = 4032; omega) hP
                    · skip
                      refine aw_aload_n d_Mo_dsaSign_280 rfl rfl ?_
                      refine aw_aload_n d_Mo_dsaSign_281 rfl rfl ?_
                      refine ax_getR (b := 177) d_Mo_dsaSign_282 fd_Mo_15 (k_175 S) (r_175_1 S) ?_
                      refine aw_iconst d_Mo_dsaSign_285 ⟨by decide, by decide⟩ ?_
                      refine ax_aald (b := 180) d_Mo_dsaSign_286 ⟨by rw [(k_177 S)]; decide, by rw [(k_177 S)]; decide⟩ (by omega) (by rw [n_177 S]; omega) (g_177 S (j := 2) (by decide) (by decide)) ?_
                      refine aw_sipush d_Mo_dsaSign_287 ⟨by decide, by decide⟩ (by decide) ?_
                      refine aw_aload_n d_Mo_dsaSign_290 rfl rfl ?_
                      refine ax_getR (b := 204) d_Mo_dsaSign_291 fd_Mo_76 (k_175 S) (r_175_28 S) ?_
                      refine aw_bipush d_Mo_dsaSign_294 ⟨by decide, by decide⟩ (by decide) ?_
                      refine aw_iload d_Mo_dsaSign_296 rfl ?_
                      refine ax_iadd d_Mo_dsaSign_298 ⟨(by omega), (by omega)⟩ ?_
                      refine ax_aald (b := 205 + (15 + i).toNat) d_Mo_dsaSign_299 ⟨by rw [(k_204 S)]; decide, by rw [(k_204 S)]; decide⟩ (by omega) (by rw [n_204 S]; omega) (g_204 S (by omega) (by omega)) ?_
                      refine aw_sipush d_Mo_dsaSign_300 ⟨by decide, by decide⟩ (by decide) ?_
                      refine aw_bipush d_Mo_dsaSign_303 ⟨by decide, by decide⟩ (by decide) ?_
                      refine ax_Vr (st := []) (as := [vr 180, vi 128, vr (205 + (15 + i).toNat), vi 4096, vi 13]) (b := 175) d_Mo_dsaSign_305 cs_Mo_dsaSign_305 (k_175 S) (c_Mo_unpack (pa := 128) (c := 1408 + 416 * i) (d := 13) (b := 4096) S ⟨k_180 S, by decide, by decide⟩ ⟨kr_204 S (by omega), by omega, nr_204 S (by omega)⟩ (by omega) (by decide) (by omega) (by decide) (by rw [n_180 S]; omega)) rfl rfl rfl (fun u_305 q_305 => ?_)
                      obtain ⟨q1, q2, q3⟩ := q_305
                      have Fy : FR (fun a => 220 ≤ a ∧ a ≤ 227) K6 L7 u_305 L7 := FR.unp q1 (by omega)
                      show AW l G M_Mo_dsaSign P 308 [(4, vi i), (2, vi 0), (1, vi 1), (0, vr 175)] [] (sD h u_305 L7)
                      refine ax_iinc (lv' := [(4, vi (i + 1)), (2, vi 0), (1, vi 1), (0, vr 175)]) d_Mo_dsaSign_308 rfl (by decide) ⟨(by omega), (by omega)⟩ rfl ?_
                      refine aw_goto (tgt := 271) d_Mo_dsaSign_311 (by decide) ?_
                      exact ih_271 _ (by omega) (i + 1) u_305 (by omega) (Gy.tr (Fy.mono (r := fun a => 205 ≤ a ∧ a ≤ 227) (by intro a x; omega)) (fun a x => ⟨x, x⟩)) (by omega) (fun m a b x u v => by rw [q1 _ _ (by omega) (Or.inl (by omega))]; exact s6 m a b x u v) (fun m a b x u v => by by_cases z : m = i; exact (by rw [z, q3 x u v, show (fun j => K6 180 (128 + (1408 + 416 * i) + j) % 256) = (fun j => I 180 (1536 + 416 * i + j) % 256) from funext (fun y => by rw [sk6, show (128 + (1408 + 416 * i) : Int) = 1536 + 416 * i by omega])]; show _ = 4096 - gR (fun k => rkR I (1536 + 416 * i + k)) 13 x; rw [gR_congr (g := fun j => I 180 (1536 + 416 * i + j) % 256) (g' := fun k => rkR I (1536 + 416 * i + k)) (fun y y0 y1 => (gW_in (s := 2) (by omega) (by rw [show I 186 2 = 4032 by omega]; omega)).symm)]); exact (by rw [q1 _ _ (by omega) (Or.inl (by omega))]; exact t6 m a (by omega) x u v)) rfl
                  skip
                  refine aw_sub (lv' := [(4, vi 0), (2, vi 0), (1, vi 1), (0, vr 175)]) (by simp) ?_
                  exact lp_271 _ 0 K5 (by omega) (G5.mono (by intro a x; omega)) (by omega) (fun m a b => s5 m a (by omega)) (fun m a b => by omega) rfl
                · skip
                  refine aw_aload_n d_Mo_dsaSign_237 rfl rfl ?_
                  refine aw_aload_n d_Mo_dsaSign_238 rfl rfl ?_
                  refine ax_getR (b := 177) d_Mo_dsaSign_239 fd_Mo_15 (k_175 S) (r_175_1 S) ?_
                  refine aw_iconst d_Mo_dsaSign_242 ⟨by decide, by decide⟩ ?_
                  refine ax_aald (b := 180) d_Mo_dsaSign_243 ⟨by rw [(k_177 S)]; decide, by rw [(k_177 S)]; decide⟩ (by omega) (by rw [n_177 S]; omega) (g_177 S (j := 2) (by decide) (by decide)) ?_
                  refine aw_sipush d_Mo_dsaSign_244 ⟨by decide, by decide⟩ (by decide) ?_
                  refine aw_aload_n d_Mo_dsaSign_247 rfl rfl ?_
                  refine ax_getR (b := 204) d_Mo_dsaSign_248 fd_Mo_76 (k_175 S) (r_175_28 S) ?_
                  refine aw_iload d_Mo_dsaSign_251 rfl ?_
                  refine ax_aald (b := 205 + i.toNat) d_Mo_dsaSign_253 ⟨by rw [(k_204 S)]; decide, by rw [(k_204 S)]; decide⟩ (by omega) (by rw [n_204 S]; omega) (g_204 S (by omega) (by omega)) ?_
                  refine aw_aload_n d_Mo_dsaSign_254 rfl rfl ?_
                  refine ax_getIe (x := 4) d_Mo_dsaSign_255 fd_Mo_229 (k_175 S) (Eq.trans (G5.1 175 33 (by omega) (Or.inr (by decide))) (dr1_33 D7)) ?_
                  refine aw_iload_n d_Mo_dsaSign_258 rfl rfl ?_
                  refine ax_Vr (st := []) (as := [vr 180, vi 128, vr (205 + i.toNat), vi 4, vi 4]) (b := 175) d_Mo_dsaSign_259 cs_Mo_dsaSign_259 (k_175 S) (c_Mo_unpack (pa := 128) (c := 128 * i) (d := 4) (b := 4) S ⟨k_180 S, by decide, by decide⟩ ⟨kr_204 S (by omega), by omega, nr_204 S (by omega)⟩ (by omega) (by decide) (by omega) (by decide) (by rw [n_180 S]; omega)) rfl rfl rfl (fun u_259 q_259 => ?_)
                  obtain ⟨q1, q2, q3⟩ := q_259
                  have Fx : FR (fun a => 205 ≤ a ∧ a ≤ 219) K5 L7 u_259 L7 := FR.unp q1 (by omega)
                  show AW l G M_Mo_dsaSign P 262 [(4, vi i), (3, vi 4), (2, vi 0), (1, vi 1), (0, vr 175)] [] (sD h u_259 L7)
                  refine ax_iinc (lv' := [(4, vi (i + 1)), (3, vi 4), (2, vi 0), (1, vi 1), (0, vr 175)]) d_Mo_dsaSign_262 rfl (by decide) ⟨(by omega), (by omega)⟩ rfl ?_
                  refine aw_goto (tgt := 223) d_Mo_dsaSign_265 (by decide) ?_
                  exact ih_223 _ (by omega) (i + 1) u_259 (by omega) (G5.tr Fx (fun a x => ⟨x, x⟩)) (by omega) (fun m a b x u v => by by_cases z : m = i; exact (by rw [z, q3 x u v, show (fun j => K5 180 (128 + 128 * i + j) % 256) = (fun j => I 180 (128 + 128 * i + j) % 256) from funext (fun y => by rw [sk5])]; show _ = 4 - gR (fun k => rkR I (128 + 128 * i + k)) 4 x; rw [gR_congr (g := fun j => I 180 (128 + 128 * i + j) % 256) (g' := fun k => rkR I (128 + 128 * i + k)) (fun y y0 y1 => (gW_in (s := 2) (by omega) (by rw [show I 186 2 = 4032 by omega]; omega)).symm)]); exact (by rw [q1 _ _ (by omega) (Or.inl (by omega))]; exact s5 m a (by omega) x u v)) rfl
              skip
              exact lp_223 _ 0 (a_up I7 175 23 0) (by omega) (FR.b0) (a_up_at.trans (by decide)) (fun m a b => by omega) rfl
            · skip
              refine aw_aload_n d_Mo_dsaSign_148 rfl rfl ?_
              refine aw_aload_n d_Mo_dsaSign_149 rfl rfl ?_
              refine ax_getR (b := 186) d_Mo_dsaSign_150 fd_Mo_18 (k_175 S) (r_175_2 S) ?_
              refine aw_iconst d_Mo_dsaSign_153 ⟨by decide, by decide⟩ ?_
              refine ax_ialde (x := I 186 0) d_Mo_dsaSign_154 (k_186 S) (by omega) (by rw [n_186 S]; omega) (Eq.trans ((F2.tr (F3.tr F4)).1 186 0 (Or.inl (by decide))) (Eq.trans (F1.1 186 0 (by decide) (Or.inl (by decide))) (Eq.trans (kz 186 0 (by omega)) (rfl)))) ?_
              refine aw_if_ne (tgt := 162) d_Mo_dsaSign_155 (by decide) (fun c_155 => ?_) (fun c_155 => ?_)
              · skip
                refine aw_aload_n d_Mo_dsaSign_162 rfl rfl ?_
                refine ax_getR (b := 177) d_Mo_dsaSign_163 fd_Mo_15 (k_175 S) (r_175_1 S) ?_
                refine aw_iconst d_Mo_dsaSign_166 ⟨by decide, by decide⟩ ?_
                refine ax_aald (b := 178) d_Mo_dsaSign_167 ⟨by rw [(k_177 S)]; decide, by rw [(k_177 S)]; decide⟩ (by omega) (by rw [n_177 S]; omega) (g_177 S (j := 0) (by decide) (by decide)) ?_
                refine aw_iload_n d_Mo_dsaSign_168 rfl rfl ?_
                refine ax_balde (x := I 178 i) d_Mo_dsaSign_169 (k_178 S) (by omega) (by rw [n_178 S]; omega) (Eq.trans ((F2.tr (F3.tr F4)).1 178 i (Or.inl (by decide))) (Eq.trans (F1.1 178 i (by decide) (Or.inl (by decide))) (Eq.trans (kz 178 i (by omega)) (rfl)))) ?_
                have vv : rnR I i = I 178 i := by unfold rnR; rw [if_neg (by omega)]
                refine ax_Vr (st := []) (as := [vi (I 178 i)]) (b := 175) d_Mo_dsaSign_170 cs_Mo_dsaSign_170 (k_175 S) (c_Mo_put1 S ((RS1.rf F2).rf (F3.tr F4)) (by omega) (by rw [e4, e3, e2]; exact spPart_lt (spPart_lt (spStart_lt (by decide) (by decide)) _ _) _ _)) rfl rfl rfl (fun u_170 q_170 => ?_)
                obtain ⟨I5, L5⟩ := u_170
                obtain ⟨F5, e5, k5⟩ := q_170
                dsimp only at F5 e5 k5
                show AW l G M_Mo_dsaSign P 173 [(3, vi i), (2, vi 0), (1, vi 1), (0, vr 175)] [] (sD h I5 L5)
                refine ax_iinc (lv' := [(3, vi (i + 1)), (2, vi 0), (1, vi 1), (0, vr 175)]) d_Mo_dsaSign_173 rfl (by decide) ⟨(by omega), (by omega)⟩ rfl ?_
                refine aw_goto (tgt := 142) d_Mo_dsaSign_176 (by decide) ?_
                exact ih_142 _ (by omega) (i + 1) I5 L5 (by omega) (F4.tr F5) (by rw [e5, e4, show (i + 1).toNat = i.toNat + 1 by omega]; show _ = spTake (spPart (spR I3 L3) (rnR I) i.toNat) (rnR I (i.toNat : Int)); rw [Int.toNat_of_nonneg hi.1, vv]) (by omega) rfl
              · skip
                refine aw_iconst d_Mo_dsaSign_158 ⟨by decide, by decide⟩ ?_
                refine aw_goto (tgt := 170) d_Mo_dsaSign_159 (by decide) ?_
                have vv : rnR I i = 0 := by unfold rnR; rw [if_pos (by omega)]
                refine ax_Vr (st := []) (as := [vi 0]) (b := 175) d_Mo_dsaSign_170 cs_Mo_dsaSign_170 (k_175 S) (c_Mo_put1 S ((RS1.rf F2).rf (F3.tr F4)) (by omega) (by rw [e4, e3, e2]; exact spPart_lt (spPart_lt (spStart_lt (by decide) (by decide)) _ _) _ _)) rfl rfl rfl (fun u_170 q_170 => ?_)
                obtain ⟨I5, L5⟩ := u_170
                obtain ⟨F5, e5, k5⟩ := q_170
                dsimp only at F5 e5 k5
                show AW l G M_Mo_dsaSign P 173 [(3, vi i), (2, vi 0), (1, vi 1), (0, vr 175)] [] (sD h I5 L5)
                refine ax_iinc (lv' := [(3, vi (i + 1)), (2, vi 0), (1, vi 1), (0, vr 175)]) d_Mo_dsaSign_173 rfl (by decide) ⟨(by omega), (by omega)⟩ rfl ?_
                refine aw_goto (tgt := 142) d_Mo_dsaSign_176 (by decide) ?_
                exact ih_142 _ (by omega) (i + 1) I5 L5 (by omega) (F4.tr F5) (by rw [e5, e4, show (i + 1).toNat = i.toNat + 1 by omega]; show _ = spTake (spPart (spR I3 L3) (rnR I) i.toNat) (rnR I (i.toNat : Int)); rw [Int.toNat_of_nonneg hi.1, vv]) (by omega) rfl
          skip
          refine aw_sub (lv' := [(3, vi 0), (2, vi 0), (1, vi 1), (0, vr 175)]) (by simp) ?_
          exact lp_142 _ 0 I3 L3 (by omega) (RF.rfl') (rfl) (by omega) rfl
  · skip
    refine ax_V (st := [vr 175]) (as := [vi 0]) (b := 175) (v := some (vi 0)) (h' := sD h u_35 L) d_Mo_dsaSign_41 cs_Mo_dsaSign_41 (k_175 S) (by have z := c_Mo_context (l := l) (G := G) (h := h) (L := L) (I := u_35) (x := 0) S; rw [if_neg cx_] at z; exact z) rfl rfl rfl ?_
    show AW l G M_Mo_dsaSign P 44 [(0, vr 175), (1, vi 1), (2, vi 0)] [vi 0, vr 175] (sD h u_35 L)
    refine aw_if_eq (tgt := 71) d_Mo_dsaSign_44 (by decide) (fun c_44 => ?_) (fun c_44 => False.elim (by omega))
    refine aw_iconst d_Mo_dsaSign_71 ⟨by decide, by decide⟩ ?_
    refine aw_iconst d_Mo_dsaSign_72 ⟨by decide, by decide⟩ ?_
    refine ax_V (st := []) (as := [vi 0, vi 2]) (b := 175) (v := some (vi 0)) (h' := sD h (a_up u_35 175 4 2) L) d_Mo_dsaSign_73 cs_Mo_dsaSign_73 (k_175 S) (c_good0 S (rfl)) rfl rfl rfl ?_
    show AW l G M_Mo_dsaSign P 76 [(0, vr 175), (1, vi 1), (2, vi 0)] [vi 0] (sD h (a_up u_35 175 4 2) L)
    refine aw_if_eq (tgt := 105) d_Mo_dsaSign_76 (by decide) (fun c_76 => ?_) (fun c_76 => False.elim (by omega))
    refine aw_iconst d_Mo_dsaSign_105 ⟨by decide, by decide⟩ ?_
    exact aw_iret d_Mo_dsaSign_106 rfl (hP _ _ (rsNo 0 2 (c4_2 ⟨by decide, by decide⟩ (fun z => by rw [e0 186 4 (by omega)] at cx_; have z1 := z.1; have z2 := z.2; omega)) (by decide) a_up_at (fR0.fr R00 (FR.c0 (p := fun _ => False)) (by intro a x y; exact ⟨fun z => z, fun z => z⟩) (fun z => z))))
set_option maxHeartbeats 2000000 in
set_option maxRecDepth 100000 in
theorem sB1N {l : Launch} {G : a_G} {P : a_R → Hp → Prop} {h : Hp} {I L K M : Nat → Int → Int} (S : Shp h) (R0 : fR0 qN I L K M) (D : RD K M 1) (hm : HR K 265 0 64 (muR I (fun k => I 180 (64 + k)) (-1 : Int))) (hr : HR K 266 0 64 (rhR I (-1 : Int))) (hSs : ∀ m, 0 ≤ m → m < 11 → eqQ (K (205 + m.toNat)) (sgSs 1 (rkR I) m)) (hDs : ∀ m, 0 ≤ m → m < 6 → eqQ (K (205 + (15 + m).toNat)) (sgDs 1 (rkR I) m)) (b1 : ((-1 : Int) ≠ 0 ∨ I 186 4 ≤ 255) ∧ (I 186 0 = 32 ∨ I 186 0 = 0)) (b2 : I 186 2 = sSec 1) (hP : ∀ r_ h2_, RsR h I L (c4 ((0 ≤ (1 : Int) ∧ (1 : Int) < 3) ∧ ((-1 : Int) = 0 ∨ (-1 : Int) = -1)) (((-1 : Int) ≠ 0 ∨ I 186 4 ≤ 255) ∧ (I 186 0 = 32 ∨ I 186 0 = 0)) (I 186 2 = sSec (1 : Int)) (sgOk (1 : Int) (rkR I) ∧ sgRun (1 : Int) (rkR I) (rhR I (-1 : Int)) (muR I (fun k => I 180 (64 + k)) (-1 : Int)) 814 0 ≠ none)) (fun a => a = 183 ∨ a = 186) (fun v I' _ => ∃ t, sgRun (1 : Int) (rkR I) (rhR I (-1 : Int)) (muR I (fun k => I 180 (64 + k)) (-1 : Int)) 814 0 = some t ∧ v = t + 1 ∧ ((∀ j, j ≠ 5 → I' 186 j = I 186 j) ∧ I' 186 5 = sPkt (1 : Int)) ∧ HR I' 183 0 (sPkt (1 : Int)) (sgPk (1 : Int) (rkR I) (rhR I (-1 : Int)) (muR I (fun k => I 180 (64 + k)) (-1 : Int)) t) ∧ rng (I 183) (I' 183)) r_ h2_ → P r_ h2_) : AW l G M_Mo_dsaSign P 314 [(0, vr 175)] [] (sD h K M) := by
  have hk : HR K 180 0 4032 (rkR I) := fun z x y => by rw [R0.1 180 _ (by omega) (fun z => z), Int.zero_add]; exact (gW_in (s := 2) x (by rw [show I 186 2 = 4032 from b2]; exact y)).symm
  refine aw_iconst d_Mo_dsaSign_314 ⟨by decide, by decide⟩ ?_
  refine aw_istore (lv' := [(4, vi 0), (0, vr 175)]) d_Mo_dsaSign_315 (by decide) rfl ?_
  have lp_317 : ∀ (n_ : Nat) (t : Int) (K2 : Nat → Int → Int) (M2 : Nat → Int → Int), (0 ≤ t ∧ t ≤ 814) → (FR pAt K M K2 M2) → (sgRun 1 (rkR I) (rhR I (-1 : Int)) (muR I (fun k => I 180 (64 + k)) (-1 : Int)) 814 0 = sgRun 1 (rkR I) (rhR I (-1 : Int)) (muR I (fun k => I 180 (64 + k)) (-1 : Int)) (814 - t).toNat t) → ((814 - t).toNat) = n_ → AW l G M_Mo_dsaSign P 317 [(4, vi t), (0, vr 175)] [] (sD h K2 M2) := by
    intro n_
    induction n_ using Nat.strongRecOn with
    | _ n_ ih_317 =>
    intro t K2 M2 ht F run hm_317
    refine aw_iload d_Mo_dsaSign_317 rfl ?_
    refine aw_sipush d_Mo_dsaSign_319 ⟨by decide, by decide⟩ (by decide) ?_
    refine aw_icmp_ge (tgt := 429) d_Mo_dsaSign_322 (by decide) (fun c_322 => ?_) (fun c_322 => ?_)
    · skip
      refine aw_aload_n d_Mo_dsaSign_429 rfl rfl ?_
      refine aw_iconst d_Mo_dsaSign_430 ⟨by decide, by decide⟩ ?_
      refine aw_iconst d_Mo_dsaSign_431 ⟨by decide, by decide⟩ ?_
      refine ax_V (st := []) (as := [vi 0, vi 4]) (b := 175) (v := some (vi 0)) (h' := sD h (a_up K2 175 4 4) M2) d_Mo_dsaSign_432 cs_Mo_dsaSign_432 (k_175 S) (c_good0 S rfl) rfl rfl rfl ?_
      show AW l G M_Mo_dsaSign P 435 [(4, vi t), (0, vr 175)] [vi 0] (sD h (a_up K2 175 4 4) M2)
      refine aw_pop d_Mo_dsaSign_435 rfl ?_
      refine aw_iconst d_Mo_dsaSign_436 ⟨by decide, by decide⟩ ?_
      exact aw_iret d_Mo_dsaSign_437 rfl (hP _ _ (rsNo 0 4 (c4_4 ⟨by decide, by decide⟩ b1 b2 (fun z => z.2 (by rw [run, show (814 - t).toNat = 0 by omega]; rfl))) (by decide) a_up_at (fR0.fr (fR0.fr R0 F (r := qN) (by intro a x y; exact ⟨fun z => z, by omega⟩) (by decide)) (FR.c0 (p := fun _ => False)) (by intro a x y; exact ⟨fun z => z, fun z => z⟩) (fun z => z))))
    · skip
      refine aw_aload_n d_Mo_dsaSign_325 rfl rfl ?_
      refine aw_iload d_Mo_dsaSign_326 rfl ?_
      refine aw_aload_n d_Mo_dsaSign_328 rfl rfl ?_
      refine ax_getIe (x := 5) d_Mo_dsaSign_329 fd_Mo_226 (k_175 S) (Eq.trans (F.1 175 32 (by omega) (Or.inr (by decide))) (dr1_32 D)) ?_
      refine ax_imul d_Mo_dsaSign_332 ⟨(by omega), (by omega)⟩ ?_
      refine ax_Vt (st := []) (as := [vi (t * 5)]) (b := 175) d_Mo_dsaSign_333 cs_Mo_dsaSign_333 (k_175 S) (c_Mo_attempt1 (t := t) (sk := (rkR I)) (rh := (rhR I (-1 : Int))) (mu := (muR I (fun k => I 180 (64 + k)) (-1 : Int))) S (D.fr F (by decide)) (hk.fr F (by decide) (by decide)) (fun x => gW_m _ _ _) (hr.fr F (by decide) (by decide)) (fun x => spOut_m _ _) (hm.fr F (by decide) (by decide)) (fun x => spOut_m _ _) (fun m a b j x y => by rw [F.1 _ _ (by omega) (Or.inl (by omega))]; exact hSs m a b j x y) (fun m a b j x y => by rw [F.1 _ _ (by omega) (Or.inl (by omega))]; exact hDs m a b j x y) (by omega) rfl) rfl rfl rfl (fun v_ h_ q_ => ?_) (fun x_ h_ q_ => ?_)
      · obtain ⟨v, I6, L6, q3, q4, F6, q6⟩ := q_
        cases q3; subst q4
        have F7 : FR pAt K M I6 L6 := F.tr F6 (fun a x => ⟨x, x⟩)
        have eN : (814 - t).toNat = (814 - (t + 1)).toNat + 1 := by omega
        show AW l G M_Mo_dsaSign P 336 [(4, vi t), (0, vr 175)] [vi v] (sD h I6 L6)
        refine aw_istore (lv' := [(5, vi v), (4, vi t), (0, vr 175)]) d_Mo_dsaSign_336 (by decide) rfl ?_
        refine aw_aload_n d_Mo_dsaSign_338 rfl rfl ?_
        refine aw_iload d_Mo_dsaSign_339 rfl ?_
        refine aw_if_lt (tgt := 348) d_Mo_dsaSign_341 (by decide) (fun c_341 => ?_) (fun c_341 => ?_)
        · skip
          refine aw_iconst d_Mo_dsaSign_348 ⟨by decide, by decide⟩ ?_
          refine aw_iconst d_Mo_dsaSign_349 ⟨by decide, by decide⟩ ?_
          refine ax_V (st := []) (as := [vi 0, vi 4]) (b := 175) (v := some (vi 0)) (h' := sD h (a_up I6 175 4 4) L6) d_Mo_dsaSign_350 cs_Mo_dsaSign_350 (k_175 S) (c_good0 S rfl) rfl rfl rfl ?_
          show AW l G M_Mo_dsaSign P 353 [(5, vi v), (4, vi t), (0, vr 175)] [vi 0] (sD h (a_up I6 175 4 4) L6)
          refine aw_if_ne (tgt := 358) d_Mo_dsaSign_353 (by decide) (fun c_353 => False.elim (by omega)) (fun c_353 => ?_)
          refine aw_iconst d_Mo_dsaSign_356 ⟨by decide, by decide⟩ ?_
          exact aw_iret d_Mo_dsaSign_357 rfl (hP _ _ (rsNo 0 4 (c4_4 ⟨by decide, by decide⟩ b1 b2 (fun z => by rcases q6 with y | y | y; exact (by have z2 := z.2; rw [run, eN] at z2; exact z2 (sgRun_x (Classical.byContradiction (fun x => y.2 ⟨z.1, x⟩)))); exact absurd y.1 (by omega); exact absurd y.1 (by omega))) (by decide) a_up_at (fR0.fr (fR0.fr R0 F7 (r := qN) (by intro a x y; exact ⟨fun z => z, by omega⟩) (by decide)) (FR.c0 (p := fun _ => False)) (by intro a x y; exact ⟨fun z => z, fun z => z⟩) (fun z => z))))
        · skip
          refine aw_iconst d_Mo_dsaSign_344 ⟨by decide, by decide⟩ ?_
          refine aw_goto (tgt := 349) d_Mo_dsaSign_345 (by decide) ?_
          refine aw_iconst d_Mo_dsaSign_349 ⟨by decide, by decide⟩ ?_
          refine ax_V (st := []) (as := [vi 1, vi 4]) (b := 175) (v := some (vi 1)) (h' := sD h (a_up I6 175 4 0) L6) d_Mo_dsaSign_350 cs_Mo_dsaSign_350 (k_175 S) (c_good1 S rfl) rfl rfl rfl ?_
          show AW l G M_Mo_dsaSign P 353 [(5, vi v), (4, vi t), (0, vr 175)] [vi 1] (sD h (a_up I6 175 4 0) L6)
          refine aw_if_ne (tgt := 358) d_Mo_dsaSign_353 (by decide) (fun c_353 => ?_) (fun c_353 => False.elim (by omega))
          refine aw_iload d_Mo_dsaSign_358 rfl ?_
          refine aw_iconst d_Mo_dsaSign_360 ⟨by decide, by decide⟩ ?_
          refine aw_icmp_ne (tgt := 423) d_Mo_dsaSign_361 (by decide) (fun c_361 => ?_) (fun c_361 => ?_)
          · skip
            refine ax_iinc (lv' := [(4, vi (t + 1)), (5, vi v), (0, vr 175)]) d_Mo_dsaSign_423 rfl (by decide) ⟨(by omega), (by omega)⟩ rfl ?_
            refine aw_goto (tgt := 317) d_Mo_dsaSign_426 (by decide) ?_
            refine aw_sub (lv' := [(4, vi (t + 1)), (0, vr 175)]) (by simp) ?_
            exact ih_317 _ (by omega) (t + 1) (a_up I6 175 4 0) L6 (by omega) (F7.tr (FR.c0 (p := pAt)) (fun a x => ⟨x, x⟩)) (by rw [run, eN]; rcases q6 with y | y | y; exact absurd y.1 (by omega); exact sgRun_n y.2.1.2 y.2.2; exact absurd y.1 (by omega)) rfl
          · skip
            have yy := (q6.resolve_left (fun y => by have y1 := y.1; omega)).resolve_left (fun y => by have y1 := y.1; omega)
            have rn : sgRun 1 (rkR I) (rhR I (-1 : Int)) (muR I (fun k => I 180 (64 + k)) (-1 : Int)) 814 0 = some t := by rw [run, eN]; exact sgRun_g yy.2.1.2 yy.2.2.1
            have okk : sgOk 1 (rkR I) ∧ sgRun 1 (rkR I) (rhR I (-1 : Int)) (muR I (fun k => I 180 (64 + k)) (-1 : Int)) 814 0 ≠ none := ⟨yy.2.1.1, by rw [rn]; exact (fun z => by cases z)⟩
            refine aw_aload_n d_Mo_dsaSign_364 rfl rfl ?_
            refine ax_getR (b := 186) d_Mo_dsaSign_365 fd_Mo_18 (k_175 S) (r_175_2 S) ?_
            refine aw_iconst d_Mo_dsaSign_368 ⟨by decide, by decide⟩ ?_
            refine aw_aload_n d_Mo_dsaSign_369 rfl rfl ?_
            refine ax_getIe (x := 48) d_Mo_dsaSign_370 fd_Mo_248 (k_175 S) (Eq.trans (a_up_ne (Or.inr (by decide))) (Eq.trans (F7.1 175 38 (by omega) (Or.inr (by decide))) (dr1_38 D))) ?_
            refine aw_bipush d_Mo_dsaSign_373 ⟨by decide, by decide⟩ (by decide) ?_
            refine aw_aload_n d_Mo_dsaSign_375 rfl rfl ?_
            refine ax_getIe (x := 5) d_Mo_dsaSign_376 fd_Mo_226 (k_175 S) (Eq.trans (a_up_ne (Or.inr (by decide))) (Eq.trans (F7.1 175 32 (by omega) (Or.inr (by decide))) (dr1_32 D))) ?_
            refine ax_imul d_Mo_dsaSign_379 ⟨(by omega), (by omega)⟩ ?_
            refine ax_ti (x := 160) (by decide) ?_
            refine aw_aload_n d_Mo_dsaSign_380 rfl rfl ?_
            refine ax_getIe (x := 20) d_Mo_dsaSign_381 fd_Mo_251 (k_175 S) (Eq.trans (a_up_ne (Or.inr (by decide))) (Eq.trans (F7.1 175 39 (by omega) (Or.inr (by decide))) (dr1_39 D))) ?_
            refine ax_imul d_Mo_dsaSign_384 ⟨(by omega), (by omega)⟩ ?_
            refine ax_ti (x := 3200) (by decide) ?_
            refine ax_iadd d_Mo_dsaSign_385 ⟨(by omega), (by omega)⟩ ?_
            refine ax_ti (x := 3248) (by decide) ?_
            refine aw_aload_n d_Mo_dsaSign_386 rfl rfl ?_
            refine ax_getIe (x := 55) d_Mo_dsaSign_387 fd_Mo_245 (k_175 S) (Eq.trans (a_up_ne (Or.inr (by decide))) (Eq.trans (F7.1 175 37 (by omega) (Or.inr (by decide))) (dr1_37 D))) ?_
            refine ax_iadd d_Mo_dsaSign_390 ⟨(by omega), (by omega)⟩ ?_
            refine ax_ti (x := 3303) (by decide) ?_
            refine aw_aload_n d_Mo_dsaSign_391 rfl rfl ?_
            refine ax_getIe (x := 6) d_Mo_dsaSign_392 fd_Mo_223 (k_175 S) (Eq.trans (a_up_ne (Or.inr (by decide))) (Eq.trans (F7.1 175 26 (by omega) (Or.inr (by decide))) (dr1_26 D))) ?_
            refine ax_iadd d_Mo_dsaSign_395 ⟨(by omega), (by omega)⟩ ?_
            refine ax_ti (x := 3309) (by decide) ?_
            refine ax_iast d_Mo_dsaSign_396 (k_186 S) (by decide) (by omega) (by rw [n_186 S]; omega) ?_
            refine aw_aload_n d_Mo_dsaSign_397 rfl rfl ?_
            refine ax_getR (b := 263) d_Mo_dsaSign_398 fd_Mo_87 (k_175 S) (r_175_31 S) ?_
            refine aw_iconst d_Mo_dsaSign_401 ⟨by decide, by decide⟩ ?_
            refine aw_aload_n d_Mo_dsaSign_402 rfl rfl ?_
            refine ax_getR (b := 177) d_Mo_dsaSign_403 fd_Mo_15 (k_175 S) (r_175_1 S) ?_
            refine aw_iconst d_Mo_dsaSign_406 ⟨by decide, by decide⟩ ?_
            refine ax_aald (b := 183) d_Mo_dsaSign_407 ⟨by rw [(k_177 S)]; decide, by rw [(k_177 S)]; decide⟩ (by omega) (by rw [n_177 S]; omega) (g_177 S (j := 5) (by decide) (by decide)) ?_
            refine aw_iconst d_Mo_dsaSign_408 ⟨by decide, by decide⟩ ?_
            refine aw_aload_n d_Mo_dsaSign_409 rfl rfl ?_
            refine ax_getR (b := 186) d_Mo_dsaSign_410 fd_Mo_18 (k_175 S) (r_175_2 S) ?_
            refine aw_iconst d_Mo_dsaSign_413 ⟨by decide, by decide⟩ ?_
            refine ax_ialde (x := 3309) d_Mo_dsaSign_414 (k_186 S) (by omega) (by rw [n_186 S]; omega) (a_up_at) ?_
            refine ax_S (st := []) (as := [vr 263, vi 0, vr 183, vi 0, vi 3309]) (v := none) (h' := sD h (putRow (a_up (a_up I6 175 4 0) 186 5 3309) 183 0 3309 (fun k => (a_up (a_up I6 175 4 0) 186 5 3309) 263 (0 + k))) L6) d_Mo_dsaSign_415 cs_Mo_dsaSign_415 (c_Mo_move ⟨k_263 S, by decide⟩ ⟨k_183 S, by decide, trivial⟩ (by decide) (by rw [n_263 S, n_183 S]; omega)) rfl rfl rfl ?_
            show AW l G M_Mo_dsaSign P 418 [(5, vi v), (4, vi t), (0, vr 175)] [] (sD h (putRow (a_up (a_up I6 175 4 0) 186 5 3309) 183 0 3309 (fun k => (a_up (a_up I6 175 4 0) 186 5 3309) 263 (0 + k))) L6)
            refine aw_iload d_Mo_dsaSign_418 rfl ?_
            refine aw_iconst d_Mo_dsaSign_420 ⟨by decide, by decide⟩ ?_
            refine ax_iadd d_Mo_dsaSign_421 ⟨(by omega), (by omega)⟩ ?_
            exact aw_iret d_Mo_dsaSign_422 rfl (hP _ _ ⟨_, _, _, rfl, rfl, by rw [putRow_ne (by decide), a_up_ne (Or.inl (by decide)), a_up_at, c4_0 ⟨by decide, by decide⟩ b1 b2 okk], Or.inl ⟨c4_0 ⟨by decide, by decide⟩ b1 b2 okk, fR0.fr (fR0.fr (fR0.fr (fR0.fr R0 F7 (r := qN) (by intro a x y; exact ⟨fun z => z, by omega⟩) (by decide)) (FR.c0 (p := fun _ => False)) (r := qN) (by intro a x y; exact ⟨fun z => z, fun z => z⟩) (fun z => z)) (FR.up (p := fun a => a = 186) rfl) (r := fun a => a = 183 ∨ a = 186) (by intro a x y; exact ⟨fun z => z, by omega⟩) (by decide)) (FR.put (p := fun a => a = 183) rfl) (by intro a x y; exact ⟨y, by omega⟩) (by decide), t, rn, rfl, ⟨fun j x => by rw [putRow_ne (by decide), a_up_ne (Or.inr x), a_up_ne (Or.inl (by decide))]; exact (fR0.fr R0 F7 (r := qN) (by intro a x y; exact ⟨fun z => z, by omega⟩) (by decide)).1 186 j (by omega) (fun z => z), by rw [putRow_ne (by decide), a_up_at]; rfl⟩, HR.put (fun z x y => by rw [a_up_ne (Or.inl (by decide)), a_up_ne (Or.inl (by decide))]; exact yy.2.2.2 z x y), fun j => by have z := rng.p (I := a_up (a_up I6 175 4 0) 186 5 3309) (f := 183) (o := 0) (n := 3309) (g := fun k => (a_up (a_up I6 175 4 0) 186 5 3309) 263 (0 + k)) j; rw [show (a_up (a_up I6 175 4 0) 186 5 3309) 183 j = I 183 j from by rw [a_up_ne (Or.inl (by decide)), a_up_ne (Or.inl (by decide))]; exact (fR0.fr R0 F7 (r := qN) (by intro a x y; exact ⟨fun z => z, by omega⟩) (by decide)).1 183 j (by omega) (fun z => z)] at z; exact z⟩⟩)
      · obtain ⟨v, I6, L6, q3, q4, F6, q6⟩ := q_
        cases q3
  skip
  exact lp_317 _ 0 K M (by omega) (FR.rfl') (rfl) rfl
set_option maxHeartbeats 4000000 in
set_option maxRecDepth 100000 in
theorem c_Mo_dsaSign1N {l : Launch} {G : a_G} {h : Hp} {I L : Nat → Int → Int} (S : Shp h) (RS : RSt I L) (rb : RB I) : AW l G M_Mo_dsaSign (RsR h I L (c4 ((0 ≤ (1 : Int) ∧ (1 : Int) < 3) ∧ ((-1 : Int) = 0 ∨ (-1 : Int) = -1)) (((-1 : Int) ≠ 0 ∨ I 186 4 ≤ 255) ∧ (I 186 0 = 32 ∨ I 186 0 = 0)) (I 186 2 = sSec (1 : Int)) (sgOk (1 : Int) (rkR I) ∧ sgRun (1 : Int) (rkR I) (rhR I (-1 : Int)) (muR I (fun k => I 180 (64 + k)) (-1 : Int)) 814 0 ≠ none)) (fun a => a = 183 ∨ a = 186) (fun v I' _ => ∃ t, sgRun (1 : Int) (rkR I) (rhR I (-1 : Int)) (muR I (fun k => I 180 (64 + k)) (-1 : Int)) 814 0 = some t ∧ v = t + 1 ∧ ((∀ j, j ≠ 5 → I' 186 j = I 186 j) ∧ I' 186 5 = sPkt (1 : Int)) ∧ HR I' 183 0 (sPkt (1 : Int)) (sgPk (1 : Int) (rkR I) (rhR I (-1 : Int)) (muR I (fun k => I 180 (64 + k)) (-1 : Int)) t) ∧ rng (I 183) (I' 183))) 0 (a_ar 0 [vr 175, vi 1, vi (-1)]) [] (sD h I L) := by
  suffices key : ∀ P : a_R → Hp → Prop, (∀ r_ h2_, RsR h I L (c4 ((0 ≤ (1 : Int) ∧ (1 : Int) < 3) ∧ ((-1 : Int) = 0 ∨ (-1 : Int) = -1)) (((-1 : Int) ≠ 0 ∨ I 186 4 ≤ 255) ∧ (I 186 0 = 32 ∨ I 186 0 = 0)) (I 186 2 = sSec (1 : Int)) (sgOk (1 : Int) (rkR I) ∧ sgRun (1 : Int) (rkR I) (rhR I (-1 : Int)) (muR I (fun k => I 180 (64 + k)) (-1 : Int)) 814 0 ≠ none)) (fun a => a = 183 ∨ a = 186) (fun v I' _ => ∃ t, sgRun (1 : Int) (rkR I) (rhR I (-1 : Int)) (muR I (fun k => I 180 (64 + k)) (-1 : Int)) 814 0 = some t ∧ v = t + 1 ∧ ((∀ j, j ≠ 5 → I' 186 j = I 186 j) ∧ I' 186 5 = sPkt (1 : Int)) ∧ HR I' 183 0 (sPkt (1 : Int)) (sgPk (1 : Int) (rkR I) (rhR I (-1 : Int)) (muR I (fun k => I 180 (64 + k)) (-1 : Int)) t) ∧ rng (I 183) (I' 183)) r_ h2_ → P r_ h2_) → AW l G M_Mo_dsaSign P 0 [(0, vr 175), (1, vi 1), (2, vi (-1))] [] (sD h I L) from key _ (fun _ _ q => q)
  intro P hP
  refine aw_aload_n d_Mo_dsaSign_0 rfl rfl ?_
  refine aw_iload_n d_Mo_dsaSign_1 rfl rfl ?_
  refine aw_iconst d_Mo_dsaSign_2 ⟨by decide, by decide⟩ ?_
  refine aw_iconst d_Mo_dsaSign_3 ⟨by decide, by decide⟩ ?_
  refine ax_S (st := [vr 175]) (as := [vi 1, vi 0, vi 2]) (v := some (vi 1)) (h' := sD h I L) d_Mo_dsaSign_4 cs_Mo_dsaSign_4 (c_in1 (by decide)) rfl rfl rfl ?_
  show AW l G M_Mo_dsaSign P 7 [(0, vr 175), (1, vi 1), (2, vi (-1))] [vi 1, vr 175] (sD h I L)
  refine aw_if_eq (tgt := 23) d_Mo_dsaSign_7 (by decide) (fun c_7 => False.elim (by omega)) (fun c_7 => ?_)
  refine aw_iload_n d_Mo_dsaSign_10 rfl rfl ?_
  refine aw_iconst d_Mo_dsaSign_11 ⟨by decide, by decide⟩ ?_
  refine aw_iconst d_Mo_dsaSign_12 ⟨by decide, by decide⟩ ?_
  refine ax_S (st := [vr 175]) (as := [vi (-1), vi (-1), vi 0]) (v := some (vi 1)) (h' := sD h I L) d_Mo_dsaSign_13 cs_Mo_dsaSign_13 (c_in1 (by decide)) rfl rfl rfl ?_
  show AW l G M_Mo_dsaSign P 16 [(0, vr 175), (1, vi 1), (2, vi (-1))] [vi 1, vr 175] (sD h I L)
  refine aw_if_eq (tgt := 23) d_Mo_dsaSign_16 (by decide) (fun c_16 => False.elim (by omega)) (fun c_16 => ?_)
  refine aw_iconst d_Mo_dsaSign_19 ⟨by decide, by decide⟩ ?_
  refine aw_goto (tgt := 24) d_Mo_dsaSign_20 (by decide) ?_
  refine aw_iconst d_Mo_dsaSign_24 ⟨by decide, by decide⟩ ?_
  refine ax_V (st := []) (as := [vi 1, vi 1]) (b := 175) (v := some (vi 1)) (h' := sD h (a_up I 175 4 0) L) d_Mo_dsaSign_25 cs_Mo_dsaSign_25 (k_175 S) (c_good1 S (rfl)) rfl rfl rfl ?_
  show AW l G M_Mo_dsaSign P 28 [(0, vr 175), (1, vi 1), (2, vi (-1))] [vi 1] (sD h (a_up I 175 4 0) L)
  refine aw_if_ne (tgt := 33) d_Mo_dsaSign_28 (by decide) (fun c_28 => ?_) (fun c_28 => False.elim (by omega))
  refine aw_aload_n d_Mo_dsaSign_33 rfl rfl ?_
  refine aw_iload_n d_Mo_dsaSign_34 rfl rfl ?_
  refine ax_Vr (st := []) (as := [vi 1]) (b := 175) d_Mo_dsaSign_35 cs_Mo_dsaSign_35 (k_175 S) (c_Mo_dsa1 S) rfl rfl rfl (fun u_35 q_35 => ?_)
  obtain ⟨d1, d2, d3⟩ := q_35
  have e0 : ∀ a j, (a < 175 ∨ 176 ≤ a ∧ a ≤ 202 ∨ 204 ≤ a) → u_35 a j = I a j := fun a j x => (d1 a j (by omega) (Or.inl (by omega)) (Or.inl (by omega)) (Or.inl (by omega)) (Or.inl (by omega)) (Or.inl (by omega)) (Or.inl (by omega)) (Or.inl (by omega)) (Or.inl (by omega)) (Or.inl (by omega))).trans (a_up_ne (Or.inl (by omega)))
  have R00 : fR0 qN I L u_35 L := ⟨fun a j x _ => e0 a j (by omega), (d1 175 3 (by decide) (Or.inr (by decide)) (Or.inr (by decide)) (Or.inr (by decide)) (Or.inr (by decide)) (Or.inr (by decide)) (Or.inr (by decide)) (Or.inr (by decide)) (Or.inr (by decide)) (Or.inr (by decide))).trans (a_up_ne (Or.inr (by decide))), fun _ _ _ => rfl⟩
  have D0 : RD u_35 L 1 := ⟨RS.of (fun j => e0 193 j (by omega)) (fun _ => rfl), d2, d3⟩
  have D1 := D0.fr (FR.c0 (p := fun _ => False) (v := 0)) ⟨fun z => z, fun z => z, fun z => z⟩
  have R1 : fR0 qN I L (a_up u_35 175 4 0) L := fR0.fr R00 (FR.c0 (p := fun _ => False)) (by intro a x y; exact ⟨fun z => z, fun z => z⟩) (fun z => z)
  show AW l G M_Mo_dsaSign P 38 [(0, vr 175), (1, vi 1), (2, vi (-1))] [] (sD h u_35 L)
  refine aw_aload_n d_Mo_dsaSign_38 rfl rfl ?_
  refine aw_aload_n d_Mo_dsaSign_39 rfl rfl ?_
  refine aw_iload_n d_Mo_dsaSign_40 rfl rfl ?_
  by_cases cx_ : (-1 : Int) < 0 ∨ u_35 186 4 ≤ 255
  · skip
    refine ax_V (st := [vr 175]) (as := [vi (-1)]) (b := 175) (v := some (vi 1)) (h' := sD h u_35 L) d_Mo_dsaSign_41 cs_Mo_dsaSign_41 (k_175 S) (by have z := c_Mo_context (l := l) (G := G) (h := h) (L := L) (I := u_35) (x := -1) S; rw [if_pos cx_] at z; exact z) rfl rfl rfl ?_
    show AW l G M_Mo_dsaSign P 44 [(0, vr 175), (1, vi 1), (2, vi (-1))] [vi 1, vr 175] (sD h u_35 L)
    refine aw_if_eq (tgt := 71) d_Mo_dsaSign_44 (by decide) (fun c_44 => False.elim (by omega)) (fun c_44 => ?_)
    refine aw_aload_n d_Mo_dsaSign_47 rfl rfl ?_
    refine ax_getR (b := 186) d_Mo_dsaSign_48 fd_Mo_18 (k_175 S) (r_175_2 S) ?_
    refine aw_iconst d_Mo_dsaSign_51 ⟨by decide, by decide⟩ ?_
    refine ax_ialde (x := I 186 0) d_Mo_dsaSign_52 (k_186 S) (by omega) (by rw [n_186 S]; omega) (Eq.trans (e0 186 0 (by omega)) (rfl)) ?_
    refine aw_bipush d_Mo_dsaSign_53 ⟨by decide, by decide⟩ (by decide) ?_
    refine aw_icmp_eq (tgt := 67) d_Mo_dsaSign_55 (by decide) (fun c_55 => ?_) (fun c_55 => ?_)
    · skip
      refine aw_iconst d_Mo_dsaSign_67 ⟨by decide, by decide⟩ ?_
      refine aw_goto (tgt := 72) d_Mo_dsaSign_68 (by decide) ?_
      refine aw_iconst d_Mo_dsaSign_72 ⟨by decide, by decide⟩ ?_
      refine ax_V (st := []) (as := [vi 1, vi 2]) (b := 175) (v := some (vi 1)) (h' := sD h (a_up u_35 175 4 0) L) d_Mo_dsaSign_73 cs_Mo_dsaSign_73 (k_175 S) (c_good1 S (rfl)) rfl rfl rfl ?_
      show AW l G M_Mo_dsaSign P 76 [(0, vr 175), (1, vi 1), (2, vi (-1))] [vi 1] (sD h (a_up u_35 175 4 0) L)
      refine aw_if_eq (tgt := 105) d_Mo_dsaSign_76 (by decide) (fun c_76 => False.elim (by omega)) (fun c_76 => ?_)
      have bb : (-1 : Int) ≠ 0 ∨ I 186 4 ≤ 255 := by rw [e0 186 4 (by omega)] at cx_; omega
      refine aw_aload_n d_Mo_dsaSign_79 rfl rfl ?_
      refine aw_aload_n d_Mo_dsaSign_80 rfl rfl ?_
      refine ax_getR (b := 186) d_Mo_dsaSign_81 fd_Mo_18 (k_175 S) (r_175_2 S) ?_
      refine aw_iconst d_Mo_dsaSign_84 ⟨by decide, by decide⟩ ?_
      refine ax_ialde (x := I 186 2) d_Mo_dsaSign_85 (k_186 S) (by omega) (by rw [n_186 S]; omega) (Eq.trans (a_up_ne (Or.inl (by decide))) (Eq.trans (e0 186 2 (by omega)) (rfl))) ?_
      refine aw_aload_n d_Mo_dsaSign_86 rfl rfl ?_
      refine ax_V (st := [vi (I 186 2), vr 175]) (as := []) (b := 175) (v := some (vi 4032)) (h' := sD h (a_up u_35 175 4 0) L) d_Mo_dsaSign_87 cs_Mo_dsaSign_87 (k_175 S) (c_Mo_secretLength (z := 4032) S (by rw [dr1_33 D1, dr1_32 D1, dr1_26 D1]; decide) (by rw [dr1_32 D1, dr1_26 D1]; decide)) rfl rfl rfl ?_
      show AW l G M_Mo_dsaSign P 90 [(0, vr 175), (1, vi 1), (2, vi (-1))] [vi 4032, vi (I 186 2), vr 175] (sD h (a_up u_35 175 4 0) L)
      refine aw_icmp_ne (tgt := 97) d_Mo_dsaSign_90 (by decide) (fun c_90 => ?_) (fun c_90 => ?_)
      · skip
        refine aw_iconst d_Mo_dsaSign_97 ⟨by decide, by decide⟩ ?_
        refine aw_iconst d_Mo_dsaSign_98 ⟨by decide, by decide⟩ ?_
        refine ax_V (st := []) (as := [vi 0, vi 3]) (b := 175) (v := some (vi 0)) (h' := sD h (a_up u_35 175 4 3) L) d_Mo_dsaSign_99 cs_Mo_dsaSign_99 (k_175 S) (c_good0 S (by rw [a_up_up])) rfl rfl rfl ?_
        show AW l G M_Mo_dsaSign P 102 [(0, vr 175), (1, vi 1), (2, vi (-1))] [vi 0] (sD h (a_up u_35 175 4 3) L)
        refine aw_if_ne (tgt := 107) d_Mo_dsaSign_102 (by decide) (fun c_102 => False.elim (by omega)) (fun c_102 => ?_)
        refine aw_iconst d_Mo_dsaSign_105 ⟨by decide, by decide⟩ ?_
        exact aw_iret d_Mo_dsaSign_106 rfl (hP _ _ (rsNo 0 3 (c4_3 ⟨by decide, by decide⟩ ⟨bb, by omega⟩ (fun z => by have z1 : I 186 2 = 4032 := z; omega)) (by decide) a_up_at (fR0.fr R00 (FR.c0 (p := fun _ => False)) (by intro a x y; exact ⟨fun z => z, fun z => z⟩) (fun z => z))))
      · skip
        refine aw_iconst d_Mo_dsaSign_93 ⟨by decide, by decide⟩ ?_
        refine aw_goto (tgt := 98) d_Mo_dsaSign_94 (by decide) ?_
        refine aw_iconst d_Mo_dsaSign_98 ⟨by decide, by decide⟩ ?_
        refine ax_V (st := []) (as := [vi 1, vi 3]) (b := 175) (v := some (vi 1)) (h' := sD h (a_up u_35 175 4 0) L) d_Mo_dsaSign_99 cs_Mo_dsaSign_99 (k_175 S) (c_good1 S (by rw [a_up_up])) rfl rfl rfl ?_
        show AW l G M_Mo_dsaSign P 102 [(0, vr 175), (1, vi 1), (2, vi (-1))] [vi 1] (sD h (a_up u_35 175 4 0) L)
        refine aw_if_ne (tgt := 107) d_Mo_dsaSign_102 (by decide) (fun c_102 => ?_) (fun c_102 => False.elim (by omega))
        refine aw_aload_n d_Mo_dsaSign_107 rfl rfl ?_
        refine aw_aload_n d_Mo_dsaSign_108 rfl rfl ?_
        refine ax_getR (b := 177) d_Mo_dsaSign_109 fd_Mo_15 (k_175 S) (r_175_1 S) ?_
        refine aw_iconst d_Mo_dsaSign_112 ⟨by decide, by decide⟩ ?_
        refine ax_aald (b := 180) d_Mo_dsaSign_113 ⟨by rw [(k_177 S)]; decide, by rw [(k_177 S)]; decide⟩ (by omega) (by rw [n_177 S]; omega) (g_177 S (j := 2) (by decide) (by decide)) ?_
        refine aw_bipush d_Mo_dsaSign_114 ⟨by decide, by decide⟩ (by decide) ?_
        refine aw_iload_n d_Mo_dsaSign_116 rfl rfl ?_
        have kz : ∀ a j, (a < 175 ∨ 176 ≤ a ∧ a ≤ 202 ∨ 204 ≤ a) → (a_up u_35 175 4 0) a j = I a j := fun a j x => (a_up_ne (Or.inl (by omega))).trans (e0 a j x)
        have rb1 : RB (a_up u_35 175 4 0) := ⟨fun s a b => by rw [kz 186 s (by omega)]; exact rb.1 s a b, by rw [R1.2.1]; exact rb.2⟩
        have k4 := kz 186 4 (by omega)
        have k3 := kz 186 3 (by omega)
        have f180 : ∀ x : Int, (fun k => (a_up u_35 175 4 0) 180 (x + k)) = (fun k => I 180 (x + k)) := fun x => funext (fun k => kz 180 _ (by omega))
        have f0 : ∀ a : Nat, a = 181 ∨ a = 182 → (fun k => (a_up u_35 175 4 0) a (0 + k)) = (fun k => I a (0 + k)) := fun a ha => funext (fun k => kz a _ (by omega))
        refine ax_Vr (st := []) (as := [vr 180, vi 64, vi (-1)]) (b := 175) d_Mo_dsaSign_117 cs_Mo_dsaSign_117 (k_175 S) (c_Mo_digestMessageN (f := 180) (pa := 64) S D1.1 rb1 ⟨k_180 S, by decide, by decide⟩ (by rw [n_180 S]; decide)) rfl rfl rfl (fun u_117 q_117 => ?_)
        obtain ⟨I1, L1⟩ := u_117
        obtain ⟨F1, h1⟩ := q_117
        dsimp only at F1 h1
        rw [k3, f180 64, f0 181 (Or.inl rfl), k4, f0 182 (Or.inr rfl)] at h1
        have h1 : HR I1 265 0 64 (muR I (fun k => I 180 (64 + k)) (-1 : Int)) := h1
        have RS1 := D1.1.fr F1 (by decide)
        show AW l G M_Mo_dsaSign P 120 [(0, vr 175), (1, vi 1), (2, vi (-1))] [] (sD h I1 L1)
        refine aw_aload_n d_Mo_dsaSign_120 rfl rfl ?_
        refine aw_bipush d_Mo_dsaSign_121 ⟨by decide, by decide⟩ (by decide) ?_
        refine ax_Vr (st := []) (as := [vi 12]) (b := 175) d_Mo_dsaSign_123 cs_Mo_dsaSign_123 (k_175 S) (c_Mo_begin12 S) rfl rfl rfl (fun u_123 q_123 => ?_)
        obtain ⟨I2, L2⟩ := u_123
        obtain ⟨F2, e2, k2⟩ := q_123
        dsimp only at F2 e2 k2
        show AW l G M_Mo_dsaSign P 126 [(0, vr 175), (1, vi 1), (2, vi (-1))] [] (sD h I2 L2)
        refine aw_aload_n d_Mo_dsaSign_126 rfl rfl ?_
        refine aw_aload_n d_Mo_dsaSign_127 rfl rfl ?_
        refine ax_getR (b := 177) d_Mo_dsaSign_128 fd_Mo_15 (k_175 S) (r_175_1 S) ?_
        refine aw_iconst d_Mo_dsaSign_131 ⟨by decide, by decide⟩ ?_
        refine ax_aald (b := 180) d_Mo_dsaSign_132 ⟨by rw [(k_177 S)]; decide, by rw [(k_177 S)]; decide⟩ (by omega) (by rw [n_177 S]; omega) (g_177 S (j := 2) (by decide) (by decide)) ?_
        refine aw_bipush d_Mo_dsaSign_133 ⟨by decide, by decide⟩ (by decide) ?_
        refine aw_bipush d_Mo_dsaSign_135 ⟨by decide, by decide⟩ (by decide) ?_
        refine ax_Vr (st := []) (as := [vr 180, vi 32, vi 32]) (b := 175) d_Mo_dsaSign_137 cs_Mo_dsaSign_137 (k_175 S) (c_Mo_put3 S (RS1.rf F2) (by omega) (by rw [e2]; exact spStart_lt (by decide) (by decide)) ⟨k_180 S, by decide, by decide⟩ (by rw [n_180 S]; decide)) rfl rfl rfl (fun u_137 q_137 => ?_)
        obtain ⟨I3, L3⟩ := u_137
        obtain ⟨F3, e3, k3⟩ := q_137
        dsimp only at F3 e3 k3
        show AW l G M_Mo_dsaSign P 140 [(0, vr 175), (1, vi 1), (2, vi (-1))] [] (sD h I3 L3)
        refine aw_iconst d_Mo_dsaSign_140 ⟨by decide, by decide⟩ ?_
        refine aw_istore_n (lv' := [(3, vi 0), (0, vr 175), (1, vi 1), (2, vi (-1))]) d_Mo_dsaSign_141 rfl (by decide) rfl ?_
        have lp_142 : ∀ (n_ : Nat) (i : Int) (K4 : Nat → Int → Int) (M4 : Nat → Int → Int), (0 ≤ i ∧ i ≤ 32) → (RF I3 L3 K4 M4) → (spR K4 M4 = spPart (spR I3 L3) (rnR I) i.toNat) → (K4 175 18 = 12) → ((32 - i).toNat) = n_ → AW l G M_Mo_dsaSign P 142 [(3, vi i), (2, vi (-1)), (1, vi 1), (0, vr 175)] [] (sD h K4 M4) := by
          intro n_
          induction n_ using Nat.strongRecOn with
          | _ n_ ih_142 =>
          intro i K4 M4 hi F4 e4 k4_ hm_142
          refine aw_iload_n d_Mo_dsaSign_142 rfl rfl ?_
          refine aw_bipush d_Mo_dsaSign_143 ⟨by decide, by decide⟩ (by decide) ?_
          refine aw_icmp_ge (tgt := 179) d_Mo_dsaSign_145 (by decide) (fun c_145 => ?_) (fun c_145 => ?_)
          · skip
            refine aw_aload_n d_Mo_dsaSign_179 rfl rfl ?_
            refine aw_aload_n d_Mo_dsaSign_180 rfl rfl ?_
            refine ax_getR (b := 265) d_Mo_dsaSign_181 fd_Mo_93 (k_175 S) (r_175_41 S) ?_
            refine aw_iconst d_Mo_dsaSign_184 ⟨by decide, by decide⟩ ?_
            refine aw_bipush d_Mo_dsaSign_185 ⟨by decide, by decide⟩ (by decide) ?_
            refine ax_Vr (st := []) (as := [vr 265, vi 0, vi 64]) (b := 175) d_Mo_dsaSign_187 cs_Mo_dsaSign_187 (k_175 S) (c_Mo_put3 S ((RS1.rf F2).rf (F3.tr F4)) (by omega) (by rw [e4, e3, e2]; exact spPart_lt (spPart_lt (spStart_lt (by decide) (by decide)) _ _) _ _) ⟨k_265 S, by decide, by decide⟩ (by rw [n_265 S]; decide)) rfl rfl rfl (fun u_187 q_187 => ?_)
            obtain ⟨I6, L6⟩ := u_187
            obtain ⟨F6, e6, k6⟩ := q_187
            dsimp only at F6 e6 k6
            have G6 := (F2.tr (F3.tr F4)).tr F6
            have eS : spTurn (spR I6 L6) = rhS (fun k => I 180 (32 + k)) (rnR I) (muR I (fun k => I 180 (64 + k)) (-1 : Int)) := by rw [e6, e4, e3, e2, show i.toNat = 32 by omega, show Int.toNat 32 = 32 from rfl, show Int.toNat 64 = 64 from rfl, show (fun k => I2 180 (32 + k)) = (fun k => I 180 (32 + k)) from funext (fun z => (F2.1 180 _ (Or.inl (by decide))).trans ((F1.1 180 _ (by decide) (Or.inl (by decide))).trans (kz 180 _ (by omega)))), spPart_congr (f := fun k => K4 265 (0 + k)) (g := (muR I (fun k => I 180 (64 + k)) (-1 : Int))) (fun k hk => by rw [(F2.tr (F3.tr F4)).1 265 _ (Or.inl (by decide)), h1 k (by omega) (by omega)]; exact (spOut_m _ _).symm)]; rfl
            show AW l G M_Mo_dsaSign P 190 [(3, vi i), (2, vi (-1)), (1, vi 1), (0, vr 175)] [] (sD h I6 L6)
            refine aw_aload_n d_Mo_dsaSign_190 rfl rfl ?_
            refine aw_aload_n d_Mo_dsaSign_191 rfl rfl ?_
            refine ax_getR (b := 266) d_Mo_dsaSign_192 fd_Mo_96 (k_175 S) (r_175_42 S) ?_
            refine aw_iconst d_Mo_dsaSign_195 ⟨by decide, by decide⟩ ?_
            refine aw_bipush d_Mo_dsaSign_196 ⟨by decide, by decide⟩ (by decide) ?_
            refine ax_Vr (st := []) (as := [vr 266, vi 0, vi 64]) (b := 175) d_Mo_dsaSign_198 cs_Mo_dsaSign_198 (k_175 S) (c_Mo_give S (RS1.rf G6) (by omega) (by rw [e6, e4, e3, e2]; exact (spPart_lt (spPart_lt (spPart_lt (spStart_lt (by decide) (by decide)) _ _) _ _) _ _).1) ⟨k_266 S, by decide, by decide, by decide⟩ (by rw [n_266 S]; decide)) rfl rfl rfl (fun u_198 q_198 => ?_)
            obtain ⟨I7, L7⟩ := u_198
            obtain ⟨F7, f7, e7, k7⟩ := q_198
            dsimp only at F7 f7 e7 k7
            rw [eS] at F7
            have h7 : HR I7 266 0 64 (rhR I (-1 : Int)) := HR.give F7 (by decide)
            have G7 : FR (fun a => a = 265 ∨ a = 266) (a_up u_35 175 4 0) L I7 L7 := (F1.tr (G6.fr (p := fun a => a = 265)) (fun a x => ⟨x, x⟩)).tr (FR.give (p := fun a => a = 266) F7 f7 rfl) (by intro a x; omega)
            have D7 := D1.fr G7 (by decide)
            have m7 : HR I7 265 0 64 (muR I (fun k => I 180 (64 + k)) (-1 : Int)) := (h1.fr (G6.fr (p := fun _ => False)) (fun z => z) (by decide)).fr (FR.give (p := fun a => a = 266) F7 f7 rfl) (by decide) (by decide)
            show AW l G M_Mo_dsaSign P 201 [(3, vi i), (2, vi (-1)), (1, vi 1), (0, vr 175)] [] (sD h I7 L7)
            refine aw_aload_n d_Mo_dsaSign_201 rfl rfl ?_
            refine ax_getIe (x := 4) d_Mo_dsaSign_202 fd_Mo_229 (k_175 S) (dr1_33 D7) ?_
            refine aw_iconst d_Mo_dsaSign_205 ⟨by decide, by decide⟩ ?_
            refine aw_icmp_ne (tgt := 213) d_Mo_dsaSign_206 (by decide) (fun c_206 => ?_) (fun c_206 => False.elim (by omega))
            refine aw_iconst d_Mo_dsaSign_213 ⟨by decide, by decide⟩ ?_
            refine aw_istore_n (lv' := [(3, vi 4), (2, vi (-1)), (1, vi 1), (0, vr 175)]) d_Mo_dsaSign_214 rfl (by decide) rfl ?_
            refine aw_aload_n d_Mo_dsaSign_215 rfl rfl ?_
            refine aw_iconst d_Mo_dsaSign_216 ⟨by decide, by decide⟩ ?_
            refine ax_putI d_Mo_dsaSign_217 fd_Mo_216 (k_175 S) (by decide) rfl ?_
            refine aw_iconst d_Mo_dsaSign_220 ⟨by decide, by decide⟩ ?_
            refine aw_istore (lv' := [(4, vi 0), (3, vi 4), (2, vi (-1)), (1, vi 1), (0, vr 175)]) d_Mo_dsaSign_221 (by decide) rfl ?_
            have lp_223 : ∀ (n_ : Nat) (i : Int) (K5 : Nat → Int → Int), (0 ≤ i ∧ i ≤ 11) → (FR (fun a => 205 ≤ a ∧ a ≤ 219) I7 L7 K5 L7) → (K5 175 23 = 8 * (128 * i)) → (∀ m, 0 ≤ m → m < i → eqQ (K5 (205 + m.toNat)) (sgSs 1 (rkR I) m)) → ((11 - i).toNat) = n_ → AW l G M_Mo_dsaSign P 223 [(4, vi i), (3, vi 4), (2, vi (-1)), (1, vi 1), (0, vr 175)] [] (sD h K5 L7) := by
              intro n_
              induction n_ using Nat.strongRecOn with
              | _ n_ ih_223 =>
              intro i K5 hi5 G5 b5 s5 hm_223
              have sk5 : ∀ x, K5 180 x = I 180 x := fun x => (G5.1 _ _ (by decide) (Or.inl (by decide))).trans ((G7.1 _ _ (by decide) (Or.inl (by decide))).trans (kz 180 x (by omega)))
              refine aw_iload d_Mo_dsaSign_223 rfl ?_
              refine aw_aload_n d_Mo_dsaSign_225 rfl rfl ?_
              refine ax_getIe (x := 5) d_Mo_dsaSign_226 fd_Mo_226 (k_175 S) (Eq.trans (G5.1 175 32 (by omega) (Or.inr (by decide))) (dr1_32 D7)) ?_
              refine aw_aload_n d_Mo_dsaSign_229 rfl rfl ?_
              refine ax_getIe (x := 6) d_Mo_dsaSign_230 fd_Mo_223 (k_175 S) (Eq.trans (G5.1 175 26 (by omega) (Or.inr (by decide))) (dr1_26 D7)) ?_
              refine ax_iadd d_Mo_dsaSign_233 ⟨(by omega), (by omega)⟩ ?_
              refine ax_ti (x := 11) (by decide) ?_
              refine aw_icmp_ge (tgt := 268) d_Mo_dsaSign_234 (by decide) (fun c_234 => ?_) (fun c_234 => ?_)
              · skip
                refine aw_iconst d_Mo_dsaSign_268 ⟨by decide, by decide⟩ ?_
                refine aw_istore (lv' := [(4, vi 0), (3, vi 4), (2, vi (-1)), (1, vi 1), (0, vr 175)]) d_Mo_dsaSign_269 (by decide) rfl ?_
                have lp_271 : ∀ (n_ : Nat) (i : Int) (K6 : Nat → Int → Int), (0 ≤ i ∧ i ≤ 6) → (FR (fun a => 205 ≤ a ∧ a ≤ 227) I7 L7 K6 L7) → (K6 175 23 = 8 * (1408 + 416 * i)) → (∀ m, 0 ≤ m → m < 11 → eqQ (K6 (205 + m.toNat)) (sgSs 1 (rkR I) m)) → (∀ m, 0 ≤ m → m < i → eqQ (K6 (205 + (15 + m).toNat)) (sgDs 1 (rkR I) m)) → ((6 - i).toNat) = n_ → AW l G M_Mo_dsaSign P 271 [(4, vi i), (2, vi (-1)), (1, vi 1), (0, vr 175)] [] (sD h K6 L7) := by
                  intro n_
                  induction n_ using Nat.strongRecOn with
                  | _ n_ ih_271 =>
                  intro i K6 hi6 Gy b6 s6 t6 hm_271
                  have sk6 : ∀ x, K6 180 x = I 180 x := fun x => (Gy.1 _ _ (by decide) (Or.inl (by decide))).trans ((G7.1 _ _ (by decide) (Or.inl (by decide))).trans (kz 180 x (by omega)))
                  refine aw_iload d_Mo_dsaSign_271 rfl ?_
                  refine aw_aload_n d_Mo_dsaSign_273 rfl rfl ?_
                  refine ax_getIe (x := 6) d_Mo_dsaSign_274 fd_Mo_223 (k_175 S) (Eq.trans (Gy.1 175 26 (by omega) (Or.inr (by decide))) (dr1_26 D7)) ?_
                  refine aw_icmp_ge (tgt := 314) d_Mo_dsaSign_277 (by decide) (fun c_277 => ?_) (fun c_277 => ?_)
                  · skip
                    refine aw_sub (lv' := [(0, vr 175)]) (by simp) ?_
                    exact sB1N S (fR0.fr (fR0.fr R1 G7 (r := qN) (by intro a x y; exact ⟨fun z => z, by omega⟩) (by decide)) Gy (by intro a x y; exact ⟨fun z => z, by omega⟩) (by decide)) (D7.fr Gy (by decide)) (m7.fr Gy (by decide) (by decide)) (h7.fr Gy (by decide) (by decide)) s6 (fun m a b => t6 m a (by omega)) ⟨bb, by omega⟩ (by show I 186 2 = 4032; omega) hP
                  · skip
                    refine aw_aload_n d_Mo_dsaSign_280 rfl rfl ?_
                    refine aw_aload_n d_Mo_dsaSign_281 rfl rfl ?_
                    refine ax_getR (b := 177) d_Mo_dsaSign_282 fd_Mo_15 (k_175 S) (r_175_1 S) ?_
                    refine aw_iconst d_Mo_dsaSign_285 ⟨by decide, by decide⟩ ?_
                    refine ax_aald (b := 180) d_Mo_dsaSign_286 ⟨by rw [(k_177 S)]; decide, by rw [(k_177 S)]; decide⟩ (by omega) (by rw [n_177 S]; omega) (g_177 S (j := 2) (by decide) (by decide)) ?_
                    refine aw_sipush d_Mo_dsaSign_287 ⟨by decide, by decide⟩ (by decide) ?_
                    refine aw_aload_n d_Mo_dsaSign_290 rfl rfl ?_
                    refine ax_getR (b := 204) d_Mo_dsaSign_291 fd_Mo_76 (k_175 S) (r_175_28 S) ?_
                    refine aw_bipush d_Mo_dsaSign_294 ⟨by decide, by decide⟩ (by decide) ?_
                    refine aw_iload d_Mo_dsaSign_296 rfl ?_
                    refine ax_iadd d_Mo_dsaSign_298 ⟨(by omega), (by omega)⟩ ?_
                    refine ax_aald (b := 205 + (15 + i).toNat) d_Mo_dsaSign_299 ⟨by rw [(k_204 S)]; decide, by rw [(k_204 S)]; decide⟩ (by omega) (by rw [n_204 S]; omega) (g_204 S (by omega) (by omega)) ?_
                    refine aw_sipush d_Mo_dsaSign_300 ⟨by decide, by decide⟩ (by decide) ?_
                    refine aw_bipush d_Mo_dsaSign_303 ⟨by decide, by decide⟩ (by decide) ?_
                    refine ax_Vr (st := []) (as := [vr 180, vi 128, vr (205 + (15 + i).toNat), vi 4096, vi 13]) (b := 175) d_Mo_dsaSign_305 cs_Mo_dsaSign_305 (k_175 S) (c_Mo_unpack (pa := 128) (c := 1408 + 416 * i) (d := 13) (b := 4096) S ⟨k_180 S, by decide, by decide⟩ ⟨kr_204 S (by omega), by omega, nr_204 S (by omega)⟩ (by omega) (by decide) (by omega) (by decide) (by rw [n_180 S]; omega)) rfl rfl rfl (fun u_305 q_305 => ?_)
                    obtain ⟨q1, q2, q3⟩ := q_305
                    have Fy : FR (fun a => 220 ≤ a ∧ a ≤ 227) K6 L7 u_305 L7 := FR.unp q1 (by omega)
                    show AW l G M_Mo_dsaSign P 308 [(4, vi i), (2, vi (-1)), (1, vi 1), (0, vr 175)] [] (sD h u_305 L7)
                    refine ax_iinc (lv' := [(4, vi (i + 1)), (2, vi (-1)), (1, vi 1), (0, vr 175)]) d_Mo_dsaSign_308 rfl (by decide) ⟨(by omega), (by omega)⟩ rfl ?_
                    refine aw_goto (tgt := 271) d_Mo_dsaSign_311 (by decide) ?_
                    exact ih_271 _ (by omega) (i + 1) u_305 (by omega) (Gy.tr (Fy.mono (r := fun a => 205 ≤ a ∧ a ≤ 227) (by intro a x; omega)) (fun a x => ⟨x, x⟩)) (by omega) (fun m a b x u v => by rw [q1 _ _ (by omega) (Or.inl (by omega))]; exact s6 m a b x u v) (fun m a b x u v => by by_cases z : m = i; exact (by rw [z, q3 x u v, show (fun j => K6 180 (128 + (1408 + 416 * i) + j) % 256) = (fun j => I 180 (1536 + 416 * i + j) % 256) from funext (fun y => by rw [sk6, show (128 + (1408 + 416 * i) : Int) = 1536 + 416 * i by omega])]; show _ = 4096 - gR (fun k => rkR I (1536 + 416 * i + k)) 13 x; rw [gR_congr (g := fun j => I 180 (1536 + 416 * i + j) % 256) (g' := fun k => rkR I (1536 + 416 * i + k)) (fun y y0 y1 => (gW_in (s := 2) (by omega) (by rw [show I 186 2 = 4032 by omega]; omega)).symm)]); exact (by rw [q1 _ _ (by omega) (Or.inl (by omega))]; exact t6 m a (by omega) x u v)) rfl
                skip
                refine aw_sub (lv' := [(4, vi 0), (2, vi (-1)), (1, vi 1), (0, vr 175)]) (by simp) ?_
                exact lp_271 _ 0 K5 (by omega) (G5.mono (by intro a x; omega)) (by omega) (fun m a b => s5 m a (by omega)) (fun m a b => by omega) rfl
              · skip
                refine aw_aload_n d_Mo_dsaSign_237 rfl rfl ?_
                refine aw_aload_n d_Mo_dsaSign_238 rfl rfl ?_
                refine ax_getR (b := 177) d_Mo_dsaSign_239 fd_Mo_15 (k_175 S) (r_175_1 S) ?_
                refine aw_iconst d_Mo_dsaSign_242 ⟨by decide, by decide⟩ ?_
                refine ax_aald (b := 180) d_Mo_dsaSign_243 ⟨by rw [(k_177 S)]; decide, by rw [(k_177 S)]; decide⟩ (by omega) (by rw [n_177 S]; omega) (g_177 S (j := 2) (by decide) (by decide)) ?_
                refine aw_sipush d_Mo_dsaSign_244 ⟨by decide, by decide⟩ (by decide) ?_
                refine aw_aload_n d_Mo_dsaSign_247 rfl rfl ?_
                refine ax_getR (b := 204) d_Mo_dsaSign_248 fd_Mo_76 (k_175 S) (r_175_28 S) ?_
                refine aw_iload d_Mo_dsaSign_251 rfl ?_
                refine ax_aald (b := 205 + i.toNat) d_Mo_dsaSign_253 ⟨by rw [(k_204 S)]; decide, by rw [(k_204 S)]; decide⟩ (by omega) (by rw [n_204 S]; omega) (g_204 S (by omega) (by omega)) ?_
                refine aw_aload_n d_Mo_dsaSign_254 rfl rfl ?_
                refine ax_getIe (x := 4) d_Mo_dsaSign_255 fd_Mo_229 (k_175 S) (Eq.trans (G5.1 175 33 (by omega) (Or.inr (by decide))) (dr1_33 D7)) ?_
                refine aw_iload_n d_Mo_dsaSign_258 rfl rfl ?_
                refine ax_Vr (st := []) (as := [vr 180, vi 128, vr (205 + i.toNat), vi 4, vi 4]) (b := 175) d_Mo_dsaSign_259 cs_Mo_dsaSign_259 (k_175 S) (c_Mo_unpack (pa := 128) (c := 128 * i) (d := 4) (b := 4) S ⟨k_180 S, by decide, by decide⟩ ⟨kr_204 S (by omega), by omega, nr_204 S (by omega)⟩ (by omega) (by decide) (by omega) (by decide) (by rw [n_180 S]; omega)) rfl rfl rfl (fun u_259 q_259 => ?_)
                obtain ⟨q1, q2, q3⟩ := q_259
                have Fx : FR (fun a => 205 ≤ a ∧ a ≤ 219) K5 L7 u_259 L7 := FR.unp q1 (by omega)
                show AW l G M_Mo_dsaSign P 262 [(4, vi i), (3, vi 4), (2, vi (-1)), (1, vi 1), (0, vr 175)] [] (sD h u_259 L7)
                refine ax_iinc (lv' := [(4, vi (i + 1)), (3, vi 4), (2, vi (-1)), (1, vi 1), (0, vr 175)]) d_Mo_dsaSign_262 rfl (by decide) ⟨(by omega), (by omega)⟩ rfl ?_
                refine aw_goto (tgt := 223) d_Mo_dsaSign_265 (by decide) ?_
                exact ih_223 _ (by omega) (i + 1) u_259 (by omega) (G5.tr Fx (fun a x => ⟨x, x⟩)) (by omega) (fun m a b x u v => by by_cases z : m = i; exact (by rw [z, q3 x u v, show (fun j => K5 180 (128 + 128 * i + j) % 256) = (fun j => I 180 (128 + 128 * i + j) % 256) from funext (fun y => by rw [sk5])]; show _ = 4 - gR (fun k => rkR I (128 + 128 * i + k)) 4 x; rw [gR_congr (g := fun j => I 180 (128 + 128 * i + j) % 256) (g' := fun k => rkR I (128 + 128 * i + k)) (fun y y0 y1 => (gW_in (s := 2) (by omega) (by rw [show I 186 2 = 4032 by omega]; omega)).symm)]); exact (by rw [q1 _ _ (by omega) (Or.inl (by omega))]; exact s5 m a (by omega) x u v)) rfl
            skip
            exact lp_223 _ 0 (a_up I7 175 23 0) (by omega) (FR.b0) (a_up_at.trans (by decide)) (fun m a b => by omega) rfl
          · skip
            refine aw_aload_n d_Mo_dsaSign_148 rfl rfl ?_
            refine aw_aload_n d_Mo_dsaSign_149 rfl rfl ?_
            refine ax_getR (b := 186) d_Mo_dsaSign_150 fd_Mo_18 (k_175 S) (r_175_2 S) ?_
            refine aw_iconst d_Mo_dsaSign_153 ⟨by decide, by decide⟩ ?_
            refine ax_ialde (x := I 186 0) d_Mo_dsaSign_154 (k_186 S) (by omega) (by rw [n_186 S]; omega) (Eq.trans ((F2.tr (F3.tr F4)).1 186 0 (Or.inl (by decide))) (Eq.trans (F1.1 186 0 (by decide) (Or.inl (by decide))) (Eq.trans (kz 186 0 (by omega)) (rfl)))) ?_
            refine aw_if_ne (tgt := 162) d_Mo_dsaSign_155 (by decide) (fun c_155 => ?_) (fun c_155 => ?_)
            · skip
              refine aw_aload_n d_Mo_dsaSign_162 rfl rfl ?_
              refine ax_getR (b := 177) d_Mo_dsaSign_163 fd_Mo_15 (k_175 S) (r_175_1 S) ?_
              refine aw_iconst d_Mo_dsaSign_166 ⟨by decide, by decide⟩ ?_
              refine ax_aald (b := 178) d_Mo_dsaSign_167 ⟨by rw [(k_177 S)]; decide, by rw [(k_177 S)]; decide⟩ (by omega) (by rw [n_177 S]; omega) (g_177 S (j := 0) (by decide) (by decide)) ?_
              refine aw_iload_n d_Mo_dsaSign_168 rfl rfl ?_
              refine ax_balde (x := I 178 i) d_Mo_dsaSign_169 (k_178 S) (by omega) (by rw [n_178 S]; omega) (Eq.trans ((F2.tr (F3.tr F4)).1 178 i (Or.inl (by decide))) (Eq.trans (F1.1 178 i (by decide) (Or.inl (by decide))) (Eq.trans (kz 178 i (by omega)) (rfl)))) ?_
              have vv : rnR I i = I 178 i := by unfold rnR; rw [if_neg (by omega)]
              refine ax_Vr (st := []) (as := [vi (I 178 i)]) (b := 175) d_Mo_dsaSign_170 cs_Mo_dsaSign_170 (k_175 S) (c_Mo_put1 S ((RS1.rf F2).rf (F3.tr F4)) (by omega) (by rw [e4, e3, e2]; exact spPart_lt (spPart_lt (spStart_lt (by decide) (by decide)) _ _) _ _)) rfl rfl rfl (fun u_170 q_170 => ?_)
              obtain ⟨I5, L5⟩ := u_170
              obtain ⟨F5, e5, k5⟩ := q_170
              dsimp only at F5 e5 k5
              show AW l G M_Mo_dsaSign P 173 [(3, vi i), (2, vi (-1)), (1, vi 1), (0, vr 175)] [] (sD h I5 L5)
              refine ax_iinc (lv' := [(3, vi (i + 1)), (2, vi (-1)), (1, vi 1), (0, vr 175)]) d_Mo_dsaSign_173 rfl (by decide) ⟨(by omega), (by omega)⟩ rfl ?_
              refine aw_goto (tgt := 142) d_Mo_dsaSign_176 (by decide) ?_
              exact ih_142 _ (by omega) (i + 1) I5 L5 (by omega) (F4.tr F5) (by rw [e5, e4, show (i + 1).toNat = i.toNat + 1 by omega]; show _ = spTake (spPart (spR I3 L3) (rnR I) i.toNat) (rnR I (i.toNat : Int)); rw [Int.toNat_of_nonneg hi.1, vv]) (by omega) rfl
            · skip
              refine aw_iconst d_Mo_dsaSign_158 ⟨by decide, by decide⟩ ?_
              refine aw_goto (tgt := 170) d_Mo_dsaSign_159 (by decide) ?_
              have vv : rnR I i = 0 := by unfold rnR; rw [if_pos (by omega)]
              refine ax_Vr (st := []) (as := [vi 0]) (b := 175) d_Mo_dsaSign_170 cs_Mo_dsaSign_170 (k_175 S) (c_Mo_put1 S ((RS1.rf F2).rf (F3.tr F4)) (by omega) (by rw [e4, e3, e2]; exact spPart_lt (spPart_lt (spStart_lt (by decide) (by decide)) _ _) _ _)) rfl rfl rfl (fun u_170 q_170 => ?_)
              obtain ⟨I5, L5⟩ := u_170
              obtain ⟨F5, e5, k5⟩ := q_170
              dsimp only at F5 e5 k5
              show AW l G M_Mo_dsaSign P 173 [(3, vi i), (2, vi (-1)), (1, vi 1), (0, vr 175)] [] (sD h I5 L5)
              refine ax_iinc (lv' := [(3, vi (i + 1)), (2, vi (-1)), (1, vi 1), (0, vr 175)]) d_Mo_dsaSign_173 rfl (by decide) ⟨(by omega), (by omega)⟩ rfl ?_
              refine aw_goto (tgt := 142) d_Mo_dsaSign_176 (by decide) ?_
              exact ih_142 _ (by omega) (i + 1) I5 L5 (by omega) (F4.tr F5) (by rw [e5, e4, show (i + 1).toNat = i.toNat + 1 by omega]; show _ = spTake (spPart (spR I3 L3) (rnR I) i.toNat) (rnR I (i.toNat : Int)); rw [Int.toNat_of_nonneg hi.1, vv]) (by omega) rfl
        skip
        refine aw_sub (lv' := [(3, vi 0), (2, vi (-1)), (1, vi 1), (0, vr 175)]) (by simp) ?_
        exact lp_142 _ 0 I3 L3 (by omega) (RF.rfl') (rfl) (by omega) rfl
    · skip
      refine aw_aload_n d_Mo_dsaSign_58 rfl rfl ?_
      refine ax_getR (b := 186) d_Mo_dsaSign_59 fd_Mo_18 (k_175 S) (r_175_2 S) ?_
      refine aw_iconst d_Mo_dsaSign_62 ⟨by decide, by decide⟩ ?_
      refine ax_ialde (x := I 186 0) d_Mo_dsaSign_63 (k_186 S) (by omega) (by rw [n_186 S]; omega) (Eq.trans (e0 186 0 (by omega)) (rfl)) ?_
      refine aw_if_ne (tgt := 71) d_Mo_dsaSign_64 (by decide) (fun c_64 => ?_) (fun c_64 => ?_)
      · skip
        refine aw_iconst d_Mo_dsaSign_71 ⟨by decide, by decide⟩ ?_
        refine aw_iconst d_Mo_dsaSign_72 ⟨by decide, by decide⟩ ?_
        refine ax_V (st := []) (as := [vi 0, vi 2]) (b := 175) (v := some (vi 0)) (h' := sD h (a_up u_35 175 4 2) L) d_Mo_dsaSign_73 cs_Mo_dsaSign_73 (k_175 S) (c_good0 S (rfl)) rfl rfl rfl ?_
        show AW l G M_Mo_dsaSign P 76 [(0, vr 175), (1, vi 1), (2, vi (-1))] [vi 0] (sD h (a_up u_35 175 4 2) L)
        refine aw_if_eq (tgt := 105) d_Mo_dsaSign_76 (by decide) (fun c_76 => ?_) (fun c_76 => False.elim (by omega))
        refine aw_iconst d_Mo_dsaSign_105 ⟨by decide, by decide⟩ ?_
        exact aw_iret d_Mo_dsaSign_106 rfl (hP _ _ (rsNo 0 2 (c4_2 ⟨by decide, by decide⟩ (fun z => by rw [e0 186 4 (by omega)] at cx_; have z1 := z.1; have z2 := z.2; omega)) (by decide) a_up_at (fR0.fr R00 (FR.c0 (p := fun _ => False)) (by intro a x y; exact ⟨fun z => z, fun z => z⟩) (fun z => z))))
      · skip
        refine aw_iconst d_Mo_dsaSign_67 ⟨by decide, by decide⟩ ?_
        refine aw_goto (tgt := 72) d_Mo_dsaSign_68 (by decide) ?_
        refine aw_iconst d_Mo_dsaSign_72 ⟨by decide, by decide⟩ ?_
        refine ax_V (st := []) (as := [vi 1, vi 2]) (b := 175) (v := some (vi 1)) (h' := sD h (a_up u_35 175 4 0) L) d_Mo_dsaSign_73 cs_Mo_dsaSign_73 (k_175 S) (c_good1 S (rfl)) rfl rfl rfl ?_
        show AW l G M_Mo_dsaSign P 76 [(0, vr 175), (1, vi 1), (2, vi (-1))] [vi 1] (sD h (a_up u_35 175 4 0) L)
        refine aw_if_eq (tgt := 105) d_Mo_dsaSign_76 (by decide) (fun c_76 => False.elim (by omega)) (fun c_76 => ?_)
        have bb : (-1 : Int) ≠ 0 ∨ I 186 4 ≤ 255 := by rw [e0 186 4 (by omega)] at cx_; omega
        refine aw_aload_n d_Mo_dsaSign_79 rfl rfl ?_
        refine aw_aload_n d_Mo_dsaSign_80 rfl rfl ?_
        refine ax_getR (b := 186) d_Mo_dsaSign_81 fd_Mo_18 (k_175 S) (r_175_2 S) ?_
        refine aw_iconst d_Mo_dsaSign_84 ⟨by decide, by decide⟩ ?_
        refine ax_ialde (x := I 186 2) d_Mo_dsaSign_85 (k_186 S) (by omega) (by rw [n_186 S]; omega) (Eq.trans (a_up_ne (Or.inl (by decide))) (Eq.trans (e0 186 2 (by omega)) (rfl))) ?_
        refine aw_aload_n d_Mo_dsaSign_86 rfl rfl ?_
        refine ax_V (st := [vi (I 186 2), vr 175]) (as := []) (b := 175) (v := some (vi 4032)) (h' := sD h (a_up u_35 175 4 0) L) d_Mo_dsaSign_87 cs_Mo_dsaSign_87 (k_175 S) (c_Mo_secretLength (z := 4032) S (by rw [dr1_33 D1, dr1_32 D1, dr1_26 D1]; decide) (by rw [dr1_32 D1, dr1_26 D1]; decide)) rfl rfl rfl ?_
        show AW l G M_Mo_dsaSign P 90 [(0, vr 175), (1, vi 1), (2, vi (-1))] [vi 4032, vi (I 186 2), vr 175] (sD h (a_up u_35 175 4 0) L)
        refine aw_icmp_ne (tgt := 97) d_Mo_dsaSign_90 (by decide) (fun c_90 => ?_) (fun c_90 => ?_)
        · skip
          refine aw_iconst d_Mo_dsaSign_97 ⟨by decide, by decide⟩ ?_
          refine aw_iconst d_Mo_dsaSign_98 ⟨by decide, by decide⟩ ?_
          refine ax_V (st := []) (as := [vi 0, vi 3]) (b := 175) (v := some (vi 0)) (h' := sD h (a_up u_35 175 4 3) L) d_Mo_dsaSign_99 cs_Mo_dsaSign_99 (k_175 S) (c_good0 S (by rw [a_up_up])) rfl rfl rfl ?_
          show AW l G M_Mo_dsaSign P 102 [(0, vr 175), (1, vi 1), (2, vi (-1))] [vi 0] (sD h (a_up u_35 175 4 3) L)
          refine aw_if_ne (tgt := 107) d_Mo_dsaSign_102 (by decide) (fun c_102 => False.elim (by omega)) (fun c_102 => ?_)
          refine aw_iconst d_Mo_dsaSign_105 ⟨by decide, by decide⟩ ?_
          exact aw_iret d_Mo_dsaSign_106 rfl (hP _ _ (rsNo 0 3 (c4_3 ⟨by decide, by decide⟩ ⟨bb, by omega⟩ (fun z => by have z1 : I 186 2 = 4032 := z; omega)) (by decide) a_up_at (fR0.fr R00 (FR.c0 (p := fun _ => False)) (by intro a x y; exact ⟨fun z => z, fun z => z⟩) (fun z => z))))
        · skip
          refine aw_iconst d_Mo_dsaSign_93 ⟨by decide, by decide⟩ ?_
          refine aw_goto (tgt := 98) d_Mo_dsaSign_94 (by decide) ?_
          refine aw_iconst d_Mo_dsaSign_98 ⟨by decide, by decide⟩ ?_
          refine ax_V (st := []) (as := [vi 1, vi 3]) (b := 175) (v := some (vi 1)) (h' := sD h (a_up u_35 175 4 0) L) d_Mo_dsaSign_99 cs_Mo_dsaSign_99 (k_175 S) (c_good1 S (by rw [a_up_up])) rfl rfl rfl ?_
          show AW l G M_Mo_dsaSign P 102 [(0, vr 175), (1, vi 1), (2, vi (-1))] [vi 1] (sD h (a_up u_35 175 4 0) L)
          refine aw_if_ne (tgt := 107) d_Mo_dsaSign_102 (by decide) (fun c_102 => ?_) (fun c_102 => False.elim (by omega))
          refine aw_aload_n d_Mo_dsaSign_107 rfl rfl ?_
          refine aw_aload_n d_Mo_dsaSign_108 rfl rfl ?_
          refine ax_getR (b := 177) d_Mo_dsaSign_109 fd_Mo_15 (k_175 S) (r_175_1 S) ?_
          refine aw_iconst d_Mo_dsaSign_112 ⟨by decide, by decide⟩ ?_
          refine ax_aald (b := 180) d_Mo_dsaSign_113 ⟨by rw [(k_177 S)]; decide, by rw [(k_177 S)]; decide⟩ (by omega) (by rw [n_177 S]; omega) (g_177 S (j := 2) (by decide) (by decide)) ?_
          refine aw_bipush d_Mo_dsaSign_114 ⟨by decide, by decide⟩ (by decide) ?_
          refine aw_iload_n d_Mo_dsaSign_116 rfl rfl ?_
          have kz : ∀ a j, (a < 175 ∨ 176 ≤ a ∧ a ≤ 202 ∨ 204 ≤ a) → (a_up u_35 175 4 0) a j = I a j := fun a j x => (a_up_ne (Or.inl (by omega))).trans (e0 a j x)
          have rb1 : RB (a_up u_35 175 4 0) := ⟨fun s a b => by rw [kz 186 s (by omega)]; exact rb.1 s a b, by rw [R1.2.1]; exact rb.2⟩
          have k4 := kz 186 4 (by omega)
          have k3 := kz 186 3 (by omega)
          have f180 : ∀ x : Int, (fun k => (a_up u_35 175 4 0) 180 (x + k)) = (fun k => I 180 (x + k)) := fun x => funext (fun k => kz 180 _ (by omega))
          have f0 : ∀ a : Nat, a = 181 ∨ a = 182 → (fun k => (a_up u_35 175 4 0) a (0 + k)) = (fun k => I a (0 + k)) := fun a ha => funext (fun k => kz a _ (by omega))
          refine ax_Vr (st := []) (as := [vr 180, vi 64, vi (-1)]) (b := 175) d_Mo_dsaSign_117 cs_Mo_dsaSign_117 (k_175 S) (c_Mo_digestMessageN (f := 180) (pa := 64) S D1.1 rb1 ⟨k_180 S, by decide, by decide⟩ (by rw [n_180 S]; decide)) rfl rfl rfl (fun u_117 q_117 => ?_)
          obtain ⟨I1, L1⟩ := u_117
          obtain ⟨F1, h1⟩ := q_117
          dsimp only at F1 h1
          rw [k3, f180 64, f0 181 (Or.inl rfl), k4, f0 182 (Or.inr rfl)] at h1
          have h1 : HR I1 265 0 64 (muR I (fun k => I 180 (64 + k)) (-1 : Int)) := h1
          have RS1 := D1.1.fr F1 (by decide)
          show AW l G M_Mo_dsaSign P 120 [(0, vr 175), (1, vi 1), (2, vi (-1))] [] (sD h I1 L1)
          refine aw_aload_n d_Mo_dsaSign_120 rfl rfl ?_
          refine aw_bipush d_Mo_dsaSign_121 ⟨by decide, by decide⟩ (by decide) ?_
          refine ax_Vr (st := []) (as := [vi 12]) (b := 175) d_Mo_dsaSign_123 cs_Mo_dsaSign_123 (k_175 S) (c_Mo_begin12 S) rfl rfl rfl (fun u_123 q_123 => ?_)
          obtain ⟨I2, L2⟩ := u_123
          obtain ⟨F2, e2, k2⟩ := q_123
          dsimp only at F2 e2 k2
          show AW l G M_Mo_dsaSign P 126 [(0, vr 175), (1, vi 1), (2, vi (-1))] [] (sD h I2 L2)
          refine aw_aload_n d_Mo_dsaSign_126 rfl rfl ?_
          refine aw_aload_n d_Mo_dsaSign_127 rfl rfl ?_
          refine ax_getR (b := 177) d_Mo_dsaSign_128 fd_Mo_15 (k_175 S) (r_175_1 S) ?_
          refine aw_iconst d_Mo_dsaSign_131 ⟨by decide, by decide⟩ ?_
          refine ax_aald (b := 180) d_Mo_dsaSign_132 ⟨by rw [(k_177 S)]; decide, by rw [(k_177 S)]; decide⟩ (by omega) (by rw [n_177 S]; omega) (g_177 S (j := 2) (by decide) (by decide)) ?_
          refine aw_bipush d_Mo_dsaSign_133 ⟨by decide, by decide⟩ (by decide) ?_
          refine aw_bipush d_Mo_dsaSign_135 ⟨by decide, by decide⟩ (by decide) ?_
          refine ax_Vr (st := []) (as := [vr 180, vi 32, vi 32]) (b := 175) d_Mo_dsaSign_137 cs_Mo_dsaSign_137 (k_175 S) (c_Mo_put3 S (RS1.rf F2) (by omega) (by rw [e2]; exact spStart_lt (by decide) (by decide)) ⟨k_180 S, by decide, by decide⟩ (by rw [n_180 S]; decide)) rfl rfl rfl (fun u_137 q_137 => ?_)
          obtain ⟨I3, L3⟩ := u_137
          obtain ⟨F3, e3, k3⟩ := q_137
          dsimp only at F3 e3 k3
          show AW l G M_Mo_dsaSign P 140 [(0, vr 175), (1, vi 1), (2, vi (-1))] [] (sD h I3 L3)
          refine aw_iconst d_Mo_dsaSign_140 ⟨by decide, by decide⟩ ?_
          refine aw_istore_n (lv' := [(3, vi 0), (0, vr 175), (1, vi 1), (2, vi (-1))]) d_Mo_dsaSign_141 rfl (by decide) rfl ?_
          have lp_142 : ∀ (n_ : Nat) (i : Int) (K4 : Nat → Int → Int) (M4 : Nat → Int → Int), (0 ≤ i ∧ i ≤ 32) → (RF I3 L3 K4 M4) → (spR K4 M4 = spPart (spR I3 L3) (rnR I) i.toNat) → (K4 175 18 = 12) → ((32 - i).toNat) = n_ → AW l G M_Mo_dsaSign P 142 [(3, vi i), (2, vi (-1)), (1, vi 1), (0, vr 175)] [] (sD h K4 M4) := by
            intro n_
            induction n_ using Nat.strongRecOn with
            | _ n_ ih_142 =>
            intro i K4 M4 hi F4 e4 k4_ hm_142
            refine aw_iload_n d_Mo_dsaSign_142 rfl rfl ?_
            refine aw_bipush d_Mo_dsaSign_143 ⟨by decide, by decide⟩ (by decide) ?_
            refine aw_icmp_ge (tgt := 179) d_Mo_dsaSign_145 (by decide) (fun c_145 => ?_) (fun c_145 => ?_)
            · skip
              refine aw_aload_n d_Mo_dsaSign_179 rfl rfl ?_
              refine aw_aload_n d_Mo_dsaSign_180 rfl rfl ?_
              refine ax_getR (b := 265) d_Mo_dsaSign_181 fd_Mo_93 (k_175 S) (r_175_41 S) ?_
              refine aw_iconst d_Mo_dsaSign_184 ⟨by decide, by decide⟩ ?_
              refine aw_bipush d_Mo_dsaSign_185 ⟨by decide, by decide⟩ (by decide) ?_
              refine ax_Vr (st := []) (as := [vr 265, vi 0, vi 64]) (b := 175) d_Mo_dsaSign_187 cs_Mo_dsaSign_187 (k_175 S) (c_Mo_put3 S ((RS1.rf F2).rf (F3.tr F4)) (by omega) (by rw [e4, e3, e2]; exact spPart_lt (spPart_lt (spStart_lt (by decide) (by decide)) _ _) _ _) ⟨k_265 S, by decide, by decide⟩ (by rw [n_265 S]; decide)) rfl rfl rfl (fun u_187 q_187 => ?_)
              obtain ⟨I6, L6⟩ := u_187
              obtain ⟨F6, e6, k6⟩ := q_187
              dsimp only at F6 e6 k6
              have G6 := (F2.tr (F3.tr F4)).tr F6
              have eS : spTurn (spR I6 L6) = rhS (fun k => I 180 (32 + k)) (rnR I) (muR I (fun k => I 180 (64 + k)) (-1 : Int)) := by rw [e6, e4, e3, e2, show i.toNat = 32 by omega, show Int.toNat 32 = 32 from rfl, show Int.toNat 64 = 64 from rfl, show (fun k => I2 180 (32 + k)) = (fun k => I 180 (32 + k)) from funext (fun z => (F2.1 180 _ (Or.inl (by decide))).trans ((F1.1 180 _ (by decide) (Or.inl (by decide))).trans (kz 180 _ (by omega)))), spPart_congr (f := fun k => K4 265 (0 + k)) (g := (muR I (fun k => I 180 (64 + k)) (-1 : Int))) (fun k hk => by rw [(F2.tr (F3.tr F4)).1 265 _ (Or.inl (by decide)), h1 k (by omega) (by omega)]; exact (spOut_m _ _).symm)]; rfl
              show AW l G M_Mo_dsaSign P 190 [(3, vi i), (2, vi (-1)), (1, vi 1), (0, vr 175)] [] (sD h I6 L6)
              refine aw_aload_n d_Mo_dsaSign_190 rfl rfl ?_
              refine aw_aload_n d_Mo_dsaSign_191 rfl rfl ?_
              refine ax_getR (b := 266) d_Mo_dsaSign_192 fd_Mo_96 (k_175 S) (r_175_42 S) ?_
              refine aw_iconst d_Mo_dsaSign_195 ⟨by decide, by decide⟩ ?_
              refine aw_bipush d_Mo_dsaSign_196 ⟨by decide, by decide⟩ (by decide) ?_
              refine ax_Vr (st := []) (as := [vr 266, vi 0, vi 64]) (b := 175) d_Mo_dsaSign_198 cs_Mo_dsaSign_198 (k_175 S) (c_Mo_give S (RS1.rf G6) (by omega) (by rw [e6, e4, e3, e2]; exact (spPart_lt (spPart_lt (spPart_lt (spStart_lt (by decide) (by decide)) _ _) _ _) _ _).1) ⟨k_266 S, by decide, by decide, by decide⟩ (by rw [n_266 S]; decide)) rfl rfl rfl (fun u_198 q_198 => ?_)
              obtain ⟨I7, L7⟩ := u_198
              obtain ⟨F7, f7, e7, k7⟩ := q_198
              dsimp only at F7 f7 e7 k7
              rw [eS] at F7
              have h7 : HR I7 266 0 64 (rhR I (-1 : Int)) := HR.give F7 (by decide)
              have G7 : FR (fun a => a = 265 ∨ a = 266) (a_up u_35 175 4 0) L I7 L7 := (F1.tr (G6.fr (p := fun a => a = 265)) (fun a x => ⟨x, x⟩)).tr (FR.give (p := fun a => a = 266) F7 f7 rfl) (by intro a x; omega)
              have D7 := D1.fr G7 (by decide)
              have m7 : HR I7 265 0 64 (muR I (fun k => I 180 (64 + k)) (-1 : Int)) := (h1.fr (G6.fr (p := fun _ => False)) (fun z => z) (by decide)).fr (FR.give (p := fun a => a = 266) F7 f7 rfl) (by decide) (by decide)
              show AW l G M_Mo_dsaSign P 201 [(3, vi i), (2, vi (-1)), (1, vi 1), (0, vr 175)] [] (sD h I7 L7)
              refine aw_aload_n d_Mo_dsaSign_201 rfl rfl ?_
              refine ax_getIe (x := 4) d_Mo_dsaSign_202 fd_Mo_229 (k_175 S) (dr1_33 D7) ?_
              refine aw_iconst d_Mo_dsaSign_205 ⟨by decide, by decide⟩ ?_
              refine aw_icmp_ne (tgt := 213) d_Mo_dsaSign_206 (by decide) (fun c_206 => ?_) (fun c_206 => False.elim (by omega))
              refine aw_iconst d_Mo_dsaSign_213 ⟨by decide, by decide⟩ ?_
              refine aw_istore_n (lv' := [(3, vi 4), (2, vi (-1)), (1, vi 1), (0, vr 175)]) d_Mo_dsaSign_214 rfl (by decide) rfl ?_
              refine aw_aload_n d_Mo_dsaSign_215 rfl rfl ?_
              refine aw_iconst d_Mo_dsaSign_216 ⟨by decide, by decide⟩ ?_
              refine ax_putI d_Mo_dsaSign_217 fd_Mo_216 (k_175 S) (by decide) rfl ?_
              refine aw_iconst d_Mo_dsaSign_220 ⟨by decide, by decide⟩ ?_
              refine aw_istore (lv' := [(4, vi 0), (3, vi 4), (2, vi (-1)), (1, vi 1), (0, vr 175)]) d_Mo_dsaSign_221 (by decide) rfl ?_
              have lp_223 : ∀ (n_ : Nat) (i : Int) (K5 : Nat → Int → Int), (0 ≤ i ∧ i ≤ 11) → (FR (fun a => 205 ≤ a ∧ a ≤ 219) I7 L7 K5 L7) → (K5 175 23 = 8 * (128 * i)) → (∀ m, 0 ≤ m → m < i → eqQ (K5 (205 + m.toNat)) (sgSs 1 (rkR I) m)) → ((11 - i).toNat) = n_ → AW l G M_Mo_dsaSign P 223 [(4, vi i), (3, vi 4), (2, vi (-1)), (1, vi 1), (0, vr 175)] [] (sD h K5 L7) := by
                intro n_
                induction n_ using Nat.strongRecOn with
                | _ n_ ih_223 =>
                intro i K5 hi5 G5 b5 s5 hm_223
                have sk5 : ∀ x, K5 180 x = I 180 x := fun x => (G5.1 _ _ (by decide) (Or.inl (by decide))).trans ((G7.1 _ _ (by decide) (Or.inl (by decide))).trans (kz 180 x (by omega)))
                refine aw_iload d_Mo_dsaSign_223 rfl ?_
                refine aw_aload_n d_Mo_dsaSign_225 rfl rfl ?_
                refine ax_getIe (x := 5) d_Mo_dsaSign_226 fd_Mo_226 (k_175 S) (Eq.trans (G5.1 175 32 (by omega) (Or.inr (by decide))) (dr1_32 D7)) ?_
                refine aw_aload_n d_Mo_dsaSign_229 rfl rfl ?_
                refine ax_getIe (x := 6) d_Mo_dsaSign_230 fd_Mo_223 (k_175 S) (Eq.trans (G5.1 175 26 (by omega) (Or.inr (by decide))) (dr1_26 D7)) ?_
                refine ax_iadd d_Mo_dsaSign_233 ⟨(by omega), (by omega)⟩ ?_
                refine ax_ti (x := 11) (by decide) ?_
                refine aw_icmp_ge (tgt := 268) d_Mo_dsaSign_234 (by decide) (fun c_234 => ?_) (fun c_234 => ?_)
                · skip
                  refine aw_iconst d_Mo_dsaSign_268 ⟨by decide, by decide⟩ ?_
                  refine aw_istore (lv' := [(4, vi 0), (3, vi 4), (2, vi (-1)), (1, vi 1), (0, vr 175)]) d_Mo_dsaSign_269 (by decide) rfl ?_
                  have lp_271 : ∀ (n_ : Nat) (i : Int) (K6 : Nat → Int → Int), (0 ≤ i ∧ i ≤ 6) → (FR (fun a => 205 ≤ a ∧ a ≤ 227) I7 L7 K6 L7) → (K6 175 23 = 8 * (1408 + 416 * i)) → (∀ m, 0 ≤ m → m < 11 → eqQ (K6 (205 + m.toNat)) (sgSs 1 (rkR I) m)) → (∀ m, 0 ≤ m → m < i → eqQ (K6 (205 + (15 + m).toNat)) (sgDs 1 (rkR I) m)) → ((6 - i).toNat) = n_ → AW l G M_Mo_dsaSign P 271 [(4, vi i), (2, vi (-1)), (1, vi 1), (0, vr 175)] [] (sD h K6 L7) := by
                    intro n_
                    induction n_ using Nat.strongRecOn with
                    | _ n_ ih_271 =>
                    intro i K6 hi6 Gy b6 s6 t6 hm_271
                    have sk6 : ∀ x, K6 180 x = I 180 x := fun x => (Gy.1 _ _ (by decide) (Or.inl (by decide))).trans ((G7.1 _ _ (by decide) (Or.inl (by decide))).trans (kz 180 x (by omega)))
                    refine aw_iload d_Mo_dsaSign_271 rfl ?_
                    refine aw_aload_n d_Mo_dsaSign_273 rfl rfl ?_
                    refine ax_getIe (x := 6) d_Mo_dsaSign_274 fd_Mo_223 (k_175 S) (Eq.trans (Gy.1 175 26 (by omega) (Or.inr (by decide))) (dr1_26 D7)) ?_
                    refine aw_icmp_ge (tgt := 314) d_Mo_dsaSign_277 (by decide) (fun c_277 => ?_) (fun c_277 => ?_)
                    · skip
                      refine aw_sub (lv' := [(0, vr 175)]) (by simp) ?_
                      exact sB1N S (fR0.fr (fR0.fr R1 G7 (r := qN) (by intro a x y; exact ⟨fun z => z, by omega⟩) (by decide)) Gy (by intro a x y; exact ⟨fun z => z, by omega⟩) (by decide)) (D7.fr Gy (by decide)) (m7.fr Gy (by decide) (by decide)) (h7.fr Gy (by decide) (by decide)) s6 (fun m a b => t6 m a (by omega)) ⟨bb, by omega⟩ (by show I 186 2 = 4032; omega) hP
                    · skip
                      refine aw_aload_n d_Mo_dsaSign_280 rfl rfl ?_
                      refine aw_aload_n d_Mo_dsaSign_281 rfl rfl ?_
                      refine ax_getR (b := 177) d_Mo_dsaSign_282 fd_Mo_15 (k_175 S) (r_175_1 S) ?_
                      refine aw_iconst d_Mo_dsaSign_285 ⟨by decide, by decide⟩ ?_
                      refine ax_aald (b := 180) d_Mo_dsaSign_286 ⟨by rw [(k_177 S)]; decide, by rw [(k_177 S)]; decide⟩ (by omega) (by rw [n_177 S]; omega) (g_177 S (j := 2) (by decide) (by decide)) ?_
                      refine aw_sipush d_Mo_dsaSign_287 ⟨by decide, by decide⟩ (by decide) ?_
                      refine aw_aload_n d_Mo_dsaSign_290 rfl rfl ?_
                      refine ax_getR (b := 204) d_Mo_dsaSign_291 fd_Mo_76 (k_175 S) (r_175_28 S) ?_
                      refine aw_bipush d_Mo_dsaSign_294 ⟨by decide, by decide⟩ (by decide) ?_
                      refine aw_iload d_Mo_dsaSign_296 rfl ?_
                      refine ax_iadd d_Mo_dsaSign_298 ⟨(by omega), (by omega)⟩ ?_
                      refine ax_aald (b := 205 + (15 + i).toNat) d_Mo_dsaSign_299 ⟨by rw [(k_204 S)]; decide, by rw [(k_204 S)]; decide⟩ (by omega) (by rw [n_204 S]; omega) (g_204 S (by omega) (by omega)) ?_
                      refine aw_sipush d_Mo_dsaSign_300 ⟨by decide, by decide⟩ (by decide) ?_
                      refine aw_bipush d_Mo_dsaSign_303 ⟨by decide, by decide⟩ (by decide) ?_
                      refine ax_Vr (st := []) (as := [vr 180, vi 128, vr (205 + (15 + i).toNat), vi 4096, vi 13]) (b := 175) d_Mo_dsaSign_305 cs_Mo_dsaSign_305 (k_175 S) (c_Mo_unpack (pa := 128) (c := 1408 + 416 * i) (d := 13) (b := 4096) S ⟨k_180 S, by decide, by decide⟩ ⟨kr_204 S (by omega), by omega, nr_204 S (by omega)⟩ (by omega) (by decide) (by omega) (by decide) (by rw [n_180 S]; omega)) rfl rfl rfl (fun u_305 q_305 => ?_)
                      obtain ⟨q1, q2, q3⟩ := q_305
                      have Fy : FR (fun a => 220 ≤ a ∧ a ≤ 227) K6 L7 u_305 L7 := FR.unp q1 (by omega)
                      show AW l G M_Mo_dsaSign P 308 [(4, vi i), (2, vi (-1)), (1, vi 1), (0, vr 175)] [] (sD h u_305 L7)
                      refine ax_iinc (lv' := [(4, vi (i + 1)), (2, vi (-1)), (1, vi 1), (0, vr 175)]) d_Mo_dsaSign_308 rfl (by decide) ⟨(by omega), (by omega)⟩ rfl ?_
                      refine aw_goto (tgt := 271) d_Mo_dsaSign_311 (by decide) ?_
                      exact ih_271 _ (by omega) (i + 1) u_305 (by omega) (Gy.tr (Fy.mono (r := fun a => 205 ≤ a ∧ a ≤ 227) (by intro a x; omega)) (fun a x => ⟨x, x⟩)) (by omega) (fun m a b x u v => by rw [q1 _ _ (by omega) (Or.inl (by omega))]; exact s6 m a b x u v) (fun m a b x u v => by by_cases z : m = i; exact (by rw [z, q3 x u v, show (fun j => K6 180 (128 + (1408 + 416 * i) + j) % 256) = (fun j => I 180 (1536 + 416 * i + j) % 256) from funext (fun y => by rw [sk6, show (128 + (1408 + 416 * i) : Int) = 1536 + 416 * i by omega])]; show _ = 4096 - gR (fun k => rkR I (1536 + 416 * i + k)) 13 x; rw [gR_congr (g := fun j => I 180 (1536 + 416 * i + j) % 256) (g' := fun k => rkR I (1536 + 416 * i + k)) (fun y y0 y1 => (gW_in (s := 2) (by omega) (by rw [show I 186 2 = 4032 by omega]; omega)).symm)]); exact (by rw [q1 _ _ (by omega) (Or.inl (by omega))]; exact t6 m a (by omega) x u v)) rfl
                  skip
                  refine aw_sub (lv' := [(4, vi 0), (2, vi (-1)), (1, vi 1), (0, vr 175)]) (by simp) ?_
                  exact lp_271 _ 0 K5 (by omega) (G5.mono (by intro a x; omega)) (by omega) (fun m a b => s5 m a (by omega)) (fun m a b => by omega) rfl
                · skip
                  refine aw_aload_n d_Mo_dsaSign_237 rfl rfl ?_
                  refine aw_aload_n d_Mo_dsaSign_238 rfl rfl ?_
                  refine ax_getR (b := 177) d_Mo_dsaSign_239 fd_Mo_15 (k_175 S) (r_175_1 S) ?_
                  refine aw_iconst d_Mo_dsaSign_242 ⟨by decide, by decide⟩ ?_
                  refine ax_aald (b := 180) d_Mo_dsaSign_243 ⟨by rw [(k_177 S)]; decide, by rw [(k_177 S)]; decide⟩ (by omega) (by rw [n_177 S]; omega) (g_177 S (j := 2) (by decide) (by decide)) ?_
                  refine aw_sipush d_Mo_dsaSign_244 ⟨by decide, by decide⟩ (by decide) ?_
                  refine aw_aload_n d_Mo_dsaSign_247 rfl rfl ?_
                  refine ax_getR (b := 204) d_Mo_dsaSign_248 fd_Mo_76 (k_175 S) (r_175_28 S) ?_
                  refine aw_iload d_Mo_dsaSign_251 rfl ?_
                  refine ax_aald (b := 205 + i.toNat) d_Mo_dsaSign_253 ⟨by rw [(k_204 S)]; decide, by rw [(k_204 S)]; decide⟩ (by omega) (by rw [n_204 S]; omega) (g_204 S (by omega) (by omega)) ?_
                  refine aw_aload_n d_Mo_dsaSign_254 rfl rfl ?_
                  refine ax_getIe (x := 4) d_Mo_dsaSign_255 fd_Mo_229 (k_175 S) (Eq.trans (G5.1 175 33 (by omega) (Or.inr (by decide))) (dr1_33 D7)) ?_
                  refine aw_iload_n d_Mo_dsaSign_258 rfl rfl ?_
                  refine ax_Vr (st := []) (as := [vr 180, vi 128, vr (205 + i.toNat), vi 4, vi 4]) (b := 175) d_Mo_dsaSign_259 cs_Mo_dsaSign_259 (k_175 S) (c_Mo_unpack (pa := 128) (c := 128 * i) (d := 4) (b := 4) S ⟨k_180 S, by decide, by decide⟩ ⟨kr_204 S (by omega), by omega, nr_204 S (by omega)⟩ (by omega) (by decide) (by omega) (by decide) (by rw [n_180 S]; omega)) rfl rfl rfl (fun u_259 q_259 => ?_)
                  obtain ⟨q1, q2, q3⟩ := q_259
                  have Fx : FR (fun a => 205 ≤ a ∧ a ≤ 219) K5 L7 u_259 L7 := FR.unp q1 (by omega)
                  show AW l G M_Mo_dsaSign P 262 [(4, vi i), (3, vi 4), (2, vi (-1)), (1, vi 1), (0, vr 175)] [] (sD h u_259 L7)
                  refine ax_iinc (lv' := [(4, vi (i + 1)), (3, vi 4), (2, vi (-1)), (1, vi 1), (0, vr 175)]) d_Mo_dsaSign_262 rfl (by decide) ⟨(by omega), (by omega)⟩ rfl ?_
                  refine aw_goto (tgt := 223) d_Mo_dsaSign_265 (by decide) ?_
                  exact ih_223 _ (by omega) (i + 1) u_259 (by omega) (G5.tr Fx (fun a x => ⟨x, x⟩)) (by omega) (fun m a b x u v => by by_cases z : m = i; exact (by rw [z, q3 x u v, show (fun j => K5 180 (128 + 128 * i + j) % 256) = (fun j => I 180 (128 + 128 * i + j) % 256) from funext (fun y => by rw [sk5])]; show _ = 4 - gR (fun k => rkR I (128 + 128 * i + k)) 4 x; rw [gR_congr (g := fun j => I 180 (128 + 128 * i + j) % 256) (g' := fun k => rkR I (128 + 128 * i + k)) (fun y y0 y1 => (gW_in (s := 2) (by omega) (by rw [show I 186 2 = 4032 by omega]; omega)).symm)]); exact (by rw [q1 _ _ (by omega) (Or.inl (by omega))]; exact s5 m a (by omega) x u v)) rfl
              skip
              exact lp_223 _ 0 (a_up I7 175 23 0) (by omega) (FR.b0) (a_up_at.trans (by decide)) (fun m a b => by omega) rfl
            · skip
              refine aw_aload_n d_Mo_dsaSign_148 rfl rfl ?_
              refine aw_aload_n d_Mo_dsaSign_149 rfl rfl ?_
              refine ax_getR (b := 186) d_Mo_dsaSign_150 fd_Mo_18 (k_175 S) (r_175_2 S) ?_
              refine aw_iconst d_Mo_dsaSign_153 ⟨by decide, by decide⟩ ?_
              refine ax_ialde (x := I 186 0) d_Mo_dsaSign_154 (k_186 S) (by omega) (by rw [n_186 S]; omega) (Eq.trans ((F2.tr (F3.tr F4)).1 186 0 (Or.inl (by decide))) (Eq.trans (F1.1 186 0 (by decide) (Or.inl (by decide))) (Eq.trans (kz 186 0 (by omega)) (rfl)))) ?_
              refine aw_if_ne (tgt := 162) d_Mo_dsaSign_155 (by decide) (fun c_155 => ?_) (fun c_155 => ?_)
              · skip
                refine aw_aload_n d_Mo_dsaSign_162 rfl rfl ?_
                refine ax_getR (b := 177) d_Mo_dsaSign_163 fd_Mo_15 (k_175 S) (r_175_1 S) ?_
                refine aw_iconst d_Mo_dsaSign_166 ⟨by decide, by decide⟩ ?_
                refine ax_aald (b := 178) d_Mo_dsaSign_167 ⟨by rw [(k_177 S)]; decide, by rw [(k_177 S)]; decide⟩ (by omega) (by rw [n_177 S]; omega) (g_177 S (j := 0) (by decide) (by decide)) ?_
                refine aw_iload_n d_Mo_dsaSign_168 rfl rfl ?_
                refine ax_balde (x := I 178 i) d_Mo_dsaSign_169 (k_178 S) (by omega) (by rw [n_178 S]; omega) (Eq.trans ((F2.tr (F3.tr F4)).1 178 i (Or.inl (by decide))) (Eq.trans (F1.1 178 i (by decide) (Or.inl (by decide))) (Eq.trans (kz 178 i (by omega)) (rfl)))) ?_
                have vv : rnR I i = I 178 i := by unfold rnR; rw [if_neg (by omega)]
                refine ax_Vr (st := []) (as := [vi (I 178 i)]) (b := 175) d_Mo_dsaSign_170 cs_Mo_dsaSign_170 (k_175 S) (c_Mo_put1 S ((RS1.rf F2).rf (F3.tr F4)) (by omega) (by rw [e4, e3, e2]; exact spPart_lt (spPart_lt (spStart_lt (by decide) (by decide)) _ _) _ _)) rfl rfl rfl (fun u_170 q_170 => ?_)
                obtain ⟨I5, L5⟩ := u_170
                obtain ⟨F5, e5, k5⟩ := q_170
                dsimp only at F5 e5 k5
                show AW l G M_Mo_dsaSign P 173 [(3, vi i), (2, vi (-1)), (1, vi 1), (0, vr 175)] [] (sD h I5 L5)
                refine ax_iinc (lv' := [(3, vi (i + 1)), (2, vi (-1)), (1, vi 1), (0, vr 175)]) d_Mo_dsaSign_173 rfl (by decide) ⟨(by omega), (by omega)⟩ rfl ?_
                refine aw_goto (tgt := 142) d_Mo_dsaSign_176 (by decide) ?_
                exact ih_142 _ (by omega) (i + 1) I5 L5 (by omega) (F4.tr F5) (by rw [e5, e4, show (i + 1).toNat = i.toNat + 1 by omega]; show _ = spTake (spPart (spR I3 L3) (rnR I) i.toNat) (rnR I (i.toNat : Int)); rw [Int.toNat_of_nonneg hi.1, vv]) (by omega) rfl
              · skip
                refine aw_iconst d_Mo_dsaSign_158 ⟨by decide, by decide⟩ ?_
                refine aw_goto (tgt := 170) d_Mo_dsaSign_159 (by decide) ?_
                have vv : rnR I i = 0 := by unfold rnR; rw [if_pos (by omega)]
                refine ax_Vr (st := []) (as := [vi 0]) (b := 175) d_Mo_dsaSign_170 cs_Mo_dsaSign_170 (k_175 S) (c_Mo_put1 S ((RS1.rf F2).rf (F3.tr F4)) (by omega) (by rw [e4, e3, e2]; exact spPart_lt (spPart_lt (spStart_lt (by decide) (by decide)) _ _) _ _)) rfl rfl rfl (fun u_170 q_170 => ?_)
                obtain ⟨I5, L5⟩ := u_170
                obtain ⟨F5, e5, k5⟩ := q_170
                dsimp only at F5 e5 k5
                show AW l G M_Mo_dsaSign P 173 [(3, vi i), (2, vi (-1)), (1, vi 1), (0, vr 175)] [] (sD h I5 L5)
                refine ax_iinc (lv' := [(3, vi (i + 1)), (2, vi (-1)), (1, vi 1), (0, vr 175)]) d_Mo_dsaSign_173 rfl (by decide) ⟨(by omega), (by omega)⟩ rfl ?_
                refine aw_goto (tgt := 142) d_Mo_dsaSign_176 (by decide) ?_
                exact ih_142 _ (by omega) (i + 1) I5 L5 (by omega) (F4.tr F5) (by rw [e5, e4, show (i + 1).toNat = i.toNat + 1 by omega]; show _ = spTake (spPart (spR I3 L3) (rnR I) i.toNat) (rnR I (i.toNat : Int)); rw [Int.toNat_of_nonneg hi.1, vv]) (by omega) rfl
          skip
          refine aw_sub (lv' := [(3, vi 0), (2, vi (-1)), (1, vi 1), (0, vr 175)]) (by simp) ?_
          exact lp_142 _ 0 I3 L3 (by omega) (RF.rfl') (rfl) (by omega) rfl
  · skip
    refine ax_V (st := [vr 175]) (as := [vi (-1)]) (b := 175) (v := some (vi 0)) (h' := sD h u_35 L) d_Mo_dsaSign_41 cs_Mo_dsaSign_41 (k_175 S) (by have z := c_Mo_context (l := l) (G := G) (h := h) (L := L) (I := u_35) (x := -1) S; rw [if_neg cx_] at z; exact z) rfl rfl rfl ?_
    show AW l G M_Mo_dsaSign P 44 [(0, vr 175), (1, vi 1), (2, vi (-1))] [vi 0, vr 175] (sD h u_35 L)
    refine aw_if_eq (tgt := 71) d_Mo_dsaSign_44 (by decide) (fun c_44 => ?_) (fun c_44 => False.elim (by omega))
    refine aw_iconst d_Mo_dsaSign_71 ⟨by decide, by decide⟩ ?_
    refine aw_iconst d_Mo_dsaSign_72 ⟨by decide, by decide⟩ ?_
    refine ax_V (st := []) (as := [vi 0, vi 2]) (b := 175) (v := some (vi 0)) (h' := sD h (a_up u_35 175 4 2) L) d_Mo_dsaSign_73 cs_Mo_dsaSign_73 (k_175 S) (c_good0 S (rfl)) rfl rfl rfl ?_
    show AW l G M_Mo_dsaSign P 76 [(0, vr 175), (1, vi 1), (2, vi (-1))] [vi 0] (sD h (a_up u_35 175 4 2) L)
    refine aw_if_eq (tgt := 105) d_Mo_dsaSign_76 (by decide) (fun c_76 => ?_) (fun c_76 => False.elim (by omega))
    refine aw_iconst d_Mo_dsaSign_105 ⟨by decide, by decide⟩ ?_
    exact aw_iret d_Mo_dsaSign_106 rfl (hP _ _ (rsNo 0 2 (c4_2 ⟨by decide, by decide⟩ (fun z => by rw [e0 186 4 (by omega)] at cx_; have z1 := z.1; have z2 := z.2; omega)) (by decide) a_up_at (fR0.fr R00 (FR.c0 (p := fun _ => False)) (by intro a x y; exact ⟨fun z => z, fun z => z⟩) (fun z => z))))
set_option maxHeartbeats 2000000 in
set_option maxRecDepth 100000 in
theorem sB20 {l : Launch} {G : a_G} {P : a_R → Hp → Prop} {h : Hp} {I L K M : Nat → Int → Int} (S : Shp h) (R0 : fR0 qN I L K M) (D : RD K M 2) (hm : HR K 265 0 64 (muR I (fun k => I 180 (64 + k)) (0 : Int))) (hr : HR K 266 0 64 (rhR I (0 : Int))) (hSs : ∀ m, 0 ≤ m → m < 15 → eqQ (K (205 + m.toNat)) (sgSs 2 (rkR I) m)) (hDs : ∀ m, 0 ≤ m → m < 8 → eqQ (K (205 + (15 + m).toNat)) (sgDs 2 (rkR I) m)) (b1 : ((0 : Int) ≠ 0 ∨ I 186 4 ≤ 255) ∧ (I 186 0 = 32 ∨ I 186 0 = 0)) (b2 : I 186 2 = sSec 2) (hP : ∀ r_ h2_, RsR h I L (c4 ((0 ≤ (2 : Int) ∧ (2 : Int) < 3) ∧ ((0 : Int) = 0 ∨ (0 : Int) = -1)) (((0 : Int) ≠ 0 ∨ I 186 4 ≤ 255) ∧ (I 186 0 = 32 ∨ I 186 0 = 0)) (I 186 2 = sSec (2 : Int)) (sgOk (2 : Int) (rkR I) ∧ sgRun (2 : Int) (rkR I) (rhR I (0 : Int)) (muR I (fun k => I 180 (64 + k)) (0 : Int)) 814 0 ≠ none)) (fun a => a = 183 ∨ a = 186) (fun v I' _ => ∃ t, sgRun (2 : Int) (rkR I) (rhR I (0 : Int)) (muR I (fun k => I 180 (64 + k)) (0 : Int)) 814 0 = some t ∧ v = t + 1 ∧ ((∀ j, j ≠ 5 → I' 186 j = I 186 j) ∧ I' 186 5 = sPkt (2 : Int)) ∧ HR I' 183 0 (sPkt (2 : Int)) (sgPk (2 : Int) (rkR I) (rhR I (0 : Int)) (muR I (fun k => I 180 (64 + k)) (0 : Int)) t) ∧ rng (I 183) (I' 183)) r_ h2_ → P r_ h2_) : AW l G M_Mo_dsaSign P 314 [(0, vr 175)] [] (sD h K M) := by
  have hk : HR K 180 0 4896 (rkR I) := fun z x y => by rw [R0.1 180 _ (by omega) (fun z => z), Int.zero_add]; exact (gW_in (s := 2) x (by rw [show I 186 2 = 4896 from b2]; exact y)).symm
  refine aw_iconst d_Mo_dsaSign_314 ⟨by decide, by decide⟩ ?_
  refine aw_istore (lv' := [(4, vi 0), (0, vr 175)]) d_Mo_dsaSign_315 (by decide) rfl ?_
  have lp_317 : ∀ (n_ : Nat) (t : Int) (K2 : Nat → Int → Int) (M2 : Nat → Int → Int), (0 ≤ t ∧ t ≤ 814) → (FR pAt K M K2 M2) → (sgRun 2 (rkR I) (rhR I (0 : Int)) (muR I (fun k => I 180 (64 + k)) (0 : Int)) 814 0 = sgRun 2 (rkR I) (rhR I (0 : Int)) (muR I (fun k => I 180 (64 + k)) (0 : Int)) (814 - t).toNat t) → ((814 - t).toNat) = n_ → AW l G M_Mo_dsaSign P 317 [(4, vi t), (0, vr 175)] [] (sD h K2 M2) := by
    intro n_
    induction n_ using Nat.strongRecOn with
    | _ n_ ih_317 =>
    intro t K2 M2 ht F run hm_317
    refine aw_iload d_Mo_dsaSign_317 rfl ?_
    refine aw_sipush d_Mo_dsaSign_319 ⟨by decide, by decide⟩ (by decide) ?_
    refine aw_icmp_ge (tgt := 429) d_Mo_dsaSign_322 (by decide) (fun c_322 => ?_) (fun c_322 => ?_)
    · skip
      refine aw_aload_n d_Mo_dsaSign_429 rfl rfl ?_
      refine aw_iconst d_Mo_dsaSign_430 ⟨by decide, by decide⟩ ?_
      refine aw_iconst d_Mo_dsaSign_431 ⟨by decide, by decide⟩ ?_
      refine ax_V (st := []) (as := [vi 0, vi 4]) (b := 175) (v := some (vi 0)) (h' := sD h (a_up K2 175 4 4) M2) d_Mo_dsaSign_432 cs_Mo_dsaSign_432 (k_175 S) (c_good0 S rfl) rfl rfl rfl ?_
      show AW l G M_Mo_dsaSign P 435 [(4, vi t), (0, vr 175)] [vi 0] (sD h (a_up K2 175 4 4) M2)
      refine aw_pop d_Mo_dsaSign_435 rfl ?_
      refine aw_iconst d_Mo_dsaSign_436 ⟨by decide, by decide⟩ ?_
      exact aw_iret d_Mo_dsaSign_437 rfl (hP _ _ (rsNo 0 4 (c4_4 ⟨by decide, by decide⟩ b1 b2 (fun z => z.2 (by rw [run, show (814 - t).toNat = 0 by omega]; rfl))) (by decide) a_up_at (fR0.fr (fR0.fr R0 F (r := qN) (by intro a x y; exact ⟨fun z => z, by omega⟩) (by decide)) (FR.c0 (p := fun _ => False)) (by intro a x y; exact ⟨fun z => z, fun z => z⟩) (fun z => z))))
    · skip
      refine aw_aload_n d_Mo_dsaSign_325 rfl rfl ?_
      refine aw_iload d_Mo_dsaSign_326 rfl ?_
      refine aw_aload_n d_Mo_dsaSign_328 rfl rfl ?_
      refine ax_getIe (x := 7) d_Mo_dsaSign_329 fd_Mo_226 (k_175 S) (Eq.trans (F.1 175 32 (by omega) (Or.inr (by decide))) (dr2_32 D)) ?_
      refine ax_imul d_Mo_dsaSign_332 ⟨(by omega), (by omega)⟩ ?_
      refine ax_Vt (st := []) (as := [vi (t * 7)]) (b := 175) d_Mo_dsaSign_333 cs_Mo_dsaSign_333 (k_175 S) (c_Mo_attempt2 (t := t) (sk := (rkR I)) (rh := (rhR I (0 : Int))) (mu := (muR I (fun k => I 180 (64 + k)) (0 : Int))) S (D.fr F (by decide)) (hk.fr F (by decide) (by decide)) (fun x => gW_m _ _ _) (hr.fr F (by decide) (by decide)) (fun x => spOut_m _ _) (hm.fr F (by decide) (by decide)) (fun x => spOut_m _ _) (fun m a b j x y => by rw [F.1 _ _ (by omega) (Or.inl (by omega))]; exact hSs m a b j x y) (fun m a b j x y => by rw [F.1 _ _ (by omega) (Or.inl (by omega))]; exact hDs m a b j x y) (by omega) rfl) rfl rfl rfl (fun v_ h_ q_ => ?_) (fun x_ h_ q_ => ?_)
      · obtain ⟨v, I6, L6, q3, q4, F6, q6⟩ := q_
        cases q3; subst q4
        have F7 : FR pAt K M I6 L6 := F.tr F6 (fun a x => ⟨x, x⟩)
        have eN : (814 - t).toNat = (814 - (t + 1)).toNat + 1 := by omega
        show AW l G M_Mo_dsaSign P 336 [(4, vi t), (0, vr 175)] [vi v] (sD h I6 L6)
        refine aw_istore (lv' := [(5, vi v), (4, vi t), (0, vr 175)]) d_Mo_dsaSign_336 (by decide) rfl ?_
        refine aw_aload_n d_Mo_dsaSign_338 rfl rfl ?_
        refine aw_iload d_Mo_dsaSign_339 rfl ?_
        refine aw_if_lt (tgt := 348) d_Mo_dsaSign_341 (by decide) (fun c_341 => ?_) (fun c_341 => ?_)
        · skip
          refine aw_iconst d_Mo_dsaSign_348 ⟨by decide, by decide⟩ ?_
          refine aw_iconst d_Mo_dsaSign_349 ⟨by decide, by decide⟩ ?_
          refine ax_V (st := []) (as := [vi 0, vi 4]) (b := 175) (v := some (vi 0)) (h' := sD h (a_up I6 175 4 4) L6) d_Mo_dsaSign_350 cs_Mo_dsaSign_350 (k_175 S) (c_good0 S rfl) rfl rfl rfl ?_
          show AW l G M_Mo_dsaSign P 353 [(5, vi v), (4, vi t), (0, vr 175)] [vi 0] (sD h (a_up I6 175 4 4) L6)
          refine aw_if_ne (tgt := 358) d_Mo_dsaSign_353 (by decide) (fun c_353 => False.elim (by omega)) (fun c_353 => ?_)
          refine aw_iconst d_Mo_dsaSign_356 ⟨by decide, by decide⟩ ?_
          exact aw_iret d_Mo_dsaSign_357 rfl (hP _ _ (rsNo 0 4 (c4_4 ⟨by decide, by decide⟩ b1 b2 (fun z => by rcases q6 with y | y | y; exact (by have z2 := z.2; rw [run, eN] at z2; exact z2 (sgRun_x (Classical.byContradiction (fun x => y.2 ⟨z.1, x⟩)))); exact absurd y.1 (by omega); exact absurd y.1 (by omega))) (by decide) a_up_at (fR0.fr (fR0.fr R0 F7 (r := qN) (by intro a x y; exact ⟨fun z => z, by omega⟩) (by decide)) (FR.c0 (p := fun _ => False)) (by intro a x y; exact ⟨fun z => z, fun z => z⟩) (fun z => z))))
        · skip
          refine aw_iconst d_Mo_dsaSign_344 ⟨by decide, by decide⟩ ?_
          refine aw_goto (tgt := 349) d_Mo_dsaSign_345 (by decide) ?_
          refine aw_iconst d_Mo_dsaSign_349 ⟨by decide, by decide⟩ ?_
          refine ax_V (st := []) (as := [vi 1, vi 4]) (b := 175) (v := some (vi 1)) (h' := sD h (a_up I6 175 4 0) L6) d_Mo_dsaSign_350 cs_Mo_dsaSign_350 (k_175 S) (c_good1 S rfl) rfl rfl rfl ?_
          show AW l G M_Mo_dsaSign P 353 [(5, vi v), (4, vi t), (0, vr 175)] [vi 1] (sD h (a_up I6 175 4 0) L6)
          refine aw_if_ne (tgt := 358) d_Mo_dsaSign_353 (by decide) (fun c_353 => ?_) (fun c_353 => False.elim (by omega))
          refine aw_iload d_Mo_dsaSign_358 rfl ?_
          refine aw_iconst d_Mo_dsaSign_360 ⟨by decide, by decide⟩ ?_
          refine aw_icmp_ne (tgt := 423) d_Mo_dsaSign_361 (by decide) (fun c_361 => ?_) (fun c_361 => ?_)
          · skip
            refine ax_iinc (lv' := [(4, vi (t + 1)), (5, vi v), (0, vr 175)]) d_Mo_dsaSign_423 rfl (by decide) ⟨(by omega), (by omega)⟩ rfl ?_
            refine aw_goto (tgt := 317) d_Mo_dsaSign_426 (by decide) ?_
            refine aw_sub (lv' := [(4, vi (t + 1)), (0, vr 175)]) (by simp) ?_
            exact ih_317 _ (by omega) (t + 1) (a_up I6 175 4 0) L6 (by omega) (F7.tr (FR.c0 (p := pAt)) (fun a x => ⟨x, x⟩)) (by rw [run, eN]; rcases q6 with y | y | y; exact absurd y.1 (by omega); exact sgRun_n y.2.1.2 y.2.2; exact absurd y.1 (by omega)) rfl
          · skip
            have yy := (q6.resolve_left (fun y => by have y1 := y.1; omega)).resolve_left (fun y => by have y1 := y.1; omega)
            have rn : sgRun 2 (rkR I) (rhR I (0 : Int)) (muR I (fun k => I 180 (64 + k)) (0 : Int)) 814 0 = some t := by rw [run, eN]; exact sgRun_g yy.2.1.2 yy.2.2.1
            have okk : sgOk 2 (rkR I) ∧ sgRun 2 (rkR I) (rhR I (0 : Int)) (muR I (fun k => I 180 (64 + k)) (0 : Int)) 814 0 ≠ none := ⟨yy.2.1.1, by rw [rn]; exact (fun z => by cases z)⟩
            refine aw_aload_n d_Mo_dsaSign_364 rfl rfl ?_
            refine ax_getR (b := 186) d_Mo_dsaSign_365 fd_Mo_18 (k_175 S) (r_175_2 S) ?_
            refine aw_iconst d_Mo_dsaSign_368 ⟨by decide, by decide⟩ ?_
            refine aw_aload_n d_Mo_dsaSign_369 rfl rfl ?_
            refine ax_getIe (x := 64) d_Mo_dsaSign_370 fd_Mo_248 (k_175 S) (Eq.trans (a_up_ne (Or.inr (by decide))) (Eq.trans (F7.1 175 38 (by omega) (Or.inr (by decide))) (dr2_38 D))) ?_
            refine aw_bipush d_Mo_dsaSign_373 ⟨by decide, by decide⟩ (by decide) ?_
            refine aw_aload_n d_Mo_dsaSign_375 rfl rfl ?_
            refine ax_getIe (x := 7) d_Mo_dsaSign_376 fd_Mo_226 (k_175 S) (Eq.trans (a_up_ne (Or.inr (by decide))) (Eq.trans (F7.1 175 32 (by omega) (Or.inr (by decide))) (dr2_32 D))) ?_
            refine ax_imul d_Mo_dsaSign_379 ⟨(by omega), (by omega)⟩ ?_
            refine ax_ti (x := 224) (by decide) ?_
            refine aw_aload_n d_Mo_dsaSign_380 rfl rfl ?_
            refine ax_getIe (x := 20) d_Mo_dsaSign_381 fd_Mo_251 (k_175 S) (Eq.trans (a_up_ne (Or.inr (by decide))) (Eq.trans (F7.1 175 39 (by omega) (Or.inr (by decide))) (dr2_39 D))) ?_
            refine ax_imul d_Mo_dsaSign_384 ⟨(by omega), (by omega)⟩ ?_
            refine ax_ti (x := 4480) (by decide) ?_
            refine ax_iadd d_Mo_dsaSign_385 ⟨(by omega), (by omega)⟩ ?_
            refine ax_ti (x := 4544) (by decide) ?_
            refine aw_aload_n d_Mo_dsaSign_386 rfl rfl ?_
            refine ax_getIe (x := 75) d_Mo_dsaSign_387 fd_Mo_245 (k_175 S) (Eq.trans (a_up_ne (Or.inr (by decide))) (Eq.trans (F7.1 175 37 (by omega) (Or.inr (by decide))) (dr2_37 D))) ?_
            refine ax_iadd d_Mo_dsaSign_390 ⟨(by omega), (by omega)⟩ ?_
            refine ax_ti (x := 4619) (by decide) ?_
            refine aw_aload_n d_Mo_dsaSign_391 rfl rfl ?_
            refine ax_getIe (x := 8) d_Mo_dsaSign_392 fd_Mo_223 (k_175 S) (Eq.trans (a_up_ne (Or.inr (by decide))) (Eq.trans (F7.1 175 26 (by omega) (Or.inr (by decide))) (dr2_26 D))) ?_
            refine ax_iadd d_Mo_dsaSign_395 ⟨(by omega), (by omega)⟩ ?_
            refine ax_ti (x := 4627) (by decide) ?_
            refine ax_iast d_Mo_dsaSign_396 (k_186 S) (by decide) (by omega) (by rw [n_186 S]; omega) ?_
            refine aw_aload_n d_Mo_dsaSign_397 rfl rfl ?_
            refine ax_getR (b := 263) d_Mo_dsaSign_398 fd_Mo_87 (k_175 S) (r_175_31 S) ?_
            refine aw_iconst d_Mo_dsaSign_401 ⟨by decide, by decide⟩ ?_
            refine aw_aload_n d_Mo_dsaSign_402 rfl rfl ?_
            refine ax_getR (b := 177) d_Mo_dsaSign_403 fd_Mo_15 (k_175 S) (r_175_1 S) ?_
            refine aw_iconst d_Mo_dsaSign_406 ⟨by decide, by decide⟩ ?_
            refine ax_aald (b := 183) d_Mo_dsaSign_407 ⟨by rw [(k_177 S)]; decide, by rw [(k_177 S)]; decide⟩ (by omega) (by rw [n_177 S]; omega) (g_177 S (j := 5) (by decide) (by decide)) ?_
            refine aw_iconst d_Mo_dsaSign_408 ⟨by decide, by decide⟩ ?_
            refine aw_aload_n d_Mo_dsaSign_409 rfl rfl ?_
            refine ax_getR (b := 186) d_Mo_dsaSign_410 fd_Mo_18 (k_175 S) (r_175_2 S) ?_
            refine aw_iconst d_Mo_dsaSign_413 ⟨by decide, by decide⟩ ?_
            refine ax_ialde (x := 4627) d_Mo_dsaSign_414 (k_186 S) (by omega) (by rw [n_186 S]; omega) (a_up_at) ?_
            refine ax_S (st := []) (as := [vr 263, vi 0, vr 183, vi 0, vi 4627]) (v := none) (h' := sD h (putRow (a_up (a_up I6 175 4 0) 186 5 4627) 183 0 4627 (fun k => (a_up (a_up I6 175 4 0) 186 5 4627) 263 (0 + k))) L6) d_Mo_dsaSign_415 cs_Mo_dsaSign_415 (c_Mo_move ⟨k_263 S, by decide⟩ ⟨k_183 S, by decide, trivial⟩ (by decide) (by rw [n_263 S, n_183 S]; omega)) rfl rfl rfl ?_
            show AW l G M_Mo_dsaSign P 418 [(5, vi v), (4, vi t), (0, vr 175)] [] (sD h (putRow (a_up (a_up I6 175 4 0) 186 5 4627) 183 0 4627 (fun k => (a_up (a_up I6 175 4 0) 186 5 4627) 263 (0 + k))) L6)
            refine aw_iload d_Mo_dsaSign_418 rfl ?_
            refine aw_iconst d_Mo_dsaSign_420 ⟨by decide, by decide⟩ ?_
            refine ax_iadd d_Mo_dsaSign_421 ⟨(by omega), (by omega)⟩ ?_
            exact aw_iret d_Mo_dsaSign_422 rfl (hP _ _ ⟨_, _, _, rfl, rfl, by rw [putRow_ne (by decide), a_up_ne (Or.inl (by decide)), a_up_at, c4_0 ⟨by decide, by decide⟩ b1 b2 okk], Or.inl ⟨c4_0 ⟨by decide, by decide⟩ b1 b2 okk, fR0.fr (fR0.fr (fR0.fr (fR0.fr R0 F7 (r := qN) (by intro a x y; exact ⟨fun z => z, by omega⟩) (by decide)) (FR.c0 (p := fun _ => False)) (r := qN) (by intro a x y; exact ⟨fun z => z, fun z => z⟩) (fun z => z)) (FR.up (p := fun a => a = 186) rfl) (r := fun a => a = 183 ∨ a = 186) (by intro a x y; exact ⟨fun z => z, by omega⟩) (by decide)) (FR.put (p := fun a => a = 183) rfl) (by intro a x y; exact ⟨y, by omega⟩) (by decide), t, rn, rfl, ⟨fun j x => by rw [putRow_ne (by decide), a_up_ne (Or.inr x), a_up_ne (Or.inl (by decide))]; exact (fR0.fr R0 F7 (r := qN) (by intro a x y; exact ⟨fun z => z, by omega⟩) (by decide)).1 186 j (by omega) (fun z => z), by rw [putRow_ne (by decide), a_up_at]; rfl⟩, HR.put (fun z x y => by rw [a_up_ne (Or.inl (by decide)), a_up_ne (Or.inl (by decide))]; exact yy.2.2.2 z x y), fun j => by have z := rng.p (I := a_up (a_up I6 175 4 0) 186 5 4627) (f := 183) (o := 0) (n := 4627) (g := fun k => (a_up (a_up I6 175 4 0) 186 5 4627) 263 (0 + k)) j; rw [show (a_up (a_up I6 175 4 0) 186 5 4627) 183 j = I 183 j from by rw [a_up_ne (Or.inl (by decide)), a_up_ne (Or.inl (by decide))]; exact (fR0.fr R0 F7 (r := qN) (by intro a x y; exact ⟨fun z => z, by omega⟩) (by decide)).1 183 j (by omega) (fun z => z)] at z; exact z⟩⟩)
      · obtain ⟨v, I6, L6, q3, q4, F6, q6⟩ := q_
        cases q3
  skip
  exact lp_317 _ 0 K M (by omega) (FR.rfl') (rfl) rfl
set_option maxHeartbeats 4000000 in
set_option maxRecDepth 100000 in
theorem c_Mo_dsaSign20 {l : Launch} {G : a_G} {h : Hp} {I L : Nat → Int → Int} (S : Shp h) (RS : RSt I L) (rb : RB I) : AW l G M_Mo_dsaSign (RsR h I L (c4 ((0 ≤ (2 : Int) ∧ (2 : Int) < 3) ∧ ((0 : Int) = 0 ∨ (0 : Int) = -1)) (((0 : Int) ≠ 0 ∨ I 186 4 ≤ 255) ∧ (I 186 0 = 32 ∨ I 186 0 = 0)) (I 186 2 = sSec (2 : Int)) (sgOk (2 : Int) (rkR I) ∧ sgRun (2 : Int) (rkR I) (rhR I (0 : Int)) (muR I (fun k => I 180 (64 + k)) (0 : Int)) 814 0 ≠ none)) (fun a => a = 183 ∨ a = 186) (fun v I' _ => ∃ t, sgRun (2 : Int) (rkR I) (rhR I (0 : Int)) (muR I (fun k => I 180 (64 + k)) (0 : Int)) 814 0 = some t ∧ v = t + 1 ∧ ((∀ j, j ≠ 5 → I' 186 j = I 186 j) ∧ I' 186 5 = sPkt (2 : Int)) ∧ HR I' 183 0 (sPkt (2 : Int)) (sgPk (2 : Int) (rkR I) (rhR I (0 : Int)) (muR I (fun k => I 180 (64 + k)) (0 : Int)) t) ∧ rng (I 183) (I' 183))) 0 (a_ar 0 [vr 175, vi 2, vi 0]) [] (sD h I L) := by
  suffices key : ∀ P : a_R → Hp → Prop, (∀ r_ h2_, RsR h I L (c4 ((0 ≤ (2 : Int) ∧ (2 : Int) < 3) ∧ ((0 : Int) = 0 ∨ (0 : Int) = -1)) (((0 : Int) ≠ 0 ∨ I 186 4 ≤ 255) ∧ (I 186 0 = 32 ∨ I 186 0 = 0)) (I 186 2 = sSec (2 : Int)) (sgOk (2 : Int) (rkR I) ∧ sgRun (2 : Int) (rkR I) (rhR I (0 : Int)) (muR I (fun k => I 180 (64 + k)) (0 : Int)) 814 0 ≠ none)) (fun a => a = 183 ∨ a = 186) (fun v I' _ => ∃ t, sgRun (2 : Int) (rkR I) (rhR I (0 : Int)) (muR I (fun k => I 180 (64 + k)) (0 : Int)) 814 0 = some t ∧ v = t + 1 ∧ ((∀ j, j ≠ 5 → I' 186 j = I 186 j) ∧ I' 186 5 = sPkt (2 : Int)) ∧ HR I' 183 0 (sPkt (2 : Int)) (sgPk (2 : Int) (rkR I) (rhR I (0 : Int)) (muR I (fun k => I 180 (64 + k)) (0 : Int)) t) ∧ rng (I 183) (I' 183)) r_ h2_ → P r_ h2_) → AW l G M_Mo_dsaSign P 0 [(0, vr 175), (1, vi 2), (2, vi 0)] [] (sD h I L) from key _ (fun _ _ q => q)
  intro P hP
  refine aw_aload_n d_Mo_dsaSign_0 rfl rfl ?_
  refine aw_iload_n d_Mo_dsaSign_1 rfl rfl ?_
  refine aw_iconst d_Mo_dsaSign_2 ⟨by decide, by decide⟩ ?_
  refine aw_iconst d_Mo_dsaSign_3 ⟨by decide, by decide⟩ ?_
  refine ax_S (st := [vr 175]) (as := [vi 2, vi 0, vi 2]) (v := some (vi 1)) (h' := sD h I L) d_Mo_dsaSign_4 cs_Mo_dsaSign_4 (c_in1 (by decide)) rfl rfl rfl ?_
  show AW l G M_Mo_dsaSign P 7 [(0, vr 175), (1, vi 2), (2, vi 0)] [vi 1, vr 175] (sD h I L)
  refine aw_if_eq (tgt := 23) d_Mo_dsaSign_7 (by decide) (fun c_7 => False.elim (by omega)) (fun c_7 => ?_)
  refine aw_iload_n d_Mo_dsaSign_10 rfl rfl ?_
  refine aw_iconst d_Mo_dsaSign_11 ⟨by decide, by decide⟩ ?_
  refine aw_iconst d_Mo_dsaSign_12 ⟨by decide, by decide⟩ ?_
  refine ax_S (st := [vr 175]) (as := [vi 0, vi (-1), vi 0]) (v := some (vi 1)) (h' := sD h I L) d_Mo_dsaSign_13 cs_Mo_dsaSign_13 (c_in1 (by decide)) rfl rfl rfl ?_
  show AW l G M_Mo_dsaSign P 16 [(0, vr 175), (1, vi 2), (2, vi 0)] [vi 1, vr 175] (sD h I L)
  refine aw_if_eq (tgt := 23) d_Mo_dsaSign_16 (by decide) (fun c_16 => False.elim (by omega)) (fun c_16 => ?_)
  refine aw_iconst d_Mo_dsaSign_19 ⟨by decide, by decide⟩ ?_
  refine aw_goto (tgt := 24) d_Mo_dsaSign_20 (by decide) ?_
  refine aw_iconst d_Mo_dsaSign_24 ⟨by decide, by decide⟩ ?_
  refine ax_V (st := []) (as := [vi 1, vi 1]) (b := 175) (v := some (vi 1)) (h' := sD h (a_up I 175 4 0) L) d_Mo_dsaSign_25 cs_Mo_dsaSign_25 (k_175 S) (c_good1 S (rfl)) rfl rfl rfl ?_
  show AW l G M_Mo_dsaSign P 28 [(0, vr 175), (1, vi 2), (2, vi 0)] [vi 1] (sD h (a_up I 175 4 0) L)
  refine aw_if_ne (tgt := 33) d_Mo_dsaSign_28 (by decide) (fun c_28 => ?_) (fun c_28 => False.elim (by omega))
  refine aw_aload_n d_Mo_dsaSign_33 rfl rfl ?_
  refine aw_iload_n d_Mo_dsaSign_34 rfl rfl ?_
  refine ax_Vr (st := []) (as := [vi 2]) (b := 175) d_Mo_dsaSign_35 cs_Mo_dsaSign_35 (k_175 S) (c_Mo_dsa2 S) rfl rfl rfl (fun u_35 q_35 => ?_)
  obtain ⟨d1, d2, d3⟩ := q_35
  have e0 : ∀ a j, (a < 175 ∨ 176 ≤ a ∧ a ≤ 202 ∨ 204 ≤ a) → u_35 a j = I a j := fun a j x => (d1 a j (by omega) (Or.inl (by omega)) (Or.inl (by omega)) (Or.inl (by omega)) (Or.inl (by omega)) (Or.inl (by omega)) (Or.inl (by omega)) (Or.inl (by omega)) (Or.inl (by omega)) (Or.inl (by omega))).trans (a_up_ne (Or.inl (by omega)))
  have R00 : fR0 qN I L u_35 L := ⟨fun a j x _ => e0 a j (by omega), (d1 175 3 (by decide) (Or.inr (by decide)) (Or.inr (by decide)) (Or.inr (by decide)) (Or.inr (by decide)) (Or.inr (by decide)) (Or.inr (by decide)) (Or.inr (by decide)) (Or.inr (by decide)) (Or.inr (by decide))).trans (a_up_ne (Or.inr (by decide))), fun _ _ _ => rfl⟩
  have D0 : RD u_35 L 2 := ⟨RS.of (fun j => e0 193 j (by omega)) (fun _ => rfl), d2, d3⟩
  have D1 := D0.fr (FR.c0 (p := fun _ => False) (v := 0)) ⟨fun z => z, fun z => z, fun z => z⟩
  have R1 : fR0 qN I L (a_up u_35 175 4 0) L := fR0.fr R00 (FR.c0 (p := fun _ => False)) (by intro a x y; exact ⟨fun z => z, fun z => z⟩) (fun z => z)
  show AW l G M_Mo_dsaSign P 38 [(0, vr 175), (1, vi 2), (2, vi 0)] [] (sD h u_35 L)
  refine aw_aload_n d_Mo_dsaSign_38 rfl rfl ?_
  refine aw_aload_n d_Mo_dsaSign_39 rfl rfl ?_
  refine aw_iload_n d_Mo_dsaSign_40 rfl rfl ?_
  by_cases cx_ : (0 : Int) < 0 ∨ u_35 186 4 ≤ 255
  · skip
    refine ax_V (st := [vr 175]) (as := [vi 0]) (b := 175) (v := some (vi 1)) (h' := sD h u_35 L) d_Mo_dsaSign_41 cs_Mo_dsaSign_41 (k_175 S) (by have z := c_Mo_context (l := l) (G := G) (h := h) (L := L) (I := u_35) (x := 0) S; rw [if_pos cx_] at z; exact z) rfl rfl rfl ?_
    show AW l G M_Mo_dsaSign P 44 [(0, vr 175), (1, vi 2), (2, vi 0)] [vi 1, vr 175] (sD h u_35 L)
    refine aw_if_eq (tgt := 71) d_Mo_dsaSign_44 (by decide) (fun c_44 => False.elim (by omega)) (fun c_44 => ?_)
    refine aw_aload_n d_Mo_dsaSign_47 rfl rfl ?_
    refine ax_getR (b := 186) d_Mo_dsaSign_48 fd_Mo_18 (k_175 S) (r_175_2 S) ?_
    refine aw_iconst d_Mo_dsaSign_51 ⟨by decide, by decide⟩ ?_
    refine ax_ialde (x := I 186 0) d_Mo_dsaSign_52 (k_186 S) (by omega) (by rw [n_186 S]; omega) (Eq.trans (e0 186 0 (by omega)) (rfl)) ?_
    refine aw_bipush d_Mo_dsaSign_53 ⟨by decide, by decide⟩ (by decide) ?_
    refine aw_icmp_eq (tgt := 67) d_Mo_dsaSign_55 (by decide) (fun c_55 => ?_) (fun c_55 => ?_)
    · skip
      refine aw_iconst d_Mo_dsaSign_67 ⟨by decide, by decide⟩ ?_
      refine aw_goto (tgt := 72) d_Mo_dsaSign_68 (by decide) ?_
      refine aw_iconst d_Mo_dsaSign_72 ⟨by decide, by decide⟩ ?_
      refine ax_V (st := []) (as := [vi 1, vi 2]) (b := 175) (v := some (vi 1)) (h' := sD h (a_up u_35 175 4 0) L) d_Mo_dsaSign_73 cs_Mo_dsaSign_73 (k_175 S) (c_good1 S (rfl)) rfl rfl rfl ?_
      show AW l G M_Mo_dsaSign P 76 [(0, vr 175), (1, vi 2), (2, vi 0)] [vi 1] (sD h (a_up u_35 175 4 0) L)
      refine aw_if_eq (tgt := 105) d_Mo_dsaSign_76 (by decide) (fun c_76 => False.elim (by omega)) (fun c_76 => ?_)
      have bb : (0 : Int) ≠ 0 ∨ I 186 4 ≤ 255 := by rw [e0 186 4 (by omega)] at cx_; omega
      refine aw_aload_n d_Mo_dsaSign_79 rfl rfl ?_
      refine aw_aload_n d_Mo_dsaSign_80 rfl rfl ?_
      refine ax_getR (b := 186) d_Mo_dsaSign_81 fd_Mo_18 (k_175 S) (r_175_2 S) ?_
      refine aw_iconst d_Mo_dsaSign_84 ⟨by decide, by decide⟩ ?_
      refine ax_ialde (x := I 186 2) d_Mo_dsaSign_85 (k_186 S) (by omega) (by rw [n_186 S]; omega) (Eq.trans (a_up_ne (Or.inl (by decide))) (Eq.trans (e0 186 2 (by omega)) (rfl))) ?_
      refine aw_aload_n d_Mo_dsaSign_86 rfl rfl ?_
      refine ax_V (st := [vi (I 186 2), vr 175]) (as := []) (b := 175) (v := some (vi 4896)) (h' := sD h (a_up u_35 175 4 0) L) d_Mo_dsaSign_87 cs_Mo_dsaSign_87 (k_175 S) (c_Mo_secretLength (z := 4896) S (by rw [dr2_33 D1, dr2_32 D1, dr2_26 D1]; decide) (by rw [dr2_32 D1, dr2_26 D1]; decide)) rfl rfl rfl ?_
      show AW l G M_Mo_dsaSign P 90 [(0, vr 175), (1, vi 2), (2, vi 0)] [vi 4896, vi (I 186 2), vr 175] (sD h (a_up u_35 175 4 0) L)
      refine aw_icmp_ne (tgt := 97) d_Mo_dsaSign_90 (by decide) (fun c_90 => ?_) (fun c_90 => ?_)
      · skip
        refine aw_iconst d_Mo_dsaSign_97 ⟨by decide, by decide⟩ ?_
        refine aw_iconst d_Mo_dsaSign_98 ⟨by decide, by decide⟩ ?_
        refine ax_V (st := []) (as := [vi 0, vi 3]) (b := 175) (v := some (vi 0)) (h' := sD h (a_up u_35 175 4 3) L) d_Mo_dsaSign_99 cs_Mo_dsaSign_99 (k_175 S) (c_good0 S (by rw [a_up_up])) rfl rfl rfl ?_
        show AW l G M_Mo_dsaSign P 102 [(0, vr 175), (1, vi 2), (2, vi 0)] [vi 0] (sD h (a_up u_35 175 4 3) L)
        refine aw_if_ne (tgt := 107) d_Mo_dsaSign_102 (by decide) (fun c_102 => False.elim (by omega)) (fun c_102 => ?_)
        refine aw_iconst d_Mo_dsaSign_105 ⟨by decide, by decide⟩ ?_
        exact aw_iret d_Mo_dsaSign_106 rfl (hP _ _ (rsNo 0 3 (c4_3 ⟨by decide, by decide⟩ ⟨bb, by omega⟩ (fun z => by have z1 : I 186 2 = 4896 := z; omega)) (by decide) a_up_at (fR0.fr R00 (FR.c0 (p := fun _ => False)) (by intro a x y; exact ⟨fun z => z, fun z => z⟩) (fun z => z))))
      · skip
        refine aw_iconst d_Mo_dsaSign_93 ⟨by decide, by decide⟩ ?_
        refine aw_goto (tgt := 98) d_Mo_dsaSign_94 (by decide) ?_
        refine aw_iconst d_Mo_dsaSign_98 ⟨by decide, by decide⟩ ?_
        refine ax_V (st := []) (as := [vi 1, vi 3]) (b := 175) (v := some (vi 1)) (h' := sD h (a_up u_35 175 4 0) L) d_Mo_dsaSign_99 cs_Mo_dsaSign_99 (k_175 S) (c_good1 S (by rw [a_up_up])) rfl rfl rfl ?_
        show AW l G M_Mo_dsaSign P 102 [(0, vr 175), (1, vi 2), (2, vi 0)] [vi 1] (sD h (a_up u_35 175 4 0) L)
        refine aw_if_ne (tgt := 107) d_Mo_dsaSign_102 (by decide) (fun c_102 => ?_) (fun c_102 => False.elim (by omega))
        refine aw_aload_n d_Mo_dsaSign_107 rfl rfl ?_
        refine aw_aload_n d_Mo_dsaSign_108 rfl rfl ?_
        refine ax_getR (b := 177) d_Mo_dsaSign_109 fd_Mo_15 (k_175 S) (r_175_1 S) ?_
        refine aw_iconst d_Mo_dsaSign_112 ⟨by decide, by decide⟩ ?_
        refine ax_aald (b := 180) d_Mo_dsaSign_113 ⟨by rw [(k_177 S)]; decide, by rw [(k_177 S)]; decide⟩ (by omega) (by rw [n_177 S]; omega) (g_177 S (j := 2) (by decide) (by decide)) ?_
        refine aw_bipush d_Mo_dsaSign_114 ⟨by decide, by decide⟩ (by decide) ?_
        refine aw_iload_n d_Mo_dsaSign_116 rfl rfl ?_
        have kz : ∀ a j, (a < 175 ∨ 176 ≤ a ∧ a ≤ 202 ∨ 204 ≤ a) → (a_up u_35 175 4 0) a j = I a j := fun a j x => (a_up_ne (Or.inl (by omega))).trans (e0 a j x)
        have rb1 : RB (a_up u_35 175 4 0) := ⟨fun s a b => by rw [kz 186 s (by omega)]; exact rb.1 s a b, by rw [R1.2.1]; exact rb.2⟩
        have k4 := kz 186 4 (by omega)
        have k3 := kz 186 3 (by omega)
        have f180 : ∀ x : Int, (fun k => (a_up u_35 175 4 0) 180 (x + k)) = (fun k => I 180 (x + k)) := fun x => funext (fun k => kz 180 _ (by omega))
        have f0 : ∀ a : Nat, a = 181 ∨ a = 182 → (fun k => (a_up u_35 175 4 0) a (0 + k)) = (fun k => I a (0 + k)) := fun a ha => funext (fun k => kz a _ (by omega))
        refine ax_Vr (st := []) (as := [vr 180, vi 64, vi 0]) (b := 175) d_Mo_dsaSign_117 cs_Mo_dsaSign_117 (k_175 S) (c_Mo_digestMessage0 (f := 180) (pa := 64) S D1.1 rb1 ⟨k_180 S, by decide, by decide⟩ (by rw [n_180 S]; decide)) rfl rfl rfl (fun u_117 q_117 => ?_)
        obtain ⟨I1, L1⟩ := u_117
        obtain ⟨F1, h1⟩ := q_117
        dsimp only at F1 h1
        rw [k3, f180 64, f0 181 (Or.inl rfl), k4, f0 182 (Or.inr rfl)] at h1
        have h1 : HR I1 265 0 64 (muR I (fun k => I 180 (64 + k)) (0 : Int)) := h1
        have RS1 := D1.1.fr F1 (by decide)
        show AW l G M_Mo_dsaSign P 120 [(0, vr 175), (1, vi 2), (2, vi 0)] [] (sD h I1 L1)
        refine aw_aload_n d_Mo_dsaSign_120 rfl rfl ?_
        refine aw_bipush d_Mo_dsaSign_121 ⟨by decide, by decide⟩ (by decide) ?_
        refine ax_Vr (st := []) (as := [vi 12]) (b := 175) d_Mo_dsaSign_123 cs_Mo_dsaSign_123 (k_175 S) (c_Mo_begin12 S) rfl rfl rfl (fun u_123 q_123 => ?_)
        obtain ⟨I2, L2⟩ := u_123
        obtain ⟨F2, e2, k2⟩ := q_123
        dsimp only at F2 e2 k2
        show AW l G M_Mo_dsaSign P 126 [(0, vr 175), (1, vi 2), (2, vi 0)] [] (sD h I2 L2)
        refine aw_aload_n d_Mo_dsaSign_126 rfl rfl ?_
        refine aw_aload_n d_Mo_dsaSign_127 rfl rfl ?_
        refine ax_getR (b := 177) d_Mo_dsaSign_128 fd_Mo_15 (k_175 S) (r_175_1 S) ?_
        refine aw_iconst d_Mo_dsaSign_131 ⟨by decide, by decide⟩ ?_
        refine ax_aald (b := 180) d_Mo_dsaSign_132 ⟨by rw [(k_177 S)]; decide, by rw [(k_177 S)]; decide⟩ (by omega) (by rw [n_177 S]; omega) (g_177 S (j := 2) (by decide) (by decide)) ?_
        refine aw_bipush d_Mo_dsaSign_133 ⟨by decide, by decide⟩ (by decide) ?_
        refine aw_bipush d_Mo_dsaSign_135 ⟨by decide, by decide⟩ (by decide) ?_
        refine ax_Vr (st := []) (as := [vr 180, vi 32, vi 32]) (b := 175) d_Mo_dsaSign_137 cs_Mo_dsaSign_137 (k_175 S) (c_Mo_put3 S (RS1.rf F2) (by omega) (by rw [e2]; exact spStart_lt (by decide) (by decide)) ⟨k_180 S, by decide, by decide⟩ (by rw [n_180 S]; decide)) rfl rfl rfl (fun u_137 q_137 => ?_)
        obtain ⟨I3, L3⟩ := u_137
        obtain ⟨F3, e3, k3⟩ := q_137
        dsimp only at F3 e3 k3
        show AW l G M_Mo_dsaSign P 140 [(0, vr 175), (1, vi 2), (2, vi 0)] [] (sD h I3 L3)
        refine aw_iconst d_Mo_dsaSign_140 ⟨by decide, by decide⟩ ?_
        refine aw_istore_n (lv' := [(3, vi 0), (0, vr 175), (1, vi 2), (2, vi 0)]) d_Mo_dsaSign_141 rfl (by decide) rfl ?_
        have lp_142 : ∀ (n_ : Nat) (i : Int) (K4 : Nat → Int → Int) (M4 : Nat → Int → Int), (0 ≤ i ∧ i ≤ 32) → (RF I3 L3 K4 M4) → (spR K4 M4 = spPart (spR I3 L3) (rnR I) i.toNat) → (K4 175 18 = 12) → ((32 - i).toNat) = n_ → AW l G M_Mo_dsaSign P 142 [(3, vi i), (2, vi 0), (1, vi 2), (0, vr 175)] [] (sD h K4 M4) := by
          intro n_
          induction n_ using Nat.strongRecOn with
          | _ n_ ih_142 =>
          intro i K4 M4 hi F4 e4 k4_ hm_142
          refine aw_iload_n d_Mo_dsaSign_142 rfl rfl ?_
          refine aw_bipush d_Mo_dsaSign_143 ⟨by decide, by decide⟩ (by decide) ?_
          refine aw_icmp_ge (tgt := 179) d_Mo_dsaSign_145 (by decide) (fun c_145 => ?_) (fun c_145 => ?_)
          · skip
            refine aw_aload_n d_Mo_dsaSign_179 rfl rfl ?_
            refine aw_aload_n d_Mo_dsaSign_180 rfl rfl ?_
            refine ax_getR (b := 265) d_Mo_dsaSign_181 fd_Mo_93 (k_175 S) (r_175_41 S) ?_
            refine aw_iconst d_Mo_dsaSign_184 ⟨by decide, by decide⟩ ?_
            refine aw_bipush d_Mo_dsaSign_185 ⟨by decide, by decide⟩ (by decide) ?_
            refine ax_Vr (st := []) (as := [vr 265, vi 0, vi 64]) (b := 175) d_Mo_dsaSign_187 cs_Mo_dsaSign_187 (k_175 S) (c_Mo_put3 S ((RS1.rf F2).rf (F3.tr F4)) (by omega) (by rw [e4, e3, e2]; exact spPart_lt (spPart_lt (spStart_lt (by decide) (by decide)) _ _) _ _) ⟨k_265 S, by decide, by decide⟩ (by rw [n_265 S]; decide)) rfl rfl rfl (fun u_187 q_187 => ?_)
            obtain ⟨I6, L6⟩ := u_187
            obtain ⟨F6, e6, k6⟩ := q_187
            dsimp only at F6 e6 k6
            have G6 := (F2.tr (F3.tr F4)).tr F6
            have eS : spTurn (spR I6 L6) = rhS (fun k => I 180 (32 + k)) (rnR I) (muR I (fun k => I 180 (64 + k)) (0 : Int)) := by rw [e6, e4, e3, e2, show i.toNat = 32 by omega, show Int.toNat 32 = 32 from rfl, show Int.toNat 64 = 64 from rfl, show (fun k => I2 180 (32 + k)) = (fun k => I 180 (32 + k)) from funext (fun z => (F2.1 180 _ (Or.inl (by decide))).trans ((F1.1 180 _ (by decide) (Or.inl (by decide))).trans (kz 180 _ (by omega)))), spPart_congr (f := fun k => K4 265 (0 + k)) (g := (muR I (fun k => I 180 (64 + k)) (0 : Int))) (fun k hk => by rw [(F2.tr (F3.tr F4)).1 265 _ (Or.inl (by decide)), h1 k (by omega) (by omega)]; exact (spOut_m _ _).symm)]; rfl
            show AW l G M_Mo_dsaSign P 190 [(3, vi i), (2, vi 0), (1, vi 2), (0, vr 175)] [] (sD h I6 L6)
            refine aw_aload_n d_Mo_dsaSign_190 rfl rfl ?_
            refine aw_aload_n d_Mo_dsaSign_191 rfl rfl ?_
            refine ax_getR (b := 266) d_Mo_dsaSign_192 fd_Mo_96 (k_175 S) (r_175_42 S) ?_
            refine aw_iconst d_Mo_dsaSign_195 ⟨by decide, by decide⟩ ?_
            refine aw_bipush d_Mo_dsaSign_196 ⟨by decide, by decide⟩ (by decide) ?_
            refine ax_Vr (st := []) (as := [vr 266, vi 0, vi 64]) (b := 175) d_Mo_dsaSign_198 cs_Mo_dsaSign_198 (k_175 S) (c_Mo_give S (RS1.rf G6) (by omega) (by rw [e6, e4, e3, e2]; exact (spPart_lt (spPart_lt (spPart_lt (spStart_lt (by decide) (by decide)) _ _) _ _) _ _).1) ⟨k_266 S, by decide, by decide, by decide⟩ (by rw [n_266 S]; decide)) rfl rfl rfl (fun u_198 q_198 => ?_)
            obtain ⟨I7, L7⟩ := u_198
            obtain ⟨F7, f7, e7, k7⟩ := q_198
            dsimp only at F7 f7 e7 k7
            rw [eS] at F7
            have h7 : HR I7 266 0 64 (rhR I (0 : Int)) := HR.give F7 (by decide)
            have G7 : FR (fun a => a = 265 ∨ a = 266) (a_up u_35 175 4 0) L I7 L7 := (F1.tr (G6.fr (p := fun a => a = 265)) (fun a x => ⟨x, x⟩)).tr (FR.give (p := fun a => a = 266) F7 f7 rfl) (by intro a x; omega)
            have D7 := D1.fr G7 (by decide)
            have m7 : HR I7 265 0 64 (muR I (fun k => I 180 (64 + k)) (0 : Int)) := (h1.fr (G6.fr (p := fun _ => False)) (fun z => z) (by decide)).fr (FR.give (p := fun a => a = 266) F7 f7 rfl) (by decide) (by decide)
            show AW l G M_Mo_dsaSign P 201 [(3, vi i), (2, vi 0), (1, vi 2), (0, vr 175)] [] (sD h I7 L7)
            refine aw_aload_n d_Mo_dsaSign_201 rfl rfl ?_
            refine ax_getIe (x := 2) d_Mo_dsaSign_202 fd_Mo_229 (k_175 S) (dr2_33 D7) ?_
            refine aw_iconst d_Mo_dsaSign_205 ⟨by decide, by decide⟩ ?_
            refine aw_icmp_ne (tgt := 213) d_Mo_dsaSign_206 (by decide) (fun c_206 => False.elim (by omega)) (fun c_206 => ?_)
            refine aw_iconst d_Mo_dsaSign_209 ⟨by decide, by decide⟩ ?_
            refine aw_goto (tgt := 214) d_Mo_dsaSign_210 (by decide) ?_
            refine aw_istore_n (lv' := [(3, vi 3), (2, vi 0), (1, vi 2), (0, vr 175)]) d_Mo_dsaSign_214 rfl (by decide) rfl ?_
            refine aw_aload_n d_Mo_dsaSign_215 rfl rfl ?_
            refine aw_iconst d_Mo_dsaSign_216 ⟨by decide, by decide⟩ ?_
            refine ax_putI d_Mo_dsaSign_217 fd_Mo_216 (k_175 S) (by decide) rfl ?_
            refine aw_iconst d_Mo_dsaSign_220 ⟨by decide, by decide⟩ ?_
            refine aw_istore (lv' := [(4, vi 0), (3, vi 3), (2, vi 0), (1, vi 2), (0, vr 175)]) d_Mo_dsaSign_221 (by decide) rfl ?_
            have lp_223 : ∀ (n_ : Nat) (i : Int) (K5 : Nat → Int → Int), (0 ≤ i ∧ i ≤ 15) → (FR (fun a => 205 ≤ a ∧ a ≤ 219) I7 L7 K5 L7) → (K5 175 23 = 8 * (96 * i)) → (∀ m, 0 ≤ m → m < i → eqQ (K5 (205 + m.toNat)) (sgSs 2 (rkR I) m)) → ((15 - i).toNat) = n_ → AW l G M_Mo_dsaSign P 223 [(4, vi i), (3, vi 3), (2, vi 0), (1, vi 2), (0, vr 175)] [] (sD h K5 L7) := by
              intro n_
              induction n_ using Nat.strongRecOn with
              | _ n_ ih_223 =>
              intro i K5 hi5 G5 b5 s5 hm_223
              have sk5 : ∀ x, K5 180 x = I 180 x := fun x => (G5.1 _ _ (by decide) (Or.inl (by decide))).trans ((G7.1 _ _ (by decide) (Or.inl (by decide))).trans (kz 180 x (by omega)))
              refine aw_iload d_Mo_dsaSign_223 rfl ?_
              refine aw_aload_n d_Mo_dsaSign_225 rfl rfl ?_
              refine ax_getIe (x := 7) d_Mo_dsaSign_226 fd_Mo_226 (k_175 S) (Eq.trans (G5.1 175 32 (by omega) (Or.inr (by decide))) (dr2_32 D7)) ?_
              refine aw_aload_n d_Mo_dsaSign_229 rfl rfl ?_
              refine ax_getIe (x := 8) d_Mo_dsaSign_230 fd_Mo_223 (k_175 S) (Eq.trans (G5.1 175 26 (by omega) (Or.inr (by decide))) (dr2_26 D7)) ?_
              refine ax_iadd d_Mo_dsaSign_233 ⟨(by omega), (by omega)⟩ ?_
              refine ax_ti (x := 15) (by decide) ?_
              refine aw_icmp_ge (tgt := 268) d_Mo_dsaSign_234 (by decide) (fun c_234 => ?_) (fun c_234 => ?_)
              · skip
                refine aw_iconst d_Mo_dsaSign_268 ⟨by decide, by decide⟩ ?_
                refine aw_istore (lv' := [(4, vi 0), (3, vi 3), (2, vi 0), (1, vi 2), (0, vr 175)]) d_Mo_dsaSign_269 (by decide) rfl ?_
                have lp_271 : ∀ (n_ : Nat) (i : Int) (K6 : Nat → Int → Int), (0 ≤ i ∧ i ≤ 8) → (FR (fun a => 205 ≤ a ∧ a ≤ 227) I7 L7 K6 L7) → (K6 175 23 = 8 * (1440 + 416 * i)) → (∀ m, 0 ≤ m → m < 15 → eqQ (K6 (205 + m.toNat)) (sgSs 2 (rkR I) m)) → (∀ m, 0 ≤ m → m < i → eqQ (K6 (205 + (15 + m).toNat)) (sgDs 2 (rkR I) m)) → ((8 - i).toNat) = n_ → AW l G M_Mo_dsaSign P 271 [(4, vi i), (2, vi 0), (1, vi 2), (0, vr 175)] [] (sD h K6 L7) := by
                  intro n_
                  induction n_ using Nat.strongRecOn with
                  | _ n_ ih_271 =>
                  intro i K6 hi6 Gy b6 s6 t6 hm_271
                  have sk6 : ∀ x, K6 180 x = I 180 x := fun x => (Gy.1 _ _ (by decide) (Or.inl (by decide))).trans ((G7.1 _ _ (by decide) (Or.inl (by decide))).trans (kz 180 x (by omega)))
                  refine aw_iload d_Mo_dsaSign_271 rfl ?_
                  refine aw_aload_n d_Mo_dsaSign_273 rfl rfl ?_
                  refine ax_getIe (x := 8) d_Mo_dsaSign_274 fd_Mo_223 (k_175 S) (Eq.trans (Gy.1 175 26 (by omega) (Or.inr (by decide))) (dr2_26 D7)) ?_
                  refine aw_icmp_ge (tgt := 314) d_Mo_dsaSign_277 (by decide) (fun c_277 => ?_) (fun c_277 => ?_)
                  · skip
                    refine aw_sub (lv' := [(0, vr 175)]) (by simp) ?_
                    exact sB20 S (fR0.fr (fR0.fr R1 G7 (r := qN) (by intro a x y; exact ⟨fun z => z, by omega⟩) (by decide)) Gy (by intro a x y; exact ⟨fun z => z, by omega⟩) (by decide)) (D7.fr Gy (by decide)) (m7.fr Gy (by decide) (by decide)) (h7.fr Gy (by decide) (by decide)) s6 (fun m a b => t6 m a (by omega)) ⟨bb, by omega⟩ (by show I 186 2 = 4896; omega) hP
                  · skip
                    refine aw_aload_n d_Mo_dsaSign_280 rfl rfl ?_
                    refine aw_aload_n d_Mo_dsaSign_281 rfl rfl ?_
                    refine ax_getR (b := 177) d_Mo_dsaSign_282 fd_Mo_15 (k_175 S) (r_175_1 S) ?_
                    refine aw_iconst d_Mo_dsaSign_285 ⟨by decide, by decide⟩ ?_
                    refine ax_aald (b := 180) d_Mo_dsaSign_286 ⟨by rw [(k_177 S)]; decide, by rw [(k_177 S)]; decide⟩ (by omega) (by rw [n_177 S]; omega) (g_177 S (j := 2) (by decide) (by decide)) ?_
                    refine aw_sipush d_Mo_dsaSign_287 ⟨by decide, by decide⟩ (by decide) ?_
                    refine aw_aload_n d_Mo_dsaSign_290 rfl rfl ?_
                    refine ax_getR (b := 204) d_Mo_dsaSign_291 fd_Mo_76 (k_175 S) (r_175_28 S) ?_
                    refine aw_bipush d_Mo_dsaSign_294 ⟨by decide, by decide⟩ (by decide) ?_
                    refine aw_iload d_Mo_dsaSign_296 rfl ?_
                    refine ax_iadd d_Mo_dsaSign_298 ⟨(by omega), (by omega)⟩ ?_
                    refine ax_aald (b := 205 + (15 + i).toNat) d_Mo_dsaSign_299 ⟨by rw [(k_204 S)]; decide, by rw [(k_204 S)]; decide⟩ (by omega) (by rw [n_204 S]; omega) (g_204 S (by omega) (by omega)) ?_
                    refine aw_sipush d_Mo_dsaSign_300 ⟨by decide, by decide⟩ (by decide) ?_
                    refine aw_bipush d_Mo_dsaSign_303 ⟨by decide, by decide⟩ (by decide) ?_
                    refine ax_Vr (st := []) (as := [vr 180, vi 128, vr (205 + (15 + i).toNat), vi 4096, vi 13]) (b := 175) d_Mo_dsaSign_305 cs_Mo_dsaSign_305 (k_175 S) (c_Mo_unpack (pa := 128) (c := 1440 + 416 * i) (d := 13) (b := 4096) S ⟨k_180 S, by decide, by decide⟩ ⟨kr_204 S (by omega), by omega, nr_204 S (by omega)⟩ (by omega) (by decide) (by omega) (by decide) (by rw [n_180 S]; omega)) rfl rfl rfl (fun u_305 q_305 => ?_)
                    obtain ⟨q1, q2, q3⟩ := q_305
                    have Fy : FR (fun a => 220 ≤ a ∧ a ≤ 227) K6 L7 u_305 L7 := FR.unp q1 (by omega)
                    show AW l G M_Mo_dsaSign P 308 [(4, vi i), (2, vi 0), (1, vi 2), (0, vr 175)] [] (sD h u_305 L7)
                    refine ax_iinc (lv' := [(4, vi (i + 1)), (2, vi 0), (1, vi 2), (0, vr 175)]) d_Mo_dsaSign_308 rfl (by decide) ⟨(by omega), (by omega)⟩ rfl ?_
                    refine aw_goto (tgt := 271) d_Mo_dsaSign_311 (by decide) ?_
                    exact ih_271 _ (by omega) (i + 1) u_305 (by omega) (Gy.tr (Fy.mono (r := fun a => 205 ≤ a ∧ a ≤ 227) (by intro a x; omega)) (fun a x => ⟨x, x⟩)) (by omega) (fun m a b x u v => by rw [q1 _ _ (by omega) (Or.inl (by omega))]; exact s6 m a b x u v) (fun m a b x u v => by by_cases z : m = i; exact (by rw [z, q3 x u v, show (fun j => K6 180 (128 + (1440 + 416 * i) + j) % 256) = (fun j => I 180 (1568 + 416 * i + j) % 256) from funext (fun y => by rw [sk6, show (128 + (1440 + 416 * i) : Int) = 1568 + 416 * i by omega])]; show _ = 4096 - gR (fun k => rkR I (1568 + 416 * i + k)) 13 x; rw [gR_congr (g := fun j => I 180 (1568 + 416 * i + j) % 256) (g' := fun k => rkR I (1568 + 416 * i + k)) (fun y y0 y1 => (gW_in (s := 2) (by omega) (by rw [show I 186 2 = 4896 by omega]; omega)).symm)]); exact (by rw [q1 _ _ (by omega) (Or.inl (by omega))]; exact t6 m a (by omega) x u v)) rfl
                skip
                refine aw_sub (lv' := [(4, vi 0), (2, vi 0), (1, vi 2), (0, vr 175)]) (by simp) ?_
                exact lp_271 _ 0 K5 (by omega) (G5.mono (by intro a x; omega)) (by omega) (fun m a b => s5 m a (by omega)) (fun m a b => by omega) rfl
              · skip
                refine aw_aload_n d_Mo_dsaSign_237 rfl rfl ?_
                refine aw_aload_n d_Mo_dsaSign_238 rfl rfl ?_
                refine ax_getR (b := 177) d_Mo_dsaSign_239 fd_Mo_15 (k_175 S) (r_175_1 S) ?_
                refine aw_iconst d_Mo_dsaSign_242 ⟨by decide, by decide⟩ ?_
                refine ax_aald (b := 180) d_Mo_dsaSign_243 ⟨by rw [(k_177 S)]; decide, by rw [(k_177 S)]; decide⟩ (by omega) (by rw [n_177 S]; omega) (g_177 S (j := 2) (by decide) (by decide)) ?_
                refine aw_sipush d_Mo_dsaSign_244 ⟨by decide, by decide⟩ (by decide) ?_
                refine aw_aload_n d_Mo_dsaSign_247 rfl rfl ?_
                refine ax_getR (b := 204) d_Mo_dsaSign_248 fd_Mo_76 (k_175 S) (r_175_28 S) ?_
                refine aw_iload d_Mo_dsaSign_251 rfl ?_
                refine ax_aald (b := 205 + i.toNat) d_Mo_dsaSign_253 ⟨by rw [(k_204 S)]; decide, by rw [(k_204 S)]; decide⟩ (by omega) (by rw [n_204 S]; omega) (g_204 S (by omega) (by omega)) ?_
                refine aw_aload_n d_Mo_dsaSign_254 rfl rfl ?_
                refine ax_getIe (x := 2) d_Mo_dsaSign_255 fd_Mo_229 (k_175 S) (Eq.trans (G5.1 175 33 (by omega) (Or.inr (by decide))) (dr2_33 D7)) ?_
                refine aw_iload_n d_Mo_dsaSign_258 rfl rfl ?_
                refine ax_Vr (st := []) (as := [vr 180, vi 128, vr (205 + i.toNat), vi 2, vi 3]) (b := 175) d_Mo_dsaSign_259 cs_Mo_dsaSign_259 (k_175 S) (c_Mo_unpack (pa := 128) (c := 96 * i) (d := 3) (b := 2) S ⟨k_180 S, by decide, by decide⟩ ⟨kr_204 S (by omega), by omega, nr_204 S (by omega)⟩ (by omega) (by decide) (by omega) (by decide) (by rw [n_180 S]; omega)) rfl rfl rfl (fun u_259 q_259 => ?_)
                obtain ⟨q1, q2, q3⟩ := q_259
                have Fx : FR (fun a => 205 ≤ a ∧ a ≤ 219) K5 L7 u_259 L7 := FR.unp q1 (by omega)
                show AW l G M_Mo_dsaSign P 262 [(4, vi i), (3, vi 3), (2, vi 0), (1, vi 2), (0, vr 175)] [] (sD h u_259 L7)
                refine ax_iinc (lv' := [(4, vi (i + 1)), (3, vi 3), (2, vi 0), (1, vi 2), (0, vr 175)]) d_Mo_dsaSign_262 rfl (by decide) ⟨(by omega), (by omega)⟩ rfl ?_
                refine aw_goto (tgt := 223) d_Mo_dsaSign_265 (by decide) ?_
                exact ih_223 _ (by omega) (i + 1) u_259 (by omega) (G5.tr Fx (fun a x => ⟨x, x⟩)) (by omega) (fun m a b x u v => by by_cases z : m = i; exact (by rw [z, q3 x u v, show (fun j => K5 180 (128 + 96 * i + j) % 256) = (fun j => I 180 (128 + 96 * i + j) % 256) from funext (fun y => by rw [sk5])]; show _ = 2 - gR (fun k => rkR I (128 + 96 * i + k)) 3 x; rw [gR_congr (g := fun j => I 180 (128 + 96 * i + j) % 256) (g' := fun k => rkR I (128 + 96 * i + k)) (fun y y0 y1 => (gW_in (s := 2) (by omega) (by rw [show I 186 2 = 4896 by omega]; omega)).symm)]); exact (by rw [q1 _ _ (by omega) (Or.inl (by omega))]; exact s5 m a (by omega) x u v)) rfl
            skip
            exact lp_223 _ 0 (a_up I7 175 23 0) (by omega) (FR.b0) (a_up_at.trans (by decide)) (fun m a b => by omega) rfl
          · skip
            refine aw_aload_n d_Mo_dsaSign_148 rfl rfl ?_
            refine aw_aload_n d_Mo_dsaSign_149 rfl rfl ?_
            refine ax_getR (b := 186) d_Mo_dsaSign_150 fd_Mo_18 (k_175 S) (r_175_2 S) ?_
            refine aw_iconst d_Mo_dsaSign_153 ⟨by decide, by decide⟩ ?_
            refine ax_ialde (x := I 186 0) d_Mo_dsaSign_154 (k_186 S) (by omega) (by rw [n_186 S]; omega) (Eq.trans ((F2.tr (F3.tr F4)).1 186 0 (Or.inl (by decide))) (Eq.trans (F1.1 186 0 (by decide) (Or.inl (by decide))) (Eq.trans (kz 186 0 (by omega)) (rfl)))) ?_
            refine aw_if_ne (tgt := 162) d_Mo_dsaSign_155 (by decide) (fun c_155 => ?_) (fun c_155 => ?_)
            · skip
              refine aw_aload_n d_Mo_dsaSign_162 rfl rfl ?_
              refine ax_getR (b := 177) d_Mo_dsaSign_163 fd_Mo_15 (k_175 S) (r_175_1 S) ?_
              refine aw_iconst d_Mo_dsaSign_166 ⟨by decide, by decide⟩ ?_
              refine ax_aald (b := 178) d_Mo_dsaSign_167 ⟨by rw [(k_177 S)]; decide, by rw [(k_177 S)]; decide⟩ (by omega) (by rw [n_177 S]; omega) (g_177 S (j := 0) (by decide) (by decide)) ?_
              refine aw_iload_n d_Mo_dsaSign_168 rfl rfl ?_
              refine ax_balde (x := I 178 i) d_Mo_dsaSign_169 (k_178 S) (by omega) (by rw [n_178 S]; omega) (Eq.trans ((F2.tr (F3.tr F4)).1 178 i (Or.inl (by decide))) (Eq.trans (F1.1 178 i (by decide) (Or.inl (by decide))) (Eq.trans (kz 178 i (by omega)) (rfl)))) ?_
              have vv : rnR I i = I 178 i := by unfold rnR; rw [if_neg (by omega)]
              refine ax_Vr (st := []) (as := [vi (I 178 i)]) (b := 175) d_Mo_dsaSign_170 cs_Mo_dsaSign_170 (k_175 S) (c_Mo_put1 S ((RS1.rf F2).rf (F3.tr F4)) (by omega) (by rw [e4, e3, e2]; exact spPart_lt (spPart_lt (spStart_lt (by decide) (by decide)) _ _) _ _)) rfl rfl rfl (fun u_170 q_170 => ?_)
              obtain ⟨I5, L5⟩ := u_170
              obtain ⟨F5, e5, k5⟩ := q_170
              dsimp only at F5 e5 k5
              show AW l G M_Mo_dsaSign P 173 [(3, vi i), (2, vi 0), (1, vi 2), (0, vr 175)] [] (sD h I5 L5)
              refine ax_iinc (lv' := [(3, vi (i + 1)), (2, vi 0), (1, vi 2), (0, vr 175)]) d_Mo_dsaSign_173 rfl (by decide) ⟨(by omega), (by omega)⟩ rfl ?_
              refine aw_goto (tgt := 142) d_Mo_dsaSign_176 (by decide) ?_
              exact ih_142 _ (by omega) (i + 1) I5 L5 (by omega) (F4.tr F5) (by rw [e5, e4, show (i + 1).toNat = i.toNat + 1 by omega]; show _ = spTake (spPart (spR I3 L3) (rnR I) i.toNat) (rnR I (i.toNat : Int)); rw [Int.toNat_of_nonneg hi.1, vv]) (by omega) rfl
            · skip
              refine aw_iconst d_Mo_dsaSign_158 ⟨by decide, by decide⟩ ?_
              refine aw_goto (tgt := 170) d_Mo_dsaSign_159 (by decide) ?_
              have vv : rnR I i = 0 := by unfold rnR; rw [if_pos (by omega)]
              refine ax_Vr (st := []) (as := [vi 0]) (b := 175) d_Mo_dsaSign_170 cs_Mo_dsaSign_170 (k_175 S) (c_Mo_put1 S ((RS1.rf F2).rf (F3.tr F4)) (by omega) (by rw [e4, e3, e2]; exact spPart_lt (spPart_lt (spStart_lt (by decide) (by decide)) _ _) _ _)) rfl rfl rfl (fun u_170 q_170 => ?_)
              obtain ⟨I5, L5⟩ := u_170
              obtain ⟨F5, e5, k5⟩ := q_170
              dsimp only at F5 e5 k5
              show AW l G M_Mo_dsaSign P 173 [(3, vi i), (2, vi 0), (1, vi 2), (0, vr 175)] [] (sD h I5 L5)
              refine ax_iinc (lv' := [(3, vi (i + 1)), (2, vi 0), (1, vi 2), (0, vr 175)]) d_Mo_dsaSign_173 rfl (by decide) ⟨(by omega), (by omega)⟩ rfl ?_
              refine aw_goto (tgt := 142) d_Mo_dsaSign_176 (by decide) ?_
              exact ih_142 _ (by omega) (i + 1) I5 L5 (by omega) (F4.tr F5) (by rw [e5, e4, show (i + 1).toNat = i.toNat + 1 by omega]; show _ = spTake (spPart (spR I3 L3) (rnR I) i.toNat) (rnR I (i.toNat : Int)); rw [Int.toNat_of_nonneg hi.1, vv]) (by omega) rfl
        skip
        refine aw_sub (lv' := [(3, vi 0), (2, vi 0), (1, vi 2), (0, vr 175)]) (by simp) ?_
        exact lp_142 _ 0 I3 L3 (by omega) (RF.rfl') (rfl) (by omega) rfl
    · skip
      refine aw_aload_n d_Mo_dsaSign_58 rfl rfl ?_
      refine ax_getR (b := 186) d_Mo_dsaSign_59 fd_Mo_18 (k_175 S) (r_175_2 S) ?_
      refine aw_iconst d_Mo_dsaSign_62 ⟨by decide, by decide⟩ ?_
      refine ax_ialde (x := I 186 0) d_Mo_dsaSign_63 (k_186 S) (by omega) (by rw [n_186 S]; omega) (Eq.trans (e0 186 0 (by omega)) (rfl)) ?_
      refine aw_if_ne (tgt := 71) d_Mo_dsaSign_64 (by decide) (fun c_64 => ?_) (fun c_64 => ?_)
      · skip
        refine aw_iconst d_Mo_dsaSign_71 ⟨by decide, by decide⟩ ?_
        refine aw_iconst d_Mo_dsaSign_72 ⟨by decide, by decide⟩ ?_
        refine ax_V (st := []) (as := [vi 0, vi 2]) (b := 175) (v := some (vi 0)) (h' := sD h (a_up u_35 175 4 2) L) d_Mo_dsaSign_73 cs_Mo_dsaSign_73 (k_175 S) (c_good0 S (rfl)) rfl rfl rfl ?_
        show AW l G M_Mo_dsaSign P 76 [(0, vr 175), (1, vi 2), (2, vi 0)] [vi 0] (sD h (a_up u_35 175 4 2) L)
        refine aw_if_eq (tgt := 105) d_Mo_dsaSign_76 (by decide) (fun c_76 => ?_) (fun c_76 => False.elim (by omega))
        refine aw_iconst d_Mo_dsaSign_105 ⟨by decide, by decide⟩ ?_
        exact aw_iret d_Mo_dsaSign_106 rfl (hP _ _ (rsNo 0 2 (c4_2 ⟨by decide, by decide⟩ (fun z => by rw [e0 186 4 (by omega)] at cx_; have z1 := z.1; have z2 := z.2; omega)) (by decide) a_up_at (fR0.fr R00 (FR.c0 (p := fun _ => False)) (by intro a x y; exact ⟨fun z => z, fun z => z⟩) (fun z => z))))
      · skip
        refine aw_iconst d_Mo_dsaSign_67 ⟨by decide, by decide⟩ ?_
        refine aw_goto (tgt := 72) d_Mo_dsaSign_68 (by decide) ?_
        refine aw_iconst d_Mo_dsaSign_72 ⟨by decide, by decide⟩ ?_
        refine ax_V (st := []) (as := [vi 1, vi 2]) (b := 175) (v := some (vi 1)) (h' := sD h (a_up u_35 175 4 0) L) d_Mo_dsaSign_73 cs_Mo_dsaSign_73 (k_175 S) (c_good1 S (rfl)) rfl rfl rfl ?_
        show AW l G M_Mo_dsaSign P 76 [(0, vr 175), (1, vi 2), (2, vi 0)] [vi 1] (sD h (a_up u_35 175 4 0) L)
        refine aw_if_eq (tgt := 105) d_Mo_dsaSign_76 (by decide) (fun c_76 => False.elim (by omega)) (fun c_76 => ?_)
        have bb : (0 : Int) ≠ 0 ∨ I 186 4 ≤ 255 := by rw [e0 186 4 (by omega)] at cx_; omega
        refine aw_aload_n d_Mo_dsaSign_79 rfl rfl ?_
        refine aw_aload_n d_Mo_dsaSign_80 rfl rfl ?_
        refine ax_getR (b := 186) d_Mo_dsaSign_81 fd_Mo_18 (k_175 S) (r_175_2 S) ?_
        refine aw_iconst d_Mo_dsaSign_84 ⟨by decide, by decide⟩ ?_
        refine ax_ialde (x := I 186 2) d_Mo_dsaSign_85 (k_186 S) (by omega) (by rw [n_186 S]; omega) (Eq.trans (a_up_ne (Or.inl (by decide))) (Eq.trans (e0 186 2 (by omega)) (rfl))) ?_
        refine aw_aload_n d_Mo_dsaSign_86 rfl rfl ?_
        refine ax_V (st := [vi (I 186 2), vr 175]) (as := []) (b := 175) (v := some (vi 4896)) (h' := sD h (a_up u_35 175 4 0) L) d_Mo_dsaSign_87 cs_Mo_dsaSign_87 (k_175 S) (c_Mo_secretLength (z := 4896) S (by rw [dr2_33 D1, dr2_32 D1, dr2_26 D1]; decide) (by rw [dr2_32 D1, dr2_26 D1]; decide)) rfl rfl rfl ?_
        show AW l G M_Mo_dsaSign P 90 [(0, vr 175), (1, vi 2), (2, vi 0)] [vi 4896, vi (I 186 2), vr 175] (sD h (a_up u_35 175 4 0) L)
        refine aw_icmp_ne (tgt := 97) d_Mo_dsaSign_90 (by decide) (fun c_90 => ?_) (fun c_90 => ?_)
        · skip
          refine aw_iconst d_Mo_dsaSign_97 ⟨by decide, by decide⟩ ?_
          refine aw_iconst d_Mo_dsaSign_98 ⟨by decide, by decide⟩ ?_
          refine ax_V (st := []) (as := [vi 0, vi 3]) (b := 175) (v := some (vi 0)) (h' := sD h (a_up u_35 175 4 3) L) d_Mo_dsaSign_99 cs_Mo_dsaSign_99 (k_175 S) (c_good0 S (by rw [a_up_up])) rfl rfl rfl ?_
          show AW l G M_Mo_dsaSign P 102 [(0, vr 175), (1, vi 2), (2, vi 0)] [vi 0] (sD h (a_up u_35 175 4 3) L)
          refine aw_if_ne (tgt := 107) d_Mo_dsaSign_102 (by decide) (fun c_102 => False.elim (by omega)) (fun c_102 => ?_)
          refine aw_iconst d_Mo_dsaSign_105 ⟨by decide, by decide⟩ ?_
          exact aw_iret d_Mo_dsaSign_106 rfl (hP _ _ (rsNo 0 3 (c4_3 ⟨by decide, by decide⟩ ⟨bb, by omega⟩ (fun z => by have z1 : I 186 2 = 4896 := z; omega)) (by decide) a_up_at (fR0.fr R00 (FR.c0 (p := fun _ => False)) (by intro a x y; exact ⟨fun z => z, fun z => z⟩) (fun z => z))))
        · skip
          refine aw_iconst d_Mo_dsaSign_93 ⟨by decide, by decide⟩ ?_
          refine aw_goto (tgt := 98) d_Mo_dsaSign_94 (by decide) ?_
          refine aw_iconst d_Mo_dsaSign_98 ⟨by decide, by decide⟩ ?_
          refine ax_V (st := []) (as := [vi 1, vi 3]) (b := 175) (v := some (vi 1)) (h' := sD h (a_up u_35 175 4 0) L) d_Mo_dsaSign_99 cs_Mo_dsaSign_99 (k_175 S) (c_good1 S (by rw [a_up_up])) rfl rfl rfl ?_
          show AW l G M_Mo_dsaSign P 102 [(0, vr 175), (1, vi 2), (2, vi 0)] [vi 1] (sD h (a_up u_35 175 4 0) L)
          refine aw_if_ne (tgt := 107) d_Mo_dsaSign_102 (by decide) (fun c_102 => ?_) (fun c_102 => False.elim (by omega))
          refine aw_aload_n d_Mo_dsaSign_107 rfl rfl ?_
          refine aw_aload_n d_Mo_dsaSign_108 rfl rfl ?_
          refine ax_getR (b := 177) d_Mo_dsaSign_109 fd_Mo_15 (k_175 S) (r_175_1 S) ?_
          refine aw_iconst d_Mo_dsaSign_112 ⟨by decide, by decide⟩ ?_
          refine ax_aald (b := 180) d_Mo_dsaSign_113 ⟨by rw [(k_177 S)]; decide, by rw [(k_177 S)]; decide⟩ (by omega) (by rw [n_177 S]; omega) (g_177 S (j := 2) (by decide) (by decide)) ?_
          refine aw_bipush d_Mo_dsaSign_114 ⟨by decide, by decide⟩ (by decide) ?_
          refine aw_iload_n d_Mo_dsaSign_116 rfl rfl ?_
          have kz : ∀ a j, (a < 175 ∨ 176 ≤ a ∧ a ≤ 202 ∨ 204 ≤ a) → (a_up u_35 175 4 0) a j = I a j := fun a j x => (a_up_ne (Or.inl (by omega))).trans (e0 a j x)
          have rb1 : RB (a_up u_35 175 4 0) := ⟨fun s a b => by rw [kz 186 s (by omega)]; exact rb.1 s a b, by rw [R1.2.1]; exact rb.2⟩
          have k4 := kz 186 4 (by omega)
          have k3 := kz 186 3 (by omega)
          have f180 : ∀ x : Int, (fun k => (a_up u_35 175 4 0) 180 (x + k)) = (fun k => I 180 (x + k)) := fun x => funext (fun k => kz 180 _ (by omega))
          have f0 : ∀ a : Nat, a = 181 ∨ a = 182 → (fun k => (a_up u_35 175 4 0) a (0 + k)) = (fun k => I a (0 + k)) := fun a ha => funext (fun k => kz a _ (by omega))
          refine ax_Vr (st := []) (as := [vr 180, vi 64, vi 0]) (b := 175) d_Mo_dsaSign_117 cs_Mo_dsaSign_117 (k_175 S) (c_Mo_digestMessage0 (f := 180) (pa := 64) S D1.1 rb1 ⟨k_180 S, by decide, by decide⟩ (by rw [n_180 S]; decide)) rfl rfl rfl (fun u_117 q_117 => ?_)
          obtain ⟨I1, L1⟩ := u_117
          obtain ⟨F1, h1⟩ := q_117
          dsimp only at F1 h1
          rw [k3, f180 64, f0 181 (Or.inl rfl), k4, f0 182 (Or.inr rfl)] at h1
          have h1 : HR I1 265 0 64 (muR I (fun k => I 180 (64 + k)) (0 : Int)) := h1
          have RS1 := D1.1.fr F1 (by decide)
          show AW l G M_Mo_dsaSign P 120 [(0, vr 175), (1, vi 2), (2, vi 0)] [] (sD h I1 L1)
          refine aw_aload_n d_Mo_dsaSign_120 rfl rfl ?_
          refine aw_bipush d_Mo_dsaSign_121 ⟨by decide, by decide⟩ (by decide) ?_
          refine ax_Vr (st := []) (as := [vi 12]) (b := 175) d_Mo_dsaSign_123 cs_Mo_dsaSign_123 (k_175 S) (c_Mo_begin12 S) rfl rfl rfl (fun u_123 q_123 => ?_)
          obtain ⟨I2, L2⟩ := u_123
          obtain ⟨F2, e2, k2⟩ := q_123
          dsimp only at F2 e2 k2
          show AW l G M_Mo_dsaSign P 126 [(0, vr 175), (1, vi 2), (2, vi 0)] [] (sD h I2 L2)
          refine aw_aload_n d_Mo_dsaSign_126 rfl rfl ?_
          refine aw_aload_n d_Mo_dsaSign_127 rfl rfl ?_
          refine ax_getR (b := 177) d_Mo_dsaSign_128 fd_Mo_15 (k_175 S) (r_175_1 S) ?_
          refine aw_iconst d_Mo_dsaSign_131 ⟨by decide, by decide⟩ ?_
          refine ax_aald (b := 180) d_Mo_dsaSign_132 ⟨by rw [(k_177 S)]; decide, by rw [(k_177 S)]; decide⟩ (by omega) (by rw [n_177 S]; omega) (g_177 S (j := 2) (by decide) (by decide)) ?_
          refine aw_bipush d_Mo_dsaSign_133 ⟨by decide, by decide⟩ (by decide) ?_
          refine aw_bipush d_Mo_dsaSign_135 ⟨by decide, by decide⟩ (by decide) ?_
          refine ax_Vr (st := []) (as := [vr 180, vi 32, vi 32]) (b := 175) d_Mo_dsaSign_137 cs_Mo_dsaSign_137 (k_175 S) (c_Mo_put3 S (RS1.rf F2) (by omega) (by rw [e2]; exact spStart_lt (by decide) (by decide)) ⟨k_180 S, by decide, by decide⟩ (by rw [n_180 S]; decide)) rfl rfl rfl (fun u_137 q_137 => ?_)
          obtain ⟨I3, L3⟩ := u_137
          obtain ⟨F3, e3, k3⟩ := q_137
          dsimp only at F3 e3 k3
          show AW l G M_Mo_dsaSign P 140 [(0, vr 175), (1, vi 2), (2, vi 0)] [] (sD h I3 L3)
          refine aw_iconst d_Mo_dsaSign_140 ⟨by decide, by decide⟩ ?_
          refine aw_istore_n (lv' := [(3, vi 0), (0, vr 175), (1, vi 2), (2, vi 0)]) d_Mo_dsaSign_141 rfl (by decide) rfl ?_
          have lp_142 : ∀ (n_ : Nat) (i : Int) (K4 : Nat → Int → Int) (M4 : Nat → Int → Int), (0 ≤ i ∧ i ≤ 32) → (RF I3 L3 K4 M4) → (spR K4 M4 = spPart (spR I3 L3) (rnR I) i.toNat) → (K4 175 18 = 12) → ((32 - i).toNat) = n_ → AW l G M_Mo_dsaSign P 142 [(3, vi i), (2, vi 0), (1, vi 2), (0, vr 175)] [] (sD h K4 M4) := by
            intro n_
            induction n_ using Nat.strongRecOn with
            | _ n_ ih_142 =>
            intro i K4 M4 hi F4 e4 k4_ hm_142
            refine aw_iload_n d_Mo_dsaSign_142 rfl rfl ?_
            refine aw_bipush d_Mo_dsaSign_143 ⟨by decide, by decide⟩ (by decide) ?_
            refine aw_icmp_ge (tgt := 179) d_Mo_dsaSign_145 (by decide) (fun c_145 => ?_) (fun c_145 => ?_)
            · skip
              refine aw_aload_n d_Mo_dsaSign_179 rfl rfl ?_
              refine aw_aload_n d_Mo_dsaSign_180 rfl rfl ?_
              refine ax_getR (b := 265) d_Mo_dsaSign_181 fd_Mo_93 (k_175 S) (r_175_41 S) ?_
              refine aw_iconst d_Mo_dsaSign_184 ⟨by decide, by decide⟩ ?_
              refine aw_bipush d_Mo_dsaSign_185 ⟨by decide, by decide⟩ (by decide) ?_
              refine ax_Vr (st := []) (as := [vr 265, vi 0, vi 64]) (b := 175) d_Mo_dsaSign_187 cs_Mo_dsaSign_187 (k_175 S) (c_Mo_put3 S ((RS1.rf F2).rf (F3.tr F4)) (by omega) (by rw [e4, e3, e2]; exact spPart_lt (spPart_lt (spStart_lt (by decide) (by decide)) _ _) _ _) ⟨k_265 S, by decide, by decide⟩ (by rw [n_265 S]; decide)) rfl rfl rfl (fun u_187 q_187 => ?_)
              obtain ⟨I6, L6⟩ := u_187
              obtain ⟨F6, e6, k6⟩ := q_187
              dsimp only at F6 e6 k6
              have G6 := (F2.tr (F3.tr F4)).tr F6
              have eS : spTurn (spR I6 L6) = rhS (fun k => I 180 (32 + k)) (rnR I) (muR I (fun k => I 180 (64 + k)) (0 : Int)) := by rw [e6, e4, e3, e2, show i.toNat = 32 by omega, show Int.toNat 32 = 32 from rfl, show Int.toNat 64 = 64 from rfl, show (fun k => I2 180 (32 + k)) = (fun k => I 180 (32 + k)) from funext (fun z => (F2.1 180 _ (Or.inl (by decide))).trans ((F1.1 180 _ (by decide) (Or.inl (by decide))).trans (kz 180 _ (by omega)))), spPart_congr (f := fun k => K4 265 (0 + k)) (g := (muR I (fun k => I 180 (64 + k)) (0 : Int))) (fun k hk => by rw [(F2.tr (F3.tr F4)).1 265 _ (Or.inl (by decide)), h1 k (by omega) (by omega)]; exact (spOut_m _ _).symm)]; rfl
              show AW l G M_Mo_dsaSign P 190 [(3, vi i), (2, vi 0), (1, vi 2), (0, vr 175)] [] (sD h I6 L6)
              refine aw_aload_n d_Mo_dsaSign_190 rfl rfl ?_
              refine aw_aload_n d_Mo_dsaSign_191 rfl rfl ?_
              refine ax_getR (b := 266) d_Mo_dsaSign_192 fd_Mo_96 (k_175 S) (r_175_42 S) ?_
              refine aw_iconst d_Mo_dsaSign_195 ⟨by decide, by decide⟩ ?_
              refine aw_bipush d_Mo_dsaSign_196 ⟨by decide, by decide⟩ (by decide) ?_
              refine ax_Vr (st := []) (as := [vr 266, vi 0, vi 64]) (b := 175) d_Mo_dsaSign_198 cs_Mo_dsaSign_198 (k_175 S) (c_Mo_give S (RS1.rf G6) (by omega) (by rw [e6, e4, e3, e2]; exact (spPart_lt (spPart_lt (spPart_lt (spStart_lt (by decide) (by decide)) _ _) _ _) _ _).1) ⟨k_266 S, by decide, by decide, by decide⟩ (by rw [n_266 S]; decide)) rfl rfl rfl (fun u_198 q_198 => ?_)
              obtain ⟨I7, L7⟩ := u_198
              obtain ⟨F7, f7, e7, k7⟩ := q_198
              dsimp only at F7 f7 e7 k7
              rw [eS] at F7
              have h7 : HR I7 266 0 64 (rhR I (0 : Int)) := HR.give F7 (by decide)
              have G7 : FR (fun a => a = 265 ∨ a = 266) (a_up u_35 175 4 0) L I7 L7 := (F1.tr (G6.fr (p := fun a => a = 265)) (fun a x => ⟨x, x⟩)).tr (FR.give (p := fun a => a = 266) F7 f7 rfl) (by intro a x; omega)
              have D7 := D1.fr G7 (by decide)
              have m7 : HR I7 265 0 64 (muR I (fun k => I 180 (64 + k)) (0 : Int)) := (h1.fr (G6.fr (p := fun _ => False)) (fun z => z) (by decide)).fr (FR.give (p := fun a => a = 266) F7 f7 rfl) (by decide) (by decide)
              show AW l G M_Mo_dsaSign P 201 [(3, vi i), (2, vi 0), (1, vi 2), (0, vr 175)] [] (sD h I7 L7)
              refine aw_aload_n d_Mo_dsaSign_201 rfl rfl ?_
              refine ax_getIe (x := 2) d_Mo_dsaSign_202 fd_Mo_229 (k_175 S) (dr2_33 D7) ?_
              refine aw_iconst d_Mo_dsaSign_205 ⟨by decide, by decide⟩ ?_
              refine aw_icmp_ne (tgt := 213) d_Mo_dsaSign_206 (by decide) (fun c_206 => False.elim (by omega)) (fun c_206 => ?_)
              refine aw_iconst d_Mo_dsaSign_209 ⟨by decide, by decide⟩ ?_
              refine aw_goto (tgt := 214) d_Mo_dsaSign_210 (by decide) ?_
              refine aw_istore_n (lv' := [(3, vi 3), (2, vi 0), (1, vi 2), (0, vr 175)]) d_Mo_dsaSign_214 rfl (by decide) rfl ?_
              refine aw_aload_n d_Mo_dsaSign_215 rfl rfl ?_
              refine aw_iconst d_Mo_dsaSign_216 ⟨by decide, by decide⟩ ?_
              refine ax_putI d_Mo_dsaSign_217 fd_Mo_216 (k_175 S) (by decide) rfl ?_
              refine aw_iconst d_Mo_dsaSign_220 ⟨by decide, by decide⟩ ?_
              refine aw_istore (lv' := [(4, vi 0), (3, vi 3), (2, vi 0), (1, vi 2), (0, vr 175)]) d_Mo_dsaSign_221 (by decide) rfl ?_
              have lp_223 : ∀ (n_ : Nat) (i : Int) (K5 : Nat → Int → Int), (0 ≤ i ∧ i ≤ 15) → (FR (fun a => 205 ≤ a ∧ a ≤ 219) I7 L7 K5 L7) → (K5 175 23 = 8 * (96 * i)) → (∀ m, 0 ≤ m → m < i → eqQ (K5 (205 + m.toNat)) (sgSs 2 (rkR I) m)) → ((15 - i).toNat) = n_ → AW l G M_Mo_dsaSign P 223 [(4, vi i), (3, vi 3), (2, vi 0), (1, vi 2), (0, vr 175)] [] (sD h K5 L7) := by
                intro n_
                induction n_ using Nat.strongRecOn with
                | _ n_ ih_223 =>
                intro i K5 hi5 G5 b5 s5 hm_223
                have sk5 : ∀ x, K5 180 x = I 180 x := fun x => (G5.1 _ _ (by decide) (Or.inl (by decide))).trans ((G7.1 _ _ (by decide) (Or.inl (by decide))).trans (kz 180 x (by omega)))
                refine aw_iload d_Mo_dsaSign_223 rfl ?_
                refine aw_aload_n d_Mo_dsaSign_225 rfl rfl ?_
                refine ax_getIe (x := 7) d_Mo_dsaSign_226 fd_Mo_226 (k_175 S) (Eq.trans (G5.1 175 32 (by omega) (Or.inr (by decide))) (dr2_32 D7)) ?_
                refine aw_aload_n d_Mo_dsaSign_229 rfl rfl ?_
                refine ax_getIe (x := 8) d_Mo_dsaSign_230 fd_Mo_223 (k_175 S) (Eq.trans (G5.1 175 26 (by omega) (Or.inr (by decide))) (dr2_26 D7)) ?_
                refine ax_iadd d_Mo_dsaSign_233 ⟨(by omega), (by omega)⟩ ?_
                refine ax_ti (x := 15) (by decide) ?_
                refine aw_icmp_ge (tgt := 268) d_Mo_dsaSign_234 (by decide) (fun c_234 => ?_) (fun c_234 => ?_)
                · skip
                  refine aw_iconst d_Mo_dsaSign_268 ⟨by decide, by decide⟩ ?_
                  refine aw_istore (lv' := [(4, vi 0), (3, vi 3), (2, vi 0), (1, vi 2), (0, vr 175)]) d_Mo_dsaSign_269 (by decide) rfl ?_
                  have lp_271 : ∀ (n_ : Nat) (i : Int) (K6 : Nat → Int → Int), (0 ≤ i ∧ i ≤ 8) → (FR (fun a => 205 ≤ a ∧ a ≤ 227) I7 L7 K6 L7) → (K6 175 23 = 8 * (1440 + 416 * i)) → (∀ m, 0 ≤ m → m < 15 → eqQ (K6 (205 + m.toNat)) (sgSs 2 (rkR I) m)) → (∀ m, 0 ≤ m → m < i → eqQ (K6 (205 + (15 + m).toNat)) (sgDs 2 (rkR I) m)) → ((8 - i).toNat) = n_ → AW l G M_Mo_dsaSign P 271 [(4, vi i), (2, vi 0), (1, vi 2), (0, vr 175)] [] (sD h K6 L7) := by
                    intro n_
                    induction n_ using Nat.strongRecOn with
                    | _ n_ ih_271 =>
                    intro i K6 hi6 Gy b6 s6 t6 hm_271
                    have sk6 : ∀ x, K6 180 x = I 180 x := fun x => (Gy.1 _ _ (by decide) (Or.inl (by decide))).trans ((G7.1 _ _ (by decide) (Or.inl (by decide))).trans (kz 180 x (by omega)))
                    refine aw_iload d_Mo_dsaSign_271 rfl ?_
                    refine aw_aload_n d_Mo_dsaSign_273 rfl rfl ?_
                    refine ax_getIe (x := 8) d_Mo_dsaSign_274 fd_Mo_223 (k_175 S) (Eq.trans (Gy.1 175 26 (by omega) (Or.inr (by decide))) (dr2_26 D7)) ?_
                    refine aw_icmp_ge (tgt := 314) d_Mo_dsaSign_277 (by decide) (fun c_277 => ?_) (fun c_277 => ?_)
                    · skip
                      refine aw_sub (lv' := [(0, vr 175)]) (by simp) ?_
                      exact sB20 S (fR0.fr (fR0.fr R1 G7 (r := qN) (by intro a x y; exact ⟨fun z => z, by omega⟩) (by decide)) Gy (by intro a x y; exact ⟨fun z => z, by omega⟩) (by decide)) (D7.fr Gy (by decide)) (m7.fr Gy (by decide) (by decide)) (h7.fr Gy (by decide) (by decide)) s6 (fun m a b => t6 m a (by omega)) ⟨bb, by omega⟩ (by show I 186 2 = 4896; omega) hP
                    · skip
                      refine aw_aload_n d_Mo_dsaSign_280 rfl rfl ?_
                      refine aw_aload_n d_Mo_dsaSign_281 rfl rfl ?_
                      refine ax_getR (b := 177) d_Mo_dsaSign_282 fd_Mo_15 (k_175 S) (r_175_1 S) ?_
                      refine aw_iconst d_Mo_dsaSign_285 ⟨by decide, by decide⟩ ?_
                      refine ax_aald (b := 180) d_Mo_dsaSign_286 ⟨by rw [(k_177 S)]; decide, by rw [(k_177 S)]; decide⟩ (by omega) (by rw [n_177 S]; omega) (g_177 S (j := 2) (by decide) (by decide)) ?_
                      refine aw_sipush d_Mo_dsaSign_287 ⟨by decide, by decide⟩ (by decide) ?_
                      refine aw_aload_n d_Mo_dsaSign_290 rfl rfl ?_
                      refine ax_getR (b := 204) d_Mo_dsaSign_291 fd_Mo_76 (k_175 S) (r_175_28 S) ?_
                      refine aw_bipush d_Mo_dsaSign_294 ⟨by decide, by decide⟩ (by decide) ?_
                      refine aw_iload d_Mo_dsaSign_296 rfl ?_
                      refine ax_iadd d_Mo_dsaSign_298 ⟨(by omega), (by omega)⟩ ?_
                      refine ax_aald (b := 205 + (15 + i).toNat) d_Mo_dsaSign_299 ⟨by rw [(k_204 S)]; decide, by rw [(k_204 S)]; decide⟩ (by omega) (by rw [n_204 S]; omega) (g_204 S (by omega) (by omega)) ?_
                      refine aw_sipush d_Mo_dsaSign_300 ⟨by decide, by decide⟩ (by decide) ?_
                      refine aw_bipush d_Mo_dsaSign_303 ⟨by decide, by decide⟩ (by decide) ?_
                      refine ax_Vr (st := []) (as := [vr 180, vi 128, vr (205 + (15 + i).toNat), vi 4096, vi 13]) (b := 175) d_Mo_dsaSign_305 cs_Mo_dsaSign_305 (k_175 S) (c_Mo_unpack (pa := 128) (c := 1440 + 416 * i) (d := 13) (b := 4096) S ⟨k_180 S, by decide, by decide⟩ ⟨kr_204 S (by omega), by omega, nr_204 S (by omega)⟩ (by omega) (by decide) (by omega) (by decide) (by rw [n_180 S]; omega)) rfl rfl rfl (fun u_305 q_305 => ?_)
                      obtain ⟨q1, q2, q3⟩ := q_305
                      have Fy : FR (fun a => 220 ≤ a ∧ a ≤ 227) K6 L7 u_305 L7 := FR.unp q1 (by omega)
                      show AW l G M_Mo_dsaSign P 308 [(4, vi i), (2, vi 0), (1, vi 2), (0, vr 175)] [] (sD h u_305 L7)
                      refine ax_iinc (lv' := [(4, vi (i + 1)), (2, vi 0), (1, vi 2), (0, vr 175)]) d_Mo_dsaSign_308 rfl (by decide) ⟨(by omega), (by omega)⟩ rfl ?_
                      refine aw_goto (tgt := 271) d_Mo_dsaSign_311 (by decide) ?_
                      exact ih_271 _ (by omega) (i + 1) u_305 (by omega) (Gy.tr (Fy.mono (r := fun a => 205 ≤ a ∧ a ≤ 227) (by intro a x; omega)) (fun a x => ⟨x, x⟩)) (by omega) (fun m a b x u v => by rw [q1 _ _ (by omega) (Or.inl (by omega))]; exact s6 m a b x u v) (fun m a b x u v => by by_cases z : m = i; exact (by rw [z, q3 x u v, show (fun j => K6 180 (128 + (1440 + 416 * i) + j) % 256) = (fun j => I 180 (1568 + 416 * i + j) % 256) from funext (fun y => by rw [sk6, show (128 + (1440 + 416 * i) : Int) = 1568 + 416 * i by omega])]; show _ = 4096 - gR (fun k => rkR I (1568 + 416 * i + k)) 13 x; rw [gR_congr (g := fun j => I 180 (1568 + 416 * i + j) % 256) (g' := fun k => rkR I (1568 + 416 * i + k)) (fun y y0 y1 => (gW_in (s := 2) (by omega) (by rw [show I 186 2 = 4896 by omega]; omega)).symm)]); exact (by rw [q1 _ _ (by omega) (Or.inl (by omega))]; exact t6 m a (by omega) x u v)) rfl
                  skip
                  refine aw_sub (lv' := [(4, vi 0), (2, vi 0), (1, vi 2), (0, vr 175)]) (by simp) ?_
                  exact lp_271 _ 0 K5 (by omega) (G5.mono (by intro a x; omega)) (by omega) (fun m a b => s5 m a (by omega)) (fun m a b => by omega) rfl
                · skip
                  refine aw_aload_n d_Mo_dsaSign_237 rfl rfl ?_
                  refine aw_aload_n d_Mo_dsaSign_238 rfl rfl ?_
                  refine ax_getR (b := 177) d_Mo_dsaSign_239 fd_Mo_15 (k_175 S) (r_175_1 S) ?_
                  refine aw_iconst d_Mo_dsaSign_242 ⟨by decide, by decide⟩ ?_
                  refine ax_aald (b := 180) d_Mo_dsaSign_243 ⟨by rw [(k_177 S)]; decide, by rw [(k_177 S)]; decide⟩ (by omega) (by rw [n_177 S]; omega) (g_177 S (j := 2) (by decide) (by decide)) ?_
                  refine aw_sipush d_Mo_dsaSign_244 ⟨by decide, by decide⟩ (by decide) ?_
                  refine aw_aload_n d_Mo_dsaSign_247 rfl rfl ?_
                  refine ax_getR (b := 204) d_Mo_dsaSign_248 fd_Mo_76 (k_175 S) (r_175_28 S) ?_
                  refine aw_iload d_Mo_dsaSign_251 rfl ?_
                  refine ax_aald (b := 205 + i.toNat) d_Mo_dsaSign_253 ⟨by rw [(k_204 S)]; decide, by rw [(k_204 S)]; decide⟩ (by omega) (by rw [n_204 S]; omega) (g_204 S (by omega) (by omega)) ?_
                  refine aw_aload_n d_Mo_dsaSign_254 rfl rfl ?_
                  refine ax_getIe (x := 2) d_Mo_dsaSign_255 fd_Mo_229 (k_175 S) (Eq.trans (G5.1 175 33 (by omega) (Or.inr (by decide))) (dr2_33 D7)) ?_
                  refine aw_iload_n d_Mo_dsaSign_258 rfl rfl ?_
                  refine ax_Vr (st := []) (as := [vr 180, vi 128, vr (205 + i.toNat), vi 2, vi 3]) (b := 175) d_Mo_dsaSign_259 cs_Mo_dsaSign_259 (k_175 S) (c_Mo_unpack (pa := 128) (c := 96 * i) (d := 3) (b := 2) S ⟨k_180 S, by decide, by decide⟩ ⟨kr_204 S (by omega), by omega, nr_204 S (by omega)⟩ (by omega) (by decide) (by omega) (by decide) (by rw [n_180 S]; omega)) rfl rfl rfl (fun u_259 q_259 => ?_)
                  obtain ⟨q1, q2, q3⟩ := q_259
                  have Fx : FR (fun a => 205 ≤ a ∧ a ≤ 219) K5 L7 u_259 L7 := FR.unp q1 (by omega)
                  show AW l G M_Mo_dsaSign P 262 [(4, vi i), (3, vi 3), (2, vi 0), (1, vi 2), (0, vr 175)] [] (sD h u_259 L7)
                  refine ax_iinc (lv' := [(4, vi (i + 1)), (3, vi 3), (2, vi 0), (1, vi 2), (0, vr 175)]) d_Mo_dsaSign_262 rfl (by decide) ⟨(by omega), (by omega)⟩ rfl ?_
                  refine aw_goto (tgt := 223) d_Mo_dsaSign_265 (by decide) ?_
                  exact ih_223 _ (by omega) (i + 1) u_259 (by omega) (G5.tr Fx (fun a x => ⟨x, x⟩)) (by omega) (fun m a b x u v => by by_cases z : m = i; exact (by rw [z, q3 x u v, show (fun j => K5 180 (128 + 96 * i + j) % 256) = (fun j => I 180 (128 + 96 * i + j) % 256) from funext (fun y => by rw [sk5])]; show _ = 2 - gR (fun k => rkR I (128 + 96 * i + k)) 3 x; rw [gR_congr (g := fun j => I 180 (128 + 96 * i + j) % 256) (g' := fun k => rkR I (128 + 96 * i + k)) (fun y y0 y1 => (gW_in (s := 2) (by omega) (by rw [show I 186 2 = 4896 by omega]; omega)).symm)]); exact (by rw [q1 _ _ (by omega) (Or.inl (by omega))]; exact s5 m a (by omega) x u v)) rfl
              skip
              exact lp_223 _ 0 (a_up I7 175 23 0) (by omega) (FR.b0) (a_up_at.trans (by decide)) (fun m a b => by omega) rfl
            · skip
              refine aw_aload_n d_Mo_dsaSign_148 rfl rfl ?_
              refine aw_aload_n d_Mo_dsaSign_149 rfl rfl ?_
              refine ax_getR (b := 186) d_Mo_dsaSign_150 fd_Mo_18 (k_175 S) (r_175_2 S) ?_
              refine aw_iconst d_Mo_dsaSign_153 ⟨by decide, by decide⟩ ?_
              refine ax_ialde (x := I 186 0) d_Mo_dsaSign_154 (k_186 S) (by omega) (by rw [n_186 S]; omega) (Eq.trans ((F2.tr (F3.tr F4)).1 186 0 (Or.inl (by decide))) (Eq.trans (F1.1 186 0 (by decide) (Or.inl (by decide))) (Eq.trans (kz 186 0 (by omega)) (rfl)))) ?_
              refine aw_if_ne (tgt := 162) d_Mo_dsaSign_155 (by decide) (fun c_155 => ?_) (fun c_155 => ?_)
              · skip
                refine aw_aload_n d_Mo_dsaSign_162 rfl rfl ?_
                refine ax_getR (b := 177) d_Mo_dsaSign_163 fd_Mo_15 (k_175 S) (r_175_1 S) ?_
                refine aw_iconst d_Mo_dsaSign_166 ⟨by decide, by decide⟩ ?_
                refine ax_aald (b := 178) d_Mo_dsaSign_167 ⟨by rw [(k_177 S)]; decide, by rw [(k_177 S)]; decide⟩ (by omega) (by rw [n_177 S]; omega) (g_177 S (j := 0) (by decide) (by decide)) ?_
                refine aw_iload_n d_Mo_dsaSign_168 rfl rfl ?_
                refine ax_balde (x := I 178 i) d_Mo_dsaSign_169 (k_178 S) (by omega) (by rw [n_178 S]; omega) (Eq.trans ((F2.tr (F3.tr F4)).1 178 i (Or.inl (by decide))) (Eq.trans (F1.1 178 i (by decide) (Or.inl (by decide))) (Eq.trans (kz 178 i (by omega)) (rfl)))) ?_
                have vv : rnR I i = I 178 i := by unfold rnR; rw [if_neg (by omega)]
                refine ax_Vr (st := []) (as := [vi (I 178 i)]) (b := 175) d_Mo_dsaSign_170 cs_Mo_dsaSign_170 (k_175 S) (c_Mo_put1 S ((RS1.rf F2).rf (F3.tr F4)) (by omega) (by rw [e4, e3, e2]; exact spPart_lt (spPart_lt (spStart_lt (by decide) (by decide)) _ _) _ _)) rfl rfl rfl (fun u_170 q_170 => ?_)
                obtain ⟨I5, L5⟩ := u_170
                obtain ⟨F5, e5, k5⟩ := q_170
                dsimp only at F5 e5 k5
                show AW l G M_Mo_dsaSign P 173 [(3, vi i), (2, vi 0), (1, vi 2), (0, vr 175)] [] (sD h I5 L5)
                refine ax_iinc (lv' := [(3, vi (i + 1)), (2, vi 0), (1, vi 2), (0, vr 175)]) d_Mo_dsaSign_173 rfl (by decide) ⟨(by omega), (by omega)⟩ rfl ?_
                refine aw_goto (tgt := 142) d_Mo_dsaSign_176 (by decide) ?_
                exact ih_142 _ (by omega) (i + 1) I5 L5 (by omega) (F4.tr F5) (by rw [e5, e4, show (i + 1).toNat = i.toNat + 1 by omega]; show _ = spTake (spPart (spR I3 L3) (rnR I) i.toNat) (rnR I (i.toNat : Int)); rw [Int.toNat_of_nonneg hi.1, vv]) (by omega) rfl
              · skip
                refine aw_iconst d_Mo_dsaSign_158 ⟨by decide, by decide⟩ ?_
                refine aw_goto (tgt := 170) d_Mo_dsaSign_159 (by decide) ?_
                have vv : rnR I i = 0 := by unfold rnR; rw [if_pos (by omega)]
                refine ax_Vr (st := []) (as := [vi 0]) (b := 175) d_Mo_dsaSign_170 cs_Mo_dsaSign_170 (k_175 S) (c_Mo_put1 S ((RS1.rf F2).rf (F3.tr F4)) (by omega) (by rw [e4, e3, e2]; exact spPart_lt (spPart_lt (spStart_lt (by decide) (by decide)) _ _) _ _)) rfl rfl rfl (fun u_170 q_170 => ?_)
                obtain ⟨I5, L5⟩ := u_170
                obtain ⟨F5, e5, k5⟩ := q_170
                dsimp only at F5 e5 k5
                show AW l G M_Mo_dsaSign P 173 [(3, vi i), (2, vi 0), (1, vi 2), (0, vr 175)] [] (sD h I5 L5)
                refine ax_iinc (lv' := [(3, vi (i + 1)), (2, vi 0), (1, vi 2), (0, vr 175)]) d_Mo_dsaSign_173 rfl (by decide) ⟨(by omega), (by omega)⟩ rfl ?_
                refine aw_goto (tgt := 142) d_Mo_dsaSign_176 (by decide) ?_
                exact ih_142 _ (by omega) (i + 1) I5 L5 (by omega) (F4.tr F5) (by rw [e5, e4, show (i + 1).toNat = i.toNat + 1 by omega]; show _ = spTake (spPart (spR I3 L3) (rnR I) i.toNat) (rnR I (i.toNat : Int)); rw [Int.toNat_of_nonneg hi.1, vv]) (by omega) rfl
          skip
          refine aw_sub (lv' := [(3, vi 0), (2, vi 0), (1, vi 2), (0, vr 175)]) (by simp) ?_
          exact lp_142 _ 0 I3 L3 (by omega) (RF.rfl') (rfl) (by omega) rfl
  · skip
    refine ax_V (st := [vr 175]) (as := [vi 0]) (b := 175) (v := some (vi 0)) (h' := sD h u_35 L) d_Mo_dsaSign_41 cs_Mo_dsaSign_41 (k_175 S) (by have z := c_Mo_context (l := l) (G := G) (h := h) (L := L) (I := u_35) (x := 0) S; rw [if_neg cx_] at z; exact z) rfl rfl rfl ?_
    show AW l G M_Mo_dsaSign P 44 [(0, vr 175), (1, vi 2), (2, vi 0)] [vi 0, vr 175] (sD h u_35 L)
    refine aw_if_eq (tgt := 71) d_Mo_dsaSign_44 (by decide) (fun c_44 => ?_) (fun c_44 => False.elim (by omega))
    refine aw_iconst d_Mo_dsaSign_71 ⟨by decide, by decide⟩ ?_
    refine aw_iconst d_Mo_dsaSign_72 ⟨by decide, by decide⟩ ?_
    refine ax_V (st := []) (as := [vi 0, vi 2]) (b := 175) (v := some (vi 0)) (h' := sD h (a_up u_35 175 4 2) L) d_Mo_dsaSign_73 cs_Mo_dsaSign_73 (k_175 S) (c_good0 S (rfl)) rfl rfl rfl ?_
    show AW l G M_Mo_dsaSign P 76 [(0, vr 175), (1, vi 2), (2, vi 0)] [vi 0] (sD h (a_up u_35 175 4 2) L)
    refine aw_if_eq (tgt := 105) d_Mo_dsaSign_76 (by decide) (fun c_76 => ?_) (fun c_76 => False.elim (by omega))
    refine aw_iconst d_Mo_dsaSign_105 ⟨by decide, by decide⟩ ?_
    exact aw_iret d_Mo_dsaSign_106 rfl (hP _ _ (rsNo 0 2 (c4_2 ⟨by decide, by decide⟩ (fun z => by rw [e0 186 4 (by omega)] at cx_; have z1 := z.1; have z2 := z.2; omega)) (by decide) a_up_at (fR0.fr R00 (FR.c0 (p := fun _ => False)) (by intro a x y; exact ⟨fun z => z, fun z => z⟩) (fun z => z))))
set_option maxHeartbeats 2000000 in
set_option maxRecDepth 100000 in
theorem sB2N {l : Launch} {G : a_G} {P : a_R → Hp → Prop} {h : Hp} {I L K M : Nat → Int → Int} (S : Shp h) (R0 : fR0 qN I L K M) (D : RD K M 2) (hm : HR K 265 0 64 (muR I (fun k => I 180 (64 + k)) (-1 : Int))) (hr : HR K 266 0 64 (rhR I (-1 : Int))) (hSs : ∀ m, 0 ≤ m → m < 15 → eqQ (K (205 + m.toNat)) (sgSs 2 (rkR I) m)) (hDs : ∀ m, 0 ≤ m → m < 8 → eqQ (K (205 + (15 + m).toNat)) (sgDs 2 (rkR I) m)) (b1 : ((-1 : Int) ≠ 0 ∨ I 186 4 ≤ 255) ∧ (I 186 0 = 32 ∨ I 186 0 = 0)) (b2 : I 186 2 = sSec 2) (hP : ∀ r_ h2_, RsR h I L (c4 ((0 ≤ (2 : Int) ∧ (2 : Int) < 3) ∧ ((-1 : Int) = 0 ∨ (-1 : Int) = -1)) (((-1 : Int) ≠ 0 ∨ I 186 4 ≤ 255) ∧ (I 186 0 = 32 ∨ I 186 0 = 0)) (I 186 2 = sSec (2 : Int)) (sgOk (2 : Int) (rkR I) ∧ sgRun (2 : Int) (rkR I) (rhR I (-1 : Int)) (muR I (fun k => I 180 (64 + k)) (-1 : Int)) 814 0 ≠ none)) (fun a => a = 183 ∨ a = 186) (fun v I' _ => ∃ t, sgRun (2 : Int) (rkR I) (rhR I (-1 : Int)) (muR I (fun k => I 180 (64 + k)) (-1 : Int)) 814 0 = some t ∧ v = t + 1 ∧ ((∀ j, j ≠ 5 → I' 186 j = I 186 j) ∧ I' 186 5 = sPkt (2 : Int)) ∧ HR I' 183 0 (sPkt (2 : Int)) (sgPk (2 : Int) (rkR I) (rhR I (-1 : Int)) (muR I (fun k => I 180 (64 + k)) (-1 : Int)) t) ∧ rng (I 183) (I' 183)) r_ h2_ → P r_ h2_) : AW l G M_Mo_dsaSign P 314 [(0, vr 175)] [] (sD h K M) := by
  have hk : HR K 180 0 4896 (rkR I) := fun z x y => by rw [R0.1 180 _ (by omega) (fun z => z), Int.zero_add]; exact (gW_in (s := 2) x (by rw [show I 186 2 = 4896 from b2]; exact y)).symm
  refine aw_iconst d_Mo_dsaSign_314 ⟨by decide, by decide⟩ ?_
  refine aw_istore (lv' := [(4, vi 0), (0, vr 175)]) d_Mo_dsaSign_315 (by decide) rfl ?_
  have lp_317 : ∀ (n_ : Nat) (t : Int) (K2 : Nat → Int → Int) (M2 : Nat → Int → Int), (0 ≤ t ∧ t ≤ 814) → (FR pAt K M K2 M2) → (sgRun 2 (rkR I) (rhR I (-1 : Int)) (muR I (fun k => I 180 (64 + k)) (-1 : Int)) 814 0 = sgRun 2 (rkR I) (rhR I (-1 : Int)) (muR I (fun k => I 180 (64 + k)) (-1 : Int)) (814 - t).toNat t) → ((814 - t).toNat) = n_ → AW l G M_Mo_dsaSign P 317 [(4, vi t), (0, vr 175)] [] (sD h K2 M2) := by
    intro n_
    induction n_ using Nat.strongRecOn with
    | _ n_ ih_317 =>
    intro t K2 M2 ht F run hm_317
    refine aw_iload d_Mo_dsaSign_317 rfl ?_
    refine aw_sipush d_Mo_dsaSign_319 ⟨by decide, by decide⟩ (by decide) ?_
    refine aw_icmp_ge (tgt := 429) d_Mo_dsaSign_322 (by decide) (fun c_322 => ?_) (fun c_322 => ?_)
    · skip
      refine aw_aload_n d_Mo_dsaSign_429 rfl rfl ?_
      refine aw_iconst d_Mo_dsaSign_430 ⟨by decide, by decide⟩ ?_
      refine aw_iconst d_Mo_dsaSign_431 ⟨by decide, by decide⟩ ?_
      refine ax_V (st := []) (as := [vi 0, vi 4]) (b := 175) (v := some (vi 0)) (h' := sD h (a_up K2 175 4 4) M2) d_Mo_dsaSign_432 cs_Mo_dsaSign_432 (k_175 S) (c_good0 S rfl) rfl rfl rfl ?_
      show AW l G M_Mo_dsaSign P 435 [(4, vi t), (0, vr 175)] [vi 0] (sD h (a_up K2 175 4 4) M2)
      refine aw_pop d_Mo_dsaSign_435 rfl ?_
      refine aw_iconst d_Mo_dsaSign_436 ⟨by decide, by decide⟩ ?_
      exact aw_iret d_Mo_dsaSign_437 rfl (hP _ _ (rsNo 0 4 (c4_4 ⟨by decide, by decide⟩ b1 b2 (fun z => z.2 (by rw [run, show (814 - t).toNat = 0 by omega]; rfl))) (by decide) a_up_at (fR0.fr (fR0.fr R0 F (r := qN) (by intro a x y; exact ⟨fun z => z, by omega⟩) (by decide)) (FR.c0 (p := fun _ => False)) (by intro a x y; exact ⟨fun z => z, fun z => z⟩) (fun z => z))))
    · skip
      refine aw_aload_n d_Mo_dsaSign_325 rfl rfl ?_
      refine aw_iload d_Mo_dsaSign_326 rfl ?_
      refine aw_aload_n d_Mo_dsaSign_328 rfl rfl ?_
      refine ax_getIe (x := 7) d_Mo_dsaSign_329 fd_Mo_226 (k_175 S) (Eq.trans (F.1 175 32 (by omega) (Or.inr (by decide))) (dr2_32 D)) ?_
      refine ax_imul d_Mo_dsaSign_332 ⟨(by omega), (by omega)⟩ ?_
      refine ax_Vt (st := []) (as := [vi (t * 7)]) (b := 175) d_Mo_dsaSign_333 cs_Mo_dsaSign_333 (k_175 S) (c_Mo_attempt2 (t := t) (sk := (rkR I)) (rh := (rhR I (-1 : Int))) (mu := (muR I (fun k => I 180 (64 + k)) (-1 : Int))) S (D.fr F (by decide)) (hk.fr F (by decide) (by decide)) (fun x => gW_m _ _ _) (hr.fr F (by decide) (by decide)) (fun x => spOut_m _ _) (hm.fr F (by decide) (by decide)) (fun x => spOut_m _ _) (fun m a b j x y => by rw [F.1 _ _ (by omega) (Or.inl (by omega))]; exact hSs m a b j x y) (fun m a b j x y => by rw [F.1 _ _ (by omega) (Or.inl (by omega))]; exact hDs m a b j x y) (by omega) rfl) rfl rfl rfl (fun v_ h_ q_ => ?_) (fun x_ h_ q_ => ?_)
      · obtain ⟨v, I6, L6, q3, q4, F6, q6⟩ := q_
        cases q3; subst q4
        have F7 : FR pAt K M I6 L6 := F.tr F6 (fun a x => ⟨x, x⟩)
        have eN : (814 - t).toNat = (814 - (t + 1)).toNat + 1 := by omega
        show AW l G M_Mo_dsaSign P 336 [(4, vi t), (0, vr 175)] [vi v] (sD h I6 L6)
        refine aw_istore (lv' := [(5, vi v), (4, vi t), (0, vr 175)]) d_Mo_dsaSign_336 (by decide) rfl ?_
        refine aw_aload_n d_Mo_dsaSign_338 rfl rfl ?_
        refine aw_iload d_Mo_dsaSign_339 rfl ?_
        refine aw_if_lt (tgt := 348) d_Mo_dsaSign_341 (by decide) (fun c_341 => ?_) (fun c_341 => ?_)
        · skip
          refine aw_iconst d_Mo_dsaSign_348 ⟨by decide, by decide⟩ ?_
          refine aw_iconst d_Mo_dsaSign_349 ⟨by decide, by decide⟩ ?_
          refine ax_V (st := []) (as := [vi 0, vi 4]) (b := 175) (v := some (vi 0)) (h' := sD h (a_up I6 175 4 4) L6) d_Mo_dsaSign_350 cs_Mo_dsaSign_350 (k_175 S) (c_good0 S rfl) rfl rfl rfl ?_
          show AW l G M_Mo_dsaSign P 353 [(5, vi v), (4, vi t), (0, vr 175)] [vi 0] (sD h (a_up I6 175 4 4) L6)
          refine aw_if_ne (tgt := 358) d_Mo_dsaSign_353 (by decide) (fun c_353 => False.elim (by omega)) (fun c_353 => ?_)
          refine aw_iconst d_Mo_dsaSign_356 ⟨by decide, by decide⟩ ?_
          exact aw_iret d_Mo_dsaSign_357 rfl (hP _ _ (rsNo 0 4 (c4_4 ⟨by decide, by decide⟩ b1 b2 (fun z => by rcases q6 with y | y | y; exact (by have z2 := z.2; rw [run, eN] at z2; exact z2 (sgRun_x (Classical.byContradiction (fun x => y.2 ⟨z.1, x⟩)))); exact absurd y.1 (by omega); exact absurd y.1 (by omega))) (by decide) a_up_at (fR0.fr (fR0.fr R0 F7 (r := qN) (by intro a x y; exact ⟨fun z => z, by omega⟩) (by decide)) (FR.c0 (p := fun _ => False)) (by intro a x y; exact ⟨fun z => z, fun z => z⟩) (fun z => z))))
        · skip
          refine aw_iconst d_Mo_dsaSign_344 ⟨by decide, by decide⟩ ?_
          refine aw_goto (tgt := 349) d_Mo_dsaSign_345 (by decide) ?_
          refine aw_iconst d_Mo_dsaSign_349 ⟨by decide, by decide⟩ ?_
          refine ax_V (st := []) (as := [vi 1, vi 4]) (b := 175) (v := some (vi 1)) (h' := sD h (a_up I6 175 4 0) L6) d_Mo_dsaSign_350 cs_Mo_dsaSign_350 (k_175 S) (c_good1 S rfl) rfl rfl rfl ?_
          show AW l G M_Mo_dsaSign P 353 [(5, vi v), (4, vi t), (0, vr 175)] [vi 1] (sD h (a_up I6 175 4 0) L6)
          refine aw_if_ne (tgt := 358) d_Mo_dsaSign_353 (by decide) (fun c_353 => ?_) (fun c_353 => False.elim (by omega))
          refine aw_iload d_Mo_dsaSign_358 rfl ?_
          refine aw_iconst d_Mo_dsaSign_360 ⟨by decide, by decide⟩ ?_
          refine aw_icmp_ne (tgt := 423) d_Mo_dsaSign_361 (by decide) (fun c_361 => ?_) (fun c_361 => ?_)
          · skip
            refine ax_iinc (lv' := [(4, vi (t + 1)), (5, vi v), (0, vr 175)]) d_Mo_dsaSign_423 rfl (by decide) ⟨(by omega), (by omega)⟩ rfl ?_
            refine aw_goto (tgt := 317) d_Mo_dsaSign_426 (by decide) ?_
            refine aw_sub (lv' := [(4, vi (t + 1)), (0, vr 175)]) (by simp) ?_
            exact ih_317 _ (by omega) (t + 1) (a_up I6 175 4 0) L6 (by omega) (F7.tr (FR.c0 (p := pAt)) (fun a x => ⟨x, x⟩)) (by rw [run, eN]; rcases q6 with y | y | y; exact absurd y.1 (by omega); exact sgRun_n y.2.1.2 y.2.2; exact absurd y.1 (by omega)) rfl
          · skip
            have yy := (q6.resolve_left (fun y => by have y1 := y.1; omega)).resolve_left (fun y => by have y1 := y.1; omega)
            have rn : sgRun 2 (rkR I) (rhR I (-1 : Int)) (muR I (fun k => I 180 (64 + k)) (-1 : Int)) 814 0 = some t := by rw [run, eN]; exact sgRun_g yy.2.1.2 yy.2.2.1
            have okk : sgOk 2 (rkR I) ∧ sgRun 2 (rkR I) (rhR I (-1 : Int)) (muR I (fun k => I 180 (64 + k)) (-1 : Int)) 814 0 ≠ none := ⟨yy.2.1.1, by rw [rn]; exact (fun z => by cases z)⟩
            refine aw_aload_n d_Mo_dsaSign_364 rfl rfl ?_
            refine ax_getR (b := 186) d_Mo_dsaSign_365 fd_Mo_18 (k_175 S) (r_175_2 S) ?_
            refine aw_iconst d_Mo_dsaSign_368 ⟨by decide, by decide⟩ ?_
            refine aw_aload_n d_Mo_dsaSign_369 rfl rfl ?_
            refine ax_getIe (x := 64) d_Mo_dsaSign_370 fd_Mo_248 (k_175 S) (Eq.trans (a_up_ne (Or.inr (by decide))) (Eq.trans (F7.1 175 38 (by omega) (Or.inr (by decide))) (dr2_38 D))) ?_
            refine aw_bipush d_Mo_dsaSign_373 ⟨by decide, by decide⟩ (by decide) ?_
            refine aw_aload_n d_Mo_dsaSign_375 rfl rfl ?_
            refine ax_getIe (x := 7) d_Mo_dsaSign_376 fd_Mo_226 (k_175 S) (Eq.trans (a_up_ne (Or.inr (by decide))) (Eq.trans (F7.1 175 32 (by omega) (Or.inr (by decide))) (dr2_32 D))) ?_
            refine ax_imul d_Mo_dsaSign_379 ⟨(by omega), (by omega)⟩ ?_
            refine ax_ti (x := 224) (by decide) ?_
            refine aw_aload_n d_Mo_dsaSign_380 rfl rfl ?_
            refine ax_getIe (x := 20) d_Mo_dsaSign_381 fd_Mo_251 (k_175 S) (Eq.trans (a_up_ne (Or.inr (by decide))) (Eq.trans (F7.1 175 39 (by omega) (Or.inr (by decide))) (dr2_39 D))) ?_
            refine ax_imul d_Mo_dsaSign_384 ⟨(by omega), (by omega)⟩ ?_
            refine ax_ti (x := 4480) (by decide) ?_
            refine ax_iadd d_Mo_dsaSign_385 ⟨(by omega), (by omega)⟩ ?_
            refine ax_ti (x := 4544) (by decide) ?_
            refine aw_aload_n d_Mo_dsaSign_386 rfl rfl ?_
            refine ax_getIe (x := 75) d_Mo_dsaSign_387 fd_Mo_245 (k_175 S) (Eq.trans (a_up_ne (Or.inr (by decide))) (Eq.trans (F7.1 175 37 (by omega) (Or.inr (by decide))) (dr2_37 D))) ?_
            refine ax_iadd d_Mo_dsaSign_390 ⟨(by omega), (by omega)⟩ ?_
            refine ax_ti (x := 4619) (by decide) ?_
            refine aw_aload_n d_Mo_dsaSign_391 rfl rfl ?_
            refine ax_getIe (x := 8) d_Mo_dsaSign_392 fd_Mo_223 (k_175 S) (Eq.trans (a_up_ne (Or.inr (by decide))) (Eq.trans (F7.1 175 26 (by omega) (Or.inr (by decide))) (dr2_26 D))) ?_
            refine ax_iadd d_Mo_dsaSign_395 ⟨(by omega), (by omega)⟩ ?_
            refine ax_ti (x := 4627) (by decide) ?_
            refine ax_iast d_Mo_dsaSign_396 (k_186 S) (by decide) (by omega) (by rw [n_186 S]; omega) ?_
            refine aw_aload_n d_Mo_dsaSign_397 rfl rfl ?_
            refine ax_getR (b := 263) d_Mo_dsaSign_398 fd_Mo_87 (k_175 S) (r_175_31 S) ?_
            refine aw_iconst d_Mo_dsaSign_401 ⟨by decide, by decide⟩ ?_
            refine aw_aload_n d_Mo_dsaSign_402 rfl rfl ?_
            refine ax_getR (b := 177) d_Mo_dsaSign_403 fd_Mo_15 (k_175 S) (r_175_1 S) ?_
            refine aw_iconst d_Mo_dsaSign_406 ⟨by decide, by decide⟩ ?_
            refine ax_aald (b := 183) d_Mo_dsaSign_407 ⟨by rw [(k_177 S)]; decide, by rw [(k_177 S)]; decide⟩ (by omega) (by rw [n_177 S]; omega) (g_177 S (j := 5) (by decide) (by decide)) ?_
            refine aw_iconst d_Mo_dsaSign_408 ⟨by decide, by decide⟩ ?_
            refine aw_aload_n d_Mo_dsaSign_409 rfl rfl ?_
            refine ax_getR (b := 186) d_Mo_dsaSign_410 fd_Mo_18 (k_175 S) (r_175_2 S) ?_
            refine aw_iconst d_Mo_dsaSign_413 ⟨by decide, by decide⟩ ?_
            refine ax_ialde (x := 4627) d_Mo_dsaSign_414 (k_186 S) (by omega) (by rw [n_186 S]; omega) (a_up_at) ?_
            refine ax_S (st := []) (as := [vr 263, vi 0, vr 183, vi 0, vi 4627]) (v := none) (h' := sD h (putRow (a_up (a_up I6 175 4 0) 186 5 4627) 183 0 4627 (fun k => (a_up (a_up I6 175 4 0) 186 5 4627) 263 (0 + k))) L6) d_Mo_dsaSign_415 cs_Mo_dsaSign_415 (c_Mo_move ⟨k_263 S, by decide⟩ ⟨k_183 S, by decide, trivial⟩ (by decide) (by rw [n_263 S, n_183 S]; omega)) rfl rfl rfl ?_
            show AW l G M_Mo_dsaSign P 418 [(5, vi v), (4, vi t), (0, vr 175)] [] (sD h (putRow (a_up (a_up I6 175 4 0) 186 5 4627) 183 0 4627 (fun k => (a_up (a_up I6 175 4 0) 186 5 4627) 263 (0 + k))) L6)
            refine aw_iload d_Mo_dsaSign_418 rfl ?_
            refine aw_iconst d_Mo_dsaSign_420 ⟨by decide, by decide⟩ ?_
            refine ax_iadd d_Mo_dsaSign_421 ⟨(by omega), (by omega)⟩ ?_
            exact aw_iret d_Mo_dsaSign_422 rfl (hP _ _ ⟨_, _, _, rfl, rfl, by rw [putRow_ne (by decide), a_up_ne (Or.inl (by decide)), a_up_at, c4_0 ⟨by decide, by decide⟩ b1 b2 okk], Or.inl ⟨c4_0 ⟨by decide, by decide⟩ b1 b2 okk, fR0.fr (fR0.fr (fR0.fr (fR0.fr R0 F7 (r := qN) (by intro a x y; exact ⟨fun z => z, by omega⟩) (by decide)) (FR.c0 (p := fun _ => False)) (r := qN) (by intro a x y; exact ⟨fun z => z, fun z => z⟩) (fun z => z)) (FR.up (p := fun a => a = 186) rfl) (r := fun a => a = 183 ∨ a = 186) (by intro a x y; exact ⟨fun z => z, by omega⟩) (by decide)) (FR.put (p := fun a => a = 183) rfl) (by intro a x y; exact ⟨y, by omega⟩) (by decide), t, rn, rfl, ⟨fun j x => by rw [putRow_ne (by decide), a_up_ne (Or.inr x), a_up_ne (Or.inl (by decide))]; exact (fR0.fr R0 F7 (r := qN) (by intro a x y; exact ⟨fun z => z, by omega⟩) (by decide)).1 186 j (by omega) (fun z => z), by rw [putRow_ne (by decide), a_up_at]; rfl⟩, HR.put (fun z x y => by rw [a_up_ne (Or.inl (by decide)), a_up_ne (Or.inl (by decide))]; exact yy.2.2.2 z x y), fun j => by have z := rng.p (I := a_up (a_up I6 175 4 0) 186 5 4627) (f := 183) (o := 0) (n := 4627) (g := fun k => (a_up (a_up I6 175 4 0) 186 5 4627) 263 (0 + k)) j; rw [show (a_up (a_up I6 175 4 0) 186 5 4627) 183 j = I 183 j from by rw [a_up_ne (Or.inl (by decide)), a_up_ne (Or.inl (by decide))]; exact (fR0.fr R0 F7 (r := qN) (by intro a x y; exact ⟨fun z => z, by omega⟩) (by decide)).1 183 j (by omega) (fun z => z)] at z; exact z⟩⟩)
      · obtain ⟨v, I6, L6, q3, q4, F6, q6⟩ := q_
        cases q3
  skip
  exact lp_317 _ 0 K M (by omega) (FR.rfl') (rfl) rfl
set_option maxHeartbeats 4000000 in
set_option maxRecDepth 100000 in
theorem c_Mo_dsaSign2N {l : Launch} {G : a_G} {h : Hp} {I L : Nat → Int → Int} (S : Shp h) (RS : RSt I L) (rb : RB I) : AW l G M_Mo_dsaSign (RsR h I L (c4 ((0 ≤ (2 : Int) ∧ (2 : Int) < 3) ∧ ((-1 : Int) = 0 ∨ (-1 : Int) = -1)) (((-1 : Int) ≠ 0 ∨ I 186 4 ≤ 255) ∧ (I 186 0 = 32 ∨ I 186 0 = 0)) (I 186 2 = sSec (2 : Int)) (sgOk (2 : Int) (rkR I) ∧ sgRun (2 : Int) (rkR I) (rhR I (-1 : Int)) (muR I (fun k => I 180 (64 + k)) (-1 : Int)) 814 0 ≠ none)) (fun a => a = 183 ∨ a = 186) (fun v I' _ => ∃ t, sgRun (2 : Int) (rkR I) (rhR I (-1 : Int)) (muR I (fun k => I 180 (64 + k)) (-1 : Int)) 814 0 = some t ∧ v = t + 1 ∧ ((∀ j, j ≠ 5 → I' 186 j = I 186 j) ∧ I' 186 5 = sPkt (2 : Int)) ∧ HR I' 183 0 (sPkt (2 : Int)) (sgPk (2 : Int) (rkR I) (rhR I (-1 : Int)) (muR I (fun k => I 180 (64 + k)) (-1 : Int)) t) ∧ rng (I 183) (I' 183))) 0 (a_ar 0 [vr 175, vi 2, vi (-1)]) [] (sD h I L) := by
  suffices key : ∀ P : a_R → Hp → Prop, (∀ r_ h2_, RsR h I L (c4 ((0 ≤ (2 : Int) ∧ (2 : Int) < 3) ∧ ((-1 : Int) = 0 ∨ (-1 : Int) = -1)) (((-1 : Int) ≠ 0 ∨ I 186 4 ≤ 255) ∧ (I 186 0 = 32 ∨ I 186 0 = 0)) (I 186 2 = sSec (2 : Int)) (sgOk (2 : Int) (rkR I) ∧ sgRun (2 : Int) (rkR I) (rhR I (-1 : Int)) (muR I (fun k => I 180 (64 + k)) (-1 : Int)) 814 0 ≠ none)) (fun a => a = 183 ∨ a = 186) (fun v I' _ => ∃ t, sgRun (2 : Int) (rkR I) (rhR I (-1 : Int)) (muR I (fun k => I 180 (64 + k)) (-1 : Int)) 814 0 = some t ∧ v = t + 1 ∧ ((∀ j, j ≠ 5 → I' 186 j = I 186 j) ∧ I' 186 5 = sPkt (2 : Int)) ∧ HR I' 183 0 (sPkt (2 : Int)) (sgPk (2 : Int) (rkR I) (rhR I (-1 : Int)) (muR I (fun k => I 180 (64 + k)) (-1 : Int)) t) ∧ rng (I 183) (I' 183)) r_ h2_ → P r_ h2_) → AW l G M_Mo_dsaSign P 0 [(0, vr 175), (1, vi 2), (2, vi (-1))] [] (sD h I L) from key _ (fun _ _ q => q)
  intro P hP
  refine aw_aload_n d_Mo_dsaSign_0 rfl rfl ?_
  refine aw_iload_n d_Mo_dsaSign_1 rfl rfl ?_
  refine aw_iconst d_Mo_dsaSign_2 ⟨by decide, by decide⟩ ?_
  refine aw_iconst d_Mo_dsaSign_3 ⟨by decide, by decide⟩ ?_
  refine ax_S (st := [vr 175]) (as := [vi 2, vi 0, vi 2]) (v := some (vi 1)) (h' := sD h I L) d_Mo_dsaSign_4 cs_Mo_dsaSign_4 (c_in1 (by decide)) rfl rfl rfl ?_
  show AW l G M_Mo_dsaSign P 7 [(0, vr 175), (1, vi 2), (2, vi (-1))] [vi 1, vr 175] (sD h I L)
  refine aw_if_eq (tgt := 23) d_Mo_dsaSign_7 (by decide) (fun c_7 => False.elim (by omega)) (fun c_7 => ?_)
  refine aw_iload_n d_Mo_dsaSign_10 rfl rfl ?_
  refine aw_iconst d_Mo_dsaSign_11 ⟨by decide, by decide⟩ ?_
  refine aw_iconst d_Mo_dsaSign_12 ⟨by decide, by decide⟩ ?_
  refine ax_S (st := [vr 175]) (as := [vi (-1), vi (-1), vi 0]) (v := some (vi 1)) (h' := sD h I L) d_Mo_dsaSign_13 cs_Mo_dsaSign_13 (c_in1 (by decide)) rfl rfl rfl ?_
  show AW l G M_Mo_dsaSign P 16 [(0, vr 175), (1, vi 2), (2, vi (-1))] [vi 1, vr 175] (sD h I L)
  refine aw_if_eq (tgt := 23) d_Mo_dsaSign_16 (by decide) (fun c_16 => False.elim (by omega)) (fun c_16 => ?_)
  refine aw_iconst d_Mo_dsaSign_19 ⟨by decide, by decide⟩ ?_
  refine aw_goto (tgt := 24) d_Mo_dsaSign_20 (by decide) ?_
  refine aw_iconst d_Mo_dsaSign_24 ⟨by decide, by decide⟩ ?_
  refine ax_V (st := []) (as := [vi 1, vi 1]) (b := 175) (v := some (vi 1)) (h' := sD h (a_up I 175 4 0) L) d_Mo_dsaSign_25 cs_Mo_dsaSign_25 (k_175 S) (c_good1 S (rfl)) rfl rfl rfl ?_
  show AW l G M_Mo_dsaSign P 28 [(0, vr 175), (1, vi 2), (2, vi (-1))] [vi 1] (sD h (a_up I 175 4 0) L)
  refine aw_if_ne (tgt := 33) d_Mo_dsaSign_28 (by decide) (fun c_28 => ?_) (fun c_28 => False.elim (by omega))
  refine aw_aload_n d_Mo_dsaSign_33 rfl rfl ?_
  refine aw_iload_n d_Mo_dsaSign_34 rfl rfl ?_
  refine ax_Vr (st := []) (as := [vi 2]) (b := 175) d_Mo_dsaSign_35 cs_Mo_dsaSign_35 (k_175 S) (c_Mo_dsa2 S) rfl rfl rfl (fun u_35 q_35 => ?_)
  obtain ⟨d1, d2, d3⟩ := q_35
  have e0 : ∀ a j, (a < 175 ∨ 176 ≤ a ∧ a ≤ 202 ∨ 204 ≤ a) → u_35 a j = I a j := fun a j x => (d1 a j (by omega) (Or.inl (by omega)) (Or.inl (by omega)) (Or.inl (by omega)) (Or.inl (by omega)) (Or.inl (by omega)) (Or.inl (by omega)) (Or.inl (by omega)) (Or.inl (by omega)) (Or.inl (by omega))).trans (a_up_ne (Or.inl (by omega)))
  have R00 : fR0 qN I L u_35 L := ⟨fun a j x _ => e0 a j (by omega), (d1 175 3 (by decide) (Or.inr (by decide)) (Or.inr (by decide)) (Or.inr (by decide)) (Or.inr (by decide)) (Or.inr (by decide)) (Or.inr (by decide)) (Or.inr (by decide)) (Or.inr (by decide)) (Or.inr (by decide))).trans (a_up_ne (Or.inr (by decide))), fun _ _ _ => rfl⟩
  have D0 : RD u_35 L 2 := ⟨RS.of (fun j => e0 193 j (by omega)) (fun _ => rfl), d2, d3⟩
  have D1 := D0.fr (FR.c0 (p := fun _ => False) (v := 0)) ⟨fun z => z, fun z => z, fun z => z⟩
  have R1 : fR0 qN I L (a_up u_35 175 4 0) L := fR0.fr R00 (FR.c0 (p := fun _ => False)) (by intro a x y; exact ⟨fun z => z, fun z => z⟩) (fun z => z)
  show AW l G M_Mo_dsaSign P 38 [(0, vr 175), (1, vi 2), (2, vi (-1))] [] (sD h u_35 L)
  refine aw_aload_n d_Mo_dsaSign_38 rfl rfl ?_
  refine aw_aload_n d_Mo_dsaSign_39 rfl rfl ?_
  refine aw_iload_n d_Mo_dsaSign_40 rfl rfl ?_
  by_cases cx_ : (-1 : Int) < 0 ∨ u_35 186 4 ≤ 255
  · skip
    refine ax_V (st := [vr 175]) (as := [vi (-1)]) (b := 175) (v := some (vi 1)) (h' := sD h u_35 L) d_Mo_dsaSign_41 cs_Mo_dsaSign_41 (k_175 S) (by have z := c_Mo_context (l := l) (G := G) (h := h) (L := L) (I := u_35) (x := -1) S; rw [if_pos cx_] at z; exact z) rfl rfl rfl ?_
    show AW l G M_Mo_dsaSign P 44 [(0, vr 175), (1, vi 2), (2, vi (-1))] [vi 1, vr 175] (sD h u_35 L)
    refine aw_if_eq (tgt := 71) d_Mo_dsaSign_44 (by decide) (fun c_44 => False.elim (by omega)) (fun c_44 => ?_)
    refine aw_aload_n d_Mo_dsaSign_47 rfl rfl ?_
    refine ax_getR (b := 186) d_Mo_dsaSign_48 fd_Mo_18 (k_175 S) (r_175_2 S) ?_
    refine aw_iconst d_Mo_dsaSign_51 ⟨by decide, by decide⟩ ?_
    refine ax_ialde (x := I 186 0) d_Mo_dsaSign_52 (k_186 S) (by omega) (by rw [n_186 S]; omega) (Eq.trans (e0 186 0 (by omega)) (rfl)) ?_
    refine aw_bipush d_Mo_dsaSign_53 ⟨by decide, by decide⟩ (by decide) ?_
    refine aw_icmp_eq (tgt := 67) d_Mo_dsaSign_55 (by decide) (fun c_55 => ?_) (fun c_55 => ?_)
    · skip
      refine aw_iconst d_Mo_dsaSign_67 ⟨by decide, by decide⟩ ?_
      refine aw_goto (tgt := 72) d_Mo_dsaSign_68 (by decide) ?_
      refine aw_iconst d_Mo_dsaSign_72 ⟨by decide, by decide⟩ ?_
      refine ax_V (st := []) (as := [vi 1, vi 2]) (b := 175) (v := some (vi 1)) (h' := sD h (a_up u_35 175 4 0) L) d_Mo_dsaSign_73 cs_Mo_dsaSign_73 (k_175 S) (c_good1 S (rfl)) rfl rfl rfl ?_
      show AW l G M_Mo_dsaSign P 76 [(0, vr 175), (1, vi 2), (2, vi (-1))] [vi 1] (sD h (a_up u_35 175 4 0) L)
      refine aw_if_eq (tgt := 105) d_Mo_dsaSign_76 (by decide) (fun c_76 => False.elim (by omega)) (fun c_76 => ?_)
      have bb : (-1 : Int) ≠ 0 ∨ I 186 4 ≤ 255 := by rw [e0 186 4 (by omega)] at cx_; omega
      refine aw_aload_n d_Mo_dsaSign_79 rfl rfl ?_
      refine aw_aload_n d_Mo_dsaSign_80 rfl rfl ?_
      refine ax_getR (b := 186) d_Mo_dsaSign_81 fd_Mo_18 (k_175 S) (r_175_2 S) ?_
      refine aw_iconst d_Mo_dsaSign_84 ⟨by decide, by decide⟩ ?_
      refine ax_ialde (x := I 186 2) d_Mo_dsaSign_85 (k_186 S) (by omega) (by rw [n_186 S]; omega) (Eq.trans (a_up_ne (Or.inl (by decide))) (Eq.trans (e0 186 2 (by omega)) (rfl))) ?_
      refine aw_aload_n d_Mo_dsaSign_86 rfl rfl ?_
      refine ax_V (st := [vi (I 186 2), vr 175]) (as := []) (b := 175) (v := some (vi 4896)) (h' := sD h (a_up u_35 175 4 0) L) d_Mo_dsaSign_87 cs_Mo_dsaSign_87 (k_175 S) (c_Mo_secretLength (z := 4896) S (by rw [dr2_33 D1, dr2_32 D1, dr2_26 D1]; decide) (by rw [dr2_32 D1, dr2_26 D1]; decide)) rfl rfl rfl ?_
      show AW l G M_Mo_dsaSign P 90 [(0, vr 175), (1, vi 2), (2, vi (-1))] [vi 4896, vi (I 186 2), vr 175] (sD h (a_up u_35 175 4 0) L)
      refine aw_icmp_ne (tgt := 97) d_Mo_dsaSign_90 (by decide) (fun c_90 => ?_) (fun c_90 => ?_)
      · skip
        refine aw_iconst d_Mo_dsaSign_97 ⟨by decide, by decide⟩ ?_
        refine aw_iconst d_Mo_dsaSign_98 ⟨by decide, by decide⟩ ?_
        refine ax_V (st := []) (as := [vi 0, vi 3]) (b := 175) (v := some (vi 0)) (h' := sD h (a_up u_35 175 4 3) L) d_Mo_dsaSign_99 cs_Mo_dsaSign_99 (k_175 S) (c_good0 S (by rw [a_up_up])) rfl rfl rfl ?_
        show AW l G M_Mo_dsaSign P 102 [(0, vr 175), (1, vi 2), (2, vi (-1))] [vi 0] (sD h (a_up u_35 175 4 3) L)
        refine aw_if_ne (tgt := 107) d_Mo_dsaSign_102 (by decide) (fun c_102 => False.elim (by omega)) (fun c_102 => ?_)
        refine aw_iconst d_Mo_dsaSign_105 ⟨by decide, by decide⟩ ?_
        exact aw_iret d_Mo_dsaSign_106 rfl (hP _ _ (rsNo 0 3 (c4_3 ⟨by decide, by decide⟩ ⟨bb, by omega⟩ (fun z => by have z1 : I 186 2 = 4896 := z; omega)) (by decide) a_up_at (fR0.fr R00 (FR.c0 (p := fun _ => False)) (by intro a x y; exact ⟨fun z => z, fun z => z⟩) (fun z => z))))
      · skip
        refine aw_iconst d_Mo_dsaSign_93 ⟨by decide, by decide⟩ ?_
        refine aw_goto (tgt := 98) d_Mo_dsaSign_94 (by decide) ?_
        refine aw_iconst d_Mo_dsaSign_98 ⟨by decide, by decide⟩ ?_
        refine ax_V (st := []) (as := [vi 1, vi 3]) (b := 175) (v := some (vi 1)) (h' := sD h (a_up u_35 175 4 0) L) d_Mo_dsaSign_99 cs_Mo_dsaSign_99 (k_175 S) (c_good1 S (by rw [a_up_up])) rfl rfl rfl ?_
        show AW l G M_Mo_dsaSign P 102 [(0, vr 175), (1, vi 2), (2, vi (-1))] [vi 1] (sD h (a_up u_35 175 4 0) L)
        refine aw_if_ne (tgt := 107) d_Mo_dsaSign_102 (by decide) (fun c_102 => ?_) (fun c_102 => False.elim (by omega))
        refine aw_aload_n d_Mo_dsaSign_107 rfl rfl ?_
        refine aw_aload_n d_Mo_dsaSign_108 rfl rfl ?_
        refine ax_getR (b := 177) d_Mo_dsaSign_109 fd_Mo_15 (k_175 S) (r_175_1 S) ?_
        refine aw_iconst d_Mo_dsaSign_112 ⟨by decide, by decide⟩ ?_
        refine ax_aald (b := 180) d_Mo_dsaSign_113 ⟨by rw [(k_177 S)]; decide, by rw [(k_177 S)]; decide⟩ (by omega) (by rw [n_177 S]; omega) (g_177 S (j := 2) (by decide) (by decide)) ?_
        refine aw_bipush d_Mo_dsaSign_114 ⟨by decide, by decide⟩ (by decide) ?_
        refine aw_iload_n d_Mo_dsaSign_116 rfl rfl ?_
        have kz : ∀ a j, (a < 175 ∨ 176 ≤ a ∧ a ≤ 202 ∨ 204 ≤ a) → (a_up u_35 175 4 0) a j = I a j := fun a j x => (a_up_ne (Or.inl (by omega))).trans (e0 a j x)
        have rb1 : RB (a_up u_35 175 4 0) := ⟨fun s a b => by rw [kz 186 s (by omega)]; exact rb.1 s a b, by rw [R1.2.1]; exact rb.2⟩
        have k4 := kz 186 4 (by omega)
        have k3 := kz 186 3 (by omega)
        have f180 : ∀ x : Int, (fun k => (a_up u_35 175 4 0) 180 (x + k)) = (fun k => I 180 (x + k)) := fun x => funext (fun k => kz 180 _ (by omega))
        have f0 : ∀ a : Nat, a = 181 ∨ a = 182 → (fun k => (a_up u_35 175 4 0) a (0 + k)) = (fun k => I a (0 + k)) := fun a ha => funext (fun k => kz a _ (by omega))
        refine ax_Vr (st := []) (as := [vr 180, vi 64, vi (-1)]) (b := 175) d_Mo_dsaSign_117 cs_Mo_dsaSign_117 (k_175 S) (c_Mo_digestMessageN (f := 180) (pa := 64) S D1.1 rb1 ⟨k_180 S, by decide, by decide⟩ (by rw [n_180 S]; decide)) rfl rfl rfl (fun u_117 q_117 => ?_)
        obtain ⟨I1, L1⟩ := u_117
        obtain ⟨F1, h1⟩ := q_117
        dsimp only at F1 h1
        rw [k3, f180 64, f0 181 (Or.inl rfl), k4, f0 182 (Or.inr rfl)] at h1
        have h1 : HR I1 265 0 64 (muR I (fun k => I 180 (64 + k)) (-1 : Int)) := h1
        have RS1 := D1.1.fr F1 (by decide)
        show AW l G M_Mo_dsaSign P 120 [(0, vr 175), (1, vi 2), (2, vi (-1))] [] (sD h I1 L1)
        refine aw_aload_n d_Mo_dsaSign_120 rfl rfl ?_
        refine aw_bipush d_Mo_dsaSign_121 ⟨by decide, by decide⟩ (by decide) ?_
        refine ax_Vr (st := []) (as := [vi 12]) (b := 175) d_Mo_dsaSign_123 cs_Mo_dsaSign_123 (k_175 S) (c_Mo_begin12 S) rfl rfl rfl (fun u_123 q_123 => ?_)
        obtain ⟨I2, L2⟩ := u_123
        obtain ⟨F2, e2, k2⟩ := q_123
        dsimp only at F2 e2 k2
        show AW l G M_Mo_dsaSign P 126 [(0, vr 175), (1, vi 2), (2, vi (-1))] [] (sD h I2 L2)
        refine aw_aload_n d_Mo_dsaSign_126 rfl rfl ?_
        refine aw_aload_n d_Mo_dsaSign_127 rfl rfl ?_
        refine ax_getR (b := 177) d_Mo_dsaSign_128 fd_Mo_15 (k_175 S) (r_175_1 S) ?_
        refine aw_iconst d_Mo_dsaSign_131 ⟨by decide, by decide⟩ ?_
        refine ax_aald (b := 180) d_Mo_dsaSign_132 ⟨by rw [(k_177 S)]; decide, by rw [(k_177 S)]; decide⟩ (by omega) (by rw [n_177 S]; omega) (g_177 S (j := 2) (by decide) (by decide)) ?_
        refine aw_bipush d_Mo_dsaSign_133 ⟨by decide, by decide⟩ (by decide) ?_
        refine aw_bipush d_Mo_dsaSign_135 ⟨by decide, by decide⟩ (by decide) ?_
        refine ax_Vr (st := []) (as := [vr 180, vi 32, vi 32]) (b := 175) d_Mo_dsaSign_137 cs_Mo_dsaSign_137 (k_175 S) (c_Mo_put3 S (RS1.rf F2) (by omega) (by rw [e2]; exact spStart_lt (by decide) (by decide)) ⟨k_180 S, by decide, by decide⟩ (by rw [n_180 S]; decide)) rfl rfl rfl (fun u_137 q_137 => ?_)
        obtain ⟨I3, L3⟩ := u_137
        obtain ⟨F3, e3, k3⟩ := q_137
        dsimp only at F3 e3 k3
        show AW l G M_Mo_dsaSign P 140 [(0, vr 175), (1, vi 2), (2, vi (-1))] [] (sD h I3 L3)
        refine aw_iconst d_Mo_dsaSign_140 ⟨by decide, by decide⟩ ?_
        refine aw_istore_n (lv' := [(3, vi 0), (0, vr 175), (1, vi 2), (2, vi (-1))]) d_Mo_dsaSign_141 rfl (by decide) rfl ?_
        have lp_142 : ∀ (n_ : Nat) (i : Int) (K4 : Nat → Int → Int) (M4 : Nat → Int → Int), (0 ≤ i ∧ i ≤ 32) → (RF I3 L3 K4 M4) → (spR K4 M4 = spPart (spR I3 L3) (rnR I) i.toNat) → (K4 175 18 = 12) → ((32 - i).toNat) = n_ → AW l G M_Mo_dsaSign P 142 [(3, vi i), (2, vi (-1)), (1, vi 2), (0, vr 175)] [] (sD h K4 M4) := by
          intro n_
          induction n_ using Nat.strongRecOn with
          | _ n_ ih_142 =>
          intro i K4 M4 hi F4 e4 k4_ hm_142
          refine aw_iload_n d_Mo_dsaSign_142 rfl rfl ?_
          refine aw_bipush d_Mo_dsaSign_143 ⟨by decide, by decide⟩ (by decide) ?_
          refine aw_icmp_ge (tgt := 179) d_Mo_dsaSign_145 (by decide) (fun c_145 => ?_) (fun c_145 => ?_)
          · skip
            refine aw_aload_n d_Mo_dsaSign_179 rfl rfl ?_
            refine aw_aload_n d_Mo_dsaSign_180 rfl rfl ?_
            refine ax_getR (b := 265) d_Mo_dsaSign_181 fd_Mo_93 (k_175 S) (r_175_41 S) ?_
            refine aw_iconst d_Mo_dsaSign_184 ⟨by decide, by decide⟩ ?_
            refine aw_bipush d_Mo_dsaSign_185 ⟨by decide, by decide⟩ (by decide) ?_
            refine ax_Vr (st := []) (as := [vr 265, vi 0, vi 64]) (b := 175) d_Mo_dsaSign_187 cs_Mo_dsaSign_187 (k_175 S) (c_Mo_put3 S ((RS1.rf F2).rf (F3.tr F4)) (by omega) (by rw [e4, e3, e2]; exact spPart_lt (spPart_lt (spStart_lt (by decide) (by decide)) _ _) _ _) ⟨k_265 S, by decide, by decide⟩ (by rw [n_265 S]; decide)) rfl rfl rfl (fun u_187 q_187 => ?_)
            obtain ⟨I6, L6⟩ := u_187
            obtain ⟨F6, e6, k6⟩ := q_187
            dsimp only at F6 e6 k6
            have G6 := (F2.tr (F3.tr F4)).tr F6
            have eS : spTurn (spR I6 L6) = rhS (fun k => I 180 (32 + k)) (rnR I) (muR I (fun k => I 180 (64 + k)) (-1 : Int)) := by rw [e6, e4, e3, e2, show i.toNat = 32 by omega, show Int.toNat 32 = 32 from rfl, show Int.toNat 64 = 64 from rfl, show (fun k => I2 180 (32 + k)) = (fun k => I 180 (32 + k)) from funext (fun z => (F2.1 180 _ (Or.inl (by decide))).trans ((F1.1 180 _ (by decide) (Or.inl (by decide))).trans (kz 180 _ (by omega)))), spPart_congr (f := fun k => K4 265 (0 + k)) (g := (muR I (fun k => I 180 (64 + k)) (-1 : Int))) (fun k hk => by rw [(F2.tr (F3.tr F4)).1 265 _ (Or.inl (by decide)), h1 k (by omega) (by omega)]; exact (spOut_m _ _).symm)]; rfl
            show AW l G M_Mo_dsaSign P 190 [(3, vi i), (2, vi (-1)), (1, vi 2), (0, vr 175)] [] (sD h I6 L6)
            refine aw_aload_n d_Mo_dsaSign_190 rfl rfl ?_
            refine aw_aload_n d_Mo_dsaSign_191 rfl rfl ?_
            refine ax_getR (b := 266) d_Mo_dsaSign_192 fd_Mo_96 (k_175 S) (r_175_42 S) ?_
            refine aw_iconst d_Mo_dsaSign_195 ⟨by decide, by decide⟩ ?_
            refine aw_bipush d_Mo_dsaSign_196 ⟨by decide, by decide⟩ (by decide) ?_
            refine ax_Vr (st := []) (as := [vr 266, vi 0, vi 64]) (b := 175) d_Mo_dsaSign_198 cs_Mo_dsaSign_198 (k_175 S) (c_Mo_give S (RS1.rf G6) (by omega) (by rw [e6, e4, e3, e2]; exact (spPart_lt (spPart_lt (spPart_lt (spStart_lt (by decide) (by decide)) _ _) _ _) _ _).1) ⟨k_266 S, by decide, by decide, by decide⟩ (by rw [n_266 S]; decide)) rfl rfl rfl (fun u_198 q_198 => ?_)
            obtain ⟨I7, L7⟩ := u_198
            obtain ⟨F7, f7, e7, k7⟩ := q_198
            dsimp only at F7 f7 e7 k7
            rw [eS] at F7
            have h7 : HR I7 266 0 64 (rhR I (-1 : Int)) := HR.give F7 (by decide)
            have G7 : FR (fun a => a = 265 ∨ a = 266) (a_up u_35 175 4 0) L I7 L7 := (F1.tr (G6.fr (p := fun a => a = 265)) (fun a x => ⟨x, x⟩)).tr (FR.give (p := fun a => a = 266) F7 f7 rfl) (by intro a x; omega)
            have D7 := D1.fr G7 (by decide)
            have m7 : HR I7 265 0 64 (muR I (fun k => I 180 (64 + k)) (-1 : Int)) := (h1.fr (G6.fr (p := fun _ => False)) (fun z => z) (by decide)).fr (FR.give (p := fun a => a = 266) F7 f7 rfl) (by decide) (by decide)
            show AW l G M_Mo_dsaSign P 201 [(3, vi i), (2, vi (-1)), (1, vi 2), (0, vr 175)] [] (sD h I7 L7)
            refine aw_aload_n d_Mo_dsaSign_201 rfl rfl ?_
            refine ax_getIe (x := 2) d_Mo_dsaSign_202 fd_Mo_229 (k_175 S) (dr2_33 D7) ?_
            refine aw_iconst d_Mo_dsaSign_205 ⟨by decide, by decide⟩ ?_
            refine aw_icmp_ne (tgt := 213) d_Mo_dsaSign_206 (by decide) (fun c_206 => False.elim (by omega)) (fun c_206 => ?_)
            refine aw_iconst d_Mo_dsaSign_209 ⟨by decide, by decide⟩ ?_
            refine aw_goto (tgt := 214) d_Mo_dsaSign_210 (by decide) ?_
            refine aw_istore_n (lv' := [(3, vi 3), (2, vi (-1)), (1, vi 2), (0, vr 175)]) d_Mo_dsaSign_214 rfl (by decide) rfl ?_
            refine aw_aload_n d_Mo_dsaSign_215 rfl rfl ?_
            refine aw_iconst d_Mo_dsaSign_216 ⟨by decide, by decide⟩ ?_
            refine ax_putI d_Mo_dsaSign_217 fd_Mo_216 (k_175 S) (by decide) rfl ?_
            refine aw_iconst d_Mo_dsaSign_220 ⟨by decide, by decide⟩ ?_
            refine aw_istore (lv' := [(4, vi 0), (3, vi 3), (2, vi (-1)), (1, vi 2), (0, vr 175)]) d_Mo_dsaSign_221 (by decide) rfl ?_
            have lp_223 : ∀ (n_ : Nat) (i : Int) (K5 : Nat → Int → Int), (0 ≤ i ∧ i ≤ 15) → (FR (fun a => 205 ≤ a ∧ a ≤ 219) I7 L7 K5 L7) → (K5 175 23 = 8 * (96 * i)) → (∀ m, 0 ≤ m → m < i → eqQ (K5 (205 + m.toNat)) (sgSs 2 (rkR I) m)) → ((15 - i).toNat) = n_ → AW l G M_Mo_dsaSign P 223 [(4, vi i), (3, vi 3), (2, vi (-1)), (1, vi 2), (0, vr 175)] [] (sD h K5 L7) := by
              intro n_
              induction n_ using Nat.strongRecOn with
              | _ n_ ih_223 =>
              intro i K5 hi5 G5 b5 s5 hm_223
              have sk5 : ∀ x, K5 180 x = I 180 x := fun x => (G5.1 _ _ (by decide) (Or.inl (by decide))).trans ((G7.1 _ _ (by decide) (Or.inl (by decide))).trans (kz 180 x (by omega)))
              refine aw_iload d_Mo_dsaSign_223 rfl ?_
              refine aw_aload_n d_Mo_dsaSign_225 rfl rfl ?_
              refine ax_getIe (x := 7) d_Mo_dsaSign_226 fd_Mo_226 (k_175 S) (Eq.trans (G5.1 175 32 (by omega) (Or.inr (by decide))) (dr2_32 D7)) ?_
              refine aw_aload_n d_Mo_dsaSign_229 rfl rfl ?_
              refine ax_getIe (x := 8) d_Mo_dsaSign_230 fd_Mo_223 (k_175 S) (Eq.trans (G5.1 175 26 (by omega) (Or.inr (by decide))) (dr2_26 D7)) ?_
              refine ax_iadd d_Mo_dsaSign_233 ⟨(by omega), (by omega)⟩ ?_
              refine ax_ti (x := 15) (by decide) ?_
              refine aw_icmp_ge (tgt := 268) d_Mo_dsaSign_234 (by decide) (fun c_234 => ?_) (fun c_234 => ?_)
              · skip
                refine aw_iconst d_Mo_dsaSign_268 ⟨by decide, by decide⟩ ?_
                refine aw_istore (lv' := [(4, vi 0), (3, vi 3), (2, vi (-1)), (1, vi 2), (0, vr 175)]) d_Mo_dsaSign_269 (by decide) rfl ?_
                have lp_271 : ∀ (n_ : Nat) (i : Int) (K6 : Nat → Int → Int), (0 ≤ i ∧ i ≤ 8) → (FR (fun a => 205 ≤ a ∧ a ≤ 227) I7 L7 K6 L7) → (K6 175 23 = 8 * (1440 + 416 * i)) → (∀ m, 0 ≤ m → m < 15 → eqQ (K6 (205 + m.toNat)) (sgSs 2 (rkR I) m)) → (∀ m, 0 ≤ m → m < i → eqQ (K6 (205 + (15 + m).toNat)) (sgDs 2 (rkR I) m)) → ((8 - i).toNat) = n_ → AW l G M_Mo_dsaSign P 271 [(4, vi i), (2, vi (-1)), (1, vi 2), (0, vr 175)] [] (sD h K6 L7) := by
                  intro n_
                  induction n_ using Nat.strongRecOn with
                  | _ n_ ih_271 =>
                  intro i K6 hi6 Gy b6 s6 t6 hm_271
                  have sk6 : ∀ x, K6 180 x = I 180 x := fun x => (Gy.1 _ _ (by decide) (Or.inl (by decide))).trans ((G7.1 _ _ (by decide) (Or.inl (by decide))).trans (kz 180 x (by omega)))
                  refine aw_iload d_Mo_dsaSign_271 rfl ?_
                  refine aw_aload_n d_Mo_dsaSign_273 rfl rfl ?_
                  refine ax_getIe (x := 8) d_Mo_dsaSign_274 fd_Mo_223 (k_175 S) (Eq.trans (Gy.1 175 26 (by omega) (Or.inr (by decide))) (dr2_26 D7)) ?_
                  refine aw_icmp_ge (tgt := 314) d_Mo_dsaSign_277 (by decide) (fun c_277 => ?_) (fun c_277 => ?_)
                  · skip
                    refine aw_sub (lv' := [(0, vr 175)]) (by simp) ?_
                    exact sB2N S (fR0.fr (fR0.fr R1 G7 (r := qN) (by intro a x y; exact ⟨fun z => z, by omega⟩) (by decide)) Gy (by intro a x y; exact ⟨fun z => z, by omega⟩) (by decide)) (D7.fr Gy (by decide)) (m7.fr Gy (by decide) (by decide)) (h7.fr Gy (by decide) (by decide)) s6 (fun m a b => t6 m a (by omega)) ⟨bb, by omega⟩ (by show I 186 2 = 4896; omega) hP
                  · skip
                    refine aw_aload_n d_Mo_dsaSign_280 rfl rfl ?_
                    refine aw_aload_n d_Mo_dsaSign_281 rfl rfl ?_
                    refine ax_getR (b := 177) d_Mo_dsaSign_282 fd_Mo_15 (k_175 S) (r_175_1 S) ?_
                    refine aw_iconst d_Mo_dsaSign_285 ⟨by decide, by decide⟩ ?_
                    refine ax_aald (b := 180) d_Mo_dsaSign_286 ⟨by rw [(k_177 S)]; decide, by rw [(k_177 S)]; decide⟩ (by omega) (by rw [n_177 S]; omega) (g_177 S (j := 2) (by decide) (by decide)) ?_
                    refine aw_sipush d_Mo_dsaSign_287 ⟨by decide, by decide⟩ (by decide) ?_
                    refine aw_aload_n d_Mo_dsaSign_290 rfl rfl ?_
                    refine ax_getR (b := 204) d_Mo_dsaSign_291 fd_Mo_76 (k_175 S) (r_175_28 S) ?_
                    refine aw_bipush d_Mo_dsaSign_294 ⟨by decide, by decide⟩ (by decide) ?_
                    refine aw_iload d_Mo_dsaSign_296 rfl ?_
                    refine ax_iadd d_Mo_dsaSign_298 ⟨(by omega), (by omega)⟩ ?_
                    refine ax_aald (b := 205 + (15 + i).toNat) d_Mo_dsaSign_299 ⟨by rw [(k_204 S)]; decide, by rw [(k_204 S)]; decide⟩ (by omega) (by rw [n_204 S]; omega) (g_204 S (by omega) (by omega)) ?_
                    refine aw_sipush d_Mo_dsaSign_300 ⟨by decide, by decide⟩ (by decide) ?_
                    refine aw_bipush d_Mo_dsaSign_303 ⟨by decide, by decide⟩ (by decide) ?_
                    refine ax_Vr (st := []) (as := [vr 180, vi 128, vr (205 + (15 + i).toNat), vi 4096, vi 13]) (b := 175) d_Mo_dsaSign_305 cs_Mo_dsaSign_305 (k_175 S) (c_Mo_unpack (pa := 128) (c := 1440 + 416 * i) (d := 13) (b := 4096) S ⟨k_180 S, by decide, by decide⟩ ⟨kr_204 S (by omega), by omega, nr_204 S (by omega)⟩ (by omega) (by decide) (by omega) (by decide) (by rw [n_180 S]; omega)) rfl rfl rfl (fun u_305 q_305 => ?_)
                    obtain ⟨q1, q2, q3⟩ := q_305
                    have Fy : FR (fun a => 220 ≤ a ∧ a ≤ 227) K6 L7 u_305 L7 := FR.unp q1 (by omega)
                    show AW l G M_Mo_dsaSign P 308 [(4, vi i), (2, vi (-1)), (1, vi 2), (0, vr 175)] [] (sD h u_305 L7)
                    refine ax_iinc (lv' := [(4, vi (i + 1)), (2, vi (-1)), (1, vi 2), (0, vr 175)]) d_Mo_dsaSign_308 rfl (by decide) ⟨(by omega), (by omega)⟩ rfl ?_
                    refine aw_goto (tgt := 271) d_Mo_dsaSign_311 (by decide) ?_
                    exact ih_271 _ (by omega) (i + 1) u_305 (by omega) (Gy.tr (Fy.mono (r := fun a => 205 ≤ a ∧ a ≤ 227) (by intro a x; omega)) (fun a x => ⟨x, x⟩)) (by omega) (fun m a b x u v => by rw [q1 _ _ (by omega) (Or.inl (by omega))]; exact s6 m a b x u v) (fun m a b x u v => by by_cases z : m = i; exact (by rw [z, q3 x u v, show (fun j => K6 180 (128 + (1440 + 416 * i) + j) % 256) = (fun j => I 180 (1568 + 416 * i + j) % 256) from funext (fun y => by rw [sk6, show (128 + (1440 + 416 * i) : Int) = 1568 + 416 * i by omega])]; show _ = 4096 - gR (fun k => rkR I (1568 + 416 * i + k)) 13 x; rw [gR_congr (g := fun j => I 180 (1568 + 416 * i + j) % 256) (g' := fun k => rkR I (1568 + 416 * i + k)) (fun y y0 y1 => (gW_in (s := 2) (by omega) (by rw [show I 186 2 = 4896 by omega]; omega)).symm)]); exact (by rw [q1 _ _ (by omega) (Or.inl (by omega))]; exact t6 m a (by omega) x u v)) rfl
                skip
                refine aw_sub (lv' := [(4, vi 0), (2, vi (-1)), (1, vi 2), (0, vr 175)]) (by simp) ?_
                exact lp_271 _ 0 K5 (by omega) (G5.mono (by intro a x; omega)) (by omega) (fun m a b => s5 m a (by omega)) (fun m a b => by omega) rfl
              · skip
                refine aw_aload_n d_Mo_dsaSign_237 rfl rfl ?_
                refine aw_aload_n d_Mo_dsaSign_238 rfl rfl ?_
                refine ax_getR (b := 177) d_Mo_dsaSign_239 fd_Mo_15 (k_175 S) (r_175_1 S) ?_
                refine aw_iconst d_Mo_dsaSign_242 ⟨by decide, by decide⟩ ?_
                refine ax_aald (b := 180) d_Mo_dsaSign_243 ⟨by rw [(k_177 S)]; decide, by rw [(k_177 S)]; decide⟩ (by omega) (by rw [n_177 S]; omega) (g_177 S (j := 2) (by decide) (by decide)) ?_
                refine aw_sipush d_Mo_dsaSign_244 ⟨by decide, by decide⟩ (by decide) ?_
                refine aw_aload_n d_Mo_dsaSign_247 rfl rfl ?_
                refine ax_getR (b := 204) d_Mo_dsaSign_248 fd_Mo_76 (k_175 S) (r_175_28 S) ?_
                refine aw_iload d_Mo_dsaSign_251 rfl ?_
                refine ax_aald (b := 205 + i.toNat) d_Mo_dsaSign_253 ⟨by rw [(k_204 S)]; decide, by rw [(k_204 S)]; decide⟩ (by omega) (by rw [n_204 S]; omega) (g_204 S (by omega) (by omega)) ?_
                refine aw_aload_n d_Mo_dsaSign_254 rfl rfl ?_
                refine ax_getIe (x := 2) d_Mo_dsaSign_255 fd_Mo_229 (k_175 S) (Eq.trans (G5.1 175 33 (by omega) (Or.inr (by decide))) (dr2_33 D7)) ?_
                refine aw_iload_n d_Mo_dsaSign_258 rfl rfl ?_
                refine ax_Vr (st := []) (as := [vr 180, vi 128, vr (205 + i.toNat), vi 2, vi 3]) (b := 175) d_Mo_dsaSign_259 cs_Mo_dsaSign_259 (k_175 S) (c_Mo_unpack (pa := 128) (c := 96 * i) (d := 3) (b := 2) S ⟨k_180 S, by decide, by decide⟩ ⟨kr_204 S (by omega), by omega, nr_204 S (by omega)⟩ (by omega) (by decide) (by omega) (by decide) (by rw [n_180 S]; omega)) rfl rfl rfl (fun u_259 q_259 => ?_)
                obtain ⟨q1, q2, q3⟩ := q_259
                have Fx : FR (fun a => 205 ≤ a ∧ a ≤ 219) K5 L7 u_259 L7 := FR.unp q1 (by omega)
                show AW l G M_Mo_dsaSign P 262 [(4, vi i), (3, vi 3), (2, vi (-1)), (1, vi 2), (0, vr 175)] [] (sD h u_259 L7)
                refine ax_iinc (lv' := [(4, vi (i + 1)), (3, vi 3), (2, vi (-1)), (1, vi 2), (0, vr 175)]) d_Mo_dsaSign_262 rfl (by decide) ⟨(by omega), (by omega)⟩ rfl ?_
                refine aw_goto (tgt := 223) d_Mo_dsaSign_265 (by decide) ?_
                exact ih_223 _ (by omega) (i + 1) u_259 (by omega) (G5.tr Fx (fun a x => ⟨x, x⟩)) (by omega) (fun m a b x u v => by by_cases z : m = i; exact (by rw [z, q3 x u v, show (fun j => K5 180 (128 + 96 * i + j) % 256) = (fun j => I 180 (128 + 96 * i + j) % 256) from funext (fun y => by rw [sk5])]; show _ = 2 - gR (fun k => rkR I (128 + 96 * i + k)) 3 x; rw [gR_congr (g := fun j => I 180 (128 + 96 * i + j) % 256) (g' := fun k => rkR I (128 + 96 * i + k)) (fun y y0 y1 => (gW_in (s := 2) (by omega) (by rw [show I 186 2 = 4896 by omega]; omega)).symm)]); exact (by rw [q1 _ _ (by omega) (Or.inl (by omega))]; exact s5 m a (by omega) x u v)) rfl
            skip
            exact lp_223 _ 0 (a_up I7 175 23 0) (by omega) (FR.b0) (a_up_at.trans (by decide)) (fun m a b => by omega) rfl
          · skip
            refine aw_aload_n d_Mo_dsaSign_148 rfl rfl ?_
            refine aw_aload_n d_Mo_dsaSign_149 rfl rfl ?_
            refine ax_getR (b := 186) d_Mo_dsaSign_150 fd_Mo_18 (k_175 S) (r_175_2 S) ?_
            refine aw_iconst d_Mo_dsaSign_153 ⟨by decide, by decide⟩ ?_
            refine ax_ialde (x := I 186 0) d_Mo_dsaSign_154 (k_186 S) (by omega) (by rw [n_186 S]; omega) (Eq.trans ((F2.tr (F3.tr F4)).1 186 0 (Or.inl (by decide))) (Eq.trans (F1.1 186 0 (by decide) (Or.inl (by decide))) (Eq.trans (kz 186 0 (by omega)) (rfl)))) ?_
            refine aw_if_ne (tgt := 162) d_Mo_dsaSign_155 (by decide) (fun c_155 => ?_) (fun c_155 => ?_)
            · skip
              refine aw_aload_n d_Mo_dsaSign_162 rfl rfl ?_
              refine ax_getR (b := 177) d_Mo_dsaSign_163 fd_Mo_15 (k_175 S) (r_175_1 S) ?_
              refine aw_iconst d_Mo_dsaSign_166 ⟨by decide, by decide⟩ ?_
              refine ax_aald (b := 178) d_Mo_dsaSign_167 ⟨by rw [(k_177 S)]; decide, by rw [(k_177 S)]; decide⟩ (by omega) (by rw [n_177 S]; omega) (g_177 S (j := 0) (by decide) (by decide)) ?_
              refine aw_iload_n d_Mo_dsaSign_168 rfl rfl ?_
              refine ax_balde (x := I 178 i) d_Mo_dsaSign_169 (k_178 S) (by omega) (by rw [n_178 S]; omega) (Eq.trans ((F2.tr (F3.tr F4)).1 178 i (Or.inl (by decide))) (Eq.trans (F1.1 178 i (by decide) (Or.inl (by decide))) (Eq.trans (kz 178 i (by omega)) (rfl)))) ?_
              have vv : rnR I i = I 178 i := by unfold rnR; rw [if_neg (by omega)]
              refine ax_Vr (st := []) (as := [vi (I 178 i)]) (b := 175) d_Mo_dsaSign_170 cs_Mo_dsaSign_170 (k_175 S) (c_Mo_put1 S ((RS1.rf F2).rf (F3.tr F4)) (by omega) (by rw [e4, e3, e2]; exact spPart_lt (spPart_lt (spStart_lt (by decide) (by decide)) _ _) _ _)) rfl rfl rfl (fun u_170 q_170 => ?_)
              obtain ⟨I5, L5⟩ := u_170
              obtain ⟨F5, e5, k5⟩ := q_170
              dsimp only at F5 e5 k5
              show AW l G M_Mo_dsaSign P 173 [(3, vi i), (2, vi (-1)), (1, vi 2), (0, vr 175)] [] (sD h I5 L5)
              refine ax_iinc (lv' := [(3, vi (i + 1)), (2, vi (-1)), (1, vi 2), (0, vr 175)]) d_Mo_dsaSign_173 rfl (by decide) ⟨(by omega), (by omega)⟩ rfl ?_
              refine aw_goto (tgt := 142) d_Mo_dsaSign_176 (by decide) ?_
              exact ih_142 _ (by omega) (i + 1) I5 L5 (by omega) (F4.tr F5) (by rw [e5, e4, show (i + 1).toNat = i.toNat + 1 by omega]; show _ = spTake (spPart (spR I3 L3) (rnR I) i.toNat) (rnR I (i.toNat : Int)); rw [Int.toNat_of_nonneg hi.1, vv]) (by omega) rfl
            · skip
              refine aw_iconst d_Mo_dsaSign_158 ⟨by decide, by decide⟩ ?_
              refine aw_goto (tgt := 170) d_Mo_dsaSign_159 (by decide) ?_
              have vv : rnR I i = 0 := by unfold rnR; rw [if_pos (by omega)]
              refine ax_Vr (st := []) (as := [vi 0]) (b := 175) d_Mo_dsaSign_170 cs_Mo_dsaSign_170 (k_175 S) (c_Mo_put1 S ((RS1.rf F2).rf (F3.tr F4)) (by omega) (by rw [e4, e3, e2]; exact spPart_lt (spPart_lt (spStart_lt (by decide) (by decide)) _ _) _ _)) rfl rfl rfl (fun u_170 q_170 => ?_)
              obtain ⟨I5, L5⟩ := u_170
              obtain ⟨F5, e5, k5⟩ := q_170
              dsimp only at F5 e5 k5
              show AW l G M_Mo_dsaSign P 173 [(3, vi i), (2, vi (-1)), (1, vi 2), (0, vr 175)] [] (sD h I5 L5)
              refine ax_iinc (lv' := [(3, vi (i + 1)), (2, vi (-1)), (1, vi 2), (0, vr 175)]) d_Mo_dsaSign_173 rfl (by decide) ⟨(by omega), (by omega)⟩ rfl ?_
              refine aw_goto (tgt := 142) d_Mo_dsaSign_176 (by decide) ?_
              exact ih_142 _ (by omega) (i + 1) I5 L5 (by omega) (F4.tr F5) (by rw [e5, e4, show (i + 1).toNat = i.toNat + 1 by omega]; show _ = spTake (spPart (spR I3 L3) (rnR I) i.toNat) (rnR I (i.toNat : Int)); rw [Int.toNat_of_nonneg hi.1, vv]) (by omega) rfl
        skip
        refine aw_sub (lv' := [(3, vi 0), (2, vi (-1)), (1, vi 2), (0, vr 175)]) (by simp) ?_
        exact lp_142 _ 0 I3 L3 (by omega) (RF.rfl') (rfl) (by omega) rfl
    · skip
      refine aw_aload_n d_Mo_dsaSign_58 rfl rfl ?_
      refine ax_getR (b := 186) d_Mo_dsaSign_59 fd_Mo_18 (k_175 S) (r_175_2 S) ?_
      refine aw_iconst d_Mo_dsaSign_62 ⟨by decide, by decide⟩ ?_
      refine ax_ialde (x := I 186 0) d_Mo_dsaSign_63 (k_186 S) (by omega) (by rw [n_186 S]; omega) (Eq.trans (e0 186 0 (by omega)) (rfl)) ?_
      refine aw_if_ne (tgt := 71) d_Mo_dsaSign_64 (by decide) (fun c_64 => ?_) (fun c_64 => ?_)
      · skip
        refine aw_iconst d_Mo_dsaSign_71 ⟨by decide, by decide⟩ ?_
        refine aw_iconst d_Mo_dsaSign_72 ⟨by decide, by decide⟩ ?_
        refine ax_V (st := []) (as := [vi 0, vi 2]) (b := 175) (v := some (vi 0)) (h' := sD h (a_up u_35 175 4 2) L) d_Mo_dsaSign_73 cs_Mo_dsaSign_73 (k_175 S) (c_good0 S (rfl)) rfl rfl rfl ?_
        show AW l G M_Mo_dsaSign P 76 [(0, vr 175), (1, vi 2), (2, vi (-1))] [vi 0] (sD h (a_up u_35 175 4 2) L)
        refine aw_if_eq (tgt := 105) d_Mo_dsaSign_76 (by decide) (fun c_76 => ?_) (fun c_76 => False.elim (by omega))
        refine aw_iconst d_Mo_dsaSign_105 ⟨by decide, by decide⟩ ?_
        exact aw_iret d_Mo_dsaSign_106 rfl (hP _ _ (rsNo 0 2 (c4_2 ⟨by decide, by decide⟩ (fun z => by rw [e0 186 4 (by omega)] at cx_; have z1 := z.1; have z2 := z.2; omega)) (by decide) a_up_at (fR0.fr R00 (FR.c0 (p := fun _ => False)) (by intro a x y; exact ⟨fun z => z, fun z => z⟩) (fun z => z))))
      · skip
        refine aw_iconst d_Mo_dsaSign_67 ⟨by decide, by decide⟩ ?_
        refine aw_goto (tgt := 72) d_Mo_dsaSign_68 (by decide) ?_
        refine aw_iconst d_Mo_dsaSign_72 ⟨by decide, by decide⟩ ?_
        refine ax_V (st := []) (as := [vi 1, vi 2]) (b := 175) (v := some (vi 1)) (h' := sD h (a_up u_35 175 4 0) L) d_Mo_dsaSign_73 cs_Mo_dsaSign_73 (k_175 S) (c_good1 S (rfl)) rfl rfl rfl ?_
        show AW l G M_Mo_dsaSign P 76 [(0, vr 175), (1, vi 2), (2, vi (-1))] [vi 1] (sD h (a_up u_35 175 4 0) L)
        refine aw_if_eq (tgt := 105) d_Mo_dsaSign_76 (by decide) (fun c_76 => False.elim (by omega)) (fun c_76 => ?_)
        have bb : (-1 : Int) ≠ 0 ∨ I 186 4 ≤ 255 := by rw [e0 186 4 (by omega)] at cx_; omega
        refine aw_aload_n d_Mo_dsaSign_79 rfl rfl ?_
        refine aw_aload_n d_Mo_dsaSign_80 rfl rfl ?_
        refine ax_getR (b := 186) d_Mo_dsaSign_81 fd_Mo_18 (k_175 S) (r_175_2 S) ?_
        refine aw_iconst d_Mo_dsaSign_84 ⟨by decide, by decide⟩ ?_
        refine ax_ialde (x := I 186 2) d_Mo_dsaSign_85 (k_186 S) (by omega) (by rw [n_186 S]; omega) (Eq.trans (a_up_ne (Or.inl (by decide))) (Eq.trans (e0 186 2 (by omega)) (rfl))) ?_
        refine aw_aload_n d_Mo_dsaSign_86 rfl rfl ?_
        refine ax_V (st := [vi (I 186 2), vr 175]) (as := []) (b := 175) (v := some (vi 4896)) (h' := sD h (a_up u_35 175 4 0) L) d_Mo_dsaSign_87 cs_Mo_dsaSign_87 (k_175 S) (c_Mo_secretLength (z := 4896) S (by rw [dr2_33 D1, dr2_32 D1, dr2_26 D1]; decide) (by rw [dr2_32 D1, dr2_26 D1]; decide)) rfl rfl rfl ?_
        show AW l G M_Mo_dsaSign P 90 [(0, vr 175), (1, vi 2), (2, vi (-1))] [vi 4896, vi (I 186 2), vr 175] (sD h (a_up u_35 175 4 0) L)
        refine aw_icmp_ne (tgt := 97) d_Mo_dsaSign_90 (by decide) (fun c_90 => ?_) (fun c_90 => ?_)
        · skip
          refine aw_iconst d_Mo_dsaSign_97 ⟨by decide, by decide⟩ ?_
          refine aw_iconst d_Mo_dsaSign_98 ⟨by decide, by decide⟩ ?_
          refine ax_V (st := []) (as := [vi 0, vi 3]) (b := 175) (v := some (vi 0)) (h' := sD h (a_up u_35 175 4 3) L) d_Mo_dsaSign_99 cs_Mo_dsaSign_99 (k_175 S) (c_good0 S (by rw [a_up_up])) rfl rfl rfl ?_
          show AW l G M_Mo_dsaSign P 102 [(0, vr 175), (1, vi 2), (2, vi (-1))] [vi 0] (sD h (a_up u_35 175 4 3) L)
          refine aw_if_ne (tgt := 107) d_Mo_dsaSign_102 (by decide) (fun c_102 => False.elim (by omega)) (fun c_102 => ?_)
          refine aw_iconst d_Mo_dsaSign_105 ⟨by decide, by decide⟩ ?_
          exact aw_iret d_Mo_dsaSign_106 rfl (hP _ _ (rsNo 0 3 (c4_3 ⟨by decide, by decide⟩ ⟨bb, by omega⟩ (fun z => by have z1 : I 186 2 = 4896 := z; omega)) (by decide) a_up_at (fR0.fr R00 (FR.c0 (p := fun _ => False)) (by intro a x y; exact ⟨fun z => z, fun z => z⟩) (fun z => z))))
        · skip
          refine aw_iconst d_Mo_dsaSign_93 ⟨by decide, by decide⟩ ?_
          refine aw_goto (tgt := 98) d_Mo_dsaSign_94 (by decide) ?_
          refine aw_iconst d_Mo_dsaSign_98 ⟨by decide, by decide⟩ ?_
          refine ax_V (st := []) (as := [vi 1, vi 3]) (b := 175) (v := some (vi 1)) (h' := sD h (a_up u_35 175 4 0) L) d_Mo_dsaSign_99 cs_Mo_dsaSign_99 (k_175 S) (c_good1 S (by rw [a_up_up])) rfl rfl rfl ?_
          show AW l G M_Mo_dsaSign P 102 [(0, vr 175), (1, vi 2), (2, vi (-1))] [vi 1] (sD h (a_up u_35 175 4 0) L)
          refine aw_if_ne (tgt := 107) d_Mo_dsaSign_102 (by decide) (fun c_102 => ?_) (fun c_102 => False.elim (by omega))
          refine aw_aload_n d_Mo_dsaSign_107 rfl rfl ?_
          refine aw_aload_n d_Mo_dsaSign_108 rfl rfl ?_
          refine ax_getR (b := 177) d_Mo_dsaSign_109 fd_Mo_15 (k_175 S) (r_175_1 S) ?_
          refine aw_iconst d_Mo_dsaSign_112 ⟨by decide, by decide⟩ ?_
          refine ax_aald (b := 180) d_Mo_dsaSign_113 ⟨by rw [(k_177 S)]; decide, by rw [(k_177 S)]; decide⟩ (by omega) (by rw [n_177 S]; omega) (g_177 S (j := 2) (by decide) (by decide)) ?_
          refine aw_bipush d_Mo_dsaSign_114 ⟨by decide, by decide⟩ (by decide) ?_
          refine aw_iload_n d_Mo_dsaSign_116 rfl rfl ?_
          have kz : ∀ a j, (a < 175 ∨ 176 ≤ a ∧ a ≤ 202 ∨ 204 ≤ a) → (a_up u_35 175 4 0) a j = I a j := fun a j x => (a_up_ne (Or.inl (by omega))).trans (e0 a j x)
          have rb1 : RB (a_up u_35 175 4 0) := ⟨fun s a b => by rw [kz 186 s (by omega)]; exact rb.1 s a b, by rw [R1.2.1]; exact rb.2⟩
          have k4 := kz 186 4 (by omega)
          have k3 := kz 186 3 (by omega)
          have f180 : ∀ x : Int, (fun k => (a_up u_35 175 4 0) 180 (x + k)) = (fun k => I 180 (x + k)) := fun x => funext (fun k => kz 180 _ (by omega))
          have f0 : ∀ a : Nat, a = 181 ∨ a = 182 → (fun k => (a_up u_35 175 4 0) a (0 + k)) = (fun k => I a (0 + k)) := fun a ha => funext (fun k => kz a _ (by omega))
          refine ax_Vr (st := []) (as := [vr 180, vi 64, vi (-1)]) (b := 175) d_Mo_dsaSign_117 cs_Mo_dsaSign_117 (k_175 S) (c_Mo_digestMessageN (f := 180) (pa := 64) S D1.1 rb1 ⟨k_180 S, by decide, by decide⟩ (by rw [n_180 S]; decide)) rfl rfl rfl (fun u_117 q_117 => ?_)
          obtain ⟨I1, L1⟩ := u_117
          obtain ⟨F1, h1⟩ := q_117
          dsimp only at F1 h1
          rw [k3, f180 64, f0 181 (Or.inl rfl), k4, f0 182 (Or.inr rfl)] at h1
          have h1 : HR I1 265 0 64 (muR I (fun k => I 180 (64 + k)) (-1 : Int)) := h1
          have RS1 := D1.1.fr F1 (by decide)
          show AW l G M_Mo_dsaSign P 120 [(0, vr 175), (1, vi 2), (2, vi (-1))] [] (sD h I1 L1)
          refine aw_aload_n d_Mo_dsaSign_120 rfl rfl ?_
          refine aw_bipush d_Mo_dsaSign_121 ⟨by decide, by decide⟩ (by decide) ?_
          refine ax_Vr (st := []) (as := [vi 12]) (b := 175) d_Mo_dsaSign_123 cs_Mo_dsaSign_123 (k_175 S) (c_Mo_begin12 S) rfl rfl rfl (fun u_123 q_123 => ?_)
          obtain ⟨I2, L2⟩ := u_123
          obtain ⟨F2, e2, k2⟩ := q_123
          dsimp only at F2 e2 k2
          show AW l G M_Mo_dsaSign P 126 [(0, vr 175), (1, vi 2), (2, vi (-1))] [] (sD h I2 L2)
          refine aw_aload_n d_Mo_dsaSign_126 rfl rfl ?_
          refine aw_aload_n d_Mo_dsaSign_127 rfl rfl ?_
          refine ax_getR (b := 177) d_Mo_dsaSign_128 fd_Mo_15 (k_175 S) (r_175_1 S) ?_
          refine aw_iconst d_Mo_dsaSign_131 ⟨by decide, by decide⟩ ?_
          refine ax_aald (b := 180) d_Mo_dsaSign_132 ⟨by rw [(k_177 S)]; decide, by rw [(k_177 S)]; decide⟩ (by omega) (by rw [n_177 S]; omega) (g_177 S (j := 2) (by decide) (by decide)) ?_
          refine aw_bipush d_Mo_dsaSign_133 ⟨by decide, by decide⟩ (by decide) ?_
          refine aw_bipush d_Mo_dsaSign_135 ⟨by decide, by decide⟩ (by decide) ?_
          refine ax_Vr (st := []) (as := [vr 180, vi 32, vi 32]) (b := 175) d_Mo_dsaSign_137 cs_Mo_dsaSign_137 (k_175 S) (c_Mo_put3 S (RS1.rf F2) (by omega) (by rw [e2]; exact spStart_lt (by decide) (by decide)) ⟨k_180 S, by decide, by decide⟩ (by rw [n_180 S]; decide)) rfl rfl rfl (fun u_137 q_137 => ?_)
          obtain ⟨I3, L3⟩ := u_137
          obtain ⟨F3, e3, k3⟩ := q_137
          dsimp only at F3 e3 k3
          show AW l G M_Mo_dsaSign P 140 [(0, vr 175), (1, vi 2), (2, vi (-1))] [] (sD h I3 L3)
          refine aw_iconst d_Mo_dsaSign_140 ⟨by decide, by decide⟩ ?_
          refine aw_istore_n (lv' := [(3, vi 0), (0, vr 175), (1, vi 2), (2, vi (-1))]) d_Mo_dsaSign_141 rfl (by decide) rfl ?_
          have lp_142 : ∀ (n_ : Nat) (i : Int) (K4 : Nat → Int → Int) (M4 : Nat → Int → Int), (0 ≤ i ∧ i ≤ 32) → (RF I3 L3 K4 M4) → (spR K4 M4 = spPart (spR I3 L3) (rnR I) i.toNat) → (K4 175 18 = 12) → ((32 - i).toNat) = n_ → AW l G M_Mo_dsaSign P 142 [(3, vi i), (2, vi (-1)), (1, vi 2), (0, vr 175)] [] (sD h K4 M4) := by
            intro n_
            induction n_ using Nat.strongRecOn with
            | _ n_ ih_142 =>
            intro i K4 M4 hi F4 e4 k4_ hm_142
            refine aw_iload_n d_Mo_dsaSign_142 rfl rfl ?_
            refine aw_bipush d_Mo_dsaSign_143 ⟨by decide, by decide⟩ (by decide) ?_
            refine aw_icmp_ge (tgt := 179) d_Mo_dsaSign_145 (by decide) (fun c_145 => ?_) (fun c_145 => ?_)
            · skip
              refine aw_aload_n d_Mo_dsaSign_179 rfl rfl ?_
              refine aw_aload_n d_Mo_dsaSign_180 rfl rfl ?_
              refine ax_getR (b := 265) d_Mo_dsaSign_181 fd_Mo_93 (k_175 S) (r_175_41 S) ?_
              refine aw_iconst d_Mo_dsaSign_184 ⟨by decide, by decide⟩ ?_
              refine aw_bipush d_Mo_dsaSign_185 ⟨by decide, by decide⟩ (by decide) ?_
              refine ax_Vr (st := []) (as := [vr 265, vi 0, vi 64]) (b := 175) d_Mo_dsaSign_187 cs_Mo_dsaSign_187 (k_175 S) (c_Mo_put3 S ((RS1.rf F2).rf (F3.tr F4)) (by omega) (by rw [e4, e3, e2]; exact spPart_lt (spPart_lt (spStart_lt (by decide) (by decide)) _ _) _ _) ⟨k_265 S, by decide, by decide⟩ (by rw [n_265 S]; decide)) rfl rfl rfl (fun u_187 q_187 => ?_)
              obtain ⟨I6, L6⟩ := u_187
              obtain ⟨F6, e6, k6⟩ := q_187
              dsimp only at F6 e6 k6
              have G6 := (F2.tr (F3.tr F4)).tr F6
              have eS : spTurn (spR I6 L6) = rhS (fun k => I 180 (32 + k)) (rnR I) (muR I (fun k => I 180 (64 + k)) (-1 : Int)) := by rw [e6, e4, e3, e2, show i.toNat = 32 by omega, show Int.toNat 32 = 32 from rfl, show Int.toNat 64 = 64 from rfl, show (fun k => I2 180 (32 + k)) = (fun k => I 180 (32 + k)) from funext (fun z => (F2.1 180 _ (Or.inl (by decide))).trans ((F1.1 180 _ (by decide) (Or.inl (by decide))).trans (kz 180 _ (by omega)))), spPart_congr (f := fun k => K4 265 (0 + k)) (g := (muR I (fun k => I 180 (64 + k)) (-1 : Int))) (fun k hk => by rw [(F2.tr (F3.tr F4)).1 265 _ (Or.inl (by decide)), h1 k (by omega) (by omega)]; exact (spOut_m _ _).symm)]; rfl
              show AW l G M_Mo_dsaSign P 190 [(3, vi i), (2, vi (-1)), (1, vi 2), (0, vr 175)] [] (sD h I6 L6)
              refine aw_aload_n d_Mo_dsaSign_190 rfl rfl ?_
              refine aw_aload_n d_Mo_dsaSign_191 rfl rfl ?_
              refine ax_getR (b := 266) d_Mo_dsaSign_192 fd_Mo_96 (k_175 S) (r_175_42 S) ?_
              refine aw_iconst d_Mo_dsaSign_195 ⟨by decide, by decide⟩ ?_
              refine aw_bipush d_Mo_dsaSign_196 ⟨by decide, by decide⟩ (by decide) ?_
              refine ax_Vr (st := []) (as := [vr 266, vi 0, vi 64]) (b := 175) d_Mo_dsaSign_198 cs_Mo_dsaSign_198 (k_175 S) (c_Mo_give S (RS1.rf G6) (by omega) (by rw [e6, e4, e3, e2]; exact (spPart_lt (spPart_lt (spPart_lt (spStart_lt (by decide) (by decide)) _ _) _ _) _ _).1) ⟨k_266 S, by decide, by decide, by decide⟩ (by rw [n_266 S]; decide)) rfl rfl rfl (fun u_198 q_198 => ?_)
              obtain ⟨I7, L7⟩ := u_198
              obtain ⟨F7, f7, e7, k7⟩ := q_198
              dsimp only at F7 f7 e7 k7
              rw [eS] at F7
              have h7 : HR I7 266 0 64 (rhR I (-1 : Int)) := HR.give F7 (by decide)
              have G7 : FR (fun a => a = 265 ∨ a = 266) (a_up u_35 175 4 0) L I7 L7 := (F1.tr (G6.fr (p := fun a => a = 265)) (fun a x => ⟨x, x⟩)).tr (FR.give (p := fun a => a = 266) F7 f7 rfl) (by intro a x; omega)
              have D7 := D1.fr G7 (by decide)
              have m7 : HR I7 265 0 64 (muR I (fun k => I 180 (64 + k)) (-1 : Int)) := (h1.fr (G6.fr (p := fun _ => False)) (fun z => z) (by decide)).fr (FR.give (p := fun a => a = 266) F7 f7 rfl) (by decide) (by decide)
              show AW l G M_Mo_dsaSign P 201 [(3, vi i), (2, vi (-1)), (1, vi 2), (0, vr 175)] [] (sD h I7 L7)
              refine aw_aload_n d_Mo_dsaSign_201 rfl rfl ?_
              refine ax_getIe (x := 2) d_Mo_dsaSign_202 fd_Mo_229 (k_175 S) (dr2_33 D7) ?_
              refine aw_iconst d_Mo_dsaSign_205 ⟨by decide, by decide⟩ ?_
              refine aw_icmp_ne (tgt := 213) d_Mo_dsaSign_206 (by decide) (fun c_206 => False.elim (by omega)) (fun c_206 => ?_)
              refine aw_iconst d_Mo_dsaSign_209 ⟨by decide, by decide⟩ ?_
              refine aw_goto (tgt := 214) d_Mo_dsaSign_210 (by decide) ?_
              refine aw_istore_n (lv' := [(3, vi 3), (2, vi (-1)), (1, vi 2), (0, vr 175)]) d_Mo_dsaSign_214 rfl (by decide) rfl ?_
              refine aw_aload_n d_Mo_dsaSign_215 rfl rfl ?_
              refine aw_iconst d_Mo_dsaSign_216 ⟨by decide, by decide⟩ ?_
              refine ax_putI d_Mo_dsaSign_217 fd_Mo_216 (k_175 S) (by decide) rfl ?_
              refine aw_iconst d_Mo_dsaSign_220 ⟨by decide, by decide⟩ ?_
              refine aw_istore (lv' := [(4, vi 0), (3, vi 3), (2, vi (-1)), (1, vi 2), (0, vr 175)]) d_Mo_dsaSign_221 (by decide) rfl ?_
              have lp_223 : ∀ (n_ : Nat) (i : Int) (K5 : Nat → Int → Int), (0 ≤ i ∧ i ≤ 15) → (FR (fun a => 205 ≤ a ∧ a ≤ 219) I7 L7 K5 L7) → (K5 175 23 = 8 * (96 * i)) → (∀ m, 0 ≤ m → m < i → eqQ (K5 (205 + m.toNat)) (sgSs 2 (rkR I) m)) → ((15 - i).toNat) = n_ → AW l G M_Mo_dsaSign P 223 [(4, vi i), (3, vi 3), (2, vi (-1)), (1, vi 2), (0, vr 175)] [] (sD h K5 L7) := by
                intro n_
                induction n_ using Nat.strongRecOn with
                | _ n_ ih_223 =>
                intro i K5 hi5 G5 b5 s5 hm_223
                have sk5 : ∀ x, K5 180 x = I 180 x := fun x => (G5.1 _ _ (by decide) (Or.inl (by decide))).trans ((G7.1 _ _ (by decide) (Or.inl (by decide))).trans (kz 180 x (by omega)))
                refine aw_iload d_Mo_dsaSign_223 rfl ?_
                refine aw_aload_n d_Mo_dsaSign_225 rfl rfl ?_
                refine ax_getIe (x := 7) d_Mo_dsaSign_226 fd_Mo_226 (k_175 S) (Eq.trans (G5.1 175 32 (by omega) (Or.inr (by decide))) (dr2_32 D7)) ?_
                refine aw_aload_n d_Mo_dsaSign_229 rfl rfl ?_
                refine ax_getIe (x := 8) d_Mo_dsaSign_230 fd_Mo_223 (k_175 S) (Eq.trans (G5.1 175 26 (by omega) (Or.inr (by decide))) (dr2_26 D7)) ?_
                refine ax_iadd d_Mo_dsaSign_233 ⟨(by omega), (by omega)⟩ ?_
                refine ax_ti (x := 15) (by decide) ?_
                refine aw_icmp_ge (tgt := 268) d_Mo_dsaSign_234 (by decide) (fun c_234 => ?_) (fun c_234 => ?_)
                · skip
                  refine aw_iconst d_Mo_dsaSign_268 ⟨by decide, by decide⟩ ?_
                  refine aw_istore (lv' := [(4, vi 0), (3, vi 3), (2, vi (-1)), (1, vi 2), (0, vr 175)]) d_Mo_dsaSign_269 (by decide) rfl ?_
                  have lp_271 : ∀ (n_ : Nat) (i : Int) (K6 : Nat → Int → Int), (0 ≤ i ∧ i ≤ 8) → (FR (fun a => 205 ≤ a ∧ a ≤ 227) I7 L7 K6 L7) → (K6 175 23 = 8 * (1440 + 416 * i)) → (∀ m, 0 ≤ m → m < 15 → eqQ (K6 (205 + m.toNat)) (sgSs 2 (rkR I) m)) → (∀ m, 0 ≤ m → m < i → eqQ (K6 (205 + (15 + m).toNat)) (sgDs 2 (rkR I) m)) → ((8 - i).toNat) = n_ → AW l G M_Mo_dsaSign P 271 [(4, vi i), (2, vi (-1)), (1, vi 2), (0, vr 175)] [] (sD h K6 L7) := by
                    intro n_
                    induction n_ using Nat.strongRecOn with
                    | _ n_ ih_271 =>
                    intro i K6 hi6 Gy b6 s6 t6 hm_271
                    have sk6 : ∀ x, K6 180 x = I 180 x := fun x => (Gy.1 _ _ (by decide) (Or.inl (by decide))).trans ((G7.1 _ _ (by decide) (Or.inl (by decide))).trans (kz 180 x (by omega)))
                    refine aw_iload d_Mo_dsaSign_271 rfl ?_
                    refine aw_aload_n d_Mo_dsaSign_273 rfl rfl ?_
                    refine ax_getIe (x := 8) d_Mo_dsaSign_274 fd_Mo_223 (k_175 S) (Eq.trans (Gy.1 175 26 (by omega) (Or.inr (by decide))) (dr2_26 D7)) ?_
                    refine aw_icmp_ge (tgt := 314) d_Mo_dsaSign_277 (by decide) (fun c_277 => ?_) (fun c_277 => ?_)
                    · skip
                      refine aw_sub (lv' := [(0, vr 175)]) (by simp) ?_
                      exact sB2N S (fR0.fr (fR0.fr R1 G7 (r := qN) (by intro a x y; exact ⟨fun z => z, by omega⟩) (by decide)) Gy (by intro a x y; exact ⟨fun z => z, by omega⟩) (by decide)) (D7.fr Gy (by decide)) (m7.fr Gy (by decide) (by decide)) (h7.fr Gy (by decide) (by decide)) s6 (fun m a b => t6 m a (by omega)) ⟨bb, by omega⟩ (by show I 186 2 = 4896; omega) hP
                    · skip
                      refine aw_aload_n d_Mo_dsaSign_280 rfl rfl ?_
                      refine aw_aload_n d_Mo_dsaSign_281 rfl rfl ?_
                      refine ax_getR (b := 177) d_Mo_dsaSign_282 fd_Mo_15 (k_175 S) (r_175_1 S) ?_
                      refine aw_iconst d_Mo_dsaSign_285 ⟨by decide, by decide⟩ ?_
                      refine ax_aald (b := 180) d_Mo_dsaSign_286 ⟨by rw [(k_177 S)]; decide, by rw [(k_177 S)]; decide⟩ (by omega) (by rw [n_177 S]; omega) (g_177 S (j := 2) (by decide) (by decide)) ?_
                      refine aw_sipush d_Mo_dsaSign_287 ⟨by decide, by decide⟩ (by decide) ?_
                      refine aw_aload_n d_Mo_dsaSign_290 rfl rfl ?_
                      refine ax_getR (b := 204) d_Mo_dsaSign_291 fd_Mo_76 (k_175 S) (r_175_28 S) ?_
                      refine aw_bipush d_Mo_dsaSign_294 ⟨by decide, by decide⟩ (by decide) ?_
                      refine aw_iload d_Mo_dsaSign_296 rfl ?_
                      refine ax_iadd d_Mo_dsaSign_298 ⟨(by omega), (by omega)⟩ ?_
                      refine ax_aald (b := 205 + (15 + i).toNat) d_Mo_dsaSign_299 ⟨by rw [(k_204 S)]; decide, by rw [(k_204 S)]; decide⟩ (by omega) (by rw [n_204 S]; omega) (g_204 S (by omega) (by omega)) ?_
                      refine aw_sipush d_Mo_dsaSign_300 ⟨by decide, by decide⟩ (by decide) ?_
                      refine aw_bipush d_Mo_dsaSign_303 ⟨by decide, by decide⟩ (by decide) ?_
                      refine ax_Vr (st := []) (as := [vr 180, vi 128, vr (205 + (15 + i).toNat), vi 4096, vi 13]) (b := 175) d_Mo_dsaSign_305 cs_Mo_dsaSign_305 (k_175 S) (c_Mo_unpack (pa := 128) (c := 1440 + 416 * i) (d := 13) (b := 4096) S ⟨k_180 S, by decide, by decide⟩ ⟨kr_204 S (by omega), by omega, nr_204 S (by omega)⟩ (by omega) (by decide) (by omega) (by decide) (by rw [n_180 S]; omega)) rfl rfl rfl (fun u_305 q_305 => ?_)
                      obtain ⟨q1, q2, q3⟩ := q_305
                      have Fy : FR (fun a => 220 ≤ a ∧ a ≤ 227) K6 L7 u_305 L7 := FR.unp q1 (by omega)
                      show AW l G M_Mo_dsaSign P 308 [(4, vi i), (2, vi (-1)), (1, vi 2), (0, vr 175)] [] (sD h u_305 L7)
                      refine ax_iinc (lv' := [(4, vi (i + 1)), (2, vi (-1)), (1, vi 2), (0, vr 175)]) d_Mo_dsaSign_308 rfl (by decide) ⟨(by omega), (by omega)⟩ rfl ?_
                      refine aw_goto (tgt := 271) d_Mo_dsaSign_311 (by decide) ?_
                      exact ih_271 _ (by omega) (i + 1) u_305 (by omega) (Gy.tr (Fy.mono (r := fun a => 205 ≤ a ∧ a ≤ 227) (by intro a x; omega)) (fun a x => ⟨x, x⟩)) (by omega) (fun m a b x u v => by rw [q1 _ _ (by omega) (Or.inl (by omega))]; exact s6 m a b x u v) (fun m a b x u v => by by_cases z : m = i; exact (by rw [z, q3 x u v, show (fun j => K6 180 (128 + (1440 + 416 * i) + j) % 256) = (fun j => I 180 (1568 + 416 * i + j) % 256) from funext (fun y => by rw [sk6, show (128 + (1440 + 416 * i) : Int) = 1568 + 416 * i by omega])]; show _ = 4096 - gR (fun k => rkR I (1568 + 416 * i + k)) 13 x; rw [gR_congr (g := fun j => I 180 (1568 + 416 * i + j) % 256) (g' := fun k => rkR I (1568 + 416 * i + k)) (fun y y0 y1 => (gW_in (s := 2) (by omega) (by rw [show I 186 2 = 4896 by omega]; omega)).symm)]); exact (by rw [q1 _ _ (by omega) (Or.inl (by omega))]; exact t6 m a (by omega) x u v)) rfl
                  skip
                  refine aw_sub (lv' := [(4, vi 0), (2, vi (-1)), (1, vi 2), (0, vr 175)]) (by simp) ?_
                  exact lp_271 _ 0 K5 (by omega) (G5.mono (by intro a x; omega)) (by omega) (fun m a b => s5 m a (by omega)) (fun m a b => by omega) rfl
                · skip
                  refine aw_aload_n d_Mo_dsaSign_237 rfl rfl ?_
                  refine aw_aload_n d_Mo_dsaSign_238 rfl rfl ?_
                  refine ax_getR (b := 177) d_Mo_dsaSign_239 fd_Mo_15 (k_175 S) (r_175_1 S) ?_
                  refine aw_iconst d_Mo_dsaSign_242 ⟨by decide, by decide⟩ ?_
                  refine ax_aald (b := 180) d_Mo_dsaSign_243 ⟨by rw [(k_177 S)]; decide, by rw [(k_177 S)]; decide⟩ (by omega) (by rw [n_177 S]; omega) (g_177 S (j := 2) (by decide) (by decide)) ?_
                  refine aw_sipush d_Mo_dsaSign_244 ⟨by decide, by decide⟩ (by decide) ?_
                  refine aw_aload_n d_Mo_dsaSign_247 rfl rfl ?_
                  refine ax_getR (b := 204) d_Mo_dsaSign_248 fd_Mo_76 (k_175 S) (r_175_28 S) ?_
                  refine aw_iload d_Mo_dsaSign_251 rfl ?_
                  refine ax_aald (b := 205 + i.toNat) d_Mo_dsaSign_253 ⟨by rw [(k_204 S)]; decide, by rw [(k_204 S)]; decide⟩ (by omega) (by rw [n_204 S]; omega) (g_204 S (by omega) (by omega)) ?_
                  refine aw_aload_n d_Mo_dsaSign_254 rfl rfl ?_
                  refine ax_getIe (x := 2) d_Mo_dsaSign_255 fd_Mo_229 (k_175 S) (Eq.trans (G5.1 175 33 (by omega) (Or.inr (by decide))) (dr2_33 D7)) ?_
                  refine aw_iload_n d_Mo_dsaSign_258 rfl rfl ?_
                  refine ax_Vr (st := []) (as := [vr 180, vi 128, vr (205 + i.toNat), vi 2, vi 3]) (b := 175) d_Mo_dsaSign_259 cs_Mo_dsaSign_259 (k_175 S) (c_Mo_unpack (pa := 128) (c := 96 * i) (d := 3) (b := 2) S ⟨k_180 S, by decide, by decide⟩ ⟨kr_204 S (by omega), by omega, nr_204 S (by omega)⟩ (by omega) (by decide) (by omega) (by decide) (by rw [n_180 S]; omega)) rfl rfl rfl (fun u_259 q_259 => ?_)
                  obtain ⟨q1, q2, q3⟩ := q_259
                  have Fx : FR (fun a => 205 ≤ a ∧ a ≤ 219) K5 L7 u_259 L7 := FR.unp q1 (by omega)
                  show AW l G M_Mo_dsaSign P 262 [(4, vi i), (3, vi 3), (2, vi (-1)), (1, vi 2), (0, vr 175)] [] (sD h u_259 L7)
                  refine ax_iinc (lv' := [(4, vi (i + 1)), (3, vi 3), (2, vi (-1)), (1, vi 2), (0, vr 175)]) d_Mo_dsaSign_262 rfl (by decide) ⟨(by omega), (by omega)⟩ rfl ?_
                  refine aw_goto (tgt := 223) d_Mo_dsaSign_265 (by decide) ?_
                  exact ih_223 _ (by omega) (i + 1) u_259 (by omega) (G5.tr Fx (fun a x => ⟨x, x⟩)) (by omega) (fun m a b x u v => by by_cases z : m = i; exact (by rw [z, q3 x u v, show (fun j => K5 180 (128 + 96 * i + j) % 256) = (fun j => I 180 (128 + 96 * i + j) % 256) from funext (fun y => by rw [sk5])]; show _ = 2 - gR (fun k => rkR I (128 + 96 * i + k)) 3 x; rw [gR_congr (g := fun j => I 180 (128 + 96 * i + j) % 256) (g' := fun k => rkR I (128 + 96 * i + k)) (fun y y0 y1 => (gW_in (s := 2) (by omega) (by rw [show I 186 2 = 4896 by omega]; omega)).symm)]); exact (by rw [q1 _ _ (by omega) (Or.inl (by omega))]; exact s5 m a (by omega) x u v)) rfl
              skip
              exact lp_223 _ 0 (a_up I7 175 23 0) (by omega) (FR.b0) (a_up_at.trans (by decide)) (fun m a b => by omega) rfl
            · skip
              refine aw_aload_n d_Mo_dsaSign_148 rfl rfl ?_
              refine aw_aload_n d_Mo_dsaSign_149 rfl rfl ?_
              refine ax_getR (b := 186) d_Mo_dsaSign_150 fd_Mo_18 (k_175 S) (r_175_2 S) ?_
              refine aw_iconst d_Mo_dsaSign_153 ⟨by decide, by decide⟩ ?_
              refine ax_ialde (x := I 186 0) d_Mo_dsaSign_154 (k_186 S) (by omega) (by rw [n_186 S]; omega) (Eq.trans ((F2.tr (F3.tr F4)).1 186 0 (Or.inl (by decide))) (Eq.trans (F1.1 186 0 (by decide) (Or.inl (by decide))) (Eq.trans (kz 186 0 (by omega)) (rfl)))) ?_
              refine aw_if_ne (tgt := 162) d_Mo_dsaSign_155 (by decide) (fun c_155 => ?_) (fun c_155 => ?_)
              · skip
                refine aw_aload_n d_Mo_dsaSign_162 rfl rfl ?_
                refine ax_getR (b := 177) d_Mo_dsaSign_163 fd_Mo_15 (k_175 S) (r_175_1 S) ?_
                refine aw_iconst d_Mo_dsaSign_166 ⟨by decide, by decide⟩ ?_
                refine ax_aald (b := 178) d_Mo_dsaSign_167 ⟨by rw [(k_177 S)]; decide, by rw [(k_177 S)]; decide⟩ (by omega) (by rw [n_177 S]; omega) (g_177 S (j := 0) (by decide) (by decide)) ?_
                refine aw_iload_n d_Mo_dsaSign_168 rfl rfl ?_
                refine ax_balde (x := I 178 i) d_Mo_dsaSign_169 (k_178 S) (by omega) (by rw [n_178 S]; omega) (Eq.trans ((F2.tr (F3.tr F4)).1 178 i (Or.inl (by decide))) (Eq.trans (F1.1 178 i (by decide) (Or.inl (by decide))) (Eq.trans (kz 178 i (by omega)) (rfl)))) ?_
                have vv : rnR I i = I 178 i := by unfold rnR; rw [if_neg (by omega)]
                refine ax_Vr (st := []) (as := [vi (I 178 i)]) (b := 175) d_Mo_dsaSign_170 cs_Mo_dsaSign_170 (k_175 S) (c_Mo_put1 S ((RS1.rf F2).rf (F3.tr F4)) (by omega) (by rw [e4, e3, e2]; exact spPart_lt (spPart_lt (spStart_lt (by decide) (by decide)) _ _) _ _)) rfl rfl rfl (fun u_170 q_170 => ?_)
                obtain ⟨I5, L5⟩ := u_170
                obtain ⟨F5, e5, k5⟩ := q_170
                dsimp only at F5 e5 k5
                show AW l G M_Mo_dsaSign P 173 [(3, vi i), (2, vi (-1)), (1, vi 2), (0, vr 175)] [] (sD h I5 L5)
                refine ax_iinc (lv' := [(3, vi (i + 1)), (2, vi (-1)), (1, vi 2), (0, vr 175)]) d_Mo_dsaSign_173 rfl (by decide) ⟨(by omega), (by omega)⟩ rfl ?_
                refine aw_goto (tgt := 142) d_Mo_dsaSign_176 (by decide) ?_
                exact ih_142 _ (by omega) (i + 1) I5 L5 (by omega) (F4.tr F5) (by rw [e5, e4, show (i + 1).toNat = i.toNat + 1 by omega]; show _ = spTake (spPart (spR I3 L3) (rnR I) i.toNat) (rnR I (i.toNat : Int)); rw [Int.toNat_of_nonneg hi.1, vv]) (by omega) rfl
              · skip
                refine aw_iconst d_Mo_dsaSign_158 ⟨by decide, by decide⟩ ?_
                refine aw_goto (tgt := 170) d_Mo_dsaSign_159 (by decide) ?_
                have vv : rnR I i = 0 := by unfold rnR; rw [if_pos (by omega)]
                refine ax_Vr (st := []) (as := [vi 0]) (b := 175) d_Mo_dsaSign_170 cs_Mo_dsaSign_170 (k_175 S) (c_Mo_put1 S ((RS1.rf F2).rf (F3.tr F4)) (by omega) (by rw [e4, e3, e2]; exact spPart_lt (spPart_lt (spStart_lt (by decide) (by decide)) _ _) _ _)) rfl rfl rfl (fun u_170 q_170 => ?_)
                obtain ⟨I5, L5⟩ := u_170
                obtain ⟨F5, e5, k5⟩ := q_170
                dsimp only at F5 e5 k5
                show AW l G M_Mo_dsaSign P 173 [(3, vi i), (2, vi (-1)), (1, vi 2), (0, vr 175)] [] (sD h I5 L5)
                refine ax_iinc (lv' := [(3, vi (i + 1)), (2, vi (-1)), (1, vi 2), (0, vr 175)]) d_Mo_dsaSign_173 rfl (by decide) ⟨(by omega), (by omega)⟩ rfl ?_
                refine aw_goto (tgt := 142) d_Mo_dsaSign_176 (by decide) ?_
                exact ih_142 _ (by omega) (i + 1) I5 L5 (by omega) (F4.tr F5) (by rw [e5, e4, show (i + 1).toNat = i.toNat + 1 by omega]; show _ = spTake (spPart (spR I3 L3) (rnR I) i.toNat) (rnR I (i.toNat : Int)); rw [Int.toNat_of_nonneg hi.1, vv]) (by omega) rfl
          skip
          refine aw_sub (lv' := [(3, vi 0), (2, vi (-1)), (1, vi 2), (0, vr 175)]) (by simp) ?_
          exact lp_142 _ 0 I3 L3 (by omega) (RF.rfl') (rfl) (by omega) rfl
  · skip
    refine ax_V (st := [vr 175]) (as := [vi (-1)]) (b := 175) (v := some (vi 0)) (h' := sD h u_35 L) d_Mo_dsaSign_41 cs_Mo_dsaSign_41 (k_175 S) (by have z := c_Mo_context (l := l) (G := G) (h := h) (L := L) (I := u_35) (x := -1) S; rw [if_neg cx_] at z; exact z) rfl rfl rfl ?_
    show AW l G M_Mo_dsaSign P 44 [(0, vr 175), (1, vi 2), (2, vi (-1))] [vi 0, vr 175] (sD h u_35 L)
    refine aw_if_eq (tgt := 71) d_Mo_dsaSign_44 (by decide) (fun c_44 => ?_) (fun c_44 => False.elim (by omega))
    refine aw_iconst d_Mo_dsaSign_71 ⟨by decide, by decide⟩ ?_
    refine aw_iconst d_Mo_dsaSign_72 ⟨by decide, by decide⟩ ?_
    refine ax_V (st := []) (as := [vi 0, vi 2]) (b := 175) (v := some (vi 0)) (h' := sD h (a_up u_35 175 4 2) L) d_Mo_dsaSign_73 cs_Mo_dsaSign_73 (k_175 S) (c_good0 S (rfl)) rfl rfl rfl ?_
    show AW l G M_Mo_dsaSign P 76 [(0, vr 175), (1, vi 2), (2, vi (-1))] [vi 0] (sD h (a_up u_35 175 4 2) L)
    refine aw_if_eq (tgt := 105) d_Mo_dsaSign_76 (by decide) (fun c_76 => ?_) (fun c_76 => False.elim (by omega))
    refine aw_iconst d_Mo_dsaSign_105 ⟨by decide, by decide⟩ ?_
    exact aw_iret d_Mo_dsaSign_106 rfl (hP _ _ (rsNo 0 2 (c4_2 ⟨by decide, by decide⟩ (fun z => by rw [e0 186 4 (by omega)] at cx_; have z1 := z.1; have z2 := z.2; omega)) (by decide) a_up_at (fR0.fr R00 (FR.c0 (p := fun _ => False)) (by intro a x y; exact ⟨fun z => z, fun z => z⟩) (fun z => z))))
set_option maxHeartbeats 800000 in
set_option maxRecDepth 100000 in
theorem c_Mo_dsaSignX {l : Launch} {G : a_G} {h : Hp} {I L : Nat → Int → Int} {s how : Int} (S : Shp h) (hs : ¬ (0 ≤ s ∧ s ≤ 2)) : AW l G M_Mo_dsaSign (RsR h I L (c4 ((0 ≤ s ∧ s < 3) ∧ (how = 0 ∨ how = -1)) ((how ≠ 0 ∨ I 186 4 ≤ 255) ∧ (I 186 0 = 32 ∨ I 186 0 = 0)) (I 186 2 = sSec s) (sgOk s (rkR I) ∧ sgRun s (rkR I) (rhR I how) (muR I (fun k => I 180 (64 + k)) how) 814 0 ≠ none)) (fun a => a = 183 ∨ a = 186) (fun v I' _ => ∃ t, sgRun s (rkR I) (rhR I how) (muR I (fun k => I 180 (64 + k)) how) 814 0 = some t ∧ v = t + 1 ∧ ((∀ j, j ≠ 5 → I' 186 j = I 186 j) ∧ I' 186 5 = sPkt s) ∧ HR I' 183 0 (sPkt s) (sgPk s (rkR I) (rhR I how) (muR I (fun k => I 180 (64 + k)) how) t) ∧ rng (I 183) (I' 183))) 0 (a_ar 0 [vr 175, vi s, vi how]) [] (sD h I L) := by
  suffices key : ∀ P : a_R → Hp → Prop, (∀ r_ h2_, RsR h I L (c4 ((0 ≤ s ∧ s < 3) ∧ (how = 0 ∨ how = -1)) ((how ≠ 0 ∨ I 186 4 ≤ 255) ∧ (I 186 0 = 32 ∨ I 186 0 = 0)) (I 186 2 = sSec s) (sgOk s (rkR I) ∧ sgRun s (rkR I) (rhR I how) (muR I (fun k => I 180 (64 + k)) how) 814 0 ≠ none)) (fun a => a = 183 ∨ a = 186) (fun v I' _ => ∃ t, sgRun s (rkR I) (rhR I how) (muR I (fun k => I 180 (64 + k)) how) 814 0 = some t ∧ v = t + 1 ∧ ((∀ j, j ≠ 5 → I' 186 j = I 186 j) ∧ I' 186 5 = sPkt s) ∧ HR I' 183 0 (sPkt s) (sgPk s (rkR I) (rhR I how) (muR I (fun k => I 180 (64 + k)) how) t) ∧ rng (I 183) (I' 183)) r_ h2_ → P r_ h2_) → AW l G M_Mo_dsaSign P 0 [(0, vr 175), (1, vi s), (2, vi how)] [] (sD h I L) from key _ (fun _ _ q => q)
  intro P hP
  refine aw_aload_n d_Mo_dsaSign_0 rfl rfl ?_
  refine aw_iload_n d_Mo_dsaSign_1 rfl rfl ?_
  refine aw_iconst d_Mo_dsaSign_2 ⟨by decide, by decide⟩ ?_
  refine aw_iconst d_Mo_dsaSign_3 ⟨by decide, by decide⟩ ?_
  refine ax_S (st := [vr 175]) (as := [vi s, vi 0, vi 2]) (v := some (vi 0)) (h' := sD h I L) d_Mo_dsaSign_4 cs_Mo_dsaSign_4 (c_in0 hs) rfl rfl rfl ?_
  show AW l G M_Mo_dsaSign P 7 [(0, vr 175), (1, vi s), (2, vi how)] [vi 0, vr 175] (sD h I L)
  refine aw_if_eq (tgt := 23) d_Mo_dsaSign_7 (by decide) (fun c_7 => ?_) (fun c_7 => False.elim (by omega))
  refine aw_iconst d_Mo_dsaSign_23 ⟨by decide, by decide⟩ ?_
  refine aw_iconst d_Mo_dsaSign_24 ⟨by decide, by decide⟩ ?_
  refine ax_V (st := []) (as := [vi 0, vi 1]) (b := 175) (v := some (vi 0)) (h' := sD h (a_up I 175 4 1) L) d_Mo_dsaSign_25 cs_Mo_dsaSign_25 (k_175 S) (c_good0 S (rfl)) rfl rfl rfl ?_
  show AW l G M_Mo_dsaSign P 28 [(0, vr 175), (1, vi s), (2, vi how)] [vi 0] (sD h (a_up I 175 4 1) L)
  refine aw_if_ne (tgt := 33) d_Mo_dsaSign_28 (by decide) (fun c_28 => False.elim (by omega)) (fun c_28 => ?_)
  refine aw_iconst d_Mo_dsaSign_31 ⟨by decide, by decide⟩ ?_
  exact aw_iret d_Mo_dsaSign_32 rfl (hP _ _ (rsNo 0 1 (c4_1 (fun z => by have z1 := z.1; have z2 := z.2; omega)) (by decide) a_up_at (fR0.fr fR0.rfl' (FR.c0 (p := fun _ => False)) (by intro a x y; exact ⟨fun z => z, fun z => z⟩) (fun z => z))))
set_option maxHeartbeats 800000 in
set_option maxRecDepth 100000 in
theorem c_Mo_dsaSignY {l : Launch} {G : a_G} {h : Hp} {I L : Nat → Int → Int} {s how : Int} (S : Shp h) (hw : ¬ (-1 ≤ how ∧ how ≤ 0)) : AW l G M_Mo_dsaSign (RsR h I L (c4 ((0 ≤ s ∧ s < 3) ∧ (how = 0 ∨ how = -1)) ((how ≠ 0 ∨ I 186 4 ≤ 255) ∧ (I 186 0 = 32 ∨ I 186 0 = 0)) (I 186 2 = sSec s) (sgOk s (rkR I) ∧ sgRun s (rkR I) (rhR I how) (muR I (fun k => I 180 (64 + k)) how) 814 0 ≠ none)) (fun a => a = 183 ∨ a = 186) (fun v I' _ => ∃ t, sgRun s (rkR I) (rhR I how) (muR I (fun k => I 180 (64 + k)) how) 814 0 = some t ∧ v = t + 1 ∧ ((∀ j, j ≠ 5 → I' 186 j = I 186 j) ∧ I' 186 5 = sPkt s) ∧ HR I' 183 0 (sPkt s) (sgPk s (rkR I) (rhR I how) (muR I (fun k => I 180 (64 + k)) how) t) ∧ rng (I 183) (I' 183))) 0 (a_ar 0 [vr 175, vi s, vi how]) [] (sD h I L) := by
  suffices key : ∀ P : a_R → Hp → Prop, (∀ r_ h2_, RsR h I L (c4 ((0 ≤ s ∧ s < 3) ∧ (how = 0 ∨ how = -1)) ((how ≠ 0 ∨ I 186 4 ≤ 255) ∧ (I 186 0 = 32 ∨ I 186 0 = 0)) (I 186 2 = sSec s) (sgOk s (rkR I) ∧ sgRun s (rkR I) (rhR I how) (muR I (fun k => I 180 (64 + k)) how) 814 0 ≠ none)) (fun a => a = 183 ∨ a = 186) (fun v I' _ => ∃ t, sgRun s (rkR I) (rhR I how) (muR I (fun k => I 180 (64 + k)) how) 814 0 = some t ∧ v = t + 1 ∧ ((∀ j, j ≠ 5 → I' 186 j = I 186 j) ∧ I' 186 5 = sPkt s) ∧ HR I' 183 0 (sPkt s) (sgPk s (rkR I) (rhR I how) (muR I (fun k => I 180 (64 + k)) how) t) ∧ rng (I 183) (I' 183)) r_ h2_ → P r_ h2_) → AW l G M_Mo_dsaSign P 0 [(0, vr 175), (1, vi s), (2, vi how)] [] (sD h I L) from key _ (fun _ _ q => q)
  intro P hP
  refine aw_aload_n d_Mo_dsaSign_0 rfl rfl ?_
  refine aw_iload_n d_Mo_dsaSign_1 rfl rfl ?_
  refine aw_iconst d_Mo_dsaSign_2 ⟨by decide, by decide⟩ ?_
  refine aw_iconst d_Mo_dsaSign_3 ⟨by decide, by decide⟩ ?_
  by_cases in_4 : 0 ≤ s ∧ s ≤ 2
  · skip
    refine ax_S (st := [vr 175]) (as := [vi s, vi 0, vi 2]) (v := some (vi 1)) (h' := sD h I L) d_Mo_dsaSign_4 cs_Mo_dsaSign_4 (c_in1 in_4) rfl rfl rfl ?_
    show AW l G M_Mo_dsaSign P 7 [(0, vr 175), (1, vi s), (2, vi how)] [vi 1, vr 175] (sD h I L)
    refine aw_if_eq (tgt := 23) d_Mo_dsaSign_7 (by decide) (fun c_7 => False.elim (by omega)) (fun c_7 => ?_)
    refine aw_iload_n d_Mo_dsaSign_10 rfl rfl ?_
    refine aw_iconst d_Mo_dsaSign_11 ⟨by decide, by decide⟩ ?_
    refine aw_iconst d_Mo_dsaSign_12 ⟨by decide, by decide⟩ ?_
    refine ax_S (st := [vr 175]) (as := [vi how, vi (-1), vi 0]) (v := some (vi 0)) (h' := sD h I L) d_Mo_dsaSign_13 cs_Mo_dsaSign_13 (c_in0 hw) rfl rfl rfl ?_
    show AW l G M_Mo_dsaSign P 16 [(0, vr 175), (1, vi s), (2, vi how)] [vi 0, vr 175] (sD h I L)
    refine aw_if_eq (tgt := 23) d_Mo_dsaSign_16 (by decide) (fun c_16 => ?_) (fun c_16 => False.elim (by omega))
    refine aw_iconst d_Mo_dsaSign_23 ⟨by decide, by decide⟩ ?_
    refine aw_iconst d_Mo_dsaSign_24 ⟨by decide, by decide⟩ ?_
    refine ax_V (st := []) (as := [vi 0, vi 1]) (b := 175) (v := some (vi 0)) (h' := sD h (a_up I 175 4 1) L) d_Mo_dsaSign_25 cs_Mo_dsaSign_25 (k_175 S) (c_good0 S (rfl)) rfl rfl rfl ?_
    show AW l G M_Mo_dsaSign P 28 [(0, vr 175), (1, vi s), (2, vi how)] [vi 0] (sD h (a_up I 175 4 1) L)
    refine aw_if_ne (tgt := 33) d_Mo_dsaSign_28 (by decide) (fun c_28 => False.elim (by omega)) (fun c_28 => ?_)
    refine aw_iconst d_Mo_dsaSign_31 ⟨by decide, by decide⟩ ?_
    exact aw_iret d_Mo_dsaSign_32 rfl (hP _ _ (rsNo 0 1 (c4_1 (fun z => by have z1 := z.1; have z2 := z.2; omega)) (by decide) a_up_at (fR0.fr fR0.rfl' (FR.c0 (p := fun _ => False)) (by intro a x y; exact ⟨fun z => z, fun z => z⟩) (fun z => z))))
  · skip
    refine ax_S (st := [vr 175]) (as := [vi s, vi 0, vi 2]) (v := some (vi 0)) (h' := sD h I L) d_Mo_dsaSign_4 cs_Mo_dsaSign_4 (c_in0 in_4) rfl rfl rfl ?_
    show AW l G M_Mo_dsaSign P 7 [(0, vr 175), (1, vi s), (2, vi how)] [vi 0, vr 175] (sD h I L)
    refine aw_if_eq (tgt := 23) d_Mo_dsaSign_7 (by decide) (fun c_7 => ?_) (fun c_7 => False.elim (by omega))
    refine aw_iconst d_Mo_dsaSign_23 ⟨by decide, by decide⟩ ?_
    refine aw_iconst d_Mo_dsaSign_24 ⟨by decide, by decide⟩ ?_
    refine ax_V (st := []) (as := [vi 0, vi 1]) (b := 175) (v := some (vi 0)) (h' := sD h (a_up I 175 4 1) L) d_Mo_dsaSign_25 cs_Mo_dsaSign_25 (k_175 S) (c_good0 S (rfl)) rfl rfl rfl ?_
    show AW l G M_Mo_dsaSign P 28 [(0, vr 175), (1, vi s), (2, vi how)] [vi 0] (sD h (a_up I 175 4 1) L)
    refine aw_if_ne (tgt := 33) d_Mo_dsaSign_28 (by decide) (fun c_28 => False.elim (by omega)) (fun c_28 => ?_)
    refine aw_iconst d_Mo_dsaSign_31 ⟨by decide, by decide⟩ ?_
    exact aw_iret d_Mo_dsaSign_32 rfl (hP _ _ (rsNo 0 1 (c4_1 (fun z => by have z1 := z.1; have z2 := z.2; omega)) (by decide) a_up_at (fR0.fr fR0.rfl' (FR.c0 (p := fun _ => False)) (by intro a x y; exact ⟨fun z => z, fun z => z⟩) (fun z => z))))
theorem c_Mo_dsaSign {l : Launch} {G : a_G} {h : Hp} {I L : Nat → Int → Int} {s how : Int} (S : Shp h) (RS : RSt I L) (rb : RB I) : AW l G M_Mo_dsaSign (RsR h I L (c4 ((0 ≤ s ∧ s < 3) ∧ (how = 0 ∨ how = -1)) ((how ≠ 0 ∨ I 186 4 ≤ 255) ∧ (I 186 0 = 32 ∨ I 186 0 = 0)) (I 186 2 = sSec s) (sgOk s (rkR I) ∧ sgRun s (rkR I) (rhR I how) (muR I (fun k => I 180 (64 + k)) how) 814 0 ≠ none)) (fun a => a = 183 ∨ a = 186) (fun v I' _ => ∃ t, sgRun s (rkR I) (rhR I how) (muR I (fun k => I 180 (64 + k)) how) 814 0 = some t ∧ v = t + 1 ∧ ((∀ j, j ≠ 5 → I' 186 j = I 186 j) ∧ I' 186 5 = sPkt s) ∧ HR I' 183 0 (sPkt s) (sgPk s (rkR I) (rhR I how) (muR I (fun k => I 180 (64 + k)) how) t) ∧ rng (I 183) (I' 183))) 0 (a_ar 0 [vr 175, vi s, vi how]) [] (sD h I L) := by
  by_cases hs : 0 ≤ s ∧ s ≤ 2
  · by_cases hw : -1 ≤ how ∧ how ≤ 0
    · rcases (by omega : s = 0 ∨ s = 1 ∨ s = 2) with e | e | e
      · subst e
        rcases (by omega : how = 0 ∨ how = -1) with e2 | e2
        · subst e2; exact c_Mo_dsaSign00 S RS rb
        · subst e2; exact c_Mo_dsaSign0N S RS rb
      · subst e
        rcases (by omega : how = 0 ∨ how = -1) with e2 | e2
        · subst e2; exact c_Mo_dsaSign10 S RS rb
        · subst e2; exact c_Mo_dsaSign1N S RS rb
      · subst e
        rcases (by omega : how = 0 ∨ how = -1) with e2 | e2
        · subst e2; exact c_Mo_dsaSign20 S RS rb
        · subst e2; exact c_Mo_dsaSign2N S RS rb
    · exact c_Mo_dsaSignY S hw
  · exact c_Mo_dsaSignX S hs
