/-! KeyMaker: writing -/
theorem gB_congr {F G : Int → Int} {w : Nat} (h : eqQ F G) : gB F w = gB G w := by
  funext k
  unfold gB
  rw [bV_congr (fun i hi => h i (by omega) (by omega))]
theorem gB_b (F : Int → Int) (w : Nat) (k : Int) : 0 ≤ gB F w k ∧ gB F w k < 256 := by unfold gB; omega
theorem gB_m (F : Int → Int) (w : Nat) (k : Int) : gB F w k % 256 = gB F w k := Int.emod_eq_of_lt (gB_b F w k).1 (gB_b F w k).2
theorem spOut_m (s : Sp) (k : Int) : spOut s k % 256 = spOut s k := Int.emod_eq_of_lt (spGet_lt _).1 (spGet_lt _).2
def pkB (sd : Int → Int) (T : Int → Int → Int) (x : Int) : Int := if x < 32 then sd x else gB (fun j => (T ((x - 32) / 320) j + 4096 - 1) / 8192) 10 ((x - 32) % 320)
theorem pkB_at {sd : Int → Int} {T : Int → Int → Int} {i k : Int} (h0 : 0 ≤ i) (k0 : 0 ≤ k) (k1 : k < 320) : pkB sd T (32 + 320 * i + k) = gB (fun j => (T i j + 4096 - 1) / 8192) 10 k := by
  unfold pkB
  rw [if_neg (by omega), show (32 + 320 * i + k - 32) / 320 = i by omega, show (32 + 320 * i + k - 32) % 320 = k by omega]
def skB0 (sd hh : Int → Int) (Y T : Int → Int → Int) (x : Int) : Int := if x < 32 then sd x else if x < 64 then sd (96 + (x - 32)) else if x < 128 then hh (x - 64) else if x < 896 then gB (fun j => (2 - Y ((x - 128) / 96) j) % 8380417) 3 ((x - 128) % 96) else gB (fun j => 4096 - (T ((x - 896) / 416) j - (T ((x - 896) / 416) j + 4096 - 1) / 8192 * 8192)) 13 ((x - 896) % 416)
def skB1 (sd hh : Int → Int) (Y T : Int → Int → Int) (x : Int) : Int := if x < 32 then sd x else if x < 64 then sd (96 + (x - 32)) else if x < 128 then hh (x - 64) else if x < 1536 then gB (fun j => (4 - Y ((x - 128) / 128) j) % 8380417) 4 ((x - 128) % 128) else gB (fun j => 4096 - (T ((x - 1536) / 416) j - (T ((x - 1536) / 416) j + 4096 - 1) / 8192 * 8192)) 13 ((x - 1536) % 416)
def skB2 (sd hh : Int → Int) (Y T : Int → Int → Int) (x : Int) : Int := if x < 32 then sd x else if x < 64 then sd (96 + (x - 32)) else if x < 128 then hh (x - 64) else if x < 1568 then gB (fun j => (2 - Y ((x - 128) / 96) j) % 8380417) 3 ((x - 128) % 96) else gB (fun j => 4096 - (T ((x - 1568) / 416) j - (T ((x - 1568) / 416) j + 4096 - 1) / 8192 * 8192)) 13 ((x - 1568) % 416)
set_option maxHeartbeats 800000 in
set_option maxRecDepth 100000 in
theorem c_KM_addSeed {l : Launch} {G : a_G} {h : Hp} {I L : Nat → Int → Int} {b r : Nat} {fr : Int} (S : Shp h) (SB : ByO h b r) (hb : b < 36 ∧ r < 36) (hc : 0 ≤ I b 1 ∧ I b 1 + 32 ≤ hN h r ∧ hN h r < 2147483648 ∧ I 144 1 ≤ 128 ∧ 0 ≤ fr ∧ fr < 1000) : AW l G M_KM_addSeed (Rx none (sD h (byPut I b r 32 (fun x => byAt I 144 145 (fr + x))) L)) 0 (a_ar 0 [vr 143, vr b, vi fr]) [] (sD h I L) := by
  suffices key : ∀ P : a_R → Hp → Prop, (P (.inl none) (sD h (byPut I b r 32 (fun x => byAt I 144 145 (fr + x))) L)) → AW l G M_KM_addSeed P 0 [(0, vr 143), (1, vr b), (2, vi fr)] [] (sD h I L) from key _ (⟨rfl, rfl⟩)
  intro P hP
  refine aw_iconst d_KM_addSeed_0 ⟨by decide, by decide⟩ ?_
  refine aw_istore_n (lv' := [(3, vi 0), (0, vr 143), (1, vr b), (2, vi fr)]) d_KM_addSeed_1 rfl (by decide) rfl ?_
  have lp_2 : ∀ (n_ : Nat) (i : Int), (0 ≤ i ∧ i ≤ 32) → ((32 - i).toNat) = n_ → AW l G M_KM_addSeed P 2 [(3, vi i), (2, vi fr), (1, vr b), (0, vr 143)] [] (sD h (byPut I b r i (fun x => byAt I 144 145 (fr + x))) L) := by
    intro n_
    induction n_ using Nat.strongRecOn with
    | _ n_ ih_2 =>
    intro i hi hm_2
    refine aw_iload_n d_KM_addSeed_2 rfl rfl ?_
    refine aw_bipush d_KM_addSeed_3 ⟨by decide, by decide⟩ (by decide) ?_
    refine aw_icmp_ge (tgt := 28) d_KM_addSeed_5 (by decide) (fun c_5 => ?_) (fun c_5 => ?_)
    · skip
      exact aw_vret d_KM_addSeed_28 rfl (by rw [show i = 32 by omega]; exact hP)
    · skip
      refine aw_aload_n d_KM_addSeed_8 rfl rfl ?_
      refine aw_aload_n d_KM_addSeed_9 rfl rfl ?_
      refine ax_getR (b := 144) d_KM_addSeed_10 fd_KM_16 (k_143 S) (r_143_1 S) ?_
      refine aw_iload_n d_KM_addSeed_13 rfl rfl ?_
      refine aw_iload_n d_KM_addSeed_14 rfl rfl ?_
      refine ax_iadd d_KM_addSeed_15 ⟨(by omega), (by omega)⟩ ?_
      refine ax_V (st := [vr b]) (as := [vi (fr + i)]) (b := 144) (v := some (vi (byAt I 144 145 (fr + i)))) (h' := sD h (byPut I b r i (fun x => byAt I 144 145 (fr + x))) L) d_KM_addSeed_16 cs_KM_addSeed_16 (k_144 S) (c_By_at ⟨k_144 S, r_144_0 S, k_145 S, by decide, by decide, by decide⟩ (by rw [byPut_ne (by omega) (by omega), n_145 S]; omega) (byAt_put (by omega) (by omega) (by omega) (by omega))) rfl rfl rfl ?_
      show AW l G M_KM_addSeed P 19 [(3, vi i), (2, vi fr), (1, vr b), (0, vr 143)] [vi (byAt I 144 145 (fr + i)), vr b] (sD h (byPut I b r i (fun x => byAt I 144 145 (fr + x))) L)
      refine ax_V (st := []) (as := [vi (byAt I 144 145 (fr + i))]) (b := b) (v := none) (h' := sD h (byPut I b r (i + 1) (fun x => byAt I 144 145 (fr + x))) L) d_KM_addSeed_19 cs_KM_addSeed_19 SB.1 (c_By_add SB (by rw [byPut_cnt]; omega) (byPut_1 (g := (fun x => byAt I 144 145 (fr + x))) SB.2.2.2.2.2 (by omega) rfl)) rfl rfl rfl ?_
      show AW l G M_KM_addSeed P 22 [(3, vi i), (2, vi fr), (1, vr b), (0, vr 143)] [] (sD h (byPut I b r (i + 1) (fun x => byAt I 144 145 (fr + x))) L)
      refine ax_iinc (lv' := [(3, vi (i + 1)), (2, vi fr), (1, vr b), (0, vr 143)]) d_KM_addSeed_22 rfl (by decide) ⟨(by omega), (by omega)⟩ rfl ?_
      refine aw_goto (tgt := 2) d_KM_addSeed_25 (by decide) ?_
      exact ih_2 _ (by omega) (i + 1) (by omega) rfl
  refine ax_hp (h' := sD h (byPut I b r 0 (fun x => byAt I 144 145 (fr + x))) L) (by rw [byPut_0]) ?_
  refine aw_sub (lv' := [(3, vi 0), (2, vi fr), (1, vr b), (0, vr 143)]) (by simp) ?_
  exact lp_2 _ 0 (by omega) rfl
set_option maxHeartbeats 800000 in
set_option maxRecDepth 100000 in
theorem c_KM_addMirrored {l : Launch} {G : a_G} {h : Hp} {I L : Nat → Int → Int} {b r : Nat} {f w : Nat} {e : Int} (SB : ByO h b r) (Zf : RwO h f) (hf : f ≠ b ∧ f ≠ r) (he : 0 ≤ e ∧ e < 8380417) (qf : inQ (I f)) (hw : w ≤ 20) (hX : ∀ j, 0 ≤ j → j < 256 → 0 ≤ (e - I f j) % 8380417 ∧ (e - I f j) % 8380417 < 2 ^ w) (hc : 0 ≤ I b 1 ∧ I b 1 + 32 * w ≤ hN h r ∧ hN h r < 2147483648) : AW l G M_KM_addMirrored (Rx none (sD h (byPut (rowTo I f 256 (fun j => (e - I f j) % 8380417)) b r (32 * w) (gB (fun j => (e - I f j) % 8380417) w)) L)) 0 (a_ar 0 [vr b, vr f, vi e, vi (w : Int)]) [] (sD h I L) := by
  suffices key : ∀ P : a_R → Hp → Prop, (P (.inl none) (sD h (byPut (rowTo I f 256 (fun j => (e - I f j) % 8380417)) b r (32 * w) (gB (fun j => (e - I f j) % 8380417) w)) L)) → AW l G M_KM_addMirrored P 0 [(0, vr b), (1, vr f), (2, vi e), (3, vi (w : Int))] [] (sD h I L) from key _ (⟨rfl, rfl⟩)
  intro P hP
  refine aw_aload_n d_KM_addMirrored_0 rfl rfl ?_
  refine aw_iload_n d_KM_addMirrored_1 rfl rfl ?_
  refine ax_S (st := []) (as := [vr f, vi e]) (v := none) (h' := sD h (rowTo I f 256 (fun j => (e - I f j) % 8380417)) L) d_KM_addMirrored_2 cs_KM_addMirrored_2 (c_Ri_mirror Zf (by omega) qf) rfl rfl rfl ?_
  show AW l G M_KM_addMirrored P 5 [(0, vr b), (1, vr f), (2, vi e), (3, vi (w : Int))] [] (sD h (rowTo I f 256 (fun j => (e - I f j) % 8380417)) L)
  refine aw_aload_n d_KM_addMirrored_5 rfl rfl ?_
  refine aw_aload_n d_KM_addMirrored_6 rfl rfl ?_
  refine aw_iload_n d_KM_addMirrored_7 rfl rfl ?_
  refine ax_V (st := []) (as := [vr f, vi (w : Int)]) (b := b) (v := none) (h' := sD h (byPut (rowTo I f 256 (fun j => (e - I f j) % 8380417)) b r (32 * w) (gB (fun j => (e - I f j) % 8380417) w)) L) d_KM_addMirrored_8 cs_KM_addMirrored_8 SB.1 (gB_congr (F := (rowTo I f 256 (fun j => (e - I f j) % 8380417)) f) (G := (fun j => (e - I f j) % 8380417)) (fun j x y => rowTo_in x y) ▸ c_By_addBits SB ⟨Zf.1, Zf.2.1, Zf.2.2, hf.1, hf.2⟩ hw (fun j x y => by rw [rowTo_in x y]; exact hX j x y) (by rw [rowTo_ne hf.1.symm]; exact hc)) rfl rfl rfl ?_
  show AW l G M_KM_addMirrored P 11 [(0, vr b), (1, vr f), (2, vi e), (3, vi (w : Int))] [] (sD h (byPut (rowTo I f 256 (fun j => (e - I f j) % 8380417)) b r (32 * w) (gB (fun j => (e - I f j) % 8380417) w)) L)
  exact aw_vret d_KM_addMirrored_11 rfl hP
set_option maxHeartbeats 800000 in
set_option maxRecDepth 100000 in
theorem c_KM_top {l : Launch} {G : a_G} {h : Hp} {v : Int} (hv : 0 ≤ v ∧ v < 8380417) : AW l G M_KM_top (Rx (some (vi ((v + 4096 - 1) / 8192))) h) 0 (a_ar 0 [vi v]) [] (h) := by
  suffices key : ∀ P : a_R → Hp → Prop, (P (.inl (some (vi ((v + 4096 - 1) / 8192)))) h) → AW l G M_KM_top P 0 [(0, vi v)] [] (h) from key _ (⟨rfl, rfl⟩)
  intro P hP
  refine aw_iload_n d_KM_top_0 rfl rfl ?_
  refine aw_sipush d_KM_top_1 ⟨by decide, by decide⟩ (by decide) ?_
  refine ax_iadd d_KM_top_4 ⟨(by omega), (by omega)⟩ ?_
  refine aw_iconst d_KM_top_5 ⟨by decide, by decide⟩ ?_
  refine ax_isub d_KM_top_6 ⟨(by omega), (by omega)⟩ ?_
  refine aw_bipush d_KM_top_7 ⟨by decide, by decide⟩ (by decide) ?_
  refine aw_ishr d_KM_top_9 ?_
  refine ax_ti (x := ((v + 4096) - 1) / 8192) (a_shr' 13 rfl (by decide) (by decide) ⟨(by omega), (by omega)⟩) ?_
  exact aw_iret d_KM_top_10 rfl hP
set_option maxHeartbeats 800000 in
set_option maxRecDepth 100000 in
theorem c_KM_writePublic0 {l : Launch} {G : a_G} {h : Hp} {I L : Nat → Int → Int} {sd : Int → Int} {T : Int → Int → Int} (S : Shp h) (SD : Std I L) (hs : HB I 144 145 128 sd) (sdb : ∀ x, 0 ≤ x → x < 128 → sd x % 256 = sd x) (hT : ∀ m, 0 ≤ m → m < 4 → eqQ (I (127 + m.toNat)) (T m)) (qT : ∀ m, 0 ≤ m → m < 4 → inQ (T m)) : AW l G M_KM_writePublic (Ret (fun _ : Nat → Int → Int => none) (fun K => sD h K L) (fun K => FC (fun a => a = 16 ∨ a = 17 ∨ a = 136) I L K L ∧ HB K 16 17 1312 (pkB sd T))) 0 (a_ar 0 [vr 143, vr 16, vr 33]) [] (sD h I L) := by
  suffices key : ∀ P : a_R → Hp → Prop, (∀ K : Nat → Int → Int, FC (fun a => a = 16 ∨ a = 17 ∨ a = 136) I L K L → HB K 16 17 1312 (pkB sd T) → P (.inl none) (sD h K L)) → AW l G M_KM_writePublic P 0 [(0, vr 143), (1, vr 16), (2, vr 33)] [] (sD h I L) from key _ (fun K q1 q2 => ⟨K, rfl, rfl, q1, q2⟩)
  intro P hP
  refine aw_aload_n d_KM_writePublic_0 rfl rfl ?_
  refine ax_V (st := []) (as := []) (b := 16) (v := none) (h' := sD h (a_up I 16 1 0) L) d_KM_writePublic_1 cs_KM_writePublic_1 (k_16 S) (c_By_clear (ks S (i := 1) (by decide))) rfl rfl rfl ?_
  show AW l G M_KM_writePublic P 4 [(0, vr 143), (1, vr 16), (2, vr 33)] [] (sD h (a_up I 16 1 0) L)
  refine aw_aload_n d_KM_writePublic_4 rfl rfl ?_
  refine aw_aload_n d_KM_writePublic_5 rfl rfl ?_
  refine aw_iconst d_KM_writePublic_6 ⟨by decide, by decide⟩ ?_
  refine ax_V (st := []) (as := [vr 16, vi 0]) (b := 143) (v := none) (h' := sD h (byPut (a_up I 16 1 0) 16 17 32 (fun x => byAt (a_up I 16 1 0) 144 145 (0 + x))) L) d_KM_writePublic_7 cs_KM_writePublic_7 (k_143 S) (c_KM_addSeed S (ks S (i := 1) (by decide)) ⟨by decide, by decide⟩ (by rw [a_up_at, nks S (i := 1) (by decide), a_up_ne (Or.inl (by decide)), hs.1]; omega)) rfl rfl rfl ?_
  show AW l G M_KM_writePublic P 10 [(0, vr 143), (1, vr 16), (2, vr 33)] [] (sD h (byPut (a_up I 16 1 0) 16 17 32 (fun x => byAt (a_up I 16 1 0) 144 145 (0 + x))) L)
  have F0 : FC (fun a => a = 16 ∨ a = 17 ∨ a = 136) I L (byPut (a_up I 16 1 0) 16 17 32 (fun x => byAt (a_up I 16 1 0) 144 145 (0 + x))) L := (FC.up (p := fun a => a = 16 ∨ a = 17 ∨ a = 136) (by omega)).tr (FC.put (p := fun a => a = 16 ∨ a = 17 ∨ a = 136) (by omega) (by omega)) (fun a x => ⟨x, x⟩)
  have H0 : HB (byPut (a_up I 16 1 0) 16 17 32 (fun x => byAt (a_up I 16 1 0) 144 145 (0 + x))) 16 17 (0 + 32) (pkB sd T) := HB.zero.put (by decide) (by decide) (by decide) (fun z x y => by rw [byAt_fc (L := L) (L' := L) (FC.up (p := fun a => a = 16) rfl) (by decide) (by decide), hs.2 _ (by omega) (by omega), sdb _ (by omega) (by omega)]; unfold pkB; rw [if_pos (by omega)])
  refine aw_iconst d_KM_writePublic_10 ⟨by decide, by decide⟩ ?_
  refine aw_istore_n (lv' := [(3, vi 0), (0, vr 143), (1, vr 16), (2, vr 33)]) d_KM_writePublic_11 rfl (by decide) rfl ?_
  have lp_12 : ∀ (n_ : Nat) (i : Int) (K : Nat → Int → Int), (0 ≤ i ∧ i ≤ 4) → (FC (fun a => a = 16 ∨ a = 17 ∨ a = 136) I L K L) → (HB K 16 17 (32 + 320 * i) (pkB sd T)) → ((4 - i).toNat) = n_ → AW l G M_KM_writePublic P 12 [(3, vi i), (2, vr 33), (1, vr 16), (0, vr 143)] [] (sD h K L) := by
    intro n_
    induction n_ using Nat.strongRecOn with
    | _ n_ ih_12 =>
    intro i K hi F H hm_12
    refine aw_iload_n d_KM_writePublic_12 rfl rfl ?_
    refine aw_aload_n d_KM_writePublic_13 rfl rfl ?_
    refine ax_getIe (x := 4) d_KM_writePublic_14 fd_KM_57 (k_33 S) (Eq.trans (F.1 33 0 (by omega)) (pc_33_0 SD.2.1)) ?_
    refine aw_icmp_ge (tgt := 81) d_KM_writePublic_17 (by decide) (fun c_17 => ?_) (fun c_17 => ?_)
    · skip
      exact aw_vret d_KM_writePublic_81 rfl (hP K F (by rw [show 1312 = 32 + 320 * i by omega]; exact H))
    · skip
      refine aw_iconst d_KM_writePublic_20 ⟨by decide, by decide⟩ ?_
      refine aw_istore (lv' := [(4, vi 0), (3, vi i), (2, vr 33), (1, vr 16), (0, vr 143)]) d_KM_writePublic_21 (by decide) rfl ?_
      have lp_23 : ∀ (n_ : Nat) (c : Int), (0 ≤ c ∧ c ≤ 256) → ((256 - c).toNat) = n_ → AW l G M_KM_writePublic P 23 [(4, vi c), (3, vi i), (2, vr 33), (1, vr 16), (0, vr 143)] [] (sD h (rowTo K 136 c (fun x => (K (127 + i.toNat) x + 4096 - 1) / 8192)) L) := by
        intro n_
        induction n_ using Nat.strongRecOn with
        | _ n_ ih_23 =>
        intro c hc hm_23
        refine aw_iload d_KM_writePublic_23 rfl ?_
        refine aw_sipush d_KM_writePublic_25 ⟨by decide, by decide⟩ (by decide) ?_
        refine aw_icmp_ge (tgt := 62) d_KM_writePublic_28 (by decide) (fun c_28 => ?_) (fun c_28 => ?_)
        · skip
          rw [show c = 256 by omega]
          refine aw_aload_n d_KM_writePublic_62 rfl rfl ?_
          refine aw_aload_n d_KM_writePublic_63 rfl rfl ?_
          refine ax_getR (b := 36) d_KM_writePublic_64 fd_KM_20 (k_143 S) (r_143_0 S) ?_
          refine ax_getR (b := 136) d_KM_writePublic_67 fd_KM_140 (k_36 S) (r_36_9 S) ?_
          refine aw_bipush d_KM_writePublic_70 ⟨by decide, by decide⟩ (by decide) ?_
          refine ax_V (st := []) (as := [vr 136, vi 10]) (b := 16) (v := none) (h' := sD h (byPut (rowTo K 136 256 (fun x => (K (127 + i.toNat) x + 4096 - 1) / 8192)) 16 17 (32 * 10) (gB ((rowTo K 136 256 (fun x => (K (127 + i.toNat) x + 4096 - 1) / 8192)) 136) 10)) L) d_KM_writePublic_72 cs_KM_writePublic_72 (k_16 S) (by have z := c_By_addBits (l := l) (G := G) (L := L) (I := rowTo K 136 256 (fun x => (K (127 + i.toNat) x + 4096 - 1) / 8192)) (w := 10) (ks S (i := 1) (by decide)) ⟨k_136 S, by decide, n_136 S, by decide, by decide⟩ (by decide) (fun j x y => by rw [rowTo_in x y, F.1 _ _ (by omega), hT i hi.1 (by omega) j x y]; have := qT i hi.1 (by omega) j x y; omega) (by rw [rowTo_ne (by decide), H.1, nks S (i := 1) (by decide)]; omega); exact z) rfl rfl rfl ?_
          show AW l G M_KM_writePublic P 75 [(4, vi 256), (3, vi i), (2, vr 33), (1, vr 16), (0, vr 143)] [] (sD h (byPut (rowTo K 136 256 (fun x => (K (127 + i.toNat) x + 4096 - 1) / 8192)) 16 17 (32 * 10) (gB ((rowTo K 136 256 (fun x => (K (127 + i.toNat) x + 4096 - 1) / 8192)) 136) 10)) L)
          refine ax_iinc (lv' := [(3, vi (i + 1)), (4, vi 256), (2, vr 33), (1, vr 16), (0, vr 143)]) d_KM_writePublic_75 rfl (by decide) ⟨(by omega), (by omega)⟩ rfl ?_
          refine aw_goto (tgt := 12) d_KM_writePublic_78 (by decide) ?_
          refine aw_sub (lv' := [(3, vi (i + 1)), (2, vr 33), (1, vr 16), (0, vr 143)]) (by simp) ?_
          exact ih_12 _ (by omega) (i + 1) (byPut (rowTo K 136 256 (fun x => (K (127 + i.toNat) x + 4096 - 1) / 8192)) 16 17 (32 * 10) (gB ((rowTo K 136 256 (fun x => (K (127 + i.toNat) x + 4096 - 1) / 8192)) 136) 10)) (by omega) ((F.tr (FC.row (p := fun a => a = 16 ∨ a = 17 ∨ a = 136) (by omega)) (fun a x => ⟨x, x⟩)).tr (FC.put (p := fun a => a = 16 ∨ a = 17 ∨ a = 136) (by omega) (by omega)) (fun a x => ⟨x, x⟩)) (by rw [show 32 + 320 * (i + 1) = 32 + 320 * i + 32 * 10 by omega]; exact (H.fc (L := L) (L' := L) (FC.row (p := fun a => a = 136) rfl) (by decide) (by decide)).put (by decide) (by omega) (by decide) (fun z x y => by rw [gB_m, pkB_at hi.1 x (by omega), gB_congr (G := fun j => (T i j + 4096 - 1) / 8192) (fun j u v => by rw [rowTo_in u v, F.1 _ _ (by omega), hT i hi.1 (by omega) j u v])])) rfl
        · skip
          refine aw_aload_n d_KM_writePublic_31 rfl rfl ?_
          refine ax_getR (b := 36) d_KM_writePublic_32 fd_KM_20 (k_143 S) (r_143_0 S) ?_
          refine ax_getR (b := 136) d_KM_writePublic_35 fd_KM_140 (k_36 S) (r_36_9 S) ?_
          refine aw_iload d_KM_writePublic_38 rfl ?_
          refine aw_aload_n d_KM_writePublic_40 rfl rfl ?_
          refine ax_getR (b := 36) d_KM_writePublic_41 fd_KM_20 (k_143 S) (r_143_0 S) ?_
          refine ax_getR (b := 126) d_KM_writePublic_44 fd_KM_125 (k_36 S) (r_36_7 S) ?_
          refine aw_iload_n d_KM_writePublic_47 rfl rfl ?_
          refine ax_aald (b := 127 + i.toNat) d_KM_writePublic_48 ⟨by rw [(k_126 S)]; decide, by rw [(k_126 S)]; decide⟩ (by omega) (by rw [n_126 S]; omega) (g_126 S (by omega) (by omega)) ?_
          refine aw_iload d_KM_writePublic_49 rfl ?_
          refine ax_ialde (x := K (127 + i.toNat) c) d_KM_writePublic_51 (kr_126 S (by omega)) (by omega) (by rw [nr_126 S (by omega)]; omega) (Eq.trans (rowTo_ne (by omega)) (rfl)) ?_
          refine ax_S (st := [vi c, vr 136]) (as := [vi (K (127 + i.toNat) c)]) (v := some (vi ((K (127 + i.toNat) c + 4096 - 1) / 8192))) (h' := sD h (rowTo K 136 c (fun x => (K (127 + i.toNat) x + 4096 - 1) / 8192)) L) d_KM_writePublic_52 cs_KM_writePublic_52 (c_KM_top (by rw [F.1 _ _ (by omega), hT i hi.1 (by omega) c hc.1 (by omega)]; exact qT i hi.1 (by omega) c hc.1 (by omega))) rfl rfl rfl ?_
          show AW l G M_KM_writePublic P 55 [(4, vi c), (3, vi i), (2, vr 33), (1, vr 16), (0, vr 143)] [vi ((K (127 + i.toNat) c + 4096 - 1) / 8192), vi c, vr 136] (sD h (rowTo K 136 c (fun x => (K (127 + i.toNat) x + 4096 - 1) / 8192)) L)
          refine ax_iast d_KM_writePublic_55 (k_136 S) (by decide) (by omega) (by rw [n_136 S]; omega) ?_
          rw [rowTo_1 (by omega) rfl]
          refine ax_iinc (lv' := [(4, vi (c + 1)), (3, vi i), (2, vr 33), (1, vr 16), (0, vr 143)]) d_KM_writePublic_56 rfl (by decide) ⟨(by omega), (by omega)⟩ rfl ?_
          refine aw_goto (tgt := 23) d_KM_writePublic_59 (by decide) ?_
          exact ih_23 _ (by omega) (c + 1) (by omega) rfl
      refine ax_hp (h' := sD h (rowTo K 136 0 (fun x => (K (127 + i.toNat) x + 4096 - 1) / 8192)) L) (by rw [rowTo_0]) ?_
      exact lp_23 _ 0 (by omega) rfl
  skip
  refine aw_sub (lv' := [(3, vi 0), (2, vr 33), (1, vr 16), (0, vr 143)]) (by simp) ?_
  exact lp_12 _ 0 (byPut (a_up I 16 1 0) 16 17 32 (fun x => byAt (a_up I 16 1 0) 144 145 (0 + x))) (by omega) (F0) (H0) rfl
theorem skB0_s {sd hh : Int → Int} {Y T : Int → Int → Int} {i z : Int} (h0 : 0 ≤ i) (h1 : i < 8) (z0 : 0 ≤ z) (z1 : z < 96) : skB0 sd hh Y T (128 + 96 * i + z) = gB (fun j => (2 - Y i j) % 8380417) 3 z := by
  unfold skB0
  rw [if_neg (by omega), if_neg (by omega), if_neg (by omega), if_pos (by omega), show (128 + 96 * i + z - 128) / 96 = i by omega, show (128 + 96 * i + z - 128) % 96 = z by omega]
theorem skB0_t {sd hh : Int → Int} {Y T : Int → Int → Int} {i z : Int} (h0 : 0 ≤ i) (z0 : 0 ≤ z) (z1 : z < 416) : skB0 sd hh Y T (896 + 416 * i + z) = gB (fun j => 4096 - (T i j - (T i j + 4096 - 1) / 8192 * 8192)) 13 z := by
  unfold skB0
  rw [if_neg (by omega), if_neg (by omega), if_neg (by omega), if_neg (by omega), show (896 + 416 * i + z - 896) / 416 = i by omega, show (896 + 416 * i + z - 896) % 416 = z by omega]
set_option maxHeartbeats 800000 in
set_option maxRecDepth 100000 in
theorem c_KM_writeSecret0 {l : Launch} {G : a_G} {h : Hp} {I L : Nat → Int → Int} {sd : Int → Int} {Y T : Int → Int → Int} (S : Shp h) (SD : Std I L) (hs : HB I 144 145 128 sd) (sdb : ∀ x, 0 ≤ x → x < 128 → sd x % 256 = sd x) (hT : ∀ m, 0 ≤ m → m < 4 → eqQ (I (127 + m.toNat)) (T m)) (qT : ∀ m, 0 ≤ m → m < 4 → inQ (T m)) (hV : ∀ m, 0 ≤ m → m < 4 → eqQ (I (102 + m.toNat)) (Y m)) (hE : ∀ m, 0 ≤ m → m < 4 → eqQ (I (110 + m.toNat)) (Y (4 + m))) (qY : ∀ m, 0 ≤ m → m < 8 → inQ (Y m)) (bY : ∀ m, 0 ≤ m → m < 8 → ∀ j, 0 ≤ j → j < 256 → 0 ≤ (2 - Y m j) % 8380417 ∧ (2 - Y m j) % 8380417 < 2 ^ 3) (hp : 0 ≤ I 16 1 ∧ I 16 1 ≤ 8192) : AW l G M_KM_writeSecret (Ret (fun _ : (Nat → Int → Int) × (Nat → Int → Int) => none) (fun u => sD h u.1 u.2) (fun u => FC (fun a => a = 18 ∨ a = 19 ∨ a = 38 ∨ a = 137 ∨ a = 138 ∨ 102 ≤ a ∧ a ≤ 108 ∨ 110 ≤ a ∧ a ≤ 117 ∨ a = 136) I L u.1 u.2 ∧ HB u.1 18 19 2560 (skB0 sd (spOut (blS (fun x => byAt I 16 17 (0 + x)) (I 16 1))) Y T))) 0 (a_ar 0 [vr 143, vr 18, vr 16, vr 33]) [] (sD h I L) := by
  suffices key : ∀ P : a_R → Hp → Prop, (∀ I2 L2, FC (fun a => a = 18 ∨ a = 19 ∨ a = 38 ∨ a = 137 ∨ a = 138 ∨ 102 ≤ a ∧ a ≤ 108 ∨ 110 ≤ a ∧ a ≤ 117 ∨ a = 136) I L I2 L2 → HB I2 18 19 2560 (skB0 sd (spOut (blS (fun x => byAt I 16 17 (0 + x)) (I 16 1))) Y T) → P (.inl none) (sD h I2 L2)) → AW l G M_KM_writeSecret P 0 [(0, vr 143), (1, vr 18), (2, vr 16), (3, vr 33)] [] (sD h I L) from key _ (fun I2 L2 q1 q2 => ⟨(I2, L2), rfl, rfl, q1, q2⟩)
  intro P hP
  refine aw_aload_n d_KM_writeSecret_0 rfl rfl ?_
  refine ax_V (st := []) (as := []) (b := 18) (v := none) (h' := sD h (a_up I 18 1 0) L) d_KM_writeSecret_1 cs_KM_writeSecret_1 (k_18 S) (c_By_clear (ks S (i := 2) (by decide))) rfl rfl rfl ?_
  show AW l G M_KM_writeSecret P 4 [(0, vr 143), (1, vr 18), (2, vr 16), (3, vr 33)] [] (sD h (a_up I 18 1 0) L)
  refine aw_aload_n d_KM_writeSecret_4 rfl rfl ?_
  refine aw_aload_n d_KM_writeSecret_5 rfl rfl ?_
  refine aw_iconst d_KM_writeSecret_6 ⟨by decide, by decide⟩ ?_
  refine ax_V (st := []) (as := [vr 18, vi 0]) (b := 143) (v := none) (h' := sD h (byPut (a_up I 18 1 0) 18 19 32 (fun x => byAt (a_up I 18 1 0) 144 145 (0 + x))) L) d_KM_writeSecret_7 cs_KM_writeSecret_7 (k_143 S) (c_KM_addSeed S (ks S (i := 2) (by decide)) ⟨by decide, by decide⟩ (by rw [a_up_at, nks S (i := 2) (by decide), a_up_ne (Or.inl (by decide)), hs.1]; omega)) rfl rfl rfl ?_
  show AW l G M_KM_writeSecret P 10 [(0, vr 143), (1, vr 18), (2, vr 16), (3, vr 33)] [] (sD h (byPut (a_up I 18 1 0) 18 19 32 (fun x => byAt (a_up I 18 1 0) 144 145 (0 + x))) L)
  refine aw_aload_n d_KM_writeSecret_10 rfl rfl ?_
  refine aw_aload_n d_KM_writeSecret_11 rfl rfl ?_
  refine aw_bipush d_KM_writeSecret_12 ⟨by decide, by decide⟩ (by decide) ?_
  refine ax_V (st := []) (as := [vr 18, vi 96]) (b := 143) (v := none) (h' := sD h (byPut (byPut (a_up I 18 1 0) 18 19 32 (fun x => byAt (a_up I 18 1 0) 144 145 (0 + x))) 18 19 32 (fun x => byAt (byPut (a_up I 18 1 0) 18 19 32 (fun x => byAt (a_up I 18 1 0) 144 145 (0 + x))) 144 145 (96 + x))) L) d_KM_writeSecret_14 cs_KM_writeSecret_14 (k_143 S) (c_KM_addSeed S (ks S (i := 2) (by decide)) ⟨by decide, by decide⟩ (by rw [byPut_cnt, a_up_at, nks S (i := 2) (by decide), byPut_ne (by decide) (by decide), a_up_ne (Or.inl (by decide)), hs.1]; omega)) rfl rfl rfl ?_
  show AW l G M_KM_writeSecret P 17 [(0, vr 143), (1, vr 18), (2, vr 16), (3, vr 33)] [] (sD h (byPut (byPut (a_up I 18 1 0) 18 19 32 (fun x => byAt (a_up I 18 1 0) 144 145 (0 + x))) 18 19 32 (fun x => byAt (byPut (a_up I 18 1 0) 18 19 32 (fun x => byAt (a_up I 18 1 0) 144 145 (0 + x))) 144 145 (96 + x))) L)
  have F00 : FC (fun a => a = 18 ∨ a = 19) I L (byPut (a_up I 18 1 0) 18 19 32 (fun x => byAt (a_up I 18 1 0) 144 145 (0 + x))) L := (FC.up (p := fun a => a = 18 ∨ a = 19) (by omega)).tr (FC.put (p := fun a => a = 18 ∨ a = 19) (by omega) (by omega)) (fun a x => ⟨x, x⟩)
  have F0 : FC (fun a => a = 18 ∨ a = 19) I L (byPut (byPut (a_up I 18 1 0) 18 19 32 (fun x => byAt (a_up I 18 1 0) 144 145 (0 + x))) 18 19 32 (fun x => byAt (byPut (a_up I 18 1 0) 18 19 32 (fun x => byAt (a_up I 18 1 0) 144 145 (0 + x))) 144 145 (96 + x))) L := F00.tr (FC.put (p := fun a => a = 18 ∨ a = 19) (by omega) (by omega)) (fun a x => ⟨x, x⟩)
  have H0a : HB (byPut (a_up I 18 1 0) 18 19 32 (fun x => byAt (a_up I 18 1 0) 144 145 (0 + x))) 18 19 (0 + 32) (skB0 sd (spOut (blS (fun x => byAt I 16 17 (0 + x)) (I 16 1))) Y T) := HB.zero.put (by decide) (by decide) (by decide) (fun z x y => by rw [byAt_fc (L := L) (L' := L) (FC.up (p := fun a => a = 18) rfl) (by decide) (by decide), hs.2 _ (by omega) (by omega), sdb _ (by omega) (by omega)]; unfold skB0; rw [if_pos (by omega)])
  have H0 : HB (byPut (byPut (a_up I 18 1 0) 18 19 32 (fun x => byAt (a_up I 18 1 0) 144 145 (0 + x))) 18 19 32 (fun x => byAt (byPut (a_up I 18 1 0) 18 19 32 (fun x => byAt (a_up I 18 1 0) 144 145 (0 + x))) 144 145 (96 + x))) 18 19 (0 + 32 + 32) (skB0 sd (spOut (blS (fun x => byAt I 16 17 (0 + x)) (I 16 1))) Y T) := H0a.put (by decide) (by decide) (by decide) (fun z x y => by rw [byAt_fc F00 (by decide) (by decide), hs.2 _ (by omega) (by omega), sdb _ (by omega) (by omega)]; unfold skB0; rw [if_neg (by omega), if_pos (by omega), show 0 + 32 + z - 32 = z by omega])
  refine aw_aload_n d_KM_writeSecret_17 rfl rfl ?_
  refine ax_getR (b := 36) d_KM_writeSecret_18 fd_KM_20 (k_143 S) (r_143_0 S) ?_
  refine ax_getR (b := 38) d_KM_writeSecret_21 fd_KM_42 (k_36 S) (r_36_1 S) ?_
  refine ax_Vr (st := []) (as := []) (b := 38) d_KM_writeSecret_24 cs_KM_writeSecret_24 (k_38 S) (c_Sp_start256 S) rfl rfl rfl (fun u_24 q_24 => ?_)
  obtain ⟨I1, L1⟩ := u_24
  obtain ⟨F1, e1⟩ := q_24
  dsimp only at F1 e1
  show AW l G M_KM_writeSecret P 27 [(0, vr 143), (1, vr 18), (2, vr 16), (3, vr 33)] [] (sD h I1 L1)
  refine aw_aload_n d_KM_writeSecret_27 rfl rfl ?_
  refine ax_getR (b := 36) d_KM_writeSecret_28 fd_KM_20 (k_143 S) (r_143_0 S) ?_
  refine ax_getR (b := 38) d_KM_writeSecret_31 fd_KM_42 (k_36 S) (r_36_1 S) ?_
  refine aw_aload_n d_KM_writeSecret_34 rfl rfl ?_
  refine aw_iconst d_KM_writeSecret_35 ⟨by decide, by decide⟩ ?_
  refine aw_aload_n d_KM_writeSecret_36 rfl rfl ?_
  refine ax_getIe (x := I 16 1) d_KM_writeSecret_37 fd_KM_152 (k_16 S) (Eq.trans (F1.1 16 1 (by decide)) (Eq.trans (F0.1 16 1 (by omega)) (rfl))) ?_
  refine ax_Vr (st := []) (as := [vr 16, vi 0, vi (I 16 1)]) (b := 38) d_KM_writeSecret_40 cs_KM_writeSecret_40 (k_38 S) (c_Sp_takePart S ((SD.fc F0 (by intro a x; omega)).1.sp F1) (by rw [e1]; exact (spStart_lt (by decide) (by decide)).1) (ks S (i := 1) (by decide)) ⟨by decide, by decide⟩ (by rw [F1.1 16 1 (by decide), F0.1 16 1 (by omega), nks S (i := 1) (by decide)]; omega)) rfl rfl rfl (fun u_40 q_40 => ?_)
  obtain ⟨I2, L2⟩ := u_40
  obtain ⟨F2, e2⟩ := q_40
  dsimp only at F2 e2
  show AW l G M_KM_writeSecret P 43 [(0, vr 143), (1, vr 18), (2, vr 16), (3, vr 33)] [] (sD h I2 L2)
  refine aw_aload_n d_KM_writeSecret_43 rfl rfl ?_
  refine ax_getR (b := 36) d_KM_writeSecret_44 fd_KM_20 (k_143 S) (r_143_0 S) ?_
  refine ax_getR (b := 38) d_KM_writeSecret_47 fd_KM_42 (k_36 S) (r_36_1 S) ?_
  refine ax_Vr (st := []) (as := []) (b := 38) d_KM_writeSecret_50 cs_KM_writeSecret_50 (k_38 S) (c_Sp_turn S (((SD.fc F0 (by intro a x; omega)).1.sp F1).sp F2) (by rw [e2, e1]; exact spPart_ok ((spStart_lt (by decide) (by decide)).1) _ _)) rfl rfl rfl (fun u_50 q_50 => ?_)
  obtain ⟨I3, L3⟩ := u_50
  obtain ⟨F3, e3⟩ := q_50
  dsimp only at F3 e3
  show AW l G M_KM_writeSecret P 53 [(0, vr 143), (1, vr 18), (2, vr 16), (3, vr 33)] [] (sD h I3 L3)
  have eS : spOf I3 L3 = blS (fun x => byAt I 16 17 (0 + x)) (I 16 1) := by rw [e3, e2, e1, show (fun x => byAt I1 16 (15 + 2 * 1) (0 + x)) = (fun x => byAt I 16 17 (0 + x)) from funext (fun x => (byAt_sp F1.1 (by decide) (by decide)).trans (byAt_fc F0 (by decide) (by decide)))]; rfl
  have FA := F0.tr ((F1.tr F2).tr F3).fc (r := fun a => a = 18 ∨ a = 19 ∨ a = 38) (by intro a x; omega)
  refine aw_aload_n d_KM_writeSecret_53 rfl rfl ?_
  refine ax_getR (b := 36) d_KM_writeSecret_54 fd_KM_20 (k_143 S) (r_143_0 S) ?_
  refine ax_getR (b := 38) d_KM_writeSecret_57 fd_KM_42 (k_36 S) (r_36_1 S) ?_
  refine aw_aload_n d_KM_writeSecret_60 rfl rfl ?_
  refine ax_getR (b := 36) d_KM_writeSecret_61 fd_KM_20 (k_143 S) (r_143_0 S) ?_
  refine ax_getR (b := 137) d_KM_writeSecret_64 fd_KM_155 (k_36 S) (r_36_10 S) ?_
  refine aw_bipush d_KM_writeSecret_67 ⟨by decide, by decide⟩ (by decide) ?_
  refine ax_Vr (st := []) (as := [vr 137, vi 64]) (b := 38) d_KM_writeSecret_69 cs_KM_writeSecret_69 (k_38 S) (c_Sp_giveTo S (SD.fc FA (by intro a x; omega)).1 (by rw [eS]; exact blS_ok) ⟨k_137 S, r_137_0 S, k_138 S, by decide, by decide, by decide⟩ ⟨by decide, by decide⟩ (by rw [n_138 S]; omega)) rfl rfl rfl (fun u_69 q_69 => ?_)
  obtain ⟨I9, L9⟩ := u_69
  obtain ⟨F9, f9, e9⟩ := q_69
  dsimp only at F9 f9 e9
  rw [eS] at F9
  have FB := FA.tr (gv_fc F9 f9) (r := fun a => a = 18 ∨ a = 19 ∨ a = 38 ∨ a = 137 ∨ a = 138) (by intro a x; omega)
  have GD := gv_at F9 (by decide) (by decide) (by decide)
  have H9 : HB I9 18 19 (0 + 32 + 32) (skB0 sd (spOut (blS (fun x => byAt I 16 17 (0 + x)) (I 16 1))) Y T) := (H0.fc ((F1.tr F2).tr F3).fc (by decide) (by decide)).fc (gv_fc F9 f9) (by decide) (by decide)
  show AW l G M_KM_writeSecret P 72 [(0, vr 143), (1, vr 18), (2, vr 16), (3, vr 33)] [] (sD h I9 L9)
  refine aw_aload_n d_KM_writeSecret_72 rfl rfl ?_
  refine aw_aload_n d_KM_writeSecret_73 rfl rfl ?_
  refine ax_getR (b := 36) d_KM_writeSecret_74 fd_KM_20 (k_143 S) (r_143_0 S) ?_
  refine ax_getR (b := 137) d_KM_writeSecret_77 fd_KM_155 (k_36 S) (r_36_10 S) ?_
  refine ax_V (st := []) (as := [vr 137]) (b := 18) (v := none) (h' := sD h (byPut I9 18 19 (I9 137 1) (byAt I9 137 138)) L9) d_KM_writeSecret_80 cs_KM_writeSecret_80 (k_18 S) (c_By_addAll (ks S (i := 2) (by decide)) ⟨k_137 S, r_137_0 S, k_138 S, by decide, by decide, by decide⟩ (by decide) (by rw [H9.1, GD.1, nks S (i := 2) (by decide), n_138 S]; decide)) rfl rfl rfl ?_
  show AW l G M_KM_writeSecret P 83 [(0, vr 143), (1, vr 18), (2, vr 16), (3, vr 33)] [] (sD h (byPut I9 18 19 (I9 137 1) (byAt I9 137 138)) L9)
  have FD : FC (fun a => a = 18 ∨ a = 19 ∨ a = 38 ∨ a = 137 ∨ a = 138 ∨ 102 ≤ a ∧ a ≤ 108 ∨ 110 ≤ a ∧ a ≤ 117 ∨ a = 136) I L (byPut I9 18 19 (I9 137 1) (byAt I9 137 138)) L9 := FB.tr (FC.put (p := fun a => a = 18 ∨ a = 19) (by omega) (by omega)) (by intro a x; omega)
  have HD : HB (byPut I9 18 19 (I9 137 1) (byAt I9 137 138)) 18 19 (0 + 32 + 32 + I9 137 1) (skB0 sd (spOut (blS (fun x => byAt I 16 17 (0 + x)) (I 16 1))) Y T) := H9.put (by decide) (by decide) (by rw [GD.1]; decide) (fun z x y => by rw [GD.1] at y; rw [GD.2 z x y, spOut_m]; unfold skB0; rw [if_neg (by omega), if_neg (by omega), if_pos (by omega), show 0 + 32 + 32 + z - 64 = z by omega])
  refine aw_iconst d_KM_writeSecret_83 ⟨by decide, by decide⟩ ?_
  refine aw_istore (lv' := [(4, vi 0), (0, vr 143), (1, vr 18), (2, vr 16), (3, vr 33)]) d_KM_writeSecret_84 (by decide) rfl ?_
  have lp_86 : ∀ (n_ : Nat) (i : Int) (K : Nat → Int → Int), (0 ≤ i ∧ i ≤ 4) → (FC (fun a => a = 18 ∨ a = 19 ∨ a = 38 ∨ a = 137 ∨ a = 138 ∨ 102 ≤ a ∧ a ≤ 108 ∨ 110 ≤ a ∧ a ≤ 117 ∨ a = 136) I L K L9) → (HB K 18 19 (128 + 96 * (i)) (skB0 sd (spOut (blS (fun x => byAt I 16 17 (0 + x)) (I 16 1))) Y T)) → (∀ m, 0 ≤ m → i ≤ m → m < 4 → eqQ (K (102 + m.toNat)) (Y m)) → (∀ a j, 110 ≤ a → a ≤ 134 → K a j = I a j) → ((4 - i).toNat) = n_ → AW l G M_KM_writeSecret P 86 [(4, vi i), (3, vr 33), (2, vr 16), (1, vr 18), (0, vr 143)] [] (sD h K L9) := by
    intro n_
    induction n_ using Nat.strongRecOn with
    | _ n_ ih_86 =>
    intro i K hi F H un rest hm_86
    refine aw_iload d_KM_writeSecret_86 rfl ?_
    refine aw_aload_n d_KM_writeSecret_88 rfl rfl ?_
    refine ax_getIe (x := 4) d_KM_writeSecret_89 fd_KM_66 (k_33 S) (Eq.trans (F.1 33 1 (by omega)) (pc_33_1 SD.2.1)) ?_
    refine aw_icmp_ge (tgt := 123) d_KM_writeSecret_92 (by decide) (fun c_92 => ?_) (fun c_92 => ?_)
    · skip
      refine aw_iconst d_KM_writeSecret_123 ⟨by decide, by decide⟩ ?_
      refine aw_istore (lv' := [(4, vi 0), (3, vr 33), (2, vr 16), (1, vr 18), (0, vr 143)]) d_KM_writeSecret_124 (by decide) rfl ?_
      have lp_126 : ∀ (n_ : Nat) (i : Int) (K2 : Nat → Int → Int), (0 ≤ i ∧ i ≤ 4) → (FC (fun a => a = 18 ∨ a = 19 ∨ a = 38 ∨ a = 137 ∨ a = 138 ∨ 102 ≤ a ∧ a ≤ 108 ∨ 110 ≤ a ∧ a ≤ 117 ∨ a = 136) I L K2 L9) → (HB K2 18 19 (128 + 96 * (4 + i)) (skB0 sd (spOut (blS (fun x => byAt I 16 17 (0 + x)) (I 16 1))) Y T)) → (∀ m, 0 ≤ m → i ≤ m → m < 4 → eqQ (K2 (110 + m.toNat)) (Y (4 + m))) → (∀ a j, 126 ≤ a → a ≤ 134 → K2 a j = I a j) → ((4 - i).toNat) = n_ → AW l G M_KM_writeSecret P 126 [(4, vi i), (3, vr 33), (2, vr 16), (1, vr 18), (0, vr 143)] [] (sD h K2 L9) := by
        intro n_
        induction n_ using Nat.strongRecOn with
        | _ n_ ih_126 =>
        intro i K2 hi2 G2 H2 un2 rest2 hm_126
        refine aw_iload d_KM_writeSecret_126 rfl ?_
        refine aw_aload_n d_KM_writeSecret_128 rfl rfl ?_
        refine ax_getIe (x := 4) d_KM_writeSecret_129 fd_KM_57 (k_33 S) (Eq.trans (G2.1 33 0 (by omega)) (pc_33_0 SD.2.1)) ?_
        refine aw_icmp_ge (tgt := 163) d_KM_writeSecret_132 (by decide) (fun c_132 => ?_) (fun c_132 => ?_)
        · skip
          refine aw_iconst d_KM_writeSecret_163 ⟨by decide, by decide⟩ ?_
          refine aw_istore (lv' := [(4, vi 0), (3, vr 33), (2, vr 16), (1, vr 18), (0, vr 143)]) d_KM_writeSecret_164 (by decide) rfl ?_
          have lp_166 : ∀ (n_ : Nat) (i : Int) (K3 : Nat → Int → Int), (0 ≤ i ∧ i ≤ 4) → (FC (fun a => a = 18 ∨ a = 19 ∨ a = 38 ∨ a = 137 ∨ a = 138 ∨ 102 ≤ a ∧ a ≤ 108 ∨ 110 ≤ a ∧ a ≤ 117 ∨ a = 136) I L K3 L9) → (HB K3 18 19 (896 + 416 * i) (skB0 sd (spOut (blS (fun x => byAt I 16 17 (0 + x)) (I 16 1))) Y T)) → (∀ a j, 126 ≤ a → a ≤ 134 → K3 a j = I a j) → ((4 - i).toNat) = n_ → AW l G M_KM_writeSecret P 166 [(4, vi i), (3, vr 33), (2, vr 16), (1, vr 18), (0, vr 143)] [] (sD h K3 L9) := by
            intro n_
            induction n_ using Nat.strongRecOn with
            | _ n_ ih_166 =>
            intro i K3 hi3 G3 H3 rest3 hm_166
            have T3 : ∀ m, 0 ≤ m → m < 4 → eqQ (K3 (127 + m.toNat)) (T m) := fun m a b j x y => by rw [rest3 _ _ (by omega) (by omega)]; exact hT m a b j x y
            refine aw_iload d_KM_writeSecret_166 rfl ?_
            refine aw_aload_n d_KM_writeSecret_168 rfl rfl ?_
            refine ax_getIe (x := 4) d_KM_writeSecret_169 fd_KM_57 (k_33 S) (Eq.trans (G3.1 33 0 (by omega)) (pc_33_0 SD.2.1)) ?_
            refine aw_icmp_ge (tgt := 255) d_KM_writeSecret_172 (by decide) (fun c_172 => ?_) (fun c_172 => ?_)
            · skip
              exact aw_vret d_KM_writeSecret_255 rfl (hP K3 L9 G3 (by rw [show 2560 = 896 + 416 * i by omega]; exact H3))
            · skip
              refine aw_iconst d_KM_writeSecret_175 ⟨by decide, by decide⟩ ?_
              refine aw_istore (lv' := [(5, vi 0), (4, vi i), (3, vr 33), (2, vr 16), (1, vr 18), (0, vr 143)]) d_KM_writeSecret_176 (by decide) rfl ?_
              have lp_178 : ∀ (n_ : Nat) (c : Int), (0 ≤ c ∧ c ≤ 256) → ((256 - c).toNat) = n_ → AW l G M_KM_writeSecret P 178 [(5, vi c), (4, vi i), (3, vr 33), (2, vr 16), (1, vr 18), (0, vr 143)] [] (sD h (rowTo K3 136 c (fun x => 4096 - (K3 (127 + i.toNat) x - (K3 (127 + i.toNat) x + 4096 - 1) / 8192 * 8192))) L9) := by
                intro n_
                induction n_ using Nat.strongRecOn with
                | _ n_ ih_178 =>
                intro c hc hm_178
                refine aw_iload d_KM_writeSecret_178 rfl ?_
                refine aw_sipush d_KM_writeSecret_180 ⟨by decide, by decide⟩ (by decide) ?_
                refine aw_icmp_ge (tgt := 236) d_KM_writeSecret_183 (by decide) (fun c_183 => ?_) (fun c_183 => ?_)
                · skip
                  rw [show c = 256 by omega]
                  refine aw_aload_n d_KM_writeSecret_236 rfl rfl ?_
                  refine aw_aload_n d_KM_writeSecret_237 rfl rfl ?_
                  refine ax_getR (b := 36) d_KM_writeSecret_238 fd_KM_20 (k_143 S) (r_143_0 S) ?_
                  refine ax_getR (b := 136) d_KM_writeSecret_241 fd_KM_140 (k_36 S) (r_36_9 S) ?_
                  refine aw_bipush d_KM_writeSecret_244 ⟨by decide, by decide⟩ (by decide) ?_
                  refine ax_V (st := []) (as := [vr 136, vi 13]) (b := 18) (v := none) (h' := sD h (byPut (rowTo K3 136 256 (fun x => 4096 - (K3 (127 + i.toNat) x - (K3 (127 + i.toNat) x + 4096 - 1) / 8192 * 8192))) 18 19 (32 * 13) (gB ((rowTo K3 136 256 (fun x => 4096 - (K3 (127 + i.toNat) x - (K3 (127 + i.toNat) x + 4096 - 1) / 8192 * 8192))) 136) 13)) L9) d_KM_writeSecret_246 cs_KM_writeSecret_246 (k_18 S) (by have z := c_By_addBits (l := l) (G := G) (L := L9) (I := rowTo K3 136 256 (fun x => 4096 - (K3 (127 + i.toNat) x - (K3 (127 + i.toNat) x + 4096 - 1) / 8192 * 8192))) (w := 13) (ks S (i := 2) (by decide)) ⟨k_136 S, by decide, n_136 S, by decide, by decide⟩ (by decide) (fun j x y => by rw [rowTo_in x y, T3 i hi3.1 (by omega) j x y]; have := qT i hi3.1 (by omega) j x y; omega) (by rw [rowTo_ne (by decide), H3.1, nks S (i := 2) (by decide)]; omega); exact z) rfl rfl rfl ?_
                  show AW l G M_KM_writeSecret P 249 [(5, vi 256), (4, vi i), (3, vr 33), (2, vr 16), (1, vr 18), (0, vr 143)] [] (sD h (byPut (rowTo K3 136 256 (fun x => 4096 - (K3 (127 + i.toNat) x - (K3 (127 + i.toNat) x + 4096 - 1) / 8192 * 8192))) 18 19 (32 * 13) (gB ((rowTo K3 136 256 (fun x => 4096 - (K3 (127 + i.toNat) x - (K3 (127 + i.toNat) x + 4096 - 1) / 8192 * 8192))) 136) 13)) L9)
                  refine ax_iinc (lv' := [(4, vi (i + 1)), (5, vi 256), (3, vr 33), (2, vr 16), (1, vr 18), (0, vr 143)]) d_KM_writeSecret_249 rfl (by decide) ⟨(by omega), (by omega)⟩ rfl ?_
                  refine aw_goto (tgt := 166) d_KM_writeSecret_252 (by decide) ?_
                  refine aw_sub (lv' := [(4, vi (i + 1)), (3, vr 33), (2, vr 16), (1, vr 18), (0, vr 143)]) (by simp) ?_
                  exact ih_166 _ (by omega) (i + 1) (byPut (rowTo K3 136 256 (fun x => 4096 - (K3 (127 + i.toNat) x - (K3 (127 + i.toNat) x + 4096 - 1) / 8192 * 8192))) 18 19 (32 * 13) (gB ((rowTo K3 136 256 (fun x => 4096 - (K3 (127 + i.toNat) x - (K3 (127 + i.toNat) x + 4096 - 1) / 8192 * 8192))) 136) 13)) (by omega) ((G3.tr (FC.row (p := fun a => a = 18 ∨ a = 19 ∨ a = 38 ∨ a = 137 ∨ a = 138 ∨ 102 ≤ a ∧ a ≤ 108 ∨ 110 ≤ a ∧ a ≤ 117 ∨ a = 136) (by omega)) (fun a x => ⟨x, x⟩)).tr (FC.put (p := fun a => a = 18 ∨ a = 19 ∨ a = 38 ∨ a = 137 ∨ a = 138 ∨ 102 ≤ a ∧ a ≤ 108 ∨ 110 ≤ a ∧ a ≤ 117 ∨ a = 136) (by omega) (by omega)) (fun a x => ⟨x, x⟩)) (by rw [show 896 + 416 * (i + 1) = 896 + 416 * i + 32 * 13 by omega]; exact (H3.fc (L := L9) (L' := L9) (FC.row (p := fun a => a = 136) rfl) (by decide) (by decide)).put (by decide) (by omega) (by decide) (fun z x y => by rw [gB_m, skB0_t hi3.1 x (by omega), gB_congr (G := fun j => 4096 - (T i j - (T i j + 4096 - 1) / 8192 * 8192)) (fun j u v => by rw [rowTo_in u v, T3 i hi3.1 (by omega) j u v])])) (fun a j x y => by rw [byPut_ne (by omega) (by omega), rowTo_ne (by omega)]; exact rest3 a j x y) rfl
                · skip
                  refine aw_aload_n d_KM_writeSecret_186 rfl rfl ?_
                  refine ax_getR (b := 36) d_KM_writeSecret_187 fd_KM_20 (k_143 S) (r_143_0 S) ?_
                  refine ax_getR (b := 126) d_KM_writeSecret_190 fd_KM_125 (k_36 S) (r_36_7 S) ?_
                  refine aw_iload d_KM_writeSecret_193 rfl ?_
                  refine ax_aald (b := 127 + i.toNat) d_KM_writeSecret_195 ⟨by rw [(k_126 S)]; decide, by rw [(k_126 S)]; decide⟩ (by omega) (by rw [n_126 S]; omega) (g_126 S (by omega) (by omega)) ?_
                  refine aw_iload d_KM_writeSecret_196 rfl ?_
                  refine ax_ialde (x := K3 (127 + i.toNat) c) d_KM_writeSecret_198 (kr_126 S (by omega)) (by omega) (by rw [nr_126 S (by omega)]; omega) (Eq.trans (rowTo_ne (by omega)) (rfl)) ?_
                  refine aw_istore (lv' := [(6, vi (K3 (127 + i.toNat) c)), (5, vi c), (4, vi i), (3, vr 33), (2, vr 16), (1, vr 18), (0, vr 143)]) d_KM_writeSecret_199 (by decide) rfl ?_
                  have v_ := qT i hi3.1 (by omega) c hc.1 (by omega)
                  rw [← T3 i hi3.1 (by omega) c hc.1 (by omega)] at v_
                  refine aw_iload d_KM_writeSecret_201 rfl ?_
                  refine aw_iload d_KM_writeSecret_203 rfl ?_
                  refine ax_S (st := [vi (K3 (127 + i.toNat) c)]) (as := [vi (K3 (127 + i.toNat) c)]) (v := some (vi ((K3 (127 + i.toNat) c + 4096 - 1) / 8192))) (h' := sD h (rowTo K3 136 c (fun x => 4096 - (K3 (127 + i.toNat) x - (K3 (127 + i.toNat) x + 4096 - 1) / 8192 * 8192))) L9) d_KM_writeSecret_205 cs_KM_writeSecret_205 (c_KM_top (by rw [T3 i hi3.1 (by omega) c hc.1 (by omega)]; exact qT i hi3.1 (by omega) c hc.1 (by omega))) rfl rfl rfl ?_
                  show AW l G M_KM_writeSecret P 208 [(6, vi (K3 (127 + i.toNat) c)), (5, vi c), (4, vi i), (3, vr 33), (2, vr 16), (1, vr 18), (0, vr 143)] [vi ((K3 (127 + i.toNat) c + 4096 - 1) / 8192), vi (K3 (127 + i.toNat) c)] (sD h (rowTo K3 136 c (fun x => 4096 - (K3 (127 + i.toNat) x - (K3 (127 + i.toNat) x + 4096 - 1) / 8192 * 8192))) L9)
                  refine aw_bipush d_KM_writeSecret_208 ⟨by decide, by decide⟩ (by decide) ?_
                  refine aw_ishl d_KM_writeSecret_210 ?_
                  refine ax_ti (x := ((K3 (127 + i.toNat) c + 4096 - 1) / 8192) * 8192) (a_shl' 13 rfl (by decide) (by decide) (by omega) (by omega)) ?_
                  refine ax_isub d_KM_writeSecret_211 ⟨(by omega), (by omega)⟩ ?_
                  refine aw_istore (lv' := [(7, vi ((K3 (127 + i.toNat) c) - (((K3 (127 + i.toNat) c + 4096 - 1) / 8192) * 8192))), (6, vi (K3 (127 + i.toNat) c)), (5, vi c), (4, vi i), (3, vr 33), (2, vr 16), (1, vr 18), (0, vr 143)]) d_KM_writeSecret_212 (by decide) rfl ?_
                  refine aw_aload_n d_KM_writeSecret_214 rfl rfl ?_
                  refine ax_getR (b := 36) d_KM_writeSecret_215 fd_KM_20 (k_143 S) (r_143_0 S) ?_
                  refine ax_getR (b := 136) d_KM_writeSecret_218 fd_KM_140 (k_36 S) (r_36_9 S) ?_
                  refine aw_iload d_KM_writeSecret_221 rfl ?_
                  refine aw_sipush d_KM_writeSecret_223 ⟨by decide, by decide⟩ (by decide) ?_
                  refine aw_iload d_KM_writeSecret_226 rfl ?_
                  refine ax_isub d_KM_writeSecret_228 ⟨(by omega), (by omega)⟩ ?_
                  refine ax_iast d_KM_writeSecret_229 (k_136 S) (by decide) (by omega) (by rw [n_136 S]; omega) ?_
                  rw [rowTo_1 (by omega) rfl]
                  refine ax_iinc (lv' := [(5, vi (c + 1)), (7, vi ((K3 (127 + i.toNat) c) - (((K3 (127 + i.toNat) c + 4096 - 1) / 8192) * 8192))), (6, vi (K3 (127 + i.toNat) c)), (4, vi i), (3, vr 33), (2, vr 16), (1, vr 18), (0, vr 143)]) d_KM_writeSecret_230 rfl (by decide) ⟨(by omega), (by omega)⟩ rfl ?_
                  refine aw_goto (tgt := 178) d_KM_writeSecret_233 (by decide) ?_
                  refine aw_sub (lv' := [(5, vi (c + 1)), (4, vi i), (3, vr 33), (2, vr 16), (1, vr 18), (0, vr 143)]) (by simp) ?_
                  exact ih_178 _ (by omega) (c + 1) (by omega) rfl
              refine ax_hp (h' := sD h (rowTo K3 136 0 (fun x => 4096 - (K3 (127 + i.toNat) x - (K3 (127 + i.toNat) x + 4096 - 1) / 8192 * 8192))) L9) (by rw [rowTo_0]) ?_
              exact lp_178 _ 0 (by omega) rfl
          skip
          exact lp_166 _ 0 K2 (by omega) (G2) (by rw [show 896 + 416 * 0 = 128 + 96 * (4 + i) by omega]; exact H2) (rest2) rfl
        · skip
          refine aw_aload_n d_KM_writeSecret_135 rfl rfl ?_
          refine aw_aload_n d_KM_writeSecret_136 rfl rfl ?_
          refine ax_getR (b := 36) d_KM_writeSecret_137 fd_KM_20 (k_143 S) (r_143_0 S) ?_
          refine ax_getR (b := 109) d_KM_writeSecret_140 fd_KM_102 (k_36 S) (r_36_5 S) ?_
          refine aw_iload d_KM_writeSecret_143 rfl ?_
          refine ax_aald (b := 110 + i.toNat) d_KM_writeSecret_145 ⟨by rw [(k_109 S)]; decide, by rw [(k_109 S)]; decide⟩ (by omega) (by rw [n_109 S]; omega) (g_109 S (by omega) (by omega)) ?_
          refine aw_aload_n d_KM_writeSecret_146 rfl rfl ?_
          refine ax_getIe (x := 2) d_KM_writeSecret_147 fd_KM_92 (k_33 S) (Eq.trans (G2.1 33 2 (by omega)) (pc_33_2 SD.2.1)) ?_
          refine aw_aload_n d_KM_writeSecret_150 rfl rfl ?_
          refine ax_getIe (x := 3) d_KM_writeSecret_151 fd_KM_162 (k_33 S) (Eq.trans (G2.1 33 10 (by omega)) (pc_33_10 SD.2.1)) ?_
          refine ax_S (st := []) (as := [vr 18, vr (110 + i.toNat), vi 2, vi 3]) (v := none) (h' := sD h (byPut (rowTo K2 (110 + i.toNat) 256 (fun j => (2 - K2 (110 + i.toNat) j) % 8380417)) 18 19 (32 * 3) (gB (fun j => (2 - K2 (110 + i.toNat) j) % 8380417) 3)) L9) d_KM_writeSecret_154 cs_KM_writeSecret_154 (c_KM_addMirrored (w := 3) (e := 2) (ks S (i := 2) (by decide)) ⟨kr_109 S (by omega), by omega, nr_109 S (by omega)⟩ ⟨by omega, by omega⟩ (by omega) ((un2 i hi2.1 (Int.le_refl _) (by omega)).inQ (qY _ (by omega) (by omega))) (by decide) (fun j x y => by rw [(un2 i hi2.1 (Int.le_refl _) (by omega)) j x y]; exact bY _ (by omega) (by omega) j x y) (by rw [H2.1, nks S (i := 2) (by decide)]; omega)) rfl rfl rfl ?_
          show AW l G M_KM_writeSecret P 157 [(4, vi i), (3, vr 33), (2, vr 16), (1, vr 18), (0, vr 143)] [] (sD h (byPut (rowTo K2 (110 + i.toNat) 256 (fun j => (2 - K2 (110 + i.toNat) j) % 8380417)) 18 19 (32 * 3) (gB (fun j => (2 - K2 (110 + i.toNat) j) % 8380417) 3)) L9)
          refine ax_iinc (lv' := [(4, vi (i + 1)), (3, vr 33), (2, vr 16), (1, vr 18), (0, vr 143)]) d_KM_writeSecret_157 rfl (by decide) ⟨(by omega), (by omega)⟩ rfl ?_
          refine aw_goto (tgt := 126) d_KM_writeSecret_160 (by decide) ?_
          exact ih_126 _ (by omega) (i + 1) (byPut (rowTo K2 (110 + i.toNat) 256 (fun j => (2 - K2 (110 + i.toNat) j) % 8380417)) 18 19 (32 * 3) (gB (fun j => (2 - K2 (110 + i.toNat) j) % 8380417) 3)) (by omega) ((G2.tr (FC.row (p := fun a => a = 18 ∨ a = 19 ∨ a = 38 ∨ a = 137 ∨ a = 138 ∨ 102 ≤ a ∧ a ≤ 108 ∨ 110 ≤ a ∧ a ≤ 117 ∨ a = 136) (by omega)) (fun a x => ⟨x, x⟩)).tr (FC.put (p := fun a => a = 18 ∨ a = 19 ∨ a = 38 ∨ a = 137 ∨ a = 138 ∨ 102 ≤ a ∧ a ≤ 108 ∨ 110 ≤ a ∧ a ≤ 117 ∨ a = 136) (by omega) (by omega)) (fun a x => ⟨x, x⟩)) (by rw [show 128 + 96 * (4 + (i + 1)) = 128 + 96 * (4 + i) + 32 * 3 by omega]; exact (H2.fc (L := L9) (L' := L9) (FC.row (p := fun a => a = 110 + i.toNat) rfl) (by omega) (by omega)).put (by decide) (by omega) (by decide) (fun z x y => by rw [gB_m, skB0_s (by omega) (by omega) x (by omega), gB_congr (G := fun j => (2 - Y (4 + i) j) % 8380417) (fun j u v => by rw [un2 i (by omega) (Int.le_refl _) (by omega) j u v])])) (fun m a b c j x y => by rw [byPut_ne (by omega) (by omega), rowTo_ne (by omega)]; exact un2 m a (by omega) c j x y) (fun a j x y => by rw [byPut_ne (by omega) (by omega), rowTo_ne (by omega)]; exact rest2 a j x y) rfl
      skip
      exact lp_126 _ 0 K (by omega) (F) (by rw [show 128 + 96 * (4 + 0) = 128 + 96 * (i) by omega]; exact H) (fun m a b c j x y => by rw [rest _ _ (by omega) (by omega)]; exact hE m a c j x y) (fun a j x y => rest a j (by omega) y) rfl
    · skip
      refine aw_aload_n d_KM_writeSecret_95 rfl rfl ?_
      refine aw_aload_n d_KM_writeSecret_96 rfl rfl ?_
      refine ax_getR (b := 36) d_KM_writeSecret_97 fd_KM_20 (k_143 S) (r_143_0 S) ?_
      refine ax_getR (b := 101) d_KM_writeSecret_100 fd_KM_95 (k_36 S) (r_36_4 S) ?_
      refine aw_iload d_KM_writeSecret_103 rfl ?_
      refine ax_aald (b := 102 + i.toNat) d_KM_writeSecret_105 ⟨by rw [(k_101 S)]; decide, by rw [(k_101 S)]; decide⟩ (by omega) (by rw [n_101 S]; omega) (g_101 S (by omega) (by omega)) ?_
      refine aw_aload_n d_KM_writeSecret_106 rfl rfl ?_
      refine ax_getIe (x := 2) d_KM_writeSecret_107 fd_KM_92 (k_33 S) (Eq.trans (F.1 33 2 (by omega)) (pc_33_2 SD.2.1)) ?_
      refine aw_aload_n d_KM_writeSecret_110 rfl rfl ?_
      refine ax_getIe (x := 3) d_KM_writeSecret_111 fd_KM_162 (k_33 S) (Eq.trans (F.1 33 10 (by omega)) (pc_33_10 SD.2.1)) ?_
      refine ax_S (st := []) (as := [vr 18, vr (102 + i.toNat), vi 2, vi 3]) (v := none) (h' := sD h (byPut (rowTo K (102 + i.toNat) 256 (fun j => (2 - K (102 + i.toNat) j) % 8380417)) 18 19 (32 * 3) (gB (fun j => (2 - K (102 + i.toNat) j) % 8380417) 3)) L9) d_KM_writeSecret_114 cs_KM_writeSecret_114 (c_KM_addMirrored (w := 3) (e := 2) (ks S (i := 2) (by decide)) ⟨kr_101 S (by omega), by omega, nr_101 S (by omega)⟩ ⟨by omega, by omega⟩ (by omega) ((un i hi.1 (Int.le_refl _) (by omega)).inQ (qY _ (by omega) (by omega))) (by decide) (fun j x y => by rw [(un i hi.1 (Int.le_refl _) (by omega)) j x y]; exact bY _ (by omega) (by omega) j x y) (by rw [H.1, nks S (i := 2) (by decide)]; omega)) rfl rfl rfl ?_
      show AW l G M_KM_writeSecret P 117 [(4, vi i), (3, vr 33), (2, vr 16), (1, vr 18), (0, vr 143)] [] (sD h (byPut (rowTo K (102 + i.toNat) 256 (fun j => (2 - K (102 + i.toNat) j) % 8380417)) 18 19 (32 * 3) (gB (fun j => (2 - K (102 + i.toNat) j) % 8380417) 3)) L9)
      refine ax_iinc (lv' := [(4, vi (i + 1)), (3, vr 33), (2, vr 16), (1, vr 18), (0, vr 143)]) d_KM_writeSecret_117 rfl (by decide) ⟨(by omega), (by omega)⟩ rfl ?_
      refine aw_goto (tgt := 86) d_KM_writeSecret_120 (by decide) ?_
      exact ih_86 _ (by omega) (i + 1) (byPut (rowTo K (102 + i.toNat) 256 (fun j => (2 - K (102 + i.toNat) j) % 8380417)) 18 19 (32 * 3) (gB (fun j => (2 - K (102 + i.toNat) j) % 8380417) 3)) (by omega) ((F.tr (FC.row (p := fun a => a = 18 ∨ a = 19 ∨ a = 38 ∨ a = 137 ∨ a = 138 ∨ 102 ≤ a ∧ a ≤ 108 ∨ 110 ≤ a ∧ a ≤ 117 ∨ a = 136) (by omega)) (fun a x => ⟨x, x⟩)).tr (FC.put (p := fun a => a = 18 ∨ a = 19 ∨ a = 38 ∨ a = 137 ∨ a = 138 ∨ 102 ≤ a ∧ a ≤ 108 ∨ 110 ≤ a ∧ a ≤ 117 ∨ a = 136) (by omega) (by omega)) (fun a x => ⟨x, x⟩)) (by rw [show 128 + 96 * ((i + 1)) = 128 + 96 * (i) + 32 * 3 by omega]; exact (H.fc (L := L9) (L' := L9) (FC.row (p := fun a => a = 102 + i.toNat) rfl) (by omega) (by omega)).put (by decide) (by omega) (by decide) (fun z x y => by rw [gB_m, skB0_s (by omega) (by omega) x (by omega), gB_congr (G := fun j => (2 - Y (i) j) % 8380417) (fun j u v => by rw [un i (by omega) (Int.le_refl _) (by omega) j u v])])) (fun m a b c j x y => by rw [byPut_ne (by omega) (by omega), rowTo_ne (by omega)]; exact un m a (by omega) c j x y) (fun a j x y => by rw [byPut_ne (by omega) (by omega), rowTo_ne (by omega)]; exact rest a j x y) rfl
  skip
  refine aw_sub (lv' := [(4, vi 0), (3, vr 33), (2, vr 16), (1, vr 18), (0, vr 143)]) (by simp) ?_
  exact lp_86 _ 0 (byPut I9 18 19 (I9 137 1) (byAt I9 137 138)) (by omega) (FD) (by rw [show (128 + 96 * 0 : Int) = 0 + 32 + 32 + I9 137 1 by rw [GD.1]; decide]; exact HD) (fun m a b c j x y => by rw [byPut_ne (by omega) (by omega), FB.1 _ _ (by omega)]; exact hV m a c j x y) (fun a j x y => by rw [byPut_ne (by omega) (by omega), FB.1 _ _ (by omega)]) rfl
set_option maxHeartbeats 800000 in
set_option maxRecDepth 100000 in
theorem c_KM_writePublic1 {l : Launch} {G : a_G} {h : Hp} {I L : Nat → Int → Int} {sd : Int → Int} {T : Int → Int → Int} (S : Shp h) (SD : Std I L) (hs : HB I 144 145 128 sd) (sdb : ∀ x, 0 ≤ x → x < 128 → sd x % 256 = sd x) (hT : ∀ m, 0 ≤ m → m < 6 → eqQ (I (127 + m.toNat)) (T m)) (qT : ∀ m, 0 ≤ m → m < 6 → inQ (T m)) : AW l G M_KM_writePublic (Ret (fun _ : Nat → Int → Int => none) (fun K => sD h K L) (fun K => FC (fun a => a = 16 ∨ a = 17 ∨ a = 136) I L K L ∧ HB K 16 17 1952 (pkB sd T))) 0 (a_ar 0 [vr 143, vr 16, vr 34]) [] (sD h I L) := by
  suffices key : ∀ P : a_R → Hp → Prop, (∀ K : Nat → Int → Int, FC (fun a => a = 16 ∨ a = 17 ∨ a = 136) I L K L → HB K 16 17 1952 (pkB sd T) → P (.inl none) (sD h K L)) → AW l G M_KM_writePublic P 0 [(0, vr 143), (1, vr 16), (2, vr 34)] [] (sD h I L) from key _ (fun K q1 q2 => ⟨K, rfl, rfl, q1, q2⟩)
  intro P hP
  refine aw_aload_n d_KM_writePublic_0 rfl rfl ?_
  refine ax_V (st := []) (as := []) (b := 16) (v := none) (h' := sD h (a_up I 16 1 0) L) d_KM_writePublic_1 cs_KM_writePublic_1 (k_16 S) (c_By_clear (ks S (i := 1) (by decide))) rfl rfl rfl ?_
  show AW l G M_KM_writePublic P 4 [(0, vr 143), (1, vr 16), (2, vr 34)] [] (sD h (a_up I 16 1 0) L)
  refine aw_aload_n d_KM_writePublic_4 rfl rfl ?_
  refine aw_aload_n d_KM_writePublic_5 rfl rfl ?_
  refine aw_iconst d_KM_writePublic_6 ⟨by decide, by decide⟩ ?_
  refine ax_V (st := []) (as := [vr 16, vi 0]) (b := 143) (v := none) (h' := sD h (byPut (a_up I 16 1 0) 16 17 32 (fun x => byAt (a_up I 16 1 0) 144 145 (0 + x))) L) d_KM_writePublic_7 cs_KM_writePublic_7 (k_143 S) (c_KM_addSeed S (ks S (i := 1) (by decide)) ⟨by decide, by decide⟩ (by rw [a_up_at, nks S (i := 1) (by decide), a_up_ne (Or.inl (by decide)), hs.1]; omega)) rfl rfl rfl ?_
  show AW l G M_KM_writePublic P 10 [(0, vr 143), (1, vr 16), (2, vr 34)] [] (sD h (byPut (a_up I 16 1 0) 16 17 32 (fun x => byAt (a_up I 16 1 0) 144 145 (0 + x))) L)
  have F0 : FC (fun a => a = 16 ∨ a = 17 ∨ a = 136) I L (byPut (a_up I 16 1 0) 16 17 32 (fun x => byAt (a_up I 16 1 0) 144 145 (0 + x))) L := (FC.up (p := fun a => a = 16 ∨ a = 17 ∨ a = 136) (by omega)).tr (FC.put (p := fun a => a = 16 ∨ a = 17 ∨ a = 136) (by omega) (by omega)) (fun a x => ⟨x, x⟩)
  have H0 : HB (byPut (a_up I 16 1 0) 16 17 32 (fun x => byAt (a_up I 16 1 0) 144 145 (0 + x))) 16 17 (0 + 32) (pkB sd T) := HB.zero.put (by decide) (by decide) (by decide) (fun z x y => by rw [byAt_fc (L := L) (L' := L) (FC.up (p := fun a => a = 16) rfl) (by decide) (by decide), hs.2 _ (by omega) (by omega), sdb _ (by omega) (by omega)]; unfold pkB; rw [if_pos (by omega)])
  refine aw_iconst d_KM_writePublic_10 ⟨by decide, by decide⟩ ?_
  refine aw_istore_n (lv' := [(3, vi 0), (0, vr 143), (1, vr 16), (2, vr 34)]) d_KM_writePublic_11 rfl (by decide) rfl ?_
  have lp_12 : ∀ (n_ : Nat) (i : Int) (K : Nat → Int → Int), (0 ≤ i ∧ i ≤ 6) → (FC (fun a => a = 16 ∨ a = 17 ∨ a = 136) I L K L) → (HB K 16 17 (32 + 320 * i) (pkB sd T)) → ((6 - i).toNat) = n_ → AW l G M_KM_writePublic P 12 [(3, vi i), (2, vr 34), (1, vr 16), (0, vr 143)] [] (sD h K L) := by
    intro n_
    induction n_ using Nat.strongRecOn with
    | _ n_ ih_12 =>
    intro i K hi F H hm_12
    refine aw_iload_n d_KM_writePublic_12 rfl rfl ?_
    refine aw_aload_n d_KM_writePublic_13 rfl rfl ?_
    refine ax_getIe (x := 6) d_KM_writePublic_14 fd_KM_57 (k_34 S) (Eq.trans (F.1 34 0 (by omega)) (pc_34_0 SD.2.1)) ?_
    refine aw_icmp_ge (tgt := 81) d_KM_writePublic_17 (by decide) (fun c_17 => ?_) (fun c_17 => ?_)
    · skip
      exact aw_vret d_KM_writePublic_81 rfl (hP K F (by rw [show 1952 = 32 + 320 * i by omega]; exact H))
    · skip
      refine aw_iconst d_KM_writePublic_20 ⟨by decide, by decide⟩ ?_
      refine aw_istore (lv' := [(4, vi 0), (3, vi i), (2, vr 34), (1, vr 16), (0, vr 143)]) d_KM_writePublic_21 (by decide) rfl ?_
      have lp_23 : ∀ (n_ : Nat) (c : Int), (0 ≤ c ∧ c ≤ 256) → ((256 - c).toNat) = n_ → AW l G M_KM_writePublic P 23 [(4, vi c), (3, vi i), (2, vr 34), (1, vr 16), (0, vr 143)] [] (sD h (rowTo K 136 c (fun x => (K (127 + i.toNat) x + 4096 - 1) / 8192)) L) := by
        intro n_
        induction n_ using Nat.strongRecOn with
        | _ n_ ih_23 =>
        intro c hc hm_23
        refine aw_iload d_KM_writePublic_23 rfl ?_
        refine aw_sipush d_KM_writePublic_25 ⟨by decide, by decide⟩ (by decide) ?_
        refine aw_icmp_ge (tgt := 62) d_KM_writePublic_28 (by decide) (fun c_28 => ?_) (fun c_28 => ?_)
        · skip
          rw [show c = 256 by omega]
          refine aw_aload_n d_KM_writePublic_62 rfl rfl ?_
          refine aw_aload_n d_KM_writePublic_63 rfl rfl ?_
          refine ax_getR (b := 36) d_KM_writePublic_64 fd_KM_20 (k_143 S) (r_143_0 S) ?_
          refine ax_getR (b := 136) d_KM_writePublic_67 fd_KM_140 (k_36 S) (r_36_9 S) ?_
          refine aw_bipush d_KM_writePublic_70 ⟨by decide, by decide⟩ (by decide) ?_
          refine ax_V (st := []) (as := [vr 136, vi 10]) (b := 16) (v := none) (h' := sD h (byPut (rowTo K 136 256 (fun x => (K (127 + i.toNat) x + 4096 - 1) / 8192)) 16 17 (32 * 10) (gB ((rowTo K 136 256 (fun x => (K (127 + i.toNat) x + 4096 - 1) / 8192)) 136) 10)) L) d_KM_writePublic_72 cs_KM_writePublic_72 (k_16 S) (by have z := c_By_addBits (l := l) (G := G) (L := L) (I := rowTo K 136 256 (fun x => (K (127 + i.toNat) x + 4096 - 1) / 8192)) (w := 10) (ks S (i := 1) (by decide)) ⟨k_136 S, by decide, n_136 S, by decide, by decide⟩ (by decide) (fun j x y => by rw [rowTo_in x y, F.1 _ _ (by omega), hT i hi.1 (by omega) j x y]; have := qT i hi.1 (by omega) j x y; omega) (by rw [rowTo_ne (by decide), H.1, nks S (i := 1) (by decide)]; omega); exact z) rfl rfl rfl ?_
          show AW l G M_KM_writePublic P 75 [(4, vi 256), (3, vi i), (2, vr 34), (1, vr 16), (0, vr 143)] [] (sD h (byPut (rowTo K 136 256 (fun x => (K (127 + i.toNat) x + 4096 - 1) / 8192)) 16 17 (32 * 10) (gB ((rowTo K 136 256 (fun x => (K (127 + i.toNat) x + 4096 - 1) / 8192)) 136) 10)) L)
          refine ax_iinc (lv' := [(3, vi (i + 1)), (4, vi 256), (2, vr 34), (1, vr 16), (0, vr 143)]) d_KM_writePublic_75 rfl (by decide) ⟨(by omega), (by omega)⟩ rfl ?_
          refine aw_goto (tgt := 12) d_KM_writePublic_78 (by decide) ?_
          refine aw_sub (lv' := [(3, vi (i + 1)), (2, vr 34), (1, vr 16), (0, vr 143)]) (by simp) ?_
          exact ih_12 _ (by omega) (i + 1) (byPut (rowTo K 136 256 (fun x => (K (127 + i.toNat) x + 4096 - 1) / 8192)) 16 17 (32 * 10) (gB ((rowTo K 136 256 (fun x => (K (127 + i.toNat) x + 4096 - 1) / 8192)) 136) 10)) (by omega) ((F.tr (FC.row (p := fun a => a = 16 ∨ a = 17 ∨ a = 136) (by omega)) (fun a x => ⟨x, x⟩)).tr (FC.put (p := fun a => a = 16 ∨ a = 17 ∨ a = 136) (by omega) (by omega)) (fun a x => ⟨x, x⟩)) (by rw [show 32 + 320 * (i + 1) = 32 + 320 * i + 32 * 10 by omega]; exact (H.fc (L := L) (L' := L) (FC.row (p := fun a => a = 136) rfl) (by decide) (by decide)).put (by decide) (by omega) (by decide) (fun z x y => by rw [gB_m, pkB_at hi.1 x (by omega), gB_congr (G := fun j => (T i j + 4096 - 1) / 8192) (fun j u v => by rw [rowTo_in u v, F.1 _ _ (by omega), hT i hi.1 (by omega) j u v])])) rfl
        · skip
          refine aw_aload_n d_KM_writePublic_31 rfl rfl ?_
          refine ax_getR (b := 36) d_KM_writePublic_32 fd_KM_20 (k_143 S) (r_143_0 S) ?_
          refine ax_getR (b := 136) d_KM_writePublic_35 fd_KM_140 (k_36 S) (r_36_9 S) ?_
          refine aw_iload d_KM_writePublic_38 rfl ?_
          refine aw_aload_n d_KM_writePublic_40 rfl rfl ?_
          refine ax_getR (b := 36) d_KM_writePublic_41 fd_KM_20 (k_143 S) (r_143_0 S) ?_
          refine ax_getR (b := 126) d_KM_writePublic_44 fd_KM_125 (k_36 S) (r_36_7 S) ?_
          refine aw_iload_n d_KM_writePublic_47 rfl rfl ?_
          refine ax_aald (b := 127 + i.toNat) d_KM_writePublic_48 ⟨by rw [(k_126 S)]; decide, by rw [(k_126 S)]; decide⟩ (by omega) (by rw [n_126 S]; omega) (g_126 S (by omega) (by omega)) ?_
          refine aw_iload d_KM_writePublic_49 rfl ?_
          refine ax_ialde (x := K (127 + i.toNat) c) d_KM_writePublic_51 (kr_126 S (by omega)) (by omega) (by rw [nr_126 S (by omega)]; omega) (Eq.trans (rowTo_ne (by omega)) (rfl)) ?_
          refine ax_S (st := [vi c, vr 136]) (as := [vi (K (127 + i.toNat) c)]) (v := some (vi ((K (127 + i.toNat) c + 4096 - 1) / 8192))) (h' := sD h (rowTo K 136 c (fun x => (K (127 + i.toNat) x + 4096 - 1) / 8192)) L) d_KM_writePublic_52 cs_KM_writePublic_52 (c_KM_top (by rw [F.1 _ _ (by omega), hT i hi.1 (by omega) c hc.1 (by omega)]; exact qT i hi.1 (by omega) c hc.1 (by omega))) rfl rfl rfl ?_
          show AW l G M_KM_writePublic P 55 [(4, vi c), (3, vi i), (2, vr 34), (1, vr 16), (0, vr 143)] [vi ((K (127 + i.toNat) c + 4096 - 1) / 8192), vi c, vr 136] (sD h (rowTo K 136 c (fun x => (K (127 + i.toNat) x + 4096 - 1) / 8192)) L)
          refine ax_iast d_KM_writePublic_55 (k_136 S) (by decide) (by omega) (by rw [n_136 S]; omega) ?_
          rw [rowTo_1 (by omega) rfl]
          refine ax_iinc (lv' := [(4, vi (c + 1)), (3, vi i), (2, vr 34), (1, vr 16), (0, vr 143)]) d_KM_writePublic_56 rfl (by decide) ⟨(by omega), (by omega)⟩ rfl ?_
          refine aw_goto (tgt := 23) d_KM_writePublic_59 (by decide) ?_
          exact ih_23 _ (by omega) (c + 1) (by omega) rfl
      refine ax_hp (h' := sD h (rowTo K 136 0 (fun x => (K (127 + i.toNat) x + 4096 - 1) / 8192)) L) (by rw [rowTo_0]) ?_
      exact lp_23 _ 0 (by omega) rfl
  skip
  refine aw_sub (lv' := [(3, vi 0), (2, vr 34), (1, vr 16), (0, vr 143)]) (by simp) ?_
  exact lp_12 _ 0 (byPut (a_up I 16 1 0) 16 17 32 (fun x => byAt (a_up I 16 1 0) 144 145 (0 + x))) (by omega) (F0) (H0) rfl
theorem skB1_s {sd hh : Int → Int} {Y T : Int → Int → Int} {i z : Int} (h0 : 0 ≤ i) (h1 : i < 11) (z0 : 0 ≤ z) (z1 : z < 128) : skB1 sd hh Y T (128 + 128 * i + z) = gB (fun j => (4 - Y i j) % 8380417) 4 z := by
  unfold skB1
  rw [if_neg (by omega), if_neg (by omega), if_neg (by omega), if_pos (by omega), show (128 + 128 * i + z - 128) / 128 = i by omega, show (128 + 128 * i + z - 128) % 128 = z by omega]
theorem skB1_t {sd hh : Int → Int} {Y T : Int → Int → Int} {i z : Int} (h0 : 0 ≤ i) (z0 : 0 ≤ z) (z1 : z < 416) : skB1 sd hh Y T (1536 + 416 * i + z) = gB (fun j => 4096 - (T i j - (T i j + 4096 - 1) / 8192 * 8192)) 13 z := by
  unfold skB1
  rw [if_neg (by omega), if_neg (by omega), if_neg (by omega), if_neg (by omega), show (1536 + 416 * i + z - 1536) / 416 = i by omega, show (1536 + 416 * i + z - 1536) % 416 = z by omega]
set_option maxHeartbeats 800000 in
set_option maxRecDepth 100000 in
theorem c_KM_writeSecret1 {l : Launch} {G : a_G} {h : Hp} {I L : Nat → Int → Int} {sd : Int → Int} {Y T : Int → Int → Int} (S : Shp h) (SD : Std I L) (hs : HB I 144 145 128 sd) (sdb : ∀ x, 0 ≤ x → x < 128 → sd x % 256 = sd x) (hT : ∀ m, 0 ≤ m → m < 6 → eqQ (I (127 + m.toNat)) (T m)) (qT : ∀ m, 0 ≤ m → m < 6 → inQ (T m)) (hV : ∀ m, 0 ≤ m → m < 5 → eqQ (I (102 + m.toNat)) (Y m)) (hE : ∀ m, 0 ≤ m → m < 6 → eqQ (I (110 + m.toNat)) (Y (5 + m))) (qY : ∀ m, 0 ≤ m → m < 11 → inQ (Y m)) (bY : ∀ m, 0 ≤ m → m < 11 → ∀ j, 0 ≤ j → j < 256 → 0 ≤ (4 - Y m j) % 8380417 ∧ (4 - Y m j) % 8380417 < 2 ^ 4) (hp : 0 ≤ I 16 1 ∧ I 16 1 ≤ 8192) : AW l G M_KM_writeSecret (Ret (fun _ : (Nat → Int → Int) × (Nat → Int → Int) => none) (fun u => sD h u.1 u.2) (fun u => FC (fun a => a = 18 ∨ a = 19 ∨ a = 38 ∨ a = 137 ∨ a = 138 ∨ 102 ≤ a ∧ a ≤ 108 ∨ 110 ≤ a ∧ a ≤ 117 ∨ a = 136) I L u.1 u.2 ∧ HB u.1 18 19 4032 (skB1 sd (spOut (blS (fun x => byAt I 16 17 (0 + x)) (I 16 1))) Y T))) 0 (a_ar 0 [vr 143, vr 18, vr 16, vr 34]) [] (sD h I L) := by
  suffices key : ∀ P : a_R → Hp → Prop, (∀ I2 L2, FC (fun a => a = 18 ∨ a = 19 ∨ a = 38 ∨ a = 137 ∨ a = 138 ∨ 102 ≤ a ∧ a ≤ 108 ∨ 110 ≤ a ∧ a ≤ 117 ∨ a = 136) I L I2 L2 → HB I2 18 19 4032 (skB1 sd (spOut (blS (fun x => byAt I 16 17 (0 + x)) (I 16 1))) Y T) → P (.inl none) (sD h I2 L2)) → AW l G M_KM_writeSecret P 0 [(0, vr 143), (1, vr 18), (2, vr 16), (3, vr 34)] [] (sD h I L) from key _ (fun I2 L2 q1 q2 => ⟨(I2, L2), rfl, rfl, q1, q2⟩)
  intro P hP
  refine aw_aload_n d_KM_writeSecret_0 rfl rfl ?_
  refine ax_V (st := []) (as := []) (b := 18) (v := none) (h' := sD h (a_up I 18 1 0) L) d_KM_writeSecret_1 cs_KM_writeSecret_1 (k_18 S) (c_By_clear (ks S (i := 2) (by decide))) rfl rfl rfl ?_
  show AW l G M_KM_writeSecret P 4 [(0, vr 143), (1, vr 18), (2, vr 16), (3, vr 34)] [] (sD h (a_up I 18 1 0) L)
  refine aw_aload_n d_KM_writeSecret_4 rfl rfl ?_
  refine aw_aload_n d_KM_writeSecret_5 rfl rfl ?_
  refine aw_iconst d_KM_writeSecret_6 ⟨by decide, by decide⟩ ?_
  refine ax_V (st := []) (as := [vr 18, vi 0]) (b := 143) (v := none) (h' := sD h (byPut (a_up I 18 1 0) 18 19 32 (fun x => byAt (a_up I 18 1 0) 144 145 (0 + x))) L) d_KM_writeSecret_7 cs_KM_writeSecret_7 (k_143 S) (c_KM_addSeed S (ks S (i := 2) (by decide)) ⟨by decide, by decide⟩ (by rw [a_up_at, nks S (i := 2) (by decide), a_up_ne (Or.inl (by decide)), hs.1]; omega)) rfl rfl rfl ?_
  show AW l G M_KM_writeSecret P 10 [(0, vr 143), (1, vr 18), (2, vr 16), (3, vr 34)] [] (sD h (byPut (a_up I 18 1 0) 18 19 32 (fun x => byAt (a_up I 18 1 0) 144 145 (0 + x))) L)
  refine aw_aload_n d_KM_writeSecret_10 rfl rfl ?_
  refine aw_aload_n d_KM_writeSecret_11 rfl rfl ?_
  refine aw_bipush d_KM_writeSecret_12 ⟨by decide, by decide⟩ (by decide) ?_
  refine ax_V (st := []) (as := [vr 18, vi 96]) (b := 143) (v := none) (h' := sD h (byPut (byPut (a_up I 18 1 0) 18 19 32 (fun x => byAt (a_up I 18 1 0) 144 145 (0 + x))) 18 19 32 (fun x => byAt (byPut (a_up I 18 1 0) 18 19 32 (fun x => byAt (a_up I 18 1 0) 144 145 (0 + x))) 144 145 (96 + x))) L) d_KM_writeSecret_14 cs_KM_writeSecret_14 (k_143 S) (c_KM_addSeed S (ks S (i := 2) (by decide)) ⟨by decide, by decide⟩ (by rw [byPut_cnt, a_up_at, nks S (i := 2) (by decide), byPut_ne (by decide) (by decide), a_up_ne (Or.inl (by decide)), hs.1]; omega)) rfl rfl rfl ?_
  show AW l G M_KM_writeSecret P 17 [(0, vr 143), (1, vr 18), (2, vr 16), (3, vr 34)] [] (sD h (byPut (byPut (a_up I 18 1 0) 18 19 32 (fun x => byAt (a_up I 18 1 0) 144 145 (0 + x))) 18 19 32 (fun x => byAt (byPut (a_up I 18 1 0) 18 19 32 (fun x => byAt (a_up I 18 1 0) 144 145 (0 + x))) 144 145 (96 + x))) L)
  have F00 : FC (fun a => a = 18 ∨ a = 19) I L (byPut (a_up I 18 1 0) 18 19 32 (fun x => byAt (a_up I 18 1 0) 144 145 (0 + x))) L := (FC.up (p := fun a => a = 18 ∨ a = 19) (by omega)).tr (FC.put (p := fun a => a = 18 ∨ a = 19) (by omega) (by omega)) (fun a x => ⟨x, x⟩)
  have F0 : FC (fun a => a = 18 ∨ a = 19) I L (byPut (byPut (a_up I 18 1 0) 18 19 32 (fun x => byAt (a_up I 18 1 0) 144 145 (0 + x))) 18 19 32 (fun x => byAt (byPut (a_up I 18 1 0) 18 19 32 (fun x => byAt (a_up I 18 1 0) 144 145 (0 + x))) 144 145 (96 + x))) L := F00.tr (FC.put (p := fun a => a = 18 ∨ a = 19) (by omega) (by omega)) (fun a x => ⟨x, x⟩)
  have H0a : HB (byPut (a_up I 18 1 0) 18 19 32 (fun x => byAt (a_up I 18 1 0) 144 145 (0 + x))) 18 19 (0 + 32) (skB1 sd (spOut (blS (fun x => byAt I 16 17 (0 + x)) (I 16 1))) Y T) := HB.zero.put (by decide) (by decide) (by decide) (fun z x y => by rw [byAt_fc (L := L) (L' := L) (FC.up (p := fun a => a = 18) rfl) (by decide) (by decide), hs.2 _ (by omega) (by omega), sdb _ (by omega) (by omega)]; unfold skB1; rw [if_pos (by omega)])
  have H0 : HB (byPut (byPut (a_up I 18 1 0) 18 19 32 (fun x => byAt (a_up I 18 1 0) 144 145 (0 + x))) 18 19 32 (fun x => byAt (byPut (a_up I 18 1 0) 18 19 32 (fun x => byAt (a_up I 18 1 0) 144 145 (0 + x))) 144 145 (96 + x))) 18 19 (0 + 32 + 32) (skB1 sd (spOut (blS (fun x => byAt I 16 17 (0 + x)) (I 16 1))) Y T) := H0a.put (by decide) (by decide) (by decide) (fun z x y => by rw [byAt_fc F00 (by decide) (by decide), hs.2 _ (by omega) (by omega), sdb _ (by omega) (by omega)]; unfold skB1; rw [if_neg (by omega), if_pos (by omega), show 0 + 32 + z - 32 = z by omega])
  refine aw_aload_n d_KM_writeSecret_17 rfl rfl ?_
  refine ax_getR (b := 36) d_KM_writeSecret_18 fd_KM_20 (k_143 S) (r_143_0 S) ?_
  refine ax_getR (b := 38) d_KM_writeSecret_21 fd_KM_42 (k_36 S) (r_36_1 S) ?_
  refine ax_Vr (st := []) (as := []) (b := 38) d_KM_writeSecret_24 cs_KM_writeSecret_24 (k_38 S) (c_Sp_start256 S) rfl rfl rfl (fun u_24 q_24 => ?_)
  obtain ⟨I1, L1⟩ := u_24
  obtain ⟨F1, e1⟩ := q_24
  dsimp only at F1 e1
  show AW l G M_KM_writeSecret P 27 [(0, vr 143), (1, vr 18), (2, vr 16), (3, vr 34)] [] (sD h I1 L1)
  refine aw_aload_n d_KM_writeSecret_27 rfl rfl ?_
  refine ax_getR (b := 36) d_KM_writeSecret_28 fd_KM_20 (k_143 S) (r_143_0 S) ?_
  refine ax_getR (b := 38) d_KM_writeSecret_31 fd_KM_42 (k_36 S) (r_36_1 S) ?_
  refine aw_aload_n d_KM_writeSecret_34 rfl rfl ?_
  refine aw_iconst d_KM_writeSecret_35 ⟨by decide, by decide⟩ ?_
  refine aw_aload_n d_KM_writeSecret_36 rfl rfl ?_
  refine ax_getIe (x := I 16 1) d_KM_writeSecret_37 fd_KM_152 (k_16 S) (Eq.trans (F1.1 16 1 (by decide)) (Eq.trans (F0.1 16 1 (by omega)) (rfl))) ?_
  refine ax_Vr (st := []) (as := [vr 16, vi 0, vi (I 16 1)]) (b := 38) d_KM_writeSecret_40 cs_KM_writeSecret_40 (k_38 S) (c_Sp_takePart S ((SD.fc F0 (by intro a x; omega)).1.sp F1) (by rw [e1]; exact (spStart_lt (by decide) (by decide)).1) (ks S (i := 1) (by decide)) ⟨by decide, by decide⟩ (by rw [F1.1 16 1 (by decide), F0.1 16 1 (by omega), nks S (i := 1) (by decide)]; omega)) rfl rfl rfl (fun u_40 q_40 => ?_)
  obtain ⟨I2, L2⟩ := u_40
  obtain ⟨F2, e2⟩ := q_40
  dsimp only at F2 e2
  show AW l G M_KM_writeSecret P 43 [(0, vr 143), (1, vr 18), (2, vr 16), (3, vr 34)] [] (sD h I2 L2)
  refine aw_aload_n d_KM_writeSecret_43 rfl rfl ?_
  refine ax_getR (b := 36) d_KM_writeSecret_44 fd_KM_20 (k_143 S) (r_143_0 S) ?_
  refine ax_getR (b := 38) d_KM_writeSecret_47 fd_KM_42 (k_36 S) (r_36_1 S) ?_
  refine ax_Vr (st := []) (as := []) (b := 38) d_KM_writeSecret_50 cs_KM_writeSecret_50 (k_38 S) (c_Sp_turn S (((SD.fc F0 (by intro a x; omega)).1.sp F1).sp F2) (by rw [e2, e1]; exact spPart_ok ((spStart_lt (by decide) (by decide)).1) _ _)) rfl rfl rfl (fun u_50 q_50 => ?_)
  obtain ⟨I3, L3⟩ := u_50
  obtain ⟨F3, e3⟩ := q_50
  dsimp only at F3 e3
  show AW l G M_KM_writeSecret P 53 [(0, vr 143), (1, vr 18), (2, vr 16), (3, vr 34)] [] (sD h I3 L3)
  have eS : spOf I3 L3 = blS (fun x => byAt I 16 17 (0 + x)) (I 16 1) := by rw [e3, e2, e1, show (fun x => byAt I1 16 (15 + 2 * 1) (0 + x)) = (fun x => byAt I 16 17 (0 + x)) from funext (fun x => (byAt_sp F1.1 (by decide) (by decide)).trans (byAt_fc F0 (by decide) (by decide)))]; rfl
  have FA := F0.tr ((F1.tr F2).tr F3).fc (r := fun a => a = 18 ∨ a = 19 ∨ a = 38) (by intro a x; omega)
  refine aw_aload_n d_KM_writeSecret_53 rfl rfl ?_
  refine ax_getR (b := 36) d_KM_writeSecret_54 fd_KM_20 (k_143 S) (r_143_0 S) ?_
  refine ax_getR (b := 38) d_KM_writeSecret_57 fd_KM_42 (k_36 S) (r_36_1 S) ?_
  refine aw_aload_n d_KM_writeSecret_60 rfl rfl ?_
  refine ax_getR (b := 36) d_KM_writeSecret_61 fd_KM_20 (k_143 S) (r_143_0 S) ?_
  refine ax_getR (b := 137) d_KM_writeSecret_64 fd_KM_155 (k_36 S) (r_36_10 S) ?_
  refine aw_bipush d_KM_writeSecret_67 ⟨by decide, by decide⟩ (by decide) ?_
  refine ax_Vr (st := []) (as := [vr 137, vi 64]) (b := 38) d_KM_writeSecret_69 cs_KM_writeSecret_69 (k_38 S) (c_Sp_giveTo S (SD.fc FA (by intro a x; omega)).1 (by rw [eS]; exact blS_ok) ⟨k_137 S, r_137_0 S, k_138 S, by decide, by decide, by decide⟩ ⟨by decide, by decide⟩ (by rw [n_138 S]; omega)) rfl rfl rfl (fun u_69 q_69 => ?_)
  obtain ⟨I9, L9⟩ := u_69
  obtain ⟨F9, f9, e9⟩ := q_69
  dsimp only at F9 f9 e9
  rw [eS] at F9
  have FB := FA.tr (gv_fc F9 f9) (r := fun a => a = 18 ∨ a = 19 ∨ a = 38 ∨ a = 137 ∨ a = 138) (by intro a x; omega)
  have GD := gv_at F9 (by decide) (by decide) (by decide)
  have H9 : HB I9 18 19 (0 + 32 + 32) (skB1 sd (spOut (blS (fun x => byAt I 16 17 (0 + x)) (I 16 1))) Y T) := (H0.fc ((F1.tr F2).tr F3).fc (by decide) (by decide)).fc (gv_fc F9 f9) (by decide) (by decide)
  show AW l G M_KM_writeSecret P 72 [(0, vr 143), (1, vr 18), (2, vr 16), (3, vr 34)] [] (sD h I9 L9)
  refine aw_aload_n d_KM_writeSecret_72 rfl rfl ?_
  refine aw_aload_n d_KM_writeSecret_73 rfl rfl ?_
  refine ax_getR (b := 36) d_KM_writeSecret_74 fd_KM_20 (k_143 S) (r_143_0 S) ?_
  refine ax_getR (b := 137) d_KM_writeSecret_77 fd_KM_155 (k_36 S) (r_36_10 S) ?_
  refine ax_V (st := []) (as := [vr 137]) (b := 18) (v := none) (h' := sD h (byPut I9 18 19 (I9 137 1) (byAt I9 137 138)) L9) d_KM_writeSecret_80 cs_KM_writeSecret_80 (k_18 S) (c_By_addAll (ks S (i := 2) (by decide)) ⟨k_137 S, r_137_0 S, k_138 S, by decide, by decide, by decide⟩ (by decide) (by rw [H9.1, GD.1, nks S (i := 2) (by decide), n_138 S]; decide)) rfl rfl rfl ?_
  show AW l G M_KM_writeSecret P 83 [(0, vr 143), (1, vr 18), (2, vr 16), (3, vr 34)] [] (sD h (byPut I9 18 19 (I9 137 1) (byAt I9 137 138)) L9)
  have FD : FC (fun a => a = 18 ∨ a = 19 ∨ a = 38 ∨ a = 137 ∨ a = 138 ∨ 102 ≤ a ∧ a ≤ 108 ∨ 110 ≤ a ∧ a ≤ 117 ∨ a = 136) I L (byPut I9 18 19 (I9 137 1) (byAt I9 137 138)) L9 := FB.tr (FC.put (p := fun a => a = 18 ∨ a = 19) (by omega) (by omega)) (by intro a x; omega)
  have HD : HB (byPut I9 18 19 (I9 137 1) (byAt I9 137 138)) 18 19 (0 + 32 + 32 + I9 137 1) (skB1 sd (spOut (blS (fun x => byAt I 16 17 (0 + x)) (I 16 1))) Y T) := H9.put (by decide) (by decide) (by rw [GD.1]; decide) (fun z x y => by rw [GD.1] at y; rw [GD.2 z x y, spOut_m]; unfold skB1; rw [if_neg (by omega), if_neg (by omega), if_pos (by omega), show 0 + 32 + 32 + z - 64 = z by omega])
  refine aw_iconst d_KM_writeSecret_83 ⟨by decide, by decide⟩ ?_
  refine aw_istore (lv' := [(4, vi 0), (0, vr 143), (1, vr 18), (2, vr 16), (3, vr 34)]) d_KM_writeSecret_84 (by decide) rfl ?_
  have lp_86 : ∀ (n_ : Nat) (i : Int) (K : Nat → Int → Int), (0 ≤ i ∧ i ≤ 5) → (FC (fun a => a = 18 ∨ a = 19 ∨ a = 38 ∨ a = 137 ∨ a = 138 ∨ 102 ≤ a ∧ a ≤ 108 ∨ 110 ≤ a ∧ a ≤ 117 ∨ a = 136) I L K L9) → (HB K 18 19 (128 + 128 * (i)) (skB1 sd (spOut (blS (fun x => byAt I 16 17 (0 + x)) (I 16 1))) Y T)) → (∀ m, 0 ≤ m → i ≤ m → m < 5 → eqQ (K (102 + m.toNat)) (Y m)) → (∀ a j, 110 ≤ a → a ≤ 134 → K a j = I a j) → ((5 - i).toNat) = n_ → AW l G M_KM_writeSecret P 86 [(4, vi i), (3, vr 34), (2, vr 16), (1, vr 18), (0, vr 143)] [] (sD h K L9) := by
    intro n_
    induction n_ using Nat.strongRecOn with
    | _ n_ ih_86 =>
    intro i K hi F H un rest hm_86
    refine aw_iload d_KM_writeSecret_86 rfl ?_
    refine aw_aload_n d_KM_writeSecret_88 rfl rfl ?_
    refine ax_getIe (x := 5) d_KM_writeSecret_89 fd_KM_66 (k_34 S) (Eq.trans (F.1 34 1 (by omega)) (pc_34_1 SD.2.1)) ?_
    refine aw_icmp_ge (tgt := 123) d_KM_writeSecret_92 (by decide) (fun c_92 => ?_) (fun c_92 => ?_)
    · skip
      refine aw_iconst d_KM_writeSecret_123 ⟨by decide, by decide⟩ ?_
      refine aw_istore (lv' := [(4, vi 0), (3, vr 34), (2, vr 16), (1, vr 18), (0, vr 143)]) d_KM_writeSecret_124 (by decide) rfl ?_
      have lp_126 : ∀ (n_ : Nat) (i : Int) (K2 : Nat → Int → Int), (0 ≤ i ∧ i ≤ 6) → (FC (fun a => a = 18 ∨ a = 19 ∨ a = 38 ∨ a = 137 ∨ a = 138 ∨ 102 ≤ a ∧ a ≤ 108 ∨ 110 ≤ a ∧ a ≤ 117 ∨ a = 136) I L K2 L9) → (HB K2 18 19 (128 + 128 * (5 + i)) (skB1 sd (spOut (blS (fun x => byAt I 16 17 (0 + x)) (I 16 1))) Y T)) → (∀ m, 0 ≤ m → i ≤ m → m < 6 → eqQ (K2 (110 + m.toNat)) (Y (5 + m))) → (∀ a j, 126 ≤ a → a ≤ 134 → K2 a j = I a j) → ((6 - i).toNat) = n_ → AW l G M_KM_writeSecret P 126 [(4, vi i), (3, vr 34), (2, vr 16), (1, vr 18), (0, vr 143)] [] (sD h K2 L9) := by
        intro n_
        induction n_ using Nat.strongRecOn with
        | _ n_ ih_126 =>
        intro i K2 hi2 G2 H2 un2 rest2 hm_126
        refine aw_iload d_KM_writeSecret_126 rfl ?_
        refine aw_aload_n d_KM_writeSecret_128 rfl rfl ?_
        refine ax_getIe (x := 6) d_KM_writeSecret_129 fd_KM_57 (k_34 S) (Eq.trans (G2.1 34 0 (by omega)) (pc_34_0 SD.2.1)) ?_
        refine aw_icmp_ge (tgt := 163) d_KM_writeSecret_132 (by decide) (fun c_132 => ?_) (fun c_132 => ?_)
        · skip
          refine aw_iconst d_KM_writeSecret_163 ⟨by decide, by decide⟩ ?_
          refine aw_istore (lv' := [(4, vi 0), (3, vr 34), (2, vr 16), (1, vr 18), (0, vr 143)]) d_KM_writeSecret_164 (by decide) rfl ?_
          have lp_166 : ∀ (n_ : Nat) (i : Int) (K3 : Nat → Int → Int), (0 ≤ i ∧ i ≤ 6) → (FC (fun a => a = 18 ∨ a = 19 ∨ a = 38 ∨ a = 137 ∨ a = 138 ∨ 102 ≤ a ∧ a ≤ 108 ∨ 110 ≤ a ∧ a ≤ 117 ∨ a = 136) I L K3 L9) → (HB K3 18 19 (1536 + 416 * i) (skB1 sd (spOut (blS (fun x => byAt I 16 17 (0 + x)) (I 16 1))) Y T)) → (∀ a j, 126 ≤ a → a ≤ 134 → K3 a j = I a j) → ((6 - i).toNat) = n_ → AW l G M_KM_writeSecret P 166 [(4, vi i), (3, vr 34), (2, vr 16), (1, vr 18), (0, vr 143)] [] (sD h K3 L9) := by
            intro n_
            induction n_ using Nat.strongRecOn with
            | _ n_ ih_166 =>
            intro i K3 hi3 G3 H3 rest3 hm_166
            have T3 : ∀ m, 0 ≤ m → m < 6 → eqQ (K3 (127 + m.toNat)) (T m) := fun m a b j x y => by rw [rest3 _ _ (by omega) (by omega)]; exact hT m a b j x y
            refine aw_iload d_KM_writeSecret_166 rfl ?_
            refine aw_aload_n d_KM_writeSecret_168 rfl rfl ?_
            refine ax_getIe (x := 6) d_KM_writeSecret_169 fd_KM_57 (k_34 S) (Eq.trans (G3.1 34 0 (by omega)) (pc_34_0 SD.2.1)) ?_
            refine aw_icmp_ge (tgt := 255) d_KM_writeSecret_172 (by decide) (fun c_172 => ?_) (fun c_172 => ?_)
            · skip
              exact aw_vret d_KM_writeSecret_255 rfl (hP K3 L9 G3 (by rw [show 4032 = 1536 + 416 * i by omega]; exact H3))
            · skip
              refine aw_iconst d_KM_writeSecret_175 ⟨by decide, by decide⟩ ?_
              refine aw_istore (lv' := [(5, vi 0), (4, vi i), (3, vr 34), (2, vr 16), (1, vr 18), (0, vr 143)]) d_KM_writeSecret_176 (by decide) rfl ?_
              have lp_178 : ∀ (n_ : Nat) (c : Int), (0 ≤ c ∧ c ≤ 256) → ((256 - c).toNat) = n_ → AW l G M_KM_writeSecret P 178 [(5, vi c), (4, vi i), (3, vr 34), (2, vr 16), (1, vr 18), (0, vr 143)] [] (sD h (rowTo K3 136 c (fun x => 4096 - (K3 (127 + i.toNat) x - (K3 (127 + i.toNat) x + 4096 - 1) / 8192 * 8192))) L9) := by
                intro n_
                induction n_ using Nat.strongRecOn with
                | _ n_ ih_178 =>
                intro c hc hm_178
                refine aw_iload d_KM_writeSecret_178 rfl ?_
                refine aw_sipush d_KM_writeSecret_180 ⟨by decide, by decide⟩ (by decide) ?_
                refine aw_icmp_ge (tgt := 236) d_KM_writeSecret_183 (by decide) (fun c_183 => ?_) (fun c_183 => ?_)
                · skip
                  rw [show c = 256 by omega]
                  refine aw_aload_n d_KM_writeSecret_236 rfl rfl ?_
                  refine aw_aload_n d_KM_writeSecret_237 rfl rfl ?_
                  refine ax_getR (b := 36) d_KM_writeSecret_238 fd_KM_20 (k_143 S) (r_143_0 S) ?_
                  refine ax_getR (b := 136) d_KM_writeSecret_241 fd_KM_140 (k_36 S) (r_36_9 S) ?_
                  refine aw_bipush d_KM_writeSecret_244 ⟨by decide, by decide⟩ (by decide) ?_
                  refine ax_V (st := []) (as := [vr 136, vi 13]) (b := 18) (v := none) (h' := sD h (byPut (rowTo K3 136 256 (fun x => 4096 - (K3 (127 + i.toNat) x - (K3 (127 + i.toNat) x + 4096 - 1) / 8192 * 8192))) 18 19 (32 * 13) (gB ((rowTo K3 136 256 (fun x => 4096 - (K3 (127 + i.toNat) x - (K3 (127 + i.toNat) x + 4096 - 1) / 8192 * 8192))) 136) 13)) L9) d_KM_writeSecret_246 cs_KM_writeSecret_246 (k_18 S) (by have z := c_By_addBits (l := l) (G := G) (L := L9) (I := rowTo K3 136 256 (fun x => 4096 - (K3 (127 + i.toNat) x - (K3 (127 + i.toNat) x + 4096 - 1) / 8192 * 8192))) (w := 13) (ks S (i := 2) (by decide)) ⟨k_136 S, by decide, n_136 S, by decide, by decide⟩ (by decide) (fun j x y => by rw [rowTo_in x y, T3 i hi3.1 (by omega) j x y]; have := qT i hi3.1 (by omega) j x y; omega) (by rw [rowTo_ne (by decide), H3.1, nks S (i := 2) (by decide)]; omega); exact z) rfl rfl rfl ?_
                  show AW l G M_KM_writeSecret P 249 [(5, vi 256), (4, vi i), (3, vr 34), (2, vr 16), (1, vr 18), (0, vr 143)] [] (sD h (byPut (rowTo K3 136 256 (fun x => 4096 - (K3 (127 + i.toNat) x - (K3 (127 + i.toNat) x + 4096 - 1) / 8192 * 8192))) 18 19 (32 * 13) (gB ((rowTo K3 136 256 (fun x => 4096 - (K3 (127 + i.toNat) x - (K3 (127 + i.toNat) x + 4096 - 1) / 8192 * 8192))) 136) 13)) L9)
                  refine ax_iinc (lv' := [(4, vi (i + 1)), (5, vi 256), (3, vr 34), (2, vr 16), (1, vr 18), (0, vr 143)]) d_KM_writeSecret_249 rfl (by decide) ⟨(by omega), (by omega)⟩ rfl ?_
                  refine aw_goto (tgt := 166) d_KM_writeSecret_252 (by decide) ?_
                  refine aw_sub (lv' := [(4, vi (i + 1)), (3, vr 34), (2, vr 16), (1, vr 18), (0, vr 143)]) (by simp) ?_
                  exact ih_166 _ (by omega) (i + 1) (byPut (rowTo K3 136 256 (fun x => 4096 - (K3 (127 + i.toNat) x - (K3 (127 + i.toNat) x + 4096 - 1) / 8192 * 8192))) 18 19 (32 * 13) (gB ((rowTo K3 136 256 (fun x => 4096 - (K3 (127 + i.toNat) x - (K3 (127 + i.toNat) x + 4096 - 1) / 8192 * 8192))) 136) 13)) (by omega) ((G3.tr (FC.row (p := fun a => a = 18 ∨ a = 19 ∨ a = 38 ∨ a = 137 ∨ a = 138 ∨ 102 ≤ a ∧ a ≤ 108 ∨ 110 ≤ a ∧ a ≤ 117 ∨ a = 136) (by omega)) (fun a x => ⟨x, x⟩)).tr (FC.put (p := fun a => a = 18 ∨ a = 19 ∨ a = 38 ∨ a = 137 ∨ a = 138 ∨ 102 ≤ a ∧ a ≤ 108 ∨ 110 ≤ a ∧ a ≤ 117 ∨ a = 136) (by omega) (by omega)) (fun a x => ⟨x, x⟩)) (by rw [show 1536 + 416 * (i + 1) = 1536 + 416 * i + 32 * 13 by omega]; exact (H3.fc (L := L9) (L' := L9) (FC.row (p := fun a => a = 136) rfl) (by decide) (by decide)).put (by decide) (by omega) (by decide) (fun z x y => by rw [gB_m, skB1_t hi3.1 x (by omega), gB_congr (G := fun j => 4096 - (T i j - (T i j + 4096 - 1) / 8192 * 8192)) (fun j u v => by rw [rowTo_in u v, T3 i hi3.1 (by omega) j u v])])) (fun a j x y => by rw [byPut_ne (by omega) (by omega), rowTo_ne (by omega)]; exact rest3 a j x y) rfl
                · skip
                  refine aw_aload_n d_KM_writeSecret_186 rfl rfl ?_
                  refine ax_getR (b := 36) d_KM_writeSecret_187 fd_KM_20 (k_143 S) (r_143_0 S) ?_
                  refine ax_getR (b := 126) d_KM_writeSecret_190 fd_KM_125 (k_36 S) (r_36_7 S) ?_
                  refine aw_iload d_KM_writeSecret_193 rfl ?_
                  refine ax_aald (b := 127 + i.toNat) d_KM_writeSecret_195 ⟨by rw [(k_126 S)]; decide, by rw [(k_126 S)]; decide⟩ (by omega) (by rw [n_126 S]; omega) (g_126 S (by omega) (by omega)) ?_
                  refine aw_iload d_KM_writeSecret_196 rfl ?_
                  refine ax_ialde (x := K3 (127 + i.toNat) c) d_KM_writeSecret_198 (kr_126 S (by omega)) (by omega) (by rw [nr_126 S (by omega)]; omega) (Eq.trans (rowTo_ne (by omega)) (rfl)) ?_
                  refine aw_istore (lv' := [(6, vi (K3 (127 + i.toNat) c)), (5, vi c), (4, vi i), (3, vr 34), (2, vr 16), (1, vr 18), (0, vr 143)]) d_KM_writeSecret_199 (by decide) rfl ?_
                  have v_ := qT i hi3.1 (by omega) c hc.1 (by omega)
                  rw [← T3 i hi3.1 (by omega) c hc.1 (by omega)] at v_
                  refine aw_iload d_KM_writeSecret_201 rfl ?_
                  refine aw_iload d_KM_writeSecret_203 rfl ?_
                  refine ax_S (st := [vi (K3 (127 + i.toNat) c)]) (as := [vi (K3 (127 + i.toNat) c)]) (v := some (vi ((K3 (127 + i.toNat) c + 4096 - 1) / 8192))) (h' := sD h (rowTo K3 136 c (fun x => 4096 - (K3 (127 + i.toNat) x - (K3 (127 + i.toNat) x + 4096 - 1) / 8192 * 8192))) L9) d_KM_writeSecret_205 cs_KM_writeSecret_205 (c_KM_top (by rw [T3 i hi3.1 (by omega) c hc.1 (by omega)]; exact qT i hi3.1 (by omega) c hc.1 (by omega))) rfl rfl rfl ?_
                  show AW l G M_KM_writeSecret P 208 [(6, vi (K3 (127 + i.toNat) c)), (5, vi c), (4, vi i), (3, vr 34), (2, vr 16), (1, vr 18), (0, vr 143)] [vi ((K3 (127 + i.toNat) c + 4096 - 1) / 8192), vi (K3 (127 + i.toNat) c)] (sD h (rowTo K3 136 c (fun x => 4096 - (K3 (127 + i.toNat) x - (K3 (127 + i.toNat) x + 4096 - 1) / 8192 * 8192))) L9)
                  refine aw_bipush d_KM_writeSecret_208 ⟨by decide, by decide⟩ (by decide) ?_
                  refine aw_ishl d_KM_writeSecret_210 ?_
                  refine ax_ti (x := ((K3 (127 + i.toNat) c + 4096 - 1) / 8192) * 8192) (a_shl' 13 rfl (by decide) (by decide) (by omega) (by omega)) ?_
                  refine ax_isub d_KM_writeSecret_211 ⟨(by omega), (by omega)⟩ ?_
                  refine aw_istore (lv' := [(7, vi ((K3 (127 + i.toNat) c) - (((K3 (127 + i.toNat) c + 4096 - 1) / 8192) * 8192))), (6, vi (K3 (127 + i.toNat) c)), (5, vi c), (4, vi i), (3, vr 34), (2, vr 16), (1, vr 18), (0, vr 143)]) d_KM_writeSecret_212 (by decide) rfl ?_
                  refine aw_aload_n d_KM_writeSecret_214 rfl rfl ?_
                  refine ax_getR (b := 36) d_KM_writeSecret_215 fd_KM_20 (k_143 S) (r_143_0 S) ?_
                  refine ax_getR (b := 136) d_KM_writeSecret_218 fd_KM_140 (k_36 S) (r_36_9 S) ?_
                  refine aw_iload d_KM_writeSecret_221 rfl ?_
                  refine aw_sipush d_KM_writeSecret_223 ⟨by decide, by decide⟩ (by decide) ?_
                  refine aw_iload d_KM_writeSecret_226 rfl ?_
                  refine ax_isub d_KM_writeSecret_228 ⟨(by omega), (by omega)⟩ ?_
                  refine ax_iast d_KM_writeSecret_229 (k_136 S) (by decide) (by omega) (by rw [n_136 S]; omega) ?_
                  rw [rowTo_1 (by omega) rfl]
                  refine ax_iinc (lv' := [(5, vi (c + 1)), (7, vi ((K3 (127 + i.toNat) c) - (((K3 (127 + i.toNat) c + 4096 - 1) / 8192) * 8192))), (6, vi (K3 (127 + i.toNat) c)), (4, vi i), (3, vr 34), (2, vr 16), (1, vr 18), (0, vr 143)]) d_KM_writeSecret_230 rfl (by decide) ⟨(by omega), (by omega)⟩ rfl ?_
                  refine aw_goto (tgt := 178) d_KM_writeSecret_233 (by decide) ?_
                  refine aw_sub (lv' := [(5, vi (c + 1)), (4, vi i), (3, vr 34), (2, vr 16), (1, vr 18), (0, vr 143)]) (by simp) ?_
                  exact ih_178 _ (by omega) (c + 1) (by omega) rfl
              refine ax_hp (h' := sD h (rowTo K3 136 0 (fun x => 4096 - (K3 (127 + i.toNat) x - (K3 (127 + i.toNat) x + 4096 - 1) / 8192 * 8192))) L9) (by rw [rowTo_0]) ?_
              exact lp_178 _ 0 (by omega) rfl
          skip
          exact lp_166 _ 0 K2 (by omega) (G2) (by rw [show 1536 + 416 * 0 = 128 + 128 * (5 + i) by omega]; exact H2) (rest2) rfl
        · skip
          refine aw_aload_n d_KM_writeSecret_135 rfl rfl ?_
          refine aw_aload_n d_KM_writeSecret_136 rfl rfl ?_
          refine ax_getR (b := 36) d_KM_writeSecret_137 fd_KM_20 (k_143 S) (r_143_0 S) ?_
          refine ax_getR (b := 109) d_KM_writeSecret_140 fd_KM_102 (k_36 S) (r_36_5 S) ?_
          refine aw_iload d_KM_writeSecret_143 rfl ?_
          refine ax_aald (b := 110 + i.toNat) d_KM_writeSecret_145 ⟨by rw [(k_109 S)]; decide, by rw [(k_109 S)]; decide⟩ (by omega) (by rw [n_109 S]; omega) (g_109 S (by omega) (by omega)) ?_
          refine aw_aload_n d_KM_writeSecret_146 rfl rfl ?_
          refine ax_getIe (x := 4) d_KM_writeSecret_147 fd_KM_92 (k_34 S) (Eq.trans (G2.1 34 2 (by omega)) (pc_34_2 SD.2.1)) ?_
          refine aw_aload_n d_KM_writeSecret_150 rfl rfl ?_
          refine ax_getIe (x := 4) d_KM_writeSecret_151 fd_KM_162 (k_34 S) (Eq.trans (G2.1 34 10 (by omega)) (pc_34_10 SD.2.1)) ?_
          refine ax_S (st := []) (as := [vr 18, vr (110 + i.toNat), vi 4, vi 4]) (v := none) (h' := sD h (byPut (rowTo K2 (110 + i.toNat) 256 (fun j => (4 - K2 (110 + i.toNat) j) % 8380417)) 18 19 (32 * 4) (gB (fun j => (4 - K2 (110 + i.toNat) j) % 8380417) 4)) L9) d_KM_writeSecret_154 cs_KM_writeSecret_154 (c_KM_addMirrored (w := 4) (e := 4) (ks S (i := 2) (by decide)) ⟨kr_109 S (by omega), by omega, nr_109 S (by omega)⟩ ⟨by omega, by omega⟩ (by omega) ((un2 i hi2.1 (Int.le_refl _) (by omega)).inQ (qY _ (by omega) (by omega))) (by decide) (fun j x y => by rw [(un2 i hi2.1 (Int.le_refl _) (by omega)) j x y]; exact bY _ (by omega) (by omega) j x y) (by rw [H2.1, nks S (i := 2) (by decide)]; omega)) rfl rfl rfl ?_
          show AW l G M_KM_writeSecret P 157 [(4, vi i), (3, vr 34), (2, vr 16), (1, vr 18), (0, vr 143)] [] (sD h (byPut (rowTo K2 (110 + i.toNat) 256 (fun j => (4 - K2 (110 + i.toNat) j) % 8380417)) 18 19 (32 * 4) (gB (fun j => (4 - K2 (110 + i.toNat) j) % 8380417) 4)) L9)
          refine ax_iinc (lv' := [(4, vi (i + 1)), (3, vr 34), (2, vr 16), (1, vr 18), (0, vr 143)]) d_KM_writeSecret_157 rfl (by decide) ⟨(by omega), (by omega)⟩ rfl ?_
          refine aw_goto (tgt := 126) d_KM_writeSecret_160 (by decide) ?_
          exact ih_126 _ (by omega) (i + 1) (byPut (rowTo K2 (110 + i.toNat) 256 (fun j => (4 - K2 (110 + i.toNat) j) % 8380417)) 18 19 (32 * 4) (gB (fun j => (4 - K2 (110 + i.toNat) j) % 8380417) 4)) (by omega) ((G2.tr (FC.row (p := fun a => a = 18 ∨ a = 19 ∨ a = 38 ∨ a = 137 ∨ a = 138 ∨ 102 ≤ a ∧ a ≤ 108 ∨ 110 ≤ a ∧ a ≤ 117 ∨ a = 136) (by omega)) (fun a x => ⟨x, x⟩)).tr (FC.put (p := fun a => a = 18 ∨ a = 19 ∨ a = 38 ∨ a = 137 ∨ a = 138 ∨ 102 ≤ a ∧ a ≤ 108 ∨ 110 ≤ a ∧ a ≤ 117 ∨ a = 136) (by omega) (by omega)) (fun a x => ⟨x, x⟩)) (by rw [show 128 + 128 * (5 + (i + 1)) = 128 + 128 * (5 + i) + 32 * 4 by omega]; exact (H2.fc (L := L9) (L' := L9) (FC.row (p := fun a => a = 110 + i.toNat) rfl) (by omega) (by omega)).put (by decide) (by omega) (by decide) (fun z x y => by rw [gB_m, skB1_s (by omega) (by omega) x (by omega), gB_congr (G := fun j => (4 - Y (5 + i) j) % 8380417) (fun j u v => by rw [un2 i (by omega) (Int.le_refl _) (by omega) j u v])])) (fun m a b c j x y => by rw [byPut_ne (by omega) (by omega), rowTo_ne (by omega)]; exact un2 m a (by omega) c j x y) (fun a j x y => by rw [byPut_ne (by omega) (by omega), rowTo_ne (by omega)]; exact rest2 a j x y) rfl
      skip
      exact lp_126 _ 0 K (by omega) (F) (by rw [show 128 + 128 * (5 + 0) = 128 + 128 * (i) by omega]; exact H) (fun m a b c j x y => by rw [rest _ _ (by omega) (by omega)]; exact hE m a c j x y) (fun a j x y => rest a j (by omega) y) rfl
    · skip
      refine aw_aload_n d_KM_writeSecret_95 rfl rfl ?_
      refine aw_aload_n d_KM_writeSecret_96 rfl rfl ?_
      refine ax_getR (b := 36) d_KM_writeSecret_97 fd_KM_20 (k_143 S) (r_143_0 S) ?_
      refine ax_getR (b := 101) d_KM_writeSecret_100 fd_KM_95 (k_36 S) (r_36_4 S) ?_
      refine aw_iload d_KM_writeSecret_103 rfl ?_
      refine ax_aald (b := 102 + i.toNat) d_KM_writeSecret_105 ⟨by rw [(k_101 S)]; decide, by rw [(k_101 S)]; decide⟩ (by omega) (by rw [n_101 S]; omega) (g_101 S (by omega) (by omega)) ?_
      refine aw_aload_n d_KM_writeSecret_106 rfl rfl ?_
      refine ax_getIe (x := 4) d_KM_writeSecret_107 fd_KM_92 (k_34 S) (Eq.trans (F.1 34 2 (by omega)) (pc_34_2 SD.2.1)) ?_
      refine aw_aload_n d_KM_writeSecret_110 rfl rfl ?_
      refine ax_getIe (x := 4) d_KM_writeSecret_111 fd_KM_162 (k_34 S) (Eq.trans (F.1 34 10 (by omega)) (pc_34_10 SD.2.1)) ?_
      refine ax_S (st := []) (as := [vr 18, vr (102 + i.toNat), vi 4, vi 4]) (v := none) (h' := sD h (byPut (rowTo K (102 + i.toNat) 256 (fun j => (4 - K (102 + i.toNat) j) % 8380417)) 18 19 (32 * 4) (gB (fun j => (4 - K (102 + i.toNat) j) % 8380417) 4)) L9) d_KM_writeSecret_114 cs_KM_writeSecret_114 (c_KM_addMirrored (w := 4) (e := 4) (ks S (i := 2) (by decide)) ⟨kr_101 S (by omega), by omega, nr_101 S (by omega)⟩ ⟨by omega, by omega⟩ (by omega) ((un i hi.1 (Int.le_refl _) (by omega)).inQ (qY _ (by omega) (by omega))) (by decide) (fun j x y => by rw [(un i hi.1 (Int.le_refl _) (by omega)) j x y]; exact bY _ (by omega) (by omega) j x y) (by rw [H.1, nks S (i := 2) (by decide)]; omega)) rfl rfl rfl ?_
      show AW l G M_KM_writeSecret P 117 [(4, vi i), (3, vr 34), (2, vr 16), (1, vr 18), (0, vr 143)] [] (sD h (byPut (rowTo K (102 + i.toNat) 256 (fun j => (4 - K (102 + i.toNat) j) % 8380417)) 18 19 (32 * 4) (gB (fun j => (4 - K (102 + i.toNat) j) % 8380417) 4)) L9)
      refine ax_iinc (lv' := [(4, vi (i + 1)), (3, vr 34), (2, vr 16), (1, vr 18), (0, vr 143)]) d_KM_writeSecret_117 rfl (by decide) ⟨(by omega), (by omega)⟩ rfl ?_
      refine aw_goto (tgt := 86) d_KM_writeSecret_120 (by decide) ?_
      exact ih_86 _ (by omega) (i + 1) (byPut (rowTo K (102 + i.toNat) 256 (fun j => (4 - K (102 + i.toNat) j) % 8380417)) 18 19 (32 * 4) (gB (fun j => (4 - K (102 + i.toNat) j) % 8380417) 4)) (by omega) ((F.tr (FC.row (p := fun a => a = 18 ∨ a = 19 ∨ a = 38 ∨ a = 137 ∨ a = 138 ∨ 102 ≤ a ∧ a ≤ 108 ∨ 110 ≤ a ∧ a ≤ 117 ∨ a = 136) (by omega)) (fun a x => ⟨x, x⟩)).tr (FC.put (p := fun a => a = 18 ∨ a = 19 ∨ a = 38 ∨ a = 137 ∨ a = 138 ∨ 102 ≤ a ∧ a ≤ 108 ∨ 110 ≤ a ∧ a ≤ 117 ∨ a = 136) (by omega) (by omega)) (fun a x => ⟨x, x⟩)) (by rw [show 128 + 128 * ((i + 1)) = 128 + 128 * (i) + 32 * 4 by omega]; exact (H.fc (L := L9) (L' := L9) (FC.row (p := fun a => a = 102 + i.toNat) rfl) (by omega) (by omega)).put (by decide) (by omega) (by decide) (fun z x y => by rw [gB_m, skB1_s (by omega) (by omega) x (by omega), gB_congr (G := fun j => (4 - Y (i) j) % 8380417) (fun j u v => by rw [un i (by omega) (Int.le_refl _) (by omega) j u v])])) (fun m a b c j x y => by rw [byPut_ne (by omega) (by omega), rowTo_ne (by omega)]; exact un m a (by omega) c j x y) (fun a j x y => by rw [byPut_ne (by omega) (by omega), rowTo_ne (by omega)]; exact rest a j x y) rfl
  skip
  refine aw_sub (lv' := [(4, vi 0), (3, vr 34), (2, vr 16), (1, vr 18), (0, vr 143)]) (by simp) ?_
  exact lp_86 _ 0 (byPut I9 18 19 (I9 137 1) (byAt I9 137 138)) (by omega) (FD) (by rw [show (128 + 128 * 0 : Int) = 0 + 32 + 32 + I9 137 1 by rw [GD.1]; decide]; exact HD) (fun m a b c j x y => by rw [byPut_ne (by omega) (by omega), FB.1 _ _ (by omega)]; exact hV m a c j x y) (fun a j x y => by rw [byPut_ne (by omega) (by omega), FB.1 _ _ (by omega)]) rfl
set_option maxHeartbeats 800000 in
set_option maxRecDepth 100000 in
theorem c_KM_writePublic2 {l : Launch} {G : a_G} {h : Hp} {I L : Nat → Int → Int} {sd : Int → Int} {T : Int → Int → Int} (S : Shp h) (SD : Std I L) (hs : HB I 144 145 128 sd) (sdb : ∀ x, 0 ≤ x → x < 128 → sd x % 256 = sd x) (hT : ∀ m, 0 ≤ m → m < 8 → eqQ (I (127 + m.toNat)) (T m)) (qT : ∀ m, 0 ≤ m → m < 8 → inQ (T m)) : AW l G M_KM_writePublic (Ret (fun _ : Nat → Int → Int => none) (fun K => sD h K L) (fun K => FC (fun a => a = 16 ∨ a = 17 ∨ a = 136) I L K L ∧ HB K 16 17 2592 (pkB sd T))) 0 (a_ar 0 [vr 143, vr 16, vr 35]) [] (sD h I L) := by
  suffices key : ∀ P : a_R → Hp → Prop, (∀ K : Nat → Int → Int, FC (fun a => a = 16 ∨ a = 17 ∨ a = 136) I L K L → HB K 16 17 2592 (pkB sd T) → P (.inl none) (sD h K L)) → AW l G M_KM_writePublic P 0 [(0, vr 143), (1, vr 16), (2, vr 35)] [] (sD h I L) from key _ (fun K q1 q2 => ⟨K, rfl, rfl, q1, q2⟩)
  intro P hP
  refine aw_aload_n d_KM_writePublic_0 rfl rfl ?_
  refine ax_V (st := []) (as := []) (b := 16) (v := none) (h' := sD h (a_up I 16 1 0) L) d_KM_writePublic_1 cs_KM_writePublic_1 (k_16 S) (c_By_clear (ks S (i := 1) (by decide))) rfl rfl rfl ?_
  show AW l G M_KM_writePublic P 4 [(0, vr 143), (1, vr 16), (2, vr 35)] [] (sD h (a_up I 16 1 0) L)
  refine aw_aload_n d_KM_writePublic_4 rfl rfl ?_
  refine aw_aload_n d_KM_writePublic_5 rfl rfl ?_
  refine aw_iconst d_KM_writePublic_6 ⟨by decide, by decide⟩ ?_
  refine ax_V (st := []) (as := [vr 16, vi 0]) (b := 143) (v := none) (h' := sD h (byPut (a_up I 16 1 0) 16 17 32 (fun x => byAt (a_up I 16 1 0) 144 145 (0 + x))) L) d_KM_writePublic_7 cs_KM_writePublic_7 (k_143 S) (c_KM_addSeed S (ks S (i := 1) (by decide)) ⟨by decide, by decide⟩ (by rw [a_up_at, nks S (i := 1) (by decide), a_up_ne (Or.inl (by decide)), hs.1]; omega)) rfl rfl rfl ?_
  show AW l G M_KM_writePublic P 10 [(0, vr 143), (1, vr 16), (2, vr 35)] [] (sD h (byPut (a_up I 16 1 0) 16 17 32 (fun x => byAt (a_up I 16 1 0) 144 145 (0 + x))) L)
  have F0 : FC (fun a => a = 16 ∨ a = 17 ∨ a = 136) I L (byPut (a_up I 16 1 0) 16 17 32 (fun x => byAt (a_up I 16 1 0) 144 145 (0 + x))) L := (FC.up (p := fun a => a = 16 ∨ a = 17 ∨ a = 136) (by omega)).tr (FC.put (p := fun a => a = 16 ∨ a = 17 ∨ a = 136) (by omega) (by omega)) (fun a x => ⟨x, x⟩)
  have H0 : HB (byPut (a_up I 16 1 0) 16 17 32 (fun x => byAt (a_up I 16 1 0) 144 145 (0 + x))) 16 17 (0 + 32) (pkB sd T) := HB.zero.put (by decide) (by decide) (by decide) (fun z x y => by rw [byAt_fc (L := L) (L' := L) (FC.up (p := fun a => a = 16) rfl) (by decide) (by decide), hs.2 _ (by omega) (by omega), sdb _ (by omega) (by omega)]; unfold pkB; rw [if_pos (by omega)])
  refine aw_iconst d_KM_writePublic_10 ⟨by decide, by decide⟩ ?_
  refine aw_istore_n (lv' := [(3, vi 0), (0, vr 143), (1, vr 16), (2, vr 35)]) d_KM_writePublic_11 rfl (by decide) rfl ?_
  have lp_12 : ∀ (n_ : Nat) (i : Int) (K : Nat → Int → Int), (0 ≤ i ∧ i ≤ 8) → (FC (fun a => a = 16 ∨ a = 17 ∨ a = 136) I L K L) → (HB K 16 17 (32 + 320 * i) (pkB sd T)) → ((8 - i).toNat) = n_ → AW l G M_KM_writePublic P 12 [(3, vi i), (2, vr 35), (1, vr 16), (0, vr 143)] [] (sD h K L) := by
    intro n_
    induction n_ using Nat.strongRecOn with
    | _ n_ ih_12 =>
    intro i K hi F H hm_12
    refine aw_iload_n d_KM_writePublic_12 rfl rfl ?_
    refine aw_aload_n d_KM_writePublic_13 rfl rfl ?_
    refine ax_getIe (x := 8) d_KM_writePublic_14 fd_KM_57 (k_35 S) (Eq.trans (F.1 35 0 (by omega)) (pc_35_0 SD.2.1)) ?_
    refine aw_icmp_ge (tgt := 81) d_KM_writePublic_17 (by decide) (fun c_17 => ?_) (fun c_17 => ?_)
    · skip
      exact aw_vret d_KM_writePublic_81 rfl (hP K F (by rw [show 2592 = 32 + 320 * i by omega]; exact H))
    · skip
      refine aw_iconst d_KM_writePublic_20 ⟨by decide, by decide⟩ ?_
      refine aw_istore (lv' := [(4, vi 0), (3, vi i), (2, vr 35), (1, vr 16), (0, vr 143)]) d_KM_writePublic_21 (by decide) rfl ?_
      have lp_23 : ∀ (n_ : Nat) (c : Int), (0 ≤ c ∧ c ≤ 256) → ((256 - c).toNat) = n_ → AW l G M_KM_writePublic P 23 [(4, vi c), (3, vi i), (2, vr 35), (1, vr 16), (0, vr 143)] [] (sD h (rowTo K 136 c (fun x => (K (127 + i.toNat) x + 4096 - 1) / 8192)) L) := by
        intro n_
        induction n_ using Nat.strongRecOn with
        | _ n_ ih_23 =>
        intro c hc hm_23
        refine aw_iload d_KM_writePublic_23 rfl ?_
        refine aw_sipush d_KM_writePublic_25 ⟨by decide, by decide⟩ (by decide) ?_
        refine aw_icmp_ge (tgt := 62) d_KM_writePublic_28 (by decide) (fun c_28 => ?_) (fun c_28 => ?_)
        · skip
          rw [show c = 256 by omega]
          refine aw_aload_n d_KM_writePublic_62 rfl rfl ?_
          refine aw_aload_n d_KM_writePublic_63 rfl rfl ?_
          refine ax_getR (b := 36) d_KM_writePublic_64 fd_KM_20 (k_143 S) (r_143_0 S) ?_
          refine ax_getR (b := 136) d_KM_writePublic_67 fd_KM_140 (k_36 S) (r_36_9 S) ?_
          refine aw_bipush d_KM_writePublic_70 ⟨by decide, by decide⟩ (by decide) ?_
          refine ax_V (st := []) (as := [vr 136, vi 10]) (b := 16) (v := none) (h' := sD h (byPut (rowTo K 136 256 (fun x => (K (127 + i.toNat) x + 4096 - 1) / 8192)) 16 17 (32 * 10) (gB ((rowTo K 136 256 (fun x => (K (127 + i.toNat) x + 4096 - 1) / 8192)) 136) 10)) L) d_KM_writePublic_72 cs_KM_writePublic_72 (k_16 S) (by have z := c_By_addBits (l := l) (G := G) (L := L) (I := rowTo K 136 256 (fun x => (K (127 + i.toNat) x + 4096 - 1) / 8192)) (w := 10) (ks S (i := 1) (by decide)) ⟨k_136 S, by decide, n_136 S, by decide, by decide⟩ (by decide) (fun j x y => by rw [rowTo_in x y, F.1 _ _ (by omega), hT i hi.1 (by omega) j x y]; have := qT i hi.1 (by omega) j x y; omega) (by rw [rowTo_ne (by decide), H.1, nks S (i := 1) (by decide)]; omega); exact z) rfl rfl rfl ?_
          show AW l G M_KM_writePublic P 75 [(4, vi 256), (3, vi i), (2, vr 35), (1, vr 16), (0, vr 143)] [] (sD h (byPut (rowTo K 136 256 (fun x => (K (127 + i.toNat) x + 4096 - 1) / 8192)) 16 17 (32 * 10) (gB ((rowTo K 136 256 (fun x => (K (127 + i.toNat) x + 4096 - 1) / 8192)) 136) 10)) L)
          refine ax_iinc (lv' := [(3, vi (i + 1)), (4, vi 256), (2, vr 35), (1, vr 16), (0, vr 143)]) d_KM_writePublic_75 rfl (by decide) ⟨(by omega), (by omega)⟩ rfl ?_
          refine aw_goto (tgt := 12) d_KM_writePublic_78 (by decide) ?_
          refine aw_sub (lv' := [(3, vi (i + 1)), (2, vr 35), (1, vr 16), (0, vr 143)]) (by simp) ?_
          exact ih_12 _ (by omega) (i + 1) (byPut (rowTo K 136 256 (fun x => (K (127 + i.toNat) x + 4096 - 1) / 8192)) 16 17 (32 * 10) (gB ((rowTo K 136 256 (fun x => (K (127 + i.toNat) x + 4096 - 1) / 8192)) 136) 10)) (by omega) ((F.tr (FC.row (p := fun a => a = 16 ∨ a = 17 ∨ a = 136) (by omega)) (fun a x => ⟨x, x⟩)).tr (FC.put (p := fun a => a = 16 ∨ a = 17 ∨ a = 136) (by omega) (by omega)) (fun a x => ⟨x, x⟩)) (by rw [show 32 + 320 * (i + 1) = 32 + 320 * i + 32 * 10 by omega]; exact (H.fc (L := L) (L' := L) (FC.row (p := fun a => a = 136) rfl) (by decide) (by decide)).put (by decide) (by omega) (by decide) (fun z x y => by rw [gB_m, pkB_at hi.1 x (by omega), gB_congr (G := fun j => (T i j + 4096 - 1) / 8192) (fun j u v => by rw [rowTo_in u v, F.1 _ _ (by omega), hT i hi.1 (by omega) j u v])])) rfl
        · skip
          refine aw_aload_n d_KM_writePublic_31 rfl rfl ?_
          refine ax_getR (b := 36) d_KM_writePublic_32 fd_KM_20 (k_143 S) (r_143_0 S) ?_
          refine ax_getR (b := 136) d_KM_writePublic_35 fd_KM_140 (k_36 S) (r_36_9 S) ?_
          refine aw_iload d_KM_writePublic_38 rfl ?_
          refine aw_aload_n d_KM_writePublic_40 rfl rfl ?_
          refine ax_getR (b := 36) d_KM_writePublic_41 fd_KM_20 (k_143 S) (r_143_0 S) ?_
          refine ax_getR (b := 126) d_KM_writePublic_44 fd_KM_125 (k_36 S) (r_36_7 S) ?_
          refine aw_iload_n d_KM_writePublic_47 rfl rfl ?_
          refine ax_aald (b := 127 + i.toNat) d_KM_writePublic_48 ⟨by rw [(k_126 S)]; decide, by rw [(k_126 S)]; decide⟩ (by omega) (by rw [n_126 S]; omega) (g_126 S (by omega) (by omega)) ?_
          refine aw_iload d_KM_writePublic_49 rfl ?_
          refine ax_ialde (x := K (127 + i.toNat) c) d_KM_writePublic_51 (kr_126 S (by omega)) (by omega) (by rw [nr_126 S (by omega)]; omega) (Eq.trans (rowTo_ne (by omega)) (rfl)) ?_
          refine ax_S (st := [vi c, vr 136]) (as := [vi (K (127 + i.toNat) c)]) (v := some (vi ((K (127 + i.toNat) c + 4096 - 1) / 8192))) (h' := sD h (rowTo K 136 c (fun x => (K (127 + i.toNat) x + 4096 - 1) / 8192)) L) d_KM_writePublic_52 cs_KM_writePublic_52 (c_KM_top (by rw [F.1 _ _ (by omega), hT i hi.1 (by omega) c hc.1 (by omega)]; exact qT i hi.1 (by omega) c hc.1 (by omega))) rfl rfl rfl ?_
          show AW l G M_KM_writePublic P 55 [(4, vi c), (3, vi i), (2, vr 35), (1, vr 16), (0, vr 143)] [vi ((K (127 + i.toNat) c + 4096 - 1) / 8192), vi c, vr 136] (sD h (rowTo K 136 c (fun x => (K (127 + i.toNat) x + 4096 - 1) / 8192)) L)
          refine ax_iast d_KM_writePublic_55 (k_136 S) (by decide) (by omega) (by rw [n_136 S]; omega) ?_
          rw [rowTo_1 (by omega) rfl]
          refine ax_iinc (lv' := [(4, vi (c + 1)), (3, vi i), (2, vr 35), (1, vr 16), (0, vr 143)]) d_KM_writePublic_56 rfl (by decide) ⟨(by omega), (by omega)⟩ rfl ?_
          refine aw_goto (tgt := 23) d_KM_writePublic_59 (by decide) ?_
          exact ih_23 _ (by omega) (c + 1) (by omega) rfl
      refine ax_hp (h' := sD h (rowTo K 136 0 (fun x => (K (127 + i.toNat) x + 4096 - 1) / 8192)) L) (by rw [rowTo_0]) ?_
      exact lp_23 _ 0 (by omega) rfl
  skip
  refine aw_sub (lv' := [(3, vi 0), (2, vr 35), (1, vr 16), (0, vr 143)]) (by simp) ?_
  exact lp_12 _ 0 (byPut (a_up I 16 1 0) 16 17 32 (fun x => byAt (a_up I 16 1 0) 144 145 (0 + x))) (by omega) (F0) (H0) rfl
theorem skB2_s {sd hh : Int → Int} {Y T : Int → Int → Int} {i z : Int} (h0 : 0 ≤ i) (h1 : i < 15) (z0 : 0 ≤ z) (z1 : z < 96) : skB2 sd hh Y T (128 + 96 * i + z) = gB (fun j => (2 - Y i j) % 8380417) 3 z := by
  unfold skB2
  rw [if_neg (by omega), if_neg (by omega), if_neg (by omega), if_pos (by omega), show (128 + 96 * i + z - 128) / 96 = i by omega, show (128 + 96 * i + z - 128) % 96 = z by omega]
theorem skB2_t {sd hh : Int → Int} {Y T : Int → Int → Int} {i z : Int} (h0 : 0 ≤ i) (z0 : 0 ≤ z) (z1 : z < 416) : skB2 sd hh Y T (1568 + 416 * i + z) = gB (fun j => 4096 - (T i j - (T i j + 4096 - 1) / 8192 * 8192)) 13 z := by
  unfold skB2
  rw [if_neg (by omega), if_neg (by omega), if_neg (by omega), if_neg (by omega), show (1568 + 416 * i + z - 1568) / 416 = i by omega, show (1568 + 416 * i + z - 1568) % 416 = z by omega]
set_option maxHeartbeats 800000 in
set_option maxRecDepth 100000 in
theorem c_KM_writeSecret2 {l : Launch} {G : a_G} {h : Hp} {I L : Nat → Int → Int} {sd : Int → Int} {Y T : Int → Int → Int} (S : Shp h) (SD : Std I L) (hs : HB I 144 145 128 sd) (sdb : ∀ x, 0 ≤ x → x < 128 → sd x % 256 = sd x) (hT : ∀ m, 0 ≤ m → m < 8 → eqQ (I (127 + m.toNat)) (T m)) (qT : ∀ m, 0 ≤ m → m < 8 → inQ (T m)) (hV : ∀ m, 0 ≤ m → m < 7 → eqQ (I (102 + m.toNat)) (Y m)) (hE : ∀ m, 0 ≤ m → m < 8 → eqQ (I (110 + m.toNat)) (Y (7 + m))) (qY : ∀ m, 0 ≤ m → m < 15 → inQ (Y m)) (bY : ∀ m, 0 ≤ m → m < 15 → ∀ j, 0 ≤ j → j < 256 → 0 ≤ (2 - Y m j) % 8380417 ∧ (2 - Y m j) % 8380417 < 2 ^ 3) (hp : 0 ≤ I 16 1 ∧ I 16 1 ≤ 8192) : AW l G M_KM_writeSecret (Ret (fun _ : (Nat → Int → Int) × (Nat → Int → Int) => none) (fun u => sD h u.1 u.2) (fun u => FC (fun a => a = 18 ∨ a = 19 ∨ a = 38 ∨ a = 137 ∨ a = 138 ∨ 102 ≤ a ∧ a ≤ 108 ∨ 110 ≤ a ∧ a ≤ 117 ∨ a = 136) I L u.1 u.2 ∧ HB u.1 18 19 4896 (skB2 sd (spOut (blS (fun x => byAt I 16 17 (0 + x)) (I 16 1))) Y T))) 0 (a_ar 0 [vr 143, vr 18, vr 16, vr 35]) [] (sD h I L) := by
  suffices key : ∀ P : a_R → Hp → Prop, (∀ I2 L2, FC (fun a => a = 18 ∨ a = 19 ∨ a = 38 ∨ a = 137 ∨ a = 138 ∨ 102 ≤ a ∧ a ≤ 108 ∨ 110 ≤ a ∧ a ≤ 117 ∨ a = 136) I L I2 L2 → HB I2 18 19 4896 (skB2 sd (spOut (blS (fun x => byAt I 16 17 (0 + x)) (I 16 1))) Y T) → P (.inl none) (sD h I2 L2)) → AW l G M_KM_writeSecret P 0 [(0, vr 143), (1, vr 18), (2, vr 16), (3, vr 35)] [] (sD h I L) from key _ (fun I2 L2 q1 q2 => ⟨(I2, L2), rfl, rfl, q1, q2⟩)
  intro P hP
  refine aw_aload_n d_KM_writeSecret_0 rfl rfl ?_
  refine ax_V (st := []) (as := []) (b := 18) (v := none) (h' := sD h (a_up I 18 1 0) L) d_KM_writeSecret_1 cs_KM_writeSecret_1 (k_18 S) (c_By_clear (ks S (i := 2) (by decide))) rfl rfl rfl ?_
  show AW l G M_KM_writeSecret P 4 [(0, vr 143), (1, vr 18), (2, vr 16), (3, vr 35)] [] (sD h (a_up I 18 1 0) L)
  refine aw_aload_n d_KM_writeSecret_4 rfl rfl ?_
  refine aw_aload_n d_KM_writeSecret_5 rfl rfl ?_
  refine aw_iconst d_KM_writeSecret_6 ⟨by decide, by decide⟩ ?_
  refine ax_V (st := []) (as := [vr 18, vi 0]) (b := 143) (v := none) (h' := sD h (byPut (a_up I 18 1 0) 18 19 32 (fun x => byAt (a_up I 18 1 0) 144 145 (0 + x))) L) d_KM_writeSecret_7 cs_KM_writeSecret_7 (k_143 S) (c_KM_addSeed S (ks S (i := 2) (by decide)) ⟨by decide, by decide⟩ (by rw [a_up_at, nks S (i := 2) (by decide), a_up_ne (Or.inl (by decide)), hs.1]; omega)) rfl rfl rfl ?_
  show AW l G M_KM_writeSecret P 10 [(0, vr 143), (1, vr 18), (2, vr 16), (3, vr 35)] [] (sD h (byPut (a_up I 18 1 0) 18 19 32 (fun x => byAt (a_up I 18 1 0) 144 145 (0 + x))) L)
  refine aw_aload_n d_KM_writeSecret_10 rfl rfl ?_
  refine aw_aload_n d_KM_writeSecret_11 rfl rfl ?_
  refine aw_bipush d_KM_writeSecret_12 ⟨by decide, by decide⟩ (by decide) ?_
  refine ax_V (st := []) (as := [vr 18, vi 96]) (b := 143) (v := none) (h' := sD h (byPut (byPut (a_up I 18 1 0) 18 19 32 (fun x => byAt (a_up I 18 1 0) 144 145 (0 + x))) 18 19 32 (fun x => byAt (byPut (a_up I 18 1 0) 18 19 32 (fun x => byAt (a_up I 18 1 0) 144 145 (0 + x))) 144 145 (96 + x))) L) d_KM_writeSecret_14 cs_KM_writeSecret_14 (k_143 S) (c_KM_addSeed S (ks S (i := 2) (by decide)) ⟨by decide, by decide⟩ (by rw [byPut_cnt, a_up_at, nks S (i := 2) (by decide), byPut_ne (by decide) (by decide), a_up_ne (Or.inl (by decide)), hs.1]; omega)) rfl rfl rfl ?_
  show AW l G M_KM_writeSecret P 17 [(0, vr 143), (1, vr 18), (2, vr 16), (3, vr 35)] [] (sD h (byPut (byPut (a_up I 18 1 0) 18 19 32 (fun x => byAt (a_up I 18 1 0) 144 145 (0 + x))) 18 19 32 (fun x => byAt (byPut (a_up I 18 1 0) 18 19 32 (fun x => byAt (a_up I 18 1 0) 144 145 (0 + x))) 144 145 (96 + x))) L)
  have F00 : FC (fun a => a = 18 ∨ a = 19) I L (byPut (a_up I 18 1 0) 18 19 32 (fun x => byAt (a_up I 18 1 0) 144 145 (0 + x))) L := (FC.up (p := fun a => a = 18 ∨ a = 19) (by omega)).tr (FC.put (p := fun a => a = 18 ∨ a = 19) (by omega) (by omega)) (fun a x => ⟨x, x⟩)
  have F0 : FC (fun a => a = 18 ∨ a = 19) I L (byPut (byPut (a_up I 18 1 0) 18 19 32 (fun x => byAt (a_up I 18 1 0) 144 145 (0 + x))) 18 19 32 (fun x => byAt (byPut (a_up I 18 1 0) 18 19 32 (fun x => byAt (a_up I 18 1 0) 144 145 (0 + x))) 144 145 (96 + x))) L := F00.tr (FC.put (p := fun a => a = 18 ∨ a = 19) (by omega) (by omega)) (fun a x => ⟨x, x⟩)
  have H0a : HB (byPut (a_up I 18 1 0) 18 19 32 (fun x => byAt (a_up I 18 1 0) 144 145 (0 + x))) 18 19 (0 + 32) (skB2 sd (spOut (blS (fun x => byAt I 16 17 (0 + x)) (I 16 1))) Y T) := HB.zero.put (by decide) (by decide) (by decide) (fun z x y => by rw [byAt_fc (L := L) (L' := L) (FC.up (p := fun a => a = 18) rfl) (by decide) (by decide), hs.2 _ (by omega) (by omega), sdb _ (by omega) (by omega)]; unfold skB2; rw [if_pos (by omega)])
  have H0 : HB (byPut (byPut (a_up I 18 1 0) 18 19 32 (fun x => byAt (a_up I 18 1 0) 144 145 (0 + x))) 18 19 32 (fun x => byAt (byPut (a_up I 18 1 0) 18 19 32 (fun x => byAt (a_up I 18 1 0) 144 145 (0 + x))) 144 145 (96 + x))) 18 19 (0 + 32 + 32) (skB2 sd (spOut (blS (fun x => byAt I 16 17 (0 + x)) (I 16 1))) Y T) := H0a.put (by decide) (by decide) (by decide) (fun z x y => by rw [byAt_fc F00 (by decide) (by decide), hs.2 _ (by omega) (by omega), sdb _ (by omega) (by omega)]; unfold skB2; rw [if_neg (by omega), if_pos (by omega), show 0 + 32 + z - 32 = z by omega])
  refine aw_aload_n d_KM_writeSecret_17 rfl rfl ?_
  refine ax_getR (b := 36) d_KM_writeSecret_18 fd_KM_20 (k_143 S) (r_143_0 S) ?_
  refine ax_getR (b := 38) d_KM_writeSecret_21 fd_KM_42 (k_36 S) (r_36_1 S) ?_
  refine ax_Vr (st := []) (as := []) (b := 38) d_KM_writeSecret_24 cs_KM_writeSecret_24 (k_38 S) (c_Sp_start256 S) rfl rfl rfl (fun u_24 q_24 => ?_)
  obtain ⟨I1, L1⟩ := u_24
  obtain ⟨F1, e1⟩ := q_24
  dsimp only at F1 e1
  show AW l G M_KM_writeSecret P 27 [(0, vr 143), (1, vr 18), (2, vr 16), (3, vr 35)] [] (sD h I1 L1)
  refine aw_aload_n d_KM_writeSecret_27 rfl rfl ?_
  refine ax_getR (b := 36) d_KM_writeSecret_28 fd_KM_20 (k_143 S) (r_143_0 S) ?_
  refine ax_getR (b := 38) d_KM_writeSecret_31 fd_KM_42 (k_36 S) (r_36_1 S) ?_
  refine aw_aload_n d_KM_writeSecret_34 rfl rfl ?_
  refine aw_iconst d_KM_writeSecret_35 ⟨by decide, by decide⟩ ?_
  refine aw_aload_n d_KM_writeSecret_36 rfl rfl ?_
  refine ax_getIe (x := I 16 1) d_KM_writeSecret_37 fd_KM_152 (k_16 S) (Eq.trans (F1.1 16 1 (by decide)) (Eq.trans (F0.1 16 1 (by omega)) (rfl))) ?_
  refine ax_Vr (st := []) (as := [vr 16, vi 0, vi (I 16 1)]) (b := 38) d_KM_writeSecret_40 cs_KM_writeSecret_40 (k_38 S) (c_Sp_takePart S ((SD.fc F0 (by intro a x; omega)).1.sp F1) (by rw [e1]; exact (spStart_lt (by decide) (by decide)).1) (ks S (i := 1) (by decide)) ⟨by decide, by decide⟩ (by rw [F1.1 16 1 (by decide), F0.1 16 1 (by omega), nks S (i := 1) (by decide)]; omega)) rfl rfl rfl (fun u_40 q_40 => ?_)
  obtain ⟨I2, L2⟩ := u_40
  obtain ⟨F2, e2⟩ := q_40
  dsimp only at F2 e2
  show AW l G M_KM_writeSecret P 43 [(0, vr 143), (1, vr 18), (2, vr 16), (3, vr 35)] [] (sD h I2 L2)
  refine aw_aload_n d_KM_writeSecret_43 rfl rfl ?_
  refine ax_getR (b := 36) d_KM_writeSecret_44 fd_KM_20 (k_143 S) (r_143_0 S) ?_
  refine ax_getR (b := 38) d_KM_writeSecret_47 fd_KM_42 (k_36 S) (r_36_1 S) ?_
  refine ax_Vr (st := []) (as := []) (b := 38) d_KM_writeSecret_50 cs_KM_writeSecret_50 (k_38 S) (c_Sp_turn S (((SD.fc F0 (by intro a x; omega)).1.sp F1).sp F2) (by rw [e2, e1]; exact spPart_ok ((spStart_lt (by decide) (by decide)).1) _ _)) rfl rfl rfl (fun u_50 q_50 => ?_)
  obtain ⟨I3, L3⟩ := u_50
  obtain ⟨F3, e3⟩ := q_50
  dsimp only at F3 e3
  show AW l G M_KM_writeSecret P 53 [(0, vr 143), (1, vr 18), (2, vr 16), (3, vr 35)] [] (sD h I3 L3)
  have eS : spOf I3 L3 = blS (fun x => byAt I 16 17 (0 + x)) (I 16 1) := by rw [e3, e2, e1, show (fun x => byAt I1 16 (15 + 2 * 1) (0 + x)) = (fun x => byAt I 16 17 (0 + x)) from funext (fun x => (byAt_sp F1.1 (by decide) (by decide)).trans (byAt_fc F0 (by decide) (by decide)))]; rfl
  have FA := F0.tr ((F1.tr F2).tr F3).fc (r := fun a => a = 18 ∨ a = 19 ∨ a = 38) (by intro a x; omega)
  refine aw_aload_n d_KM_writeSecret_53 rfl rfl ?_
  refine ax_getR (b := 36) d_KM_writeSecret_54 fd_KM_20 (k_143 S) (r_143_0 S) ?_
  refine ax_getR (b := 38) d_KM_writeSecret_57 fd_KM_42 (k_36 S) (r_36_1 S) ?_
  refine aw_aload_n d_KM_writeSecret_60 rfl rfl ?_
  refine ax_getR (b := 36) d_KM_writeSecret_61 fd_KM_20 (k_143 S) (r_143_0 S) ?_
  refine ax_getR (b := 137) d_KM_writeSecret_64 fd_KM_155 (k_36 S) (r_36_10 S) ?_
  refine aw_bipush d_KM_writeSecret_67 ⟨by decide, by decide⟩ (by decide) ?_
  refine ax_Vr (st := []) (as := [vr 137, vi 64]) (b := 38) d_KM_writeSecret_69 cs_KM_writeSecret_69 (k_38 S) (c_Sp_giveTo S (SD.fc FA (by intro a x; omega)).1 (by rw [eS]; exact blS_ok) ⟨k_137 S, r_137_0 S, k_138 S, by decide, by decide, by decide⟩ ⟨by decide, by decide⟩ (by rw [n_138 S]; omega)) rfl rfl rfl (fun u_69 q_69 => ?_)
  obtain ⟨I9, L9⟩ := u_69
  obtain ⟨F9, f9, e9⟩ := q_69
  dsimp only at F9 f9 e9
  rw [eS] at F9
  have FB := FA.tr (gv_fc F9 f9) (r := fun a => a = 18 ∨ a = 19 ∨ a = 38 ∨ a = 137 ∨ a = 138) (by intro a x; omega)
  have GD := gv_at F9 (by decide) (by decide) (by decide)
  have H9 : HB I9 18 19 (0 + 32 + 32) (skB2 sd (spOut (blS (fun x => byAt I 16 17 (0 + x)) (I 16 1))) Y T) := (H0.fc ((F1.tr F2).tr F3).fc (by decide) (by decide)).fc (gv_fc F9 f9) (by decide) (by decide)
  show AW l G M_KM_writeSecret P 72 [(0, vr 143), (1, vr 18), (2, vr 16), (3, vr 35)] [] (sD h I9 L9)
  refine aw_aload_n d_KM_writeSecret_72 rfl rfl ?_
  refine aw_aload_n d_KM_writeSecret_73 rfl rfl ?_
  refine ax_getR (b := 36) d_KM_writeSecret_74 fd_KM_20 (k_143 S) (r_143_0 S) ?_
  refine ax_getR (b := 137) d_KM_writeSecret_77 fd_KM_155 (k_36 S) (r_36_10 S) ?_
  refine ax_V (st := []) (as := [vr 137]) (b := 18) (v := none) (h' := sD h (byPut I9 18 19 (I9 137 1) (byAt I9 137 138)) L9) d_KM_writeSecret_80 cs_KM_writeSecret_80 (k_18 S) (c_By_addAll (ks S (i := 2) (by decide)) ⟨k_137 S, r_137_0 S, k_138 S, by decide, by decide, by decide⟩ (by decide) (by rw [H9.1, GD.1, nks S (i := 2) (by decide), n_138 S]; decide)) rfl rfl rfl ?_
  show AW l G M_KM_writeSecret P 83 [(0, vr 143), (1, vr 18), (2, vr 16), (3, vr 35)] [] (sD h (byPut I9 18 19 (I9 137 1) (byAt I9 137 138)) L9)
  have FD : FC (fun a => a = 18 ∨ a = 19 ∨ a = 38 ∨ a = 137 ∨ a = 138 ∨ 102 ≤ a ∧ a ≤ 108 ∨ 110 ≤ a ∧ a ≤ 117 ∨ a = 136) I L (byPut I9 18 19 (I9 137 1) (byAt I9 137 138)) L9 := FB.tr (FC.put (p := fun a => a = 18 ∨ a = 19) (by omega) (by omega)) (by intro a x; omega)
  have HD : HB (byPut I9 18 19 (I9 137 1) (byAt I9 137 138)) 18 19 (0 + 32 + 32 + I9 137 1) (skB2 sd (spOut (blS (fun x => byAt I 16 17 (0 + x)) (I 16 1))) Y T) := H9.put (by decide) (by decide) (by rw [GD.1]; decide) (fun z x y => by rw [GD.1] at y; rw [GD.2 z x y, spOut_m]; unfold skB2; rw [if_neg (by omega), if_neg (by omega), if_pos (by omega), show 0 + 32 + 32 + z - 64 = z by omega])
  refine aw_iconst d_KM_writeSecret_83 ⟨by decide, by decide⟩ ?_
  refine aw_istore (lv' := [(4, vi 0), (0, vr 143), (1, vr 18), (2, vr 16), (3, vr 35)]) d_KM_writeSecret_84 (by decide) rfl ?_
  have lp_86 : ∀ (n_ : Nat) (i : Int) (K : Nat → Int → Int), (0 ≤ i ∧ i ≤ 7) → (FC (fun a => a = 18 ∨ a = 19 ∨ a = 38 ∨ a = 137 ∨ a = 138 ∨ 102 ≤ a ∧ a ≤ 108 ∨ 110 ≤ a ∧ a ≤ 117 ∨ a = 136) I L K L9) → (HB K 18 19 (128 + 96 * (i)) (skB2 sd (spOut (blS (fun x => byAt I 16 17 (0 + x)) (I 16 1))) Y T)) → (∀ m, 0 ≤ m → i ≤ m → m < 7 → eqQ (K (102 + m.toNat)) (Y m)) → (∀ a j, 110 ≤ a → a ≤ 134 → K a j = I a j) → ((7 - i).toNat) = n_ → AW l G M_KM_writeSecret P 86 [(4, vi i), (3, vr 35), (2, vr 16), (1, vr 18), (0, vr 143)] [] (sD h K L9) := by
    intro n_
    induction n_ using Nat.strongRecOn with
    | _ n_ ih_86 =>
    intro i K hi F H un rest hm_86
    refine aw_iload d_KM_writeSecret_86 rfl ?_
    refine aw_aload_n d_KM_writeSecret_88 rfl rfl ?_
    refine ax_getIe (x := 7) d_KM_writeSecret_89 fd_KM_66 (k_35 S) (Eq.trans (F.1 35 1 (by omega)) (pc_35_1 SD.2.1)) ?_
    refine aw_icmp_ge (tgt := 123) d_KM_writeSecret_92 (by decide) (fun c_92 => ?_) (fun c_92 => ?_)
    · skip
      refine aw_iconst d_KM_writeSecret_123 ⟨by decide, by decide⟩ ?_
      refine aw_istore (lv' := [(4, vi 0), (3, vr 35), (2, vr 16), (1, vr 18), (0, vr 143)]) d_KM_writeSecret_124 (by decide) rfl ?_
      have lp_126 : ∀ (n_ : Nat) (i : Int) (K2 : Nat → Int → Int), (0 ≤ i ∧ i ≤ 8) → (FC (fun a => a = 18 ∨ a = 19 ∨ a = 38 ∨ a = 137 ∨ a = 138 ∨ 102 ≤ a ∧ a ≤ 108 ∨ 110 ≤ a ∧ a ≤ 117 ∨ a = 136) I L K2 L9) → (HB K2 18 19 (128 + 96 * (7 + i)) (skB2 sd (spOut (blS (fun x => byAt I 16 17 (0 + x)) (I 16 1))) Y T)) → (∀ m, 0 ≤ m → i ≤ m → m < 8 → eqQ (K2 (110 + m.toNat)) (Y (7 + m))) → (∀ a j, 126 ≤ a → a ≤ 134 → K2 a j = I a j) → ((8 - i).toNat) = n_ → AW l G M_KM_writeSecret P 126 [(4, vi i), (3, vr 35), (2, vr 16), (1, vr 18), (0, vr 143)] [] (sD h K2 L9) := by
        intro n_
        induction n_ using Nat.strongRecOn with
        | _ n_ ih_126 =>
        intro i K2 hi2 G2 H2 un2 rest2 hm_126
        refine aw_iload d_KM_writeSecret_126 rfl ?_
        refine aw_aload_n d_KM_writeSecret_128 rfl rfl ?_
        refine ax_getIe (x := 8) d_KM_writeSecret_129 fd_KM_57 (k_35 S) (Eq.trans (G2.1 35 0 (by omega)) (pc_35_0 SD.2.1)) ?_
        refine aw_icmp_ge (tgt := 163) d_KM_writeSecret_132 (by decide) (fun c_132 => ?_) (fun c_132 => ?_)
        · skip
          refine aw_iconst d_KM_writeSecret_163 ⟨by decide, by decide⟩ ?_
          refine aw_istore (lv' := [(4, vi 0), (3, vr 35), (2, vr 16), (1, vr 18), (0, vr 143)]) d_KM_writeSecret_164 (by decide) rfl ?_
          have lp_166 : ∀ (n_ : Nat) (i : Int) (K3 : Nat → Int → Int), (0 ≤ i ∧ i ≤ 8) → (FC (fun a => a = 18 ∨ a = 19 ∨ a = 38 ∨ a = 137 ∨ a = 138 ∨ 102 ≤ a ∧ a ≤ 108 ∨ 110 ≤ a ∧ a ≤ 117 ∨ a = 136) I L K3 L9) → (HB K3 18 19 (1568 + 416 * i) (skB2 sd (spOut (blS (fun x => byAt I 16 17 (0 + x)) (I 16 1))) Y T)) → (∀ a j, 126 ≤ a → a ≤ 134 → K3 a j = I a j) → ((8 - i).toNat) = n_ → AW l G M_KM_writeSecret P 166 [(4, vi i), (3, vr 35), (2, vr 16), (1, vr 18), (0, vr 143)] [] (sD h K3 L9) := by
            intro n_
            induction n_ using Nat.strongRecOn with
            | _ n_ ih_166 =>
            intro i K3 hi3 G3 H3 rest3 hm_166
            have T3 : ∀ m, 0 ≤ m → m < 8 → eqQ (K3 (127 + m.toNat)) (T m) := fun m a b j x y => by rw [rest3 _ _ (by omega) (by omega)]; exact hT m a b j x y
            refine aw_iload d_KM_writeSecret_166 rfl ?_
            refine aw_aload_n d_KM_writeSecret_168 rfl rfl ?_
            refine ax_getIe (x := 8) d_KM_writeSecret_169 fd_KM_57 (k_35 S) (Eq.trans (G3.1 35 0 (by omega)) (pc_35_0 SD.2.1)) ?_
            refine aw_icmp_ge (tgt := 255) d_KM_writeSecret_172 (by decide) (fun c_172 => ?_) (fun c_172 => ?_)
            · skip
              exact aw_vret d_KM_writeSecret_255 rfl (hP K3 L9 G3 (by rw [show 4896 = 1568 + 416 * i by omega]; exact H3))
            · skip
              refine aw_iconst d_KM_writeSecret_175 ⟨by decide, by decide⟩ ?_
              refine aw_istore (lv' := [(5, vi 0), (4, vi i), (3, vr 35), (2, vr 16), (1, vr 18), (0, vr 143)]) d_KM_writeSecret_176 (by decide) rfl ?_
              have lp_178 : ∀ (n_ : Nat) (c : Int), (0 ≤ c ∧ c ≤ 256) → ((256 - c).toNat) = n_ → AW l G M_KM_writeSecret P 178 [(5, vi c), (4, vi i), (3, vr 35), (2, vr 16), (1, vr 18), (0, vr 143)] [] (sD h (rowTo K3 136 c (fun x => 4096 - (K3 (127 + i.toNat) x - (K3 (127 + i.toNat) x + 4096 - 1) / 8192 * 8192))) L9) := by
                intro n_
                induction n_ using Nat.strongRecOn with
                | _ n_ ih_178 =>
                intro c hc hm_178
                refine aw_iload d_KM_writeSecret_178 rfl ?_
                refine aw_sipush d_KM_writeSecret_180 ⟨by decide, by decide⟩ (by decide) ?_
                refine aw_icmp_ge (tgt := 236) d_KM_writeSecret_183 (by decide) (fun c_183 => ?_) (fun c_183 => ?_)
                · skip
                  rw [show c = 256 by omega]
                  refine aw_aload_n d_KM_writeSecret_236 rfl rfl ?_
                  refine aw_aload_n d_KM_writeSecret_237 rfl rfl ?_
                  refine ax_getR (b := 36) d_KM_writeSecret_238 fd_KM_20 (k_143 S) (r_143_0 S) ?_
                  refine ax_getR (b := 136) d_KM_writeSecret_241 fd_KM_140 (k_36 S) (r_36_9 S) ?_
                  refine aw_bipush d_KM_writeSecret_244 ⟨by decide, by decide⟩ (by decide) ?_
                  refine ax_V (st := []) (as := [vr 136, vi 13]) (b := 18) (v := none) (h' := sD h (byPut (rowTo K3 136 256 (fun x => 4096 - (K3 (127 + i.toNat) x - (K3 (127 + i.toNat) x + 4096 - 1) / 8192 * 8192))) 18 19 (32 * 13) (gB ((rowTo K3 136 256 (fun x => 4096 - (K3 (127 + i.toNat) x - (K3 (127 + i.toNat) x + 4096 - 1) / 8192 * 8192))) 136) 13)) L9) d_KM_writeSecret_246 cs_KM_writeSecret_246 (k_18 S) (by have z := c_By_addBits (l := l) (G := G) (L := L9) (I := rowTo K3 136 256 (fun x => 4096 - (K3 (127 + i.toNat) x - (K3 (127 + i.toNat) x + 4096 - 1) / 8192 * 8192))) (w := 13) (ks S (i := 2) (by decide)) ⟨k_136 S, by decide, n_136 S, by decide, by decide⟩ (by decide) (fun j x y => by rw [rowTo_in x y, T3 i hi3.1 (by omega) j x y]; have := qT i hi3.1 (by omega) j x y; omega) (by rw [rowTo_ne (by decide), H3.1, nks S (i := 2) (by decide)]; omega); exact z) rfl rfl rfl ?_
                  show AW l G M_KM_writeSecret P 249 [(5, vi 256), (4, vi i), (3, vr 35), (2, vr 16), (1, vr 18), (0, vr 143)] [] (sD h (byPut (rowTo K3 136 256 (fun x => 4096 - (K3 (127 + i.toNat) x - (K3 (127 + i.toNat) x + 4096 - 1) / 8192 * 8192))) 18 19 (32 * 13) (gB ((rowTo K3 136 256 (fun x => 4096 - (K3 (127 + i.toNat) x - (K3 (127 + i.toNat) x + 4096 - 1) / 8192 * 8192))) 136) 13)) L9)
                  refine ax_iinc (lv' := [(4, vi (i + 1)), (5, vi 256), (3, vr 35), (2, vr 16), (1, vr 18), (0, vr 143)]) d_KM_writeSecret_249 rfl (by decide) ⟨(by omega), (by omega)⟩ rfl ?_
                  refine aw_goto (tgt := 166) d_KM_writeSecret_252 (by decide) ?_
                  refine aw_sub (lv' := [(4, vi (i + 1)), (3, vr 35), (2, vr 16), (1, vr 18), (0, vr 143)]) (by simp) ?_
                  exact ih_166 _ (by omega) (i + 1) (byPut (rowTo K3 136 256 (fun x => 4096 - (K3 (127 + i.toNat) x - (K3 (127 + i.toNat) x + 4096 - 1) / 8192 * 8192))) 18 19 (32 * 13) (gB ((rowTo K3 136 256 (fun x => 4096 - (K3 (127 + i.toNat) x - (K3 (127 + i.toNat) x + 4096 - 1) / 8192 * 8192))) 136) 13)) (by omega) ((G3.tr (FC.row (p := fun a => a = 18 ∨ a = 19 ∨ a = 38 ∨ a = 137 ∨ a = 138 ∨ 102 ≤ a ∧ a ≤ 108 ∨ 110 ≤ a ∧ a ≤ 117 ∨ a = 136) (by omega)) (fun a x => ⟨x, x⟩)).tr (FC.put (p := fun a => a = 18 ∨ a = 19 ∨ a = 38 ∨ a = 137 ∨ a = 138 ∨ 102 ≤ a ∧ a ≤ 108 ∨ 110 ≤ a ∧ a ≤ 117 ∨ a = 136) (by omega) (by omega)) (fun a x => ⟨x, x⟩)) (by rw [show 1568 + 416 * (i + 1) = 1568 + 416 * i + 32 * 13 by omega]; exact (H3.fc (L := L9) (L' := L9) (FC.row (p := fun a => a = 136) rfl) (by decide) (by decide)).put (by decide) (by omega) (by decide) (fun z x y => by rw [gB_m, skB2_t hi3.1 x (by omega), gB_congr (G := fun j => 4096 - (T i j - (T i j + 4096 - 1) / 8192 * 8192)) (fun j u v => by rw [rowTo_in u v, T3 i hi3.1 (by omega) j u v])])) (fun a j x y => by rw [byPut_ne (by omega) (by omega), rowTo_ne (by omega)]; exact rest3 a j x y) rfl
                · skip
                  refine aw_aload_n d_KM_writeSecret_186 rfl rfl ?_
                  refine ax_getR (b := 36) d_KM_writeSecret_187 fd_KM_20 (k_143 S) (r_143_0 S) ?_
                  refine ax_getR (b := 126) d_KM_writeSecret_190 fd_KM_125 (k_36 S) (r_36_7 S) ?_
                  refine aw_iload d_KM_writeSecret_193 rfl ?_
                  refine ax_aald (b := 127 + i.toNat) d_KM_writeSecret_195 ⟨by rw [(k_126 S)]; decide, by rw [(k_126 S)]; decide⟩ (by omega) (by rw [n_126 S]; omega) (g_126 S (by omega) (by omega)) ?_
                  refine aw_iload d_KM_writeSecret_196 rfl ?_
                  refine ax_ialde (x := K3 (127 + i.toNat) c) d_KM_writeSecret_198 (kr_126 S (by omega)) (by omega) (by rw [nr_126 S (by omega)]; omega) (Eq.trans (rowTo_ne (by omega)) (rfl)) ?_
                  refine aw_istore (lv' := [(6, vi (K3 (127 + i.toNat) c)), (5, vi c), (4, vi i), (3, vr 35), (2, vr 16), (1, vr 18), (0, vr 143)]) d_KM_writeSecret_199 (by decide) rfl ?_
                  have v_ := qT i hi3.1 (by omega) c hc.1 (by omega)
                  rw [← T3 i hi3.1 (by omega) c hc.1 (by omega)] at v_
                  refine aw_iload d_KM_writeSecret_201 rfl ?_
                  refine aw_iload d_KM_writeSecret_203 rfl ?_
                  refine ax_S (st := [vi (K3 (127 + i.toNat) c)]) (as := [vi (K3 (127 + i.toNat) c)]) (v := some (vi ((K3 (127 + i.toNat) c + 4096 - 1) / 8192))) (h' := sD h (rowTo K3 136 c (fun x => 4096 - (K3 (127 + i.toNat) x - (K3 (127 + i.toNat) x + 4096 - 1) / 8192 * 8192))) L9) d_KM_writeSecret_205 cs_KM_writeSecret_205 (c_KM_top (by rw [T3 i hi3.1 (by omega) c hc.1 (by omega)]; exact qT i hi3.1 (by omega) c hc.1 (by omega))) rfl rfl rfl ?_
                  show AW l G M_KM_writeSecret P 208 [(6, vi (K3 (127 + i.toNat) c)), (5, vi c), (4, vi i), (3, vr 35), (2, vr 16), (1, vr 18), (0, vr 143)] [vi ((K3 (127 + i.toNat) c + 4096 - 1) / 8192), vi (K3 (127 + i.toNat) c)] (sD h (rowTo K3 136 c (fun x => 4096 - (K3 (127 + i.toNat) x - (K3 (127 + i.toNat) x + 4096 - 1) / 8192 * 8192))) L9)
                  refine aw_bipush d_KM_writeSecret_208 ⟨by decide, by decide⟩ (by decide) ?_
                  refine aw_ishl d_KM_writeSecret_210 ?_
                  refine ax_ti (x := ((K3 (127 + i.toNat) c + 4096 - 1) / 8192) * 8192) (a_shl' 13 rfl (by decide) (by decide) (by omega) (by omega)) ?_
                  refine ax_isub d_KM_writeSecret_211 ⟨(by omega), (by omega)⟩ ?_
                  refine aw_istore (lv' := [(7, vi ((K3 (127 + i.toNat) c) - (((K3 (127 + i.toNat) c + 4096 - 1) / 8192) * 8192))), (6, vi (K3 (127 + i.toNat) c)), (5, vi c), (4, vi i), (3, vr 35), (2, vr 16), (1, vr 18), (0, vr 143)]) d_KM_writeSecret_212 (by decide) rfl ?_
                  refine aw_aload_n d_KM_writeSecret_214 rfl rfl ?_
                  refine ax_getR (b := 36) d_KM_writeSecret_215 fd_KM_20 (k_143 S) (r_143_0 S) ?_
                  refine ax_getR (b := 136) d_KM_writeSecret_218 fd_KM_140 (k_36 S) (r_36_9 S) ?_
                  refine aw_iload d_KM_writeSecret_221 rfl ?_
                  refine aw_sipush d_KM_writeSecret_223 ⟨by decide, by decide⟩ (by decide) ?_
                  refine aw_iload d_KM_writeSecret_226 rfl ?_
                  refine ax_isub d_KM_writeSecret_228 ⟨(by omega), (by omega)⟩ ?_
                  refine ax_iast d_KM_writeSecret_229 (k_136 S) (by decide) (by omega) (by rw [n_136 S]; omega) ?_
                  rw [rowTo_1 (by omega) rfl]
                  refine ax_iinc (lv' := [(5, vi (c + 1)), (7, vi ((K3 (127 + i.toNat) c) - (((K3 (127 + i.toNat) c + 4096 - 1) / 8192) * 8192))), (6, vi (K3 (127 + i.toNat) c)), (4, vi i), (3, vr 35), (2, vr 16), (1, vr 18), (0, vr 143)]) d_KM_writeSecret_230 rfl (by decide) ⟨(by omega), (by omega)⟩ rfl ?_
                  refine aw_goto (tgt := 178) d_KM_writeSecret_233 (by decide) ?_
                  refine aw_sub (lv' := [(5, vi (c + 1)), (4, vi i), (3, vr 35), (2, vr 16), (1, vr 18), (0, vr 143)]) (by simp) ?_
                  exact ih_178 _ (by omega) (c + 1) (by omega) rfl
              refine ax_hp (h' := sD h (rowTo K3 136 0 (fun x => 4096 - (K3 (127 + i.toNat) x - (K3 (127 + i.toNat) x + 4096 - 1) / 8192 * 8192))) L9) (by rw [rowTo_0]) ?_
              exact lp_178 _ 0 (by omega) rfl
          skip
          exact lp_166 _ 0 K2 (by omega) (G2) (by rw [show 1568 + 416 * 0 = 128 + 96 * (7 + i) by omega]; exact H2) (rest2) rfl
        · skip
          refine aw_aload_n d_KM_writeSecret_135 rfl rfl ?_
          refine aw_aload_n d_KM_writeSecret_136 rfl rfl ?_
          refine ax_getR (b := 36) d_KM_writeSecret_137 fd_KM_20 (k_143 S) (r_143_0 S) ?_
          refine ax_getR (b := 109) d_KM_writeSecret_140 fd_KM_102 (k_36 S) (r_36_5 S) ?_
          refine aw_iload d_KM_writeSecret_143 rfl ?_
          refine ax_aald (b := 110 + i.toNat) d_KM_writeSecret_145 ⟨by rw [(k_109 S)]; decide, by rw [(k_109 S)]; decide⟩ (by omega) (by rw [n_109 S]; omega) (g_109 S (by omega) (by omega)) ?_
          refine aw_aload_n d_KM_writeSecret_146 rfl rfl ?_
          refine ax_getIe (x := 2) d_KM_writeSecret_147 fd_KM_92 (k_35 S) (Eq.trans (G2.1 35 2 (by omega)) (pc_35_2 SD.2.1)) ?_
          refine aw_aload_n d_KM_writeSecret_150 rfl rfl ?_
          refine ax_getIe (x := 3) d_KM_writeSecret_151 fd_KM_162 (k_35 S) (Eq.trans (G2.1 35 10 (by omega)) (pc_35_10 SD.2.1)) ?_
          refine ax_S (st := []) (as := [vr 18, vr (110 + i.toNat), vi 2, vi 3]) (v := none) (h' := sD h (byPut (rowTo K2 (110 + i.toNat) 256 (fun j => (2 - K2 (110 + i.toNat) j) % 8380417)) 18 19 (32 * 3) (gB (fun j => (2 - K2 (110 + i.toNat) j) % 8380417) 3)) L9) d_KM_writeSecret_154 cs_KM_writeSecret_154 (c_KM_addMirrored (w := 3) (e := 2) (ks S (i := 2) (by decide)) ⟨kr_109 S (by omega), by omega, nr_109 S (by omega)⟩ ⟨by omega, by omega⟩ (by omega) ((un2 i hi2.1 (Int.le_refl _) (by omega)).inQ (qY _ (by omega) (by omega))) (by decide) (fun j x y => by rw [(un2 i hi2.1 (Int.le_refl _) (by omega)) j x y]; exact bY _ (by omega) (by omega) j x y) (by rw [H2.1, nks S (i := 2) (by decide)]; omega)) rfl rfl rfl ?_
          show AW l G M_KM_writeSecret P 157 [(4, vi i), (3, vr 35), (2, vr 16), (1, vr 18), (0, vr 143)] [] (sD h (byPut (rowTo K2 (110 + i.toNat) 256 (fun j => (2 - K2 (110 + i.toNat) j) % 8380417)) 18 19 (32 * 3) (gB (fun j => (2 - K2 (110 + i.toNat) j) % 8380417) 3)) L9)
          refine ax_iinc (lv' := [(4, vi (i + 1)), (3, vr 35), (2, vr 16), (1, vr 18), (0, vr 143)]) d_KM_writeSecret_157 rfl (by decide) ⟨(by omega), (by omega)⟩ rfl ?_
          refine aw_goto (tgt := 126) d_KM_writeSecret_160 (by decide) ?_
          exact ih_126 _ (by omega) (i + 1) (byPut (rowTo K2 (110 + i.toNat) 256 (fun j => (2 - K2 (110 + i.toNat) j) % 8380417)) 18 19 (32 * 3) (gB (fun j => (2 - K2 (110 + i.toNat) j) % 8380417) 3)) (by omega) ((G2.tr (FC.row (p := fun a => a = 18 ∨ a = 19 ∨ a = 38 ∨ a = 137 ∨ a = 138 ∨ 102 ≤ a ∧ a ≤ 108 ∨ 110 ≤ a ∧ a ≤ 117 ∨ a = 136) (by omega)) (fun a x => ⟨x, x⟩)).tr (FC.put (p := fun a => a = 18 ∨ a = 19 ∨ a = 38 ∨ a = 137 ∨ a = 138 ∨ 102 ≤ a ∧ a ≤ 108 ∨ 110 ≤ a ∧ a ≤ 117 ∨ a = 136) (by omega) (by omega)) (fun a x => ⟨x, x⟩)) (by rw [show 128 + 96 * (7 + (i + 1)) = 128 + 96 * (7 + i) + 32 * 3 by omega]; exact (H2.fc (L := L9) (L' := L9) (FC.row (p := fun a => a = 110 + i.toNat) rfl) (by omega) (by omega)).put (by decide) (by omega) (by decide) (fun z x y => by rw [gB_m, skB2_s (by omega) (by omega) x (by omega), gB_congr (G := fun j => (2 - Y (7 + i) j) % 8380417) (fun j u v => by rw [un2 i (by omega) (Int.le_refl _) (by omega) j u v])])) (fun m a b c j x y => by rw [byPut_ne (by omega) (by omega), rowTo_ne (by omega)]; exact un2 m a (by omega) c j x y) (fun a j x y => by rw [byPut_ne (by omega) (by omega), rowTo_ne (by omega)]; exact rest2 a j x y) rfl
      skip
      exact lp_126 _ 0 K (by omega) (F) (by rw [show 128 + 96 * (7 + 0) = 128 + 96 * (i) by omega]; exact H) (fun m a b c j x y => by rw [rest _ _ (by omega) (by omega)]; exact hE m a c j x y) (fun a j x y => rest a j (by omega) y) rfl
    · skip
      refine aw_aload_n d_KM_writeSecret_95 rfl rfl ?_
      refine aw_aload_n d_KM_writeSecret_96 rfl rfl ?_
      refine ax_getR (b := 36) d_KM_writeSecret_97 fd_KM_20 (k_143 S) (r_143_0 S) ?_
      refine ax_getR (b := 101) d_KM_writeSecret_100 fd_KM_95 (k_36 S) (r_36_4 S) ?_
      refine aw_iload d_KM_writeSecret_103 rfl ?_
      refine ax_aald (b := 102 + i.toNat) d_KM_writeSecret_105 ⟨by rw [(k_101 S)]; decide, by rw [(k_101 S)]; decide⟩ (by omega) (by rw [n_101 S]; omega) (g_101 S (by omega) (by omega)) ?_
      refine aw_aload_n d_KM_writeSecret_106 rfl rfl ?_
      refine ax_getIe (x := 2) d_KM_writeSecret_107 fd_KM_92 (k_35 S) (Eq.trans (F.1 35 2 (by omega)) (pc_35_2 SD.2.1)) ?_
      refine aw_aload_n d_KM_writeSecret_110 rfl rfl ?_
      refine ax_getIe (x := 3) d_KM_writeSecret_111 fd_KM_162 (k_35 S) (Eq.trans (F.1 35 10 (by omega)) (pc_35_10 SD.2.1)) ?_
      refine ax_S (st := []) (as := [vr 18, vr (102 + i.toNat), vi 2, vi 3]) (v := none) (h' := sD h (byPut (rowTo K (102 + i.toNat) 256 (fun j => (2 - K (102 + i.toNat) j) % 8380417)) 18 19 (32 * 3) (gB (fun j => (2 - K (102 + i.toNat) j) % 8380417) 3)) L9) d_KM_writeSecret_114 cs_KM_writeSecret_114 (c_KM_addMirrored (w := 3) (e := 2) (ks S (i := 2) (by decide)) ⟨kr_101 S (by omega), by omega, nr_101 S (by omega)⟩ ⟨by omega, by omega⟩ (by omega) ((un i hi.1 (Int.le_refl _) (by omega)).inQ (qY _ (by omega) (by omega))) (by decide) (fun j x y => by rw [(un i hi.1 (Int.le_refl _) (by omega)) j x y]; exact bY _ (by omega) (by omega) j x y) (by rw [H.1, nks S (i := 2) (by decide)]; omega)) rfl rfl rfl ?_
      show AW l G M_KM_writeSecret P 117 [(4, vi i), (3, vr 35), (2, vr 16), (1, vr 18), (0, vr 143)] [] (sD h (byPut (rowTo K (102 + i.toNat) 256 (fun j => (2 - K (102 + i.toNat) j) % 8380417)) 18 19 (32 * 3) (gB (fun j => (2 - K (102 + i.toNat) j) % 8380417) 3)) L9)
      refine ax_iinc (lv' := [(4, vi (i + 1)), (3, vr 35), (2, vr 16), (1, vr 18), (0, vr 143)]) d_KM_writeSecret_117 rfl (by decide) ⟨(by omega), (by omega)⟩ rfl ?_
      refine aw_goto (tgt := 86) d_KM_writeSecret_120 (by decide) ?_
      exact ih_86 _ (by omega) (i + 1) (byPut (rowTo K (102 + i.toNat) 256 (fun j => (2 - K (102 + i.toNat) j) % 8380417)) 18 19 (32 * 3) (gB (fun j => (2 - K (102 + i.toNat) j) % 8380417) 3)) (by omega) ((F.tr (FC.row (p := fun a => a = 18 ∨ a = 19 ∨ a = 38 ∨ a = 137 ∨ a = 138 ∨ 102 ≤ a ∧ a ≤ 108 ∨ 110 ≤ a ∧ a ≤ 117 ∨ a = 136) (by omega)) (fun a x => ⟨x, x⟩)).tr (FC.put (p := fun a => a = 18 ∨ a = 19 ∨ a = 38 ∨ a = 137 ∨ a = 138 ∨ 102 ≤ a ∧ a ≤ 108 ∨ 110 ≤ a ∧ a ≤ 117 ∨ a = 136) (by omega) (by omega)) (fun a x => ⟨x, x⟩)) (by rw [show 128 + 96 * ((i + 1)) = 128 + 96 * (i) + 32 * 3 by omega]; exact (H.fc (L := L9) (L' := L9) (FC.row (p := fun a => a = 102 + i.toNat) rfl) (by omega) (by omega)).put (by decide) (by omega) (by decide) (fun z x y => by rw [gB_m, skB2_s (by omega) (by omega) x (by omega), gB_congr (G := fun j => (2 - Y (i) j) % 8380417) (fun j u v => by rw [un i (by omega) (Int.le_refl _) (by omega) j u v])])) (fun m a b c j x y => by rw [byPut_ne (by omega) (by omega), rowTo_ne (by omega)]; exact un m a (by omega) c j x y) (fun a j x y => by rw [byPut_ne (by omega) (by omega), rowTo_ne (by omega)]; exact rest a j x y) rfl
  skip
  refine aw_sub (lv' := [(4, vi 0), (3, vr 35), (2, vr 16), (1, vr 18), (0, vr 143)]) (by simp) ?_
  exact lp_86 _ 0 (byPut I9 18 19 (I9 137 1) (byAt I9 137 138)) (by omega) (FD) (by rw [show (128 + 96 * 0 : Int) = 0 + 32 + 32 + I9 137 1 by rw [GD.1]; decide]; exact HD) (fun m a b c j x y => by rw [byPut_ne (by omega) (by omega), FB.1 _ _ (by omega)]; exact hV m a c j x y) (fun a j x y => by rw [byPut_ne (by omega) (by omega), FB.1 _ _ (by omega)]) rfl
