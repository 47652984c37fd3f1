/-! the law whole -/
theorem Pt.zero (L : Nat) (xs : Nat → Int32) : Pt (L : Int) 12 0 0 0 (h_0 L xs) := by
  have e1 : ∀ a : Nat, a < 12 → (if a < 12 then (if a = 8 then 4 else 1) else 0) = tK a := by decide +kernel
  have e2 : ∀ a : Nat, a < 11 → (a_sl a : Int) = (tN a : Nat) := by decide +kernel
  refine ⟨rfl, (by decide +kernel : 0 = tU 12), by decide, fun a ha => e1 a ha, fun a ha h11 => ?_, ?_, fun i hi => absurd hi (by omega), ⟨fun a j h1 h2 => ?_, fun j => ?_⟩, fun a j h1 h2 => by omega, fun a j h1 h2 => by omega, fun q hq hs => ?_, Or.inl rfl, fun e => absurd e (by decide)⟩
  · show (if a < 11 then (a_sl a : Int) else if a = 11 then (L : Int) else 0) = _
    rw [if_pos (by omega), e2 a (by omega)]
  · show (if 11 < 11 then (a_sl 11 : Int) else if 11 = 11 then (L : Int) else 0) = _
    rw [if_neg (by decide), if_pos rfl]
  · show (if a < 11 then (if a = 8 then 0 else a_sI a j) else if a = 11 then (xs j.toNat).toInt else 0) = _
    rw [if_pos h1, if_neg h2]
  · show (if 8 = 8 then a_sI 8 j else 0) = _
    rw [if_pos rfl]
  · have := tPl_ge q hq
    omega
theorem law_all : a_Law := by
  intro l hfl L xs hL G
  have E := Pt.zero L xs
  generalize h_0 L xs = h at E
  show AW l G M_law (fun r _ => r = .inl (some (vi 1))) 0 [(0, vr 11)] [] h
  refine pt_new (n' := 13) (ci := 0) E rfl d_La_law_0 (by decide) nw_La_8 (by decide) (by decide +kernel) (by decide +kernel) (fun h E => ?_)
  refine aw_dup d_La_law_3 rfl ?_
  refine ax_Ir (st := [vr 12]) (as := []) (b := 12) d_La_law_4 cs_La_law_4 (c_MS_init E) rfl rfl rfl (fun h E => ?_)
  show AW l G M_law (fun r _ => r = .inl (some (vi 1))) 7 [(0, vr 11)] [vr 12] h
  refine aw_astore_n (lv' := [(1, vr 12), (0, vr 11)]) d_La_law_7 rfl (by decide) rfl ?_
  refine pt_new (n' := 176) (ci := 10) E rfl d_La_law_8 (by decide) nw_La_59 (by decide) (by decide +kernel) (by decide +kernel) (fun h E => ?_)
  refine aw_dup d_La_law_11 rfl ?_
  refine ax_Ir (st := [vr 175]) (as := []) (b := 175) d_La_law_12 cs_La_law_12 (c_Mo_init E) rfl rfl rfl (fun u q => ?_)
  obtain ⟨h, I, K⟩ := u
  obtain ⟨S, rel, h11, hu⟩ := q
  dsimp only at S rel h11 hu
  show AW l G M_law (fun r _ => r = .inl (some (vi 1))) 15 [(1, vr 12), (0, vr 11)] [vr 175] (sD h I K)
  refine aw_astore_n (lv' := [(2, vr 175), (1, vr 12), (0, vr 11)]) d_La_law_15 rfl (by decide) rfl ?_
  refine aw_iconst d_La_law_16 ⟨by decide, by decide⟩ ?_
  have x := S.2.2.2
  have u1 : hU h + 1 = 216757 := by
    have z := tU_269
    rw [tU_s (by decide), show tN 268 = 1 by decide +kernel] at z
    omega
  refine aw_newa (q := 4) d_La_law_17 (by decide) rfl ac_4 (by decide) (by decide) (by show hX h + 1 ≤ a_NX; unfold a_NX; omega) (by show hU h + 1 ≤ a_US; unfold a_US; omega) ?_
  show AW l G M_law (fun r _ => r = .inl (some (vi 1))) 19 [(2, vr 175), (1, vr 12), (0, vr 11)] [vr (hX h)] (sD (wN h 4 1) (fun k j => if k = hX h then 0 else I k j) (fun k j => if k = hX h then 0 else K k j))
  rw [x]
  refine aw_astore_n (lv' := [(3, vr 268), (2, vr 175), (1, vr 12), (0, vr 11)]) d_La_law_19 rfl (by decide) rfl ?_
  refine aw_iconst d_La_law_20 ⟨by decide, by decide⟩ ?_
  refine aw_istore (lv' := [(4, vi 0), (3, vr 268), (2, vr 175), (1, vr 12), (0, vr 11)]) d_La_law_21 (by decide) rfl ?_
  refine law_loop hfl (fun _ => rfl) _ (wN h 4 1) _ _ 0 (L : Int) S.out (rel.scr (fun a j c => if_neg (by omega)) (if_neg (by decide)) (fun j => if_neg (by decide)) (fun j => if_neg (by decide))) ?_ (by omega) ?_ ?_ rfl
  · show (if 11 = hX h then ((1 : Nat) : Int) else hN h 11) = _
    rw [if_neg (by omega)]
    exact h11
  · show hX h + 1 ≤ 269 + _
    omega
  · show hU h + 1 ≤ 216757 + _
    omega
theorem i_vc : Claimed_1_1 ∧ Claimed_1_2 := a_claim law_all
