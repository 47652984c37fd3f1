/-! the law's loop -/
set_option maxHeartbeats 2000000 in
set_option maxRecDepth 100000 in
theorem law_loop {l : Launch} {G : a_G} {P : a_R → Hp → Prop} (hfl : l.flags = flags0) (hP : ∀ h2, P (.inl (some (vi 1))) h2) : ∀ (n_ : Nat) (h : Hp) (I L : Nat → Int → Int) (i N : Int), Shp h → Rel I L → hN h 11 = N → (0 ≤ i ∧ i ≤ N + 6 ∧ N ≤ 3072 ∧ 0 ≤ N) → hX h ≤ 269 + i.toNat → hU h ≤ 216757 + i.toNat → (N + 6 - i).toNat = n_ → AW l G M_law P 23 [(4, vi i), (3, vr 268), (2, vr 175), (1, vr 12), (0, vr 11)] [] (sD h I L) := by
  intro n_
  induction n_ using Nat.strongRecOn with
  | _ n_ ih =>
    intro h I L i N S rel hl hi hx hu hm
    refine aw_iload d_La_law_23 rfl ?_
    refine aw_aload_n d_La_law_25 rfl rfl ?_
    refine ax_alen (n := N) d_La_law_26 ⟨by rw [(k_11 S)]; decide, by rw [(k_11 S)]; decide⟩ (hl) ?_
    refine aw_bipush d_La_law_27 ⟨by decide, by decide⟩ (by decide) ?_
    refine ax_isub d_La_law_29 ⟨(by omega), (by omega)⟩ ?_
    refine aw_icmp_gt (tgt := 891) d_La_law_30 (by decide) (fun c_30 => ?_) (fun c_30 => ?_)
    · skip
      refine aw_iconst d_La_law_891 ⟨by decide, by decide⟩ ?_
      exact aw_zret d_La_law_892 rfl ⟨by decide, by decide⟩ (hP _)
    · skip
      refine aw_aload_n d_La_law_33 rfl rfl ?_
      refine aw_iload d_La_law_34 rfl ?_
      refine ax_ialde (x := I 11 i) d_La_law_36 (k_11 S) (by omega) (by rw [hl]; omega) (rfl) ?_
      refine aw_bipush d_La_law_37 ⟨by decide, by decide⟩ (by decide) ?_
      refine aw_iand d_La_law_39 ?_
      refine ax_ti (x := (I 11 i) % 16) (a_and' 4 (by decide) (by decide) (by decide)) ?_
      have go : ∀ (h' : Hp) (I' L' : Nat → Int → Int), Shp h' → Rel I' L' → (∀ j, I' 11 j = I 11 j) → hN h' 11 = N → hX h' ≤ hX h + 1 → hU h' ≤ hU h + 6 → AW l G M_law P 885 [(4, vi i), (3, vr 268), (2, vr 175), (1, vr 12), (0, vr 11)] [] (sD h' I' L') := by
        intro h' I' L' S' rel' e11 hl' hx' hu'
        refine ax_iinc (lv' := [(4, vi (i + 6)), (3, vr 268), (2, vr 175), (1, vr 12), (0, vr 11)]) d_La_law_885 rfl (by decide) ⟨by omega, by omega⟩ rfl ?_
        refine aw_goto (tgt := 23) d_La_law_888 (by decide) ?_
        exact ih _ (by omega) h' I' L' (i + 6) N S' rel' hl' (by omega) (by omega) (by omega) rfl
      have rm : hX h + 1 ≤ a_NX ∧ hU h + 6 ≤ a_US := by unfold a_NX a_US; omega
      have hi2 : 0 ≤ i ∧ i + 6 ≤ N ∧ N ≤ 3072 := by omega
      by_cases big : 10 < (I 11 i) % 16
      · refine aw_tableOut (tgt := 885) d_La_law_40 (Or.inr big) (by decide) ?_
        exact go h I L S rel (fun _ => rfl) hl (by omega) (by omega)
      · rcases (by omega : (I 11 i) % 16 = 0 ∨ (I 11 i) % 16 = 1 ∨ (I 11 i) % 16 = 2 ∨ (I 11 i) % 16 = 3 ∨ (I 11 i) % 16 = 4 ∨ (I 11 i) % 16 = 5 ∨ (I 11 i) % 16 = 6 ∨ (I 11 i) % 16 = 7 ∨ (I 11 i) % 16 = 8 ∨ (I 11 i) % 16 = 9 ∨ (I 11 i) % 16 = 10) with e | e | e | e | e | e | e | e | e | e | e
        · refine ax_ti (x := 0) e ?_
          refine aw_tableIn (off := 60) (tgt := 100) d_La_law_40 (by decide) (by decide) rfl (by decide) ?_
          exact law_feed S hfl rel rm hl hi2 go
        · refine ax_ti (x := 1) e ?_
          refine aw_tableIn (off := 164) (tgt := 204) d_La_law_40 (by decide) (by decide) rfl (by decide) ?_
          exact law_end S hfl rel rm hl hi2 go
        · refine ax_ti (x := 2) e ?_
          refine aw_tableIn (off := 232) (tgt := 272) d_La_law_40 (by decide) (by decide) rfl (by decide) ?_
          exact law_copy S hfl rel rm hl hi2 go
        · refine ax_ti (x := 3) e ?_
          refine aw_tableIn (off := 300) (tgt := 340) d_La_law_40 (by decide) (by decide) rfl (by decide) ?_
          exact law_resize S hfl rel rm hl hi2 go
        · refine ax_ti (x := 4) e ?_
          refine aw_tableIn (off := 368) (tgt := 408) d_La_law_40 (by decide) (by decide) rfl (by decide) ?_
          exact law_alter S hfl rel rm hl hi2 go
        · refine ax_ti (x := 5) e ?_
          refine aw_tableIn (off := 448) (tgt := 488) d_La_law_40 (by decide) (by decide) rfl (by decide) ?_
          exact law_length S hfl rel rm hl hi2 go
        · refine ax_ti (x := 6) e ?_
          refine aw_tableIn (off := 504) (tgt := 544) d_La_law_40 (by decide) (by decide) rfl (by decide) ?_
          exact law_word S hfl rel rm hl hi2 go
        · refine ax_ti (x := 7) e ?_
          refine aw_tableIn (off := 571) (tgt := 611) d_La_law_40 (by decide) (by decide) rfl (by decide) ?_
          exact law_same S hfl rel rm hl hi2 go
        · refine ax_ti (x := 8) e ?_
          refine aw_tableIn (off := 646) (tgt := 686) d_La_law_40 (by decide) (by decide) rfl (by decide) ?_
          exact law_dsaKeys S hfl rel rm hl hi2 go
        · refine ax_ti (x := 9) e ?_
          refine aw_tableIn (off := 702) (tgt := 742) d_La_law_40 (by decide) (by decide) rfl (by decide) ?_
          exact law_dsaSign S hfl rel rm hl hi2 go
        · refine ax_ti (x := 10) e ?_
          refine aw_tableIn (off := 770) (tgt := 810) d_La_law_40 (by decide) (by decide) rfl (by decide) ?_
          exact law_dsaVerify S hfl rel rm hl hi2 go
