/-! dsaSign, dsaVerify -/
section RW
variable {l : Launch} {G : a_G} {M M' : a_M} {P P' : a_R → Hp → Prop} {pc : Nat} {lv lv' : List (Nat × AV)} {st : List AV} {h : Hp} {I L : Nat → Int → Int}
theorem ax_VtD {ok : Prop} {Q : Int → (Nat → Int → Int) → (Nat → Int → Int) → Prop} {i ci n w k b : Nat} {as : List AV} (hd : decode (a_cc M) pc = .ok (.invokevirtual i, 3)) (c : a_CV M M' i ci n w k) (hkb : hK h b = 20 + ci) (k' : AW l G M' (DvR h I L ok Q) 0 (a_ar 0 (vr b :: as)) [] (sD h I L)) (e1 : a_aw (vr b :: as) = n) (e2 : a_aw st = w) (e3 : as.length = k) (kr : ok → ∀ v I' L', Q v I' L' → AW l G M P (pc + 3) lv (vi v :: st) (sD h I' L')) (kt : ¬ ok → ∀ I' L', frC I L I' L' → AT l G M P pc lv (hX h) (wN (sD h I' L') 44 6)) : AW l G M P pc lv (as.reverse ++ (vr b :: st)) (sD h I L) := by
  refine ax_Vt hd c hkb k' e1 e2 e3 (fun v h' q => ?_) (fun x h' q => ?_)
  · rcases q with ⟨q1, v, I', L', q2, q3, q4⟩ | ⟨q1, I', L', q2, q3, q4⟩
    · cases q3; subst q4; exact kr q1 v I' L' q2
    · cases q3
  · rcases q with ⟨q1, v, I', L', q2, q3, q4⟩ | ⟨q1, I', L', q2, q3, q4⟩
    · cases q3
    · cases q3; subst q4; exact kt q1 I' L' q2
end RW
/-- four checks one after the other -/
noncomputable def c4 (a b c d : Prop) : Int := @ite Int a (Classical.propDecidable _) (@ite Int b (Classical.propDecidable _) (@ite Int c (Classical.propDecidable _) (@ite Int d (Classical.propDecidable _) 0 4) 3) 2) 1
def ce4 (c : Int) : Nat := if c = 1 then 0 else if c = 2 then 2 else if c = 3 then 3 else 4
theorem c4_1 {a b c d : Prop} (h : ¬ a) : c4 a b c d = 1 := if_neg h
theorem c4_2 {a b c d : Prop} (ha : a) (h : ¬ b) : c4 a b c d = 2 := (if_pos ha).trans (if_neg h)
theorem c4_3 {a b c d : Prop} (ha : a) (hb : b) (h : ¬ c) : c4 a b c d = 3 := (if_pos ha).trans ((if_pos hb).trans (if_neg h))
theorem c4_4 {a b c d : Prop} (ha : a) (hb : b) (hc : c) (h : ¬ d) : c4 a b c d = 4 := (if_pos ha).trans ((if_pos hb).trans ((if_pos hc).trans (if_neg h)))
theorem c4_0 {a b c d : Prop} (ha : a) (hb : b) (hc : c) (hd : d) : c4 a b c d = 0 := (if_pos ha).trans ((if_pos hb).trans ((if_pos hc).trans (if_pos hd)))
theorem c4_or (a b c d : Prop) : c4 a b c d = 0 ∨ c4 a b c d = 1 ∨ c4 a b c d = 2 ∨ c4 a b c d = 3 ∨ c4 a b c d = 4 := by
  by_cases ha : a
  · by_cases hb : b
    · by_cases hc : c
      · by_cases hd : d
        · exact Or.inl (c4_0 ha hb hc hd)
        · exact Or.inr (Or.inr (Or.inr (Or.inr (c4_4 ha hb hc hd))))
      · exact Or.inr (Or.inr (Or.inr (Or.inl (c4_3 ha hb hc))))
    · exact Or.inr (Or.inr (Or.inl (c4_2 ha hb)))
  · exact Or.inr (Or.inl (c4_1 ha))
set_option maxHeartbeats 800000 in
set_option maxRecDepth 100000 in
theorem c_MS_needHow {l : Launch} {G : a_G} {h : Hp} {how : Int} (hfl : l.flags = flags0) (rm : hX h + 1 ≤ a_NX ∧ hU h + 6 ≤ a_US) : AW l G M_MS_needHow (NeedR (how = 0 ∨ how = -1) 0 h) 0 (a_ar 0 [vi how]) [] (h) := by
  suffices key : ∀ P : a_R → Hp → Prop, (∀ r h2, NeedR (how = 0 ∨ how = -1) 0 h r h2 → P r h2) → AW l G M_MS_needHow P 0 [(0, vi how)] [] (h) from key _ (fun _ _ q => q)
  intro P hP
  refine aw_iload_n d_MS_needHow_0 rfl rfl ?_
  refine aw_if_eq (tgt := 19) d_MS_needHow_1 (by decide) (fun c_1 => ?_) (fun c_1 => ?_)
  · skip
    exact aw_vret d_MS_needHow_19 rfl (hP _ _ (Or.inl ⟨by omega, rfl, rfl⟩))
  · skip
    refine aw_iload_n d_MS_needHow_4 rfl rfl ?_
    refine aw_iconst d_MS_needHow_5 ⟨by decide, by decide⟩ ?_
    refine aw_icmp_eq (tgt := 19) d_MS_needHow_6 (by decide) (fun c_6 => ?_) (fun c_6 => ?_)
    · skip
      exact aw_vret d_MS_needHow_19 rfl (hP _ _ (Or.inl ⟨by omega, rfl, rfl⟩))
    · skip
      exact ax_throw hfl th_MS_needHow_9 rm.1 rm.2 (hP _ _ (Or.inr ⟨by omega, rfl, rfl⟩))
set_option maxHeartbeats 800000 in
set_option maxRecDepth 100000 in
theorem c_MS_needContext {l : Launch} {G : a_G} {h : Hp} {I L : Nat → Int → Int} {how : Int} (S : Shp h) (hfl : l.flags = flags0) (rm : hX h + 1 ≤ a_NX ∧ hU h + 6 ≤ a_US) : AW l G M_MS_needContext (NeedR (how ≠ 0 ∨ I 22 1 ≤ 255) 2 (sD h I L)) 0 (a_ar 0 [vr 12, vi how]) [] (sD h I L) := by
  suffices key : ∀ P : a_R → Hp → Prop, (∀ r h2, NeedR (how ≠ 0 ∨ I 22 1 ≤ 255) 2 (sD h I L) r h2 → P r h2) → AW l G M_MS_needContext P 0 [(0, vr 12), (1, vi how)] [] (sD h I L) from key _ (fun _ _ q => q)
  intro P hP
  refine aw_iload_n d_MS_needContext_0 rfl rfl ?_
  refine aw_if_ne (tgt := 29) d_MS_needContext_1 (by decide) (fun c_1 => ?_) (fun c_1 => ?_)
  · skip
    exact aw_vret d_MS_needContext_29 rfl (hP _ _ (Or.inl ⟨by omega, rfl, rfl⟩))
  · skip
    refine aw_aload_n d_MS_needContext_4 rfl rfl ?_
    refine ax_getR (b := 13) d_MS_needContext_5 fd_MS_11 (k_12 S) (r_12_0 S) ?_
    refine aw_iconst d_MS_needContext_8 ⟨by decide, by decide⟩ ?_
    refine ax_aald (b := 22) d_MS_needContext_9 ⟨by rw [(k_13 S)]; decide, by rw [(k_13 S)]; decide⟩ (by omega) (by rw [n_13 S]; omega) (r_13_4 S) ?_
    refine ax_getIe (x := I 22 1) d_MS_needContext_10 fd_MS_55 (k_22 S) (rfl) ?_
    refine aw_sipush d_MS_needContext_13 ⟨by decide, by decide⟩ (by decide) ?_
    refine aw_icmp_le (tgt := 29) d_MS_needContext_16 (by decide) (fun c_16 => ?_) (fun c_16 => ?_)
    · skip
      exact aw_vret d_MS_needContext_29 rfl (hP _ _ (Or.inl ⟨by omega, rfl, rfl⟩))
    · skip
      exact ax_throw hfl th_MS_needContext_19 rm.1 rm.2 (hP _ _ (Or.inr ⟨by omega, rfl, rfl⟩))
set_option maxHeartbeats 800000 in
set_option maxRecDepth 100000 in
theorem c_MS_dsaSign00 {l : Launch} {G : a_G} {h : Hp} {I L : Nat → Int → Int} (S : Shp h) (hfl : l.flags = flags0) (rm : hX h + 1 ≤ a_NX ∧ hU h + 6 ≤ a_US) (SD : Std I L) (cb : CB I) : AW l G M_MS_dsaSign (DsR h I L ce4 (c4 ((0 ≤ (0 : Int) ∧ (0 : Int) < 3) ∧ ((0 : Int) = 0 ∨ (0 : Int) = -1)) (((0 : Int) ≠ 0 ∨ I 22 1 ≤ 255) ∧ (I 14 1 = 32 ∨ I 14 1 = 0)) (I 18 1 = sSec (0 : Int)) (sgOk (0 : Int) (byAt I 18 19) ∧ sgRun (0 : Int) (byAt I 18 19) (rhC I ((0 : Int))) (muC I (fun k => byAt I 18 19 (64 + k)) ((0 : Int))) 814 0 ≠ none)) (fun v I' L' => FC (fun a => a = 24 ∨ a = 25 ∨ 36 ≤ a ∧ a ≤ 174 ∧ a ≠ 43) I L I' L' ∧ ∃ t, sgRun (0 : Int) (byAt I 18 19) (rhC I ((0 : Int))) (muC I (fun k => byAt I 18 19 (64 + k)) ((0 : Int))) 814 0 = some t ∧ v = t + 1 ∧ HB I' 24 25 (sPkt (0 : Int)) (sgPk (0 : Int) (byAt I 18 19) (rhC I ((0 : Int))) (muC I (fun k => byAt I 18 19 (64 + k)) ((0 : Int))) t))) 0 (a_ar 0 [vr 12, vi 0, vi 0]) [] (sD h I L) := by
  suffices key : ∀ P : a_R → Hp → Prop, (∀ r_ h2_, DsR h I L ce4 (c4 ((0 ≤ (0 : Int) ∧ (0 : Int) < 3) ∧ ((0 : Int) = 0 ∨ (0 : Int) = -1)) (((0 : Int) ≠ 0 ∨ I 22 1 ≤ 255) ∧ (I 14 1 = 32 ∨ I 14 1 = 0)) (I 18 1 = sSec (0 : Int)) (sgOk (0 : Int) (byAt I 18 19) ∧ sgRun (0 : Int) (byAt I 18 19) (rhC I ((0 : Int))) (muC I (fun k => byAt I 18 19 (64 + k)) ((0 : Int))) 814 0 ≠ none)) (fun v I' L' => FC (fun a => a = 24 ∨ a = 25 ∨ 36 ≤ a ∧ a ≤ 174 ∧ a ≠ 43) I L I' L' ∧ ∃ t, sgRun (0 : Int) (byAt I 18 19) (rhC I ((0 : Int))) (muC I (fun k => byAt I 18 19 (64 + k)) ((0 : Int))) 814 0 = some t ∧ v = t + 1 ∧ HB I' 24 25 (sPkt (0 : Int)) (sgPk (0 : Int) (byAt I 18 19) (rhC I ((0 : Int))) (muC I (fun k => byAt I 18 19 (64 + k)) ((0 : Int))) t)) r_ h2_ → P r_ h2_) → AW l G M_MS_dsaSign P 0 [(0, vr 12), (1, vi 0), (2, vi 0)] [] (sD h I L) from key _ (fun _ _ q => q)
  intro P hP
  refine aw_iload_n d_MS_dsaSign_0 rfl rfl ?_
  refine ax_Stn (st := []) (as := [vi 0]) d_MS_dsaSign_1 cs_MS_dsaSign_1 (c_MS_needSet hfl rm) rfl rfl rfl (fun ok_1 => ?_) (fun no_1 => at_leave rfl (hP _ _ (absurd (by decide) no_1)))
  show AW l G M_MS_dsaSign P 4 [(0, vr 12), (1, vi 0), (2, vi 0)] [] (sD h I L)
  refine aw_iload_n d_MS_dsaSign_4 rfl rfl ?_
  refine ax_Stn (st := []) (as := [vi 0]) d_MS_dsaSign_5 cs_MS_dsaSign_5 (c_MS_needHow hfl rm) rfl rfl rfl (fun ok_5 => ?_) (fun no_5 => at_leave rfl (hP _ _ (absurd (by decide) no_5)))
  show AW l G M_MS_dsaSign P 8 [(0, vr 12), (1, vi 0), (2, vi 0)] [] (sD h I L)
  refine aw_aload_n d_MS_dsaSign_8 rfl rfl ?_
  refine aw_iload_n d_MS_dsaSign_9 rfl rfl ?_
  refine ax_Vtn (st := []) (as := [vi 0]) (b := 12) d_MS_dsaSign_10 cs_MS_dsaSign_10 (k_12 S) (c_MS_needContext S hfl rm) rfl rfl rfl (fun ok_10 => ?_) (fun no_10 => at_leave rfl (hP _ _ (dsNo 2 2 (c4_2 ⟨by decide, by decide⟩ (fun z => no_10 z.1)) (by decide) rfl frC.rfl')))
  show AW l G M_MS_dsaSign P 13 [(0, vr 12), (1, vi 0), (2, vi 0)] [] (sD h I L)
  refine aw_aload_n d_MS_dsaSign_13 rfl rfl ?_
  refine ax_getR (b := 13) d_MS_dsaSign_14 fd_MS_11 (k_12 S) (r_12_0 S) ?_
  refine aw_iconst d_MS_dsaSign_17 ⟨by decide, by decide⟩ ?_
  refine ax_aald (b := 14) d_MS_dsaSign_18 ⟨by rw [(k_13 S)]; decide, by rw [(k_13 S)]; decide⟩ (by omega) (by rw [n_13 S]; omega) (r_13_0 S) ?_
  refine ax_getIe (x := I 14 1) d_MS_dsaSign_19 fd_MS_55 (k_14 S) (rfl) ?_
  refine aw_bipush d_MS_dsaSign_22 ⟨by decide, by decide⟩ (by decide) ?_
  refine aw_icmp_eq (tgt := 49) d_MS_dsaSign_24 (by decide) (fun c_24 => ?_) (fun c_24 => ?_)
  · skip
    refine aw_aload_n d_MS_dsaSign_49 rfl rfl ?_
    refine ax_getR (b := 13) d_MS_dsaSign_50 fd_MS_11 (k_12 S) (r_12_0 S) ?_
    refine aw_iconst d_MS_dsaSign_53 ⟨by decide, by decide⟩ ?_
    refine ax_aald (b := 18) d_MS_dsaSign_54 ⟨by rw [(k_13 S)]; decide, by rw [(k_13 S)]; decide⟩ (by omega) (by rw [n_13 S]; omega) (r_13_2 S) ?_
    refine ax_getIe (x := I 18 1) d_MS_dsaSign_55 fd_MS_55 (k_18 S) (rfl) ?_
    refine aw_aload_n d_MS_dsaSign_58 rfl rfl ?_
    refine ax_getR (b := 32) d_MS_dsaSign_59 fd_MS_24 (k_12 S) (r_12_2 S) ?_
    refine aw_iload_n d_MS_dsaSign_62 rfl rfl ?_
    refine ax_aald (b := 33) d_MS_dsaSign_63 ⟨by rw [(k_32 S)]; decide, by rw [(k_32 S)]; decide⟩ (by omega) (by rw [n_32 S]; omega) (r_32_0 S) ?_
    refine ax_getIe (x := 2560) d_MS_dsaSign_64 fd_MS_128 (k_33 S) (pc_33_14 SD.2.1) ?_
    refine aw_icmp_eq (tgt := 80) d_MS_dsaSign_67 (by decide) (fun c_67 => ?_) (fun c_67 => ?_)
    · skip
      have sec_ : I 18 1 = sSec 0 := by show I 18 1 = 2560; omega
      refine aw_aload_n d_MS_dsaSign_80 rfl rfl ?_
      refine ax_getR (b := 146) d_MS_dsaSign_81 fd_MS_44 (k_12 S) (r_12_4 S) ?_
      refine aw_aload_n d_MS_dsaSign_84 rfl rfl ?_
      refine ax_getR (b := 13) d_MS_dsaSign_85 fd_MS_11 (k_12 S) (r_12_0 S) ?_
      refine aw_aload_n d_MS_dsaSign_88 rfl rfl ?_
      refine ax_getR (b := 32) d_MS_dsaSign_89 fd_MS_24 (k_12 S) (r_12_2 S) ?_
      refine aw_iload_n d_MS_dsaSign_92 rfl rfl ?_
      refine ax_aald (b := 33) d_MS_dsaSign_93 ⟨by rw [(k_32 S)]; decide, by rw [(k_32 S)]; decide⟩ (by omega) (by rw [n_32 S]; omega) (r_32_0 S) ?_
      refine aw_iload_n d_MS_dsaSign_94 rfl rfl ?_
      refine ax_VtD (st := []) (as := [vr 13, vr 33, vi 0]) (b := 146) d_MS_dsaSign_95 cs_MS_dsaSign_95 (k_146 S) (c_Si_sign00 S hfl rm SD cb) rfl rfl rfl (fun ok_ v_ I2 L2 q_ => ?_) (fun no_ I2 L2 q_ => at_leave rfl (hP _ _ (dsNo 4 4 (c4_4 ⟨by decide, by decide⟩ ⟨ok_10, by omega⟩ sec_ no_) (by decide) rfl q_)))
      show AW l G M_MS_dsaSign P 98 [(0, vr 12), (1, vi 0), (2, vi 0)] [vi v_] (sD h I2 L2)
      exact aw_iret d_MS_dsaSign_98 rfl (hP _ _ (Or.inl ⟨c4_0 ⟨by decide, by decide⟩ ⟨ok_10, by omega⟩ sec_ ok_, v_, I2, L2, q_, rfl, rfl⟩))
    · skip
      exact ax_throw hfl th_MS_dsaSign_70 rm.1 rm.2 (hP _ _ (dsNo 3 3 (c4_3 ⟨by decide, by decide⟩ ⟨ok_10, by omega⟩ (fun z => by have z1 : I 18 1 = 2560 := z; omega)) (by decide) rfl frC.rfl'))
  · skip
    refine aw_aload_n d_MS_dsaSign_27 rfl rfl ?_
    refine ax_getR (b := 13) d_MS_dsaSign_28 fd_MS_11 (k_12 S) (r_12_0 S) ?_
    refine aw_iconst d_MS_dsaSign_31 ⟨by decide, by decide⟩ ?_
    refine ax_aald (b := 14) d_MS_dsaSign_32 ⟨by rw [(k_13 S)]; decide, by rw [(k_13 S)]; decide⟩ (by omega) (by rw [n_13 S]; omega) (r_13_0 S) ?_
    refine ax_getIe (x := I 14 1) d_MS_dsaSign_33 fd_MS_55 (k_14 S) (rfl) ?_
    refine aw_if_eq (tgt := 49) d_MS_dsaSign_36 (by decide) (fun c_36 => ?_) (fun c_36 => ?_)
    · skip
      refine aw_aload_n d_MS_dsaSign_49 rfl rfl ?_
      refine ax_getR (b := 13) d_MS_dsaSign_50 fd_MS_11 (k_12 S) (r_12_0 S) ?_
      refine aw_iconst d_MS_dsaSign_53 ⟨by decide, by decide⟩ ?_
      refine ax_aald (b := 18) d_MS_dsaSign_54 ⟨by rw [(k_13 S)]; decide, by rw [(k_13 S)]; decide⟩ (by omega) (by rw [n_13 S]; omega) (r_13_2 S) ?_
      refine ax_getIe (x := I 18 1) d_MS_dsaSign_55 fd_MS_55 (k_18 S) (rfl) ?_
      refine aw_aload_n d_MS_dsaSign_58 rfl rfl ?_
      refine ax_getR (b := 32) d_MS_dsaSign_59 fd_MS_24 (k_12 S) (r_12_2 S) ?_
      refine aw_iload_n d_MS_dsaSign_62 rfl rfl ?_
      refine ax_aald (b := 33) d_MS_dsaSign_63 ⟨by rw [(k_32 S)]; decide, by rw [(k_32 S)]; decide⟩ (by omega) (by rw [n_32 S]; omega) (r_32_0 S) ?_
      refine ax_getIe (x := 2560) d_MS_dsaSign_64 fd_MS_128 (k_33 S) (pc_33_14 SD.2.1) ?_
      refine aw_icmp_eq (tgt := 80) d_MS_dsaSign_67 (by decide) (fun c_67 => ?_) (fun c_67 => ?_)
      · skip
        have sec_ : I 18 1 = sSec 0 := by show I 18 1 = 2560; omega
        refine aw_aload_n d_MS_dsaSign_80 rfl rfl ?_
        refine ax_getR (b := 146) d_MS_dsaSign_81 fd_MS_44 (k_12 S) (r_12_4 S) ?_
        refine aw_aload_n d_MS_dsaSign_84 rfl rfl ?_
        refine ax_getR (b := 13) d_MS_dsaSign_85 fd_MS_11 (k_12 S) (r_12_0 S) ?_
        refine aw_aload_n d_MS_dsaSign_88 rfl rfl ?_
        refine ax_getR (b := 32) d_MS_dsaSign_89 fd_MS_24 (k_12 S) (r_12_2 S) ?_
        refine aw_iload_n d_MS_dsaSign_92 rfl rfl ?_
        refine ax_aald (b := 33) d_MS_dsaSign_93 ⟨by rw [(k_32 S)]; decide, by rw [(k_32 S)]; decide⟩ (by omega) (by rw [n_32 S]; omega) (r_32_0 S) ?_
        refine aw_iload_n d_MS_dsaSign_94 rfl rfl ?_
        refine ax_VtD (st := []) (as := [vr 13, vr 33, vi 0]) (b := 146) d_MS_dsaSign_95 cs_MS_dsaSign_95 (k_146 S) (c_Si_sign00 S hfl rm SD cb) rfl rfl rfl (fun ok_ v_ I2 L2 q_ => ?_) (fun no_ I2 L2 q_ => at_leave rfl (hP _ _ (dsNo 4 4 (c4_4 ⟨by decide, by decide⟩ ⟨ok_10, by omega⟩ sec_ no_) (by decide) rfl q_)))
        show AW l G M_MS_dsaSign P 98 [(0, vr 12), (1, vi 0), (2, vi 0)] [vi v_] (sD h I2 L2)
        exact aw_iret d_MS_dsaSign_98 rfl (hP _ _ (Or.inl ⟨c4_0 ⟨by decide, by decide⟩ ⟨ok_10, by omega⟩ sec_ ok_, v_, I2, L2, q_, rfl, rfl⟩))
      · skip
        exact ax_throw hfl th_MS_dsaSign_70 rm.1 rm.2 (hP _ _ (dsNo 3 3 (c4_3 ⟨by decide, by decide⟩ ⟨ok_10, by omega⟩ (fun z => by have z1 : I 18 1 = 2560 := z; omega)) (by decide) rfl frC.rfl'))
    · skip
      exact ax_throw hfl th_MS_dsaSign_39 rm.1 rm.2 (hP _ _ (dsNo 2 2 (c4_2 ⟨by decide, by decide⟩ (fun z => by omega)) (by decide) rfl frC.rfl'))
set_option maxHeartbeats 800000 in
set_option maxRecDepth 100000 in
theorem c_MS_dsaSign0N {l : Launch} {G : a_G} {h : Hp} {I L : Nat → Int → Int} (S : Shp h) (hfl : l.flags = flags0) (rm : hX h + 1 ≤ a_NX ∧ hU h + 6 ≤ a_US) (SD : Std I L) (cb : CB I) : AW l G M_MS_dsaSign (DsR h I L ce4 (c4 ((0 ≤ (0 : Int) ∧ (0 : Int) < 3) ∧ ((-1 : Int) = 0 ∨ (-1 : Int) = -1)) (((-1 : Int) ≠ 0 ∨ I 22 1 ≤ 255) ∧ (I 14 1 = 32 ∨ I 14 1 = 0)) (I 18 1 = sSec (0 : Int)) (sgOk (0 : Int) (byAt I 18 19) ∧ sgRun (0 : Int) (byAt I 18 19) (rhC I ((-1 : Int))) (muC I (fun k => byAt I 18 19 (64 + k)) ((-1 : Int))) 814 0 ≠ none)) (fun v I' L' => FC (fun a => a = 24 ∨ a = 25 ∨ 36 ≤ a ∧ a ≤ 174 ∧ a ≠ 43) I L I' L' ∧ ∃ t, sgRun (0 : Int) (byAt I 18 19) (rhC I ((-1 : Int))) (muC I (fun k => byAt I 18 19 (64 + k)) ((-1 : Int))) 814 0 = some t ∧ v = t + 1 ∧ HB I' 24 25 (sPkt (0 : Int)) (sgPk (0 : Int) (byAt I 18 19) (rhC I ((-1 : Int))) (muC I (fun k => byAt I 18 19 (64 + k)) ((-1 : Int))) t))) 0 (a_ar 0 [vr 12, vi 0, vi (-1)]) [] (sD h I L) := by
  suffices key : ∀ P : a_R → Hp → Prop, (∀ r_ h2_, DsR h I L ce4 (c4 ((0 ≤ (0 : Int) ∧ (0 : Int) < 3) ∧ ((-1 : Int) = 0 ∨ (-1 : Int) = -1)) (((-1 : Int) ≠ 0 ∨ I 22 1 ≤ 255) ∧ (I 14 1 = 32 ∨ I 14 1 = 0)) (I 18 1 = sSec (0 : Int)) (sgOk (0 : Int) (byAt I 18 19) ∧ sgRun (0 : Int) (byAt I 18 19) (rhC I ((-1 : Int))) (muC I (fun k => byAt I 18 19 (64 + k)) ((-1 : Int))) 814 0 ≠ none)) (fun v I' L' => FC (fun a => a = 24 ∨ a = 25 ∨ 36 ≤ a ∧ a ≤ 174 ∧ a ≠ 43) I L I' L' ∧ ∃ t, sgRun (0 : Int) (byAt I 18 19) (rhC I ((-1 : Int))) (muC I (fun k => byAt I 18 19 (64 + k)) ((-1 : Int))) 814 0 = some t ∧ v = t + 1 ∧ HB I' 24 25 (sPkt (0 : Int)) (sgPk (0 : Int) (byAt I 18 19) (rhC I ((-1 : Int))) (muC I (fun k => byAt I 18 19 (64 + k)) ((-1 : Int))) t)) r_ h2_ → P r_ h2_) → AW l G M_MS_dsaSign P 0 [(0, vr 12), (1, vi 0), (2, vi (-1))] [] (sD h I L) from key _ (fun _ _ q => q)
  intro P hP
  refine aw_iload_n d_MS_dsaSign_0 rfl rfl ?_
  refine ax_Stn (st := []) (as := [vi 0]) d_MS_dsaSign_1 cs_MS_dsaSign_1 (c_MS_needSet hfl rm) rfl rfl rfl (fun ok_1 => ?_) (fun no_1 => at_leave rfl (hP _ _ (absurd (by decide) no_1)))
  show AW l G M_MS_dsaSign P 4 [(0, vr 12), (1, vi 0), (2, vi (-1))] [] (sD h I L)
  refine aw_iload_n d_MS_dsaSign_4 rfl rfl ?_
  refine ax_Stn (st := []) (as := [vi (-1)]) d_MS_dsaSign_5 cs_MS_dsaSign_5 (c_MS_needHow hfl rm) rfl rfl rfl (fun ok_5 => ?_) (fun no_5 => at_leave rfl (hP _ _ (absurd (by decide) no_5)))
  show AW l G M_MS_dsaSign P 8 [(0, vr 12), (1, vi 0), (2, vi (-1))] [] (sD h I L)
  refine aw_aload_n d_MS_dsaSign_8 rfl rfl ?_
  refine aw_iload_n d_MS_dsaSign_9 rfl rfl ?_
  refine ax_Vtn (st := []) (as := [vi (-1)]) (b := 12) d_MS_dsaSign_10 cs_MS_dsaSign_10 (k_12 S) (c_MS_needContext S hfl rm) rfl rfl rfl (fun ok_10 => ?_) (fun no_10 => at_leave rfl (hP _ _ (dsNo 2 2 (c4_2 ⟨by decide, by decide⟩ (fun z => no_10 z.1)) (by decide) rfl frC.rfl')))
  show AW l G M_MS_dsaSign P 13 [(0, vr 12), (1, vi 0), (2, vi (-1))] [] (sD h I L)
  refine aw_aload_n d_MS_dsaSign_13 rfl rfl ?_
  refine ax_getR (b := 13) d_MS_dsaSign_14 fd_MS_11 (k_12 S) (r_12_0 S) ?_
  refine aw_iconst d_MS_dsaSign_17 ⟨by decide, by decide⟩ ?_
  refine ax_aald (b := 14) d_MS_dsaSign_18 ⟨by rw [(k_13 S)]; decide, by rw [(k_13 S)]; decide⟩ (by omega) (by rw [n_13 S]; omega) (r_13_0 S) ?_
  refine ax_getIe (x := I 14 1) d_MS_dsaSign_19 fd_MS_55 (k_14 S) (rfl) ?_
  refine aw_bipush d_MS_dsaSign_22 ⟨by decide, by decide⟩ (by decide) ?_
  refine aw_icmp_eq (tgt := 49) d_MS_dsaSign_24 (by decide) (fun c_24 => ?_) (fun c_24 => ?_)
  · skip
    refine aw_aload_n d_MS_dsaSign_49 rfl rfl ?_
    refine ax_getR (b := 13) d_MS_dsaSign_50 fd_MS_11 (k_12 S) (r_12_0 S) ?_
    refine aw_iconst d_MS_dsaSign_53 ⟨by decide, by decide⟩ ?_
    refine ax_aald (b := 18) d_MS_dsaSign_54 ⟨by rw [(k_13 S)]; decide, by rw [(k_13 S)]; decide⟩ (by omega) (by rw [n_13 S]; omega) (r_13_2 S) ?_
    refine ax_getIe (x := I 18 1) d_MS_dsaSign_55 fd_MS_55 (k_18 S) (rfl) ?_
    refine aw_aload_n d_MS_dsaSign_58 rfl rfl ?_
    refine ax_getR (b := 32) d_MS_dsaSign_59 fd_MS_24 (k_12 S) (r_12_2 S) ?_
    refine aw_iload_n d_MS_dsaSign_62 rfl rfl ?_
    refine ax_aald (b := 33) d_MS_dsaSign_63 ⟨by rw [(k_32 S)]; decide, by rw [(k_32 S)]; decide⟩ (by omega) (by rw [n_32 S]; omega) (r_32_0 S) ?_
    refine ax_getIe (x := 2560) d_MS_dsaSign_64 fd_MS_128 (k_33 S) (pc_33_14 SD.2.1) ?_
    refine aw_icmp_eq (tgt := 80) d_MS_dsaSign_67 (by decide) (fun c_67 => ?_) (fun c_67 => ?_)
    · skip
      have sec_ : I 18 1 = sSec 0 := by show I 18 1 = 2560; omega
      refine aw_aload_n d_MS_dsaSign_80 rfl rfl ?_
      refine ax_getR (b := 146) d_MS_dsaSign_81 fd_MS_44 (k_12 S) (r_12_4 S) ?_
      refine aw_aload_n d_MS_dsaSign_84 rfl rfl ?_
      refine ax_getR (b := 13) d_MS_dsaSign_85 fd_MS_11 (k_12 S) (r_12_0 S) ?_
      refine aw_aload_n d_MS_dsaSign_88 rfl rfl ?_
      refine ax_getR (b := 32) d_MS_dsaSign_89 fd_MS_24 (k_12 S) (r_12_2 S) ?_
      refine aw_iload_n d_MS_dsaSign_92 rfl rfl ?_
      refine ax_aald (b := 33) d_MS_dsaSign_93 ⟨by rw [(k_32 S)]; decide, by rw [(k_32 S)]; decide⟩ (by omega) (by rw [n_32 S]; omega) (r_32_0 S) ?_
      refine aw_iload_n d_MS_dsaSign_94 rfl rfl ?_
      refine ax_VtD (st := []) (as := [vr 13, vr 33, vi (-1)]) (b := 146) d_MS_dsaSign_95 cs_MS_dsaSign_95 (k_146 S) (c_Si_sign0N S hfl rm SD cb) rfl rfl rfl (fun ok_ v_ I2 L2 q_ => ?_) (fun no_ I2 L2 q_ => at_leave rfl (hP _ _ (dsNo 4 4 (c4_4 ⟨by decide, by decide⟩ ⟨ok_10, by omega⟩ sec_ no_) (by decide) rfl q_)))
      show AW l G M_MS_dsaSign P 98 [(0, vr 12), (1, vi 0), (2, vi (-1))] [vi v_] (sD h I2 L2)
      exact aw_iret d_MS_dsaSign_98 rfl (hP _ _ (Or.inl ⟨c4_0 ⟨by decide, by decide⟩ ⟨ok_10, by omega⟩ sec_ ok_, v_, I2, L2, q_, rfl, rfl⟩))
    · skip
      exact ax_throw hfl th_MS_dsaSign_70 rm.1 rm.2 (hP _ _ (dsNo 3 3 (c4_3 ⟨by decide, by decide⟩ ⟨ok_10, by omega⟩ (fun z => by have z1 : I 18 1 = 2560 := z; omega)) (by decide) rfl frC.rfl'))
  · skip
    refine aw_aload_n d_MS_dsaSign_27 rfl rfl ?_
    refine ax_getR (b := 13) d_MS_dsaSign_28 fd_MS_11 (k_12 S) (r_12_0 S) ?_
    refine aw_iconst d_MS_dsaSign_31 ⟨by decide, by decide⟩ ?_
    refine ax_aald (b := 14) d_MS_dsaSign_32 ⟨by rw [(k_13 S)]; decide, by rw [(k_13 S)]; decide⟩ (by omega) (by rw [n_13 S]; omega) (r_13_0 S) ?_
    refine ax_getIe (x := I 14 1) d_MS_dsaSign_33 fd_MS_55 (k_14 S) (rfl) ?_
    refine aw_if_eq (tgt := 49) d_MS_dsaSign_36 (by decide) (fun c_36 => ?_) (fun c_36 => ?_)
    · skip
      refine aw_aload_n d_MS_dsaSign_49 rfl rfl ?_
      refine ax_getR (b := 13) d_MS_dsaSign_50 fd_MS_11 (k_12 S) (r_12_0 S) ?_
      refine aw_iconst d_MS_dsaSign_53 ⟨by decide, by decide⟩ ?_
      refine ax_aald (b := 18) d_MS_dsaSign_54 ⟨by rw [(k_13 S)]; decide, by rw [(k_13 S)]; decide⟩ (by omega) (by rw [n_13 S]; omega) (r_13_2 S) ?_
      refine ax_getIe (x := I 18 1) d_MS_dsaSign_55 fd_MS_55 (k_18 S) (rfl) ?_
      refine aw_aload_n d_MS_dsaSign_58 rfl rfl ?_
      refine ax_getR (b := 32) d_MS_dsaSign_59 fd_MS_24 (k_12 S) (r_12_2 S) ?_
      refine aw_iload_n d_MS_dsaSign_62 rfl rfl ?_
      refine ax_aald (b := 33) d_MS_dsaSign_63 ⟨by rw [(k_32 S)]; decide, by rw [(k_32 S)]; decide⟩ (by omega) (by rw [n_32 S]; omega) (r_32_0 S) ?_
      refine ax_getIe (x := 2560) d_MS_dsaSign_64 fd_MS_128 (k_33 S) (pc_33_14 SD.2.1) ?_
      refine aw_icmp_eq (tgt := 80) d_MS_dsaSign_67 (by decide) (fun c_67 => ?_) (fun c_67 => ?_)
      · skip
        have sec_ : I 18 1 = sSec 0 := by show I 18 1 = 2560; omega
        refine aw_aload_n d_MS_dsaSign_80 rfl rfl ?_
        refine ax_getR (b := 146) d_MS_dsaSign_81 fd_MS_44 (k_12 S) (r_12_4 S) ?_
        refine aw_aload_n d_MS_dsaSign_84 rfl rfl ?_
        refine ax_getR (b := 13) d_MS_dsaSign_85 fd_MS_11 (k_12 S) (r_12_0 S) ?_
        refine aw_aload_n d_MS_dsaSign_88 rfl rfl ?_
        refine ax_getR (b := 32) d_MS_dsaSign_89 fd_MS_24 (k_12 S) (r_12_2 S) ?_
        refine aw_iload_n d_MS_dsaSign_92 rfl rfl ?_
        refine ax_aald (b := 33) d_MS_dsaSign_93 ⟨by rw [(k_32 S)]; decide, by rw [(k_32 S)]; decide⟩ (by omega) (by rw [n_32 S]; omega) (r_32_0 S) ?_
        refine aw_iload_n d_MS_dsaSign_94 rfl rfl ?_
        refine ax_VtD (st := []) (as := [vr 13, vr 33, vi (-1)]) (b := 146) d_MS_dsaSign_95 cs_MS_dsaSign_95 (k_146 S) (c_Si_sign0N S hfl rm SD cb) rfl rfl rfl (fun ok_ v_ I2 L2 q_ => ?_) (fun no_ I2 L2 q_ => at_leave rfl (hP _ _ (dsNo 4 4 (c4_4 ⟨by decide, by decide⟩ ⟨ok_10, by omega⟩ sec_ no_) (by decide) rfl q_)))
        show AW l G M_MS_dsaSign P 98 [(0, vr 12), (1, vi 0), (2, vi (-1))] [vi v_] (sD h I2 L2)
        exact aw_iret d_MS_dsaSign_98 rfl (hP _ _ (Or.inl ⟨c4_0 ⟨by decide, by decide⟩ ⟨ok_10, by omega⟩ sec_ ok_, v_, I2, L2, q_, rfl, rfl⟩))
      · skip
        exact ax_throw hfl th_MS_dsaSign_70 rm.1 rm.2 (hP _ _ (dsNo 3 3 (c4_3 ⟨by decide, by decide⟩ ⟨ok_10, by omega⟩ (fun z => by have z1 : I 18 1 = 2560 := z; omega)) (by decide) rfl frC.rfl'))
    · skip
      exact ax_throw hfl th_MS_dsaSign_39 rm.1 rm.2 (hP _ _ (dsNo 2 2 (c4_2 ⟨by decide, by decide⟩ (fun z => by omega)) (by decide) rfl frC.rfl'))
set_option maxHeartbeats 800000 in
set_option maxRecDepth 100000 in
theorem c_MS_dsaSign10 {l : Launch} {G : a_G} {h : Hp} {I L : Nat → Int → Int} (S : Shp h) (hfl : l.flags = flags0) (rm : hX h + 1 ≤ a_NX ∧ hU h + 6 ≤ a_US) (SD : Std I L) (cb : CB I) : AW l G M_MS_dsaSign (DsR h I L ce4 (c4 ((0 ≤ (1 : Int) ∧ (1 : Int) < 3) ∧ ((0 : Int) = 0 ∨ (0 : Int) = -1)) (((0 : Int) ≠ 0 ∨ I 22 1 ≤ 255) ∧ (I 14 1 = 32 ∨ I 14 1 = 0)) (I 18 1 = sSec (1 : Int)) (sgOk (1 : Int) (byAt I 18 19) ∧ sgRun (1 : Int) (byAt I 18 19) (rhC I ((0 : Int))) (muC I (fun k => byAt I 18 19 (64 + k)) ((0 : Int))) 814 0 ≠ none)) (fun v I' L' => FC (fun a => a = 24 ∨ a = 25 ∨ 36 ≤ a ∧ a ≤ 174 ∧ a ≠ 43) I L I' L' ∧ ∃ t, sgRun (1 : Int) (byAt I 18 19) (rhC I ((0 : Int))) (muC I (fun k => byAt I 18 19 (64 + k)) ((0 : Int))) 814 0 = some t ∧ v = t + 1 ∧ HB I' 24 25 (sPkt (1 : Int)) (sgPk (1 : Int) (byAt I 18 19) (rhC I ((0 : Int))) (muC I (fun k => byAt I 18 19 (64 + k)) ((0 : Int))) t))) 0 (a_ar 0 [vr 12, vi 1, vi 0]) [] (sD h I L) := by
  suffices key : ∀ P : a_R → Hp → Prop, (∀ r_ h2_, DsR h I L ce4 (c4 ((0 ≤ (1 : Int) ∧ (1 : Int) < 3) ∧ ((0 : Int) = 0 ∨ (0 : Int) = -1)) (((0 : Int) ≠ 0 ∨ I 22 1 ≤ 255) ∧ (I 14 1 = 32 ∨ I 14 1 = 0)) (I 18 1 = sSec (1 : Int)) (sgOk (1 : Int) (byAt I 18 19) ∧ sgRun (1 : Int) (byAt I 18 19) (rhC I ((0 : Int))) (muC I (fun k => byAt I 18 19 (64 + k)) ((0 : Int))) 814 0 ≠ none)) (fun v I' L' => FC (fun a => a = 24 ∨ a = 25 ∨ 36 ≤ a ∧ a ≤ 174 ∧ a ≠ 43) I L I' L' ∧ ∃ t, sgRun (1 : Int) (byAt I 18 19) (rhC I ((0 : Int))) (muC I (fun k => byAt I 18 19 (64 + k)) ((0 : Int))) 814 0 = some t ∧ v = t + 1 ∧ HB I' 24 25 (sPkt (1 : Int)) (sgPk (1 : Int) (byAt I 18 19) (rhC I ((0 : Int))) (muC I (fun k => byAt I 18 19 (64 + k)) ((0 : Int))) t)) r_ h2_ → P r_ h2_) → AW l G M_MS_dsaSign P 0 [(0, vr 12), (1, vi 1), (2, vi 0)] [] (sD h I L) from key _ (fun _ _ q => q)
  intro P hP
  refine aw_iload_n d_MS_dsaSign_0 rfl rfl ?_
  refine ax_Stn (st := []) (as := [vi 1]) d_MS_dsaSign_1 cs_MS_dsaSign_1 (c_MS_needSet hfl rm) rfl rfl rfl (fun ok_1 => ?_) (fun no_1 => at_leave rfl (hP _ _ (absurd (by decide) no_1)))
  show AW l G M_MS_dsaSign P 4 [(0, vr 12), (1, vi 1), (2, vi 0)] [] (sD h I L)
  refine aw_iload_n d_MS_dsaSign_4 rfl rfl ?_
  refine ax_Stn (st := []) (as := [vi 0]) d_MS_dsaSign_5 cs_MS_dsaSign_5 (c_MS_needHow hfl rm) rfl rfl rfl (fun ok_5 => ?_) (fun no_5 => at_leave rfl (hP _ _ (absurd (by decide) no_5)))
  show AW l G M_MS_dsaSign P 8 [(0, vr 12), (1, vi 1), (2, vi 0)] [] (sD h I L)
  refine aw_aload_n d_MS_dsaSign_8 rfl rfl ?_
  refine aw_iload_n d_MS_dsaSign_9 rfl rfl ?_
  refine ax_Vtn (st := []) (as := [vi 0]) (b := 12) d_MS_dsaSign_10 cs_MS_dsaSign_10 (k_12 S) (c_MS_needContext S hfl rm) rfl rfl rfl (fun ok_10 => ?_) (fun no_10 => at_leave rfl (hP _ _ (dsNo 2 2 (c4_2 ⟨by decide, by decide⟩ (fun z => no_10 z.1)) (by decide) rfl frC.rfl')))
  show AW l G M_MS_dsaSign P 13 [(0, vr 12), (1, vi 1), (2, vi 0)] [] (sD h I L)
  refine aw_aload_n d_MS_dsaSign_13 rfl rfl ?_
  refine ax_getR (b := 13) d_MS_dsaSign_14 fd_MS_11 (k_12 S) (r_12_0 S) ?_
  refine aw_iconst d_MS_dsaSign_17 ⟨by decide, by decide⟩ ?_
  refine ax_aald (b := 14) d_MS_dsaSign_18 ⟨by rw [(k_13 S)]; decide, by rw [(k_13 S)]; decide⟩ (by omega) (by rw [n_13 S]; omega) (r_13_0 S) ?_
  refine ax_getIe (x := I 14 1) d_MS_dsaSign_19 fd_MS_55 (k_14 S) (rfl) ?_
  refine aw_bipush d_MS_dsaSign_22 ⟨by decide, by decide⟩ (by decide) ?_
  refine aw_icmp_eq (tgt := 49) d_MS_dsaSign_24 (by decide) (fun c_24 => ?_) (fun c_24 => ?_)
  · skip
    refine aw_aload_n d_MS_dsaSign_49 rfl rfl ?_
    refine ax_getR (b := 13) d_MS_dsaSign_50 fd_MS_11 (k_12 S) (r_12_0 S) ?_
    refine aw_iconst d_MS_dsaSign_53 ⟨by decide, by decide⟩ ?_
    refine ax_aald (b := 18) d_MS_dsaSign_54 ⟨by rw [(k_13 S)]; decide, by rw [(k_13 S)]; decide⟩ (by omega) (by rw [n_13 S]; omega) (r_13_2 S) ?_
    refine ax_getIe (x := I 18 1) d_MS_dsaSign_55 fd_MS_55 (k_18 S) (rfl) ?_
    refine aw_aload_n d_MS_dsaSign_58 rfl rfl ?_
    refine ax_getR (b := 32) d_MS_dsaSign_59 fd_MS_24 (k_12 S) (r_12_2 S) ?_
    refine aw_iload_n d_MS_dsaSign_62 rfl rfl ?_
    refine ax_aald (b := 34) d_MS_dsaSign_63 ⟨by rw [(k_32 S)]; decide, by rw [(k_32 S)]; decide⟩ (by omega) (by rw [n_32 S]; omega) (r_32_1 S) ?_
    refine ax_getIe (x := 4032) d_MS_dsaSign_64 fd_MS_128 (k_34 S) (pc_34_14 SD.2.1) ?_
    refine aw_icmp_eq (tgt := 80) d_MS_dsaSign_67 (by decide) (fun c_67 => ?_) (fun c_67 => ?_)
    · skip
      have sec_ : I 18 1 = sSec 1 := by show I 18 1 = 4032; omega
      refine aw_aload_n d_MS_dsaSign_80 rfl rfl ?_
      refine ax_getR (b := 146) d_MS_dsaSign_81 fd_MS_44 (k_12 S) (r_12_4 S) ?_
      refine aw_aload_n d_MS_dsaSign_84 rfl rfl ?_
      refine ax_getR (b := 13) d_MS_dsaSign_85 fd_MS_11 (k_12 S) (r_12_0 S) ?_
      refine aw_aload_n d_MS_dsaSign_88 rfl rfl ?_
      refine ax_getR (b := 32) d_MS_dsaSign_89 fd_MS_24 (k_12 S) (r_12_2 S) ?_
      refine aw_iload_n d_MS_dsaSign_92 rfl rfl ?_
      refine ax_aald (b := 34) d_MS_dsaSign_93 ⟨by rw [(k_32 S)]; decide, by rw [(k_32 S)]; decide⟩ (by omega) (by rw [n_32 S]; omega) (r_32_1 S) ?_
      refine aw_iload_n d_MS_dsaSign_94 rfl rfl ?_
      refine ax_VtD (st := []) (as := [vr 13, vr 34, vi 0]) (b := 146) d_MS_dsaSign_95 cs_MS_dsaSign_95 (k_146 S) (c_Si_sign10 S hfl rm SD cb) rfl rfl rfl (fun ok_ v_ I2 L2 q_ => ?_) (fun no_ I2 L2 q_ => at_leave rfl (hP _ _ (dsNo 4 4 (c4_4 ⟨by decide, by decide⟩ ⟨ok_10, by omega⟩ sec_ no_) (by decide) rfl q_)))
      show AW l G M_MS_dsaSign P 98 [(0, vr 12), (1, vi 1), (2, vi 0)] [vi v_] (sD h I2 L2)
      exact aw_iret d_MS_dsaSign_98 rfl (hP _ _ (Or.inl ⟨c4_0 ⟨by decide, by decide⟩ ⟨ok_10, by omega⟩ sec_ ok_, v_, I2, L2, q_, rfl, rfl⟩))
    · skip
      exact ax_throw hfl th_MS_dsaSign_70 rm.1 rm.2 (hP _ _ (dsNo 3 3 (c4_3 ⟨by decide, by decide⟩ ⟨ok_10, by omega⟩ (fun z => by have z1 : I 18 1 = 4032 := z; omega)) (by decide) rfl frC.rfl'))
  · skip
    refine aw_aload_n d_MS_dsaSign_27 rfl rfl ?_
    refine ax_getR (b := 13) d_MS_dsaSign_28 fd_MS_11 (k_12 S) (r_12_0 S) ?_
    refine aw_iconst d_MS_dsaSign_31 ⟨by decide, by decide⟩ ?_
    refine ax_aald (b := 14) d_MS_dsaSign_32 ⟨by rw [(k_13 S)]; decide, by rw [(k_13 S)]; decide⟩ (by omega) (by rw [n_13 S]; omega) (r_13_0 S) ?_
    refine ax_getIe (x := I 14 1) d_MS_dsaSign_33 fd_MS_55 (k_14 S) (rfl) ?_
    refine aw_if_eq (tgt := 49) d_MS_dsaSign_36 (by decide) (fun c_36 => ?_) (fun c_36 => ?_)
    · skip
      refine aw_aload_n d_MS_dsaSign_49 rfl rfl ?_
      refine ax_getR (b := 13) d_MS_dsaSign_50 fd_MS_11 (k_12 S) (r_12_0 S) ?_
      refine aw_iconst d_MS_dsaSign_53 ⟨by decide, by decide⟩ ?_
      refine ax_aald (b := 18) d_MS_dsaSign_54 ⟨by rw [(k_13 S)]; decide, by rw [(k_13 S)]; decide⟩ (by omega) (by rw [n_13 S]; omega) (r_13_2 S) ?_
      refine ax_getIe (x := I 18 1) d_MS_dsaSign_55 fd_MS_55 (k_18 S) (rfl) ?_
      refine aw_aload_n d_MS_dsaSign_58 rfl rfl ?_
      refine ax_getR (b := 32) d_MS_dsaSign_59 fd_MS_24 (k_12 S) (r_12_2 S) ?_
      refine aw_iload_n d_MS_dsaSign_62 rfl rfl ?_
      refine ax_aald (b := 34) d_MS_dsaSign_63 ⟨by rw [(k_32 S)]; decide, by rw [(k_32 S)]; decide⟩ (by omega) (by rw [n_32 S]; omega) (r_32_1 S) ?_
      refine ax_getIe (x := 4032) d_MS_dsaSign_64 fd_MS_128 (k_34 S) (pc_34_14 SD.2.1) ?_
      refine aw_icmp_eq (tgt := 80) d_MS_dsaSign_67 (by decide) (fun c_67 => ?_) (fun c_67 => ?_)
      · skip
        have sec_ : I 18 1 = sSec 1 := by show I 18 1 = 4032; omega
        refine aw_aload_n d_MS_dsaSign_80 rfl rfl ?_
        refine ax_getR (b := 146) d_MS_dsaSign_81 fd_MS_44 (k_12 S) (r_12_4 S) ?_
        refine aw_aload_n d_MS_dsaSign_84 rfl rfl ?_
        refine ax_getR (b := 13) d_MS_dsaSign_85 fd_MS_11 (k_12 S) (r_12_0 S) ?_
        refine aw_aload_n d_MS_dsaSign_88 rfl rfl ?_
        refine ax_getR (b := 32) d_MS_dsaSign_89 fd_MS_24 (k_12 S) (r_12_2 S) ?_
        refine aw_iload_n d_MS_dsaSign_92 rfl rfl ?_
        refine ax_aald (b := 34) d_MS_dsaSign_93 ⟨by rw [(k_32 S)]; decide, by rw [(k_32 S)]; decide⟩ (by omega) (by rw [n_32 S]; omega) (r_32_1 S) ?_
        refine aw_iload_n d_MS_dsaSign_94 rfl rfl ?_
        refine ax_VtD (st := []) (as := [vr 13, vr 34, vi 0]) (b := 146) d_MS_dsaSign_95 cs_MS_dsaSign_95 (k_146 S) (c_Si_sign10 S hfl rm SD cb) rfl rfl rfl (fun ok_ v_ I2 L2 q_ => ?_) (fun no_ I2 L2 q_ => at_leave rfl (hP _ _ (dsNo 4 4 (c4_4 ⟨by decide, by decide⟩ ⟨ok_10, by omega⟩ sec_ no_) (by decide) rfl q_)))
        show AW l G M_MS_dsaSign P 98 [(0, vr 12), (1, vi 1), (2, vi 0)] [vi v_] (sD h I2 L2)
        exact aw_iret d_MS_dsaSign_98 rfl (hP _ _ (Or.inl ⟨c4_0 ⟨by decide, by decide⟩ ⟨ok_10, by omega⟩ sec_ ok_, v_, I2, L2, q_, rfl, rfl⟩))
      · skip
        exact ax_throw hfl th_MS_dsaSign_70 rm.1 rm.2 (hP _ _ (dsNo 3 3 (c4_3 ⟨by decide, by decide⟩ ⟨ok_10, by omega⟩ (fun z => by have z1 : I 18 1 = 4032 := z; omega)) (by decide) rfl frC.rfl'))
    · skip
      exact ax_throw hfl th_MS_dsaSign_39 rm.1 rm.2 (hP _ _ (dsNo 2 2 (c4_2 ⟨by decide, by decide⟩ (fun z => by omega)) (by decide) rfl frC.rfl'))
set_option maxHeartbeats 800000 in
set_option maxRecDepth 100000 in
theorem c_MS_dsaSign1N {l : Launch} {G : a_G} {h : Hp} {I L : Nat → Int → Int} (S : Shp h) (hfl : l.flags = flags0) (rm : hX h + 1 ≤ a_NX ∧ hU h + 6 ≤ a_US) (SD : Std I L) (cb : CB I) : AW l G M_MS_dsaSign (DsR h I L ce4 (c4 ((0 ≤ (1 : Int) ∧ (1 : Int) < 3) ∧ ((-1 : Int) = 0 ∨ (-1 : Int) = -1)) (((-1 : Int) ≠ 0 ∨ I 22 1 ≤ 255) ∧ (I 14 1 = 32 ∨ I 14 1 = 0)) (I 18 1 = sSec (1 : Int)) (sgOk (1 : Int) (byAt I 18 19) ∧ sgRun (1 : Int) (byAt I 18 19) (rhC I ((-1 : Int))) (muC I (fun k => byAt I 18 19 (64 + k)) ((-1 : Int))) 814 0 ≠ none)) (fun v I' L' => FC (fun a => a = 24 ∨ a = 25 ∨ 36 ≤ a ∧ a ≤ 174 ∧ a ≠ 43) I L I' L' ∧ ∃ t, sgRun (1 : Int) (byAt I 18 19) (rhC I ((-1 : Int))) (muC I (fun k => byAt I 18 19 (64 + k)) ((-1 : Int))) 814 0 = some t ∧ v = t + 1 ∧ HB I' 24 25 (sPkt (1 : Int)) (sgPk (1 : Int) (byAt I 18 19) (rhC I ((-1 : Int))) (muC I (fun k => byAt I 18 19 (64 + k)) ((-1 : Int))) t))) 0 (a_ar 0 [vr 12, vi 1, vi (-1)]) [] (sD h I L) := by
  suffices key : ∀ P : a_R → Hp → Prop, (∀ r_ h2_, DsR h I L ce4 (c4 ((0 ≤ (1 : Int) ∧ (1 : Int) < 3) ∧ ((-1 : Int) = 0 ∨ (-1 : Int) = -1)) (((-1 : Int) ≠ 0 ∨ I 22 1 ≤ 255) ∧ (I 14 1 = 32 ∨ I 14 1 = 0)) (I 18 1 = sSec (1 : Int)) (sgOk (1 : Int) (byAt I 18 19) ∧ sgRun (1 : Int) (byAt I 18 19) (rhC I ((-1 : Int))) (muC I (fun k => byAt I 18 19 (64 + k)) ((-1 : Int))) 814 0 ≠ none)) (fun v I' L' => FC (fun a => a = 24 ∨ a = 25 ∨ 36 ≤ a ∧ a ≤ 174 ∧ a ≠ 43) I L I' L' ∧ ∃ t, sgRun (1 : Int) (byAt I 18 19) (rhC I ((-1 : Int))) (muC I (fun k => byAt I 18 19 (64 + k)) ((-1 : Int))) 814 0 = some t ∧ v = t + 1 ∧ HB I' 24 25 (sPkt (1 : Int)) (sgPk (1 : Int) (byAt I 18 19) (rhC I ((-1 : Int))) (muC I (fun k => byAt I 18 19 (64 + k)) ((-1 : Int))) t)) r_ h2_ → P r_ h2_) → AW l G M_MS_dsaSign P 0 [(0, vr 12), (1, vi 1), (2, vi (-1))] [] (sD h I L) from key _ (fun _ _ q => q)
  intro P hP
  refine aw_iload_n d_MS_dsaSign_0 rfl rfl ?_
  refine ax_Stn (st := []) (as := [vi 1]) d_MS_dsaSign_1 cs_MS_dsaSign_1 (c_MS_needSet hfl rm) rfl rfl rfl (fun ok_1 => ?_) (fun no_1 => at_leave rfl (hP _ _ (absurd (by decide) no_1)))
  show AW l G M_MS_dsaSign P 4 [(0, vr 12), (1, vi 1), (2, vi (-1))] [] (sD h I L)
  refine aw_iload_n d_MS_dsaSign_4 rfl rfl ?_
  refine ax_Stn (st := []) (as := [vi (-1)]) d_MS_dsaSign_5 cs_MS_dsaSign_5 (c_MS_needHow hfl rm) rfl rfl rfl (fun ok_5 => ?_) (fun no_5 => at_leave rfl (hP _ _ (absurd (by decide) no_5)))
  show AW l G M_MS_dsaSign P 8 [(0, vr 12), (1, vi 1), (2, vi (-1))] [] (sD h I L)
  refine aw_aload_n d_MS_dsaSign_8 rfl rfl ?_
  refine aw_iload_n d_MS_dsaSign_9 rfl rfl ?_
  refine ax_Vtn (st := []) (as := [vi (-1)]) (b := 12) d_MS_dsaSign_10 cs_MS_dsaSign_10 (k_12 S) (c_MS_needContext S hfl rm) rfl rfl rfl (fun ok_10 => ?_) (fun no_10 => at_leave rfl (hP _ _ (dsNo 2 2 (c4_2 ⟨by decide, by decide⟩ (fun z => no_10 z.1)) (by decide) rfl frC.rfl')))
  show AW l G M_MS_dsaSign P 13 [(0, vr 12), (1, vi 1), (2, vi (-1))] [] (sD h I L)
  refine aw_aload_n d_MS_dsaSign_13 rfl rfl ?_
  refine ax_getR (b := 13) d_MS_dsaSign_14 fd_MS_11 (k_12 S) (r_12_0 S) ?_
  refine aw_iconst d_MS_dsaSign_17 ⟨by decide, by decide⟩ ?_
  refine ax_aald (b := 14) d_MS_dsaSign_18 ⟨by rw [(k_13 S)]; decide, by rw [(k_13 S)]; decide⟩ (by omega) (by rw [n_13 S]; omega) (r_13_0 S) ?_
  refine ax_getIe (x := I 14 1) d_MS_dsaSign_19 fd_MS_55 (k_14 S) (rfl) ?_
  refine aw_bipush d_MS_dsaSign_22 ⟨by decide, by decide⟩ (by decide) ?_
  refine aw_icmp_eq (tgt := 49) d_MS_dsaSign_24 (by decide) (fun c_24 => ?_) (fun c_24 => ?_)
  · skip
    refine aw_aload_n d_MS_dsaSign_49 rfl rfl ?_
    refine ax_getR (b := 13) d_MS_dsaSign_50 fd_MS_11 (k_12 S) (r_12_0 S) ?_
    refine aw_iconst d_MS_dsaSign_53 ⟨by decide, by decide⟩ ?_
    refine ax_aald (b := 18) d_MS_dsaSign_54 ⟨by rw [(k_13 S)]; decide, by rw [(k_13 S)]; decide⟩ (by omega) (by rw [n_13 S]; omega) (r_13_2 S) ?_
    refine ax_getIe (x := I 18 1) d_MS_dsaSign_55 fd_MS_55 (k_18 S) (rfl) ?_
    refine aw_aload_n d_MS_dsaSign_58 rfl rfl ?_
    refine ax_getR (b := 32) d_MS_dsaSign_59 fd_MS_24 (k_12 S) (r_12_2 S) ?_
    refine aw_iload_n d_MS_dsaSign_62 rfl rfl ?_
    refine ax_aald (b := 34) d_MS_dsaSign_63 ⟨by rw [(k_32 S)]; decide, by rw [(k_32 S)]; decide⟩ (by omega) (by rw [n_32 S]; omega) (r_32_1 S) ?_
    refine ax_getIe (x := 4032) d_MS_dsaSign_64 fd_MS_128 (k_34 S) (pc_34_14 SD.2.1) ?_
    refine aw_icmp_eq (tgt := 80) d_MS_dsaSign_67 (by decide) (fun c_67 => ?_) (fun c_67 => ?_)
    · skip
      have sec_ : I 18 1 = sSec 1 := by show I 18 1 = 4032; omega
      refine aw_aload_n d_MS_dsaSign_80 rfl rfl ?_
      refine ax_getR (b := 146) d_MS_dsaSign_81 fd_MS_44 (k_12 S) (r_12_4 S) ?_
      refine aw_aload_n d_MS_dsaSign_84 rfl rfl ?_
      refine ax_getR (b := 13) d_MS_dsaSign_85 fd_MS_11 (k_12 S) (r_12_0 S) ?_
      refine aw_aload_n d_MS_dsaSign_88 rfl rfl ?_
      refine ax_getR (b := 32) d_MS_dsaSign_89 fd_MS_24 (k_12 S) (r_12_2 S) ?_
      refine aw_iload_n d_MS_dsaSign_92 rfl rfl ?_
      refine ax_aald (b := 34) d_MS_dsaSign_93 ⟨by rw [(k_32 S)]; decide, by rw [(k_32 S)]; decide⟩ (by omega) (by rw [n_32 S]; omega) (r_32_1 S) ?_
      refine aw_iload_n d_MS_dsaSign_94 rfl rfl ?_
      refine ax_VtD (st := []) (as := [vr 13, vr 34, vi (-1)]) (b := 146) d_MS_dsaSign_95 cs_MS_dsaSign_95 (k_146 S) (c_Si_sign1N S hfl rm SD cb) rfl rfl rfl (fun ok_ v_ I2 L2 q_ => ?_) (fun no_ I2 L2 q_ => at_leave rfl (hP _ _ (dsNo 4 4 (c4_4 ⟨by decide, by decide⟩ ⟨ok_10, by omega⟩ sec_ no_) (by decide) rfl q_)))
      show AW l G M_MS_dsaSign P 98 [(0, vr 12), (1, vi 1), (2, vi (-1))] [vi v_] (sD h I2 L2)
      exact aw_iret d_MS_dsaSign_98 rfl (hP _ _ (Or.inl ⟨c4_0 ⟨by decide, by decide⟩ ⟨ok_10, by omega⟩ sec_ ok_, v_, I2, L2, q_, rfl, rfl⟩))
    · skip
      exact ax_throw hfl th_MS_dsaSign_70 rm.1 rm.2 (hP _ _ (dsNo 3 3 (c4_3 ⟨by decide, by decide⟩ ⟨ok_10, by omega⟩ (fun z => by have z1 : I 18 1 = 4032 := z; omega)) (by decide) rfl frC.rfl'))
  · skip
    refine aw_aload_n d_MS_dsaSign_27 rfl rfl ?_
    refine ax_getR (b := 13) d_MS_dsaSign_28 fd_MS_11 (k_12 S) (r_12_0 S) ?_
    refine aw_iconst d_MS_dsaSign_31 ⟨by decide, by decide⟩ ?_
    refine ax_aald (b := 14) d_MS_dsaSign_32 ⟨by rw [(k_13 S)]; decide, by rw [(k_13 S)]; decide⟩ (by omega) (by rw [n_13 S]; omega) (r_13_0 S) ?_
    refine ax_getIe (x := I 14 1) d_MS_dsaSign_33 fd_MS_55 (k_14 S) (rfl) ?_
    refine aw_if_eq (tgt := 49) d_MS_dsaSign_36 (by decide) (fun c_36 => ?_) (fun c_36 => ?_)
    · skip
      refine aw_aload_n d_MS_dsaSign_49 rfl rfl ?_
      refine ax_getR (b := 13) d_MS_dsaSign_50 fd_MS_11 (k_12 S) (r_12_0 S) ?_
      refine aw_iconst d_MS_dsaSign_53 ⟨by decide, by decide⟩ ?_
      refine ax_aald (b := 18) d_MS_dsaSign_54 ⟨by rw [(k_13 S)]; decide, by rw [(k_13 S)]; decide⟩ (by omega) (by rw [n_13 S]; omega) (r_13_2 S) ?_
      refine ax_getIe (x := I 18 1) d_MS_dsaSign_55 fd_MS_55 (k_18 S) (rfl) ?_
      refine aw_aload_n d_MS_dsaSign_58 rfl rfl ?_
      refine ax_getR (b := 32) d_MS_dsaSign_59 fd_MS_24 (k_12 S) (r_12_2 S) ?_
      refine aw_iload_n d_MS_dsaSign_62 rfl rfl ?_
      refine ax_aald (b := 34) d_MS_dsaSign_63 ⟨by rw [(k_32 S)]; decide, by rw [(k_32 S)]; decide⟩ (by omega) (by rw [n_32 S]; omega) (r_32_1 S) ?_
      refine ax_getIe (x := 4032) d_MS_dsaSign_64 fd_MS_128 (k_34 S) (pc_34_14 SD.2.1) ?_
      refine aw_icmp_eq (tgt := 80) d_MS_dsaSign_67 (by decide) (fun c_67 => ?_) (fun c_67 => ?_)
      · skip
        have sec_ : I 18 1 = sSec 1 := by show I 18 1 = 4032; omega
        refine aw_aload_n d_MS_dsaSign_80 rfl rfl ?_
        refine ax_getR (b := 146) d_MS_dsaSign_81 fd_MS_44 (k_12 S) (r_12_4 S) ?_
        refine aw_aload_n d_MS_dsaSign_84 rfl rfl ?_
        refine ax_getR (b := 13) d_MS_dsaSign_85 fd_MS_11 (k_12 S) (r_12_0 S) ?_
        refine aw_aload_n d_MS_dsaSign_88 rfl rfl ?_
        refine ax_getR (b := 32) d_MS_dsaSign_89 fd_MS_24 (k_12 S) (r_12_2 S) ?_
        refine aw_iload_n d_MS_dsaSign_92 rfl rfl ?_
        refine ax_aald (b := 34) d_MS_dsaSign_93 ⟨by rw [(k_32 S)]; decide, by rw [(k_32 S)]; decide⟩ (by omega) (by rw [n_32 S]; omega) (r_32_1 S) ?_
        refine aw_iload_n d_MS_dsaSign_94 rfl rfl ?_
        refine ax_VtD (st := []) (as := [vr 13, vr 34, vi (-1)]) (b := 146) d_MS_dsaSign_95 cs_MS_dsaSign_95 (k_146 S) (c_Si_sign1N S hfl rm SD cb) rfl rfl rfl (fun ok_ v_ I2 L2 q_ => ?_) (fun no_ I2 L2 q_ => at_leave rfl (hP _ _ (dsNo 4 4 (c4_4 ⟨by decide, by decide⟩ ⟨ok_10, by omega⟩ sec_ no_) (by decide) rfl q_)))
        show AW l G M_MS_dsaSign P 98 [(0, vr 12), (1, vi 1), (2, vi (-1))] [vi v_] (sD h I2 L2)
        exact aw_iret d_MS_dsaSign_98 rfl (hP _ _ (Or.inl ⟨c4_0 ⟨by decide, by decide⟩ ⟨ok_10, by omega⟩ sec_ ok_, v_, I2, L2, q_, rfl, rfl⟩))
      · skip
        exact ax_throw hfl th_MS_dsaSign_70 rm.1 rm.2 (hP _ _ (dsNo 3 3 (c4_3 ⟨by decide, by decide⟩ ⟨ok_10, by omega⟩ (fun z => by have z1 : I 18 1 = 4032 := z; omega)) (by decide) rfl frC.rfl'))
    · skip
      exact ax_throw hfl th_MS_dsaSign_39 rm.1 rm.2 (hP _ _ (dsNo 2 2 (c4_2 ⟨by decide, by decide⟩ (fun z => by omega)) (by decide) rfl frC.rfl'))
set_option maxHeartbeats 800000 in
set_option maxRecDepth 100000 in
theorem c_MS_dsaSign20 {l : Launch} {G : a_G} {h : Hp} {I L : Nat → Int → Int} (S : Shp h) (hfl : l.flags = flags0) (rm : hX h + 1 ≤ a_NX ∧ hU h + 6 ≤ a_US) (SD : Std I L) (cb : CB I) : AW l G M_MS_dsaSign (DsR h I L ce4 (c4 ((0 ≤ (2 : Int) ∧ (2 : Int) < 3) ∧ ((0 : Int) = 0 ∨ (0 : Int) = -1)) (((0 : Int) ≠ 0 ∨ I 22 1 ≤ 255) ∧ (I 14 1 = 32 ∨ I 14 1 = 0)) (I 18 1 = sSec (2 : Int)) (sgOk (2 : Int) (byAt I 18 19) ∧ sgRun (2 : Int) (byAt I 18 19) (rhC I ((0 : Int))) (muC I (fun k => byAt I 18 19 (64 + k)) ((0 : Int))) 814 0 ≠ none)) (fun v I' L' => FC (fun a => a = 24 ∨ a = 25 ∨ 36 ≤ a ∧ a ≤ 174 ∧ a ≠ 43) I L I' L' ∧ ∃ t, sgRun (2 : Int) (byAt I 18 19) (rhC I ((0 : Int))) (muC I (fun k => byAt I 18 19 (64 + k)) ((0 : Int))) 814 0 = some t ∧ v = t + 1 ∧ HB I' 24 25 (sPkt (2 : Int)) (sgPk (2 : Int) (byAt I 18 19) (rhC I ((0 : Int))) (muC I (fun k => byAt I 18 19 (64 + k)) ((0 : Int))) t))) 0 (a_ar 0 [vr 12, vi 2, vi 0]) [] (sD h I L) := by
  suffices key : ∀ P : a_R → Hp → Prop, (∀ r_ h2_, DsR h I L ce4 (c4 ((0 ≤ (2 : Int) ∧ (2 : Int) < 3) ∧ ((0 : Int) = 0 ∨ (0 : Int) = -1)) (((0 : Int) ≠ 0 ∨ I 22 1 ≤ 255) ∧ (I 14 1 = 32 ∨ I 14 1 = 0)) (I 18 1 = sSec (2 : Int)) (sgOk (2 : Int) (byAt I 18 19) ∧ sgRun (2 : Int) (byAt I 18 19) (rhC I ((0 : Int))) (muC I (fun k => byAt I 18 19 (64 + k)) ((0 : Int))) 814 0 ≠ none)) (fun v I' L' => FC (fun a => a = 24 ∨ a = 25 ∨ 36 ≤ a ∧ a ≤ 174 ∧ a ≠ 43) I L I' L' ∧ ∃ t, sgRun (2 : Int) (byAt I 18 19) (rhC I ((0 : Int))) (muC I (fun k => byAt I 18 19 (64 + k)) ((0 : Int))) 814 0 = some t ∧ v = t + 1 ∧ HB I' 24 25 (sPkt (2 : Int)) (sgPk (2 : Int) (byAt I 18 19) (rhC I ((0 : Int))) (muC I (fun k => byAt I 18 19 (64 + k)) ((0 : Int))) t)) r_ h2_ → P r_ h2_) → AW l G M_MS_dsaSign P 0 [(0, vr 12), (1, vi 2), (2, vi 0)] [] (sD h I L) from key _ (fun _ _ q => q)
  intro P hP
  refine aw_iload_n d_MS_dsaSign_0 rfl rfl ?_
  refine ax_Stn (st := []) (as := [vi 2]) d_MS_dsaSign_1 cs_MS_dsaSign_1 (c_MS_needSet hfl rm) rfl rfl rfl (fun ok_1 => ?_) (fun no_1 => at_leave rfl (hP _ _ (absurd (by decide) no_1)))
  show AW l G M_MS_dsaSign P 4 [(0, vr 12), (1, vi 2), (2, vi 0)] [] (sD h I L)
  refine aw_iload_n d_MS_dsaSign_4 rfl rfl ?_
  refine ax_Stn (st := []) (as := [vi 0]) d_MS_dsaSign_5 cs_MS_dsaSign_5 (c_MS_needHow hfl rm) rfl rfl rfl (fun ok_5 => ?_) (fun no_5 => at_leave rfl (hP _ _ (absurd (by decide) no_5)))
  show AW l G M_MS_dsaSign P 8 [(0, vr 12), (1, vi 2), (2, vi 0)] [] (sD h I L)
  refine aw_aload_n d_MS_dsaSign_8 rfl rfl ?_
  refine aw_iload_n d_MS_dsaSign_9 rfl rfl ?_
  refine ax_Vtn (st := []) (as := [vi 0]) (b := 12) d_MS_dsaSign_10 cs_MS_dsaSign_10 (k_12 S) (c_MS_needContext S hfl rm) rfl rfl rfl (fun ok_10 => ?_) (fun no_10 => at_leave rfl (hP _ _ (dsNo 2 2 (c4_2 ⟨by decide, by decide⟩ (fun z => no_10 z.1)) (by decide) rfl frC.rfl')))
  show AW l G M_MS_dsaSign P 13 [(0, vr 12), (1, vi 2), (2, vi 0)] [] (sD h I L)
  refine aw_aload_n d_MS_dsaSign_13 rfl rfl ?_
  refine ax_getR (b := 13) d_MS_dsaSign_14 fd_MS_11 (k_12 S) (r_12_0 S) ?_
  refine aw_iconst d_MS_dsaSign_17 ⟨by decide, by decide⟩ ?_
  refine ax_aald (b := 14) d_MS_dsaSign_18 ⟨by rw [(k_13 S)]; decide, by rw [(k_13 S)]; decide⟩ (by omega) (by rw [n_13 S]; omega) (r_13_0 S) ?_
  refine ax_getIe (x := I 14 1) d_MS_dsaSign_19 fd_MS_55 (k_14 S) (rfl) ?_
  refine aw_bipush d_MS_dsaSign_22 ⟨by decide, by decide⟩ (by decide) ?_
  refine aw_icmp_eq (tgt := 49) d_MS_dsaSign_24 (by decide) (fun c_24 => ?_) (fun c_24 => ?_)
  · skip
    refine aw_aload_n d_MS_dsaSign_49 rfl rfl ?_
    refine ax_getR (b := 13) d_MS_dsaSign_50 fd_MS_11 (k_12 S) (r_12_0 S) ?_
    refine aw_iconst d_MS_dsaSign_53 ⟨by decide, by decide⟩ ?_
    refine ax_aald (b := 18) d_MS_dsaSign_54 ⟨by rw [(k_13 S)]; decide, by rw [(k_13 S)]; decide⟩ (by omega) (by rw [n_13 S]; omega) (r_13_2 S) ?_
    refine ax_getIe (x := I 18 1) d_MS_dsaSign_55 fd_MS_55 (k_18 S) (rfl) ?_
    refine aw_aload_n d_MS_dsaSign_58 rfl rfl ?_
    refine ax_getR (b := 32) d_MS_dsaSign_59 fd_MS_24 (k_12 S) (r_12_2 S) ?_
    refine aw_iload_n d_MS_dsaSign_62 rfl rfl ?_
    refine ax_aald (b := 35) d_MS_dsaSign_63 ⟨by rw [(k_32 S)]; decide, by rw [(k_32 S)]; decide⟩ (by omega) (by rw [n_32 S]; omega) (r_32_2 S) ?_
    refine ax_getIe (x := 4896) d_MS_dsaSign_64 fd_MS_128 (k_35 S) (pc_35_14 SD.2.1) ?_
    refine aw_icmp_eq (tgt := 80) d_MS_dsaSign_67 (by decide) (fun c_67 => ?_) (fun c_67 => ?_)
    · skip
      have sec_ : I 18 1 = sSec 2 := by show I 18 1 = 4896; omega
      refine aw_aload_n d_MS_dsaSign_80 rfl rfl ?_
      refine ax_getR (b := 146) d_MS_dsaSign_81 fd_MS_44 (k_12 S) (r_12_4 S) ?_
      refine aw_aload_n d_MS_dsaSign_84 rfl rfl ?_
      refine ax_getR (b := 13) d_MS_dsaSign_85 fd_MS_11 (k_12 S) (r_12_0 S) ?_
      refine aw_aload_n d_MS_dsaSign_88 rfl rfl ?_
      refine ax_getR (b := 32) d_MS_dsaSign_89 fd_MS_24 (k_12 S) (r_12_2 S) ?_
      refine aw_iload_n d_MS_dsaSign_92 rfl rfl ?_
      refine ax_aald (b := 35) d_MS_dsaSign_93 ⟨by rw [(k_32 S)]; decide, by rw [(k_32 S)]; decide⟩ (by omega) (by rw [n_32 S]; omega) (r_32_2 S) ?_
      refine aw_iload_n d_MS_dsaSign_94 rfl rfl ?_
      refine ax_VtD (st := []) (as := [vr 13, vr 35, vi 0]) (b := 146) d_MS_dsaSign_95 cs_MS_dsaSign_95 (k_146 S) (c_Si_sign20 S hfl rm SD cb) rfl rfl rfl (fun ok_ v_ I2 L2 q_ => ?_) (fun no_ I2 L2 q_ => at_leave rfl (hP _ _ (dsNo 4 4 (c4_4 ⟨by decide, by decide⟩ ⟨ok_10, by omega⟩ sec_ no_) (by decide) rfl q_)))
      show AW l G M_MS_dsaSign P 98 [(0, vr 12), (1, vi 2), (2, vi 0)] [vi v_] (sD h I2 L2)
      exact aw_iret d_MS_dsaSign_98 rfl (hP _ _ (Or.inl ⟨c4_0 ⟨by decide, by decide⟩ ⟨ok_10, by omega⟩ sec_ ok_, v_, I2, L2, q_, rfl, rfl⟩))
    · skip
      exact ax_throw hfl th_MS_dsaSign_70 rm.1 rm.2 (hP _ _ (dsNo 3 3 (c4_3 ⟨by decide, by decide⟩ ⟨ok_10, by omega⟩ (fun z => by have z1 : I 18 1 = 4896 := z; omega)) (by decide) rfl frC.rfl'))
  · skip
    refine aw_aload_n d_MS_dsaSign_27 rfl rfl ?_
    refine ax_getR (b := 13) d_MS_dsaSign_28 fd_MS_11 (k_12 S) (r_12_0 S) ?_
    refine aw_iconst d_MS_dsaSign_31 ⟨by decide, by decide⟩ ?_
    refine ax_aald (b := 14) d_MS_dsaSign_32 ⟨by rw [(k_13 S)]; decide, by rw [(k_13 S)]; decide⟩ (by omega) (by rw [n_13 S]; omega) (r_13_0 S) ?_
    refine ax_getIe (x := I 14 1) d_MS_dsaSign_33 fd_MS_55 (k_14 S) (rfl) ?_
    refine aw_if_eq (tgt := 49) d_MS_dsaSign_36 (by decide) (fun c_36 => ?_) (fun c_36 => ?_)
    · skip
      refine aw_aload_n d_MS_dsaSign_49 rfl rfl ?_
      refine ax_getR (b := 13) d_MS_dsaSign_50 fd_MS_11 (k_12 S) (r_12_0 S) ?_
      refine aw_iconst d_MS_dsaSign_53 ⟨by decide, by decide⟩ ?_
      refine ax_aald (b := 18) d_MS_dsaSign_54 ⟨by rw [(k_13 S)]; decide, by rw [(k_13 S)]; decide⟩ (by omega) (by rw [n_13 S]; omega) (r_13_2 S) ?_
      refine ax_getIe (x := I 18 1) d_MS_dsaSign_55 fd_MS_55 (k_18 S) (rfl) ?_
      refine aw_aload_n d_MS_dsaSign_58 rfl rfl ?_
      refine ax_getR (b := 32) d_MS_dsaSign_59 fd_MS_24 (k_12 S) (r_12_2 S) ?_
      refine aw_iload_n d_MS_dsaSign_62 rfl rfl ?_
      refine ax_aald (b := 35) d_MS_dsaSign_63 ⟨by rw [(k_32 S)]; decide, by rw [(k_32 S)]; decide⟩ (by omega) (by rw [n_32 S]; omega) (r_32_2 S) ?_
      refine ax_getIe (x := 4896) d_MS_dsaSign_64 fd_MS_128 (k_35 S) (pc_35_14 SD.2.1) ?_
      refine aw_icmp_eq (tgt := 80) d_MS_dsaSign_67 (by decide) (fun c_67 => ?_) (fun c_67 => ?_)
      · skip
        have sec_ : I 18 1 = sSec 2 := by show I 18 1 = 4896; omega
        refine aw_aload_n d_MS_dsaSign_80 rfl rfl ?_
        refine ax_getR (b := 146) d_MS_dsaSign_81 fd_MS_44 (k_12 S) (r_12_4 S) ?_
        refine aw_aload_n d_MS_dsaSign_84 rfl rfl ?_
        refine ax_getR (b := 13) d_MS_dsaSign_85 fd_MS_11 (k_12 S) (r_12_0 S) ?_
        refine aw_aload_n d_MS_dsaSign_88 rfl rfl ?_
        refine ax_getR (b := 32) d_MS_dsaSign_89 fd_MS_24 (k_12 S) (r_12_2 S) ?_
        refine aw_iload_n d_MS_dsaSign_92 rfl rfl ?_
        refine ax_aald (b := 35) d_MS_dsaSign_93 ⟨by rw [(k_32 S)]; decide, by rw [(k_32 S)]; decide⟩ (by omega) (by rw [n_32 S]; omega) (r_32_2 S) ?_
        refine aw_iload_n d_MS_dsaSign_94 rfl rfl ?_
        refine ax_VtD (st := []) (as := [vr 13, vr 35, vi 0]) (b := 146) d_MS_dsaSign_95 cs_MS_dsaSign_95 (k_146 S) (c_Si_sign20 S hfl rm SD cb) rfl rfl rfl (fun ok_ v_ I2 L2 q_ => ?_) (fun no_ I2 L2 q_ => at_leave rfl (hP _ _ (dsNo 4 4 (c4_4 ⟨by decide, by decide⟩ ⟨ok_10, by omega⟩ sec_ no_) (by decide) rfl q_)))
        show AW l G M_MS_dsaSign P 98 [(0, vr 12), (1, vi 2), (2, vi 0)] [vi v_] (sD h I2 L2)
        exact aw_iret d_MS_dsaSign_98 rfl (hP _ _ (Or.inl ⟨c4_0 ⟨by decide, by decide⟩ ⟨ok_10, by omega⟩ sec_ ok_, v_, I2, L2, q_, rfl, rfl⟩))
      · skip
        exact ax_throw hfl th_MS_dsaSign_70 rm.1 rm.2 (hP _ _ (dsNo 3 3 (c4_3 ⟨by decide, by decide⟩ ⟨ok_10, by omega⟩ (fun z => by have z1 : I 18 1 = 4896 := z; omega)) (by decide) rfl frC.rfl'))
    · skip
      exact ax_throw hfl th_MS_dsaSign_39 rm.1 rm.2 (hP _ _ (dsNo 2 2 (c4_2 ⟨by decide, by decide⟩ (fun z => by omega)) (by decide) rfl frC.rfl'))
set_option maxHeartbeats 800000 in
set_option maxRecDepth 100000 in
theorem c_MS_dsaSign2N {l : Launch} {G : a_G} {h : Hp} {I L : Nat → Int → Int} (S : Shp h) (hfl : l.flags = flags0) (rm : hX h + 1 ≤ a_NX ∧ hU h + 6 ≤ a_US) (SD : Std I L) (cb : CB I) : AW l G M_MS_dsaSign (DsR h I L ce4 (c4 ((0 ≤ (2 : Int) ∧ (2 : Int) < 3) ∧ ((-1 : Int) = 0 ∨ (-1 : Int) = -1)) (((-1 : Int) ≠ 0 ∨ I 22 1 ≤ 255) ∧ (I 14 1 = 32 ∨ I 14 1 = 0)) (I 18 1 = sSec (2 : Int)) (sgOk (2 : Int) (byAt I 18 19) ∧ sgRun (2 : Int) (byAt I 18 19) (rhC I ((-1 : Int))) (muC I (fun k => byAt I 18 19 (64 + k)) ((-1 : Int))) 814 0 ≠ none)) (fun v I' L' => FC (fun a => a = 24 ∨ a = 25 ∨ 36 ≤ a ∧ a ≤ 174 ∧ a ≠ 43) I L I' L' ∧ ∃ t, sgRun (2 : Int) (byAt I 18 19) (rhC I ((-1 : Int))) (muC I (fun k => byAt I 18 19 (64 + k)) ((-1 : Int))) 814 0 = some t ∧ v = t + 1 ∧ HB I' 24 25 (sPkt (2 : Int)) (sgPk (2 : Int) (byAt I 18 19) (rhC I ((-1 : Int))) (muC I (fun k => byAt I 18 19 (64 + k)) ((-1 : Int))) t))) 0 (a_ar 0 [vr 12, vi 2, vi (-1)]) [] (sD h I L) := by
  suffices key : ∀ P : a_R → Hp → Prop, (∀ r_ h2_, DsR h I L ce4 (c4 ((0 ≤ (2 : Int) ∧ (2 : Int) < 3) ∧ ((-1 : Int) = 0 ∨ (-1 : Int) = -1)) (((-1 : Int) ≠ 0 ∨ I 22 1 ≤ 255) ∧ (I 14 1 = 32 ∨ I 14 1 = 0)) (I 18 1 = sSec (2 : Int)) (sgOk (2 : Int) (byAt I 18 19) ∧ sgRun (2 : Int) (byAt I 18 19) (rhC I ((-1 : Int))) (muC I (fun k => byAt I 18 19 (64 + k)) ((-1 : Int))) 814 0 ≠ none)) (fun v I' L' => FC (fun a => a = 24 ∨ a = 25 ∨ 36 ≤ a ∧ a ≤ 174 ∧ a ≠ 43) I L I' L' ∧ ∃ t, sgRun (2 : Int) (byAt I 18 19) (rhC I ((-1 : Int))) (muC I (fun k => byAt I 18 19 (64 + k)) ((-1 : Int))) 814 0 = some t ∧ v = t + 1 ∧ HB I' 24 25 (sPkt (2 : Int)) (sgPk (2 : Int) (byAt I 18 19) (rhC I ((-1 : Int))) (muC I (fun k => byAt I 18 19 (64 + k)) ((-1 : Int))) t)) r_ h2_ → P r_ h2_) → AW l G M_MS_dsaSign P 0 [(0, vr 12), (1, vi 2), (2, vi (-1))] [] (sD h I L) from key _ (fun _ _ q => q)
  intro P hP
  refine aw_iload_n d_MS_dsaSign_0 rfl rfl ?_
  refine ax_Stn (st := []) (as := [vi 2]) d_MS_dsaSign_1 cs_MS_dsaSign_1 (c_MS_needSet hfl rm) rfl rfl rfl (fun ok_1 => ?_) (fun no_1 => at_leave rfl (hP _ _ (absurd (by decide) no_1)))
  show AW l G M_MS_dsaSign P 4 [(0, vr 12), (1, vi 2), (2, vi (-1))] [] (sD h I L)
  refine aw_iload_n d_MS_dsaSign_4 rfl rfl ?_
  refine ax_Stn (st := []) (as := [vi (-1)]) d_MS_dsaSign_5 cs_MS_dsaSign_5 (c_MS_needHow hfl rm) rfl rfl rfl (fun ok_5 => ?_) (fun no_5 => at_leave rfl (hP _ _ (absurd (by decide) no_5)))
  show AW l G M_MS_dsaSign P 8 [(0, vr 12), (1, vi 2), (2, vi (-1))] [] (sD h I L)
  refine aw_aload_n d_MS_dsaSign_8 rfl rfl ?_
  refine aw_iload_n d_MS_dsaSign_9 rfl rfl ?_
  refine ax_Vtn (st := []) (as := [vi (-1)]) (b := 12) d_MS_dsaSign_10 cs_MS_dsaSign_10 (k_12 S) (c_MS_needContext S hfl rm) rfl rfl rfl (fun ok_10 => ?_) (fun no_10 => at_leave rfl (hP _ _ (dsNo 2 2 (c4_2 ⟨by decide, by decide⟩ (fun z => no_10 z.1)) (by decide) rfl frC.rfl')))
  show AW l G M_MS_dsaSign P 13 [(0, vr 12), (1, vi 2), (2, vi (-1))] [] (sD h I L)
  refine aw_aload_n d_MS_dsaSign_13 rfl rfl ?_
  refine ax_getR (b := 13) d_MS_dsaSign_14 fd_MS_11 (k_12 S) (r_12_0 S) ?_
  refine aw_iconst d_MS_dsaSign_17 ⟨by decide, by decide⟩ ?_
  refine ax_aald (b := 14) d_MS_dsaSign_18 ⟨by rw [(k_13 S)]; decide, by rw [(k_13 S)]; decide⟩ (by omega) (by rw [n_13 S]; omega) (r_13_0 S) ?_
  refine ax_getIe (x := I 14 1) d_MS_dsaSign_19 fd_MS_55 (k_14 S) (rfl) ?_
  refine aw_bipush d_MS_dsaSign_22 ⟨by decide, by decide⟩ (by decide) ?_
  refine aw_icmp_eq (tgt := 49) d_MS_dsaSign_24 (by decide) (fun c_24 => ?_) (fun c_24 => ?_)
  · skip
    refine aw_aload_n d_MS_dsaSign_49 rfl rfl ?_
    refine ax_getR (b := 13) d_MS_dsaSign_50 fd_MS_11 (k_12 S) (r_12_0 S) ?_
    refine aw_iconst d_MS_dsaSign_53 ⟨by decide, by decide⟩ ?_
    refine ax_aald (b := 18) d_MS_dsaSign_54 ⟨by rw [(k_13 S)]; decide, by rw [(k_13 S)]; decide⟩ (by omega) (by rw [n_13 S]; omega) (r_13_2 S) ?_
    refine ax_getIe (x := I 18 1) d_MS_dsaSign_55 fd_MS_55 (k_18 S) (rfl) ?_
    refine aw_aload_n d_MS_dsaSign_58 rfl rfl ?_
    refine ax_getR (b := 32) d_MS_dsaSign_59 fd_MS_24 (k_12 S) (r_12_2 S) ?_
    refine aw_iload_n d_MS_dsaSign_62 rfl rfl ?_
    refine ax_aald (b := 35) d_MS_dsaSign_63 ⟨by rw [(k_32 S)]; decide, by rw [(k_32 S)]; decide⟩ (by omega) (by rw [n_32 S]; omega) (r_32_2 S) ?_
    refine ax_getIe (x := 4896) d_MS_dsaSign_64 fd_MS_128 (k_35 S) (pc_35_14 SD.2.1) ?_
    refine aw_icmp_eq (tgt := 80) d_MS_dsaSign_67 (by decide) (fun c_67 => ?_) (fun c_67 => ?_)
    · skip
      have sec_ : I 18 1 = sSec 2 := by show I 18 1 = 4896; omega
      refine aw_aload_n d_MS_dsaSign_80 rfl rfl ?_
      refine ax_getR (b := 146) d_MS_dsaSign_81 fd_MS_44 (k_12 S) (r_12_4 S) ?_
      refine aw_aload_n d_MS_dsaSign_84 rfl rfl ?_
      refine ax_getR (b := 13) d_MS_dsaSign_85 fd_MS_11 (k_12 S) (r_12_0 S) ?_
      refine aw_aload_n d_MS_dsaSign_88 rfl rfl ?_
      refine ax_getR (b := 32) d_MS_dsaSign_89 fd_MS_24 (k_12 S) (r_12_2 S) ?_
      refine aw_iload_n d_MS_dsaSign_92 rfl rfl ?_
      refine ax_aald (b := 35) d_MS_dsaSign_93 ⟨by rw [(k_32 S)]; decide, by rw [(k_32 S)]; decide⟩ (by omega) (by rw [n_32 S]; omega) (r_32_2 S) ?_
      refine aw_iload_n d_MS_dsaSign_94 rfl rfl ?_
      refine ax_VtD (st := []) (as := [vr 13, vr 35, vi (-1)]) (b := 146) d_MS_dsaSign_95 cs_MS_dsaSign_95 (k_146 S) (c_Si_sign2N S hfl rm SD cb) rfl rfl rfl (fun ok_ v_ I2 L2 q_ => ?_) (fun no_ I2 L2 q_ => at_leave rfl (hP _ _ (dsNo 4 4 (c4_4 ⟨by decide, by decide⟩ ⟨ok_10, by omega⟩ sec_ no_) (by decide) rfl q_)))
      show AW l G M_MS_dsaSign P 98 [(0, vr 12), (1, vi 2), (2, vi (-1))] [vi v_] (sD h I2 L2)
      exact aw_iret d_MS_dsaSign_98 rfl (hP _ _ (Or.inl ⟨c4_0 ⟨by decide, by decide⟩ ⟨ok_10, by omega⟩ sec_ ok_, v_, I2, L2, q_, rfl, rfl⟩))
    · skip
      exact ax_throw hfl th_MS_dsaSign_70 rm.1 rm.2 (hP _ _ (dsNo 3 3 (c4_3 ⟨by decide, by decide⟩ ⟨ok_10, by omega⟩ (fun z => by have z1 : I 18 1 = 4896 := z; omega)) (by decide) rfl frC.rfl'))
  · skip
    refine aw_aload_n d_MS_dsaSign_27 rfl rfl ?_
    refine ax_getR (b := 13) d_MS_dsaSign_28 fd_MS_11 (k_12 S) (r_12_0 S) ?_
    refine aw_iconst d_MS_dsaSign_31 ⟨by decide, by decide⟩ ?_
    refine ax_aald (b := 14) d_MS_dsaSign_32 ⟨by rw [(k_13 S)]; decide, by rw [(k_13 S)]; decide⟩ (by omega) (by rw [n_13 S]; omega) (r_13_0 S) ?_
    refine ax_getIe (x := I 14 1) d_MS_dsaSign_33 fd_MS_55 (k_14 S) (rfl) ?_
    refine aw_if_eq (tgt := 49) d_MS_dsaSign_36 (by decide) (fun c_36 => ?_) (fun c_36 => ?_)
    · skip
      refine aw_aload_n d_MS_dsaSign_49 rfl rfl ?_
      refine ax_getR (b := 13) d_MS_dsaSign_50 fd_MS_11 (k_12 S) (r_12_0 S) ?_
      refine aw_iconst d_MS_dsaSign_53 ⟨by decide, by decide⟩ ?_
      refine ax_aald (b := 18) d_MS_dsaSign_54 ⟨by rw [(k_13 S)]; decide, by rw [(k_13 S)]; decide⟩ (by omega) (by rw [n_13 S]; omega) (r_13_2 S) ?_
      refine ax_getIe (x := I 18 1) d_MS_dsaSign_55 fd_MS_55 (k_18 S) (rfl) ?_
      refine aw_aload_n d_MS_dsaSign_58 rfl rfl ?_
      refine ax_getR (b := 32) d_MS_dsaSign_59 fd_MS_24 (k_12 S) (r_12_2 S) ?_
      refine aw_iload_n d_MS_dsaSign_62 rfl rfl ?_
      refine ax_aald (b := 35) d_MS_dsaSign_63 ⟨by rw [(k_32 S)]; decide, by rw [(k_32 S)]; decide⟩ (by omega) (by rw [n_32 S]; omega) (r_32_2 S) ?_
      refine ax_getIe (x := 4896) d_MS_dsaSign_64 fd_MS_128 (k_35 S) (pc_35_14 SD.2.1) ?_
      refine aw_icmp_eq (tgt := 80) d_MS_dsaSign_67 (by decide) (fun c_67 => ?_) (fun c_67 => ?_)
      · skip
        have sec_ : I 18 1 = sSec 2 := by show I 18 1 = 4896; omega
        refine aw_aload_n d_MS_dsaSign_80 rfl rfl ?_
        refine ax_getR (b := 146) d_MS_dsaSign_81 fd_MS_44 (k_12 S) (r_12_4 S) ?_
        refine aw_aload_n d_MS_dsaSign_84 rfl rfl ?_
        refine ax_getR (b := 13) d_MS_dsaSign_85 fd_MS_11 (k_12 S) (r_12_0 S) ?_
        refine aw_aload_n d_MS_dsaSign_88 rfl rfl ?_
        refine ax_getR (b := 32) d_MS_dsaSign_89 fd_MS_24 (k_12 S) (r_12_2 S) ?_
        refine aw_iload_n d_MS_dsaSign_92 rfl rfl ?_
        refine ax_aald (b := 35) d_MS_dsaSign_93 ⟨by rw [(k_32 S)]; decide, by rw [(k_32 S)]; decide⟩ (by omega) (by rw [n_32 S]; omega) (r_32_2 S) ?_
        refine aw_iload_n d_MS_dsaSign_94 rfl rfl ?_
        refine ax_VtD (st := []) (as := [vr 13, vr 35, vi (-1)]) (b := 146) d_MS_dsaSign_95 cs_MS_dsaSign_95 (k_146 S) (c_Si_sign2N S hfl rm SD cb) rfl rfl rfl (fun ok_ v_ I2 L2 q_ => ?_) (fun no_ I2 L2 q_ => at_leave rfl (hP _ _ (dsNo 4 4 (c4_4 ⟨by decide, by decide⟩ ⟨ok_10, by omega⟩ sec_ no_) (by decide) rfl q_)))
        show AW l G M_MS_dsaSign P 98 [(0, vr 12), (1, vi 2), (2, vi (-1))] [vi v_] (sD h I2 L2)
        exact aw_iret d_MS_dsaSign_98 rfl (hP _ _ (Or.inl ⟨c4_0 ⟨by decide, by decide⟩ ⟨ok_10, by omega⟩ sec_ ok_, v_, I2, L2, q_, rfl, rfl⟩))
      · skip
        exact ax_throw hfl th_MS_dsaSign_70 rm.1 rm.2 (hP _ _ (dsNo 3 3 (c4_3 ⟨by decide, by decide⟩ ⟨ok_10, by omega⟩ (fun z => by have z1 : I 18 1 = 4896 := z; omega)) (by decide) rfl frC.rfl'))
    · skip
      exact ax_throw hfl th_MS_dsaSign_39 rm.1 rm.2 (hP _ _ (dsNo 2 2 (c4_2 ⟨by decide, by decide⟩ (fun z => by omega)) (by decide) rfl frC.rfl'))
set_option maxHeartbeats 800000 in
set_option maxRecDepth 100000 in
theorem c_MS_dsaSignX {l : Launch} {G : a_G} {h : Hp} {I L : Nat → Int → Int} {s how : Int} (S : Shp h) (hfl : l.flags = flags0) (rm : hX h + 1 ≤ a_NX ∧ hU h + 6 ≤ a_US) (SD : Std I L) (cb : CB I) (hs : ¬ (0 ≤ s ∧ s < 3)) : AW l G M_MS_dsaSign (DsR h I L ce4 (c4 ((0 ≤ s ∧ s < 3) ∧ (how = 0 ∨ how = -1)) ((how ≠ 0 ∨ I 22 1 ≤ 255) ∧ (I 14 1 = 32 ∨ I 14 1 = 0)) (I 18 1 = sSec s) (sgOk s (byAt I 18 19) ∧ sgRun s (byAt I 18 19) (rhC I (how)) (muC I (fun k => byAt I 18 19 (64 + k)) (how)) 814 0 ≠ none)) (fun v I' L' => FC (fun a => a = 24 ∨ a = 25 ∨ 36 ≤ a ∧ a ≤ 174 ∧ a ≠ 43) I L I' L' ∧ ∃ t, sgRun s (byAt I 18 19) (rhC I (how)) (muC I (fun k => byAt I 18 19 (64 + k)) (how)) 814 0 = some t ∧ v = t + 1 ∧ HB I' 24 25 (sPkt s) (sgPk s (byAt I 18 19) (rhC I (how)) (muC I (fun k => byAt I 18 19 (64 + k)) (how)) t))) 0 (a_ar 0 [vr 12, vi s, vi how]) [] (sD h I L) := by
  suffices key : ∀ P : a_R → Hp → Prop, (∀ r_ h2_, DsR h I L ce4 (c4 ((0 ≤ s ∧ s < 3) ∧ (how = 0 ∨ how = -1)) ((how ≠ 0 ∨ I 22 1 ≤ 255) ∧ (I 14 1 = 32 ∨ I 14 1 = 0)) (I 18 1 = sSec s) (sgOk s (byAt I 18 19) ∧ sgRun s (byAt I 18 19) (rhC I (how)) (muC I (fun k => byAt I 18 19 (64 + k)) (how)) 814 0 ≠ none)) (fun v I' L' => FC (fun a => a = 24 ∨ a = 25 ∨ 36 ≤ a ∧ a ≤ 174 ∧ a ≠ 43) I L I' L' ∧ ∃ t, sgRun s (byAt I 18 19) (rhC I (how)) (muC I (fun k => byAt I 18 19 (64 + k)) (how)) 814 0 = some t ∧ v = t + 1 ∧ HB I' 24 25 (sPkt s) (sgPk s (byAt I 18 19) (rhC I (how)) (muC I (fun k => byAt I 18 19 (64 + k)) (how)) t)) r_ h2_ → P r_ h2_) → AW l G M_MS_dsaSign P 0 [(0, vr 12), (1, vi s), (2, vi how)] [] (sD h I L) from key _ (fun _ _ q => q)
  intro P hP
  refine aw_iload_n d_MS_dsaSign_0 rfl rfl ?_
  refine ax_Stn (st := []) (as := [vi s]) d_MS_dsaSign_1 cs_MS_dsaSign_1 (c_MS_needSet hfl rm) rfl rfl rfl (fun ok_1 => ?_) (fun no_1 => at_leave rfl (hP _ _ (dsNo 1 0 (c4_1 (fun z => no_1 z.1)) (by decide) rfl frC.rfl')))
  show AW l G M_MS_dsaSign P 4 [(0, vr 12), (1, vi s), (2, vi how)] [] (sD h I L)
  exact absurd ok_1 hs
set_option maxHeartbeats 800000 in
set_option maxRecDepth 100000 in
theorem c_MS_dsaSignY {l : Launch} {G : a_G} {h : Hp} {I L : Nat → Int → Int} {s how : Int} (S : Shp h) (hfl : l.flags = flags0) (rm : hX h + 1 ≤ a_NX ∧ hU h + 6 ≤ a_US) (SD : Std I L) (cb : CB I) (hw : ¬ (how = 0 ∨ how = -1)) : AW l G M_MS_dsaSign (DsR h I L ce4 (c4 ((0 ≤ s ∧ s < 3) ∧ (how = 0 ∨ how = -1)) ((how ≠ 0 ∨ I 22 1 ≤ 255) ∧ (I 14 1 = 32 ∨ I 14 1 = 0)) (I 18 1 = sSec s) (sgOk s (byAt I 18 19) ∧ sgRun s (byAt I 18 19) (rhC I (how)) (muC I (fun k => byAt I 18 19 (64 + k)) (how)) 814 0 ≠ none)) (fun v I' L' => FC (fun a => a = 24 ∨ a = 25 ∨ 36 ≤ a ∧ a ≤ 174 ∧ a ≠ 43) I L I' L' ∧ ∃ t, sgRun s (byAt I 18 19) (rhC I (how)) (muC I (fun k => byAt I 18 19 (64 + k)) (how)) 814 0 = some t ∧ v = t + 1 ∧ HB I' 24 25 (sPkt s) (sgPk s (byAt I 18 19) (rhC I (how)) (muC I (fun k => byAt I 18 19 (64 + k)) (how)) t))) 0 (a_ar 0 [vr 12, vi s, vi how]) [] (sD h I L) := by
  suffices key : ∀ P : a_R → Hp → Prop, (∀ r_ h2_, DsR h I L ce4 (c4 ((0 ≤ s ∧ s < 3) ∧ (how = 0 ∨ how = -1)) ((how ≠ 0 ∨ I 22 1 ≤ 255) ∧ (I 14 1 = 32 ∨ I 14 1 = 0)) (I 18 1 = sSec s) (sgOk s (byAt I 18 19) ∧ sgRun s (byAt I 18 19) (rhC I (how)) (muC I (fun k => byAt I 18 19 (64 + k)) (how)) 814 0 ≠ none)) (fun v I' L' => FC (fun a => a = 24 ∨ a = 25 ∨ 36 ≤ a ∧ a ≤ 174 ∧ a ≠ 43) I L I' L' ∧ ∃ t, sgRun s (byAt I 18 19) (rhC I (how)) (muC I (fun k => byAt I 18 19 (64 + k)) (how)) 814 0 = some t ∧ v = t + 1 ∧ HB I' 24 25 (sPkt s) (sgPk s (byAt I 18 19) (rhC I (how)) (muC I (fun k => byAt I 18 19 (64 + k)) (how)) t)) r_ h2_ → P r_ h2_) → AW l G M_MS_dsaSign P 0 [(0, vr 12), (1, vi s), (2, vi how)] [] (sD h I L) from key _ (fun _ _ q => q)
  intro P hP
  refine aw_iload_n d_MS_dsaSign_0 rfl rfl ?_
  refine ax_Stn (st := []) (as := [vi s]) d_MS_dsaSign_1 cs_MS_dsaSign_1 (c_MS_needSet hfl rm) rfl rfl rfl (fun ok_1 => ?_) (fun no_1 => at_leave rfl (hP _ _ (dsNo 1 0 (c4_1 (fun z => no_1 z.1)) (by decide) rfl frC.rfl')))
  show AW l G M_MS_dsaSign P 4 [(0, vr 12), (1, vi s), (2, vi how)] [] (sD h I L)
  refine aw_iload_n d_MS_dsaSign_4 rfl rfl ?_
  refine ax_Stn (st := []) (as := [vi how]) d_MS_dsaSign_5 cs_MS_dsaSign_5 (c_MS_needHow hfl rm) rfl rfl rfl (fun ok_5 => ?_) (fun no_5 => at_leave rfl (hP _ _ (dsNo 1 0 (c4_1 (fun z => no_5 z.2)) (by decide) rfl frC.rfl')))
  show AW l G M_MS_dsaSign P 8 [(0, vr 12), (1, vi s), (2, vi how)] [] (sD h I L)
  exact absurd ok_5 hw
theorem c_MS_dsaSign {l : Launch} {G : a_G} {h : Hp} {I L : Nat → Int → Int} {s how : Int} (S : Shp h) (hfl : l.flags = flags0) (rm : hX h + 1 ≤ a_NX ∧ hU h + 6 ≤ a_US) (SD : Std I L) (cb : CB I) : AW l G M_MS_dsaSign (DsR h I L ce4 (c4 ((0 ≤ s ∧ s < 3) ∧ (how = 0 ∨ how = -1)) ((how ≠ 0 ∨ I 22 1 ≤ 255) ∧ (I 14 1 = 32 ∨ I 14 1 = 0)) (I 18 1 = sSec s) (sgOk s (byAt I 18 19) ∧ sgRun s (byAt I 18 19) (rhC I (how)) (muC I (fun k => byAt I 18 19 (64 + k)) (how)) 814 0 ≠ none)) (fun v I' L' => FC (fun a => a = 24 ∨ a = 25 ∨ 36 ≤ a ∧ a ≤ 174 ∧ a ≠ 43) I L I' L' ∧ ∃ t, sgRun s (byAt I 18 19) (rhC I (how)) (muC I (fun k => byAt I 18 19 (64 + k)) (how)) 814 0 = some t ∧ v = t + 1 ∧ HB I' 24 25 (sPkt s) (sgPk s (byAt I 18 19) (rhC I (how)) (muC I (fun k => byAt I 18 19 (64 + k)) (how)) t))) 0 (a_ar 0 [vr 12, vi s, vi how]) [] (sD h I L) := by
  by_cases hs : 0 ≤ s ∧ s < 3
  · by_cases hw : how = 0 ∨ how = -1
    · rcases (by omega : s = 0 ∨ s = 1 ∨ s = 2) with e | e | e
      · subst e
        rcases hw with e2 | e2
        · subst e2; exact c_MS_dsaSign00 S hfl rm SD cb
        · subst e2; exact c_MS_dsaSign0N S hfl rm SD cb
      · subst e
        rcases hw with e2 | e2
        · subst e2; exact c_MS_dsaSign10 S hfl rm SD cb
        · subst e2; exact c_MS_dsaSign1N S hfl rm SD cb
      · subst e
        rcases hw with e2 | e2
        · subst e2; exact c_MS_dsaSign20 S hfl rm SD cb
        · subst e2; exact c_MS_dsaSign2N S hfl rm SD cb
    · exact c_MS_dsaSignY S hfl rm SD cb hw
  · exact c_MS_dsaSignX S hfl rm SD cb hs
set_option maxHeartbeats 800000 in
set_option maxRecDepth 100000 in
theorem c_La_dsaSign {l : Launch} {G : a_G} {h : Hp} {I L : Nat → Int → Int} {s how : Int} (S : Shp h) (hfl : l.flags = flags0) (rm : hX h + 1 ≤ a_NX ∧ hU h + 6 ≤ a_US) (SD : Std I L) (cb : CB I) : AW l G M_La_dsaSign (WsR h I L ce4 (c4 ((0 ≤ s ∧ s < 3) ∧ (how = 0 ∨ how = -1)) ((how ≠ 0 ∨ I 22 1 ≤ 255) ∧ (I 14 1 = 32 ∨ I 14 1 = 0)) (I 18 1 = sSec s) (sgOk s (byAt I 18 19) ∧ sgRun s (byAt I 18 19) (rhC I (how)) (muC I (fun k => byAt I 18 19 (64 + k)) (how)) 814 0 ≠ none)) (fun v I' L' => FC (fun a => a = 24 ∨ a = 25 ∨ 36 ≤ a ∧ a ≤ 174 ∧ a ≠ 43) I L I' L' ∧ ∃ t, sgRun s (byAt I 18 19) (rhC I (how)) (muC I (fun k => byAt I 18 19 (64 + k)) (how)) 814 0 = some t ∧ v = t + 1 ∧ HB I' 24 25 (sPkt s) (sgPk s (byAt I 18 19) (rhC I (how)) (muC I (fun k => byAt I 18 19 (64 + k)) (how)) t))) 0 (a_ar 0 [vr 12, vi s, vi how, vr 268]) [] (sD h I L) := by
  suffices key : ∀ P : a_R → Hp → Prop, (∀ r_ h2_, WsR h I L ce4 (c4 ((0 ≤ s ∧ s < 3) ∧ (how = 0 ∨ how = -1)) ((how ≠ 0 ∨ I 22 1 ≤ 255) ∧ (I 14 1 = 32 ∨ I 14 1 = 0)) (I 18 1 = sSec s) (sgOk s (byAt I 18 19) ∧ sgRun s (byAt I 18 19) (rhC I (how)) (muC I (fun k => byAt I 18 19 (64 + k)) (how)) 814 0 ≠ none)) (fun v I' L' => FC (fun a => a = 24 ∨ a = 25 ∨ 36 ≤ a ∧ a ≤ 174 ∧ a ≠ 43) I L I' L' ∧ ∃ t, sgRun s (byAt I 18 19) (rhC I (how)) (muC I (fun k => byAt I 18 19 (64 + k)) (how)) 814 0 = some t ∧ v = t + 1 ∧ HB I' 24 25 (sPkt s) (sgPk s (byAt I 18 19) (rhC I (how)) (muC I (fun k => byAt I 18 19 (64 + k)) (how)) t)) r_ h2_ → P r_ h2_) → AW l G M_La_dsaSign P 0 [(0, vr 12), (1, vi s), (2, vi how), (3, vr 268)] [] (sD h I L) from key _ (fun _ _ q => q)
  intro P hP
  refine aw_aload_n d_La_dsaSign_0 rfl rfl ?_
  refine aw_iconst d_La_dsaSign_1 ⟨by decide, by decide⟩ ?_
  refine aw_aload_n d_La_dsaSign_2 rfl rfl ?_
  refine aw_iload_n d_La_dsaSign_3 rfl rfl ?_
  refine aw_iload_n d_La_dsaSign_4 rfl rfl ?_
  refine ax_Vt (st := [vi 0, vr 268]) (as := [vi s, vi how]) (b := 12) d_La_dsaSign_5 cs_La_dsaSign_5 (k_12 S) (c_MS_dsaSign S hfl rm SD cb) rfl rfl rfl (fun v_ h_ q_ => ?_) (fun x_ h_ q_ => ?_)
  · rcases q_ with ⟨q1, v, I2, L2, q2, q3, q4⟩ | ⟨q1, I2, L2, q2, q3, q4⟩
    · cases q3; subst q4
      show AW l G M_La_dsaSign P 8 [(0, vr 12), (1, vi s), (2, vi how), (3, vr 268)] [vi v, vi 0, vr 268] (sD h I2 L2)
      refine aw_i2l d_La_dsaSign_8 ?_
      refine ax_last d_La_dsaSign_9 (k_268 S) (by decide) (by omega) (by rw [n_268 S]; omega) ?_
      refine aw_goto (tgt := 29) d_La_dsaSign_10 (by decide) ?_
      refine aw_iconst d_La_dsaSign_29 ⟨by decide, by decide⟩ ?_
      exact aw_iret d_La_dsaSign_30 rfl (hP _ _ (Or.inl ⟨q1, _, I2, L2, q2, rfl, rfl⟩))
    · cases q3
  · rcases q_ with ⟨q1, v, I2, L2, q2, q3, q4⟩ | ⟨q1, I2, L2, q2, q3, q4⟩
    · cases q3
    · cases q3; subst q4
      rcases (show c4 ((0 ≤ s ∧ s < 3) ∧ (how = 0 ∨ how = -1)) ((how ≠ 0 ∨ I 22 1 ≤ 255) ∧ (I 14 1 = 32 ∨ I 14 1 = 0)) (I 18 1 = sSec s) (sgOk s (byAt I 18 19) ∧ sgRun s (byAt I 18 19) (rhC I (how)) (muC I (fun k => byAt I 18 19 (64 + k)) (how)) 814 0 ≠ none) = 0 ∨ c4 ((0 ≤ s ∧ s < 3) ∧ (how = 0 ∨ how = -1)) ((how ≠ 0 ∨ I 22 1 ≤ 255) ∧ (I 14 1 = 32 ∨ I 14 1 = 0)) (I 18 1 = sSec s) (sgOk s (byAt I 18 19) ∧ sgRun s (byAt I 18 19) (rhC I (how)) (muC I (fun k => byAt I 18 19 (64 + k)) (how)) 814 0 ≠ none) = 1 ∨ c4 ((0 ≤ s ∧ s < 3) ∧ (how = 0 ∨ how = -1)) ((how ≠ 0 ∨ I 22 1 ≤ 255) ∧ (I 14 1 = 32 ∨ I 14 1 = 0)) (I 18 1 = sSec s) (sgOk s (byAt I 18 19) ∧ sgRun s (byAt I 18 19) (rhC I (how)) (muC I (fun k => byAt I 18 19 (64 + k)) (how)) 814 0 ≠ none) = 2 ∨ c4 ((0 ≤ s ∧ s < 3) ∧ (how = 0 ∨ how = -1)) ((how ≠ 0 ∨ I 22 1 ≤ 255) ∧ (I 14 1 = 32 ∨ I 14 1 = 0)) (I 18 1 = sSec s) (sgOk s (byAt I 18 19) ∧ sgRun s (byAt I 18 19) (rhC I (how)) (muC I (fun k => byAt I 18 19 (64 + k)) (how)) 814 0 ≠ none) = 3 ∨ c4 ((0 ≤ s ∧ s < 3) ∧ (how = 0 ∨ how = -1)) ((how ≠ 0 ∨ I 22 1 ≤ 255) ∧ (I 14 1 = 32 ∨ I 14 1 = 0)) (I 18 1 = sSec s) (sgOk s (byAt I 18 19) ∧ sgRun s (byAt I 18 19) (rhC I (how)) (muC I (fun k => byAt I 18 19 (64 + k)) (how)) 814 0 ≠ none) = 4 from c4_or _ _ _ _) with cc | cc | cc | cc | cc
      · exact absurd cc q1
      · rw [cc, show ce4 1 = 0 from rfl]
        refine at_catch (e := 0) (tgt := 13) (i := 19) (pre := []) (rest := [(0, 10, 17, 46), (0, 10, 21, 53), (0, 10, 25, 48)]) (a := 0) (b := 10) wN_k rfl ⟨by decide, by decide⟩ (by decide) cl_19 ca_0 (fun q hq => by cases hq) ?_
        refine aw_astore (lv' := [(4, vr (hX h)), (0, vr 12), (1, vi s), (2, vi how), (3, vr 268)]) d_La_dsaSign_13 (by decide) rfl ?_
        refine aw_iconst d_La_dsaSign_15 ⟨by decide, by decide⟩ ?_
        exact aw_iret d_La_dsaSign_16 rfl (hP _ _ (Or.inr ⟨q1, I2, L2, q2, by rw [cc], by rw [cc]; rfl⟩))
      · rw [cc, show ce4 2 = 2 from rfl]
        refine at_catch (e := 2) (tgt := 17) (i := 46) (pre := [(0, 10, 13, 19)]) (rest := [(0, 10, 21, 53), (0, 10, 25, 48)]) (a := 0) (b := 10) wN_k rfl ⟨by decide, by decide⟩ (by decide) cl_46 ca_2 (fun q hq => by simp only [List.mem_cons, List.not_mem_nil, or_false] at hq; subst hq; (first | exact ⟨by decide, 0, cl_19, nc_2_0⟩)) ?_
        refine aw_astore (lv' := [(4, vr (hX h)), (0, vr 12), (1, vi s), (2, vi how), (3, vr 268)]) d_La_dsaSign_17 (by decide) rfl ?_
        refine aw_iconst d_La_dsaSign_19 ⟨by decide, by decide⟩ ?_
        exact aw_iret d_La_dsaSign_20 rfl (hP _ _ (Or.inr ⟨q1, I2, L2, q2, by rw [cc], by rw [cc]; rfl⟩))
      · rw [cc, show ce4 3 = 3 from rfl]
        refine at_catch (e := 3) (tgt := 21) (i := 53) (pre := [(0, 10, 13, 19), (0, 10, 17, 46)]) (rest := [(0, 10, 25, 48)]) (a := 0) (b := 10) wN_k rfl ⟨by decide, by decide⟩ (by decide) cl_53 ca_3 (fun q hq => by simp only [List.mem_cons, List.not_mem_nil, or_false] at hq; rcases hq with rfl | rfl <;> (first | exact ⟨by decide, 0, cl_19, nc_3_0⟩ | exact ⟨by decide, 2, cl_46, nc_3_2⟩)) ?_
        refine aw_astore (lv' := [(4, vr (hX h)), (0, vr 12), (1, vi s), (2, vi how), (3, vr 268)]) d_La_dsaSign_21 (by decide) rfl ?_
        refine aw_iconst d_La_dsaSign_23 ⟨by decide, by decide⟩ ?_
        exact aw_iret d_La_dsaSign_24 rfl (hP _ _ (Or.inr ⟨q1, I2, L2, q2, by rw [cc], by rw [cc]; rfl⟩))
      · rw [cc, show ce4 4 = 4 from rfl]
        refine at_catch (e := 4) (tgt := 25) (i := 48) (pre := [(0, 10, 13, 19), (0, 10, 17, 46), (0, 10, 21, 53)]) (rest := []) (a := 0) (b := 10) wN_k rfl ⟨by decide, by decide⟩ (by decide) cl_48 ca_4 (fun q hq => by simp only [List.mem_cons, List.not_mem_nil, or_false] at hq; rcases hq with rfl | rfl | rfl <;> (first | exact ⟨by decide, 0, cl_19, nc_4_0⟩ | exact ⟨by decide, 2, cl_46, nc_4_2⟩ | exact ⟨by decide, 3, cl_53, nc_4_3⟩)) ?_
        refine aw_astore (lv' := [(4, vr (hX h)), (0, vr 12), (1, vi s), (2, vi how), (3, vr 268)]) d_La_dsaSign_25 (by decide) rfl ?_
        refine aw_iconst d_La_dsaSign_27 ⟨by decide, by decide⟩ ?_
        exact aw_iret d_La_dsaSign_28 rfl (hP _ _ (Or.inr ⟨q1, I2, L2, q2, by rw [cc], by rw [cc]; rfl⟩))
set_option maxHeartbeats 800000 in
set_option maxRecDepth 100000 in
theorem c_MS_dsaVerify00 {l : Launch} {G : a_G} {h : Hp} {I L : Nat → Int → Int} (S : Shp h) (hfl : l.flags = flags0) (rm : hX h + 1 ≤ a_NX ∧ hU h + 6 ≤ a_US) (SD : Std I L) (cb : CB I) : AW l G M_MS_dsaVerify (DsR h I L ce4 (c4 ((0 ≤ (0 : Int) ∧ (0 : Int) < 3) ∧ ((0 : Int) = 0 ∨ (0 : Int) = -1)) ((0 : Int) ≠ 0 ∨ I 22 1 ≤ 255) (I 16 1 = 32 + 320 * pK (0 : Int)) (vfPre (0 : Int) (byAt I 24 25) (I 24 1) → vfOk (0 : Int) (byAt I 16 17) (byAt I 24 25))) (fun v I' L' => (¬ vfPre (0 : Int) (byAt I 24 25) (I 24 1) ∧ v = 0 ∧ FC (fun a => 36 ≤ a ∧ a ≤ 174 ∧ a ≠ 43) I L I' L') ∨ (vfPre (0 : Int) (byAt I 24 25) (I 24 1) ∧ FC (fun a => a = 26 ∨ a = 27 ∨ 36 ≤ a ∧ a ≤ 174 ∧ a ≠ 43) I L I' L' ∧ HB I' 26 27 (pC (0 : Int)) (vfC (0 : Int) (byAt I 16 17) (byAt I 24 25) (muV I ((0 : Int)))) ∧ (v = 0 ∨ v = 1) ∧ (v = 1 ↔ ∀ j, 0 ≤ j → j < pC (0 : Int) → vfC (0 : Int) (byAt I 16 17) (byAt I 24 25) (muV I ((0 : Int))) j = byAt I 24 25 j)))) 0 (a_ar 0 [vr 12, vi 0, vi 0]) [] (sD h I L) := by
  suffices key : ∀ P : a_R → Hp → Prop, (∀ r_ h2_, DsR h I L ce4 (c4 ((0 ≤ (0 : Int) ∧ (0 : Int) < 3) ∧ ((0 : Int) = 0 ∨ (0 : Int) = -1)) ((0 : Int) ≠ 0 ∨ I 22 1 ≤ 255) (I 16 1 = 32 + 320 * pK (0 : Int)) (vfPre (0 : Int) (byAt I 24 25) (I 24 1) → vfOk (0 : Int) (byAt I 16 17) (byAt I 24 25))) (fun v I' L' => (¬ vfPre (0 : Int) (byAt I 24 25) (I 24 1) ∧ v = 0 ∧ FC (fun a => 36 ≤ a ∧ a ≤ 174 ∧ a ≠ 43) I L I' L') ∨ (vfPre (0 : Int) (byAt I 24 25) (I 24 1) ∧ FC (fun a => a = 26 ∨ a = 27 ∨ 36 ≤ a ∧ a ≤ 174 ∧ a ≠ 43) I L I' L' ∧ HB I' 26 27 (pC (0 : Int)) (vfC (0 : Int) (byAt I 16 17) (byAt I 24 25) (muV I ((0 : Int)))) ∧ (v = 0 ∨ v = 1) ∧ (v = 1 ↔ ∀ j, 0 ≤ j → j < pC (0 : Int) → vfC (0 : Int) (byAt I 16 17) (byAt I 24 25) (muV I ((0 : Int))) j = byAt I 24 25 j))) r_ h2_ → P r_ h2_) → AW l G M_MS_dsaVerify P 0 [(0, vr 12), (1, vi 0), (2, vi 0)] [] (sD h I L) from key _ (fun _ _ q => q)
  intro P hP
  refine aw_iload_n d_MS_dsaVerify_0 rfl rfl ?_
  refine ax_Stn (st := []) (as := [vi 0]) d_MS_dsaVerify_1 cs_MS_dsaVerify_1 (c_MS_needSet hfl rm) rfl rfl rfl (fun ok_1 => ?_) (fun no_1 => at_leave rfl (hP _ _ (absurd (by decide) no_1)))
  show AW l G M_MS_dsaVerify P 4 [(0, vr 12), (1, vi 0), (2, vi 0)] [] (sD h I L)
  refine aw_iload_n d_MS_dsaVerify_4 rfl rfl ?_
  refine ax_Stn (st := []) (as := [vi 0]) d_MS_dsaVerify_5 cs_MS_dsaVerify_5 (c_MS_needHow hfl rm) rfl rfl rfl (fun ok_5 => ?_) (fun no_5 => at_leave rfl (hP _ _ (absurd (by decide) no_5)))
  show AW l G M_MS_dsaVerify P 8 [(0, vr 12), (1, vi 0), (2, vi 0)] [] (sD h I L)
  refine aw_aload_n d_MS_dsaVerify_8 rfl rfl ?_
  refine aw_iload_n d_MS_dsaVerify_9 rfl rfl ?_
  refine ax_Vtn (st := []) (as := [vi 0]) (b := 12) d_MS_dsaVerify_10 cs_MS_dsaVerify_10 (k_12 S) (c_MS_needContext S hfl rm) rfl rfl rfl (fun ok_10 => ?_) (fun no_10 => at_leave rfl (hP _ _ (dsNo 2 2 (c4_2 ⟨by decide, by decide⟩ (no_10)) (by decide) rfl frC.rfl')))
  show AW l G M_MS_dsaVerify P 13 [(0, vr 12), (1, vi 0), (2, vi 0)] [] (sD h I L)
  refine aw_aload_n d_MS_dsaVerify_13 rfl rfl ?_
  refine ax_getR (b := 13) d_MS_dsaVerify_14 fd_MS_11 (k_12 S) (r_12_0 S) ?_
  refine aw_iconst d_MS_dsaVerify_17 ⟨by decide, by decide⟩ ?_
  refine ax_aald (b := 16) d_MS_dsaVerify_18 ⟨by rw [(k_13 S)]; decide, by rw [(k_13 S)]; decide⟩ (by omega) (by rw [n_13 S]; omega) (r_13_1 S) ?_
  refine ax_getIe (x := I 16 1) d_MS_dsaVerify_19 fd_MS_55 (k_16 S) (rfl) ?_
  refine aw_aload_n d_MS_dsaVerify_22 rfl rfl ?_
  refine ax_getR (b := 32) d_MS_dsaVerify_23 fd_MS_24 (k_12 S) (r_12_2 S) ?_
  refine aw_iload_n d_MS_dsaVerify_26 rfl rfl ?_
  refine ax_aald (b := 33) d_MS_dsaVerify_27 ⟨by rw [(k_32 S)]; decide, by rw [(k_32 S)]; decide⟩ (by omega) (by rw [n_32 S]; omega) (r_32_0 S) ?_
  refine ax_getIe (x := 1312) d_MS_dsaVerify_28 fd_MS_140 (k_33 S) (pc_33_13 SD.2.1) ?_
  refine aw_icmp_eq (tgt := 44) d_MS_dsaVerify_31 (by decide) (fun c_31 => ?_) (fun c_31 => ?_)
  · skip
    have pub_ : I 16 1 = 32 + 320 * pK 0 := by show I 16 1 = 1312; omega
    refine aw_aload_n d_MS_dsaVerify_44 rfl rfl ?_
    refine ax_getR (b := 170) d_MS_dsaVerify_45 fd_MS_51 (k_12 S) (r_12_5 S) ?_
    refine aw_aload_n d_MS_dsaVerify_48 rfl rfl ?_
    refine ax_getR (b := 13) d_MS_dsaVerify_49 fd_MS_11 (k_12 S) (r_12_0 S) ?_
    refine aw_aload_n d_MS_dsaVerify_52 rfl rfl ?_
    refine ax_getR (b := 32) d_MS_dsaVerify_53 fd_MS_24 (k_12 S) (r_12_2 S) ?_
    refine aw_iload_n d_MS_dsaVerify_56 rfl rfl ?_
    refine ax_aald (b := 33) d_MS_dsaVerify_57 ⟨by rw [(k_32 S)]; decide, by rw [(k_32 S)]; decide⟩ (by omega) (by rw [n_32 S]; omega) (r_32_0 S) ?_
    refine aw_iload_n d_MS_dsaVerify_58 rfl rfl ?_
    refine ax_VtD (st := []) (as := [vr 13, vr 33, vi 0]) (b := 170) d_MS_dsaVerify_59 cs_MS_dsaVerify_59 (k_170 S) (c_Ve_verify00 S hfl rm SD cb) rfl rfl rfl (fun ok_ v_ I2 L2 q_ => ?_) (fun no_ I2 L2 q_ => at_leave rfl (hP _ _ (dsNo 4 4 (c4_4 ⟨by decide, by decide⟩ ok_10 pub_ no_) (by decide) rfl q_)))
    show AW l G M_MS_dsaVerify P 62 [(0, vr 12), (1, vi 0), (2, vi 0)] [vi v_] (sD h I2 L2)
    exact aw_zret d_MS_dsaVerify_62 rfl (by rcases q_ with y | y; exact ⟨by rw [y.2.1]; decide, by rw [y.2.1]; decide⟩; exact ⟨by have := y.2.2.2.1; omega, by have := y.2.2.2.1; omega⟩) (hP _ _ (Or.inl ⟨c4_0 ⟨by decide, by decide⟩ ok_10 pub_ ok_, v_, I2, L2, q_, rfl, rfl⟩))
  · skip
    exact ax_throw hfl th_MS_dsaVerify_34 rm.1 rm.2 (hP _ _ (dsNo 3 3 (c4_3 ⟨by decide, by decide⟩ ok_10 (fun z => by have z1 : I 16 1 = 1312 := z; omega)) (by decide) rfl frC.rfl'))
set_option maxHeartbeats 800000 in
set_option maxRecDepth 100000 in
theorem c_MS_dsaVerify0N {l : Launch} {G : a_G} {h : Hp} {I L : Nat → Int → Int} (S : Shp h) (hfl : l.flags = flags0) (rm : hX h + 1 ≤ a_NX ∧ hU h + 6 ≤ a_US) (SD : Std I L) (cb : CB I) : AW l G M_MS_dsaVerify (DsR h I L ce4 (c4 ((0 ≤ (0 : Int) ∧ (0 : Int) < 3) ∧ ((-1 : Int) = 0 ∨ (-1 : Int) = -1)) ((-1 : Int) ≠ 0 ∨ I 22 1 ≤ 255) (I 16 1 = 32 + 320 * pK (0 : Int)) (vfPre (0 : Int) (byAt I 24 25) (I 24 1) → vfOk (0 : Int) (byAt I 16 17) (byAt I 24 25))) (fun v I' L' => (¬ vfPre (0 : Int) (byAt I 24 25) (I 24 1) ∧ v = 0 ∧ FC (fun a => 36 ≤ a ∧ a ≤ 174 ∧ a ≠ 43) I L I' L') ∨ (vfPre (0 : Int) (byAt I 24 25) (I 24 1) ∧ FC (fun a => a = 26 ∨ a = 27 ∨ 36 ≤ a ∧ a ≤ 174 ∧ a ≠ 43) I L I' L' ∧ HB I' 26 27 (pC (0 : Int)) (vfC (0 : Int) (byAt I 16 17) (byAt I 24 25) (muV I ((-1 : Int)))) ∧ (v = 0 ∨ v = 1) ∧ (v = 1 ↔ ∀ j, 0 ≤ j → j < pC (0 : Int) → vfC (0 : Int) (byAt I 16 17) (byAt I 24 25) (muV I ((-1 : Int))) j = byAt I 24 25 j)))) 0 (a_ar 0 [vr 12, vi 0, vi (-1)]) [] (sD h I L) := by
  suffices key : ∀ P : a_R → Hp → Prop, (∀ r_ h2_, DsR h I L ce4 (c4 ((0 ≤ (0 : Int) ∧ (0 : Int) < 3) ∧ ((-1 : Int) = 0 ∨ (-1 : Int) = -1)) ((-1 : Int) ≠ 0 ∨ I 22 1 ≤ 255) (I 16 1 = 32 + 320 * pK (0 : Int)) (vfPre (0 : Int) (byAt I 24 25) (I 24 1) → vfOk (0 : Int) (byAt I 16 17) (byAt I 24 25))) (fun v I' L' => (¬ vfPre (0 : Int) (byAt I 24 25) (I 24 1) ∧ v = 0 ∧ FC (fun a => 36 ≤ a ∧ a ≤ 174 ∧ a ≠ 43) I L I' L') ∨ (vfPre (0 : Int) (byAt I 24 25) (I 24 1) ∧ FC (fun a => a = 26 ∨ a = 27 ∨ 36 ≤ a ∧ a ≤ 174 ∧ a ≠ 43) I L I' L' ∧ HB I' 26 27 (pC (0 : Int)) (vfC (0 : Int) (byAt I 16 17) (byAt I 24 25) (muV I ((-1 : Int)))) ∧ (v = 0 ∨ v = 1) ∧ (v = 1 ↔ ∀ j, 0 ≤ j → j < pC (0 : Int) → vfC (0 : Int) (byAt I 16 17) (byAt I 24 25) (muV I ((-1 : Int))) j = byAt I 24 25 j))) r_ h2_ → P r_ h2_) → AW l G M_MS_dsaVerify P 0 [(0, vr 12), (1, vi 0), (2, vi (-1))] [] (sD h I L) from key _ (fun _ _ q => q)
  intro P hP
  refine aw_iload_n d_MS_dsaVerify_0 rfl rfl ?_
  refine ax_Stn (st := []) (as := [vi 0]) d_MS_dsaVerify_1 cs_MS_dsaVerify_1 (c_MS_needSet hfl rm) rfl rfl rfl (fun ok_1 => ?_) (fun no_1 => at_leave rfl (hP _ _ (absurd (by decide) no_1)))
  show AW l G M_MS_dsaVerify P 4 [(0, vr 12), (1, vi 0), (2, vi (-1))] [] (sD h I L)
  refine aw_iload_n d_MS_dsaVerify_4 rfl rfl ?_
  refine ax_Stn (st := []) (as := [vi (-1)]) d_MS_dsaVerify_5 cs_MS_dsaVerify_5 (c_MS_needHow hfl rm) rfl rfl rfl (fun ok_5 => ?_) (fun no_5 => at_leave rfl (hP _ _ (absurd (by decide) no_5)))
  show AW l G M_MS_dsaVerify P 8 [(0, vr 12), (1, vi 0), (2, vi (-1))] [] (sD h I L)
  refine aw_aload_n d_MS_dsaVerify_8 rfl rfl ?_
  refine aw_iload_n d_MS_dsaVerify_9 rfl rfl ?_
  refine ax_Vtn (st := []) (as := [vi (-1)]) (b := 12) d_MS_dsaVerify_10 cs_MS_dsaVerify_10 (k_12 S) (c_MS_needContext S hfl rm) rfl rfl rfl (fun ok_10 => ?_) (fun no_10 => at_leave rfl (hP _ _ (dsNo 2 2 (c4_2 ⟨by decide, by decide⟩ (no_10)) (by decide) rfl frC.rfl')))
  show AW l G M_MS_dsaVerify P 13 [(0, vr 12), (1, vi 0), (2, vi (-1))] [] (sD h I L)
  refine aw_aload_n d_MS_dsaVerify_13 rfl rfl ?_
  refine ax_getR (b := 13) d_MS_dsaVerify_14 fd_MS_11 (k_12 S) (r_12_0 S) ?_
  refine aw_iconst d_MS_dsaVerify_17 ⟨by decide, by decide⟩ ?_
  refine ax_aald (b := 16) d_MS_dsaVerify_18 ⟨by rw [(k_13 S)]; decide, by rw [(k_13 S)]; decide⟩ (by omega) (by rw [n_13 S]; omega) (r_13_1 S) ?_
  refine ax_getIe (x := I 16 1) d_MS_dsaVerify_19 fd_MS_55 (k_16 S) (rfl) ?_
  refine aw_aload_n d_MS_dsaVerify_22 rfl rfl ?_
  refine ax_getR (b := 32) d_MS_dsaVerify_23 fd_MS_24 (k_12 S) (r_12_2 S) ?_
  refine aw_iload_n d_MS_dsaVerify_26 rfl rfl ?_
  refine ax_aald (b := 33) d_MS_dsaVerify_27 ⟨by rw [(k_32 S)]; decide, by rw [(k_32 S)]; decide⟩ (by omega) (by rw [n_32 S]; omega) (r_32_0 S) ?_
  refine ax_getIe (x := 1312) d_MS_dsaVerify_28 fd_MS_140 (k_33 S) (pc_33_13 SD.2.1) ?_
  refine aw_icmp_eq (tgt := 44) d_MS_dsaVerify_31 (by decide) (fun c_31 => ?_) (fun c_31 => ?_)
  · skip
    have pub_ : I 16 1 = 32 + 320 * pK 0 := by show I 16 1 = 1312; omega
    refine aw_aload_n d_MS_dsaVerify_44 rfl rfl ?_
    refine ax_getR (b := 170) d_MS_dsaVerify_45 fd_MS_51 (k_12 S) (r_12_5 S) ?_
    refine aw_aload_n d_MS_dsaVerify_48 rfl rfl ?_
    refine ax_getR (b := 13) d_MS_dsaVerify_49 fd_MS_11 (k_12 S) (r_12_0 S) ?_
    refine aw_aload_n d_MS_dsaVerify_52 rfl rfl ?_
    refine ax_getR (b := 32) d_MS_dsaVerify_53 fd_MS_24 (k_12 S) (r_12_2 S) ?_
    refine aw_iload_n d_MS_dsaVerify_56 rfl rfl ?_
    refine ax_aald (b := 33) d_MS_dsaVerify_57 ⟨by rw [(k_32 S)]; decide, by rw [(k_32 S)]; decide⟩ (by omega) (by rw [n_32 S]; omega) (r_32_0 S) ?_
    refine aw_iload_n d_MS_dsaVerify_58 rfl rfl ?_
    refine ax_VtD (st := []) (as := [vr 13, vr 33, vi (-1)]) (b := 170) d_MS_dsaVerify_59 cs_MS_dsaVerify_59 (k_170 S) (c_Ve_verify0N S hfl rm SD cb) rfl rfl rfl (fun ok_ v_ I2 L2 q_ => ?_) (fun no_ I2 L2 q_ => at_leave rfl (hP _ _ (dsNo 4 4 (c4_4 ⟨by decide, by decide⟩ ok_10 pub_ no_) (by decide) rfl q_)))
    show AW l G M_MS_dsaVerify P 62 [(0, vr 12), (1, vi 0), (2, vi (-1))] [vi v_] (sD h I2 L2)
    exact aw_zret d_MS_dsaVerify_62 rfl (by rcases q_ with y | y; exact ⟨by rw [y.2.1]; decide, by rw [y.2.1]; decide⟩; exact ⟨by have := y.2.2.2.1; omega, by have := y.2.2.2.1; omega⟩) (hP _ _ (Or.inl ⟨c4_0 ⟨by decide, by decide⟩ ok_10 pub_ ok_, v_, I2, L2, q_, rfl, rfl⟩))
  · skip
    exact ax_throw hfl th_MS_dsaVerify_34 rm.1 rm.2 (hP _ _ (dsNo 3 3 (c4_3 ⟨by decide, by decide⟩ ok_10 (fun z => by have z1 : I 16 1 = 1312 := z; omega)) (by decide) rfl frC.rfl'))
set_option maxHeartbeats 800000 in
set_option maxRecDepth 100000 in
theorem c_MS_dsaVerify10 {l : Launch} {G : a_G} {h : Hp} {I L : Nat → Int → Int} (S : Shp h) (hfl : l.flags = flags0) (rm : hX h + 1 ≤ a_NX ∧ hU h + 6 ≤ a_US) (SD : Std I L) (cb : CB I) : AW l G M_MS_dsaVerify (DsR h I L ce4 (c4 ((0 ≤ (1 : Int) ∧ (1 : Int) < 3) ∧ ((0 : Int) = 0 ∨ (0 : Int) = -1)) ((0 : Int) ≠ 0 ∨ I 22 1 ≤ 255) (I 16 1 = 32 + 320 * pK (1 : Int)) (vfPre (1 : Int) (byAt I 24 25) (I 24 1) → vfOk (1 : Int) (byAt I 16 17) (byAt I 24 25))) (fun v I' L' => (¬ vfPre (1 : Int) (byAt I 24 25) (I 24 1) ∧ v = 0 ∧ FC (fun a => 36 ≤ a ∧ a ≤ 174 ∧ a ≠ 43) I L I' L') ∨ (vfPre (1 : Int) (byAt I 24 25) (I 24 1) ∧ FC (fun a => a = 26 ∨ a = 27 ∨ 36 ≤ a ∧ a ≤ 174 ∧ a ≠ 43) I L I' L' ∧ HB I' 26 27 (pC (1 : Int)) (vfC (1 : Int) (byAt I 16 17) (byAt I 24 25) (muV I ((0 : Int)))) ∧ (v = 0 ∨ v = 1) ∧ (v = 1 ↔ ∀ j, 0 ≤ j → j < pC (1 : Int) → vfC (1 : Int) (byAt I 16 17) (byAt I 24 25) (muV I ((0 : Int))) j = byAt I 24 25 j)))) 0 (a_ar 0 [vr 12, vi 1, vi 0]) [] (sD h I L) := by
  suffices key : ∀ P : a_R → Hp → Prop, (∀ r_ h2_, DsR h I L ce4 (c4 ((0 ≤ (1 : Int) ∧ (1 : Int) < 3) ∧ ((0 : Int) = 0 ∨ (0 : Int) = -1)) ((0 : Int) ≠ 0 ∨ I 22 1 ≤ 255) (I 16 1 = 32 + 320 * pK (1 : Int)) (vfPre (1 : Int) (byAt I 24 25) (I 24 1) → vfOk (1 : Int) (byAt I 16 17) (byAt I 24 25))) (fun v I' L' => (¬ vfPre (1 : Int) (byAt I 24 25) (I 24 1) ∧ v = 0 ∧ FC (fun a => 36 ≤ a ∧ a ≤ 174 ∧ a ≠ 43) I L I' L') ∨ (vfPre (1 : Int) (byAt I 24 25) (I 24 1) ∧ FC (fun a => a = 26 ∨ a = 27 ∨ 36 ≤ a ∧ a ≤ 174 ∧ a ≠ 43) I L I' L' ∧ HB I' 26 27 (pC (1 : Int)) (vfC (1 : Int) (byAt I 16 17) (byAt I 24 25) (muV I ((0 : Int)))) ∧ (v = 0 ∨ v = 1) ∧ (v = 1 ↔ ∀ j, 0 ≤ j → j < pC (1 : Int) → vfC (1 : Int) (byAt I 16 17) (byAt I 24 25) (muV I ((0 : Int))) j = byAt I 24 25 j))) r_ h2_ → P r_ h2_) → AW l G M_MS_dsaVerify P 0 [(0, vr 12), (1, vi 1), (2, vi 0)] [] (sD h I L) from key _ (fun _ _ q => q)
  intro P hP
  refine aw_iload_n d_MS_dsaVerify_0 rfl rfl ?_
  refine ax_Stn (st := []) (as := [vi 1]) d_MS_dsaVerify_1 cs_MS_dsaVerify_1 (c_MS_needSet hfl rm) rfl rfl rfl (fun ok_1 => ?_) (fun no_1 => at_leave rfl (hP _ _ (absurd (by decide) no_1)))
  show AW l G M_MS_dsaVerify P 4 [(0, vr 12), (1, vi 1), (2, vi 0)] [] (sD h I L)
  refine aw_iload_n d_MS_dsaVerify_4 rfl rfl ?_
  refine ax_Stn (st := []) (as := [vi 0]) d_MS_dsaVerify_5 cs_MS_dsaVerify_5 (c_MS_needHow hfl rm) rfl rfl rfl (fun ok_5 => ?_) (fun no_5 => at_leave rfl (hP _ _ (absurd (by decide) no_5)))
  show AW l G M_MS_dsaVerify P 8 [(0, vr 12), (1, vi 1), (2, vi 0)] [] (sD h I L)
  refine aw_aload_n d_MS_dsaVerify_8 rfl rfl ?_
  refine aw_iload_n d_MS_dsaVerify_9 rfl rfl ?_
  refine ax_Vtn (st := []) (as := [vi 0]) (b := 12) d_MS_dsaVerify_10 cs_MS_dsaVerify_10 (k_12 S) (c_MS_needContext S hfl rm) rfl rfl rfl (fun ok_10 => ?_) (fun no_10 => at_leave rfl (hP _ _ (dsNo 2 2 (c4_2 ⟨by decide, by decide⟩ (no_10)) (by decide) rfl frC.rfl')))
  show AW l G M_MS_dsaVerify P 13 [(0, vr 12), (1, vi 1), (2, vi 0)] [] (sD h I L)
  refine aw_aload_n d_MS_dsaVerify_13 rfl rfl ?_
  refine ax_getR (b := 13) d_MS_dsaVerify_14 fd_MS_11 (k_12 S) (r_12_0 S) ?_
  refine aw_iconst d_MS_dsaVerify_17 ⟨by decide, by decide⟩ ?_
  refine ax_aald (b := 16) d_MS_dsaVerify_18 ⟨by rw [(k_13 S)]; decide, by rw [(k_13 S)]; decide⟩ (by omega) (by rw [n_13 S]; omega) (r_13_1 S) ?_
  refine ax_getIe (x := I 16 1) d_MS_dsaVerify_19 fd_MS_55 (k_16 S) (rfl) ?_
  refine aw_aload_n d_MS_dsaVerify_22 rfl rfl ?_
  refine ax_getR (b := 32) d_MS_dsaVerify_23 fd_MS_24 (k_12 S) (r_12_2 S) ?_
  refine aw_iload_n d_MS_dsaVerify_26 rfl rfl ?_
  refine ax_aald (b := 34) d_MS_dsaVerify_27 ⟨by rw [(k_32 S)]; decide, by rw [(k_32 S)]; decide⟩ (by omega) (by rw [n_32 S]; omega) (r_32_1 S) ?_
  refine ax_getIe (x := 1952) d_MS_dsaVerify_28 fd_MS_140 (k_34 S) (pc_34_13 SD.2.1) ?_
  refine aw_icmp_eq (tgt := 44) d_MS_dsaVerify_31 (by decide) (fun c_31 => ?_) (fun c_31 => ?_)
  · skip
    have pub_ : I 16 1 = 32 + 320 * pK 1 := by show I 16 1 = 1952; omega
    refine aw_aload_n d_MS_dsaVerify_44 rfl rfl ?_
    refine ax_getR (b := 170) d_MS_dsaVerify_45 fd_MS_51 (k_12 S) (r_12_5 S) ?_
    refine aw_aload_n d_MS_dsaVerify_48 rfl rfl ?_
    refine ax_getR (b := 13) d_MS_dsaVerify_49 fd_MS_11 (k_12 S) (r_12_0 S) ?_
    refine aw_aload_n d_MS_dsaVerify_52 rfl rfl ?_
    refine ax_getR (b := 32) d_MS_dsaVerify_53 fd_MS_24 (k_12 S) (r_12_2 S) ?_
    refine aw_iload_n d_MS_dsaVerify_56 rfl rfl ?_
    refine ax_aald (b := 34) d_MS_dsaVerify_57 ⟨by rw [(k_32 S)]; decide, by rw [(k_32 S)]; decide⟩ (by omega) (by rw [n_32 S]; omega) (r_32_1 S) ?_
    refine aw_iload_n d_MS_dsaVerify_58 rfl rfl ?_
    refine ax_VtD (st := []) (as := [vr 13, vr 34, vi 0]) (b := 170) d_MS_dsaVerify_59 cs_MS_dsaVerify_59 (k_170 S) (c_Ve_verify10 S hfl rm SD cb) rfl rfl rfl (fun ok_ v_ I2 L2 q_ => ?_) (fun no_ I2 L2 q_ => at_leave rfl (hP _ _ (dsNo 4 4 (c4_4 ⟨by decide, by decide⟩ ok_10 pub_ no_) (by decide) rfl q_)))
    show AW l G M_MS_dsaVerify P 62 [(0, vr 12), (1, vi 1), (2, vi 0)] [vi v_] (sD h I2 L2)
    exact aw_zret d_MS_dsaVerify_62 rfl (by rcases q_ with y | y; exact ⟨by rw [y.2.1]; decide, by rw [y.2.1]; decide⟩; exact ⟨by have := y.2.2.2.1; omega, by have := y.2.2.2.1; omega⟩) (hP _ _ (Or.inl ⟨c4_0 ⟨by decide, by decide⟩ ok_10 pub_ ok_, v_, I2, L2, q_, rfl, rfl⟩))
  · skip
    exact ax_throw hfl th_MS_dsaVerify_34 rm.1 rm.2 (hP _ _ (dsNo 3 3 (c4_3 ⟨by decide, by decide⟩ ok_10 (fun z => by have z1 : I 16 1 = 1952 := z; omega)) (by decide) rfl frC.rfl'))
set_option maxHeartbeats 800000 in
set_option maxRecDepth 100000 in
theorem c_MS_dsaVerify1N {l : Launch} {G : a_G} {h : Hp} {I L : Nat → Int → Int} (S : Shp h) (hfl : l.flags = flags0) (rm : hX h + 1 ≤ a_NX ∧ hU h + 6 ≤ a_US) (SD : Std I L) (cb : CB I) : AW l G M_MS_dsaVerify (DsR h I L ce4 (c4 ((0 ≤ (1 : Int) ∧ (1 : Int) < 3) ∧ ((-1 : Int) = 0 ∨ (-1 : Int) = -1)) ((-1 : Int) ≠ 0 ∨ I 22 1 ≤ 255) (I 16 1 = 32 + 320 * pK (1 : Int)) (vfPre (1 : Int) (byAt I 24 25) (I 24 1) → vfOk (1 : Int) (byAt I 16 17) (byAt I 24 25))) (fun v I' L' => (¬ vfPre (1 : Int) (byAt I 24 25) (I 24 1) ∧ v = 0 ∧ FC (fun a => 36 ≤ a ∧ a ≤ 174 ∧ a ≠ 43) I L I' L') ∨ (vfPre (1 : Int) (byAt I 24 25) (I 24 1) ∧ FC (fun a => a = 26 ∨ a = 27 ∨ 36 ≤ a ∧ a ≤ 174 ∧ a ≠ 43) I L I' L' ∧ HB I' 26 27 (pC (1 : Int)) (vfC (1 : Int) (byAt I 16 17) (byAt I 24 25) (muV I ((-1 : Int)))) ∧ (v = 0 ∨ v = 1) ∧ (v = 1 ↔ ∀ j, 0 ≤ j → j < pC (1 : Int) → vfC (1 : Int) (byAt I 16 17) (byAt I 24 25) (muV I ((-1 : Int))) j = byAt I 24 25 j)))) 0 (a_ar 0 [vr 12, vi 1, vi (-1)]) [] (sD h I L) := by
  suffices key : ∀ P : a_R → Hp → Prop, (∀ r_ h2_, DsR h I L ce4 (c4 ((0 ≤ (1 : Int) ∧ (1 : Int) < 3) ∧ ((-1 : Int) = 0 ∨ (-1 : Int) = -1)) ((-1 : Int) ≠ 0 ∨ I 22 1 ≤ 255) (I 16 1 = 32 + 320 * pK (1 : Int)) (vfPre (1 : Int) (byAt I 24 25) (I 24 1) → vfOk (1 : Int) (byAt I 16 17) (byAt I 24 25))) (fun v I' L' => (¬ vfPre (1 : Int) (byAt I 24 25) (I 24 1) ∧ v = 0 ∧ FC (fun a => 36 ≤ a ∧ a ≤ 174 ∧ a ≠ 43) I L I' L') ∨ (vfPre (1 : Int) (byAt I 24 25) (I 24 1) ∧ FC (fun a => a = 26 ∨ a = 27 ∨ 36 ≤ a ∧ a ≤ 174 ∧ a ≠ 43) I L I' L' ∧ HB I' 26 27 (pC (1 : Int)) (vfC (1 : Int) (byAt I 16 17) (byAt I 24 25) (muV I ((-1 : Int)))) ∧ (v = 0 ∨ v = 1) ∧ (v = 1 ↔ ∀ j, 0 ≤ j → j < pC (1 : Int) → vfC (1 : Int) (byAt I 16 17) (byAt I 24 25) (muV I ((-1 : Int))) j = byAt I 24 25 j))) r_ h2_ → P r_ h2_) → AW l G M_MS_dsaVerify P 0 [(0, vr 12), (1, vi 1), (2, vi (-1))] [] (sD h I L) from key _ (fun _ _ q => q)
  intro P hP
  refine aw_iload_n d_MS_dsaVerify_0 rfl rfl ?_
  refine ax_Stn (st := []) (as := [vi 1]) d_MS_dsaVerify_1 cs_MS_dsaVerify_1 (c_MS_needSet hfl rm) rfl rfl rfl (fun ok_1 => ?_) (fun no_1 => at_leave rfl (hP _ _ (absurd (by decide) no_1)))
  show AW l G M_MS_dsaVerify P 4 [(0, vr 12), (1, vi 1), (2, vi (-1))] [] (sD h I L)
  refine aw_iload_n d_MS_dsaVerify_4 rfl rfl ?_
  refine ax_Stn (st := []) (as := [vi (-1)]) d_MS_dsaVerify_5 cs_MS_dsaVerify_5 (c_MS_needHow hfl rm) rfl rfl rfl (fun ok_5 => ?_) (fun no_5 => at_leave rfl (hP _ _ (absurd (by decide) no_5)))
  show AW l G M_MS_dsaVerify P 8 [(0, vr 12), (1, vi 1), (2, vi (-1))] [] (sD h I L)
  refine aw_aload_n d_MS_dsaVerify_8 rfl rfl ?_
  refine aw_iload_n d_MS_dsaVerify_9 rfl rfl ?_
  refine ax_Vtn (st := []) (as := [vi (-1)]) (b := 12) d_MS_dsaVerify_10 cs_MS_dsaVerify_10 (k_12 S) (c_MS_needContext S hfl rm) rfl rfl rfl (fun ok_10 => ?_) (fun no_10 => at_leave rfl (hP _ _ (dsNo 2 2 (c4_2 ⟨by decide, by decide⟩ (no_10)) (by decide) rfl frC.rfl')))
  show AW l G M_MS_dsaVerify P 13 [(0, vr 12), (1, vi 1), (2, vi (-1))] [] (sD h I L)
  refine aw_aload_n d_MS_dsaVerify_13 rfl rfl ?_
  refine ax_getR (b := 13) d_MS_dsaVerify_14 fd_MS_11 (k_12 S) (r_12_0 S) ?_
  refine aw_iconst d_MS_dsaVerify_17 ⟨by decide, by decide⟩ ?_
  refine ax_aald (b := 16) d_MS_dsaVerify_18 ⟨by rw [(k_13 S)]; decide, by rw [(k_13 S)]; decide⟩ (by omega) (by rw [n_13 S]; omega) (r_13_1 S) ?_
  refine ax_getIe (x := I 16 1) d_MS_dsaVerify_19 fd_MS_55 (k_16 S) (rfl) ?_
  refine aw_aload_n d_MS_dsaVerify_22 rfl rfl ?_
  refine ax_getR (b := 32) d_MS_dsaVerify_23 fd_MS_24 (k_12 S) (r_12_2 S) ?_
  refine aw_iload_n d_MS_dsaVerify_26 rfl rfl ?_
  refine ax_aald (b := 34) d_MS_dsaVerify_27 ⟨by rw [(k_32 S)]; decide, by rw [(k_32 S)]; decide⟩ (by omega) (by rw [n_32 S]; omega) (r_32_1 S) ?_
  refine ax_getIe (x := 1952) d_MS_dsaVerify_28 fd_MS_140 (k_34 S) (pc_34_13 SD.2.1) ?_
  refine aw_icmp_eq (tgt := 44) d_MS_dsaVerify_31 (by decide) (fun c_31 => ?_) (fun c_31 => ?_)
  · skip
    have pub_ : I 16 1 = 32 + 320 * pK 1 := by show I 16 1 = 1952; omega
    refine aw_aload_n d_MS_dsaVerify_44 rfl rfl ?_
    refine ax_getR (b := 170) d_MS_dsaVerify_45 fd_MS_51 (k_12 S) (r_12_5 S) ?_
    refine aw_aload_n d_MS_dsaVerify_48 rfl rfl ?_
    refine ax_getR (b := 13) d_MS_dsaVerify_49 fd_MS_11 (k_12 S) (r_12_0 S) ?_
    refine aw_aload_n d_MS_dsaVerify_52 rfl rfl ?_
    refine ax_getR (b := 32) d_MS_dsaVerify_53 fd_MS_24 (k_12 S) (r_12_2 S) ?_
    refine aw_iload_n d_MS_dsaVerify_56 rfl rfl ?_
    refine ax_aald (b := 34) d_MS_dsaVerify_57 ⟨by rw [(k_32 S)]; decide, by rw [(k_32 S)]; decide⟩ (by omega) (by rw [n_32 S]; omega) (r_32_1 S) ?_
    refine aw_iload_n d_MS_dsaVerify_58 rfl rfl ?_
    refine ax_VtD (st := []) (as := [vr 13, vr 34, vi (-1)]) (b := 170) d_MS_dsaVerify_59 cs_MS_dsaVerify_59 (k_170 S) (c_Ve_verify1N S hfl rm SD cb) rfl rfl rfl (fun ok_ v_ I2 L2 q_ => ?_) (fun no_ I2 L2 q_ => at_leave rfl (hP _ _ (dsNo 4 4 (c4_4 ⟨by decide, by decide⟩ ok_10 pub_ no_) (by decide) rfl q_)))
    show AW l G M_MS_dsaVerify P 62 [(0, vr 12), (1, vi 1), (2, vi (-1))] [vi v_] (sD h I2 L2)
    exact aw_zret d_MS_dsaVerify_62 rfl (by rcases q_ with y | y; exact ⟨by rw [y.2.1]; decide, by rw [y.2.1]; decide⟩; exact ⟨by have := y.2.2.2.1; omega, by have := y.2.2.2.1; omega⟩) (hP _ _ (Or.inl ⟨c4_0 ⟨by decide, by decide⟩ ok_10 pub_ ok_, v_, I2, L2, q_, rfl, rfl⟩))
  · skip
    exact ax_throw hfl th_MS_dsaVerify_34 rm.1 rm.2 (hP _ _ (dsNo 3 3 (c4_3 ⟨by decide, by decide⟩ ok_10 (fun z => by have z1 : I 16 1 = 1952 := z; omega)) (by decide) rfl frC.rfl'))
set_option maxHeartbeats 800000 in
set_option maxRecDepth 100000 in
theorem c_MS_dsaVerify20 {l : Launch} {G : a_G} {h : Hp} {I L : Nat → Int → Int} (S : Shp h) (hfl : l.flags = flags0) (rm : hX h + 1 ≤ a_NX ∧ hU h + 6 ≤ a_US) (SD : Std I L) (cb : CB I) : AW l G M_MS_dsaVerify (DsR h I L ce4 (c4 ((0 ≤ (2 : Int) ∧ (2 : Int) < 3) ∧ ((0 : Int) = 0 ∨ (0 : Int) = -1)) ((0 : Int) ≠ 0 ∨ I 22 1 ≤ 255) (I 16 1 = 32 + 320 * pK (2 : Int)) (vfPre (2 : Int) (byAt I 24 25) (I 24 1) → vfOk (2 : Int) (byAt I 16 17) (byAt I 24 25))) (fun v I' L' => (¬ vfPre (2 : Int) (byAt I 24 25) (I 24 1) ∧ v = 0 ∧ FC (fun a => 36 ≤ a ∧ a ≤ 174 ∧ a ≠ 43) I L I' L') ∨ (vfPre (2 : Int) (byAt I 24 25) (I 24 1) ∧ FC (fun a => a = 26 ∨ a = 27 ∨ 36 ≤ a ∧ a ≤ 174 ∧ a ≠ 43) I L I' L' ∧ HB I' 26 27 (pC (2 : Int)) (vfC (2 : Int) (byAt I 16 17) (byAt I 24 25) (muV I ((0 : Int)))) ∧ (v = 0 ∨ v = 1) ∧ (v = 1 ↔ ∀ j, 0 ≤ j → j < pC (2 : Int) → vfC (2 : Int) (byAt I 16 17) (byAt I 24 25) (muV I ((0 : Int))) j = byAt I 24 25 j)))) 0 (a_ar 0 [vr 12, vi 2, vi 0]) [] (sD h I L) := by
  suffices key : ∀ P : a_R → Hp → Prop, (∀ r_ h2_, DsR h I L ce4 (c4 ((0 ≤ (2 : Int) ∧ (2 : Int) < 3) ∧ ((0 : Int) = 0 ∨ (0 : Int) = -1)) ((0 : Int) ≠ 0 ∨ I 22 1 ≤ 255) (I 16 1 = 32 + 320 * pK (2 : Int)) (vfPre (2 : Int) (byAt I 24 25) (I 24 1) → vfOk (2 : Int) (byAt I 16 17) (byAt I 24 25))) (fun v I' L' => (¬ vfPre (2 : Int) (byAt I 24 25) (I 24 1) ∧ v = 0 ∧ FC (fun a => 36 ≤ a ∧ a ≤ 174 ∧ a ≠ 43) I L I' L') ∨ (vfPre (2 : Int) (byAt I 24 25) (I 24 1) ∧ FC (fun a => a = 26 ∨ a = 27 ∨ 36 ≤ a ∧ a ≤ 174 ∧ a ≠ 43) I L I' L' ∧ HB I' 26 27 (pC (2 : Int)) (vfC (2 : Int) (byAt I 16 17) (byAt I 24 25) (muV I ((0 : Int)))) ∧ (v = 0 ∨ v = 1) ∧ (v = 1 ↔ ∀ j, 0 ≤ j → j < pC (2 : Int) → vfC (2 : Int) (byAt I 16 17) (byAt I 24 25) (muV I ((0 : Int))) j = byAt I 24 25 j))) r_ h2_ → P r_ h2_) → AW l G M_MS_dsaVerify P 0 [(0, vr 12), (1, vi 2), (2, vi 0)] [] (sD h I L) from key _ (fun _ _ q => q)
  intro P hP
  refine aw_iload_n d_MS_dsaVerify_0 rfl rfl ?_
  refine ax_Stn (st := []) (as := [vi 2]) d_MS_dsaVerify_1 cs_MS_dsaVerify_1 (c_MS_needSet hfl rm) rfl rfl rfl (fun ok_1 => ?_) (fun no_1 => at_leave rfl (hP _ _ (absurd (by decide) no_1)))
  show AW l G M_MS_dsaVerify P 4 [(0, vr 12), (1, vi 2), (2, vi 0)] [] (sD h I L)
  refine aw_iload_n d_MS_dsaVerify_4 rfl rfl ?_
  refine ax_Stn (st := []) (as := [vi 0]) d_MS_dsaVerify_5 cs_MS_dsaVerify_5 (c_MS_needHow hfl rm) rfl rfl rfl (fun ok_5 => ?_) (fun no_5 => at_leave rfl (hP _ _ (absurd (by decide) no_5)))
  show AW l G M_MS_dsaVerify P 8 [(0, vr 12), (1, vi 2), (2, vi 0)] [] (sD h I L)
  refine aw_aload_n d_MS_dsaVerify_8 rfl rfl ?_
  refine aw_iload_n d_MS_dsaVerify_9 rfl rfl ?_
  refine ax_Vtn (st := []) (as := [vi 0]) (b := 12) d_MS_dsaVerify_10 cs_MS_dsaVerify_10 (k_12 S) (c_MS_needContext S hfl rm) rfl rfl rfl (fun ok_10 => ?_) (fun no_10 => at_leave rfl (hP _ _ (dsNo 2 2 (c4_2 ⟨by decide, by decide⟩ (no_10)) (by decide) rfl frC.rfl')))
  show AW l G M_MS_dsaVerify P 13 [(0, vr 12), (1, vi 2), (2, vi 0)] [] (sD h I L)
  refine aw_aload_n d_MS_dsaVerify_13 rfl rfl ?_
  refine ax_getR (b := 13) d_MS_dsaVerify_14 fd_MS_11 (k_12 S) (r_12_0 S) ?_
  refine aw_iconst d_MS_dsaVerify_17 ⟨by decide, by decide⟩ ?_
  refine ax_aald (b := 16) d_MS_dsaVerify_18 ⟨by rw [(k_13 S)]; decide, by rw [(k_13 S)]; decide⟩ (by omega) (by rw [n_13 S]; omega) (r_13_1 S) ?_
  refine ax_getIe (x := I 16 1) d_MS_dsaVerify_19 fd_MS_55 (k_16 S) (rfl) ?_
  refine aw_aload_n d_MS_dsaVerify_22 rfl rfl ?_
  refine ax_getR (b := 32) d_MS_dsaVerify_23 fd_MS_24 (k_12 S) (r_12_2 S) ?_
  refine aw_iload_n d_MS_dsaVerify_26 rfl rfl ?_
  refine ax_aald (b := 35) d_MS_dsaVerify_27 ⟨by rw [(k_32 S)]; decide, by rw [(k_32 S)]; decide⟩ (by omega) (by rw [n_32 S]; omega) (r_32_2 S) ?_
  refine ax_getIe (x := 2592) d_MS_dsaVerify_28 fd_MS_140 (k_35 S) (pc_35_13 SD.2.1) ?_
  refine aw_icmp_eq (tgt := 44) d_MS_dsaVerify_31 (by decide) (fun c_31 => ?_) (fun c_31 => ?_)
  · skip
    have pub_ : I 16 1 = 32 + 320 * pK 2 := by show I 16 1 = 2592; omega
    refine aw_aload_n d_MS_dsaVerify_44 rfl rfl ?_
    refine ax_getR (b := 170) d_MS_dsaVerify_45 fd_MS_51 (k_12 S) (r_12_5 S) ?_
    refine aw_aload_n d_MS_dsaVerify_48 rfl rfl ?_
    refine ax_getR (b := 13) d_MS_dsaVerify_49 fd_MS_11 (k_12 S) (r_12_0 S) ?_
    refine aw_aload_n d_MS_dsaVerify_52 rfl rfl ?_
    refine ax_getR (b := 32) d_MS_dsaVerify_53 fd_MS_24 (k_12 S) (r_12_2 S) ?_
    refine aw_iload_n d_MS_dsaVerify_56 rfl rfl ?_
    refine ax_aald (b := 35) d_MS_dsaVerify_57 ⟨by rw [(k_32 S)]; decide, by rw [(k_32 S)]; decide⟩ (by omega) (by rw [n_32 S]; omega) (r_32_2 S) ?_
    refine aw_iload_n d_MS_dsaVerify_58 rfl rfl ?_
    refine ax_VtD (st := []) (as := [vr 13, vr 35, vi 0]) (b := 170) d_MS_dsaVerify_59 cs_MS_dsaVerify_59 (k_170 S) (c_Ve_verify20 S hfl rm SD cb) rfl rfl rfl (fun ok_ v_ I2 L2 q_ => ?_) (fun no_ I2 L2 q_ => at_leave rfl (hP _ _ (dsNo 4 4 (c4_4 ⟨by decide, by decide⟩ ok_10 pub_ no_) (by decide) rfl q_)))
    show AW l G M_MS_dsaVerify P 62 [(0, vr 12), (1, vi 2), (2, vi 0)] [vi v_] (sD h I2 L2)
    exact aw_zret d_MS_dsaVerify_62 rfl (by rcases q_ with y | y; exact ⟨by rw [y.2.1]; decide, by rw [y.2.1]; decide⟩; exact ⟨by have := y.2.2.2.1; omega, by have := y.2.2.2.1; omega⟩) (hP _ _ (Or.inl ⟨c4_0 ⟨by decide, by decide⟩ ok_10 pub_ ok_, v_, I2, L2, q_, rfl, rfl⟩))
  · skip
    exact ax_throw hfl th_MS_dsaVerify_34 rm.1 rm.2 (hP _ _ (dsNo 3 3 (c4_3 ⟨by decide, by decide⟩ ok_10 (fun z => by have z1 : I 16 1 = 2592 := z; omega)) (by decide) rfl frC.rfl'))
set_option maxHeartbeats 800000 in
set_option maxRecDepth 100000 in
theorem c_MS_dsaVerify2N {l : Launch} {G : a_G} {h : Hp} {I L : Nat → Int → Int} (S : Shp h) (hfl : l.flags = flags0) (rm : hX h + 1 ≤ a_NX ∧ hU h + 6 ≤ a_US) (SD : Std I L) (cb : CB I) : AW l G M_MS_dsaVerify (DsR h I L ce4 (c4 ((0 ≤ (2 : Int) ∧ (2 : Int) < 3) ∧ ((-1 : Int) = 0 ∨ (-1 : Int) = -1)) ((-1 : Int) ≠ 0 ∨ I 22 1 ≤ 255) (I 16 1 = 32 + 320 * pK (2 : Int)) (vfPre (2 : Int) (byAt I 24 25) (I 24 1) → vfOk (2 : Int) (byAt I 16 17) (byAt I 24 25))) (fun v I' L' => (¬ vfPre (2 : Int) (byAt I 24 25) (I 24 1) ∧ v = 0 ∧ FC (fun a => 36 ≤ a ∧ a ≤ 174 ∧ a ≠ 43) I L I' L') ∨ (vfPre (2 : Int) (byAt I 24 25) (I 24 1) ∧ FC (fun a => a = 26 ∨ a = 27 ∨ 36 ≤ a ∧ a ≤ 174 ∧ a ≠ 43) I L I' L' ∧ HB I' 26 27 (pC (2 : Int)) (vfC (2 : Int) (byAt I 16 17) (byAt I 24 25) (muV I ((-1 : Int)))) ∧ (v = 0 ∨ v = 1) ∧ (v = 1 ↔ ∀ j, 0 ≤ j → j < pC (2 : Int) → vfC (2 : Int) (byAt I 16 17) (byAt I 24 25) (muV I ((-1 : Int))) j = byAt I 24 25 j)))) 0 (a_ar 0 [vr 12, vi 2, vi (-1)]) [] (sD h I L) := by
  suffices key : ∀ P : a_R → Hp → Prop, (∀ r_ h2_, DsR h I L ce4 (c4 ((0 ≤ (2 : Int) ∧ (2 : Int) < 3) ∧ ((-1 : Int) = 0 ∨ (-1 : Int) = -1)) ((-1 : Int) ≠ 0 ∨ I 22 1 ≤ 255) (I 16 1 = 32 + 320 * pK (2 : Int)) (vfPre (2 : Int) (byAt I 24 25) (I 24 1) → vfOk (2 : Int) (byAt I 16 17) (byAt I 24 25))) (fun v I' L' => (¬ vfPre (2 : Int) (byAt I 24 25) (I 24 1) ∧ v = 0 ∧ FC (fun a => 36 ≤ a ∧ a ≤ 174 ∧ a ≠ 43) I L I' L') ∨ (vfPre (2 : Int) (byAt I 24 25) (I 24 1) ∧ FC (fun a => a = 26 ∨ a = 27 ∨ 36 ≤ a ∧ a ≤ 174 ∧ a ≠ 43) I L I' L' ∧ HB I' 26 27 (pC (2 : Int)) (vfC (2 : Int) (byAt I 16 17) (byAt I 24 25) (muV I ((-1 : Int)))) ∧ (v = 0 ∨ v = 1) ∧ (v = 1 ↔ ∀ j, 0 ≤ j → j < pC (2 : Int) → vfC (2 : Int) (byAt I 16 17) (byAt I 24 25) (muV I ((-1 : Int))) j = byAt I 24 25 j))) r_ h2_ → P r_ h2_) → AW l G M_MS_dsaVerify P 0 [(0, vr 12), (1, vi 2), (2, vi (-1))] [] (sD h I L) from key _ (fun _ _ q => q)
  intro P hP
  refine aw_iload_n d_MS_dsaVerify_0 rfl rfl ?_
  refine ax_Stn (st := []) (as := [vi 2]) d_MS_dsaVerify_1 cs_MS_dsaVerify_1 (c_MS_needSet hfl rm) rfl rfl rfl (fun ok_1 => ?_) (fun no_1 => at_leave rfl (hP _ _ (absurd (by decide) no_1)))
  show AW l G M_MS_dsaVerify P 4 [(0, vr 12), (1, vi 2), (2, vi (-1))] [] (sD h I L)
  refine aw_iload_n d_MS_dsaVerify_4 rfl rfl ?_
  refine ax_Stn (st := []) (as := [vi (-1)]) d_MS_dsaVerify_5 cs_MS_dsaVerify_5 (c_MS_needHow hfl rm) rfl rfl rfl (fun ok_5 => ?_) (fun no_5 => at_leave rfl (hP _ _ (absurd (by decide) no_5)))
  show AW l G M_MS_dsaVerify P 8 [(0, vr 12), (1, vi 2), (2, vi (-1))] [] (sD h I L)
  refine aw_aload_n d_MS_dsaVerify_8 rfl rfl ?_
  refine aw_iload_n d_MS_dsaVerify_9 rfl rfl ?_
  refine ax_Vtn (st := []) (as := [vi (-1)]) (b := 12) d_MS_dsaVerify_10 cs_MS_dsaVerify_10 (k_12 S) (c_MS_needContext S hfl rm) rfl rfl rfl (fun ok_10 => ?_) (fun no_10 => at_leave rfl (hP _ _ (dsNo 2 2 (c4_2 ⟨by decide, by decide⟩ (no_10)) (by decide) rfl frC.rfl')))
  show AW l G M_MS_dsaVerify P 13 [(0, vr 12), (1, vi 2), (2, vi (-1))] [] (sD h I L)
  refine aw_aload_n d_MS_dsaVerify_13 rfl rfl ?_
  refine ax_getR (b := 13) d_MS_dsaVerify_14 fd_MS_11 (k_12 S) (r_12_0 S) ?_
  refine aw_iconst d_MS_dsaVerify_17 ⟨by decide, by decide⟩ ?_
  refine ax_aald (b := 16) d_MS_dsaVerify_18 ⟨by rw [(k_13 S)]; decide, by rw [(k_13 S)]; decide⟩ (by omega) (by rw [n_13 S]; omega) (r_13_1 S) ?_
  refine ax_getIe (x := I 16 1) d_MS_dsaVerify_19 fd_MS_55 (k_16 S) (rfl) ?_
  refine aw_aload_n d_MS_dsaVerify_22 rfl rfl ?_
  refine ax_getR (b := 32) d_MS_dsaVerify_23 fd_MS_24 (k_12 S) (r_12_2 S) ?_
  refine aw_iload_n d_MS_dsaVerify_26 rfl rfl ?_
  refine ax_aald (b := 35) d_MS_dsaVerify_27 ⟨by rw [(k_32 S)]; decide, by rw [(k_32 S)]; decide⟩ (by omega) (by rw [n_32 S]; omega) (r_32_2 S) ?_
  refine ax_getIe (x := 2592) d_MS_dsaVerify_28 fd_MS_140 (k_35 S) (pc_35_13 SD.2.1) ?_
  refine aw_icmp_eq (tgt := 44) d_MS_dsaVerify_31 (by decide) (fun c_31 => ?_) (fun c_31 => ?_)
  · skip
    have pub_ : I 16 1 = 32 + 320 * pK 2 := by show I 16 1 = 2592; omega
    refine aw_aload_n d_MS_dsaVerify_44 rfl rfl ?_
    refine ax_getR (b := 170) d_MS_dsaVerify_45 fd_MS_51 (k_12 S) (r_12_5 S) ?_
    refine aw_aload_n d_MS_dsaVerify_48 rfl rfl ?_
    refine ax_getR (b := 13) d_MS_dsaVerify_49 fd_MS_11 (k_12 S) (r_12_0 S) ?_
    refine aw_aload_n d_MS_dsaVerify_52 rfl rfl ?_
    refine ax_getR (b := 32) d_MS_dsaVerify_53 fd_MS_24 (k_12 S) (r_12_2 S) ?_
    refine aw_iload_n d_MS_dsaVerify_56 rfl rfl ?_
    refine ax_aald (b := 35) d_MS_dsaVerify_57 ⟨by rw [(k_32 S)]; decide, by rw [(k_32 S)]; decide⟩ (by omega) (by rw [n_32 S]; omega) (r_32_2 S) ?_
    refine aw_iload_n d_MS_dsaVerify_58 rfl rfl ?_
    refine ax_VtD (st := []) (as := [vr 13, vr 35, vi (-1)]) (b := 170) d_MS_dsaVerify_59 cs_MS_dsaVerify_59 (k_170 S) (c_Ve_verify2N S hfl rm SD cb) rfl rfl rfl (fun ok_ v_ I2 L2 q_ => ?_) (fun no_ I2 L2 q_ => at_leave rfl (hP _ _ (dsNo 4 4 (c4_4 ⟨by decide, by decide⟩ ok_10 pub_ no_) (by decide) rfl q_)))
    show AW l G M_MS_dsaVerify P 62 [(0, vr 12), (1, vi 2), (2, vi (-1))] [vi v_] (sD h I2 L2)
    exact aw_zret d_MS_dsaVerify_62 rfl (by rcases q_ with y | y; exact ⟨by rw [y.2.1]; decide, by rw [y.2.1]; decide⟩; exact ⟨by have := y.2.2.2.1; omega, by have := y.2.2.2.1; omega⟩) (hP _ _ (Or.inl ⟨c4_0 ⟨by decide, by decide⟩ ok_10 pub_ ok_, v_, I2, L2, q_, rfl, rfl⟩))
  · skip
    exact ax_throw hfl th_MS_dsaVerify_34 rm.1 rm.2 (hP _ _ (dsNo 3 3 (c4_3 ⟨by decide, by decide⟩ ok_10 (fun z => by have z1 : I 16 1 = 2592 := z; omega)) (by decide) rfl frC.rfl'))
set_option maxHeartbeats 800000 in
set_option maxRecDepth 100000 in
theorem c_MS_dsaVerifyX {l : Launch} {G : a_G} {h : Hp} {I L : Nat → Int → Int} {s how : Int} (S : Shp h) (hfl : l.flags = flags0) (rm : hX h + 1 ≤ a_NX ∧ hU h + 6 ≤ a_US) (SD : Std I L) (cb : CB I) (hs : ¬ (0 ≤ s ∧ s < 3)) : AW l G M_MS_dsaVerify (DsR h I L ce4 (c4 ((0 ≤ s ∧ s < 3) ∧ (how = 0 ∨ how = -1)) (how ≠ 0 ∨ I 22 1 ≤ 255) (I 16 1 = 32 + 320 * pK s) (vfPre s (byAt I 24 25) (I 24 1) → vfOk s (byAt I 16 17) (byAt I 24 25))) (fun v I' L' => (¬ vfPre s (byAt I 24 25) (I 24 1) ∧ v = 0 ∧ FC (fun a => 36 ≤ a ∧ a ≤ 174 ∧ a ≠ 43) I L I' L') ∨ (vfPre s (byAt I 24 25) (I 24 1) ∧ FC (fun a => a = 26 ∨ a = 27 ∨ 36 ≤ a ∧ a ≤ 174 ∧ a ≠ 43) I L I' L' ∧ HB I' 26 27 (pC s) (vfC s (byAt I 16 17) (byAt I 24 25) (muV I (how))) ∧ (v = 0 ∨ v = 1) ∧ (v = 1 ↔ ∀ j, 0 ≤ j → j < pC s → vfC s (byAt I 16 17) (byAt I 24 25) (muV I (how)) j = byAt I 24 25 j)))) 0 (a_ar 0 [vr 12, vi s, vi how]) [] (sD h I L) := by
  suffices key : ∀ P : a_R → Hp → Prop, (∀ r_ h2_, DsR h I L ce4 (c4 ((0 ≤ s ∧ s < 3) ∧ (how = 0 ∨ how = -1)) (how ≠ 0 ∨ I 22 1 ≤ 255) (I 16 1 = 32 + 320 * pK s) (vfPre s (byAt I 24 25) (I 24 1) → vfOk s (byAt I 16 17) (byAt I 24 25))) (fun v I' L' => (¬ vfPre s (byAt I 24 25) (I 24 1) ∧ v = 0 ∧ FC (fun a => 36 ≤ a ∧ a ≤ 174 ∧ a ≠ 43) I L I' L') ∨ (vfPre s (byAt I 24 25) (I 24 1) ∧ FC (fun a => a = 26 ∨ a = 27 ∨ 36 ≤ a ∧ a ≤ 174 ∧ a ≠ 43) I L I' L' ∧ HB I' 26 27 (pC s) (vfC s (byAt I 16 17) (byAt I 24 25) (muV I (how))) ∧ (v = 0 ∨ v = 1) ∧ (v = 1 ↔ ∀ j, 0 ≤ j → j < pC s → vfC s (byAt I 16 17) (byAt I 24 25) (muV I (how)) j = byAt I 24 25 j))) r_ h2_ → P r_ h2_) → AW l G M_MS_dsaVerify P 0 [(0, vr 12), (1, vi s), (2, vi how)] [] (sD h I L) from key _ (fun _ _ q => q)
  intro P hP
  refine aw_iload_n d_MS_dsaVerify_0 rfl rfl ?_
  refine ax_Stn (st := []) (as := [vi s]) d_MS_dsaVerify_1 cs_MS_dsaVerify_1 (c_MS_needSet hfl rm) rfl rfl rfl (fun ok_1 => ?_) (fun no_1 => at_leave rfl (hP _ _ (dsNo 1 0 (c4_1 (fun z => no_1 z.1)) (by decide) rfl frC.rfl')))
  show AW l G M_MS_dsaVerify P 4 [(0, vr 12), (1, vi s), (2, vi how)] [] (sD h I L)
  exact absurd ok_1 hs
set_option maxHeartbeats 800000 in
set_option maxRecDepth 100000 in
theorem c_MS_dsaVerifyY {l : Launch} {G : a_G} {h : Hp} {I L : Nat → Int → Int} {s how : Int} (S : Shp h) (hfl : l.flags = flags0) (rm : hX h + 1 ≤ a_NX ∧ hU h + 6 ≤ a_US) (SD : Std I L) (cb : CB I) (hw : ¬ (how = 0 ∨ how = -1)) : AW l G M_MS_dsaVerify (DsR h I L ce4 (c4 ((0 ≤ s ∧ s < 3) ∧ (how = 0 ∨ how = -1)) (how ≠ 0 ∨ I 22 1 ≤ 255) (I 16 1 = 32 + 320 * pK s) (vfPre s (byAt I 24 25) (I 24 1) → vfOk s (byAt I 16 17) (byAt I 24 25))) (fun v I' L' => (¬ vfPre s (byAt I 24 25) (I 24 1) ∧ v = 0 ∧ FC (fun a => 36 ≤ a ∧ a ≤ 174 ∧ a ≠ 43) I L I' L') ∨ (vfPre s (byAt I 24 25) (I 24 1) ∧ FC (fun a => a = 26 ∨ a = 27 ∨ 36 ≤ a ∧ a ≤ 174 ∧ a ≠ 43) I L I' L' ∧ HB I' 26 27 (pC s) (vfC s (byAt I 16 17) (byAt I 24 25) (muV I (how))) ∧ (v = 0 ∨ v = 1) ∧ (v = 1 ↔ ∀ j, 0 ≤ j → j < pC s → vfC s (byAt I 16 17) (byAt I 24 25) (muV I (how)) j = byAt I 24 25 j)))) 0 (a_ar 0 [vr 12, vi s, vi how]) [] (sD h I L) := by
  suffices key : ∀ P : a_R → Hp → Prop, (∀ r_ h2_, DsR h I L ce4 (c4 ((0 ≤ s ∧ s < 3) ∧ (how = 0 ∨ how = -1)) (how ≠ 0 ∨ I 22 1 ≤ 255) (I 16 1 = 32 + 320 * pK s) (vfPre s (byAt I 24 25) (I 24 1) → vfOk s (byAt I 16 17) (byAt I 24 25))) (fun v I' L' => (¬ vfPre s (byAt I 24 25) (I 24 1) ∧ v = 0 ∧ FC (fun a => 36 ≤ a ∧ a ≤ 174 ∧ a ≠ 43) I L I' L') ∨ (vfPre s (byAt I 24 25) (I 24 1) ∧ FC (fun a => a = 26 ∨ a = 27 ∨ 36 ≤ a ∧ a ≤ 174 ∧ a ≠ 43) I L I' L' ∧ HB I' 26 27 (pC s) (vfC s (byAt I 16 17) (byAt I 24 25) (muV I (how))) ∧ (v = 0 ∨ v = 1) ∧ (v = 1 ↔ ∀ j, 0 ≤ j → j < pC s → vfC s (byAt I 16 17) (byAt I 24 25) (muV I (how)) j = byAt I 24 25 j))) r_ h2_ → P r_ h2_) → AW l G M_MS_dsaVerify P 0 [(0, vr 12), (1, vi s), (2, vi how)] [] (sD h I L) from key _ (fun _ _ q => q)
  intro P hP
  refine aw_iload_n d_MS_dsaVerify_0 rfl rfl ?_
  refine ax_Stn (st := []) (as := [vi s]) d_MS_dsaVerify_1 cs_MS_dsaVerify_1 (c_MS_needSet hfl rm) rfl rfl rfl (fun ok_1 => ?_) (fun no_1 => at_leave rfl (hP _ _ (dsNo 1 0 (c4_1 (fun z => no_1 z.1)) (by decide) rfl frC.rfl')))
  show AW l G M_MS_dsaVerify P 4 [(0, vr 12), (1, vi s), (2, vi how)] [] (sD h I L)
  refine aw_iload_n d_MS_dsaVerify_4 rfl rfl ?_
  refine ax_Stn (st := []) (as := [vi how]) d_MS_dsaVerify_5 cs_MS_dsaVerify_5 (c_MS_needHow hfl rm) rfl rfl rfl (fun ok_5 => ?_) (fun no_5 => at_leave rfl (hP _ _ (dsNo 1 0 (c4_1 (fun z => no_5 z.2)) (by decide) rfl frC.rfl')))
  show AW l G M_MS_dsaVerify P 8 [(0, vr 12), (1, vi s), (2, vi how)] [] (sD h I L)
  exact absurd ok_5 hw
theorem c_MS_dsaVerify {l : Launch} {G : a_G} {h : Hp} {I L : Nat → Int → Int} {s how : Int} (S : Shp h) (hfl : l.flags = flags0) (rm : hX h + 1 ≤ a_NX ∧ hU h + 6 ≤ a_US) (SD : Std I L) (cb : CB I) : AW l G M_MS_dsaVerify (DsR h I L ce4 (c4 ((0 ≤ s ∧ s < 3) ∧ (how = 0 ∨ how = -1)) (how ≠ 0 ∨ I 22 1 ≤ 255) (I 16 1 = 32 + 320 * pK s) (vfPre s (byAt I 24 25) (I 24 1) → vfOk s (byAt I 16 17) (byAt I 24 25))) (fun v I' L' => (¬ vfPre s (byAt I 24 25) (I 24 1) ∧ v = 0 ∧ FC (fun a => 36 ≤ a ∧ a ≤ 174 ∧ a ≠ 43) I L I' L') ∨ (vfPre s (byAt I 24 25) (I 24 1) ∧ FC (fun a => a = 26 ∨ a = 27 ∨ 36 ≤ a ∧ a ≤ 174 ∧ a ≠ 43) I L I' L' ∧ HB I' 26 27 (pC s) (vfC s (byAt I 16 17) (byAt I 24 25) (muV I (how))) ∧ (v = 0 ∨ v = 1) ∧ (v = 1 ↔ ∀ j, 0 ≤ j → j < pC s → vfC s (byAt I 16 17) (byAt I 24 25) (muV I (how)) j = byAt I 24 25 j)))) 0 (a_ar 0 [vr 12, vi s, vi how]) [] (sD h I L) := by
  by_cases hs : 0 ≤ s ∧ s < 3
  · by_cases hw : how = 0 ∨ how = -1
    · rcases (by omega : s = 0 ∨ s = 1 ∨ s = 2) with e | e | e
      · subst e
        rcases hw with e2 | e2
        · subst e2; exact c_MS_dsaVerify00 S hfl rm SD cb
        · subst e2; exact c_MS_dsaVerify0N S hfl rm SD cb
      · subst e
        rcases hw with e2 | e2
        · subst e2; exact c_MS_dsaVerify10 S hfl rm SD cb
        · subst e2; exact c_MS_dsaVerify1N S hfl rm SD cb
      · subst e
        rcases hw with e2 | e2
        · subst e2; exact c_MS_dsaVerify20 S hfl rm SD cb
        · subst e2; exact c_MS_dsaVerify2N S hfl rm SD cb
    · exact c_MS_dsaVerifyY S hfl rm SD cb hw
  · exact c_MS_dsaVerifyX S hfl rm SD cb hs
set_option maxHeartbeats 800000 in
set_option maxRecDepth 100000 in
theorem c_La_dsaVerify {l : Launch} {G : a_G} {h : Hp} {I L : Nat → Int → Int} {s how : Int} (S : Shp h) (hfl : l.flags = flags0) (rm : hX h + 1 ≤ a_NX ∧ hU h + 6 ≤ a_US) (SD : Std I L) (cb : CB I) : AW l G M_La_dsaVerify (WsR h I L ce4 (c4 ((0 ≤ s ∧ s < 3) ∧ (how = 0 ∨ how = -1)) (how ≠ 0 ∨ I 22 1 ≤ 255) (I 16 1 = 32 + 320 * pK s) (vfPre s (byAt I 24 25) (I 24 1) → vfOk s (byAt I 16 17) (byAt I 24 25))) (fun v I' L' => (¬ vfPre s (byAt I 24 25) (I 24 1) ∧ v = 0 ∧ FC (fun a => 36 ≤ a ∧ a ≤ 174 ∧ a ≠ 43) I L I' L') ∨ (vfPre s (byAt I 24 25) (I 24 1) ∧ FC (fun a => a = 26 ∨ a = 27 ∨ 36 ≤ a ∧ a ≤ 174 ∧ a ≠ 43) I L I' L' ∧ HB I' 26 27 (pC s) (vfC s (byAt I 16 17) (byAt I 24 25) (muV I (how))) ∧ (v = 0 ∨ v = 1) ∧ (v = 1 ↔ ∀ j, 0 ≤ j → j < pC s → vfC s (byAt I 16 17) (byAt I 24 25) (muV I (how)) j = byAt I 24 25 j)))) 0 (a_ar 0 [vr 12, vi s, vi how, vr 268]) [] (sD h I L) := by
  suffices key : ∀ P : a_R → Hp → Prop, (∀ r_ h2_, WsR h I L ce4 (c4 ((0 ≤ s ∧ s < 3) ∧ (how = 0 ∨ how = -1)) (how ≠ 0 ∨ I 22 1 ≤ 255) (I 16 1 = 32 + 320 * pK s) (vfPre s (byAt I 24 25) (I 24 1) → vfOk s (byAt I 16 17) (byAt I 24 25))) (fun v I' L' => (¬ vfPre s (byAt I 24 25) (I 24 1) ∧ v = 0 ∧ FC (fun a => 36 ≤ a ∧ a ≤ 174 ∧ a ≠ 43) I L I' L') ∨ (vfPre s (byAt I 24 25) (I 24 1) ∧ FC (fun a => a = 26 ∨ a = 27 ∨ 36 ≤ a ∧ a ≤ 174 ∧ a ≠ 43) I L I' L' ∧ HB I' 26 27 (pC s) (vfC s (byAt I 16 17) (byAt I 24 25) (muV I (how))) ∧ (v = 0 ∨ v = 1) ∧ (v = 1 ↔ ∀ j, 0 ≤ j → j < pC s → vfC s (byAt I 16 17) (byAt I 24 25) (muV I (how)) j = byAt I 24 25 j))) r_ h2_ → P r_ h2_) → AW l G M_La_dsaVerify P 0 [(0, vr 12), (1, vi s), (2, vi how), (3, vr 268)] [] (sD h I L) from key _ (fun _ _ q => q)
  intro P hP
  refine aw_aload_n d_La_dsaVerify_0 rfl rfl ?_
  refine aw_iconst d_La_dsaVerify_1 ⟨by decide, by decide⟩ ?_
  refine aw_aload_n d_La_dsaVerify_2 rfl rfl ?_
  refine aw_iload_n d_La_dsaVerify_3 rfl rfl ?_
  refine aw_iload_n d_La_dsaVerify_4 rfl rfl ?_
  refine ax_Vt (st := [vi 0, vr 268]) (as := [vi s, vi how]) (b := 12) d_La_dsaVerify_5 cs_La_dsaVerify_5 (k_12 S) (c_MS_dsaVerify S hfl rm SD cb) rfl rfl rfl (fun v_ h_ q_ => ?_) (fun x_ h_ q_ => ?_)
  · rcases q_ with ⟨q1, v, I2, L2, q2, q3, q4⟩ | ⟨q1, I2, L2, q2, q3, q4⟩
    · cases q3; subst q4
      have hv : v = 0 ∨ v = 1 := by rcases q2 with y | y; exact Or.inl y.2.1; exact y.2.2.2.1
      show AW l G M_La_dsaVerify P 8 [(0, vr 12), (1, vi s), (2, vi how), (3, vr 268)] [vi v, vi 0, vr 268] (sD h I2 L2)
      refine aw_if_eq (tgt := 15) d_La_dsaVerify_8 (by decide) (fun c_8 => ?_) (fun c_8 => ?_)
      · skip
        refine aw_lconst (x := 0) d_La_dsaVerify_15 ⟨by decide, by decide⟩ (by decide) ?_
        refine ax_last d_La_dsaVerify_16 (k_268 S) (by decide) (by omega) (by rw [n_268 S]; omega) ?_
        refine aw_goto (tgt := 36) d_La_dsaVerify_17 (by decide) ?_
        refine aw_iconst d_La_dsaVerify_36 ⟨by decide, by decide⟩ ?_
        exact aw_iret d_La_dsaVerify_37 rfl (hP _ _ (Or.inl ⟨q1, v, I2, L2, q2, rfl, (by first | rw [show v = 1 by omega] | rw [show v = 0 by omega])⟩))
      · skip
        refine aw_lconst (x := 1) d_La_dsaVerify_11 ⟨by decide, by decide⟩ (by decide) ?_
        refine aw_goto (tgt := 16) d_La_dsaVerify_12 (by decide) ?_
        refine ax_last d_La_dsaVerify_16 (k_268 S) (by decide) (by omega) (by rw [n_268 S]; omega) ?_
        refine aw_goto (tgt := 36) d_La_dsaVerify_17 (by decide) ?_
        refine aw_iconst d_La_dsaVerify_36 ⟨by decide, by decide⟩ ?_
        exact aw_iret d_La_dsaVerify_37 rfl (hP _ _ (Or.inl ⟨q1, v, I2, L2, q2, rfl, (by first | rw [show v = 1 by omega] | rw [show v = 0 by omega])⟩))
    · cases q3
  · rcases q_ with ⟨q1, v, I2, L2, q2, q3, q4⟩ | ⟨q1, I2, L2, q2, q3, q4⟩
    · cases q3
    · cases q3; subst q4
      rcases (show c4 ((0 ≤ s ∧ s < 3) ∧ (how = 0 ∨ how = -1)) (how ≠ 0 ∨ I 22 1 ≤ 255) (I 16 1 = 32 + 320 * pK s) (vfPre s (byAt I 24 25) (I 24 1) → vfOk s (byAt I 16 17) (byAt I 24 25)) = 0 ∨ c4 ((0 ≤ s ∧ s < 3) ∧ (how = 0 ∨ how = -1)) (how ≠ 0 ∨ I 22 1 ≤ 255) (I 16 1 = 32 + 320 * pK s) (vfPre s (byAt I 24 25) (I 24 1) → vfOk s (byAt I 16 17) (byAt I 24 25)) = 1 ∨ c4 ((0 ≤ s ∧ s < 3) ∧ (how = 0 ∨ how = -1)) (how ≠ 0 ∨ I 22 1 ≤ 255) (I 16 1 = 32 + 320 * pK s) (vfPre s (byAt I 24 25) (I 24 1) → vfOk s (byAt I 16 17) (byAt I 24 25)) = 2 ∨ c4 ((0 ≤ s ∧ s < 3) ∧ (how = 0 ∨ how = -1)) (how ≠ 0 ∨ I 22 1 ≤ 255) (I 16 1 = 32 + 320 * pK s) (vfPre s (byAt I 24 25) (I 24 1) → vfOk s (byAt I 16 17) (byAt I 24 25)) = 3 ∨ c4 ((0 ≤ s ∧ s < 3) ∧ (how = 0 ∨ how = -1)) (how ≠ 0 ∨ I 22 1 ≤ 255) (I 16 1 = 32 + 320 * pK s) (vfPre s (byAt I 24 25) (I 24 1) → vfOk s (byAt I 16 17) (byAt I 24 25)) = 4 from c4_or _ _ _ _) with cc | cc | cc | cc | cc
      · exact absurd cc q1
      · rw [cc, show ce4 1 = 0 from rfl]
        refine at_catch (e := 0) (tgt := 20) (i := 19) (pre := []) (rest := [(0, 17, 24, 46), (0, 17, 28, 53), (0, 17, 32, 48)]) (a := 0) (b := 17) wN_k rfl ⟨by decide, by decide⟩ (by decide) cl_19 ca_0 (fun q hq => by cases hq) ?_
        refine aw_astore (lv' := [(4, vr (hX h)), (0, vr 12), (1, vi s), (2, vi how), (3, vr 268)]) d_La_dsaVerify_20 (by decide) rfl ?_
        refine aw_iconst d_La_dsaVerify_22 ⟨by decide, by decide⟩ ?_
        exact aw_iret d_La_dsaVerify_23 rfl (hP _ _ (Or.inr ⟨q1, I2, L2, q2, by rw [cc], by rw [cc]; rfl⟩))
      · rw [cc, show ce4 2 = 2 from rfl]
        refine at_catch (e := 2) (tgt := 24) (i := 46) (pre := [(0, 17, 20, 19)]) (rest := [(0, 17, 28, 53), (0, 17, 32, 48)]) (a := 0) (b := 17) wN_k rfl ⟨by decide, by decide⟩ (by decide) cl_46 ca_2 (fun q hq => by simp only [List.mem_cons, List.not_mem_nil, or_false] at hq; subst hq; (first | exact ⟨by decide, 0, cl_19, nc_2_0⟩)) ?_
        refine aw_astore (lv' := [(4, vr (hX h)), (0, vr 12), (1, vi s), (2, vi how), (3, vr 268)]) d_La_dsaVerify_24 (by decide) rfl ?_
        refine aw_iconst d_La_dsaVerify_26 ⟨by decide, by decide⟩ ?_
        exact aw_iret d_La_dsaVerify_27 rfl (hP _ _ (Or.inr ⟨q1, I2, L2, q2, by rw [cc], by rw [cc]; rfl⟩))
      · rw [cc, show ce4 3 = 3 from rfl]
        refine at_catch (e := 3) (tgt := 28) (i := 53) (pre := [(0, 17, 20, 19), (0, 17, 24, 46)]) (rest := [(0, 17, 32, 48)]) (a := 0) (b := 17) wN_k rfl ⟨by decide, by decide⟩ (by decide) cl_53 ca_3 (fun q hq => by simp only [List.mem_cons, List.not_mem_nil, or_false] at hq; rcases hq with rfl | rfl <;> (first | exact ⟨by decide, 0, cl_19, nc_3_0⟩ | exact ⟨by decide, 2, cl_46, nc_3_2⟩)) ?_
        refine aw_astore (lv' := [(4, vr (hX h)), (0, vr 12), (1, vi s), (2, vi how), (3, vr 268)]) d_La_dsaVerify_28 (by decide) rfl ?_
        refine aw_iconst d_La_dsaVerify_30 ⟨by decide, by decide⟩ ?_
        exact aw_iret d_La_dsaVerify_31 rfl (hP _ _ (Or.inr ⟨q1, I2, L2, q2, by rw [cc], by rw [cc]; rfl⟩))
      · rw [cc, show ce4 4 = 4 from rfl]
        refine at_catch (e := 4) (tgt := 32) (i := 48) (pre := [(0, 17, 20, 19), (0, 17, 24, 46), (0, 17, 28, 53)]) (rest := []) (a := 0) (b := 17) wN_k rfl ⟨by decide, by decide⟩ (by decide) cl_48 ca_4 (fun q hq => by simp only [List.mem_cons, List.not_mem_nil, or_false] at hq; rcases hq with rfl | rfl | rfl <;> (first | exact ⟨by decide, 0, cl_19, nc_4_0⟩ | exact ⟨by decide, 2, cl_46, nc_4_2⟩ | exact ⟨by decide, 3, cl_53, nc_4_3⟩)) ?_
        refine aw_astore (lv' := [(4, vr (hX h)), (0, vr 12), (1, vi s), (2, vi how), (3, vr 268)]) d_La_dsaVerify_32 (by decide) rfl ?_
        refine aw_iconst d_La_dsaVerify_34 ⟨by decide, by decide⟩ ?_
        exact aw_iret d_La_dsaVerify_35 rfl (hP _ _ (Or.inr ⟨q1, I2, L2, q2, by rw [cc], by rw [cc]; rfl⟩))
