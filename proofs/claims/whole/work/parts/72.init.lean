/-! the constructors of the class -/
set_option maxHeartbeats 800000 in
theorem c_By_init {l : Launch} {G : a_G} {h : Hp} {N : Int} {n n1 n2 k k2 s t : Nat} {m : Int} (E : Pt N n1 k s t h) (en1 : n1 = n + 1) (en2 : n2 = n + 2) (ek : k2 = k + 1) (hn : n + 1 < 269) (e0 : tK n = 21) (e1 : tK (n + 1) = 2) (e2 : tN (n + 1) = m.toNat) (hm : 0 ≤ m ∧ m ≤ 10000000) (he : tEv[k]? = some (n, ((0 : Nat) : Int), n + 1)) (hx : 12 ≤ n ∧ ¬ (33 ≤ n ∧ n ≤ 35) ∧ n ≠ 43) : AW l G M_By_init (Ret (fun _ : Hp => none) (fun u => u) (fun u => Pt N n2 k2 s t u)) 0 (a_ar 0 [vr n, vi m]) [] h := by
  subst en1
  have en : n2 = n + 1 + 1 := en2
  suffices key : ∀ P : a_R → Hp → Prop, (∀ u, Pt N n2 k2 s t u → P (.inl none) u) → AW l G M_By_init P 0 [(0, vr n), (1, vi m)] [] h from key _ (fun u q => ⟨u, rfl, rfl, q⟩)
  intro P hP
  refine aw_aload_n d_By_init_0 rfl rfl ?_
  refine aw_objInit d_By_init_1 ml_By_1 (by decide) (by decide) ?_
  refine aw_aload_n d_By_init_4 rfl rfl ?_
  refine aw_iload_n d_By_init_5 rfl rfl ?_
  refine pt_newa (n' := n2) (q := 2) E en d_By_init_6 (by decide) rfl ac_2 hm.1 hm.2 hn e1 e2 (fun h E => ?_)
  refine pt_putR (k' := k2) E ek d_By_init_8 fd_By_7 e0 (by omega) rfl rfl rfl he (fun h E => ?_)
  refine aw_aload_n d_By_init_11 rfl rfl ?_
  refine aw_iconst d_By_init_12 ⟨by decide, by decide⟩ ?_
  refine pt_putI E d_By_init_13 fd_By_13 e0 (by omega) rfl (by omega) (fun h E => ?_)
  exact aw_vret d_By_init_16 rfl (hP _ E)
def rvF (x : Int) : Nat → Int
  | 0 => 0
  | b + 1 => a_or (a_shl (rvF x b) 1) (a_and (a_shr x (b : Int)) 1)
set_option maxHeartbeats 800000 in
set_option maxRecDepth 100000 in
theorem c_Ri_reversed {l : Launch} {G : a_G} {h : Hp} {x : Int}  : AW l G M_Ri_reversed (Rx (some (vi (rvF x 8))) h) 0 (a_ar 0 [vi x]) [] (h) := by
  suffices key : ∀ P : a_R → Hp → Prop, (P (.inl (some (vi (rvF x 8)))) h) → AW l G M_Ri_reversed P 0 [(0, vi x)] [] (h) from key _ (⟨rfl, rfl⟩)
  intro P hP
  refine aw_iconst d_Ri_reversed_0 ⟨by decide, by decide⟩ ?_
  refine aw_istore_n (lv' := [(1, vi 0), (0, vi x)]) d_Ri_reversed_1 rfl (by decide) rfl ?_
  refine aw_iconst d_Ri_reversed_2 ⟨by decide, by decide⟩ ?_
  refine aw_istore_n (lv' := [(2, vi 0), (1, vi 0), (0, vi x)]) d_Ri_reversed_3 rfl (by decide) rfl ?_
  have lp_4 : ∀ (n_ : Nat) (b : Int) (v : Int), (0 ≤ b ∧ b ≤ 8) → (v = rvF x b.toNat) → ((8 - b).toNat) = n_ → AW l G M_Ri_reversed P 4 [(2, vi b), (1, vi v), (0, vi x)] [] (h) := by
    intro n_
    induction n_ using Nat.strongRecOn with
    | _ n_ ih_4 =>
    intro b v hb hv hm_4
    refine aw_iload_n d_Ri_reversed_4 rfl rfl ?_
    refine aw_bipush d_Ri_reversed_5 ⟨by decide, by decide⟩ (by decide) ?_
    refine aw_icmp_ge (tgt := 26) d_Ri_reversed_7 (by decide) (fun c_7 => ?_) (fun c_7 => ?_)
    · skip
      refine aw_iload_n d_Ri_reversed_26 rfl rfl ?_
      exact aw_iret d_Ri_reversed_27 rfl (by rw [hv, show b.toNat = 8 by omega]; exact hP)
    · skip
      refine aw_iload_n d_Ri_reversed_10 rfl rfl ?_
      refine aw_iconst d_Ri_reversed_11 ⟨by decide, by decide⟩ ?_
      refine aw_ishl d_Ri_reversed_12 ?_
      refine aw_iload_n d_Ri_reversed_13 rfl rfl ?_
      refine aw_iload_n d_Ri_reversed_14 rfl rfl ?_
      refine aw_ishr d_Ri_reversed_15 ?_
      refine aw_iconst d_Ri_reversed_16 ⟨by decide, by decide⟩ ?_
      refine aw_iand d_Ri_reversed_17 ?_
      refine aw_ior d_Ri_reversed_18 ?_
      refine aw_istore_n (lv' := [(1, vi (a_or (a_shl v 1) (a_and (a_shr x b) 1))), (2, vi b), (0, vi x)]) d_Ri_reversed_19 rfl (by decide) rfl ?_
      refine ax_iinc (lv' := [(2, vi (b + 1)), (1, vi (a_or (a_shl v 1) (a_and (a_shr x b) 1))), (0, vi x)]) d_Ri_reversed_20 rfl (by decide) ⟨(by omega), (by omega)⟩ rfl ?_
      refine aw_goto (tgt := 4) d_Ri_reversed_23 (by decide) ?_
      exact ih_4 _ (by omega) (b + 1) (a_or (a_shl v 1) (a_and (a_shr x b) 1)) (by omega) (by rw [show (b + 1).toNat = b.toNat + 1 by omega]; show _ = a_or (a_shl (rvF x b.toNat) 1) (a_and (a_shr x (b.toNat : Int)) 1); rw [hv, Int.toNat_of_nonneg hb.1]) rfl
  exact lp_4 _ 0 0 (by omega) (rfl) rfl
def zq : Nat → Int
  | 0 => 1
  | k + 1 => zq k * 1753 % 8380417
theorem zq_b : ∀ k, 0 ≤ zq k ∧ zq k < 8380417
  | 0 => ⟨by show (0 : Int) ≤ 1; decide, by show (1 : Int) < 8380417; decide⟩
  | k + 1 => by
    show 0 ≤ zq k * 1753 % 8380417 ∧ zq k * 1753 % 8380417 < 8380417
    omega
theorem rv_d : ∀ k : Nat, k < 256 → (0 ≤ rvF (k : Int) 8 ∧ rvF (k : Int) 8 < 256) ∧ rvF (rvF (k : Int) 8) 8 = (k : Int) := by decide +kernel
theorem rv_b {i : Int} (h : 0 ≤ i ∧ i < 256) : 0 ≤ rvF i 8 ∧ rvF i 8 < 256 := by
  have z := (rv_d i.toNat (by omega)).1
  rwa [Int.toNat_of_nonneg h.1] at z
def zqL : Nat → Int → List Int
  | 0, _ => []
  | k + 1, x => x :: zqL k (x * 1753 % 8380417)
theorem zqL_at : ∀ (n k j : Nat), j < n → (zqL n (zq k))[j]? = some (zq (k + j))
  | 0, _, _, h => absurd h (by omega)
  | n + 1, k, 0, _ => rfl
  | n + 1, k, j + 1, h => by
    show (zqL n (zq k * 1753 % 8380417))[j]? = _
    rw [show zq k * 1753 % 8380417 = zq (k + 1) from rfl, zqL_at n (k + 1) j (by omega), show k + 1 + j = k + (j + 1) by omega]
theorem rv_z0 : ∀ k : Nat, k < 256 → (zqL 256 1)[k]? = some (rt (rvF (k : Int) 8)) := by decide +kernel
theorem rv_z (k : Nat) (h : k < 256) : rt (rvF (k : Int) 8) = zq k := by
  have a := rv_z0 k h
  have b := zqL_at 256 0 k h
  rw [show zq 0 = 1 from rfl] at b
  rw [a, Nat.zero_add] at b
  exact Option.some.inj b
theorem ax_putIF {l : Launch} {G : a_G} {M : a_M} {P : a_R → Hp → Prop} {pc : Nat} {lv : List (Nat × AV)} {st : List AV} {h : Hp} {I L : Nat → Int → Int} {a i ci f : Nat} {x : Int} (hd : decode (a_cc M) pc = .ok (.putfield i, 3)) (F : a_Fd (a_ow M) i ci f 0) (hk : hK h a = 20 + ci) (ho : 12 ≤ a) (hfin : (a_T ci f).2.2.2 = true) (hdecl : (a_T ci f).1 = a_ow M) (hini : (a_y M).name = "<init>") (k : AW l G M P (pc + 3) lv st (sD h (a_up I a f x) L)) : AW l G M P pc lv (vi x :: vr a :: st) (sD h I L) := aw_putIF hd F hk ho hfin hdecl hini k
theorem pt_newaz {l : Launch} {G : a_G} {M : a_M} {P : a_R → Hp → Prop} {pc : Nat} {lv : List (Nat × AV)} {st : List AV} {h : Hp} {N : Int} {n n' k s t : Nat} {atype : ArrayType} {q : Nat} {m : Int} (E : Pt N n k s t h) (en : n' = n + 1) (hd : decode (a_cc M) pc = .ok (.newarray atype, 2)) (hq : 1 ≤ q ∧ q ≤ 4) (ht : newarray.typeOf atype = a_ft q) (hw : Cond.arrayClass (a_ft q) ∈ lw_tbl) (h0 : 0 ≤ m) (hm : m ≤ 10000000) (hn : n < 269) (e1 : tK n = q) (e2 : tN n = m.toNat) (kk : ∀ h', Pt N n' k s t h' → (∀ j, hI h' n j = 0) → AW l G M P (pc + 2) lv (vr n :: st) h') : AW l G M P pc lv (vi m :: st) h := by
  subst en
  refine aw_newa hd hq ht hw h0 hm ?_ ?_ ?_
  · rw [E.x]; unfold a_NX; omega
  · rw [E.u, ← e2, ← tU_s E.n9.1]
    have := tU_le (n := n + 1) (by omega)
    unfold a_US; omega
  · have z : ∀ j, hI (wN h q m.toNat) n j = 0 := fun j => if_pos E.x.symm
    rw [E.x]; exact kk _ (E.new hn e1 e2) z
theorem pt_putRz {l : Launch} {G : a_G} {M : a_M} {P : a_R → Hp → Prop} {pc : Nat} {lv : List (Nat × AV)} {st : List AV} {h : Hp} {N : Int} {n k k' s t : Nat} {a b i ci f : Nat} (E : Pt N n k s t h) (ek : k' = k + 1) (hd : decode (a_cc M) pc = .ok (.putfield i, 3)) (F : a_Fd (a_ow M) i ci f 2) (hk : tK a = 20 + ci) (ha : 12 ≤ a ∧ a < n) (hf : (a_T ci f).2.2.2 = true) (hf2 : (a_T ci f).1 = a_ow M) (hf3 : (a_y M).name = "<init>") (he : tEv[k]? = some (a, (f : Int), b)) (z : ∀ j, hI h 43 j = 0) (kk : ∀ h', Pt N n k' s t h' → (∀ j, hI h' 43 j = 0) → AW l G M P (pc + 3) lv st h') : AW l G M P pc lv (vr b :: vr a :: st) h := by
  subst ek
  exact aw_putRF hd F ((E.kk a ha.2).trans hk) ha.1 hf hf2 hf3 (kk _ (E.putR he ha.2) z)
set_option maxHeartbeats 4000000 in
set_option maxRecDepth 100000 in
theorem c_Pa_init0 {l : Launch} {G : a_G} {h : Hp} {N : Int} (E : Pt N 34 20 0 0 h) : AW l G M_Pa_init (Ret (fun _ : Hp => none) (fun u => u) (fun u => Pt N 34 20 1 0 u)) 0 (a_ar 0 [vr 33, vi 0]) [] h := by
  suffices key : ∀ P : a_R → Hp → Prop, (∀ u, Pt N 34 20 1 0 u → P (.inl none) u) → AW l G M_Pa_init P 0 [(0, vr 33), (1, vi 0)] [] h from key _ (fun u q => ⟨u, rfl, rfl, q⟩)
  intro P hP
  refine aw_aload_n d_Pa_init_0 rfl rfl ?_
  refine aw_objInit d_Pa_init_1 ml_Pa_5 (by decide) (by decide) ?_
  show AW l G M_Pa_init P 4 [(0, vr 33), (1, vi 0)] [] (sD h (hI h) (hL h))
  refine aw_aload_n d_Pa_init_4 rfl rfl ?_
  refine aw_gets (j := 0) d_Pa_init_5 (by decide) gs_Pa_11 ?_
  refine aw_iload_n d_Pa_init_8 rfl rfl ?_
  refine ax_ialde (x := 4) d_Pa_init_9 ((E.kk 0 (by decide)).trans (by decide +kernel)) (by omega) (by show _ < hN h 0; rw [E.nn 0 (by decide) (by decide)]; decide +kernel) ((E.st.1 0 0 (by decide) (by decide)).trans (by decide)) ?_
  refine ax_putIF d_Pa_init_10 fd_Pa_15 ((E.kk 33 (by decide)).trans (by decide +kernel)) (by decide) rfl rfl rfl ?_
  refine aw_aload_n d_Pa_init_13 rfl rfl ?_
  refine aw_gets (j := 1) d_Pa_init_14 (by decide) gs_Pa_19 ?_
  refine aw_iload_n d_Pa_init_17 rfl rfl ?_
  refine ax_ialde (x := 4) d_Pa_init_18 ((E.kk 1 (by decide)).trans (by decide +kernel)) (by omega) (by show _ < hN h 1; rw [E.nn 1 (by decide) (by decide)]; decide +kernel) (Eq.trans (a_up_ne (Or.inl (by decide))) ((E.st.1 1 0 (by decide) (by decide)).trans (by decide))) ?_
  refine ax_putIF d_Pa_init_19 fd_Pa_22 ((E.kk 33 (by decide)).trans (by decide +kernel)) (by decide) rfl rfl rfl ?_
  refine aw_aload_n d_Pa_init_22 rfl rfl ?_
  refine aw_gets (j := 2) d_Pa_init_23 (by decide) gs_Pa_25 ?_
  refine aw_iload_n d_Pa_init_26 rfl rfl ?_
  refine ax_ialde (x := 2) d_Pa_init_27 ((E.kk 2 (by decide)).trans (by decide +kernel)) (by omega) (by show _ < hN h 2; rw [E.nn 2 (by decide) (by decide)]; decide +kernel) (Eq.trans (a_up_ne (Or.inl (by decide))) (Eq.trans (a_up_ne (Or.inl (by decide))) ((E.st.1 2 0 (by decide) (by decide)).trans (by decide)))) ?_
  refine ax_putIF d_Pa_init_28 fd_Pa_28 ((E.kk 33 (by decide)).trans (by decide +kernel)) (by decide) rfl rfl rfl ?_
  refine aw_aload_n d_Pa_init_31 rfl rfl ?_
  refine aw_gets (j := 3) d_Pa_init_32 (by decide) gs_Pa_31 ?_
  refine aw_iload_n d_Pa_init_35 rfl rfl ?_
  refine ax_ialde (x := 39) d_Pa_init_36 ((E.kk 3 (by decide)).trans (by decide +kernel)) (by omega) (by show _ < hN h 3; rw [E.nn 3 (by decide) (by decide)]; decide +kernel) (Eq.trans (a_up_ne (Or.inl (by decide))) (Eq.trans (a_up_ne (Or.inl (by decide))) (Eq.trans (a_up_ne (Or.inl (by decide))) ((E.st.1 3 0 (by decide) (by decide)).trans (by decide))))) ?_
  refine ax_putIF d_Pa_init_37 fd_Pa_34 ((E.kk 33 (by decide)).trans (by decide +kernel)) (by decide) rfl rfl rfl ?_
  refine aw_aload_n d_Pa_init_40 rfl rfl ?_
  refine aw_gets (j := 4) d_Pa_init_41 (by decide) gs_Pa_37 ?_
  refine aw_iload_n d_Pa_init_44 rfl rfl ?_
  refine ax_ialde (x := 131072) d_Pa_init_45 ((E.kk 4 (by decide)).trans (by decide +kernel)) (by omega) (by show _ < hN h 4; rw [E.nn 4 (by decide) (by decide)]; decide +kernel) (Eq.trans (a_up_ne (Or.inl (by decide))) (Eq.trans (a_up_ne (Or.inl (by decide))) (Eq.trans (a_up_ne (Or.inl (by decide))) (Eq.trans (a_up_ne (Or.inl (by decide))) ((E.st.1 4 0 (by decide) (by decide)).trans (by decide)))))) ?_
  refine ax_putIF d_Pa_init_46 fd_Pa_40 ((E.kk 33 (by decide)).trans (by decide +kernel)) (by decide) rfl rfl rfl ?_
  refine aw_aload_n d_Pa_init_49 rfl rfl ?_
  refine aw_gets (j := 5) d_Pa_init_50 (by decide) gs_Pa_43 ?_
  refine aw_iload_n d_Pa_init_53 rfl rfl ?_
  refine ax_ialde (x := 44) d_Pa_init_54 ((E.kk 5 (by decide)).trans (by decide +kernel)) (by omega) (by show _ < hN h 5; rw [E.nn 5 (by decide) (by decide)]; decide +kernel) (Eq.trans (a_up_ne (Or.inl (by decide))) (Eq.trans (a_up_ne (Or.inl (by decide))) (Eq.trans (a_up_ne (Or.inl (by decide))) (Eq.trans (a_up_ne (Or.inl (by decide))) (Eq.trans (a_up_ne (Or.inl (by decide))) ((E.st.1 5 0 (by decide) (by decide)).trans (by decide))))))) ?_
  refine ax_putIF d_Pa_init_55 fd_Pa_46 ((E.kk 33 (by decide)).trans (by decide +kernel)) (by decide) rfl rfl rfl ?_
  refine aw_aload_n d_Pa_init_58 rfl rfl ?_
  refine aw_ldc (n := 8380416) d_Pa_init_59 lc_Pa_51 ⟨by decide, by decide⟩ ?_
  refine aw_iconst d_Pa_init_61 ⟨by decide, by decide⟩ ?_
  refine aw_gets (j := 5) d_Pa_init_62 (by decide) gs_Pa_43 ?_
  refine aw_iload_n d_Pa_init_65 rfl rfl ?_
  refine ax_ialde (x := 44) d_Pa_init_66 ((E.kk 5 (by decide)).trans (by decide +kernel)) (by omega) (by show _ < hN h 5; rw [E.nn 5 (by decide) (by decide)]; decide +kernel) (Eq.trans (a_up_ne (Or.inl (by decide))) (Eq.trans (a_up_ne (Or.inl (by decide))) (Eq.trans (a_up_ne (Or.inl (by decide))) (Eq.trans (a_up_ne (Or.inl (by decide))) (Eq.trans (a_up_ne (Or.inl (by decide))) (Eq.trans (a_up_ne (Or.inl (by decide))) ((E.st.1 5 0 (by decide) (by decide)).trans (by decide)))))))) ?_
  refine ax_imul d_Pa_init_67 ⟨(by omega), (by omega)⟩ ?_
  refine ax_ti (x := 88) (by decide) ?_
  refine ax_idiv d_Pa_init_68 ⟨(by omega), (by omega)⟩ (by omega) ?_
  refine ax_ti (x := 95232) (by decide) ?_
  refine ax_putIF d_Pa_init_69 fd_Pa_52 ((E.kk 33 (by decide)).trans (by decide +kernel)) (by decide) rfl rfl rfl ?_
  refine aw_aload_n d_Pa_init_72 rfl rfl ?_
  refine aw_gets (j := 6) d_Pa_init_73 (by decide) gs_Pa_55 ?_
  refine aw_iload_n d_Pa_init_76 rfl rfl ?_
  refine ax_ialde (x := 80) d_Pa_init_77 ((E.kk 6 (by decide)).trans (by decide +kernel)) (by omega) (by show _ < hN h 6; rw [E.nn 6 (by decide) (by decide)]; decide +kernel) (Eq.trans (a_up_ne (Or.inl (by decide))) (Eq.trans (a_up_ne (Or.inl (by decide))) (Eq.trans (a_up_ne (Or.inl (by decide))) (Eq.trans (a_up_ne (Or.inl (by decide))) (Eq.trans (a_up_ne (Or.inl (by decide))) (Eq.trans (a_up_ne (Or.inl (by decide))) (Eq.trans (a_up_ne (Or.inl (by decide))) ((E.st.1 6 0 (by decide) (by decide)).trans (by decide))))))))) ?_
  refine ax_putIF d_Pa_init_78 fd_Pa_58 ((E.kk 33 (by decide)).trans (by decide +kernel)) (by decide) rfl rfl rfl ?_
  refine aw_aload_n d_Pa_init_81 rfl rfl ?_
  refine aw_gets (j := 7) d_Pa_init_82 (by decide) gs_Pa_61 ?_
  refine aw_iload_n d_Pa_init_85 rfl rfl ?_
  refine ax_ialde (x := 32) d_Pa_init_86 ((E.kk 7 (by decide)).trans (by decide +kernel)) (by omega) (by show _ < hN h 7; rw [E.nn 7 (by decide) (by decide)]; decide +kernel) (Eq.trans (a_up_ne (Or.inl (by decide))) (Eq.trans (a_up_ne (Or.inl (by decide))) (Eq.trans (a_up_ne (Or.inl (by decide))) (Eq.trans (a_up_ne (Or.inl (by decide))) (Eq.trans (a_up_ne (Or.inl (by decide))) (Eq.trans (a_up_ne (Or.inl (by decide))) (Eq.trans (a_up_ne (Or.inl (by decide))) (Eq.trans (a_up_ne (Or.inl (by decide))) ((E.st.1 7 0 (by decide) (by decide)).trans (by decide)))))))))) ?_
  refine ax_putIF d_Pa_init_87 fd_Pa_64 ((E.kk 33 (by decide)).trans (by decide +kernel)) (by decide) rfl rfl rfl ?_
  refine aw_aload_n d_Pa_init_90 rfl rfl ?_
  refine aw_gets (j := 3) d_Pa_init_91 (by decide) gs_Pa_31 ?_
  refine aw_iload_n d_Pa_init_94 rfl rfl ?_
  refine ax_ialde (x := 39) d_Pa_init_95 ((E.kk 3 (by decide)).trans (by decide +kernel)) (by omega) (by show _ < hN h 3; rw [E.nn 3 (by decide) (by decide)]; decide +kernel) (Eq.trans (a_up_ne (Or.inl (by decide))) (Eq.trans (a_up_ne (Or.inl (by decide))) (Eq.trans (a_up_ne (Or.inl (by decide))) (Eq.trans (a_up_ne (Or.inl (by decide))) (Eq.trans (a_up_ne (Or.inl (by decide))) (Eq.trans (a_up_ne (Or.inl (by decide))) (Eq.trans (a_up_ne (Or.inl (by decide))) (Eq.trans (a_up_ne (Or.inl (by decide))) (Eq.trans (a_up_ne (Or.inl (by decide))) ((E.st.1 3 0 (by decide) (by decide)).trans (by decide))))))))))) ?_
  refine aw_gets (j := 2) d_Pa_init_96 (by decide) gs_Pa_25 ?_
  refine aw_iload_n d_Pa_init_99 rfl rfl ?_
  refine ax_ialde (x := 2) d_Pa_init_100 ((E.kk 2 (by decide)).trans (by decide +kernel)) (by omega) (by show _ < hN h 2; rw [E.nn 2 (by decide) (by decide)]; decide +kernel) (Eq.trans (a_up_ne (Or.inl (by decide))) (Eq.trans (a_up_ne (Or.inl (by decide))) (Eq.trans (a_up_ne (Or.inl (by decide))) (Eq.trans (a_up_ne (Or.inl (by decide))) (Eq.trans (a_up_ne (Or.inl (by decide))) (Eq.trans (a_up_ne (Or.inl (by decide))) (Eq.trans (a_up_ne (Or.inl (by decide))) (Eq.trans (a_up_ne (Or.inl (by decide))) (Eq.trans (a_up_ne (Or.inl (by decide))) ((E.st.1 2 0 (by decide) (by decide)).trans (by decide))))))))))) ?_
  refine ax_imul d_Pa_init_101 ⟨(by omega), (by omega)⟩ ?_
  refine ax_ti (x := 78) (by decide) ?_
  refine ax_putIF d_Pa_init_102 fd_Pa_67 ((E.kk 33 (by decide)).trans (by decide +kernel)) (by decide) rfl rfl rfl ?_
  refine aw_aload_n d_Pa_init_105 rfl rfl ?_
  refine aw_gets (j := 2) d_Pa_init_106 (by decide) gs_Pa_25 ?_
  refine aw_iload_n d_Pa_init_109 rfl rfl ?_
  refine ax_ialde (x := 2) d_Pa_init_110 ((E.kk 2 (by decide)).trans (by decide +kernel)) (by omega) (by show _ < hN h 2; rw [E.nn 2 (by decide) (by decide)]; decide +kernel) (Eq.trans (a_up_ne (Or.inl (by decide))) (Eq.trans (a_up_ne (Or.inl (by decide))) (Eq.trans (a_up_ne (Or.inl (by decide))) (Eq.trans (a_up_ne (Or.inl (by decide))) (Eq.trans (a_up_ne (Or.inl (by decide))) (Eq.trans (a_up_ne (Or.inl (by decide))) (Eq.trans (a_up_ne (Or.inl (by decide))) (Eq.trans (a_up_ne (Or.inl (by decide))) (Eq.trans (a_up_ne (Or.inl (by decide))) (Eq.trans (a_up_ne (Or.inl (by decide))) ((E.st.1 2 0 (by decide) (by decide)).trans (by decide)))))))))))) ?_
  refine aw_iconst d_Pa_init_111 ⟨by decide, by decide⟩ ?_
  refine aw_icmp_ne (tgt := 119) d_Pa_init_112 (by decide) (fun c_112 => ?_) (fun c_112 => False.elim (by omega))
  refine aw_iconst d_Pa_init_119 ⟨by decide, by decide⟩ ?_
  refine ax_putIF d_Pa_init_120 fd_Pa_70 ((E.kk 33 (by decide)).trans (by decide +kernel)) (by decide) rfl rfl rfl ?_
  refine aw_aload_n d_Pa_init_123 rfl rfl ?_
  refine aw_gets (j := 4) d_Pa_init_124 (by decide) gs_Pa_37 ?_
  refine aw_iload_n d_Pa_init_127 rfl rfl ?_
  refine ax_ialde (x := 131072) d_Pa_init_128 ((E.kk 4 (by decide)).trans (by decide +kernel)) (by omega) (by show _ < hN h 4; rw [E.nn 4 (by decide) (by decide)]; decide +kernel) (Eq.trans (a_up_ne (Or.inl (by decide))) (Eq.trans (a_up_ne (Or.inl (by decide))) (Eq.trans (a_up_ne (Or.inl (by decide))) (Eq.trans (a_up_ne (Or.inl (by decide))) (Eq.trans (a_up_ne (Or.inl (by decide))) (Eq.trans (a_up_ne (Or.inl (by decide))) (Eq.trans (a_up_ne (Or.inl (by decide))) (Eq.trans (a_up_ne (Or.inl (by decide))) (Eq.trans (a_up_ne (Or.inl (by decide))) (Eq.trans (a_up_ne (Or.inl (by decide))) (Eq.trans (a_up_ne (Or.inl (by decide))) ((E.st.1 4 0 (by decide) (by decide)).trans (by decide))))))))))))) ?_
  refine aw_ldc (n := 524288) d_Pa_init_129 lc_Pa_73 ⟨by decide, by decide⟩ ?_
  refine aw_icmp_ne (tgt := 139) d_Pa_init_131 (by decide) (fun c_131 => ?_) (fun c_131 => False.elim (by omega))
  refine aw_bipush d_Pa_init_139 ⟨by decide, by decide⟩ (by decide) ?_
  refine ax_putIF d_Pa_init_141 fd_Pa_74 ((E.kk 33 (by decide)).trans (by decide +kernel)) (by decide) rfl rfl rfl ?_
  refine aw_aload_n d_Pa_init_144 rfl rfl ?_
  refine aw_gets (j := 5) d_Pa_init_145 (by decide) gs_Pa_43 ?_
  refine aw_iload_n d_Pa_init_148 rfl rfl ?_
  refine ax_ialde (x := 44) d_Pa_init_149 ((E.kk 5 (by decide)).trans (by decide +kernel)) (by omega) (by show _ < hN h 5; rw [E.nn 5 (by decide) (by decide)]; decide +kernel) (Eq.trans (a_up_ne (Or.inl (by decide))) (Eq.trans (a_up_ne (Or.inl (by decide))) (Eq.trans (a_up_ne (Or.inl (by decide))) (Eq.trans (a_up_ne (Or.inl (by decide))) (Eq.trans (a_up_ne (Or.inl (by decide))) (Eq.trans (a_up_ne (Or.inl (by decide))) (Eq.trans (a_up_ne (Or.inl (by decide))) (Eq.trans (a_up_ne (Or.inl (by decide))) (Eq.trans (a_up_ne (Or.inl (by decide))) (Eq.trans (a_up_ne (Or.inl (by decide))) (Eq.trans (a_up_ne (Or.inl (by decide))) (Eq.trans (a_up_ne (Or.inl (by decide))) ((E.st.1 5 0 (by decide) (by decide)).trans (by decide)))))))))))))) ?_
  refine aw_bipush d_Pa_init_150 ⟨by decide, by decide⟩ (by decide) ?_
  refine aw_icmp_ne (tgt := 159) d_Pa_init_152 (by decide) (fun c_152 => ?_) (fun c_152 => False.elim (by omega))
  refine aw_bipush d_Pa_init_159 ⟨by decide, by decide⟩ (by decide) ?_
  refine ax_putIF d_Pa_init_161 fd_Pa_77 ((E.kk 33 (by decide)).trans (by decide +kernel)) (by decide) rfl rfl rfl ?_
  refine aw_aload_n d_Pa_init_164 rfl rfl ?_
  refine aw_bipush d_Pa_init_165 ⟨by decide, by decide⟩ (by decide) ?_
  refine aw_aload_n d_Pa_init_167 rfl rfl ?_
  refine ax_getIe (x := 4) d_Pa_init_168 fd_Pa_15 ((E.kk 33 (by decide)).trans (by decide +kernel)) (Eq.trans (a_up_ne (Or.inr (by decide))) (Eq.trans (a_up_ne (Or.inr (by decide))) (Eq.trans (a_up_ne (Or.inr (by decide))) (Eq.trans (a_up_ne (Or.inr (by decide))) (Eq.trans (a_up_ne (Or.inr (by decide))) (Eq.trans (a_up_ne (Or.inr (by decide))) (Eq.trans (a_up_ne (Or.inr (by decide))) (Eq.trans (a_up_ne (Or.inr (by decide))) (Eq.trans (a_up_ne (Or.inr (by decide))) (Eq.trans (a_up_ne (Or.inr (by decide))) (Eq.trans (a_up_ne (Or.inr (by decide))) (Eq.trans (a_up_ne (Or.inr (by decide))) (a_up_at))))))))))))) ?_
  refine aw_bipush d_Pa_init_171 ⟨by decide, by decide⟩ (by decide) ?_
  refine ax_S (st := [vi 4, vi 32, vr 33]) (as := [vi 10]) (v := some (vi (32 * 10))) (h' := sD h (a_up (a_up (a_up (a_up (a_up (a_up (a_up (a_up (a_up (a_up (a_up (a_up (a_up (hI h) 33 0 4) 33 1 4) 33 2 2) 33 3 39) 33 4 131072) 33 8 44) 33 5 95232) 33 6 80) 33 7 32) 33 9 78) 33 10 3) 33 11 18) 33 12 6) (hL h)) d_Pa_init_173 cs_Pa_init_173 (c_Ri_packedSize (by decide)) rfl rfl rfl ?_
  show AW l G M_Pa_init P 176 [(0, vr 33), (1, vi 0)] [vi (32 * 10), vi 4, vi 32, vr 33] (sD h (a_up (a_up (a_up (a_up (a_up (a_up (a_up (a_up (a_up (a_up (a_up (a_up (a_up (hI h) 33 0 4) 33 1 4) 33 2 2) 33 3 39) 33 4 131072) 33 8 44) 33 5 95232) 33 6 80) 33 7 32) 33 9 78) 33 10 3) 33 11 18) 33 12 6) (hL h))
  refine ax_ti (x := 320) (by decide) ?_
  refine ax_imul d_Pa_init_176 ⟨(by omega), (by omega)⟩ ?_
  refine ax_ti (x := 1280) (by decide) ?_
  refine ax_iadd d_Pa_init_177 ⟨(by omega), (by omega)⟩ ?_
  refine ax_ti (x := 1312) (by decide) ?_
  refine ax_putIF d_Pa_init_178 fd_Pa_84 ((E.kk 33 (by decide)).trans (by decide +kernel)) (by decide) rfl rfl rfl ?_
  refine aw_aload_n d_Pa_init_181 rfl rfl ?_
  refine aw_sipush d_Pa_init_182 ⟨by decide, by decide⟩ (by decide) ?_
  refine aw_aload_n d_Pa_init_185 rfl rfl ?_
  refine ax_getIe (x := 4) d_Pa_init_186 fd_Pa_15 ((E.kk 33 (by decide)).trans (by decide +kernel)) (Eq.trans (a_up_ne (Or.inr (by decide))) (Eq.trans (a_up_ne (Or.inr (by decide))) (Eq.trans (a_up_ne (Or.inr (by decide))) (Eq.trans (a_up_ne (Or.inr (by decide))) (Eq.trans (a_up_ne (Or.inr (by decide))) (Eq.trans (a_up_ne (Or.inr (by decide))) (Eq.trans (a_up_ne (Or.inr (by decide))) (Eq.trans (a_up_ne (Or.inr (by decide))) (Eq.trans (a_up_ne (Or.inr (by decide))) (Eq.trans (a_up_ne (Or.inr (by decide))) (Eq.trans (a_up_ne (Or.inr (by decide))) (Eq.trans (a_up_ne (Or.inr (by decide))) (Eq.trans (a_up_ne (Or.inr (by decide))) (a_up_at)))))))))))))) ?_
  refine aw_aload_n d_Pa_init_189 rfl rfl ?_
  refine ax_getIe (x := 4) d_Pa_init_190 fd_Pa_22 ((E.kk 33 (by decide)).trans (by decide +kernel)) (Eq.trans (a_up_ne (Or.inr (by decide))) (Eq.trans (a_up_ne (Or.inr (by decide))) (Eq.trans (a_up_ne (Or.inr (by decide))) (Eq.trans (a_up_ne (Or.inr (by decide))) (Eq.trans (a_up_ne (Or.inr (by decide))) (Eq.trans (a_up_ne (Or.inr (by decide))) (Eq.trans (a_up_ne (Or.inr (by decide))) (Eq.trans (a_up_ne (Or.inr (by decide))) (Eq.trans (a_up_ne (Or.inr (by decide))) (Eq.trans (a_up_ne (Or.inr (by decide))) (Eq.trans (a_up_ne (Or.inr (by decide))) (Eq.trans (a_up_ne (Or.inr (by decide))) (a_up_at))))))))))))) ?_
  refine ax_iadd d_Pa_init_193 ⟨(by omega), (by omega)⟩ ?_
  refine ax_ti (x := 8) (by decide) ?_
  refine aw_aload_n d_Pa_init_194 rfl rfl ?_
  refine ax_getIe (x := 3) d_Pa_init_195 fd_Pa_70 ((E.kk 33 (by decide)).trans (by decide +kernel)) (Eq.trans (a_up_ne (Or.inr (by decide))) (Eq.trans (a_up_ne (Or.inr (by decide))) (Eq.trans (a_up_ne (Or.inr (by decide))) (a_up_at)))) ?_
  refine ax_S (st := [vi 8, vi 128, vr 33]) (as := [vi 3]) (v := some (vi (32 * 3))) (h' := sD h (a_up (a_up (a_up (a_up (a_up (a_up (a_up (a_up (a_up (a_up (a_up (a_up (a_up (a_up (hI h) 33 0 4) 33 1 4) 33 2 2) 33 3 39) 33 4 131072) 33 8 44) 33 5 95232) 33 6 80) 33 7 32) 33 9 78) 33 10 3) 33 11 18) 33 12 6) 33 13 1312) (hL h)) d_Pa_init_198 cs_Pa_init_198 (c_Ri_packedSize (by decide)) rfl rfl rfl ?_
  show AW l G M_Pa_init P 201 [(0, vr 33), (1, vi 0)] [vi (32 * 3), vi 8, vi 128, vr 33] (sD h (a_up (a_up (a_up (a_up (a_up (a_up (a_up (a_up (a_up (a_up (a_up (a_up (a_up (a_up (hI h) 33 0 4) 33 1 4) 33 2 2) 33 3 39) 33 4 131072) 33 8 44) 33 5 95232) 33 6 80) 33 7 32) 33 9 78) 33 10 3) 33 11 18) 33 12 6) 33 13 1312) (hL h))
  refine ax_ti (x := 96) (by decide) ?_
  refine ax_imul d_Pa_init_201 ⟨(by omega), (by omega)⟩ ?_
  refine ax_ti (x := 768) (by decide) ?_
  refine ax_iadd d_Pa_init_202 ⟨(by omega), (by omega)⟩ ?_
  refine ax_ti (x := 896) (by decide) ?_
  refine aw_aload_n d_Pa_init_203 rfl rfl ?_
  refine ax_getIe (x := 4) d_Pa_init_204 fd_Pa_15 ((E.kk 33 (by decide)).trans (by decide +kernel)) (Eq.trans (a_up_ne (Or.inr (by decide))) (Eq.trans (a_up_ne (Or.inr (by decide))) (Eq.trans (a_up_ne (Or.inr (by decide))) (Eq.trans (a_up_ne (Or.inr (by decide))) (Eq.trans (a_up_ne (Or.inr (by decide))) (Eq.trans (a_up_ne (Or.inr (by decide))) (Eq.trans (a_up_ne (Or.inr (by decide))) (Eq.trans (a_up_ne (Or.inr (by decide))) (Eq.trans (a_up_ne (Or.inr (by decide))) (Eq.trans (a_up_ne (Or.inr (by decide))) (Eq.trans (a_up_ne (Or.inr (by decide))) (Eq.trans (a_up_ne (Or.inr (by decide))) (Eq.trans (a_up_ne (Or.inr (by decide))) (a_up_at)))))))))))))) ?_
  refine aw_bipush d_Pa_init_207 ⟨by decide, by decide⟩ (by decide) ?_
  refine ax_S (st := [vi 4, vi 896, vr 33]) (as := [vi 13]) (v := some (vi (32 * 13))) (h' := sD h (a_up (a_up (a_up (a_up (a_up (a_up (a_up (a_up (a_up (a_up (a_up (a_up (a_up (a_up (hI h) 33 0 4) 33 1 4) 33 2 2) 33 3 39) 33 4 131072) 33 8 44) 33 5 95232) 33 6 80) 33 7 32) 33 9 78) 33 10 3) 33 11 18) 33 12 6) 33 13 1312) (hL h)) d_Pa_init_209 cs_Pa_init_209 (c_Ri_packedSize (by decide)) rfl rfl rfl ?_
  show AW l G M_Pa_init P 212 [(0, vr 33), (1, vi 0)] [vi (32 * 13), vi 4, vi 896, vr 33] (sD h (a_up (a_up (a_up (a_up (a_up (a_up (a_up (a_up (a_up (a_up (a_up (a_up (a_up (a_up (hI h) 33 0 4) 33 1 4) 33 2 2) 33 3 39) 33 4 131072) 33 8 44) 33 5 95232) 33 6 80) 33 7 32) 33 9 78) 33 10 3) 33 11 18) 33 12 6) 33 13 1312) (hL h))
  refine ax_ti (x := 416) (by decide) ?_
  refine ax_imul d_Pa_init_212 ⟨(by omega), (by omega)⟩ ?_
  refine ax_ti (x := 1664) (by decide) ?_
  refine ax_iadd d_Pa_init_213 ⟨(by omega), (by omega)⟩ ?_
  refine ax_ti (x := 2560) (by decide) ?_
  refine ax_putIF d_Pa_init_214 fd_Pa_87 ((E.kk 33 (by decide)).trans (by decide +kernel)) (by decide) rfl rfl rfl ?_
  refine aw_aload_n d_Pa_init_217 rfl rfl ?_
  refine aw_aload_n d_Pa_init_218 rfl rfl ?_
  refine ax_getIe (x := 32) d_Pa_init_219 fd_Pa_64 ((E.kk 33 (by decide)).trans (by decide +kernel)) (Eq.trans (a_up_ne (Or.inr (by decide))) (Eq.trans (a_up_ne (Or.inr (by decide))) (Eq.trans (a_up_ne (Or.inr (by decide))) (Eq.trans (a_up_ne (Or.inr (by decide))) (Eq.trans (a_up_ne (Or.inr (by decide))) (Eq.trans (a_up_ne (Or.inr (by decide))) (a_up_at))))))) ?_
  refine aw_aload_n d_Pa_init_222 rfl rfl ?_
  refine ax_getIe (x := 4) d_Pa_init_223 fd_Pa_22 ((E.kk 33 (by decide)).trans (by decide +kernel)) (Eq.trans (a_up_ne (Or.inr (by decide))) (Eq.trans (a_up_ne (Or.inr (by decide))) (Eq.trans (a_up_ne (Or.inr (by decide))) (Eq.trans (a_up_ne (Or.inr (by decide))) (Eq.trans (a_up_ne (Or.inr (by decide))) (Eq.trans (a_up_ne (Or.inr (by decide))) (Eq.trans (a_up_ne (Or.inr (by decide))) (Eq.trans (a_up_ne (Or.inr (by decide))) (Eq.trans (a_up_ne (Or.inr (by decide))) (Eq.trans (a_up_ne (Or.inr (by decide))) (Eq.trans (a_up_ne (Or.inr (by decide))) (Eq.trans (a_up_ne (Or.inr (by decide))) (Eq.trans (a_up_ne (Or.inr (by decide))) (a_up_at)))))))))))))) ?_
  refine aw_aload_n d_Pa_init_226 rfl rfl ?_
  refine ax_getIe (x := 18) d_Pa_init_227 fd_Pa_74 ((E.kk 33 (by decide)).trans (by decide +kernel)) (Eq.trans (a_up_ne (Or.inr (by decide))) (Eq.trans (a_up_ne (Or.inr (by decide))) (Eq.trans (a_up_ne (Or.inr (by decide))) (a_up_at)))) ?_
  refine ax_S (st := [vi 4, vi 32, vr 33]) (as := [vi 18]) (v := some (vi (32 * 18))) (h' := sD h (a_up (a_up (a_up (a_up (a_up (a_up (a_up (a_up (a_up (a_up (a_up (a_up (a_up (a_up (a_up (hI h) 33 0 4) 33 1 4) 33 2 2) 33 3 39) 33 4 131072) 33 8 44) 33 5 95232) 33 6 80) 33 7 32) 33 9 78) 33 10 3) 33 11 18) 33 12 6) 33 13 1312) 33 14 2560) (hL h)) d_Pa_init_230 cs_Pa_init_230 (c_Ri_packedSize (by decide)) rfl rfl rfl ?_
  show AW l G M_Pa_init P 233 [(0, vr 33), (1, vi 0)] [vi (32 * 18), vi 4, vi 32, vr 33] (sD h (a_up (a_up (a_up (a_up (a_up (a_up (a_up (a_up (a_up (a_up (a_up (a_up (a_up (a_up (a_up (hI h) 33 0 4) 33 1 4) 33 2 2) 33 3 39) 33 4 131072) 33 8 44) 33 5 95232) 33 6 80) 33 7 32) 33 9 78) 33 10 3) 33 11 18) 33 12 6) 33 13 1312) 33 14 2560) (hL h))
  refine ax_ti (x := 576) (by decide) ?_
  refine ax_imul d_Pa_init_233 ⟨(by omega), (by omega)⟩ ?_
  refine ax_ti (x := 2304) (by decide) ?_
  refine ax_iadd d_Pa_init_234 ⟨(by omega), (by omega)⟩ ?_
  refine ax_ti (x := 2336) (by decide) ?_
  refine aw_aload_n d_Pa_init_235 rfl rfl ?_
  refine ax_getIe (x := 80) d_Pa_init_236 fd_Pa_58 ((E.kk 33 (by decide)).trans (by decide +kernel)) (Eq.trans (a_up_ne (Or.inr (by decide))) (Eq.trans (a_up_ne (Or.inr (by decide))) (Eq.trans (a_up_ne (Or.inr (by decide))) (Eq.trans (a_up_ne (Or.inr (by decide))) (Eq.trans (a_up_ne (Or.inr (by decide))) (Eq.trans (a_up_ne (Or.inr (by decide))) (Eq.trans (a_up_ne (Or.inr (by decide))) (a_up_at)))))))) ?_
  refine ax_iadd d_Pa_init_239 ⟨(by omega), (by omega)⟩ ?_
  refine ax_ti (x := 2416) (by decide) ?_
  refine aw_aload_n d_Pa_init_240 rfl rfl ?_
  refine ax_getIe (x := 4) d_Pa_init_241 fd_Pa_15 ((E.kk 33 (by decide)).trans (by decide +kernel)) (Eq.trans (a_up_ne (Or.inr (by decide))) (Eq.trans (a_up_ne (Or.inr (by decide))) (Eq.trans (a_up_ne (Or.inr (by decide))) (Eq.trans (a_up_ne (Or.inr (by decide))) (Eq.trans (a_up_ne (Or.inr (by decide))) (Eq.trans (a_up_ne (Or.inr (by decide))) (Eq.trans (a_up_ne (Or.inr (by decide))) (Eq.trans (a_up_ne (Or.inr (by decide))) (Eq.trans (a_up_ne (Or.inr (by decide))) (Eq.trans (a_up_ne (Or.inr (by decide))) (Eq.trans (a_up_ne (Or.inr (by decide))) (Eq.trans (a_up_ne (Or.inr (by decide))) (Eq.trans (a_up_ne (Or.inr (by decide))) (Eq.trans (a_up_ne (Or.inr (by decide))) (a_up_at))))))))))))))) ?_
  refine ax_iadd d_Pa_init_244 ⟨(by omega), (by omega)⟩ ?_
  refine ax_ti (x := 2420) (by decide) ?_
  refine ax_putIF d_Pa_init_245 fd_Pa_90 ((E.kk 33 (by decide)).trans (by decide +kernel)) (by decide) rfl rfl rfl ?_
  exact aw_vret d_Pa_init_248 rfl (hP _ (E.par (s := 0) (fun x j e => (a_up_ne (Or.inl e)).trans ((a_up_ne (Or.inl e)).trans ((a_up_ne (Or.inl e)).trans ((a_up_ne (Or.inl e)).trans ((a_up_ne (Or.inl e)).trans ((a_up_ne (Or.inl e)).trans ((a_up_ne (Or.inl e)).trans ((a_up_ne (Or.inl e)).trans ((a_up_ne (Or.inl e)).trans ((a_up_ne (Or.inl e)).trans ((a_up_ne (Or.inl e)).trans ((a_up_ne (Or.inl e)).trans ((a_up_ne (Or.inl e)).trans ((a_up_ne (Or.inl e)).trans ((a_up_ne (Or.inl e)).trans ((a_up_ne (Or.inl e)).trans (rfl))))))))))))))))) (List.forall_mem_cons.mpr ⟨fun _ => (Eq.trans (a_up_ne (Or.inr (by decide))) (Eq.trans (a_up_ne (Or.inr (by decide))) (Eq.trans (a_up_ne (Or.inr (by decide))) (Eq.trans (a_up_ne (Or.inr (by decide))) (Eq.trans (a_up_ne (Or.inr (by decide))) (Eq.trans (a_up_ne (Or.inr (by decide))) (Eq.trans (a_up_ne (Or.inr (by decide))) (Eq.trans (a_up_ne (Or.inr (by decide))) (Eq.trans (a_up_ne (Or.inr (by decide))) (Eq.trans (a_up_ne (Or.inr (by decide))) (Eq.trans (a_up_ne (Or.inr (by decide))) (Eq.trans (a_up_ne (Or.inr (by decide))) (Eq.trans (a_up_ne (Or.inr (by decide))) (Eq.trans (a_up_ne (Or.inr (by decide))) (Eq.trans (a_up_ne (Or.inr (by decide))) (a_up_at)))))))))))))))), List.forall_mem_cons.mpr ⟨fun _ => (Eq.trans (a_up_ne (Or.inr (by decide))) (Eq.trans (a_up_ne (Or.inr (by decide))) (Eq.trans (a_up_ne (Or.inr (by decide))) (Eq.trans (a_up_ne (Or.inr (by decide))) (Eq.trans (a_up_ne (Or.inr (by decide))) (Eq.trans (a_up_ne (Or.inr (by decide))) (Eq.trans (a_up_ne (Or.inr (by decide))) (Eq.trans (a_up_ne (Or.inr (by decide))) (Eq.trans (a_up_ne (Or.inr (by decide))) (Eq.trans (a_up_ne (Or.inr (by decide))) (Eq.trans (a_up_ne (Or.inr (by decide))) (Eq.trans (a_up_ne (Or.inr (by decide))) (Eq.trans (a_up_ne (Or.inr (by decide))) (Eq.trans (a_up_ne (Or.inr (by decide))) (a_up_at))))))))))))))), List.forall_mem_cons.mpr ⟨fun _ => (Eq.trans (a_up_ne (Or.inr (by decide))) (Eq.trans (a_up_ne (Or.inr (by decide))) (Eq.trans (a_up_ne (Or.inr (by decide))) (Eq.trans (a_up_ne (Or.inr (by decide))) (Eq.trans (a_up_ne (Or.inr (by decide))) (Eq.trans (a_up_ne (Or.inr (by decide))) (Eq.trans (a_up_ne (Or.inr (by decide))) (Eq.trans (a_up_ne (Or.inr (by decide))) (Eq.trans (a_up_ne (Or.inr (by decide))) (Eq.trans (a_up_ne (Or.inr (by decide))) (Eq.trans (a_up_ne (Or.inr (by decide))) (Eq.trans (a_up_ne (Or.inr (by decide))) (Eq.trans (a_up_ne (Or.inr (by decide))) (a_up_at)))))))))))))), List.forall_mem_cons.mpr ⟨fun _ => (Eq.trans (a_up_ne (Or.inr (by decide))) (Eq.trans (a_up_ne (Or.inr (by decide))) (Eq.trans (a_up_ne (Or.inr (by decide))) (Eq.trans (a_up_ne (Or.inr (by decide))) (Eq.trans (a_up_ne (Or.inr (by decide))) (Eq.trans (a_up_ne (Or.inr (by decide))) (Eq.trans (a_up_ne (Or.inr (by decide))) (Eq.trans (a_up_ne (Or.inr (by decide))) (Eq.trans (a_up_ne (Or.inr (by decide))) (Eq.trans (a_up_ne (Or.inr (by decide))) (Eq.trans (a_up_ne (Or.inr (by decide))) (Eq.trans (a_up_ne (Or.inr (by decide))) (a_up_at))))))))))))), List.forall_mem_cons.mpr ⟨fun _ => (Eq.trans (a_up_ne (Or.inr (by decide))) (Eq.trans (a_up_ne (Or.inr (by decide))) (Eq.trans (a_up_ne (Or.inr (by decide))) (Eq.trans (a_up_ne (Or.inr (by decide))) (Eq.trans (a_up_ne (Or.inr (by decide))) (Eq.trans (a_up_ne (Or.inr (by decide))) (Eq.trans (a_up_ne (Or.inr (by decide))) (Eq.trans (a_up_ne (Or.inr (by decide))) (Eq.trans (a_up_ne (Or.inr (by decide))) (Eq.trans (a_up_ne (Or.inr (by decide))) (Eq.trans (a_up_ne (Or.inr (by decide))) (a_up_at)))))))))))), List.forall_mem_cons.mpr ⟨fun _ => (Eq.trans (a_up_ne (Or.inr (by decide))) (Eq.trans (a_up_ne (Or.inr (by decide))) (Eq.trans (a_up_ne (Or.inr (by decide))) (Eq.trans (a_up_ne (Or.inr (by decide))) (Eq.trans (a_up_ne (Or.inr (by decide))) (Eq.trans (a_up_ne (Or.inr (by decide))) (Eq.trans (a_up_ne (Or.inr (by decide))) (Eq.trans (a_up_ne (Or.inr (by decide))) (Eq.trans (a_up_ne (Or.inr (by decide))) (a_up_at)))))))))), List.forall_mem_cons.mpr ⟨fun _ => (Eq.trans (a_up_ne (Or.inr (by decide))) (Eq.trans (a_up_ne (Or.inr (by decide))) (Eq.trans (a_up_ne (Or.inr (by decide))) (Eq.trans (a_up_ne (Or.inr (by decide))) (Eq.trans (a_up_ne (Or.inr (by decide))) (Eq.trans (a_up_ne (Or.inr (by decide))) (Eq.trans (a_up_ne (Or.inr (by decide))) (Eq.trans (a_up_ne (Or.inr (by decide))) (a_up_at))))))))), List.forall_mem_cons.mpr ⟨fun _ => (Eq.trans (a_up_ne (Or.inr (by decide))) (Eq.trans (a_up_ne (Or.inr (by decide))) (Eq.trans (a_up_ne (Or.inr (by decide))) (Eq.trans (a_up_ne (Or.inr (by decide))) (Eq.trans (a_up_ne (Or.inr (by decide))) (Eq.trans (a_up_ne (Or.inr (by decide))) (Eq.trans (a_up_ne (Or.inr (by decide))) (a_up_at)))))))), List.forall_mem_cons.mpr ⟨fun _ => (Eq.trans (a_up_ne (Or.inr (by decide))) (Eq.trans (a_up_ne (Or.inr (by decide))) (Eq.trans (a_up_ne (Or.inr (by decide))) (Eq.trans (a_up_ne (Or.inr (by decide))) (Eq.trans (a_up_ne (Or.inr (by decide))) (Eq.trans (a_up_ne (Or.inr (by decide))) (Eq.trans (a_up_ne (Or.inr (by decide))) (Eq.trans (a_up_ne (Or.inr (by decide))) (Eq.trans (a_up_ne (Or.inr (by decide))) (Eq.trans (a_up_ne (Or.inr (by decide))) (a_up_at))))))))))), List.forall_mem_cons.mpr ⟨fun _ => (Eq.trans (a_up_ne (Or.inr (by decide))) (Eq.trans (a_up_ne (Or.inr (by decide))) (Eq.trans (a_up_ne (Or.inr (by decide))) (Eq.trans (a_up_ne (Or.inr (by decide))) (Eq.trans (a_up_ne (Or.inr (by decide))) (Eq.trans (a_up_ne (Or.inr (by decide))) (a_up_at))))))), List.forall_mem_cons.mpr ⟨fun _ => (Eq.trans (a_up_ne (Or.inr (by decide))) (Eq.trans (a_up_ne (Or.inr (by decide))) (Eq.trans (a_up_ne (Or.inr (by decide))) (Eq.trans (a_up_ne (Or.inr (by decide))) (Eq.trans (a_up_ne (Or.inr (by decide))) (a_up_at)))))), List.forall_mem_cons.mpr ⟨fun _ => (Eq.trans (a_up_ne (Or.inr (by decide))) (Eq.trans (a_up_ne (Or.inr (by decide))) (Eq.trans (a_up_ne (Or.inr (by decide))) (Eq.trans (a_up_ne (Or.inr (by decide))) (a_up_at))))), List.forall_mem_cons.mpr ⟨fun _ => (Eq.trans (a_up_ne (Or.inr (by decide))) (Eq.trans (a_up_ne (Or.inr (by decide))) (Eq.trans (a_up_ne (Or.inr (by decide))) (a_up_at)))), List.forall_mem_cons.mpr ⟨fun _ => (Eq.trans (a_up_ne (Or.inr (by decide))) (Eq.trans (a_up_ne (Or.inr (by decide))) (a_up_at))), List.forall_mem_cons.mpr ⟨fun _ => (Eq.trans (a_up_ne (Or.inr (by decide))) (a_up_at)), List.forall_mem_cons.mpr ⟨fun _ => (a_up_at), List.forall_mem_cons.mpr ⟨fun e => absurd e (by decide), List.forall_mem_cons.mpr ⟨fun e => absurd e (by decide), List.forall_mem_cons.mpr ⟨fun e => absurd e (by decide), List.forall_mem_cons.mpr ⟨fun e => absurd e (by decide), List.forall_mem_cons.mpr ⟨fun e => absurd e (by decide), List.forall_mem_cons.mpr ⟨fun e => absurd e (by decide), List.forall_mem_cons.mpr ⟨fun e => absurd e (by decide), List.forall_mem_cons.mpr ⟨fun e => absurd e (by decide), List.forall_mem_cons.mpr ⟨fun e => absurd e (by decide), List.forall_mem_cons.mpr ⟨fun e => absurd e (by decide), List.forall_mem_cons.mpr ⟨fun e => absurd e (by decide), List.forall_mem_cons.mpr ⟨fun e => absurd e (by decide), List.forall_mem_cons.mpr ⟨fun e => absurd e (by decide), List.forall_mem_cons.mpr ⟨fun e => absurd e (by decide), List.forall_mem_cons.mpr ⟨fun e => absurd e (by decide), List.forall_mem_cons.mpr ⟨fun e => absurd e (by decide), List.forall_mem_cons.mpr ⟨fun e => absurd e (by decide), List.forall_mem_cons.mpr ⟨fun e => absurd e (by decide), List.forall_mem_cons.mpr ⟨fun e => absurd e (by decide), List.forall_mem_cons.mpr ⟨fun e => absurd e (by decide), List.forall_mem_cons.mpr ⟨fun e => absurd e (by decide), List.forall_mem_cons.mpr ⟨fun e => absurd e (by decide), List.forall_mem_cons.mpr ⟨fun e => absurd e (by decide), List.forall_mem_cons.mpr ⟨fun e => absurd e (by decide), List.forall_mem_cons.mpr ⟨fun e => absurd e (by decide), List.forall_mem_cons.mpr ⟨fun e => absurd e (by decide), List.forall_mem_cons.mpr ⟨fun e => absurd e (by decide), List.forall_mem_cons.mpr ⟨fun e => absurd e (by decide), List.forall_mem_cons.mpr ⟨fun e => absurd e (by decide), List.forall_mem_cons.mpr ⟨fun e => absurd e (by decide), List.forall_mem_cons.mpr ⟨fun e => absurd e (by decide), List.forall_mem_cons.mpr ⟨fun e => absurd e (by decide), fun q hq => absurd hq List.not_mem_nil⟩⟩⟩⟩⟩⟩⟩⟩⟩⟩⟩⟩⟩⟩⟩⟩⟩⟩⟩⟩⟩⟩⟩⟩⟩⟩⟩⟩⟩⟩⟩⟩⟩⟩⟩⟩⟩⟩⟩⟩⟩⟩⟩⟩⟩⟩⟩⟩) (by decide) (by decide)))
set_option maxHeartbeats 4000000 in
set_option maxRecDepth 100000 in
theorem c_Pa_init1 {l : Launch} {G : a_G} {h : Hp} {N : Int} (E : Pt N 35 21 1 0 h) : AW l G M_Pa_init (Ret (fun _ : Hp => none) (fun u => u) (fun u => Pt N 35 21 2 0 u)) 0 (a_ar 0 [vr 34, vi 1]) [] h := by
  suffices key : ∀ P : a_R → Hp → Prop, (∀ u, Pt N 35 21 2 0 u → P (.inl none) u) → AW l G M_Pa_init P 0 [(0, vr 34), (1, vi 1)] [] h from key _ (fun u q => ⟨u, rfl, rfl, q⟩)
  intro P hP
  refine aw_aload_n d_Pa_init_0 rfl rfl ?_
  refine aw_objInit d_Pa_init_1 ml_Pa_5 (by decide) (by decide) ?_
  show AW l G M_Pa_init P 4 [(0, vr 34), (1, vi 1)] [] (sD h (hI h) (hL h))
  refine aw_aload_n d_Pa_init_4 rfl rfl ?_
  refine aw_gets (j := 0) d_Pa_init_5 (by decide) gs_Pa_11 ?_
  refine aw_iload_n d_Pa_init_8 rfl rfl ?_
  refine ax_ialde (x := 6) d_Pa_init_9 ((E.kk 0 (by decide)).trans (by decide +kernel)) (by omega) (by show _ < hN h 0; rw [E.nn 0 (by decide) (by decide)]; decide +kernel) ((E.st.1 0 1 (by decide) (by decide)).trans (by decide)) ?_
  refine ax_putIF d_Pa_init_10 fd_Pa_15 ((E.kk 34 (by decide)).trans (by decide +kernel)) (by decide) rfl rfl rfl ?_
  refine aw_aload_n d_Pa_init_13 rfl rfl ?_
  refine aw_gets (j := 1) d_Pa_init_14 (by decide) gs_Pa_19 ?_
  refine aw_iload_n d_Pa_init_17 rfl rfl ?_
  refine ax_ialde (x := 5) d_Pa_init_18 ((E.kk 1 (by decide)).trans (by decide +kernel)) (by omega) (by show _ < hN h 1; rw [E.nn 1 (by decide) (by decide)]; decide +kernel) (Eq.trans (a_up_ne (Or.inl (by decide))) ((E.st.1 1 1 (by decide) (by decide)).trans (by decide))) ?_
  refine ax_putIF d_Pa_init_19 fd_Pa_22 ((E.kk 34 (by decide)).trans (by decide +kernel)) (by decide) rfl rfl rfl ?_
  refine aw_aload_n d_Pa_init_22 rfl rfl ?_
  refine aw_gets (j := 2) d_Pa_init_23 (by decide) gs_Pa_25 ?_
  refine aw_iload_n d_Pa_init_26 rfl rfl ?_
  refine ax_ialde (x := 4) d_Pa_init_27 ((E.kk 2 (by decide)).trans (by decide +kernel)) (by omega) (by show _ < hN h 2; rw [E.nn 2 (by decide) (by decide)]; decide +kernel) (Eq.trans (a_up_ne (Or.inl (by decide))) (Eq.trans (a_up_ne (Or.inl (by decide))) ((E.st.1 2 1 (by decide) (by decide)).trans (by decide)))) ?_
  refine ax_putIF d_Pa_init_28 fd_Pa_28 ((E.kk 34 (by decide)).trans (by decide +kernel)) (by decide) rfl rfl rfl ?_
  refine aw_aload_n d_Pa_init_31 rfl rfl ?_
  refine aw_gets (j := 3) d_Pa_init_32 (by decide) gs_Pa_31 ?_
  refine aw_iload_n d_Pa_init_35 rfl rfl ?_
  refine ax_ialde (x := 49) d_Pa_init_36 ((E.kk 3 (by decide)).trans (by decide +kernel)) (by omega) (by show _ < hN h 3; rw [E.nn 3 (by decide) (by decide)]; decide +kernel) (Eq.trans (a_up_ne (Or.inl (by decide))) (Eq.trans (a_up_ne (Or.inl (by decide))) (Eq.trans (a_up_ne (Or.inl (by decide))) ((E.st.1 3 1 (by decide) (by decide)).trans (by decide))))) ?_
  refine ax_putIF d_Pa_init_37 fd_Pa_34 ((E.kk 34 (by decide)).trans (by decide +kernel)) (by decide) rfl rfl rfl ?_
  refine aw_aload_n d_Pa_init_40 rfl rfl ?_
  refine aw_gets (j := 4) d_Pa_init_41 (by decide) gs_Pa_37 ?_
  refine aw_iload_n d_Pa_init_44 rfl rfl ?_
  refine ax_ialde (x := 524288) d_Pa_init_45 ((E.kk 4 (by decide)).trans (by decide +kernel)) (by omega) (by show _ < hN h 4; rw [E.nn 4 (by decide) (by decide)]; decide +kernel) (Eq.trans (a_up_ne (Or.inl (by decide))) (Eq.trans (a_up_ne (Or.inl (by decide))) (Eq.trans (a_up_ne (Or.inl (by decide))) (Eq.trans (a_up_ne (Or.inl (by decide))) ((E.st.1 4 1 (by decide) (by decide)).trans (by decide)))))) ?_
  refine ax_putIF d_Pa_init_46 fd_Pa_40 ((E.kk 34 (by decide)).trans (by decide +kernel)) (by decide) rfl rfl rfl ?_
  refine aw_aload_n d_Pa_init_49 rfl rfl ?_
  refine aw_gets (j := 5) d_Pa_init_50 (by decide) gs_Pa_43 ?_
  refine aw_iload_n d_Pa_init_53 rfl rfl ?_
  refine ax_ialde (x := 16) d_Pa_init_54 ((E.kk 5 (by decide)).trans (by decide +kernel)) (by omega) (by show _ < hN h 5; rw [E.nn 5 (by decide) (by decide)]; decide +kernel) (Eq.trans (a_up_ne (Or.inl (by decide))) (Eq.trans (a_up_ne (Or.inl (by decide))) (Eq.trans (a_up_ne (Or.inl (by decide))) (Eq.trans (a_up_ne (Or.inl (by decide))) (Eq.trans (a_up_ne (Or.inl (by decide))) ((E.st.1 5 1 (by decide) (by decide)).trans (by decide))))))) ?_
  refine ax_putIF d_Pa_init_55 fd_Pa_46 ((E.kk 34 (by decide)).trans (by decide +kernel)) (by decide) rfl rfl rfl ?_
  refine aw_aload_n d_Pa_init_58 rfl rfl ?_
  refine aw_ldc (n := 8380416) d_Pa_init_59 lc_Pa_51 ⟨by decide, by decide⟩ ?_
  refine aw_iconst d_Pa_init_61 ⟨by decide, by decide⟩ ?_
  refine aw_gets (j := 5) d_Pa_init_62 (by decide) gs_Pa_43 ?_
  refine aw_iload_n d_Pa_init_65 rfl rfl ?_
  refine ax_ialde (x := 16) d_Pa_init_66 ((E.kk 5 (by decide)).trans (by decide +kernel)) (by omega) (by show _ < hN h 5; rw [E.nn 5 (by decide) (by decide)]; decide +kernel) (Eq.trans (a_up_ne (Or.inl (by decide))) (Eq.trans (a_up_ne (Or.inl (by decide))) (Eq.trans (a_up_ne (Or.inl (by decide))) (Eq.trans (a_up_ne (Or.inl (by decide))) (Eq.trans (a_up_ne (Or.inl (by decide))) (Eq.trans (a_up_ne (Or.inl (by decide))) ((E.st.1 5 1 (by decide) (by decide)).trans (by decide)))))))) ?_
  refine ax_imul d_Pa_init_67 ⟨(by omega), (by omega)⟩ ?_
  refine ax_ti (x := 32) (by decide) ?_
  refine ax_idiv d_Pa_init_68 ⟨(by omega), (by omega)⟩ (by omega) ?_
  refine ax_ti (x := 261888) (by decide) ?_
  refine ax_putIF d_Pa_init_69 fd_Pa_52 ((E.kk 34 (by decide)).trans (by decide +kernel)) (by decide) rfl rfl rfl ?_
  refine aw_aload_n d_Pa_init_72 rfl rfl ?_
  refine aw_gets (j := 6) d_Pa_init_73 (by decide) gs_Pa_55 ?_
  refine aw_iload_n d_Pa_init_76 rfl rfl ?_
  refine ax_ialde (x := 55) d_Pa_init_77 ((E.kk 6 (by decide)).trans (by decide +kernel)) (by omega) (by show _ < hN h 6; rw [E.nn 6 (by decide) (by decide)]; decide +kernel) (Eq.trans (a_up_ne (Or.inl (by decide))) (Eq.trans (a_up_ne (Or.inl (by decide))) (Eq.trans (a_up_ne (Or.inl (by decide))) (Eq.trans (a_up_ne (Or.inl (by decide))) (Eq.trans (a_up_ne (Or.inl (by decide))) (Eq.trans (a_up_ne (Or.inl (by decide))) (Eq.trans (a_up_ne (Or.inl (by decide))) ((E.st.1 6 1 (by decide) (by decide)).trans (by decide))))))))) ?_
  refine ax_putIF d_Pa_init_78 fd_Pa_58 ((E.kk 34 (by decide)).trans (by decide +kernel)) (by decide) rfl rfl rfl ?_
  refine aw_aload_n d_Pa_init_81 rfl rfl ?_
  refine aw_gets (j := 7) d_Pa_init_82 (by decide) gs_Pa_61 ?_
  refine aw_iload_n d_Pa_init_85 rfl rfl ?_
  refine ax_ialde (x := 48) d_Pa_init_86 ((E.kk 7 (by decide)).trans (by decide +kernel)) (by omega) (by show _ < hN h 7; rw [E.nn 7 (by decide) (by decide)]; decide +kernel) (Eq.trans (a_up_ne (Or.inl (by decide))) (Eq.trans (a_up_ne (Or.inl (by decide))) (Eq.trans (a_up_ne (Or.inl (by decide))) (Eq.trans (a_up_ne (Or.inl (by decide))) (Eq.trans (a_up_ne (Or.inl (by decide))) (Eq.trans (a_up_ne (Or.inl (by decide))) (Eq.trans (a_up_ne (Or.inl (by decide))) (Eq.trans (a_up_ne (Or.inl (by decide))) ((E.st.1 7 1 (by decide) (by decide)).trans (by decide)))))))))) ?_
  refine ax_putIF d_Pa_init_87 fd_Pa_64 ((E.kk 34 (by decide)).trans (by decide +kernel)) (by decide) rfl rfl rfl ?_
  refine aw_aload_n d_Pa_init_90 rfl rfl ?_
  refine aw_gets (j := 3) d_Pa_init_91 (by decide) gs_Pa_31 ?_
  refine aw_iload_n d_Pa_init_94 rfl rfl ?_
  refine ax_ialde (x := 49) d_Pa_init_95 ((E.kk 3 (by decide)).trans (by decide +kernel)) (by omega) (by show _ < hN h 3; rw [E.nn 3 (by decide) (by decide)]; decide +kernel) (Eq.trans (a_up_ne (Or.inl (by decide))) (Eq.trans (a_up_ne (Or.inl (by decide))) (Eq.trans (a_up_ne (Or.inl (by decide))) (Eq.trans (a_up_ne (Or.inl (by decide))) (Eq.trans (a_up_ne (Or.inl (by decide))) (Eq.trans (a_up_ne (Or.inl (by decide))) (Eq.trans (a_up_ne (Or.inl (by decide))) (Eq.trans (a_up_ne (Or.inl (by decide))) (Eq.trans (a_up_ne (Or.inl (by decide))) ((E.st.1 3 1 (by decide) (by decide)).trans (by decide))))))))))) ?_
  refine aw_gets (j := 2) d_Pa_init_96 (by decide) gs_Pa_25 ?_
  refine aw_iload_n d_Pa_init_99 rfl rfl ?_
  refine ax_ialde (x := 4) d_Pa_init_100 ((E.kk 2 (by decide)).trans (by decide +kernel)) (by omega) (by show _ < hN h 2; rw [E.nn 2 (by decide) (by decide)]; decide +kernel) (Eq.trans (a_up_ne (Or.inl (by decide))) (Eq.trans (a_up_ne (Or.inl (by decide))) (Eq.trans (a_up_ne (Or.inl (by decide))) (Eq.trans (a_up_ne (Or.inl (by decide))) (Eq.trans (a_up_ne (Or.inl (by decide))) (Eq.trans (a_up_ne (Or.inl (by decide))) (Eq.trans (a_up_ne (Or.inl (by decide))) (Eq.trans (a_up_ne (Or.inl (by decide))) (Eq.trans (a_up_ne (Or.inl (by decide))) ((E.st.1 2 1 (by decide) (by decide)).trans (by decide))))))))))) ?_
  refine ax_imul d_Pa_init_101 ⟨(by omega), (by omega)⟩ ?_
  refine ax_ti (x := 196) (by decide) ?_
  refine ax_putIF d_Pa_init_102 fd_Pa_67 ((E.kk 34 (by decide)).trans (by decide +kernel)) (by decide) rfl rfl rfl ?_
  refine aw_aload_n d_Pa_init_105 rfl rfl ?_
  refine aw_gets (j := 2) d_Pa_init_106 (by decide) gs_Pa_25 ?_
  refine aw_iload_n d_Pa_init_109 rfl rfl ?_
  refine ax_ialde (x := 4) d_Pa_init_110 ((E.kk 2 (by decide)).trans (by decide +kernel)) (by omega) (by show _ < hN h 2; rw [E.nn 2 (by decide) (by decide)]; decide +kernel) (Eq.trans (a_up_ne (Or.inl (by decide))) (Eq.trans (a_up_ne (Or.inl (by decide))) (Eq.trans (a_up_ne (Or.inl (by decide))) (Eq.trans (a_up_ne (Or.inl (by decide))) (Eq.trans (a_up_ne (Or.inl (by decide))) (Eq.trans (a_up_ne (Or.inl (by decide))) (Eq.trans (a_up_ne (Or.inl (by decide))) (Eq.trans (a_up_ne (Or.inl (by decide))) (Eq.trans (a_up_ne (Or.inl (by decide))) (Eq.trans (a_up_ne (Or.inl (by decide))) ((E.st.1 2 1 (by decide) (by decide)).trans (by decide)))))))))))) ?_
  refine aw_iconst d_Pa_init_111 ⟨by decide, by decide⟩ ?_
  refine aw_icmp_ne (tgt := 119) d_Pa_init_112 (by decide) (fun c_112 => False.elim (by omega)) (fun c_112 => ?_)
  refine aw_iconst d_Pa_init_115 ⟨by decide, by decide⟩ ?_
  refine aw_goto (tgt := 120) d_Pa_init_116 (by decide) ?_
  refine ax_putIF d_Pa_init_120 fd_Pa_70 ((E.kk 34 (by decide)).trans (by decide +kernel)) (by decide) rfl rfl rfl ?_
  refine aw_aload_n d_Pa_init_123 rfl rfl ?_
  refine aw_gets (j := 4) d_Pa_init_124 (by decide) gs_Pa_37 ?_
  refine aw_iload_n d_Pa_init_127 rfl rfl ?_
  refine ax_ialde (x := 524288) d_Pa_init_128 ((E.kk 4 (by decide)).trans (by decide +kernel)) (by omega) (by show _ < hN h 4; rw [E.nn 4 (by decide) (by decide)]; decide +kernel) (Eq.trans (a_up_ne (Or.inl (by decide))) (Eq.trans (a_up_ne (Or.inl (by decide))) (Eq.trans (a_up_ne (Or.inl (by decide))) (Eq.trans (a_up_ne (Or.inl (by decide))) (Eq.trans (a_up_ne (Or.inl (by decide))) (Eq.trans (a_up_ne (Or.inl (by decide))) (Eq.trans (a_up_ne (Or.inl (by decide))) (Eq.trans (a_up_ne (Or.inl (by decide))) (Eq.trans (a_up_ne (Or.inl (by decide))) (Eq.trans (a_up_ne (Or.inl (by decide))) (Eq.trans (a_up_ne (Or.inl (by decide))) ((E.st.1 4 1 (by decide) (by decide)).trans (by decide))))))))))))) ?_
  refine aw_ldc (n := 524288) d_Pa_init_129 lc_Pa_73 ⟨by decide, by decide⟩ ?_
  refine aw_icmp_ne (tgt := 139) d_Pa_init_131 (by decide) (fun c_131 => False.elim (by omega)) (fun c_131 => ?_)
  refine aw_bipush d_Pa_init_134 ⟨by decide, by decide⟩ (by decide) ?_
  refine aw_goto (tgt := 141) d_Pa_init_136 (by decide) ?_
  refine ax_putIF d_Pa_init_141 fd_Pa_74 ((E.kk 34 (by decide)).trans (by decide +kernel)) (by decide) rfl rfl rfl ?_
  refine aw_aload_n d_Pa_init_144 rfl rfl ?_
  refine aw_gets (j := 5) d_Pa_init_145 (by decide) gs_Pa_43 ?_
  refine aw_iload_n d_Pa_init_148 rfl rfl ?_
  refine ax_ialde (x := 16) d_Pa_init_149 ((E.kk 5 (by decide)).trans (by decide +kernel)) (by omega) (by show _ < hN h 5; rw [E.nn 5 (by decide) (by decide)]; decide +kernel) (Eq.trans (a_up_ne (Or.inl (by decide))) (Eq.trans (a_up_ne (Or.inl (by decide))) (Eq.trans (a_up_ne (Or.inl (by decide))) (Eq.trans (a_up_ne (Or.inl (by decide))) (Eq.trans (a_up_ne (Or.inl (by decide))) (Eq.trans (a_up_ne (Or.inl (by decide))) (Eq.trans (a_up_ne (Or.inl (by decide))) (Eq.trans (a_up_ne (Or.inl (by decide))) (Eq.trans (a_up_ne (Or.inl (by decide))) (Eq.trans (a_up_ne (Or.inl (by decide))) (Eq.trans (a_up_ne (Or.inl (by decide))) (Eq.trans (a_up_ne (Or.inl (by decide))) ((E.st.1 5 1 (by decide) (by decide)).trans (by decide)))))))))))))) ?_
  refine aw_bipush d_Pa_init_150 ⟨by decide, by decide⟩ (by decide) ?_
  refine aw_icmp_ne (tgt := 159) d_Pa_init_152 (by decide) (fun c_152 => False.elim (by omega)) (fun c_152 => ?_)
  refine aw_iconst d_Pa_init_155 ⟨by decide, by decide⟩ ?_
  refine aw_goto (tgt := 161) d_Pa_init_156 (by decide) ?_
  refine ax_putIF d_Pa_init_161 fd_Pa_77 ((E.kk 34 (by decide)).trans (by decide +kernel)) (by decide) rfl rfl rfl ?_
  refine aw_aload_n d_Pa_init_164 rfl rfl ?_
  refine aw_bipush d_Pa_init_165 ⟨by decide, by decide⟩ (by decide) ?_
  refine aw_aload_n d_Pa_init_167 rfl rfl ?_
  refine ax_getIe (x := 6) d_Pa_init_168 fd_Pa_15 ((E.kk 34 (by decide)).trans (by decide +kernel)) (Eq.trans (a_up_ne (Or.inr (by decide))) (Eq.trans (a_up_ne (Or.inr (by decide))) (Eq.trans (a_up_ne (Or.inr (by decide))) (Eq.trans (a_up_ne (Or.inr (by decide))) (Eq.trans (a_up_ne (Or.inr (by decide))) (Eq.trans (a_up_ne (Or.inr (by decide))) (Eq.trans (a_up_ne (Or.inr (by decide))) (Eq.trans (a_up_ne (Or.inr (by decide))) (Eq.trans (a_up_ne (Or.inr (by decide))) (Eq.trans (a_up_ne (Or.inr (by decide))) (Eq.trans (a_up_ne (Or.inr (by decide))) (Eq.trans (a_up_ne (Or.inr (by decide))) (a_up_at))))))))))))) ?_
  refine aw_bipush d_Pa_init_171 ⟨by decide, by decide⟩ (by decide) ?_
  refine ax_S (st := [vi 6, vi 32, vr 34]) (as := [vi 10]) (v := some (vi (32 * 10))) (h' := sD h (a_up (a_up (a_up (a_up (a_up (a_up (a_up (a_up (a_up (a_up (a_up (a_up (a_up (hI h) 34 0 6) 34 1 5) 34 2 4) 34 3 49) 34 4 524288) 34 8 16) 34 5 261888) 34 6 55) 34 7 48) 34 9 196) 34 10 4) 34 11 20) 34 12 4) (hL h)) d_Pa_init_173 cs_Pa_init_173 (c_Ri_packedSize (by decide)) rfl rfl rfl ?_
  show AW l G M_Pa_init P 176 [(0, vr 34), (1, vi 1)] [vi (32 * 10), vi 6, vi 32, vr 34] (sD h (a_up (a_up (a_up (a_up (a_up (a_up (a_up (a_up (a_up (a_up (a_up (a_up (a_up (hI h) 34 0 6) 34 1 5) 34 2 4) 34 3 49) 34 4 524288) 34 8 16) 34 5 261888) 34 6 55) 34 7 48) 34 9 196) 34 10 4) 34 11 20) 34 12 4) (hL h))
  refine ax_ti (x := 320) (by decide) ?_
  refine ax_imul d_Pa_init_176 ⟨(by omega), (by omega)⟩ ?_
  refine ax_ti (x := 1920) (by decide) ?_
  refine ax_iadd d_Pa_init_177 ⟨(by omega), (by omega)⟩ ?_
  refine ax_ti (x := 1952) (by decide) ?_
  refine ax_putIF d_Pa_init_178 fd_Pa_84 ((E.kk 34 (by decide)).trans (by decide +kernel)) (by decide) rfl rfl rfl ?_
  refine aw_aload_n d_Pa_init_181 rfl rfl ?_
  refine aw_sipush d_Pa_init_182 ⟨by decide, by decide⟩ (by decide) ?_
  refine aw_aload_n d_Pa_init_185 rfl rfl ?_
  refine ax_getIe (x := 6) d_Pa_init_186 fd_Pa_15 ((E.kk 34 (by decide)).trans (by decide +kernel)) (Eq.trans (a_up_ne (Or.inr (by decide))) (Eq.trans (a_up_ne (Or.inr (by decide))) (Eq.trans (a_up_ne (Or.inr (by decide))) (Eq.trans (a_up_ne (Or.inr (by decide))) (Eq.trans (a_up_ne (Or.inr (by decide))) (Eq.trans (a_up_ne (Or.inr (by decide))) (Eq.trans (a_up_ne (Or.inr (by decide))) (Eq.trans (a_up_ne (Or.inr (by decide))) (Eq.trans (a_up_ne (Or.inr (by decide))) (Eq.trans (a_up_ne (Or.inr (by decide))) (Eq.trans (a_up_ne (Or.inr (by decide))) (Eq.trans (a_up_ne (Or.inr (by decide))) (Eq.trans (a_up_ne (Or.inr (by decide))) (a_up_at)))))))))))))) ?_
  refine aw_aload_n d_Pa_init_189 rfl rfl ?_
  refine ax_getIe (x := 5) d_Pa_init_190 fd_Pa_22 ((E.kk 34 (by decide)).trans (by decide +kernel)) (Eq.trans (a_up_ne (Or.inr (by decide))) (Eq.trans (a_up_ne (Or.inr (by decide))) (Eq.trans (a_up_ne (Or.inr (by decide))) (Eq.trans (a_up_ne (Or.inr (by decide))) (Eq.trans (a_up_ne (Or.inr (by decide))) (Eq.trans (a_up_ne (Or.inr (by decide))) (Eq.trans (a_up_ne (Or.inr (by decide))) (Eq.trans (a_up_ne (Or.inr (by decide))) (Eq.trans (a_up_ne (Or.inr (by decide))) (Eq.trans (a_up_ne (Or.inr (by decide))) (Eq.trans (a_up_ne (Or.inr (by decide))) (Eq.trans (a_up_ne (Or.inr (by decide))) (a_up_at))))))))))))) ?_
  refine ax_iadd d_Pa_init_193 ⟨(by omega), (by omega)⟩ ?_
  refine ax_ti (x := 11) (by decide) ?_
  refine aw_aload_n d_Pa_init_194 rfl rfl ?_
  refine ax_getIe (x := 4) d_Pa_init_195 fd_Pa_70 ((E.kk 34 (by decide)).trans (by decide +kernel)) (Eq.trans (a_up_ne (Or.inr (by decide))) (Eq.trans (a_up_ne (Or.inr (by decide))) (Eq.trans (a_up_ne (Or.inr (by decide))) (a_up_at)))) ?_
  refine ax_S (st := [vi 11, vi 128, vr 34]) (as := [vi 4]) (v := some (vi (32 * 4))) (h' := sD h (a_up (a_up (a_up (a_up (a_up (a_up (a_up (a_up (a_up (a_up (a_up (a_up (a_up (a_up (hI h) 34 0 6) 34 1 5) 34 2 4) 34 3 49) 34 4 524288) 34 8 16) 34 5 261888) 34 6 55) 34 7 48) 34 9 196) 34 10 4) 34 11 20) 34 12 4) 34 13 1952) (hL h)) d_Pa_init_198 cs_Pa_init_198 (c_Ri_packedSize (by decide)) rfl rfl rfl ?_
  show AW l G M_Pa_init P 201 [(0, vr 34), (1, vi 1)] [vi (32 * 4), vi 11, vi 128, vr 34] (sD h (a_up (a_up (a_up (a_up (a_up (a_up (a_up (a_up (a_up (a_up (a_up (a_up (a_up (a_up (hI h) 34 0 6) 34 1 5) 34 2 4) 34 3 49) 34 4 524288) 34 8 16) 34 5 261888) 34 6 55) 34 7 48) 34 9 196) 34 10 4) 34 11 20) 34 12 4) 34 13 1952) (hL h))
  refine ax_ti (x := 128) (by decide) ?_
  refine ax_imul d_Pa_init_201 ⟨(by omega), (by omega)⟩ ?_
  refine ax_ti (x := 1408) (by decide) ?_
  refine ax_iadd d_Pa_init_202 ⟨(by omega), (by omega)⟩ ?_
  refine ax_ti (x := 1536) (by decide) ?_
  refine aw_aload_n d_Pa_init_203 rfl rfl ?_
  refine ax_getIe (x := 6) d_Pa_init_204 fd_Pa_15 ((E.kk 34 (by decide)).trans (by decide +kernel)) (Eq.trans (a_up_ne (Or.inr (by decide))) (Eq.trans (a_up_ne (Or.inr (by decide))) (Eq.trans (a_up_ne (Or.inr (by decide))) (Eq.trans (a_up_ne (Or.inr (by decide))) (Eq.trans (a_up_ne (Or.inr (by decide))) (Eq.trans (a_up_ne (Or.inr (by decide))) (Eq.trans (a_up_ne (Or.inr (by decide))) (Eq.trans (a_up_ne (Or.inr (by decide))) (Eq.trans (a_up_ne (Or.inr (by decide))) (Eq.trans (a_up_ne (Or.inr (by decide))) (Eq.trans (a_up_ne (Or.inr (by decide))) (Eq.trans (a_up_ne (Or.inr (by decide))) (Eq.trans (a_up_ne (Or.inr (by decide))) (a_up_at)))))))))))))) ?_
  refine aw_bipush d_Pa_init_207 ⟨by decide, by decide⟩ (by decide) ?_
  refine ax_S (st := [vi 6, vi 1536, vr 34]) (as := [vi 13]) (v := some (vi (32 * 13))) (h' := sD h (a_up (a_up (a_up (a_up (a_up (a_up (a_up (a_up (a_up (a_up (a_up (a_up (a_up (a_up (hI h) 34 0 6) 34 1 5) 34 2 4) 34 3 49) 34 4 524288) 34 8 16) 34 5 261888) 34 6 55) 34 7 48) 34 9 196) 34 10 4) 34 11 20) 34 12 4) 34 13 1952) (hL h)) d_Pa_init_209 cs_Pa_init_209 (c_Ri_packedSize (by decide)) rfl rfl rfl ?_
  show AW l G M_Pa_init P 212 [(0, vr 34), (1, vi 1)] [vi (32 * 13), vi 6, vi 1536, vr 34] (sD h (a_up (a_up (a_up (a_up (a_up (a_up (a_up (a_up (a_up (a_up (a_up (a_up (a_up (a_up (hI h) 34 0 6) 34 1 5) 34 2 4) 34 3 49) 34 4 524288) 34 8 16) 34 5 261888) 34 6 55) 34 7 48) 34 9 196) 34 10 4) 34 11 20) 34 12 4) 34 13 1952) (hL h))
  refine ax_ti (x := 416) (by decide) ?_
  refine ax_imul d_Pa_init_212 ⟨(by omega), (by omega)⟩ ?_
  refine ax_ti (x := 2496) (by decide) ?_
  refine ax_iadd d_Pa_init_213 ⟨(by omega), (by omega)⟩ ?_
  refine ax_ti (x := 4032) (by decide) ?_
  refine ax_putIF d_Pa_init_214 fd_Pa_87 ((E.kk 34 (by decide)).trans (by decide +kernel)) (by decide) rfl rfl rfl ?_
  refine aw_aload_n d_Pa_init_217 rfl rfl ?_
  refine aw_aload_n d_Pa_init_218 rfl rfl ?_
  refine ax_getIe (x := 48) d_Pa_init_219 fd_Pa_64 ((E.kk 34 (by decide)).trans (by decide +kernel)) (Eq.trans (a_up_ne (Or.inr (by decide))) (Eq.trans (a_up_ne (Or.inr (by decide))) (Eq.trans (a_up_ne (Or.inr (by decide))) (Eq.trans (a_up_ne (Or.inr (by decide))) (Eq.trans (a_up_ne (Or.inr (by decide))) (Eq.trans (a_up_ne (Or.inr (by decide))) (a_up_at))))))) ?_
  refine aw_aload_n d_Pa_init_222 rfl rfl ?_
  refine ax_getIe (x := 5) d_Pa_init_223 fd_Pa_22 ((E.kk 34 (by decide)).trans (by decide +kernel)) (Eq.trans (a_up_ne (Or.inr (by decide))) (Eq.trans (a_up_ne (Or.inr (by decide))) (Eq.trans (a_up_ne (Or.inr (by decide))) (Eq.trans (a_up_ne (Or.inr (by decide))) (Eq.trans (a_up_ne (Or.inr (by decide))) (Eq.trans (a_up_ne (Or.inr (by decide))) (Eq.trans (a_up_ne (Or.inr (by decide))) (Eq.trans (a_up_ne (Or.inr (by decide))) (Eq.trans (a_up_ne (Or.inr (by decide))) (Eq.trans (a_up_ne (Or.inr (by decide))) (Eq.trans (a_up_ne (Or.inr (by decide))) (Eq.trans (a_up_ne (Or.inr (by decide))) (Eq.trans (a_up_ne (Or.inr (by decide))) (a_up_at)))))))))))))) ?_
  refine aw_aload_n d_Pa_init_226 rfl rfl ?_
  refine ax_getIe (x := 20) d_Pa_init_227 fd_Pa_74 ((E.kk 34 (by decide)).trans (by decide +kernel)) (Eq.trans (a_up_ne (Or.inr (by decide))) (Eq.trans (a_up_ne (Or.inr (by decide))) (Eq.trans (a_up_ne (Or.inr (by decide))) (a_up_at)))) ?_
  refine ax_S (st := [vi 5, vi 48, vr 34]) (as := [vi 20]) (v := some (vi (32 * 20))) (h' := sD h (a_up (a_up (a_up (a_up (a_up (a_up (a_up (a_up (a_up (a_up (a_up (a_up (a_up (a_up (a_up (hI h) 34 0 6) 34 1 5) 34 2 4) 34 3 49) 34 4 524288) 34 8 16) 34 5 261888) 34 6 55) 34 7 48) 34 9 196) 34 10 4) 34 11 20) 34 12 4) 34 13 1952) 34 14 4032) (hL h)) d_Pa_init_230 cs_Pa_init_230 (c_Ri_packedSize (by decide)) rfl rfl rfl ?_
  show AW l G M_Pa_init P 233 [(0, vr 34), (1, vi 1)] [vi (32 * 20), vi 5, vi 48, vr 34] (sD h (a_up (a_up (a_up (a_up (a_up (a_up (a_up (a_up (a_up (a_up (a_up (a_up (a_up (a_up (a_up (hI h) 34 0 6) 34 1 5) 34 2 4) 34 3 49) 34 4 524288) 34 8 16) 34 5 261888) 34 6 55) 34 7 48) 34 9 196) 34 10 4) 34 11 20) 34 12 4) 34 13 1952) 34 14 4032) (hL h))
  refine ax_ti (x := 640) (by decide) ?_
  refine ax_imul d_Pa_init_233 ⟨(by omega), (by omega)⟩ ?_
  refine ax_ti (x := 3200) (by decide) ?_
  refine ax_iadd d_Pa_init_234 ⟨(by omega), (by omega)⟩ ?_
  refine ax_ti (x := 3248) (by decide) ?_
  refine aw_aload_n d_Pa_init_235 rfl rfl ?_
  refine ax_getIe (x := 55) d_Pa_init_236 fd_Pa_58 ((E.kk 34 (by decide)).trans (by decide +kernel)) (Eq.trans (a_up_ne (Or.inr (by decide))) (Eq.trans (a_up_ne (Or.inr (by decide))) (Eq.trans (a_up_ne (Or.inr (by decide))) (Eq.trans (a_up_ne (Or.inr (by decide))) (Eq.trans (a_up_ne (Or.inr (by decide))) (Eq.trans (a_up_ne (Or.inr (by decide))) (Eq.trans (a_up_ne (Or.inr (by decide))) (a_up_at)))))))) ?_
  refine ax_iadd d_Pa_init_239 ⟨(by omega), (by omega)⟩ ?_
  refine ax_ti (x := 3303) (by decide) ?_
  refine aw_aload_n d_Pa_init_240 rfl rfl ?_
  refine ax_getIe (x := 6) d_Pa_init_241 fd_Pa_15 ((E.kk 34 (by decide)).trans (by decide +kernel)) (Eq.trans (a_up_ne (Or.inr (by decide))) (Eq.trans (a_up_ne (Or.inr (by decide))) (Eq.trans (a_up_ne (Or.inr (by decide))) (Eq.trans (a_up_ne (Or.inr (by decide))) (Eq.trans (a_up_ne (Or.inr (by decide))) (Eq.trans (a_up_ne (Or.inr (by decide))) (Eq.trans (a_up_ne (Or.inr (by decide))) (Eq.trans (a_up_ne (Or.inr (by decide))) (Eq.trans (a_up_ne (Or.inr (by decide))) (Eq.trans (a_up_ne (Or.inr (by decide))) (Eq.trans (a_up_ne (Or.inr (by decide))) (Eq.trans (a_up_ne (Or.inr (by decide))) (Eq.trans (a_up_ne (Or.inr (by decide))) (Eq.trans (a_up_ne (Or.inr (by decide))) (a_up_at))))))))))))))) ?_
  refine ax_iadd d_Pa_init_244 ⟨(by omega), (by omega)⟩ ?_
  refine ax_ti (x := 3309) (by decide) ?_
  refine ax_putIF d_Pa_init_245 fd_Pa_90 ((E.kk 34 (by decide)).trans (by decide +kernel)) (by decide) rfl rfl rfl ?_
  exact aw_vret d_Pa_init_248 rfl (hP _ (E.par (s := 1) (fun x j e => (a_up_ne (Or.inl e)).trans ((a_up_ne (Or.inl e)).trans ((a_up_ne (Or.inl e)).trans ((a_up_ne (Or.inl e)).trans ((a_up_ne (Or.inl e)).trans ((a_up_ne (Or.inl e)).trans ((a_up_ne (Or.inl e)).trans ((a_up_ne (Or.inl e)).trans ((a_up_ne (Or.inl e)).trans ((a_up_ne (Or.inl e)).trans ((a_up_ne (Or.inl e)).trans ((a_up_ne (Or.inl e)).trans ((a_up_ne (Or.inl e)).trans ((a_up_ne (Or.inl e)).trans ((a_up_ne (Or.inl e)).trans ((a_up_ne (Or.inl e)).trans (rfl))))))))))))))))) (List.forall_mem_cons.mpr ⟨fun e => absurd e (by decide), List.forall_mem_cons.mpr ⟨fun e => absurd e (by decide), List.forall_mem_cons.mpr ⟨fun e => absurd e (by decide), List.forall_mem_cons.mpr ⟨fun e => absurd e (by decide), List.forall_mem_cons.mpr ⟨fun e => absurd e (by decide), List.forall_mem_cons.mpr ⟨fun e => absurd e (by decide), List.forall_mem_cons.mpr ⟨fun e => absurd e (by decide), List.forall_mem_cons.mpr ⟨fun e => absurd e (by decide), List.forall_mem_cons.mpr ⟨fun e => absurd e (by decide), List.forall_mem_cons.mpr ⟨fun e => absurd e (by decide), List.forall_mem_cons.mpr ⟨fun e => absurd e (by decide), List.forall_mem_cons.mpr ⟨fun e => absurd e (by decide), List.forall_mem_cons.mpr ⟨fun e => absurd e (by decide), List.forall_mem_cons.mpr ⟨fun e => absurd e (by decide), List.forall_mem_cons.mpr ⟨fun e => absurd e (by decide), List.forall_mem_cons.mpr ⟨fun e => absurd e (by decide), List.forall_mem_cons.mpr ⟨fun _ => (Eq.trans (a_up_ne (Or.inr (by decide))) (Eq.trans (a_up_ne (Or.inr (by decide))) (Eq.trans (a_up_ne (Or.inr (by decide))) (Eq.trans (a_up_ne (Or.inr (by decide))) (Eq.trans (a_up_ne (Or.inr (by decide))) (Eq.trans (a_up_ne (Or.inr (by decide))) (Eq.trans (a_up_ne (Or.inr (by decide))) (Eq.trans (a_up_ne (Or.inr (by decide))) (Eq.trans (a_up_ne (Or.inr (by decide))) (Eq.trans (a_up_ne (Or.inr (by decide))) (Eq.trans (a_up_ne (Or.inr (by decide))) (Eq.trans (a_up_ne (Or.inr (by decide))) (Eq.trans (a_up_ne (Or.inr (by decide))) (Eq.trans (a_up_ne (Or.inr (by decide))) (Eq.trans (a_up_ne (Or.inr (by decide))) (a_up_at)))))))))))))))), List.forall_mem_cons.mpr ⟨fun _ => (Eq.trans (a_up_ne (Or.inr (by decide))) (Eq.trans (a_up_ne (Or.inr (by decide))) (Eq.trans (a_up_ne (Or.inr (by decide))) (Eq.trans (a_up_ne (Or.inr (by decide))) (Eq.trans (a_up_ne (Or.inr (by decide))) (Eq.trans (a_up_ne (Or.inr (by decide))) (Eq.trans (a_up_ne (Or.inr (by decide))) (Eq.trans (a_up_ne (Or.inr (by decide))) (Eq.trans (a_up_ne (Or.inr (by decide))) (Eq.trans (a_up_ne (Or.inr (by decide))) (Eq.trans (a_up_ne (Or.inr (by decide))) (Eq.trans (a_up_ne (Or.inr (by decide))) (Eq.trans (a_up_ne (Or.inr (by decide))) (Eq.trans (a_up_ne (Or.inr (by decide))) (a_up_at))))))))))))))), List.forall_mem_cons.mpr ⟨fun _ => (Eq.trans (a_up_ne (Or.inr (by decide))) (Eq.trans (a_up_ne (Or.inr (by decide))) (Eq.trans (a_up_ne (Or.inr (by decide))) (Eq.trans (a_up_ne (Or.inr (by decide))) (Eq.trans (a_up_ne (Or.inr (by decide))) (Eq.trans (a_up_ne (Or.inr (by decide))) (Eq.trans (a_up_ne (Or.inr (by decide))) (Eq.trans (a_up_ne (Or.inr (by decide))) (Eq.trans (a_up_ne (Or.inr (by decide))) (Eq.trans (a_up_ne (Or.inr (by decide))) (Eq.trans (a_up_ne (Or.inr (by decide))) (Eq.trans (a_up_ne (Or.inr (by decide))) (Eq.trans (a_up_ne (Or.inr (by decide))) (a_up_at)))))))))))))), List.forall_mem_cons.mpr ⟨fun _ => (Eq.trans (a_up_ne (Or.inr (by decide))) (Eq.trans (a_up_ne (Or.inr (by decide))) (Eq.trans (a_up_ne (Or.inr (by decide))) (Eq.trans (a_up_ne (Or.inr (by decide))) (Eq.trans (a_up_ne (Or.inr (by decide))) (Eq.trans (a_up_ne (Or.inr (by decide))) (Eq.trans (a_up_ne (Or.inr (by decide))) (Eq.trans (a_up_ne (Or.inr (by decide))) (Eq.trans (a_up_ne (Or.inr (by decide))) (Eq.trans (a_up_ne (Or.inr (by decide))) (Eq.trans (a_up_ne (Or.inr (by decide))) (Eq.trans (a_up_ne (Or.inr (by decide))) (a_up_at))))))))))))), List.forall_mem_cons.mpr ⟨fun _ => (Eq.trans (a_up_ne (Or.inr (by decide))) (Eq.trans (a_up_ne (Or.inr (by decide))) (Eq.trans (a_up_ne (Or.inr (by decide))) (Eq.trans (a_up_ne (Or.inr (by decide))) (Eq.trans (a_up_ne (Or.inr (by decide))) (Eq.trans (a_up_ne (Or.inr (by decide))) (Eq.trans (a_up_ne (Or.inr (by decide))) (Eq.trans (a_up_ne (Or.inr (by decide))) (Eq.trans (a_up_ne (Or.inr (by decide))) (Eq.trans (a_up_ne (Or.inr (by decide))) (Eq.trans (a_up_ne (Or.inr (by decide))) (a_up_at)))))))))))), List.forall_mem_cons.mpr ⟨fun _ => (Eq.trans (a_up_ne (Or.inr (by decide))) (Eq.trans (a_up_ne (Or.inr (by decide))) (Eq.trans (a_up_ne (Or.inr (by decide))) (Eq.trans (a_up_ne (Or.inr (by decide))) (Eq.trans (a_up_ne (Or.inr (by decide))) (Eq.trans (a_up_ne (Or.inr (by decide))) (Eq.trans (a_up_ne (Or.inr (by decide))) (Eq.trans (a_up_ne (Or.inr (by decide))) (Eq.trans (a_up_ne (Or.inr (by decide))) (a_up_at)))))))))), List.forall_mem_cons.mpr ⟨fun _ => (Eq.trans (a_up_ne (Or.inr (by decide))) (Eq.trans (a_up_ne (Or.inr (by decide))) (Eq.trans (a_up_ne (Or.inr (by decide))) (Eq.trans (a_up_ne (Or.inr (by decide))) (Eq.trans (a_up_ne (Or.inr (by decide))) (Eq.trans (a_up_ne (Or.inr (by decide))) (Eq.trans (a_up_ne (Or.inr (by decide))) (Eq.trans (a_up_ne (Or.inr (by decide))) (a_up_at))))))))), List.forall_mem_cons.mpr ⟨fun _ => (Eq.trans (a_up_ne (Or.inr (by decide))) (Eq.trans (a_up_ne (Or.inr (by decide))) (Eq.trans (a_up_ne (Or.inr (by decide))) (Eq.trans (a_up_ne (Or.inr (by decide))) (Eq.trans (a_up_ne (Or.inr (by decide))) (Eq.trans (a_up_ne (Or.inr (by decide))) (Eq.trans (a_up_ne (Or.inr (by decide))) (a_up_at)))))))), List.forall_mem_cons.mpr ⟨fun _ => (Eq.trans (a_up_ne (Or.inr (by decide))) (Eq.trans (a_up_ne (Or.inr (by decide))) (Eq.trans (a_up_ne (Or.inr (by decide))) (Eq.trans (a_up_ne (Or.inr (by decide))) (Eq.trans (a_up_ne (Or.inr (by decide))) (Eq.trans (a_up_ne (Or.inr (by decide))) (Eq.trans (a_up_ne (Or.inr (by decide))) (Eq.trans (a_up_ne (Or.inr (by decide))) (Eq.trans (a_up_ne (Or.inr (by decide))) (Eq.trans (a_up_ne (Or.inr (by decide))) (a_up_at))))))))))), List.forall_mem_cons.mpr ⟨fun _ => (Eq.trans (a_up_ne (Or.inr (by decide))) (Eq.trans (a_up_ne (Or.inr (by decide))) (Eq.trans (a_up_ne (Or.inr (by decide))) (Eq.trans (a_up_ne (Or.inr (by decide))) (Eq.trans (a_up_ne (Or.inr (by decide))) (Eq.trans (a_up_ne (Or.inr (by decide))) (a_up_at))))))), List.forall_mem_cons.mpr ⟨fun _ => (Eq.trans (a_up_ne (Or.inr (by decide))) (Eq.trans (a_up_ne (Or.inr (by decide))) (Eq.trans (a_up_ne (Or.inr (by decide))) (Eq.trans (a_up_ne (Or.inr (by decide))) (Eq.trans (a_up_ne (Or.inr (by decide))) (a_up_at)))))), List.forall_mem_cons.mpr ⟨fun _ => (Eq.trans (a_up_ne (Or.inr (by decide))) (Eq.trans (a_up_ne (Or.inr (by decide))) (Eq.trans (a_up_ne (Or.inr (by decide))) (Eq.trans (a_up_ne (Or.inr (by decide))) (a_up_at))))), List.forall_mem_cons.mpr ⟨fun _ => (Eq.trans (a_up_ne (Or.inr (by decide))) (Eq.trans (a_up_ne (Or.inr (by decide))) (Eq.trans (a_up_ne (Or.inr (by decide))) (a_up_at)))), List.forall_mem_cons.mpr ⟨fun _ => (Eq.trans (a_up_ne (Or.inr (by decide))) (Eq.trans (a_up_ne (Or.inr (by decide))) (a_up_at))), List.forall_mem_cons.mpr ⟨fun _ => (Eq.trans (a_up_ne (Or.inr (by decide))) (a_up_at)), List.forall_mem_cons.mpr ⟨fun _ => (a_up_at), List.forall_mem_cons.mpr ⟨fun e => absurd e (by decide), List.forall_mem_cons.mpr ⟨fun e => absurd e (by decide), List.forall_mem_cons.mpr ⟨fun e => absurd e (by decide), List.forall_mem_cons.mpr ⟨fun e => absurd e (by decide), List.forall_mem_cons.mpr ⟨fun e => absurd e (by decide), List.forall_mem_cons.mpr ⟨fun e => absurd e (by decide), List.forall_mem_cons.mpr ⟨fun e => absurd e (by decide), List.forall_mem_cons.mpr ⟨fun e => absurd e (by decide), List.forall_mem_cons.mpr ⟨fun e => absurd e (by decide), List.forall_mem_cons.mpr ⟨fun e => absurd e (by decide), List.forall_mem_cons.mpr ⟨fun e => absurd e (by decide), List.forall_mem_cons.mpr ⟨fun e => absurd e (by decide), List.forall_mem_cons.mpr ⟨fun e => absurd e (by decide), List.forall_mem_cons.mpr ⟨fun e => absurd e (by decide), List.forall_mem_cons.mpr ⟨fun e => absurd e (by decide), List.forall_mem_cons.mpr ⟨fun e => absurd e (by decide), fun q hq => absurd hq List.not_mem_nil⟩⟩⟩⟩⟩⟩⟩⟩⟩⟩⟩⟩⟩⟩⟩⟩⟩⟩⟩⟩⟩⟩⟩⟩⟩⟩⟩⟩⟩⟩⟩⟩⟩⟩⟩⟩⟩⟩⟩⟩⟩⟩⟩⟩⟩⟩⟩⟩) (by decide) (by decide)))
set_option maxHeartbeats 4000000 in
set_option maxRecDepth 100000 in
theorem c_Pa_init2 {l : Launch} {G : a_G} {h : Hp} {N : Int} (E : Pt N 36 22 2 0 h) : AW l G M_Pa_init (Ret (fun _ : Hp => none) (fun u => u) (fun u => Pt N 36 22 3 0 u)) 0 (a_ar 0 [vr 35, vi 2]) [] h := by
  suffices key : ∀ P : a_R → Hp → Prop, (∀ u, Pt N 36 22 3 0 u → P (.inl none) u) → AW l G M_Pa_init P 0 [(0, vr 35), (1, vi 2)] [] h from key _ (fun u q => ⟨u, rfl, rfl, q⟩)
  intro P hP
  refine aw_aload_n d_Pa_init_0 rfl rfl ?_
  refine aw_objInit d_Pa_init_1 ml_Pa_5 (by decide) (by decide) ?_
  show AW l G M_Pa_init P 4 [(0, vr 35), (1, vi 2)] [] (sD h (hI h) (hL h))
  refine aw_aload_n d_Pa_init_4 rfl rfl ?_
  refine aw_gets (j := 0) d_Pa_init_5 (by decide) gs_Pa_11 ?_
  refine aw_iload_n d_Pa_init_8 rfl rfl ?_
  refine ax_ialde (x := 8) d_Pa_init_9 ((E.kk 0 (by decide)).trans (by decide +kernel)) (by omega) (by show _ < hN h 0; rw [E.nn 0 (by decide) (by decide)]; decide +kernel) ((E.st.1 0 2 (by decide) (by decide)).trans (by decide)) ?_
  refine ax_putIF d_Pa_init_10 fd_Pa_15 ((E.kk 35 (by decide)).trans (by decide +kernel)) (by decide) rfl rfl rfl ?_
  refine aw_aload_n d_Pa_init_13 rfl rfl ?_
  refine aw_gets (j := 1) d_Pa_init_14 (by decide) gs_Pa_19 ?_
  refine aw_iload_n d_Pa_init_17 rfl rfl ?_
  refine ax_ialde (x := 7) d_Pa_init_18 ((E.kk 1 (by decide)).trans (by decide +kernel)) (by omega) (by show _ < hN h 1; rw [E.nn 1 (by decide) (by decide)]; decide +kernel) (Eq.trans (a_up_ne (Or.inl (by decide))) ((E.st.1 1 2 (by decide) (by decide)).trans (by decide))) ?_
  refine ax_putIF d_Pa_init_19 fd_Pa_22 ((E.kk 35 (by decide)).trans (by decide +kernel)) (by decide) rfl rfl rfl ?_
  refine aw_aload_n d_Pa_init_22 rfl rfl ?_
  refine aw_gets (j := 2) d_Pa_init_23 (by decide) gs_Pa_25 ?_
  refine aw_iload_n d_Pa_init_26 rfl rfl ?_
  refine ax_ialde (x := 2) d_Pa_init_27 ((E.kk 2 (by decide)).trans (by decide +kernel)) (by omega) (by show _ < hN h 2; rw [E.nn 2 (by decide) (by decide)]; decide +kernel) (Eq.trans (a_up_ne (Or.inl (by decide))) (Eq.trans (a_up_ne (Or.inl (by decide))) ((E.st.1 2 2 (by decide) (by decide)).trans (by decide)))) ?_
  refine ax_putIF d_Pa_init_28 fd_Pa_28 ((E.kk 35 (by decide)).trans (by decide +kernel)) (by decide) rfl rfl rfl ?_
  refine aw_aload_n d_Pa_init_31 rfl rfl ?_
  refine aw_gets (j := 3) d_Pa_init_32 (by decide) gs_Pa_31 ?_
  refine aw_iload_n d_Pa_init_35 rfl rfl ?_
  refine ax_ialde (x := 60) d_Pa_init_36 ((E.kk 3 (by decide)).trans (by decide +kernel)) (by omega) (by show _ < hN h 3; rw [E.nn 3 (by decide) (by decide)]; decide +kernel) (Eq.trans (a_up_ne (Or.inl (by decide))) (Eq.trans (a_up_ne (Or.inl (by decide))) (Eq.trans (a_up_ne (Or.inl (by decide))) ((E.st.1 3 2 (by decide) (by decide)).trans (by decide))))) ?_
  refine ax_putIF d_Pa_init_37 fd_Pa_34 ((E.kk 35 (by decide)).trans (by decide +kernel)) (by decide) rfl rfl rfl ?_
  refine aw_aload_n d_Pa_init_40 rfl rfl ?_
  refine aw_gets (j := 4) d_Pa_init_41 (by decide) gs_Pa_37 ?_
  refine aw_iload_n d_Pa_init_44 rfl rfl ?_
  refine ax_ialde (x := 524288) d_Pa_init_45 ((E.kk 4 (by decide)).trans (by decide +kernel)) (by omega) (by show _ < hN h 4; rw [E.nn 4 (by decide) (by decide)]; decide +kernel) (Eq.trans (a_up_ne (Or.inl (by decide))) (Eq.trans (a_up_ne (Or.inl (by decide))) (Eq.trans (a_up_ne (Or.inl (by decide))) (Eq.trans (a_up_ne (Or.inl (by decide))) ((E.st.1 4 2 (by decide) (by decide)).trans (by decide)))))) ?_
  refine ax_putIF d_Pa_init_46 fd_Pa_40 ((E.kk 35 (by decide)).trans (by decide +kernel)) (by decide) rfl rfl rfl ?_
  refine aw_aload_n d_Pa_init_49 rfl rfl ?_
  refine aw_gets (j := 5) d_Pa_init_50 (by decide) gs_Pa_43 ?_
  refine aw_iload_n d_Pa_init_53 rfl rfl ?_
  refine ax_ialde (x := 16) d_Pa_init_54 ((E.kk 5 (by decide)).trans (by decide +kernel)) (by omega) (by show _ < hN h 5; rw [E.nn 5 (by decide) (by decide)]; decide +kernel) (Eq.trans (a_up_ne (Or.inl (by decide))) (Eq.trans (a_up_ne (Or.inl (by decide))) (Eq.trans (a_up_ne (Or.inl (by decide))) (Eq.trans (a_up_ne (Or.inl (by decide))) (Eq.trans (a_up_ne (Or.inl (by decide))) ((E.st.1 5 2 (by decide) (by decide)).trans (by decide))))))) ?_
  refine ax_putIF d_Pa_init_55 fd_Pa_46 ((E.kk 35 (by decide)).trans (by decide +kernel)) (by decide) rfl rfl rfl ?_
  refine aw_aload_n d_Pa_init_58 rfl rfl ?_
  refine aw_ldc (n := 8380416) d_Pa_init_59 lc_Pa_51 ⟨by decide, by decide⟩ ?_
  refine aw_iconst d_Pa_init_61 ⟨by decide, by decide⟩ ?_
  refine aw_gets (j := 5) d_Pa_init_62 (by decide) gs_Pa_43 ?_
  refine aw_iload_n d_Pa_init_65 rfl rfl ?_
  refine ax_ialde (x := 16) d_Pa_init_66 ((E.kk 5 (by decide)).trans (by decide +kernel)) (by omega) (by show _ < hN h 5; rw [E.nn 5 (by decide) (by decide)]; decide +kernel) (Eq.trans (a_up_ne (Or.inl (by decide))) (Eq.trans (a_up_ne (Or.inl (by decide))) (Eq.trans (a_up_ne (Or.inl (by decide))) (Eq.trans (a_up_ne (Or.inl (by decide))) (Eq.trans (a_up_ne (Or.inl (by decide))) (Eq.trans (a_up_ne (Or.inl (by decide))) ((E.st.1 5 2 (by decide) (by decide)).trans (by decide)))))))) ?_
  refine ax_imul d_Pa_init_67 ⟨(by omega), (by omega)⟩ ?_
  refine ax_ti (x := 32) (by decide) ?_
  refine ax_idiv d_Pa_init_68 ⟨(by omega), (by omega)⟩ (by omega) ?_
  refine ax_ti (x := 261888) (by decide) ?_
  refine ax_putIF d_Pa_init_69 fd_Pa_52 ((E.kk 35 (by decide)).trans (by decide +kernel)) (by decide) rfl rfl rfl ?_
  refine aw_aload_n d_Pa_init_72 rfl rfl ?_
  refine aw_gets (j := 6) d_Pa_init_73 (by decide) gs_Pa_55 ?_
  refine aw_iload_n d_Pa_init_76 rfl rfl ?_
  refine ax_ialde (x := 75) d_Pa_init_77 ((E.kk 6 (by decide)).trans (by decide +kernel)) (by omega) (by show _ < hN h 6; rw [E.nn 6 (by decide) (by decide)]; decide +kernel) (Eq.trans (a_up_ne (Or.inl (by decide))) (Eq.trans (a_up_ne (Or.inl (by decide))) (Eq.trans (a_up_ne (Or.inl (by decide))) (Eq.trans (a_up_ne (Or.inl (by decide))) (Eq.trans (a_up_ne (Or.inl (by decide))) (Eq.trans (a_up_ne (Or.inl (by decide))) (Eq.trans (a_up_ne (Or.inl (by decide))) ((E.st.1 6 2 (by decide) (by decide)).trans (by decide))))))))) ?_
  refine ax_putIF d_Pa_init_78 fd_Pa_58 ((E.kk 35 (by decide)).trans (by decide +kernel)) (by decide) rfl rfl rfl ?_
  refine aw_aload_n d_Pa_init_81 rfl rfl ?_
  refine aw_gets (j := 7) d_Pa_init_82 (by decide) gs_Pa_61 ?_
  refine aw_iload_n d_Pa_init_85 rfl rfl ?_
  refine ax_ialde (x := 64) d_Pa_init_86 ((E.kk 7 (by decide)).trans (by decide +kernel)) (by omega) (by show _ < hN h 7; rw [E.nn 7 (by decide) (by decide)]; decide +kernel) (Eq.trans (a_up_ne (Or.inl (by decide))) (Eq.trans (a_up_ne (Or.inl (by decide))) (Eq.trans (a_up_ne (Or.inl (by decide))) (Eq.trans (a_up_ne (Or.inl (by decide))) (Eq.trans (a_up_ne (Or.inl (by decide))) (Eq.trans (a_up_ne (Or.inl (by decide))) (Eq.trans (a_up_ne (Or.inl (by decide))) (Eq.trans (a_up_ne (Or.inl (by decide))) ((E.st.1 7 2 (by decide) (by decide)).trans (by decide)))))))))) ?_
  refine ax_putIF d_Pa_init_87 fd_Pa_64 ((E.kk 35 (by decide)).trans (by decide +kernel)) (by decide) rfl rfl rfl ?_
  refine aw_aload_n d_Pa_init_90 rfl rfl ?_
  refine aw_gets (j := 3) d_Pa_init_91 (by decide) gs_Pa_31 ?_
  refine aw_iload_n d_Pa_init_94 rfl rfl ?_
  refine ax_ialde (x := 60) d_Pa_init_95 ((E.kk 3 (by decide)).trans (by decide +kernel)) (by omega) (by show _ < hN h 3; rw [E.nn 3 (by decide) (by decide)]; decide +kernel) (Eq.trans (a_up_ne (Or.inl (by decide))) (Eq.trans (a_up_ne (Or.inl (by decide))) (Eq.trans (a_up_ne (Or.inl (by decide))) (Eq.trans (a_up_ne (Or.inl (by decide))) (Eq.trans (a_up_ne (Or.inl (by decide))) (Eq.trans (a_up_ne (Or.inl (by decide))) (Eq.trans (a_up_ne (Or.inl (by decide))) (Eq.trans (a_up_ne (Or.inl (by decide))) (Eq.trans (a_up_ne (Or.inl (by decide))) ((E.st.1 3 2 (by decide) (by decide)).trans (by decide))))))))))) ?_
  refine aw_gets (j := 2) d_Pa_init_96 (by decide) gs_Pa_25 ?_
  refine aw_iload_n d_Pa_init_99 rfl rfl ?_
  refine ax_ialde (x := 2) d_Pa_init_100 ((E.kk 2 (by decide)).trans (by decide +kernel)) (by omega) (by show _ < hN h 2; rw [E.nn 2 (by decide) (by decide)]; decide +kernel) (Eq.trans (a_up_ne (Or.inl (by decide))) (Eq.trans (a_up_ne (Or.inl (by decide))) (Eq.trans (a_up_ne (Or.inl (by decide))) (Eq.trans (a_up_ne (Or.inl (by decide))) (Eq.trans (a_up_ne (Or.inl (by decide))) (Eq.trans (a_up_ne (Or.inl (by decide))) (Eq.trans (a_up_ne (Or.inl (by decide))) (Eq.trans (a_up_ne (Or.inl (by decide))) (Eq.trans (a_up_ne (Or.inl (by decide))) ((E.st.1 2 2 (by decide) (by decide)).trans (by decide))))))))))) ?_
  refine ax_imul d_Pa_init_101 ⟨(by omega), (by omega)⟩ ?_
  refine ax_ti (x := 120) (by decide) ?_
  refine ax_putIF d_Pa_init_102 fd_Pa_67 ((E.kk 35 (by decide)).trans (by decide +kernel)) (by decide) rfl rfl rfl ?_
  refine aw_aload_n d_Pa_init_105 rfl rfl ?_
  refine aw_gets (j := 2) d_Pa_init_106 (by decide) gs_Pa_25 ?_
  refine aw_iload_n d_Pa_init_109 rfl rfl ?_
  refine ax_ialde (x := 2) d_Pa_init_110 ((E.kk 2 (by decide)).trans (by decide +kernel)) (by omega) (by show _ < hN h 2; rw [E.nn 2 (by decide) (by decide)]; decide +kernel) (Eq.trans (a_up_ne (Or.inl (by decide))) (Eq.trans (a_up_ne (Or.inl (by decide))) (Eq.trans (a_up_ne (Or.inl (by decide))) (Eq.trans (a_up_ne (Or.inl (by decide))) (Eq.trans (a_up_ne (Or.inl (by decide))) (Eq.trans (a_up_ne (Or.inl (by decide))) (Eq.trans (a_up_ne (Or.inl (by decide))) (Eq.trans (a_up_ne (Or.inl (by decide))) (Eq.trans (a_up_ne (Or.inl (by decide))) (Eq.trans (a_up_ne (Or.inl (by decide))) ((E.st.1 2 2 (by decide) (by decide)).trans (by decide)))))))))))) ?_
  refine aw_iconst d_Pa_init_111 ⟨by decide, by decide⟩ ?_
  refine aw_icmp_ne (tgt := 119) d_Pa_init_112 (by decide) (fun c_112 => ?_) (fun c_112 => False.elim (by omega))
  refine aw_iconst d_Pa_init_119 ⟨by decide, by decide⟩ ?_
  refine ax_putIF d_Pa_init_120 fd_Pa_70 ((E.kk 35 (by decide)).trans (by decide +kernel)) (by decide) rfl rfl rfl ?_
  refine aw_aload_n d_Pa_init_123 rfl rfl ?_
  refine aw_gets (j := 4) d_Pa_init_124 (by decide) gs_Pa_37 ?_
  refine aw_iload_n d_Pa_init_127 rfl rfl ?_
  refine ax_ialde (x := 524288) d_Pa_init_128 ((E.kk 4 (by decide)).trans (by decide +kernel)) (by omega) (by show _ < hN h 4; rw [E.nn 4 (by decide) (by decide)]; decide +kernel) (Eq.trans (a_up_ne (Or.inl (by decide))) (Eq.trans (a_up_ne (Or.inl (by decide))) (Eq.trans (a_up_ne (Or.inl (by decide))) (Eq.trans (a_up_ne (Or.inl (by decide))) (Eq.trans (a_up_ne (Or.inl (by decide))) (Eq.trans (a_up_ne (Or.inl (by decide))) (Eq.trans (a_up_ne (Or.inl (by decide))) (Eq.trans (a_up_ne (Or.inl (by decide))) (Eq.trans (a_up_ne (Or.inl (by decide))) (Eq.trans (a_up_ne (Or.inl (by decide))) (Eq.trans (a_up_ne (Or.inl (by decide))) ((E.st.1 4 2 (by decide) (by decide)).trans (by decide))))))))))))) ?_
  refine aw_ldc (n := 524288) d_Pa_init_129 lc_Pa_73 ⟨by decide, by decide⟩ ?_
  refine aw_icmp_ne (tgt := 139) d_Pa_init_131 (by decide) (fun c_131 => False.elim (by omega)) (fun c_131 => ?_)
  refine aw_bipush d_Pa_init_134 ⟨by decide, by decide⟩ (by decide) ?_
  refine aw_goto (tgt := 141) d_Pa_init_136 (by decide) ?_
  refine ax_putIF d_Pa_init_141 fd_Pa_74 ((E.kk 35 (by decide)).trans (by decide +kernel)) (by decide) rfl rfl rfl ?_
  refine aw_aload_n d_Pa_init_144 rfl rfl ?_
  refine aw_gets (j := 5) d_Pa_init_145 (by decide) gs_Pa_43 ?_
  refine aw_iload_n d_Pa_init_148 rfl rfl ?_
  refine ax_ialde (x := 16) d_Pa_init_149 ((E.kk 5 (by decide)).trans (by decide +kernel)) (by omega) (by show _ < hN h 5; rw [E.nn 5 (by decide) (by decide)]; decide +kernel) (Eq.trans (a_up_ne (Or.inl (by decide))) (Eq.trans (a_up_ne (Or.inl (by decide))) (Eq.trans (a_up_ne (Or.inl (by decide))) (Eq.trans (a_up_ne (Or.inl (by decide))) (Eq.trans (a_up_ne (Or.inl (by decide))) (Eq.trans (a_up_ne (Or.inl (by decide))) (Eq.trans (a_up_ne (Or.inl (by decide))) (Eq.trans (a_up_ne (Or.inl (by decide))) (Eq.trans (a_up_ne (Or.inl (by decide))) (Eq.trans (a_up_ne (Or.inl (by decide))) (Eq.trans (a_up_ne (Or.inl (by decide))) (Eq.trans (a_up_ne (Or.inl (by decide))) ((E.st.1 5 2 (by decide) (by decide)).trans (by decide)))))))))))))) ?_
  refine aw_bipush d_Pa_init_150 ⟨by decide, by decide⟩ (by decide) ?_
  refine aw_icmp_ne (tgt := 159) d_Pa_init_152 (by decide) (fun c_152 => False.elim (by omega)) (fun c_152 => ?_)
  refine aw_iconst d_Pa_init_155 ⟨by decide, by decide⟩ ?_
  refine aw_goto (tgt := 161) d_Pa_init_156 (by decide) ?_
  refine ax_putIF d_Pa_init_161 fd_Pa_77 ((E.kk 35 (by decide)).trans (by decide +kernel)) (by decide) rfl rfl rfl ?_
  refine aw_aload_n d_Pa_init_164 rfl rfl ?_
  refine aw_bipush d_Pa_init_165 ⟨by decide, by decide⟩ (by decide) ?_
  refine aw_aload_n d_Pa_init_167 rfl rfl ?_
  refine ax_getIe (x := 8) d_Pa_init_168 fd_Pa_15 ((E.kk 35 (by decide)).trans (by decide +kernel)) (Eq.trans (a_up_ne (Or.inr (by decide))) (Eq.trans (a_up_ne (Or.inr (by decide))) (Eq.trans (a_up_ne (Or.inr (by decide))) (Eq.trans (a_up_ne (Or.inr (by decide))) (Eq.trans (a_up_ne (Or.inr (by decide))) (Eq.trans (a_up_ne (Or.inr (by decide))) (Eq.trans (a_up_ne (Or.inr (by decide))) (Eq.trans (a_up_ne (Or.inr (by decide))) (Eq.trans (a_up_ne (Or.inr (by decide))) (Eq.trans (a_up_ne (Or.inr (by decide))) (Eq.trans (a_up_ne (Or.inr (by decide))) (Eq.trans (a_up_ne (Or.inr (by decide))) (a_up_at))))))))))))) ?_
  refine aw_bipush d_Pa_init_171 ⟨by decide, by decide⟩ (by decide) ?_
  refine ax_S (st := [vi 8, vi 32, vr 35]) (as := [vi 10]) (v := some (vi (32 * 10))) (h' := sD h (a_up (a_up (a_up (a_up (a_up (a_up (a_up (a_up (a_up (a_up (a_up (a_up (a_up (hI h) 35 0 8) 35 1 7) 35 2 2) 35 3 60) 35 4 524288) 35 8 16) 35 5 261888) 35 6 75) 35 7 64) 35 9 120) 35 10 3) 35 11 20) 35 12 4) (hL h)) d_Pa_init_173 cs_Pa_init_173 (c_Ri_packedSize (by decide)) rfl rfl rfl ?_
  show AW l G M_Pa_init P 176 [(0, vr 35), (1, vi 2)] [vi (32 * 10), vi 8, vi 32, vr 35] (sD h (a_up (a_up (a_up (a_up (a_up (a_up (a_up (a_up (a_up (a_up (a_up (a_up (a_up (hI h) 35 0 8) 35 1 7) 35 2 2) 35 3 60) 35 4 524288) 35 8 16) 35 5 261888) 35 6 75) 35 7 64) 35 9 120) 35 10 3) 35 11 20) 35 12 4) (hL h))
  refine ax_ti (x := 320) (by decide) ?_
  refine ax_imul d_Pa_init_176 ⟨(by omega), (by omega)⟩ ?_
  refine ax_ti (x := 2560) (by decide) ?_
  refine ax_iadd d_Pa_init_177 ⟨(by omega), (by omega)⟩ ?_
  refine ax_ti (x := 2592) (by decide) ?_
  refine ax_putIF d_Pa_init_178 fd_Pa_84 ((E.kk 35 (by decide)).trans (by decide +kernel)) (by decide) rfl rfl rfl ?_
  refine aw_aload_n d_Pa_init_181 rfl rfl ?_
  refine aw_sipush d_Pa_init_182 ⟨by decide, by decide⟩ (by decide) ?_
  refine aw_aload_n d_Pa_init_185 rfl rfl ?_
  refine ax_getIe (x := 8) d_Pa_init_186 fd_Pa_15 ((E.kk 35 (by decide)).trans (by decide +kernel)) (Eq.trans (a_up_ne (Or.inr (by decide))) (Eq.trans (a_up_ne (Or.inr (by decide))) (Eq.trans (a_up_ne (Or.inr (by decide))) (Eq.trans (a_up_ne (Or.inr (by decide))) (Eq.trans (a_up_ne (Or.inr (by decide))) (Eq.trans (a_up_ne (Or.inr (by decide))) (Eq.trans (a_up_ne (Or.inr (by decide))) (Eq.trans (a_up_ne (Or.inr (by decide))) (Eq.trans (a_up_ne (Or.inr (by decide))) (Eq.trans (a_up_ne (Or.inr (by decide))) (Eq.trans (a_up_ne (Or.inr (by decide))) (Eq.trans (a_up_ne (Or.inr (by decide))) (Eq.trans (a_up_ne (Or.inr (by decide))) (a_up_at)))))))))))))) ?_
  refine aw_aload_n d_Pa_init_189 rfl rfl ?_
  refine ax_getIe (x := 7) d_Pa_init_190 fd_Pa_22 ((E.kk 35 (by decide)).trans (by decide +kernel)) (Eq.trans (a_up_ne (Or.inr (by decide))) (Eq.trans (a_up_ne (Or.inr (by decide))) (Eq.trans (a_up_ne (Or.inr (by decide))) (Eq.trans (a_up_ne (Or.inr (by decide))) (Eq.trans (a_up_ne (Or.inr (by decide))) (Eq.trans (a_up_ne (Or.inr (by decide))) (Eq.trans (a_up_ne (Or.inr (by decide))) (Eq.trans (a_up_ne (Or.inr (by decide))) (Eq.trans (a_up_ne (Or.inr (by decide))) (Eq.trans (a_up_ne (Or.inr (by decide))) (Eq.trans (a_up_ne (Or.inr (by decide))) (Eq.trans (a_up_ne (Or.inr (by decide))) (a_up_at))))))))))))) ?_
  refine ax_iadd d_Pa_init_193 ⟨(by omega), (by omega)⟩ ?_
  refine ax_ti (x := 15) (by decide) ?_
  refine aw_aload_n d_Pa_init_194 rfl rfl ?_
  refine ax_getIe (x := 3) d_Pa_init_195 fd_Pa_70 ((E.kk 35 (by decide)).trans (by decide +kernel)) (Eq.trans (a_up_ne (Or.inr (by decide))) (Eq.trans (a_up_ne (Or.inr (by decide))) (Eq.trans (a_up_ne (Or.inr (by decide))) (a_up_at)))) ?_
  refine ax_S (st := [vi 15, vi 128, vr 35]) (as := [vi 3]) (v := some (vi (32 * 3))) (h' := sD h (a_up (a_up (a_up (a_up (a_up (a_up (a_up (a_up (a_up (a_up (a_up (a_up (a_up (a_up (hI h) 35 0 8) 35 1 7) 35 2 2) 35 3 60) 35 4 524288) 35 8 16) 35 5 261888) 35 6 75) 35 7 64) 35 9 120) 35 10 3) 35 11 20) 35 12 4) 35 13 2592) (hL h)) d_Pa_init_198 cs_Pa_init_198 (c_Ri_packedSize (by decide)) rfl rfl rfl ?_
  show AW l G M_Pa_init P 201 [(0, vr 35), (1, vi 2)] [vi (32 * 3), vi 15, vi 128, vr 35] (sD h (a_up (a_up (a_up (a_up (a_up (a_up (a_up (a_up (a_up (a_up (a_up (a_up (a_up (a_up (hI h) 35 0 8) 35 1 7) 35 2 2) 35 3 60) 35 4 524288) 35 8 16) 35 5 261888) 35 6 75) 35 7 64) 35 9 120) 35 10 3) 35 11 20) 35 12 4) 35 13 2592) (hL h))
  refine ax_ti (x := 96) (by decide) ?_
  refine ax_imul d_Pa_init_201 ⟨(by omega), (by omega)⟩ ?_
  refine ax_ti (x := 1440) (by decide) ?_
  refine ax_iadd d_Pa_init_202 ⟨(by omega), (by omega)⟩ ?_
  refine ax_ti (x := 1568) (by decide) ?_
  refine aw_aload_n d_Pa_init_203 rfl rfl ?_
  refine ax_getIe (x := 8) d_Pa_init_204 fd_Pa_15 ((E.kk 35 (by decide)).trans (by decide +kernel)) (Eq.trans (a_up_ne (Or.inr (by decide))) (Eq.trans (a_up_ne (Or.inr (by decide))) (Eq.trans (a_up_ne (Or.inr (by decide))) (Eq.trans (a_up_ne (Or.inr (by decide))) (Eq.trans (a_up_ne (Or.inr (by decide))) (Eq.trans (a_up_ne (Or.inr (by decide))) (Eq.trans (a_up_ne (Or.inr (by decide))) (Eq.trans (a_up_ne (Or.inr (by decide))) (Eq.trans (a_up_ne (Or.inr (by decide))) (Eq.trans (a_up_ne (Or.inr (by decide))) (Eq.trans (a_up_ne (Or.inr (by decide))) (Eq.trans (a_up_ne (Or.inr (by decide))) (Eq.trans (a_up_ne (Or.inr (by decide))) (a_up_at)))))))))))))) ?_
  refine aw_bipush d_Pa_init_207 ⟨by decide, by decide⟩ (by decide) ?_
  refine ax_S (st := [vi 8, vi 1568, vr 35]) (as := [vi 13]) (v := some (vi (32 * 13))) (h' := sD h (a_up (a_up (a_up (a_up (a_up (a_up (a_up (a_up (a_up (a_up (a_up (a_up (a_up (a_up (hI h) 35 0 8) 35 1 7) 35 2 2) 35 3 60) 35 4 524288) 35 8 16) 35 5 261888) 35 6 75) 35 7 64) 35 9 120) 35 10 3) 35 11 20) 35 12 4) 35 13 2592) (hL h)) d_Pa_init_209 cs_Pa_init_209 (c_Ri_packedSize (by decide)) rfl rfl rfl ?_
  show AW l G M_Pa_init P 212 [(0, vr 35), (1, vi 2)] [vi (32 * 13), vi 8, vi 1568, vr 35] (sD h (a_up (a_up (a_up (a_up (a_up (a_up (a_up (a_up (a_up (a_up (a_up (a_up (a_up (a_up (hI h) 35 0 8) 35 1 7) 35 2 2) 35 3 60) 35 4 524288) 35 8 16) 35 5 261888) 35 6 75) 35 7 64) 35 9 120) 35 10 3) 35 11 20) 35 12 4) 35 13 2592) (hL h))
  refine ax_ti (x := 416) (by decide) ?_
  refine ax_imul d_Pa_init_212 ⟨(by omega), (by omega)⟩ ?_
  refine ax_ti (x := 3328) (by decide) ?_
  refine ax_iadd d_Pa_init_213 ⟨(by omega), (by omega)⟩ ?_
  refine ax_ti (x := 4896) (by decide) ?_
  refine ax_putIF d_Pa_init_214 fd_Pa_87 ((E.kk 35 (by decide)).trans (by decide +kernel)) (by decide) rfl rfl rfl ?_
  refine aw_aload_n d_Pa_init_217 rfl rfl ?_
  refine aw_aload_n d_Pa_init_218 rfl rfl ?_
  refine ax_getIe (x := 64) d_Pa_init_219 fd_Pa_64 ((E.kk 35 (by decide)).trans (by decide +kernel)) (Eq.trans (a_up_ne (Or.inr (by decide))) (Eq.trans (a_up_ne (Or.inr (by decide))) (Eq.trans (a_up_ne (Or.inr (by decide))) (Eq.trans (a_up_ne (Or.inr (by decide))) (Eq.trans (a_up_ne (Or.inr (by decide))) (Eq.trans (a_up_ne (Or.inr (by decide))) (a_up_at))))))) ?_
  refine aw_aload_n d_Pa_init_222 rfl rfl ?_
  refine ax_getIe (x := 7) d_Pa_init_223 fd_Pa_22 ((E.kk 35 (by decide)).trans (by decide +kernel)) (Eq.trans (a_up_ne (Or.inr (by decide))) (Eq.trans (a_up_ne (Or.inr (by decide))) (Eq.trans (a_up_ne (Or.inr (by decide))) (Eq.trans (a_up_ne (Or.inr (by decide))) (Eq.trans (a_up_ne (Or.inr (by decide))) (Eq.trans (a_up_ne (Or.inr (by decide))) (Eq.trans (a_up_ne (Or.inr (by decide))) (Eq.trans (a_up_ne (Or.inr (by decide))) (Eq.trans (a_up_ne (Or.inr (by decide))) (Eq.trans (a_up_ne (Or.inr (by decide))) (Eq.trans (a_up_ne (Or.inr (by decide))) (Eq.trans (a_up_ne (Or.inr (by decide))) (Eq.trans (a_up_ne (Or.inr (by decide))) (a_up_at)))))))))))))) ?_
  refine aw_aload_n d_Pa_init_226 rfl rfl ?_
  refine ax_getIe (x := 20) d_Pa_init_227 fd_Pa_74 ((E.kk 35 (by decide)).trans (by decide +kernel)) (Eq.trans (a_up_ne (Or.inr (by decide))) (Eq.trans (a_up_ne (Or.inr (by decide))) (Eq.trans (a_up_ne (Or.inr (by decide))) (a_up_at)))) ?_
  refine ax_S (st := [vi 7, vi 64, vr 35]) (as := [vi 20]) (v := some (vi (32 * 20))) (h' := sD h (a_up (a_up (a_up (a_up (a_up (a_up (a_up (a_up (a_up (a_up (a_up (a_up (a_up (a_up (a_up (hI h) 35 0 8) 35 1 7) 35 2 2) 35 3 60) 35 4 524288) 35 8 16) 35 5 261888) 35 6 75) 35 7 64) 35 9 120) 35 10 3) 35 11 20) 35 12 4) 35 13 2592) 35 14 4896) (hL h)) d_Pa_init_230 cs_Pa_init_230 (c_Ri_packedSize (by decide)) rfl rfl rfl ?_
  show AW l G M_Pa_init P 233 [(0, vr 35), (1, vi 2)] [vi (32 * 20), vi 7, vi 64, vr 35] (sD h (a_up (a_up (a_up (a_up (a_up (a_up (a_up (a_up (a_up (a_up (a_up (a_up (a_up (a_up (a_up (hI h) 35 0 8) 35 1 7) 35 2 2) 35 3 60) 35 4 524288) 35 8 16) 35 5 261888) 35 6 75) 35 7 64) 35 9 120) 35 10 3) 35 11 20) 35 12 4) 35 13 2592) 35 14 4896) (hL h))
  refine ax_ti (x := 640) (by decide) ?_
  refine ax_imul d_Pa_init_233 ⟨(by omega), (by omega)⟩ ?_
  refine ax_ti (x := 4480) (by decide) ?_
  refine ax_iadd d_Pa_init_234 ⟨(by omega), (by omega)⟩ ?_
  refine ax_ti (x := 4544) (by decide) ?_
  refine aw_aload_n d_Pa_init_235 rfl rfl ?_
  refine ax_getIe (x := 75) d_Pa_init_236 fd_Pa_58 ((E.kk 35 (by decide)).trans (by decide +kernel)) (Eq.trans (a_up_ne (Or.inr (by decide))) (Eq.trans (a_up_ne (Or.inr (by decide))) (Eq.trans (a_up_ne (Or.inr (by decide))) (Eq.trans (a_up_ne (Or.inr (by decide))) (Eq.trans (a_up_ne (Or.inr (by decide))) (Eq.trans (a_up_ne (Or.inr (by decide))) (Eq.trans (a_up_ne (Or.inr (by decide))) (a_up_at)))))))) ?_
  refine ax_iadd d_Pa_init_239 ⟨(by omega), (by omega)⟩ ?_
  refine ax_ti (x := 4619) (by decide) ?_
  refine aw_aload_n d_Pa_init_240 rfl rfl ?_
  refine ax_getIe (x := 8) d_Pa_init_241 fd_Pa_15 ((E.kk 35 (by decide)).trans (by decide +kernel)) (Eq.trans (a_up_ne (Or.inr (by decide))) (Eq.trans (a_up_ne (Or.inr (by decide))) (Eq.trans (a_up_ne (Or.inr (by decide))) (Eq.trans (a_up_ne (Or.inr (by decide))) (Eq.trans (a_up_ne (Or.inr (by decide))) (Eq.trans (a_up_ne (Or.inr (by decide))) (Eq.trans (a_up_ne (Or.inr (by decide))) (Eq.trans (a_up_ne (Or.inr (by decide))) (Eq.trans (a_up_ne (Or.inr (by decide))) (Eq.trans (a_up_ne (Or.inr (by decide))) (Eq.trans (a_up_ne (Or.inr (by decide))) (Eq.trans (a_up_ne (Or.inr (by decide))) (Eq.trans (a_up_ne (Or.inr (by decide))) (Eq.trans (a_up_ne (Or.inr (by decide))) (a_up_at))))))))))))))) ?_
  refine ax_iadd d_Pa_init_244 ⟨(by omega), (by omega)⟩ ?_
  refine ax_ti (x := 4627) (by decide) ?_
  refine ax_putIF d_Pa_init_245 fd_Pa_90 ((E.kk 35 (by decide)).trans (by decide +kernel)) (by decide) rfl rfl rfl ?_
  exact aw_vret d_Pa_init_248 rfl (hP _ (E.par (s := 2) (fun x j e => (a_up_ne (Or.inl e)).trans ((a_up_ne (Or.inl e)).trans ((a_up_ne (Or.inl e)).trans ((a_up_ne (Or.inl e)).trans ((a_up_ne (Or.inl e)).trans ((a_up_ne (Or.inl e)).trans ((a_up_ne (Or.inl e)).trans ((a_up_ne (Or.inl e)).trans ((a_up_ne (Or.inl e)).trans ((a_up_ne (Or.inl e)).trans ((a_up_ne (Or.inl e)).trans ((a_up_ne (Or.inl e)).trans ((a_up_ne (Or.inl e)).trans ((a_up_ne (Or.inl e)).trans ((a_up_ne (Or.inl e)).trans ((a_up_ne (Or.inl e)).trans (rfl))))))))))))))))) (List.forall_mem_cons.mpr ⟨fun e => absurd e (by decide), List.forall_mem_cons.mpr ⟨fun e => absurd e (by decide), List.forall_mem_cons.mpr ⟨fun e => absurd e (by decide), List.forall_mem_cons.mpr ⟨fun e => absurd e (by decide), List.forall_mem_cons.mpr ⟨fun e => absurd e (by decide), List.forall_mem_cons.mpr ⟨fun e => absurd e (by decide), List.forall_mem_cons.mpr ⟨fun e => absurd e (by decide), List.forall_mem_cons.mpr ⟨fun e => absurd e (by decide), List.forall_mem_cons.mpr ⟨fun e => absurd e (by decide), List.forall_mem_cons.mpr ⟨fun e => absurd e (by decide), List.forall_mem_cons.mpr ⟨fun e => absurd e (by decide), List.forall_mem_cons.mpr ⟨fun e => absurd e (by decide), List.forall_mem_cons.mpr ⟨fun e => absurd e (by decide), List.forall_mem_cons.mpr ⟨fun e => absurd e (by decide), List.forall_mem_cons.mpr ⟨fun e => absurd e (by decide), List.forall_mem_cons.mpr ⟨fun e => absurd e (by decide), List.forall_mem_cons.mpr ⟨fun e => absurd e (by decide), List.forall_mem_cons.mpr ⟨fun e => absurd e (by decide), List.forall_mem_cons.mpr ⟨fun e => absurd e (by decide), List.forall_mem_cons.mpr ⟨fun e => absurd e (by decide), List.forall_mem_cons.mpr ⟨fun e => absurd e (by decide), List.forall_mem_cons.mpr ⟨fun e => absurd e (by decide), List.forall_mem_cons.mpr ⟨fun e => absurd e (by decide), List.forall_mem_cons.mpr ⟨fun e => absurd e (by decide), List.forall_mem_cons.mpr ⟨fun e => absurd e (by decide), List.forall_mem_cons.mpr ⟨fun e => absurd e (by decide), List.forall_mem_cons.mpr ⟨fun e => absurd e (by decide), List.forall_mem_cons.mpr ⟨fun e => absurd e (by decide), List.forall_mem_cons.mpr ⟨fun e => absurd e (by decide), List.forall_mem_cons.mpr ⟨fun e => absurd e (by decide), List.forall_mem_cons.mpr ⟨fun e => absurd e (by decide), List.forall_mem_cons.mpr ⟨fun e => absurd e (by decide), List.forall_mem_cons.mpr ⟨fun _ => (Eq.trans (a_up_ne (Or.inr (by decide))) (Eq.trans (a_up_ne (Or.inr (by decide))) (Eq.trans (a_up_ne (Or.inr (by decide))) (Eq.trans (a_up_ne (Or.inr (by decide))) (Eq.trans (a_up_ne (Or.inr (by decide))) (Eq.trans (a_up_ne (Or.inr (by decide))) (Eq.trans (a_up_ne (Or.inr (by decide))) (Eq.trans (a_up_ne (Or.inr (by decide))) (Eq.trans (a_up_ne (Or.inr (by decide))) (Eq.trans (a_up_ne (Or.inr (by decide))) (Eq.trans (a_up_ne (Or.inr (by decide))) (Eq.trans (a_up_ne (Or.inr (by decide))) (Eq.trans (a_up_ne (Or.inr (by decide))) (Eq.trans (a_up_ne (Or.inr (by decide))) (Eq.trans (a_up_ne (Or.inr (by decide))) (a_up_at)))))))))))))))), List.forall_mem_cons.mpr ⟨fun _ => (Eq.trans (a_up_ne (Or.inr (by decide))) (Eq.trans (a_up_ne (Or.inr (by decide))) (Eq.trans (a_up_ne (Or.inr (by decide))) (Eq.trans (a_up_ne (Or.inr (by decide))) (Eq.trans (a_up_ne (Or.inr (by decide))) (Eq.trans (a_up_ne (Or.inr (by decide))) (Eq.trans (a_up_ne (Or.inr (by decide))) (Eq.trans (a_up_ne (Or.inr (by decide))) (Eq.trans (a_up_ne (Or.inr (by decide))) (Eq.trans (a_up_ne (Or.inr (by decide))) (Eq.trans (a_up_ne (Or.inr (by decide))) (Eq.trans (a_up_ne (Or.inr (by decide))) (Eq.trans (a_up_ne (Or.inr (by decide))) (Eq.trans (a_up_ne (Or.inr (by decide))) (a_up_at))))))))))))))), List.forall_mem_cons.mpr ⟨fun _ => (Eq.trans (a_up_ne (Or.inr (by decide))) (Eq.trans (a_up_ne (Or.inr (by decide))) (Eq.trans (a_up_ne (Or.inr (by decide))) (Eq.trans (a_up_ne (Or.inr (by decide))) (Eq.trans (a_up_ne (Or.inr (by decide))) (Eq.trans (a_up_ne (Or.inr (by decide))) (Eq.trans (a_up_ne (Or.inr (by decide))) (Eq.trans (a_up_ne (Or.inr (by decide))) (Eq.trans (a_up_ne (Or.inr (by decide))) (Eq.trans (a_up_ne (Or.inr (by decide))) (Eq.trans (a_up_ne (Or.inr (by decide))) (Eq.trans (a_up_ne (Or.inr (by decide))) (Eq.trans (a_up_ne (Or.inr (by decide))) (a_up_at)))))))))))))), List.forall_mem_cons.mpr ⟨fun _ => (Eq.trans (a_up_ne (Or.inr (by decide))) (Eq.trans (a_up_ne (Or.inr (by decide))) (Eq.trans (a_up_ne (Or.inr (by decide))) (Eq.trans (a_up_ne (Or.inr (by decide))) (Eq.trans (a_up_ne (Or.inr (by decide))) (Eq.trans (a_up_ne (Or.inr (by decide))) (Eq.trans (a_up_ne (Or.inr (by decide))) (Eq.trans (a_up_ne (Or.inr (by decide))) (Eq.trans (a_up_ne (Or.inr (by decide))) (Eq.trans (a_up_ne (Or.inr (by decide))) (Eq.trans (a_up_ne (Or.inr (by decide))) (Eq.trans (a_up_ne (Or.inr (by decide))) (a_up_at))))))))))))), List.forall_mem_cons.mpr ⟨fun _ => (Eq.trans (a_up_ne (Or.inr (by decide))) (Eq.trans (a_up_ne (Or.inr (by decide))) (Eq.trans (a_up_ne (Or.inr (by decide))) (Eq.trans (a_up_ne (Or.inr (by decide))) (Eq.trans (a_up_ne (Or.inr (by decide))) (Eq.trans (a_up_ne (Or.inr (by decide))) (Eq.trans (a_up_ne (Or.inr (by decide))) (Eq.trans (a_up_ne (Or.inr (by decide))) (Eq.trans (a_up_ne (Or.inr (by decide))) (Eq.trans (a_up_ne (Or.inr (by decide))) (Eq.trans (a_up_ne (Or.inr (by decide))) (a_up_at)))))))))))), List.forall_mem_cons.mpr ⟨fun _ => (Eq.trans (a_up_ne (Or.inr (by decide))) (Eq.trans (a_up_ne (Or.inr (by decide))) (Eq.trans (a_up_ne (Or.inr (by decide))) (Eq.trans (a_up_ne (Or.inr (by decide))) (Eq.trans (a_up_ne (Or.inr (by decide))) (Eq.trans (a_up_ne (Or.inr (by decide))) (Eq.trans (a_up_ne (Or.inr (by decide))) (Eq.trans (a_up_ne (Or.inr (by decide))) (Eq.trans (a_up_ne (Or.inr (by decide))) (a_up_at)))))))))), List.forall_mem_cons.mpr ⟨fun _ => (Eq.trans (a_up_ne (Or.inr (by decide))) (Eq.trans (a_up_ne (Or.inr (by decide))) (Eq.trans (a_up_ne (Or.inr (by decide))) (Eq.trans (a_up_ne (Or.inr (by decide))) (Eq.trans (a_up_ne (Or.inr (by decide))) (Eq.trans (a_up_ne (Or.inr (by decide))) (Eq.trans (a_up_ne (Or.inr (by decide))) (Eq.trans (a_up_ne (Or.inr (by decide))) (a_up_at))))))))), List.forall_mem_cons.mpr ⟨fun _ => (Eq.trans (a_up_ne (Or.inr (by decide))) (Eq.trans (a_up_ne (Or.inr (by decide))) (Eq.trans (a_up_ne (Or.inr (by decide))) (Eq.trans (a_up_ne (Or.inr (by decide))) (Eq.trans (a_up_ne (Or.inr (by decide))) (Eq.trans (a_up_ne (Or.inr (by decide))) (Eq.trans (a_up_ne (Or.inr (by decide))) (a_up_at)))))))), List.forall_mem_cons.mpr ⟨fun _ => (Eq.trans (a_up_ne (Or.inr (by decide))) (Eq.trans (a_up_ne (Or.inr (by decide))) (Eq.trans (a_up_ne (Or.inr (by decide))) (Eq.trans (a_up_ne (Or.inr (by decide))) (Eq.trans (a_up_ne (Or.inr (by decide))) (Eq.trans (a_up_ne (Or.inr (by decide))) (Eq.trans (a_up_ne (Or.inr (by decide))) (Eq.trans (a_up_ne (Or.inr (by decide))) (Eq.trans (a_up_ne (Or.inr (by decide))) (Eq.trans (a_up_ne (Or.inr (by decide))) (a_up_at))))))))))), List.forall_mem_cons.mpr ⟨fun _ => (Eq.trans (a_up_ne (Or.inr (by decide))) (Eq.trans (a_up_ne (Or.inr (by decide))) (Eq.trans (a_up_ne (Or.inr (by decide))) (Eq.trans (a_up_ne (Or.inr (by decide))) (Eq.trans (a_up_ne (Or.inr (by decide))) (Eq.trans (a_up_ne (Or.inr (by decide))) (a_up_at))))))), List.forall_mem_cons.mpr ⟨fun _ => (Eq.trans (a_up_ne (Or.inr (by decide))) (Eq.trans (a_up_ne (Or.inr (by decide))) (Eq.trans (a_up_ne (Or.inr (by decide))) (Eq.trans (a_up_ne (Or.inr (by decide))) (Eq.trans (a_up_ne (Or.inr (by decide))) (a_up_at)))))), List.forall_mem_cons.mpr ⟨fun _ => (Eq.trans (a_up_ne (Or.inr (by decide))) (Eq.trans (a_up_ne (Or.inr (by decide))) (Eq.trans (a_up_ne (Or.inr (by decide))) (Eq.trans (a_up_ne (Or.inr (by decide))) (a_up_at))))), List.forall_mem_cons.mpr ⟨fun _ => (Eq.trans (a_up_ne (Or.inr (by decide))) (Eq.trans (a_up_ne (Or.inr (by decide))) (Eq.trans (a_up_ne (Or.inr (by decide))) (a_up_at)))), List.forall_mem_cons.mpr ⟨fun _ => (Eq.trans (a_up_ne (Or.inr (by decide))) (Eq.trans (a_up_ne (Or.inr (by decide))) (a_up_at))), List.forall_mem_cons.mpr ⟨fun _ => (Eq.trans (a_up_ne (Or.inr (by decide))) (a_up_at)), List.forall_mem_cons.mpr ⟨fun _ => (a_up_at), fun q hq => absurd hq List.not_mem_nil⟩⟩⟩⟩⟩⟩⟩⟩⟩⟩⟩⟩⟩⟩⟩⟩⟩⟩⟩⟩⟩⟩⟩⟩⟩⟩⟩⟩⟩⟩⟩⟩⟩⟩⟩⟩⟩⟩⟩⟩⟩⟩⟩⟩⟩⟩⟩⟩) (by decide) (by decide)))
set_option maxHeartbeats 2000000 in
set_option maxRecDepth 100000 in
theorem c_Sp_init {l : Launch} {G : a_G} {h : Hp} {N : Int} (E : Pt N 39 23 3 0 h) : AW l G M_Sp_init (Ret (fun _ : Hp => none) (fun u => u) (fun u => Pt N 42 26 3 0 u)) 0 (a_ar 0 [vr 38]) [] h := by
  suffices key : ∀ P : a_R → Hp → Prop, (∀ u, Pt N 42 26 3 0 u → P (.inl none) u) → AW l G M_Sp_init P 0 [(0, vr 38)] [] h from key _ (fun u q => ⟨u, rfl, rfl, q⟩)
  intro P hP
  refine aw_aload_n d_Sp_init_0 rfl rfl ?_
  refine aw_objInit d_Sp_init_1 ml_Sp_1 (by decide) (by decide) ?_
  refine aw_aload_n d_Sp_init_4 rfl rfl ?_
  refine aw_bipush d_Sp_init_5 ⟨by decide, by decide⟩ (by decide) ?_
  refine pt_newa (n' := 40) (q := 4) E rfl d_Sp_init_7 (by decide) rfl ac_4 (by decide) (by decide) (by decide) (by decide +kernel) (by decide +kernel) (fun h E => ?_)
  refine pt_putR (k' := 24) E rfl d_Sp_init_9 fd_Sp_9 (by decide +kernel) (by decide) rfl rfl rfl (by decide +kernel) (fun h E => ?_)
  refine aw_aload_n d_Sp_init_12 rfl rfl ?_
  refine aw_bipush d_Sp_init_13 ⟨by decide, by decide⟩ (by decide) ?_
  refine pt_newa (n' := 41) (q := 4) E rfl d_Sp_init_15 (by decide) rfl ac_4 (by decide) (by decide) (by decide) (by decide +kernel) (by decide +kernel) (fun h E => ?_)
  refine pt_putR (k' := 25) E rfl d_Sp_init_17 fd_Sp_13 (by decide +kernel) (by decide) rfl rfl rfl (by decide +kernel) (fun h E => ?_)
  refine aw_aload_n d_Sp_init_20 rfl rfl ?_
  refine aw_iconst d_Sp_init_21 ⟨by decide, by decide⟩ ?_
  refine pt_newa (n' := 42) (q := 4) E rfl d_Sp_init_22 (by decide) rfl ac_4 (by decide) (by decide) (by decide) (by decide +kernel) (by decide +kernel) (fun h E => ?_)
  refine pt_putR (k' := 26) E rfl d_Sp_init_24 fd_Sp_16 (by decide +kernel) (by decide) rfl rfl rfl (by decide +kernel) (fun h E => ?_)
  refine aw_aload_n d_Sp_init_27 rfl rfl ?_
  refine aw_sipush d_Sp_init_28 ⟨by decide, by decide⟩ (by decide) ?_
  refine pt_putI E d_Sp_init_31 fd_Sp_19 (by decide +kernel) (by decide) rfl (by decide) (fun h E => ?_)
  refine aw_aload_n d_Sp_init_34 rfl rfl ?_
  refine aw_iconst d_Sp_init_35 ⟨by decide, by decide⟩ ?_
  refine pt_putI E d_Sp_init_36 fd_Sp_23 (by decide +kernel) (by decide) rfl (by decide) (fun h E => ?_)
  exact aw_vret d_Sp_init_39 rfl (hP _ E)
set_option maxHeartbeats 2000000 in
set_option maxRecDepth 100000 in
theorem c_Sa_init {l : Launch} {G : a_G} {h : Hp} {N : Int} (E : Pt N 38 23 3 0 h) : AW l G M_Sa_init (Ret (fun _ : Hp => none) (fun u => u) (fun u => Pt N 42 27 3 0 u)) 0 (a_ar 0 [vr 37]) [] h := by
  suffices key : ∀ P : a_R → Hp → Prop, (∀ u, Pt N 42 27 3 0 u → P (.inl none) u) → AW l G M_Sa_init P 0 [(0, vr 37)] [] h from key _ (fun u q => ⟨u, rfl, rfl, q⟩)
  intro P hP
  refine aw_aload_n d_Sa_init_0 rfl rfl ?_
  refine aw_objInit d_Sa_init_1 ml_Sa_3 (by decide) (by decide) ?_
  refine aw_aload_n d_Sa_init_4 rfl rfl ?_
  refine pt_new (n' := 39) (ci := 7) E rfl d_Sa_init_5 (by decide) nw_Sa_9 (by decide) (by decide +kernel) (by decide +kernel) (fun h E => ?_)
  refine aw_dup d_Sa_init_8 rfl ?_
  refine ax_Nr (st := [vr 38, vr 37]) (as := []) (b := 38) d_Sa_init_9 cs_Sa_init_9 (c_Sp_init E) rfl rfl rfl (fun h E => ?_)
  show AW l G M_Sa_init P 12 [(0, vr 37)] [vr 38, vr 37] h
  refine pt_putR (k' := 27) E rfl d_Sa_init_12 fd_Sa_12 (by decide +kernel) (by decide) rfl rfl rfl (by decide +kernel) (fun h E => ?_)
  exact aw_vret d_Sa_init_15 rfl (hP _ E)
set_option maxHeartbeats 2000000 in
set_option maxRecDepth 100000 in
theorem c_Ri_init {l : Launch} {G : a_G} {h : Hp} {N : Int} (E : Pt N 43 29 3 0 h) : AW l G M_Ri_init (Ret (fun _ : Hp => none) (fun u => u) (fun u => Pt N 44 30 3 1 u)) 0 (a_ar 0 [vr 42]) [] h := by
  suffices key : ∀ P : a_R → Hp → Prop, (∀ u, Pt N 44 30 3 1 u → P (.inl none) u) → AW l G M_Ri_init P 0 [(0, vr 42)] [] h from key _ (fun u q => ⟨u, rfl, rfl, q⟩)
  intro P hP
  refine aw_aload_n d_Ri_init_0 rfl rfl ?_
  refine aw_objInit d_Ri_init_1 ml_Ri_1 (by decide) (by decide) ?_
  refine aw_aload_n d_Ri_init_4 rfl rfl ?_
  refine aw_sipush d_Ri_init_5 ⟨by decide, by decide⟩ (by decide) ?_
  refine pt_newaz (n' := 44) (q := 1) E rfl d_Ri_init_8 (by decide) rfl ac_1 (by decide) (by decide) (by decide) (by decide +kernel) (by decide +kernel) (fun h E z43 => ?_)
  refine pt_putRz (k' := 30) E rfl d_Ri_init_10 fd_Ri_9 (by decide +kernel) (by decide) rfl rfl rfl (by decide +kernel) z43 (fun h E z43 => ?_)
  have S := E
  show AW l G M_Ri_init P 13 [(0, vr 42)] [] (sD h (hI h) (hL h))
  refine aw_lconst (x := 1) d_Ri_init_13 ⟨by decide, by decide⟩ (by decide) ?_
  refine aw_lstore_n (lv' := [(1, vl 1), (0, vr 42)]) d_Ri_init_14 rfl (by decide) rfl ?_
  refine aw_iconst d_Ri_init_15 ⟨by decide, by decide⟩ ?_
  refine aw_istore_n (lv' := [(3, vi 0), (1, vl 1), (0, vr 42)]) d_Ri_init_16 rfl (by decide) rfl ?_
  have lp_17 : ∀ (n_ : Nat) (i : Int) (z : Int) (K : Nat → Int → Int), (0 ≤ i ∧ i ≤ 256) → (z = zq i.toNat) → (∀ a j, a ≠ 43 → K a j = hI h a j) → (∀ k : Nat, k < i.toNat → K 43 (rvF (k : Int) 8) = rt (rvF (k : Int) 8)) → (∀ j, ¬ (0 ≤ j ∧ j < 256) → K 43 j = 0) → ((256 - i).toNat) = n_ → AW l G M_Ri_init P 17 [(3, vi i), (1, vl z), (0, vr 42)] [] (sD h K (hL h)) := by
    intro n_
    induction n_ using Nat.strongRecOn with
    | _ n_ ih_17 =>
    intro i z K hi hz fK gK oK hm_17
    refine aw_iload_n d_Ri_init_17 rfl rfl ?_
    refine aw_sipush d_Ri_init_18 ⟨by decide, by decide⟩ (by decide) ?_
    refine aw_icmp_ge (tgt := 51) d_Ri_init_21 (by decide) (fun c_21 => ?_) (fun c_21 => ?_)
    · skip
      exact aw_vret d_Ri_init_51 rfl (hP _ (S.ring fK (fun j => by by_cases q : 0 ≤ j ∧ j < 256; exact (by have y := rv_d j.toNat (by omega); rw [Int.toNat_of_nonneg q.1] at y; have y2 := gK (rvF j 8).toNat (by omega); rw [Int.toNat_of_nonneg y.1.1, y.2] at y2; exact y2); exact (by rw [oK j q]; unfold rt; rw [if_neg q])) (by decide)))
    · skip
      refine aw_aload_n d_Ri_init_24 rfl rfl ?_
      refine ax_getR (b := 43) d_Ri_init_25 fd_Ri_9 ((S.kk 42 (by decide)).trans (by decide +kernel)) (S.ev 29 (by decide) _ (by decide +kernel : tEv[29]? = some (42, 0, 43))).1 ?_
      refine aw_iload_n d_Ri_init_28 rfl rfl ?_
      refine ax_S (st := [vr 43]) (as := [vi i]) (v := some (vi (rvF i 8))) (h' := sD h K (hL h)) d_Ri_init_29 cs_Ri_init_29 (c_Ri_reversed) rfl rfl rfl ?_
      show AW l G M_Ri_init P 32 [(3, vi i), (1, vl z), (0, vr 42)] [vi (rvF i 8), vr 43] (sD h K (hL h))
      have rb := rv_b (i := i) (by omega)
      have zb := zq_b i.toNat
      refine aw_lload_n d_Ri_init_32 rfl rfl ?_
      refine ax_l2i d_Ri_init_33 ⟨(by omega), (by omega)⟩ ?_
      refine ax_iast d_Ri_init_34 ((S.kk 43 (by decide)).trans (by decide +kernel)) (by decide) (by omega) (by show _ < hN h 43; rw [S.nn 43 (by decide) (by decide), show tN 43 = 256 by decide +kernel]; omega) ?_
      refine aw_lload_n d_Ri_init_35 rfl rfl ?_
      refine aw_ldc2 (n := 1753) d_Ri_init_36 lc_Ri_17 ⟨by decide, by decide⟩ ?_
      refine ax_lmul d_Ri_init_39 ⟨(by omega), (by omega)⟩ ?_
      refine aw_ldc2 (n := 8380417) d_Ri_init_40 lc_Ri_19 ⟨by decide, by decide⟩ ?_
      refine ax_lrem d_Ri_init_43 (by omega) (by omega) ?_
      refine aw_lstore_n (lv' := [(1, vl ((z * 1753) % 8380417)), (3, vi i), (0, vr 42)]) d_Ri_init_44 rfl (by decide) rfl ?_
      refine ax_iinc (lv' := [(3, vi (i + 1)), (1, vl ((z * 1753) % 8380417)), (0, vr 42)]) d_Ri_init_45 rfl (by decide) ⟨(by omega), (by omega)⟩ rfl ?_
      refine aw_goto (tgt := 17) d_Ri_init_48 (by decide) ?_
      exact ih_17 _ (by omega) (i + 1) ((z * 1753) % 8380417) (a_up K 43 (rvF i 8) z) (by omega) (by rw [show (i + 1).toNat = i.toNat + 1 by omega, hz]; rfl) (fun a j q => (a_up_ne (Or.inl q)).trans (fK a j q)) (fun k hk => by by_cases e : rvF (k : Int) 8 = rvF i 8; exact (by rw [e, a_up_at, hz, ← rv_z i.toNat (by omega), Int.toNat_of_nonneg hi.1]); exact (by rw [a_up_ne (Or.inr e)]; by_cases y : k = i.toNat; exact absurd (by rw [y, Int.toNat_of_nonneg hi.1]) e; exact gK k (by omega))) (fun j q => (a_up_ne (Or.inr (fun e => q (by rw [e]; exact rb)))).trans (oK j q)) rfl
  skip
  exact lp_17 _ 0 1 (hI h) (by omega) (rfl) (fun _ _ _ => rfl) (fun k hk => absurd hk (by omega)) (fun j _ => z43 j) rfl
set_option maxHeartbeats 2000000 in
set_option maxRecDepth 100000 in
theorem c_Be_init {l : Launch} {G : a_G} {h : Hp} {N : Int} (E : Pt N 37 23 3 0 h) : AW l G M_Be_init (Ret (fun _ : Hp => none) (fun u => u) (fun u => Pt N 143 130 3 1 u)) 0 (a_ar 0 [vr 36]) [] h := by
  suffices key : ∀ P : a_R → Hp → Prop, (∀ u, Pt N 143 130 3 1 u → P (.inl none) u) → AW l G M_Be_init P 0 [(0, vr 36)] [] h from key _ (fun u q => ⟨u, rfl, rfl, q⟩)
  intro P hP
  refine aw_aload_n d_Be_init_0 rfl rfl ?_
  refine aw_objInit d_Be_init_1 ml_Be_3 (by decide) (by decide) ?_
  refine aw_aload_n d_Be_init_4 rfl rfl ?_
  refine pt_new (n' := 38) (ci := 8) E rfl d_Be_init_5 (by decide) nw_Be_9 (by decide) (by decide +kernel) (by decide +kernel) (fun h E => ?_)
  refine aw_dup d_Be_init_8 rfl ?_
  refine ax_Nr (st := [vr 37, vr 36]) (as := []) (b := 37) d_Be_init_9 cs_Be_init_9 (c_Sa_init E) rfl rfl rfl (fun h E => ?_)
  show AW l G M_Be_init P 12 [(0, vr 36)] [vr 37, vr 36] h
  refine pt_putR (k' := 28) E rfl d_Be_init_12 fd_Be_12 (by decide +kernel) (by decide) rfl rfl rfl (by decide +kernel) (fun h E => ?_)
  refine aw_aload_n d_Be_init_15 rfl rfl ?_
  refine aw_aload_n d_Be_init_16 rfl rfl ?_
  refine pt_getR (j := 27) (b := 37) E d_Be_init_17 fd_Be_12 (by decide +kernel) (by decide) (by decide) (by decide +kernel) ?_
  refine pt_getR (j := 26) (b := 38) E d_Be_init_20 fd_Be_18 (by decide +kernel) (by decide) (by decide) (by decide +kernel) ?_
  refine pt_putR (k' := 29) E rfl d_Be_init_23 fd_Be_22 (by decide +kernel) (by decide) rfl rfl rfl (by decide +kernel) (fun h E => ?_)
  refine aw_aload_n d_Be_init_26 rfl rfl ?_
  refine pt_new (n' := 43) (ci := 9) E rfl d_Be_init_27 (by decide) nw_Be_23 (by decide) (by decide +kernel) (by decide +kernel) (fun h E => ?_)
  refine aw_dup d_Be_init_30 rfl ?_
  refine ax_Ir (st := [vr 42, vr 36]) (as := []) (b := 42) d_Be_init_31 cs_Be_init_31 (c_Ri_init E) rfl rfl rfl (fun h E => ?_)
  show AW l G M_Be_init P 34 [(0, vr 36)] [vr 42, vr 36] h
  refine pt_putR (k' := 31) E rfl d_Be_init_34 fd_Be_26 (by decide +kernel) (by decide) rfl rfl rfl (by decide +kernel) (fun h E => ?_)
  refine aw_aload_n d_Be_init_37 rfl rfl ?_
  refine aw_bipush d_Be_init_38 ⟨by decide, by decide⟩ (by decide) ?_
  refine aw_sipush d_Be_init_40 ⟨by decide, by decide⟩ (by decide) ?_
  refine pt_mna (n' := 101) (k' := 87) (q := 5) (r := 1) E rfl rfl d_Be_init_43 (by decide) nm_Be_30 ao_1 ac_1 (by decide) (by decide) (by decide) (by decide +kernel) (by decide +kernel) (by decide +kernel) (by decide +kernel) (by decide +kernel) (fun h E => ?_)
  refine pt_putR (k' := 88) E rfl d_Be_init_47 fd_Be_32 (by decide +kernel) (by decide) rfl rfl rfl (by decide +kernel) (fun h E => ?_)
  refine aw_aload_n d_Be_init_50 rfl rfl ?_
  refine aw_bipush d_Be_init_51 ⟨by decide, by decide⟩ (by decide) ?_
  refine aw_sipush d_Be_init_53 ⟨by decide, by decide⟩ (by decide) ?_
  refine pt_mna (n' := 109) (k' := 95) (q := 5) (r := 1) E rfl rfl d_Be_init_56 (by decide) nm_Be_30 ao_1 ac_1 (by decide) (by decide) (by decide) (by decide +kernel) (by decide +kernel) (by decide +kernel) (by decide +kernel) (by decide +kernel) (fun h E => ?_)
  refine pt_putR (k' := 96) E rfl d_Be_init_60 fd_Be_35 (by decide +kernel) (by decide) rfl rfl rfl (by decide +kernel) (fun h E => ?_)
  refine aw_aload_n d_Be_init_63 rfl rfl ?_
  refine aw_bipush d_Be_init_64 ⟨by decide, by decide⟩ (by decide) ?_
  refine aw_sipush d_Be_init_66 ⟨by decide, by decide⟩ (by decide) ?_
  refine pt_mna (n' := 118) (k' := 104) (q := 5) (r := 1) E rfl rfl d_Be_init_69 (by decide) nm_Be_30 ao_1 ac_1 (by decide) (by decide) (by decide) (by decide +kernel) (by decide +kernel) (by decide +kernel) (by decide +kernel) (by decide +kernel) (fun h E => ?_)
  refine pt_putR (k' := 105) E rfl d_Be_init_73 fd_Be_38 (by decide +kernel) (by decide) rfl rfl rfl (by decide +kernel) (fun h E => ?_)
  refine aw_aload_n d_Be_init_76 rfl rfl ?_
  refine aw_bipush d_Be_init_77 ⟨by decide, by decide⟩ (by decide) ?_
  refine aw_sipush d_Be_init_79 ⟨by decide, by decide⟩ (by decide) ?_
  refine pt_mna (n' := 126) (k' := 112) (q := 5) (r := 1) E rfl rfl d_Be_init_82 (by decide) nm_Be_30 ao_1 ac_1 (by decide) (by decide) (by decide) (by decide +kernel) (by decide +kernel) (by decide +kernel) (by decide +kernel) (by decide +kernel) (fun h E => ?_)
  refine pt_putR (k' := 113) E rfl d_Be_init_86 fd_Be_41 (by decide +kernel) (by decide) rfl rfl rfl (by decide +kernel) (fun h E => ?_)
  refine aw_aload_n d_Be_init_89 rfl rfl ?_
  refine aw_bipush d_Be_init_90 ⟨by decide, by decide⟩ (by decide) ?_
  refine aw_sipush d_Be_init_92 ⟨by decide, by decide⟩ (by decide) ?_
  refine pt_mna (n' := 135) (k' := 121) (q := 5) (r := 1) E rfl rfl d_Be_init_95 (by decide) nm_Be_30 ao_1 ac_1 (by decide) (by decide) (by decide) (by decide +kernel) (by decide +kernel) (by decide +kernel) (by decide +kernel) (by decide +kernel) (fun h E => ?_)
  refine pt_putR (k' := 122) E rfl d_Be_init_99 fd_Be_44 (by decide +kernel) (by decide) rfl rfl rfl (by decide +kernel) (fun h E => ?_)
  refine aw_aload_n d_Be_init_102 rfl rfl ?_
  refine aw_sipush d_Be_init_103 ⟨by decide, by decide⟩ (by decide) ?_
  refine pt_newa (n' := 136) (q := 1) E rfl d_Be_init_106 (by decide) rfl ac_1 (by decide) (by decide) (by decide) (by decide +kernel) (by decide +kernel) (fun h E => ?_)
  refine pt_putR (k' := 123) E rfl d_Be_init_108 fd_Be_47 (by decide +kernel) (by decide) rfl rfl rfl (by decide +kernel) (fun h E => ?_)
  refine aw_aload_n d_Be_init_111 rfl rfl ?_
  refine aw_sipush d_Be_init_112 ⟨by decide, by decide⟩ (by decide) ?_
  refine pt_newa (n' := 137) (q := 1) E rfl d_Be_init_115 (by decide) rfl ac_1 (by decide) (by decide) (by decide) (by decide +kernel) (by decide +kernel) (fun h E => ?_)
  refine pt_putR (k' := 124) E rfl d_Be_init_117 fd_Be_51 (by decide +kernel) (by decide) rfl rfl rfl (by decide +kernel) (fun h E => ?_)
  refine aw_aload_n d_Be_init_120 rfl rfl ?_
  refine pt_new (n' := 138) (ci := 1) E rfl d_Be_init_121 (by decide) nw_Be_54 (by decide) (by decide +kernel) (by decide +kernel) (fun h E => ?_)
  refine aw_dup d_Be_init_124 rfl ?_
  refine aw_bipush d_Be_init_125 ⟨by decide, by decide⟩ (by decide) ?_
  refine ax_Ir (st := [vr 137, vr 36]) (as := [vi 64]) (b := 137) d_Be_init_127 cs_Be_init_127 (c_By_init (n := 137) (n2 := 139) (k2 := 125) E rfl rfl rfl (by decide) (by decide +kernel) (by decide +kernel) (by decide +kernel) (by decide) (by decide +kernel) (by decide)) rfl rfl rfl (fun h E => ?_)
  show AW l G M_Be_init P 130 [(0, vr 36)] [vr 137, vr 36] h
  refine pt_putR (k' := 126) E rfl d_Be_init_130 fd_Be_59 (by decide +kernel) (by decide) rfl rfl rfl (by decide +kernel) (fun h E => ?_)
  refine aw_aload_n d_Be_init_133 rfl rfl ?_
  refine pt_new (n' := 140) (ci := 1) E rfl d_Be_init_134 (by decide) nw_Be_54 (by decide) (by decide +kernel) (by decide +kernel) (fun h E => ?_)
  refine aw_dup d_Be_init_137 rfl ?_
  refine aw_bipush d_Be_init_138 ⟨by decide, by decide⟩ (by decide) ?_
  refine ax_Ir (st := [vr 139, vr 36]) (as := [vi 64]) (b := 139) d_Be_init_140 cs_Be_init_140 (c_By_init (n := 139) (n2 := 141) (k2 := 127) E rfl rfl rfl (by decide) (by decide +kernel) (by decide +kernel) (by decide +kernel) (by decide) (by decide +kernel) (by decide)) rfl rfl rfl (fun h E => ?_)
  show AW l G M_Be_init P 143 [(0, vr 36)] [vr 139, vr 36] h
  refine pt_putR (k' := 128) E rfl d_Be_init_143 fd_Be_63 (by decide +kernel) (by decide) rfl rfl rfl (by decide +kernel) (fun h E => ?_)
  refine aw_aload_n d_Be_init_146 rfl rfl ?_
  refine pt_new (n' := 142) (ci := 1) E rfl d_Be_init_147 (by decide) nw_Be_54 (by decide) (by decide +kernel) (by decide +kernel) (fun h E => ?_)
  refine aw_dup d_Be_init_150 rfl ?_
  refine aw_sipush d_Be_init_151 ⟨by decide, by decide⟩ (by decide) ?_
  refine ax_Ir (st := [vr 141, vr 36]) (as := [vi 1024]) (b := 141) d_Be_init_154 cs_Be_init_154 (c_By_init (n := 141) (n2 := 143) (k2 := 129) E rfl rfl rfl (by decide) (by decide +kernel) (by decide +kernel) (by decide +kernel) (by decide) (by decide +kernel) (by decide)) rfl rfl rfl (fun h E => ?_)
  show AW l G M_Be_init P 157 [(0, vr 36)] [vr 141, vr 36] h
  refine pt_putR (k' := 130) E rfl d_Be_init_157 fd_Be_66 (by decide +kernel) (by decide) rfl rfl rfl (by decide +kernel) (fun h E => ?_)
  exact aw_vret d_Be_init_160 rfl (hP _ E)
set_option maxHeartbeats 2000000 in
set_option maxRecDepth 100000 in
theorem c_KM_init {l : Launch} {G : a_G} {h : Hp} {N : Int} (E : Pt N 144 130 3 1 h) : AW l G M_KM_init (Ret (fun _ : Hp => none) (fun u => u) (fun u => Pt N 146 133 3 1 u)) 0 (a_ar 0 [vr 143, vr 36]) [] h := by
  suffices key : ∀ P : a_R → Hp → Prop, (∀ u, Pt N 146 133 3 1 u → P (.inl none) u) → AW l G M_KM_init P 0 [(0, vr 143), (1, vr 36)] [] h from key _ (fun u q => ⟨u, rfl, rfl, q⟩)
  intro P hP
  refine aw_aload_n d_KM_init_0 rfl rfl ?_
  refine aw_objInit d_KM_init_1 ml_KM_3 (by decide) (by decide) ?_
  refine aw_aload_n d_KM_init_4 rfl rfl ?_
  refine pt_new (n' := 145) (ci := 1) E rfl d_KM_init_5 (by decide) nw_KM_9 (by decide) (by decide +kernel) (by decide +kernel) (fun h E => ?_)
  refine aw_dup d_KM_init_8 rfl ?_
  refine aw_sipush d_KM_init_9 ⟨by decide, by decide⟩ (by decide) ?_
  refine ax_Ir (st := [vr 144, vr 143]) (as := [vi 128]) (b := 144) d_KM_init_12 cs_KM_init_12 (c_By_init (n := 144) (n2 := 146) (k2 := 131) E rfl rfl rfl (by decide) (by decide +kernel) (by decide +kernel) (by decide +kernel) (by decide) (by decide +kernel) (by decide)) rfl rfl rfl (fun h E => ?_)
  show AW l G M_KM_init P 15 [(0, vr 143), (1, vr 36)] [vr 144, vr 143] h
  refine pt_putR (k' := 132) E rfl d_KM_init_15 fd_KM_16 (by decide +kernel) (by decide) rfl rfl rfl (by decide +kernel) (fun h E => ?_)
  refine aw_aload_n d_KM_init_18 rfl rfl ?_
  refine aw_aload_n d_KM_init_19 rfl rfl ?_
  refine pt_putR (k' := 133) E rfl d_KM_init_20 fd_KM_20 (by decide +kernel) (by decide) rfl rfl rfl (by decide +kernel) (fun h E => ?_)
  exact aw_vret d_KM_init_23 rfl (hP _ E)
set_option maxHeartbeats 2000000 in
set_option maxRecDepth 100000 in
theorem c_Si_init {l : Launch} {G : a_G} {h : Hp} {N : Int} (E : Pt N 147 134 3 1 h) : AW l G M_Si_init (Ret (fun _ : Hp => none) (fun u => u) (fun u => Pt N 170 158 3 1 u)) 0 (a_ar 0 [vr 146, vr 36]) [] h := by
  suffices key : ∀ P : a_R → Hp → Prop, (∀ u, Pt N 170 158 3 1 u → P (.inl none) u) → AW l G M_Si_init P 0 [(0, vr 146), (1, vr 36)] [] h from key _ (fun u q => ⟨u, rfl, rfl, q⟩)
  intro P hP
  refine aw_aload_n d_Si_init_0 rfl rfl ?_
  refine aw_objInit d_Si_init_1 ml_Si_3 (by decide) (by decide) ?_
  refine aw_aload_n d_Si_init_4 rfl rfl ?_
  refine aw_bipush d_Si_init_5 ⟨by decide, by decide⟩ (by decide) ?_
  refine aw_sipush d_Si_init_7 ⟨by decide, by decide⟩ (by decide) ?_
  refine pt_mna (n' := 156) (k' := 142) (q := 5) (r := 1) E rfl rfl d_Si_init_10 (by decide) nm_Si_13 ao_1 ac_1 (by decide) (by decide) (by decide) (by decide +kernel) (by decide +kernel) (by decide +kernel) (by decide +kernel) (by decide +kernel) (fun h E => ?_)
  refine pt_putR (k' := 143) E rfl d_Si_init_14 fd_Si_15 (by decide +kernel) (by decide) rfl rfl rfl (by decide +kernel) (fun h E => ?_)
  refine aw_aload_n d_Si_init_17 rfl rfl ?_
  refine aw_bipush d_Si_init_18 ⟨by decide, by decide⟩ (by decide) ?_
  refine aw_sipush d_Si_init_20 ⟨by decide, by decide⟩ (by decide) ?_
  refine pt_mna (n' := 164) (k' := 150) (q := 5) (r := 1) E rfl rfl d_Si_init_23 (by decide) nm_Si_13 ao_1 ac_1 (by decide) (by decide) (by decide) (by decide +kernel) (by decide +kernel) (by decide +kernel) (by decide +kernel) (by decide +kernel) (fun h E => ?_)
  refine pt_putR (k' := 151) E rfl d_Si_init_27 fd_Si_20 (by decide +kernel) (by decide) rfl rfl rfl (by decide +kernel) (fun h E => ?_)
  refine aw_aload_n d_Si_init_30 rfl rfl ?_
  refine pt_new (n' := 165) (ci := 1) E rfl d_Si_init_31 (by decide) nw_Si_23 (by decide) (by decide +kernel) (by decide +kernel) (fun h E => ?_)
  refine aw_dup d_Si_init_34 rfl ?_
  refine aw_bipush d_Si_init_35 ⟨by decide, by decide⟩ (by decide) ?_
  refine ax_Ir (st := [vr 164, vr 146]) (as := [vi 64]) (b := 164) d_Si_init_37 cs_Si_init_37 (c_By_init (n := 164) (n2 := 166) (k2 := 152) E rfl rfl rfl (by decide) (by decide +kernel) (by decide +kernel) (by decide +kernel) (by decide) (by decide +kernel) (by decide)) rfl rfl rfl (fun h E => ?_)
  show AW l G M_Si_init P 40 [(0, vr 146), (1, vr 36)] [vr 164, vr 146] h
  refine pt_putR (k' := 153) E rfl d_Si_init_40 fd_Si_28 (by decide +kernel) (by decide) rfl rfl rfl (by decide +kernel) (fun h E => ?_)
  refine aw_aload_n d_Si_init_43 rfl rfl ?_
  refine pt_new (n' := 167) (ci := 1) E rfl d_Si_init_44 (by decide) nw_Si_23 (by decide) (by decide +kernel) (by decide +kernel) (fun h E => ?_)
  refine aw_dup d_Si_init_47 rfl ?_
  refine aw_bipush d_Si_init_48 ⟨by decide, by decide⟩ (by decide) ?_
  refine ax_Ir (st := [vr 166, vr 146]) (as := [vi 80]) (b := 166) d_Si_init_50 cs_Si_init_50 (c_By_init (n := 166) (n2 := 168) (k2 := 154) E rfl rfl rfl (by decide) (by decide +kernel) (by decide +kernel) (by decide +kernel) (by decide) (by decide +kernel) (by decide)) rfl rfl rfl (fun h E => ?_)
  show AW l G M_Si_init P 53 [(0, vr 146), (1, vr 36)] [vr 166, vr 146] h
  refine pt_putR (k' := 155) E rfl d_Si_init_53 fd_Si_32 (by decide +kernel) (by decide) rfl rfl rfl (by decide +kernel) (fun h E => ?_)
  refine aw_aload_n d_Si_init_56 rfl rfl ?_
  refine pt_new (n' := 169) (ci := 1) E rfl d_Si_init_57 (by decide) nw_Si_23 (by decide) (by decide +kernel) (by decide +kernel) (fun h E => ?_)
  refine aw_dup d_Si_init_60 rfl ?_
  refine aw_bipush d_Si_init_61 ⟨by decide, by decide⟩ (by decide) ?_
  refine ax_Ir (st := [vr 168, vr 146]) (as := [vi 8]) (b := 168) d_Si_init_63 cs_Si_init_63 (c_By_init (n := 168) (n2 := 170) (k2 := 156) E rfl rfl rfl (by decide) (by decide +kernel) (by decide +kernel) (by decide +kernel) (by decide) (by decide +kernel) (by decide)) rfl rfl rfl (fun h E => ?_)
  show AW l G M_Si_init P 66 [(0, vr 146), (1, vr 36)] [vr 168, vr 146] h
  refine pt_putR (k' := 157) E rfl d_Si_init_66 fd_Si_35 (by decide +kernel) (by decide) rfl rfl rfl (by decide +kernel) (fun h E => ?_)
  refine aw_aload_n d_Si_init_69 rfl rfl ?_
  refine aw_aload_n d_Si_init_70 rfl rfl ?_
  refine pt_putR (k' := 158) E rfl d_Si_init_71 fd_Si_38 (by decide +kernel) (by decide) rfl rfl rfl (by decide +kernel) (fun h E => ?_)
  exact aw_vret d_Si_init_74 rfl (hP _ E)
set_option maxHeartbeats 2000000 in
set_option maxRecDepth 100000 in
theorem c_Ve_init {l : Launch} {G : a_G} {h : Hp} {N : Int} (E : Pt N 171 159 3 1 h) : AW l G M_Ve_init (Ret (fun _ : Hp => none) (fun u => u) (fun u => Pt N 175 164 3 1 u)) 0 (a_ar 0 [vr 170, vr 36]) [] h := by
  suffices key : ∀ P : a_R → Hp → Prop, (∀ u, Pt N 175 164 3 1 u → P (.inl none) u) → AW l G M_Ve_init P 0 [(0, vr 170), (1, vr 36)] [] h from key _ (fun u q => ⟨u, rfl, rfl, q⟩)
  intro P hP
  refine aw_aload_n d_Ve_init_0 rfl rfl ?_
  refine aw_objInit d_Ve_init_1 ml_Ve_3 (by decide) (by decide) ?_
  refine aw_aload_n d_Ve_init_4 rfl rfl ?_
  refine pt_new (n' := 172) (ci := 1) E rfl d_Ve_init_5 (by decide) nw_Ve_9 (by decide) (by decide +kernel) (by decide +kernel) (fun h E => ?_)
  refine aw_dup d_Ve_init_8 rfl ?_
  refine aw_bipush d_Ve_init_9 ⟨by decide, by decide⟩ (by decide) ?_
  refine ax_Ir (st := [vr 171, vr 170]) (as := [vi 64]) (b := 171) d_Ve_init_11 cs_Ve_init_11 (c_By_init (n := 171) (n2 := 173) (k2 := 160) E rfl rfl rfl (by decide) (by decide +kernel) (by decide +kernel) (by decide +kernel) (by decide) (by decide +kernel) (by decide)) rfl rfl rfl (fun h E => ?_)
  show AW l G M_Ve_init P 14 [(0, vr 170), (1, vr 36)] [vr 171, vr 170] h
  refine pt_putR (k' := 161) E rfl d_Ve_init_14 fd_Ve_14 (by decide +kernel) (by decide) rfl rfl rfl (by decide +kernel) (fun h E => ?_)
  refine aw_aload_n d_Ve_init_17 rfl rfl ?_
  refine pt_new (n' := 174) (ci := 1) E rfl d_Ve_init_18 (by decide) nw_Ve_9 (by decide) (by decide +kernel) (by decide +kernel) (fun h E => ?_)
  refine aw_dup d_Ve_init_21 rfl ?_
  refine aw_bipush d_Ve_init_22 ⟨by decide, by decide⟩ (by decide) ?_
  refine ax_Ir (st := [vr 173, vr 170]) (as := [vi 64]) (b := 173) d_Ve_init_24 cs_Ve_init_24 (c_By_init (n := 173) (n2 := 175) (k2 := 162) E rfl rfl rfl (by decide) (by decide +kernel) (by decide +kernel) (by decide +kernel) (by decide) (by decide +kernel) (by decide)) rfl rfl rfl (fun h E => ?_)
  show AW l G M_Ve_init P 27 [(0, vr 170), (1, vr 36)] [vr 173, vr 170] h
  refine pt_putR (k' := 163) E rfl d_Ve_init_27 fd_Ve_20 (by decide +kernel) (by decide) rfl rfl rfl (by decide +kernel) (fun h E => ?_)
  refine aw_aload_n d_Ve_init_30 rfl rfl ?_
  refine aw_aload_n d_Ve_init_31 rfl rfl ?_
  refine pt_putR (k' := 164) E rfl d_Ve_init_32 fd_Ve_23 (by decide +kernel) (by decide) rfl rfl rfl (by decide +kernel) (fun h E => ?_)
  exact aw_vret d_Ve_init_35 rfl (hP _ E)
set_option maxHeartbeats 2000000 in
set_option maxRecDepth 100000 in
theorem c_MS_init {l : Launch} {G : a_G} {h : Hp} {N : Int} (E : Pt N 13 0 0 0 h) : AW l G M_MS_init (Ret (fun _ : Hp => none) (fun u => u) (fun u => Pt N 175 165 3 1 u)) 0 (a_ar 0 [vr 12]) [] h := by
  suffices key : ∀ P : a_R → Hp → Prop, (∀ u, Pt N 175 165 3 1 u → P (.inl none) u) → AW l G M_MS_init P 0 [(0, vr 12)] [] h from key _ (fun u q => ⟨u, rfl, rfl, q⟩)
  intro P hP
  refine aw_aload_n d_MS_init_0 rfl rfl ?_
  refine aw_objInit d_MS_init_1 ml_MS_1 (by decide) (by decide) ?_
  refine aw_aload_n d_MS_init_4 rfl rfl ?_
  refine aw_bipush d_MS_init_5 ⟨by decide, by decide⟩ (by decide) ?_
  refine pt_anew (n' := 14) (q := 8) E rfl d_MS_init_7 "ModuleSigner$Bytes" (by decide) rfl nw_MS_9 ao_8 (by decide) (by decide) (by decide) (by decide +kernel) (by decide +kernel) (fun h E => ?_)
  refine pt_putR (k' := 1) E rfl d_MS_init_10 fd_MS_11 (by decide +kernel) (by decide) rfl rfl rfl (by decide +kernel) (fun h E => ?_)
  refine aw_iconst d_MS_init_13 ⟨by decide, by decide⟩ ?_
  refine aw_istore_n (lv' := [(1, vi 0), (0, vr 12)]) d_MS_init_14 rfl (by decide) rfl ?_
  refine aw_iload_n d_MS_init_15 rfl rfl ?_
  refine aw_bipush d_MS_init_16 ⟨by decide, by decide⟩ (by decide) ?_
  refine aw_icmp_ge (tgt := 43) d_MS_init_18 (by decide) (fun c_18 => False.elim (by omega)) (fun c_18 => ?_)
  refine aw_aload_n d_MS_init_21 rfl rfl ?_
  refine pt_getR (j := 0) (b := 13) E d_MS_init_22 fd_MS_11 (by decide +kernel) (by decide) (by decide) (by decide +kernel) ?_
  refine aw_iload_n d_MS_init_25 rfl rfl ?_
  refine pt_new (n' := 15) (ci := 1) E rfl d_MS_init_26 (by decide) nw_MS_9 (by decide) (by decide +kernel) (by decide +kernel) (fun h E => ?_)
  refine aw_dup d_MS_init_29 rfl ?_
  refine aw_sipush d_MS_init_30 ⟨by decide, by decide⟩ (by decide) ?_
  refine ax_Ir (st := [vr 14, vi 0, vr 13]) (as := [vi 8192]) (b := 14) d_MS_init_33 cs_MS_init_33 (c_By_init (n := 14) (n2 := 16) (k2 := 2) E rfl rfl rfl (by decide) (by decide +kernel) (by decide +kernel) (by decide +kernel) (by decide) (by decide +kernel) (by decide)) rfl rfl rfl (fun h E => ?_)
  show AW l G M_MS_init P 36 [(1, vi 0), (0, vr 12)] [vr 14, vi 0, vr 13] h
  refine pt_aast (k' := 3) (ci := 1) E rfl d_MS_init_36 (by decide +kernel) (by decide +kernel) (by decide) (by decide) (by decide) (by decide +kernel) (by decide +kernel) (fun h E => ?_)
  refine ax_iinc (lv' := [(1, vi 1), (0, vr 12)]) d_MS_init_37 rfl (by decide) ⟨(by omega), (by omega)⟩ rfl ?_
  refine aw_goto (tgt := 15) d_MS_init_40 (by decide) ?_
  refine aw_iload_n d_MS_init_15 rfl rfl ?_
  refine aw_bipush d_MS_init_16 ⟨by decide, by decide⟩ (by decide) ?_
  refine aw_icmp_ge (tgt := 43) d_MS_init_18 (by decide) (fun c_18 => False.elim (by omega)) (fun c_18 => ?_)
  refine aw_aload_n d_MS_init_21 rfl rfl ?_
  refine pt_getR (j := 0) (b := 13) E d_MS_init_22 fd_MS_11 (by decide +kernel) (by decide) (by decide) (by decide +kernel) ?_
  refine aw_iload_n d_MS_init_25 rfl rfl ?_
  refine pt_new (n' := 17) (ci := 1) E rfl d_MS_init_26 (by decide) nw_MS_9 (by decide) (by decide +kernel) (by decide +kernel) (fun h E => ?_)
  refine aw_dup d_MS_init_29 rfl ?_
  refine aw_sipush d_MS_init_30 ⟨by decide, by decide⟩ (by decide) ?_
  refine ax_Ir (st := [vr 16, vi 1, vr 13]) (as := [vi 8192]) (b := 16) d_MS_init_33 cs_MS_init_33 (c_By_init (n := 16) (n2 := 18) (k2 := 4) E rfl rfl rfl (by decide) (by decide +kernel) (by decide +kernel) (by decide +kernel) (by decide) (by decide +kernel) (by decide)) rfl rfl rfl (fun h E => ?_)
  show AW l G M_MS_init P 36 [(1, vi 1), (0, vr 12)] [vr 16, vi 1, vr 13] h
  refine pt_aast (k' := 5) (ci := 1) E rfl d_MS_init_36 (by decide +kernel) (by decide +kernel) (by decide) (by decide) (by decide) (by decide +kernel) (by decide +kernel) (fun h E => ?_)
  refine ax_iinc (lv' := [(1, vi 2), (0, vr 12)]) d_MS_init_37 rfl (by decide) ⟨(by omega), (by omega)⟩ rfl ?_
  refine aw_goto (tgt := 15) d_MS_init_40 (by decide) ?_
  refine aw_iload_n d_MS_init_15 rfl rfl ?_
  refine aw_bipush d_MS_init_16 ⟨by decide, by decide⟩ (by decide) ?_
  refine aw_icmp_ge (tgt := 43) d_MS_init_18 (by decide) (fun c_18 => False.elim (by omega)) (fun c_18 => ?_)
  refine aw_aload_n d_MS_init_21 rfl rfl ?_
  refine pt_getR (j := 0) (b := 13) E d_MS_init_22 fd_MS_11 (by decide +kernel) (by decide) (by decide) (by decide +kernel) ?_
  refine aw_iload_n d_MS_init_25 rfl rfl ?_
  refine pt_new (n' := 19) (ci := 1) E rfl d_MS_init_26 (by decide) nw_MS_9 (by decide) (by decide +kernel) (by decide +kernel) (fun h E => ?_)
  refine aw_dup d_MS_init_29 rfl ?_
  refine aw_sipush d_MS_init_30 ⟨by decide, by decide⟩ (by decide) ?_
  refine ax_Ir (st := [vr 18, vi 2, vr 13]) (as := [vi 8192]) (b := 18) d_MS_init_33 cs_MS_init_33 (c_By_init (n := 18) (n2 := 20) (k2 := 6) E rfl rfl rfl (by decide) (by decide +kernel) (by decide +kernel) (by decide +kernel) (by decide) (by decide +kernel) (by decide)) rfl rfl rfl (fun h E => ?_)
  show AW l G M_MS_init P 36 [(1, vi 2), (0, vr 12)] [vr 18, vi 2, vr 13] h
  refine pt_aast (k' := 7) (ci := 1) E rfl d_MS_init_36 (by decide +kernel) (by decide +kernel) (by decide) (by decide) (by decide) (by decide +kernel) (by decide +kernel) (fun h E => ?_)
  refine ax_iinc (lv' := [(1, vi 3), (0, vr 12)]) d_MS_init_37 rfl (by decide) ⟨(by omega), (by omega)⟩ rfl ?_
  refine aw_goto (tgt := 15) d_MS_init_40 (by decide) ?_
  refine aw_iload_n d_MS_init_15 rfl rfl ?_
  refine aw_bipush d_MS_init_16 ⟨by decide, by decide⟩ (by decide) ?_
  refine aw_icmp_ge (tgt := 43) d_MS_init_18 (by decide) (fun c_18 => False.elim (by omega)) (fun c_18 => ?_)
  refine aw_aload_n d_MS_init_21 rfl rfl ?_
  refine pt_getR (j := 0) (b := 13) E d_MS_init_22 fd_MS_11 (by decide +kernel) (by decide) (by decide) (by decide +kernel) ?_
  refine aw_iload_n d_MS_init_25 rfl rfl ?_
  refine pt_new (n' := 21) (ci := 1) E rfl d_MS_init_26 (by decide) nw_MS_9 (by decide) (by decide +kernel) (by decide +kernel) (fun h E => ?_)
  refine aw_dup d_MS_init_29 rfl ?_
  refine aw_sipush d_MS_init_30 ⟨by decide, by decide⟩ (by decide) ?_
  refine ax_Ir (st := [vr 20, vi 3, vr 13]) (as := [vi 8192]) (b := 20) d_MS_init_33 cs_MS_init_33 (c_By_init (n := 20) (n2 := 22) (k2 := 8) E rfl rfl rfl (by decide) (by decide +kernel) (by decide +kernel) (by decide +kernel) (by decide) (by decide +kernel) (by decide)) rfl rfl rfl (fun h E => ?_)
  show AW l G M_MS_init P 36 [(1, vi 3), (0, vr 12)] [vr 20, vi 3, vr 13] h
  refine pt_aast (k' := 9) (ci := 1) E rfl d_MS_init_36 (by decide +kernel) (by decide +kernel) (by decide) (by decide) (by decide) (by decide +kernel) (by decide +kernel) (fun h E => ?_)
  refine ax_iinc (lv' := [(1, vi 4), (0, vr 12)]) d_MS_init_37 rfl (by decide) ⟨(by omega), (by omega)⟩ rfl ?_
  refine aw_goto (tgt := 15) d_MS_init_40 (by decide) ?_
  refine aw_iload_n d_MS_init_15 rfl rfl ?_
  refine aw_bipush d_MS_init_16 ⟨by decide, by decide⟩ (by decide) ?_
  refine aw_icmp_ge (tgt := 43) d_MS_init_18 (by decide) (fun c_18 => False.elim (by omega)) (fun c_18 => ?_)
  refine aw_aload_n d_MS_init_21 rfl rfl ?_
  refine pt_getR (j := 0) (b := 13) E d_MS_init_22 fd_MS_11 (by decide +kernel) (by decide) (by decide) (by decide +kernel) ?_
  refine aw_iload_n d_MS_init_25 rfl rfl ?_
  refine pt_new (n' := 23) (ci := 1) E rfl d_MS_init_26 (by decide) nw_MS_9 (by decide) (by decide +kernel) (by decide +kernel) (fun h E => ?_)
  refine aw_dup d_MS_init_29 rfl ?_
  refine aw_sipush d_MS_init_30 ⟨by decide, by decide⟩ (by decide) ?_
  refine ax_Ir (st := [vr 22, vi 4, vr 13]) (as := [vi 8192]) (b := 22) d_MS_init_33 cs_MS_init_33 (c_By_init (n := 22) (n2 := 24) (k2 := 10) E rfl rfl rfl (by decide) (by decide +kernel) (by decide +kernel) (by decide +kernel) (by decide) (by decide +kernel) (by decide)) rfl rfl rfl (fun h E => ?_)
  show AW l G M_MS_init P 36 [(1, vi 4), (0, vr 12)] [vr 22, vi 4, vr 13] h
  refine pt_aast (k' := 11) (ci := 1) E rfl d_MS_init_36 (by decide +kernel) (by decide +kernel) (by decide) (by decide) (by decide) (by decide +kernel) (by decide +kernel) (fun h E => ?_)
  refine ax_iinc (lv' := [(1, vi 5), (0, vr 12)]) d_MS_init_37 rfl (by decide) ⟨(by omega), (by omega)⟩ rfl ?_
  refine aw_goto (tgt := 15) d_MS_init_40 (by decide) ?_
  refine aw_iload_n d_MS_init_15 rfl rfl ?_
  refine aw_bipush d_MS_init_16 ⟨by decide, by decide⟩ (by decide) ?_
  refine aw_icmp_ge (tgt := 43) d_MS_init_18 (by decide) (fun c_18 => False.elim (by omega)) (fun c_18 => ?_)
  refine aw_aload_n d_MS_init_21 rfl rfl ?_
  refine pt_getR (j := 0) (b := 13) E d_MS_init_22 fd_MS_11 (by decide +kernel) (by decide) (by decide) (by decide +kernel) ?_
  refine aw_iload_n d_MS_init_25 rfl rfl ?_
  refine pt_new (n' := 25) (ci := 1) E rfl d_MS_init_26 (by decide) nw_MS_9 (by decide) (by decide +kernel) (by decide +kernel) (fun h E => ?_)
  refine aw_dup d_MS_init_29 rfl ?_
  refine aw_sipush d_MS_init_30 ⟨by decide, by decide⟩ (by decide) ?_
  refine ax_Ir (st := [vr 24, vi 5, vr 13]) (as := [vi 8192]) (b := 24) d_MS_init_33 cs_MS_init_33 (c_By_init (n := 24) (n2 := 26) (k2 := 12) E rfl rfl rfl (by decide) (by decide +kernel) (by decide +kernel) (by decide +kernel) (by decide) (by decide +kernel) (by decide)) rfl rfl rfl (fun h E => ?_)
  show AW l G M_MS_init P 36 [(1, vi 5), (0, vr 12)] [vr 24, vi 5, vr 13] h
  refine pt_aast (k' := 13) (ci := 1) E rfl d_MS_init_36 (by decide +kernel) (by decide +kernel) (by decide) (by decide) (by decide) (by decide +kernel) (by decide +kernel) (fun h E => ?_)
  refine ax_iinc (lv' := [(1, vi 6), (0, vr 12)]) d_MS_init_37 rfl (by decide) ⟨(by omega), (by omega)⟩ rfl ?_
  refine aw_goto (tgt := 15) d_MS_init_40 (by decide) ?_
  refine aw_iload_n d_MS_init_15 rfl rfl ?_
  refine aw_bipush d_MS_init_16 ⟨by decide, by decide⟩ (by decide) ?_
  refine aw_icmp_ge (tgt := 43) d_MS_init_18 (by decide) (fun c_18 => False.elim (by omega)) (fun c_18 => ?_)
  refine aw_aload_n d_MS_init_21 rfl rfl ?_
  refine pt_getR (j := 0) (b := 13) E d_MS_init_22 fd_MS_11 (by decide +kernel) (by decide) (by decide) (by decide +kernel) ?_
  refine aw_iload_n d_MS_init_25 rfl rfl ?_
  refine pt_new (n' := 27) (ci := 1) E rfl d_MS_init_26 (by decide) nw_MS_9 (by decide) (by decide +kernel) (by decide +kernel) (fun h E => ?_)
  refine aw_dup d_MS_init_29 rfl ?_
  refine aw_sipush d_MS_init_30 ⟨by decide, by decide⟩ (by decide) ?_
  refine ax_Ir (st := [vr 26, vi 6, vr 13]) (as := [vi 8192]) (b := 26) d_MS_init_33 cs_MS_init_33 (c_By_init (n := 26) (n2 := 28) (k2 := 14) E rfl rfl rfl (by decide) (by decide +kernel) (by decide +kernel) (by decide +kernel) (by decide) (by decide +kernel) (by decide)) rfl rfl rfl (fun h E => ?_)
  show AW l G M_MS_init P 36 [(1, vi 6), (0, vr 12)] [vr 26, vi 6, vr 13] h
  refine pt_aast (k' := 15) (ci := 1) E rfl d_MS_init_36 (by decide +kernel) (by decide +kernel) (by decide) (by decide) (by decide) (by decide +kernel) (by decide +kernel) (fun h E => ?_)
  refine ax_iinc (lv' := [(1, vi 7), (0, vr 12)]) d_MS_init_37 rfl (by decide) ⟨(by omega), (by omega)⟩ rfl ?_
  refine aw_goto (tgt := 15) d_MS_init_40 (by decide) ?_
  refine aw_iload_n d_MS_init_15 rfl rfl ?_
  refine aw_bipush d_MS_init_16 ⟨by decide, by decide⟩ (by decide) ?_
  refine aw_icmp_ge (tgt := 43) d_MS_init_18 (by decide) (fun c_18 => False.elim (by omega)) (fun c_18 => ?_)
  refine aw_aload_n d_MS_init_21 rfl rfl ?_
  refine pt_getR (j := 0) (b := 13) E d_MS_init_22 fd_MS_11 (by decide +kernel) (by decide) (by decide) (by decide +kernel) ?_
  refine aw_iload_n d_MS_init_25 rfl rfl ?_
  refine pt_new (n' := 29) (ci := 1) E rfl d_MS_init_26 (by decide) nw_MS_9 (by decide) (by decide +kernel) (by decide +kernel) (fun h E => ?_)
  refine aw_dup d_MS_init_29 rfl ?_
  refine aw_sipush d_MS_init_30 ⟨by decide, by decide⟩ (by decide) ?_
  refine ax_Ir (st := [vr 28, vi 7, vr 13]) (as := [vi 8192]) (b := 28) d_MS_init_33 cs_MS_init_33 (c_By_init (n := 28) (n2 := 30) (k2 := 16) E rfl rfl rfl (by decide) (by decide +kernel) (by decide +kernel) (by decide +kernel) (by decide) (by decide +kernel) (by decide)) rfl rfl rfl (fun h E => ?_)
  show AW l G M_MS_init P 36 [(1, vi 7), (0, vr 12)] [vr 28, vi 7, vr 13] h
  refine pt_aast (k' := 17) (ci := 1) E rfl d_MS_init_36 (by decide +kernel) (by decide +kernel) (by decide) (by decide) (by decide) (by decide +kernel) (by decide +kernel) (fun h E => ?_)
  refine ax_iinc (lv' := [(1, vi 8), (0, vr 12)]) d_MS_init_37 rfl (by decide) ⟨(by omega), (by omega)⟩ rfl ?_
  refine aw_goto (tgt := 15) d_MS_init_40 (by decide) ?_
  refine aw_iload_n d_MS_init_15 rfl rfl ?_
  refine aw_bipush d_MS_init_16 ⟨by decide, by decide⟩ (by decide) ?_
  refine aw_icmp_ge (tgt := 43) d_MS_init_18 (by decide) (fun c_18 => ?_) (fun c_18 => False.elim (by omega))
  refine aw_aload_n d_MS_init_43 rfl rfl ?_
  refine pt_new (n' := 31) (ci := 1) E rfl d_MS_init_44 (by decide) nw_MS_9 (by decide) (by decide +kernel) (by decide +kernel) (fun h E => ?_)
  refine aw_dup d_MS_init_47 rfl ?_
  refine aw_sipush d_MS_init_48 ⟨by decide, by decide⟩ (by decide) ?_
  refine ax_Ir (st := [vr 30, vr 12]) (as := [vi 8192]) (b := 30) d_MS_init_51 cs_MS_init_51 (c_By_init (n := 30) (n2 := 32) (k2 := 18) E rfl rfl rfl (by decide) (by decide +kernel) (by decide +kernel) (by decide +kernel) (by decide) (by decide +kernel) (by decide)) rfl rfl rfl (fun h E => ?_)
  show AW l G M_MS_init P 54 [(1, vi 8), (0, vr 12)] [vr 30, vr 12] h
  refine pt_putR (k' := 19) E rfl d_MS_init_54 fd_MS_18 (by decide +kernel) (by decide) rfl rfl rfl (by decide +kernel) (fun h E => ?_)
  refine aw_aload_n d_MS_init_57 rfl rfl ?_
  refine aw_iconst d_MS_init_58 ⟨by decide, by decide⟩ ?_
  refine pt_anew (n' := 33) (q := 9) E rfl d_MS_init_59 "ModuleSigner$Parameters" (by decide) rfl nw_MS_22 ao_9 (by decide) (by decide) (by decide) (by decide +kernel) (by decide +kernel) (fun h E => ?_)
  refine pt_putR (k' := 20) E rfl d_MS_init_62 fd_MS_24 (by decide +kernel) (by decide) rfl rfl rfl (by decide +kernel) (fun h E => ?_)
  refine aw_iconst d_MS_init_65 ⟨by decide, by decide⟩ ?_
  refine aw_istore_n (lv' := [(1, vi 0), (0, vr 12)]) d_MS_init_66 rfl (by decide) rfl ?_
  refine aw_iload_n d_MS_init_67 rfl rfl ?_
  refine aw_iconst d_MS_init_68 ⟨by decide, by decide⟩ ?_
  refine aw_icmp_ge (tgt := 92) d_MS_init_69 (by decide) (fun c_69 => False.elim (by omega)) (fun c_69 => ?_)
  refine aw_aload_n d_MS_init_72 rfl rfl ?_
  refine pt_getR (j := 19) (b := 32) E d_MS_init_73 fd_MS_24 (by decide +kernel) (by decide) (by decide) (by decide +kernel) ?_
  refine aw_iload_n d_MS_init_76 rfl rfl ?_
  refine pt_new (n' := 34) (ci := 2) E rfl d_MS_init_77 (by decide) nw_MS_22 (by decide) (by decide +kernel) (by decide +kernel) (fun h E => ?_)
  refine aw_dup d_MS_init_80 rfl ?_
  refine aw_iload_n d_MS_init_81 rfl rfl ?_
  refine ax_Ir (st := [vr 33, vi 0, vr 32]) (as := [vi 0]) (b := 33) d_MS_init_82 cs_MS_init_82 (c_Pa_init0 E) rfl rfl rfl (fun h E => ?_)
  show AW l G M_MS_init P 85 [(1, vi 0), (0, vr 12)] [vr 33, vi 0, vr 32] h
  refine pt_aast (k' := 21) (ci := 2) E rfl d_MS_init_85 (by decide +kernel) (by decide +kernel) (by decide) (by decide) (by decide) (by decide +kernel) (by decide +kernel) (fun h E => ?_)
  refine ax_iinc (lv' := [(1, vi 1), (0, vr 12)]) d_MS_init_86 rfl (by decide) ⟨(by omega), (by omega)⟩ rfl ?_
  refine aw_goto (tgt := 67) d_MS_init_89 (by decide) ?_
  refine aw_iload_n d_MS_init_67 rfl rfl ?_
  refine aw_iconst d_MS_init_68 ⟨by decide, by decide⟩ ?_
  refine aw_icmp_ge (tgt := 92) d_MS_init_69 (by decide) (fun c_69 => False.elim (by omega)) (fun c_69 => ?_)
  refine aw_aload_n d_MS_init_72 rfl rfl ?_
  refine pt_getR (j := 19) (b := 32) E d_MS_init_73 fd_MS_24 (by decide +kernel) (by decide) (by decide) (by decide +kernel) ?_
  refine aw_iload_n d_MS_init_76 rfl rfl ?_
  refine pt_new (n' := 35) (ci := 2) E rfl d_MS_init_77 (by decide) nw_MS_22 (by decide) (by decide +kernel) (by decide +kernel) (fun h E => ?_)
  refine aw_dup d_MS_init_80 rfl ?_
  refine aw_iload_n d_MS_init_81 rfl rfl ?_
  refine ax_Ir (st := [vr 34, vi 1, vr 32]) (as := [vi 1]) (b := 34) d_MS_init_82 cs_MS_init_82 (c_Pa_init1 E) rfl rfl rfl (fun h E => ?_)
  show AW l G M_MS_init P 85 [(1, vi 1), (0, vr 12)] [vr 34, vi 1, vr 32] h
  refine pt_aast (k' := 22) (ci := 2) E rfl d_MS_init_85 (by decide +kernel) (by decide +kernel) (by decide) (by decide) (by decide) (by decide +kernel) (by decide +kernel) (fun h E => ?_)
  refine ax_iinc (lv' := [(1, vi 2), (0, vr 12)]) d_MS_init_86 rfl (by decide) ⟨(by omega), (by omega)⟩ rfl ?_
  refine aw_goto (tgt := 67) d_MS_init_89 (by decide) ?_
  refine aw_iload_n d_MS_init_67 rfl rfl ?_
  refine aw_iconst d_MS_init_68 ⟨by decide, by decide⟩ ?_
  refine aw_icmp_ge (tgt := 92) d_MS_init_69 (by decide) (fun c_69 => False.elim (by omega)) (fun c_69 => ?_)
  refine aw_aload_n d_MS_init_72 rfl rfl ?_
  refine pt_getR (j := 19) (b := 32) E d_MS_init_73 fd_MS_24 (by decide +kernel) (by decide) (by decide) (by decide +kernel) ?_
  refine aw_iload_n d_MS_init_76 rfl rfl ?_
  refine pt_new (n' := 36) (ci := 2) E rfl d_MS_init_77 (by decide) nw_MS_22 (by decide) (by decide +kernel) (by decide +kernel) (fun h E => ?_)
  refine aw_dup d_MS_init_80 rfl ?_
  refine aw_iload_n d_MS_init_81 rfl rfl ?_
  refine ax_Ir (st := [vr 35, vi 2, vr 32]) (as := [vi 2]) (b := 35) d_MS_init_82 cs_MS_init_82 (c_Pa_init2 E) rfl rfl rfl (fun h E => ?_)
  show AW l G M_MS_init P 85 [(1, vi 2), (0, vr 12)] [vr 35, vi 2, vr 32] h
  refine pt_aast (k' := 23) (ci := 2) E rfl d_MS_init_85 (by decide +kernel) (by decide +kernel) (by decide) (by decide) (by decide) (by decide +kernel) (by decide +kernel) (fun h E => ?_)
  refine ax_iinc (lv' := [(1, vi 3), (0, vr 12)]) d_MS_init_86 rfl (by decide) ⟨(by omega), (by omega)⟩ rfl ?_
  refine aw_goto (tgt := 67) d_MS_init_89 (by decide) ?_
  refine aw_iload_n d_MS_init_67 rfl rfl ?_
  refine aw_iconst d_MS_init_68 ⟨by decide, by decide⟩ ?_
  refine aw_icmp_ge (tgt := 92) d_MS_init_69 (by decide) (fun c_69 => ?_) (fun c_69 => False.elim (by omega))
  refine pt_new (n' := 37) (ci := 3) E rfl d_MS_init_92 (by decide) nw_MS_29 (by decide) (by decide +kernel) (by decide +kernel) (fun h E => ?_)
  refine aw_dup d_MS_init_95 rfl ?_
  refine ax_Nr (st := [vr 36]) (as := []) (b := 36) d_MS_init_96 cs_MS_init_96 (c_Be_init E) rfl rfl rfl (fun h E => ?_)
  show AW l G M_MS_init P 99 [(1, vi 3), (0, vr 12)] [vr 36] h
  refine aw_astore_n (lv' := [(1, vr 36), (0, vr 12)]) d_MS_init_99 rfl (by decide) rfl ?_
  refine aw_aload_n d_MS_init_100 rfl rfl ?_
  refine pt_new (n' := 144) (ci := 4) E rfl d_MS_init_101 (by decide) nw_MS_32 (by decide) (by decide +kernel) (by decide +kernel) (fun h E => ?_)
  refine aw_dup d_MS_init_104 rfl ?_
  refine aw_aload_n d_MS_init_105 rfl rfl ?_
  refine ax_Ir (st := [vr 143, vr 12]) (as := [vr 36]) (b := 143) d_MS_init_106 cs_MS_init_106 (c_KM_init E) rfl rfl rfl (fun h E => ?_)
  show AW l G M_MS_init P 109 [(1, vr 36), (0, vr 12)] [vr 143, vr 12] h
  refine pt_putR (k' := 134) E rfl d_MS_init_109 fd_MS_37 (by decide +kernel) (by decide) rfl rfl rfl (by decide +kernel) (fun h E => ?_)
  refine aw_aload_n d_MS_init_112 rfl rfl ?_
  refine pt_new (n' := 147) (ci := 5) E rfl d_MS_init_113 (by decide) nw_MS_41 (by decide) (by decide +kernel) (by decide +kernel) (fun h E => ?_)
  refine aw_dup d_MS_init_116 rfl ?_
  refine aw_aload_n d_MS_init_117 rfl rfl ?_
  refine ax_Ir (st := [vr 146, vr 12]) (as := [vr 36]) (b := 146) d_MS_init_118 cs_MS_init_118 (c_Si_init E) rfl rfl rfl (fun h E => ?_)
  show AW l G M_MS_init P 121 [(1, vr 36), (0, vr 12)] [vr 146, vr 12] h
  refine pt_putR (k' := 159) E rfl d_MS_init_121 fd_MS_44 (by decide +kernel) (by decide) rfl rfl rfl (by decide +kernel) (fun h E => ?_)
  refine aw_aload_n d_MS_init_124 rfl rfl ?_
  refine pt_new (n' := 171) (ci := 6) E rfl d_MS_init_125 (by decide) nw_MS_48 (by decide) (by decide +kernel) (by decide +kernel) (fun h E => ?_)
  refine aw_dup d_MS_init_128 rfl ?_
  refine aw_aload_n d_MS_init_129 rfl rfl ?_
  refine ax_Ir (st := [vr 170, vr 12]) (as := [vr 36]) (b := 170) d_MS_init_130 cs_MS_init_130 (c_Ve_init E) rfl rfl rfl (fun h E => ?_)
  show AW l G M_MS_init P 133 [(1, vr 36), (0, vr 12)] [vr 170, vr 12] h
  refine pt_putR (k' := 165) E rfl d_MS_init_133 fd_MS_51 (by decide +kernel) (by decide) rfl rfl rfl (by decide +kernel) (fun h E => ?_)
  exact aw_vret d_MS_init_136 rfl (hP _ E)
