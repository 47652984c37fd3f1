/-! sampling: wide -/
def frC (I L I' L' : Nat → Int → Int) : Prop := (∀ a j, (a < 36 ∨ a = 43 ∨ 175 ≤ a) → I' a j = I a j) ∧ (∀ a j, a ≠ 39 → a ≠ 40 → a ≠ 41 → L' a j = L a j)
theorem frC.tr {I L I1 L1 I2 L2 : Nat → Int → Int} (h : frC I L I1 L1) (h' : frC I1 L1 I2 L2) : frC I L I2 L2 := ⟨fun a j x => (h'.1 a j x).trans (h.1 a j x), fun a j x y z => (h'.2 a j x y z).trans (h.2 a j x y z)⟩
theorem frC.rfl' {I L : Nat → Int → Int} : frC I L I L := ⟨fun _ _ _ => rfl, fun _ _ _ _ _ => rfl⟩
/-- returns if ok, with Q; else throws ArithmeticException, only scratch changed -/
def ThR (h : Hp) (I L : Nat → Int → Int) (ok : Prop) (Q : (Nat → Int → Int) → (Nat → Int → Int) → Prop) : a_R → Hp → Prop := fun r h2 => (ok ∧ ∃ I' L', Q I' L' ∧ r = .inl none ∧ h2 = sD h I' L') ∨ (¬ ok ∧ ∃ I' L', frC I L I' L' ∧ r = .inr (hX h) ∧ h2 = wN (sD h I' L') 44 6)
section RV
variable {l : Launch} {G : a_G} {M M' : a_M} {P P' : a_R → Hp → Prop} {pc : Nat} {lv lv' : List (Nat × AV)} {st : List AV} {h : Hp} {I L : Nat → Int → Int}
theorem ax_VtT {ok : Prop} {Q : (Nat → Int → Int) → (Nat → Int → Int) → Prop} {i ci n w k b : Nat} {as : List AV} (hd : decode (a_cc M) pc = .ok (.invokevirtual i, 3)) (c : a_CV M M' i ci n w k) (hkb : hK h b = 20 + ci) (k' : AW l G M' (ThR h I L ok Q) 0 (a_ar 0 (vr b :: as)) [] (sD h I L)) (e1 : a_aw (vr b :: as) = n) (e2 : a_aw st = w) (e3 : as.length = k) (kr : ok → ∀ I' L', Q I' L' → AW l G M P (pc + 3) lv st (sD h I' L')) (kt : ¬ ok → ∀ I' L', frC I L I' L' → AT l G M P pc lv (hX h) (wN (sD h I' L') 44 6)) : AW l G M P pc lv (as.reverse ++ (vr b :: st)) (sD h I L) := by
  refine ax_Vt hd c hkb k' e1 e2 e3 (fun v h' q => ?_) (fun x h' q => ?_)
  · rcases q with ⟨q1, I', L', q2, q3, q4⟩ | ⟨q1, I', L', q2, q3, q4⟩
    · cases q3; subst q4; exact kr q1 I' L' q2
    · cases q3
  · rcases q with ⟨q1, I', L', q2, q3, q4⟩ | ⟨q1, I', L', q2, q3, q4⟩
    · cases q3
    · cases q3; subst q4; exact kt q1 I' L' q2
end RV
abbrev SmS : Type := Sp × Int × (Int → Int)
def smV (s : Sp) : Int := spGet s + 256 * spGet (spNext s) + 65536 * (spGet (spNext (spNext s)) % 128)
def smStep (r : SmS) : SmS := if smV r.1 < 8380417 then (spNext (spNext (spNext r.1)), r.2.1 + 1, fun j => if j = r.2.1 then smV r.1 else r.2.2 j) else (spNext (spNext (spNext r.1)), r.2.1, r.2.2)
def smIt (s : Sp) : Nat → SmS
  | 0 => (s, 0, fun _ => 0)
  | t + 1 => if (smIt s t).2.1 < 256 then smStep (smIt s t) else smIt s t
theorem smIt_stop {s : Sp} {t : Nat} (h : 256 ≤ (smIt s t).2.1) : ∀ n, smIt s (t + n) = smIt s t
  | 0 => rfl
  | n + 1 => by
    show (if (smIt s (t + n)).2.1 < 256 then smStep (smIt s (t + n)) else smIt s (t + n)) = _
    rw [smIt_stop h n, if_neg (by omega)]
theorem smV_b (s : Sp) : 0 ≤ smV s := by
  have a := spGet_lt s
  have b := spGet_lt (spNext s)
  have c := spGet_lt (spNext (spNext s))
  unfold smV
  omega
def smOk (r : SmS) : Prop := (0 ≤ r.2.1 ∧ r.2.1 ≤ 256) ∧ ∀ j, 0 ≤ r.2.2 j ∧ r.2.2 j < 8380417
theorem smStep_ok {r : SmS} (h : smOk r) (hn : r.2.1 < 256) : smOk (smStep r) := by
  unfold smStep
  have v := smV_b r.1
  split
  · rename_i c2
    refine ⟨⟨by show 0 ≤ r.2.1 + 1; have := h.1; omega, by show r.2.1 + 1 ≤ 256; omega⟩, fun j => ?_⟩
    show 0 ≤ (if j = r.2.1 then smV r.1 else r.2.2 j) ∧ (if j = r.2.1 then smV r.1 else r.2.2 j) < 8380417
    split
    · exact ⟨v, c2⟩
    · exact h.2 j
  · exact h
theorem smIt_b {s : Sp} : ∀ t, smOk (smIt s t)
  | 0 => ⟨⟨Int.le_refl _, by show (0 : Int) ≤ 256; decide⟩, fun _ => ⟨Int.le_refl _, by show (0 : Int) < 8380417; decide⟩⟩
  | t + 1 => by
    have h := smIt_b (s := s) t
    show smOk (if (smIt s t).2.1 < 256 then smStep (smIt s t) else smIt s t)
    split
    · rename_i c
      exact smStep_ok h c
    · exact h
theorem smIt_end {s s1 : Sp} {t n : Int} {X : Int → Int} (h : smIt s t.toNat = (s1, n, X)) (h0 : 0 ≤ t ∧ t ≤ 298) (h1 : t = 298 ∨ 256 ≤ n) : smIt s 298 = (s1, n, X) := by
  rcases h1 with q | q
  · rw [← h, q]; rfl
  · have := smIt_stop (s := s) (t := t.toNat) (by rw [h]; exact q) (298 - t.toNat)
    rw [show t.toNat + (298 - t.toNat) = 298 by omega] at this
    rw [this, h]
theorem smIt_yes {s s1 : Sp} {t n v : Int} {X : Int → Int} (h : smIt s t.toNat = (s1, n, X)) (h0 : 0 ≤ t) (hn : n < 256) (hv : smV s1 = v) (hq : v < 8380417) : smIt s (t + 1).toNat = (spNext (spNext (spNext s1)), n + 1, fun j => if j = n then v else X j) := by
  rw [show (t + 1).toNat = t.toNat + 1 by omega]
  show (if (smIt s t.toNat).2.1 < 256 then smStep (smIt s t.toNat) else smIt s t.toNat) = _
  rw [h, if_pos hn]
  unfold smStep
  rw [if_pos (by rw [hv]; exact hq), hv]
theorem smIt_no {s s1 : Sp} {t n v : Int} {X : Int → Int} (h : smIt s t.toNat = (s1, n, X)) (h0 : 0 ≤ t) (hn : n < 256) (hv : smV s1 = v) (hq : ¬ v < 8380417) : smIt s (t + 1).toNat = (spNext (spNext (spNext s1)), n, X) := by
  rw [show (t + 1).toNat = t.toNat + 1 by omega]
  show (if (smIt s t.toNat).2.1 < 256 then smStep (smIt s t.toNat) else smIt s t.toNat) = _
  rw [h, if_pos hn]
  unfold smStep
  rw [if_neg (by rw [hv]; exact hq)]
theorem fill_step {K : Nat → Int → Int} {f : Nat} {n v : Int} {X : Int → Int} (h : ∀ j, 0 ≤ j → j < n → K f j = X j) : ∀ j, 0 ≤ j → j < n + 1 → a_up K f n v f j = (fun j => if j = n then v else X j) j := by
  intro j h0 h1
  show _ = if j = n then v else X j
  by_cases q : j = n
  · rw [q, a_up_at, if_pos rfl]
  · rw [a_up_ne (Or.inr q), if_neg q, h j h0 (by omega)]
theorem fill_keep {K K' : Nat → Int → Int} {f : Nat} {n : Int} {X : Int → Int} (h : ∀ j, 0 ≤ j → j < n → K f j = X j) (hk : ∀ j, K' f j = K f j) : ∀ j, 0 ≤ j → j < n → K' f j = X j := fun j a b => (hk j).trans (h j a b)
theorem or24 {a b c : Int} (a0 : 0 ≤ a ∧ a < 256) (b0 : 0 ≤ b ∧ b < 256) (c0 : 0 ≤ c ∧ c < 128) : a_or a (b * 256) = a + b * 256 ∧ a_or (a + b * 256) (c * 65536) = a + b * 256 + c * 65536 := ⟨a_or' 8 rfl (by decide) a0.1 a0.2 (by omega) (by omega) (by omega), a_or' 16 rfl (by decide) (by omega) (by omega) (by omega) (by omega) (by omega)⟩
theorem spOf_up {I L : Nat → Int → Int} {f : Nat} {j v : Int} (h : f ≠ 38) : spOf (a_up I f j v) L = spOf I L := by
  unfold spOf
  rw [a_up_ne (Or.inl h.symm), a_up_ne (Or.inl h.symm)]
set_option maxHeartbeats 800000 in
set_option maxRecDepth 100000 in
theorem c_Sa_sample {l : Launch} {G : a_G} {h : Hp} {I L : Nat → Int → Int} {f : Nat} (S : Shp h) (hfl : l.flags = flags0) (rm : hX h + 1 ≤ a_NX ∧ hU h + 6 ≤ a_US) (ST : Sta I L) (ok0 : spOk (spOf I L)) (Zf : RwO h f) (hf : 44 ≤ f ∧ f < 175) : AW l G M_Sa_sample (ThR h I L ((smIt (spOf I L) 298).2.1 = 256) (fun I' L' => ((∀ a j, a ≠ 38 → a ≠ f → I' a j = I a j) ∧ ∀ a j, a ≠ 39 → a ≠ 40 → a ≠ 41 → L' a j = L a j) ∧ ∀ j, 0 ≤ j → j < 256 → I' f j = (smIt (spOf I L) 298).2.2 j)) 0 (a_ar 0 [vr 37, vr f]) [] (sD h I L) := by
  suffices key : ∀ P : a_R → Hp → Prop, (∀ r h2, ThR h I L ((smIt (spOf I L) 298).2.1 = 256) (fun I' L' => ((∀ a j, a ≠ 38 → a ≠ f → I' a j = I a j) ∧ ∀ a j, a ≠ 39 → a ≠ 40 → a ≠ 41 → L' a j = L a j) ∧ ∀ j, 0 ≤ j → j < 256 → I' f j = (smIt (spOf I L) 298).2.2 j) r h2 → P r h2) → AW l G M_Sa_sample P 0 [(0, vr 37), (1, vr f)] [] (sD h I L) from key _ (fun _ _ q => q)
  intro P hP
  refine aw_iconst d_Sa_sample_0 ⟨by decide, by decide⟩ ?_
  refine aw_istore_n (lv' := [(2, vi 0), (0, vr 37), (1, vr f)]) d_Sa_sample_1 rfl (by decide) rfl ?_
  refine aw_iconst d_Sa_sample_2 ⟨by decide, by decide⟩ ?_
  refine aw_istore_n (lv' := [(3, vi 0), (2, vi 0), (0, vr 37), (1, vr f)]) d_Sa_sample_3 rfl (by decide) rfl ?_
  have lp_4 : ∀ (n_ : Nat) (t : Int) (n : Int) (I1 : Nat → Int → Int) (L1 : Nat → Int → Int) (X : Int → Int), (0 ≤ t ∧ t ≤ 298 ∧ 0 ≤ n ∧ n ≤ 256) → ((∀ a j, a ≠ 38 → a ≠ f → I1 a j = I a j) ∧ ∀ a j, a ≠ 39 → a ≠ 40 → a ≠ 41 → L1 a j = L a j) → (smIt (spOf I L) t.toNat = (spOf I1 L1, n, X)) → (spOk (spOf I1 L1)) → (∀ j, 0 ≤ j → j < n → I1 f j = X j) → ((298 - t).toNat) = n_ → AW l G M_Sa_sample P 4 [(3, vi t), (2, vi n), (1, vr f), (0, vr 37)] [] (sD h I1 L1) := by
    intro n_
    induction n_ using Nat.strongRecOn with
    | _ n_ ih_4 =>
    intro t n I1 L1 X hn F1 hst ok g hm_4
    refine aw_iload_n d_Sa_sample_4 rfl rfl ?_
    refine aw_sipush d_Sa_sample_5 ⟨by decide, by decide⟩ (by decide) ?_
    refine aw_icmp_ge (tgt := 81) d_Sa_sample_8 (by decide) (fun c_8 => ?_) (fun c_8 => ?_)
    · skip
      refine aw_iload_n d_Sa_sample_81 rfl rfl ?_
      refine aw_sipush d_Sa_sample_82 ⟨by decide, by decide⟩ (by decide) ?_
      refine aw_icmp_ge (tgt := 98) d_Sa_sample_85 (by decide) (fun c_85 => ?_) (fun c_85 => ?_)
      · skip
        exact aw_vret d_Sa_sample_98 rfl (hP _ _ (Or.inl ⟨by rw [smIt_end hst (by omega) (by omega)]; show n = 256; omega, I1, L1, ⟨F1, fun j a b => by rw [smIt_end hst (by omega) (by omega)]; exact g j a (by omega)⟩, rfl, rfl⟩))
      · skip
        exact ax_throw hfl th_Sa_sample_88 rm.1 rm.2 (hP _ _ (Or.inr ⟨by rw [smIt_end hst (by omega) (by omega)]; show ¬ n = 256; omega, I1, L1, ⟨fun a j x => F1.1 a j (by omega) (by omega), F1.2⟩, rfl, rfl⟩))
    · skip
      refine aw_iload_n d_Sa_sample_11 rfl rfl ?_
      refine aw_sipush d_Sa_sample_12 ⟨by decide, by decide⟩ (by decide) ?_
      refine aw_icmp_ge (tgt := 81) d_Sa_sample_15 (by decide) (fun c_15 => ?_) (fun c_15 => ?_)
      · skip
        refine aw_iload_n d_Sa_sample_81 rfl rfl ?_
        refine aw_sipush d_Sa_sample_82 ⟨by decide, by decide⟩ (by decide) ?_
        refine aw_icmp_ge (tgt := 98) d_Sa_sample_85 (by decide) (fun c_85 => ?_) (fun c_85 => ?_)
        · skip
          exact aw_vret d_Sa_sample_98 rfl (hP _ _ (Or.inl ⟨by rw [smIt_end hst (by omega) (by omega)]; show n = 256; omega, I1, L1, ⟨F1, fun j a b => by rw [smIt_end hst (by omega) (by omega)]; exact g j a (by omega)⟩, rfl, rfl⟩))
        · skip
          exact ax_throw hfl th_Sa_sample_88 rm.1 rm.2 (hP _ _ (Or.inr ⟨by rw [smIt_end hst (by omega) (by omega)]; show ¬ n = 256; omega, I1, L1, ⟨fun a j x => F1.1 a j (by omega) (by omega), F1.2⟩, rfl, rfl⟩))
      · skip
        refine aw_aload_n d_Sa_sample_18 rfl rfl ?_
        refine ax_getR (b := 38) d_Sa_sample_19 fd_Sa_12 (k_37 S) (r_37_0 S) ?_
        refine ax_Vr (st := []) (as := []) (b := 38) d_Sa_sample_22 cs_Sa_sample_22 (k_38 S) (c_Sp_give S (ST.of (fun k j hk => F1.1 k j (by omega) (by omega)) (fun j => F1.2 8 j (by decide) (by decide) (by decide))) (ok)) rfl rfl rfl (fun u_22 q_22 => ?_)
        obtain ⟨I2, L2⟩ := u_22
        obtain ⟨F2, e2⟩ := q_22
        dsimp only at F2 e2
        show AW l G M_Sa_sample P 25 [(3, vi t), (2, vi n), (1, vr f), (0, vr 37)] [vi (spGet (spOf I1 L1))] (sD h I2 L2)
        refine aw_istore (lv' := [(4, vi (spGet (spOf I1 L1))), (3, vi t), (2, vi n), (1, vr f), (0, vr 37)]) d_Sa_sample_25 (by decide) rfl ?_
        refine aw_iload d_Sa_sample_27 rfl ?_
        refine aw_aload_n d_Sa_sample_29 rfl rfl ?_
        refine ax_getR (b := 38) d_Sa_sample_30 fd_Sa_12 (k_37 S) (r_37_0 S) ?_
        refine ax_Vr (st := [vi (spGet (spOf I1 L1))]) (as := []) (b := 38) d_Sa_sample_33 cs_Sa_sample_33 (k_38 S) (c_Sp_give S ((ST.of (fun k j hk => F1.1 k j (by omega) (by omega)) (fun j => F1.2 8 j (by decide) (by decide) (by decide))).sp F2) (by rw [e2]; exact spNext_ok ok)) rfl rfl rfl (fun u_33 q_33 => ?_)
        obtain ⟨I3, L3⟩ := u_33
        obtain ⟨F3, e3⟩ := q_33
        dsimp only at F3 e3
        show AW l G M_Sa_sample P 36 [(4, vi (spGet (spOf I1 L1))), (3, vi t), (2, vi n), (1, vr f), (0, vr 37)] [vi (spGet (spOf I2 L2)), vi (spGet (spOf I1 L1))] (sD h I3 L3)
        have g1 := spGet_lt (spOf I1 L1)
        have g2 := spGet_lt (spOf I2 L2)
        refine aw_bipush d_Sa_sample_36 ⟨by decide, by decide⟩ (by decide) ?_
        refine aw_ishl d_Sa_sample_38 ?_
        refine ax_ti (x := spGet (spOf I2 L2) * 256) (a_shl' 8 rfl rfl (by decide) (by omega) (by omega)) ?_
        refine aw_ior d_Sa_sample_39 ?_
        refine ax_ti (x := spGet (spOf I1 L1) + spGet (spOf I2 L2) * 256) ((or24 g1 g2 (c := 0) (by decide)).1) ?_
        refine aw_istore (lv' := [(4, vi (spGet (spOf I1 L1) + spGet (spOf I2 L2) * 256)), (3, vi t), (2, vi n), (1, vr f), (0, vr 37)]) d_Sa_sample_40 (by decide) rfl ?_
        refine aw_iload d_Sa_sample_42 rfl ?_
        refine aw_aload_n d_Sa_sample_44 rfl rfl ?_
        refine ax_getR (b := 38) d_Sa_sample_45 fd_Sa_12 (k_37 S) (r_37_0 S) ?_
        refine ax_Vr (st := [vi (spGet (spOf I1 L1) + spGet (spOf I2 L2) * 256)]) (as := []) (b := 38) d_Sa_sample_48 cs_Sa_sample_48 (k_38 S) (c_Sp_give S (((ST.of (fun k j hk => F1.1 k j (by omega) (by omega)) (fun j => F1.2 8 j (by decide) (by decide) (by decide))).sp F2).sp F3) (by rw [e3, e2]; exact spNext_ok (spNext_ok ok))) rfl rfl rfl (fun u_48 q_48 => ?_)
        obtain ⟨I4, L4⟩ := u_48
        obtain ⟨F4, e4⟩ := q_48
        dsimp only at F4 e4
        show AW l G M_Sa_sample P 51 [(4, vi (spGet (spOf I1 L1) + spGet (spOf I2 L2) * 256)), (3, vi t), (2, vi n), (1, vr f), (0, vr 37)] [vi (spGet (spOf I3 L3)), vi (spGet (spOf I1 L1) + spGet (spOf I2 L2) * 256)] (sD h I4 L4)
        have g3 := spGet_lt (spOf I3 L3)
        refine aw_bipush d_Sa_sample_51 ⟨by decide, by decide⟩ (by decide) ?_
        refine aw_iand d_Sa_sample_53 ?_
        refine ax_ti (x := (spGet (spOf I3 L3)) % 128) (a_and' 7 (by decide) (by decide) (by decide)) ?_
        refine aw_bipush d_Sa_sample_54 ⟨by decide, by decide⟩ (by decide) ?_
        refine aw_ishl d_Sa_sample_56 ?_
        refine ax_ti (x := spGet (spOf I3 L3) % 128 * 65536) (a_shl' 16 rfl rfl (by decide) (by omega) (by omega)) ?_
        refine aw_ior d_Sa_sample_57 ?_
        refine ax_ti (x := spGet (spOf I1 L1) + spGet (spOf I2 L2) * 256 + spGet (spOf I3 L3) % 128 * 65536) ((or24 g1 g2 (by omega)).2) ?_
        refine aw_istore (lv' := [(4, vi (spGet (spOf I1 L1) + spGet (spOf I2 L2) * 256 + spGet (spOf I3 L3) % 128 * 65536)), (3, vi t), (2, vi n), (1, vr f), (0, vr 37)]) d_Sa_sample_58 (by decide) rfl ?_
        have hv : smV (spOf I1 L1) = spGet (spOf I1 L1) + spGet (spOf I2 L2) * 256 + spGet (spOf I3 L3) % 128 * 65536 := by unfold smV; rw [e3, e2]; omega
        have ff : ∀ j, I4 f j = I1 f j := fun j => (F4.1 f j (by omega)).trans ((F3.1 f j (by omega)).trans (F2.1 f j (by omega)))
        refine aw_iload d_Sa_sample_60 rfl ?_
        refine aw_ldc (n := 8380417) d_Sa_sample_62 lc_Sa_51 ⟨by decide, by decide⟩ ?_
        refine aw_icmp_ge (tgt := 75) d_Sa_sample_64 (by decide) (fun c_64 => ?_) (fun c_64 => ?_)
        · skip
          refine ax_iinc (lv' := [(3, vi (t + 1)), (4, vi (spGet (spOf I1 L1) + spGet (spOf I2 L2) * 256 + spGet (spOf I3 L3) % 128 * 65536)), (2, vi n), (1, vr f), (0, vr 37)]) d_Sa_sample_75 rfl (by decide) ⟨(by omega), (by omega)⟩ rfl ?_
          refine aw_goto (tgt := 4) d_Sa_sample_78 (by decide) ?_
          refine aw_sub (lv' := [(3, vi (t + 1)), (2, vi n), (1, vr f), (0, vr 37)]) (by simp) ?_
          exact ih_4 _ (by omega) (t + 1) n I4 L4 X (by omega) (⟨fun a j x y => ((F4.1 a j x).trans ((F3.1 a j x).trans ((F2.1 a j x).trans (F1.1 a j x y)))), fun a j x y z => (F4.2 a j x y z).trans ((F3.2 a j x y z).trans ((F2.2 a j x y z).trans (F1.2 a j x y z)))⟩) (by rw [smIt_no hst hn.1 (by omega) hv (by omega), ← e2, ← e3, ← e4]) (by rw [e4, e3, e2]; exact spNext_ok (spNext_ok (spNext_ok ok))) (fill_keep g ff) rfl
        · skip
          refine aw_aload_n d_Sa_sample_67 rfl rfl ?_
          refine aw_iload_n d_Sa_sample_68 rfl rfl ?_
          refine aw_iload d_Sa_sample_69 rfl ?_
          refine ax_iast d_Sa_sample_71 Zf.1 Zf.2.1 (by omega) (by omega) ?_
          refine ax_iinc (lv' := [(2, vi (n + 1)), (4, vi (spGet (spOf I1 L1) + spGet (spOf I2 L2) * 256 + spGet (spOf I3 L3) % 128 * 65536)), (3, vi t), (1, vr f), (0, vr 37)]) d_Sa_sample_72 rfl (by decide) ⟨(by omega), (by omega)⟩ rfl ?_
          refine ax_iinc (lv' := [(3, vi (t + 1)), (2, vi (n + 1)), (4, vi (spGet (spOf I1 L1) + spGet (spOf I2 L2) * 256 + spGet (spOf I3 L3) % 128 * 65536)), (1, vr f), (0, vr 37)]) d_Sa_sample_75 rfl (by decide) ⟨(by omega), (by omega)⟩ rfl ?_
          refine aw_goto (tgt := 4) d_Sa_sample_78 (by decide) ?_
          refine aw_sub (lv' := [(3, vi (t + 1)), (2, vi (n + 1)), (1, vr f), (0, vr 37)]) (by simp) ?_
          exact ih_4 _ (by omega) (t + 1) (n + 1) (a_up I4 f n (spGet (spOf I1 L1) + spGet (spOf I2 L2) * 256 + spGet (spOf I3 L3) % 128 * 65536)) L4 (fun j => if j = n then spGet (spOf I1 L1) + spGet (spOf I2 L2) * 256 + spGet (spOf I3 L3) % 128 * 65536 else X j) (by omega) (⟨fun a j x y => (a_up_ne (Or.inl y)).trans ((F4.1 a j x).trans ((F3.1 a j x).trans ((F2.1 a j x).trans (F1.1 a j x y)))), fun a j x y z => (F4.2 a j x y z).trans ((F3.2 a j x y z).trans ((F2.2 a j x y z).trans (F1.2 a j x y z)))⟩) (by rw [smIt_yes hst hn.1 (by omega) hv (by omega), ← e2, ← e3, ← e4, spOf_up (by omega)]) (by rw [spOf_up (by omega), e4, e3, e2]; exact spNext_ok (spNext_ok (spNext_ok ok))) (fill_step (fill_keep g ff)) rfl
  skip
  refine aw_sub (lv' := [(3, vi 0), (2, vi 0), (1, vr f), (0, vr 37)]) (by simp) ?_
  exact lp_4 _ 0 0 I L (fun _ => 0) (by omega) (⟨fun _ _ _ _ => rfl, fun _ _ _ _ _ => rfl⟩) (rfl) (ok0) (fun j a b => by omega) rfl
def wdS (g : Int → Int) (j i : Int) : Sp := spTurn (spTake (spTake (spPart (spStart 168) g 32) j) i)
def wide (g : Int → Int) (j i : Int) : SmS := smIt (wdS g j i) 298
theorem wdS_ok {g : Int → Int} {j i : Int} : spOk (wdS g j i) := spTurn_ok (spTake_ok (spTake_ok (spPart_ok (spStart_lt (by decide) (by decide)).1 _ _) _) _)
theorem wide_congr {g g' : Int → Int} {j i : Int} (h : ∀ k : Nat, k < 32 → g k % 256 = g' k % 256) : wide g j i = wide g' j i := by
  unfold wide wdS
  rw [spPart_congr h]
set_option maxHeartbeats 800000 in
set_option maxRecDepth 100000 in
theorem c_Mo_sampleWide {l : Launch} {G : a_G} {h : Hp} {I L : Nat → Int → Int} {f r : Nat} {pa x y : Int} (S : Shp h) (RS : RSt I L) (Zf : RwO h f) (hf : f ≠ 175 ∧ f ≠ 193) (Zr : hK h r = 2 ∧ 12 ≤ r ∧ r ≠ 175) (hc : 0 ≤ pa ∧ pa + 32 ≤ hN h r ∧ hN h r < 1000000) : AW l G M_Mo_sampleWide (Ret (fun _ : (Nat → Int → Int) × (Nat → Int → Int) => some (vi (if (wide (fun k => I r (pa + k)) x y).2.1 = 256 then 1 else 0))) (fun u => sD h u.1 u.2) (fun u => ((∀ a j, qR a j → a ≠ f → u.1 a j = I a j) ∧ ∀ a j, a ≠ 175 → a ≠ 195 → a ≠ 196 → a ≠ 197 → u.2 a j = L a j) ∧ ∀ j, 0 ≤ j → j < (wide (fun k => I r (pa + k)) x y).2.1 → u.1 f j = (wide (fun k => I r (pa + k)) x y).2.2 j)) 0 (a_ar 0 [vr 175, vr f, vr r, vi pa, vi x, vi y]) [] (sD h I L) := by
  suffices key : ∀ P : a_R → Hp → Prop, (∀ I2 L2 z, ((∀ a j, qR a j → a ≠ f → I2 a j = I a j) ∧ ∀ a j, a ≠ 175 → a ≠ 195 → a ≠ 196 → a ≠ 197 → L2 a j = L a j) → z = (if (wide (fun k => I r (pa + k)) x y).2.1 = 256 then 1 else 0) → (∀ j, 0 ≤ j → j < (wide (fun k => I r (pa + k)) x y).2.1 → I2 f j = (wide (fun k => I r (pa + k)) x y).2.2 j) → P (.inl (some (vi z))) (sD h I2 L2)) → AW l G M_Mo_sampleWide P 0 [(0, vr 175), (1, vr f), (2, vr r), (3, vi pa), (4, vi x), (5, vi y)] [] (sD h I L) from key _ (fun I2 L2 z q1 q2 q3 => ⟨(I2, L2), by rw [q2], rfl, q1, q3⟩)
  intro P hP
  refine aw_aload_n d_Mo_sampleWide_0 rfl rfl ?_
  refine aw_bipush d_Mo_sampleWide_1 ⟨by decide, by decide⟩ (by decide) ?_
  refine ax_Vr (st := []) (as := [vi 11]) (b := 175) d_Mo_sampleWide_3 cs_Mo_sampleWide_3 (k_175 S) (c_Mo_begin11 S) rfl rfl rfl (fun u_3 q_3 => ?_)
  obtain ⟨I1, L1⟩ := u_3
  obtain ⟨F1, e1, k1⟩ := q_3
  dsimp only at F1 e1 k1
  show AW l G M_Mo_sampleWide P 6 [(0, vr 175), (1, vr f), (2, vr r), (3, vi pa), (4, vi x), (5, vi y)] [] (sD h I1 L1)
  refine aw_aload_n d_Mo_sampleWide_6 rfl rfl ?_
  refine aw_aload_n d_Mo_sampleWide_7 rfl rfl ?_
  refine aw_iload_n d_Mo_sampleWide_8 rfl rfl ?_
  refine aw_bipush d_Mo_sampleWide_9 ⟨by decide, by decide⟩ (by decide) ?_
  refine ax_Vr (st := []) (as := [vr r, vi pa, vi 32]) (b := 175) d_Mo_sampleWide_11 cs_Mo_sampleWide_11 (k_175 S) (c_Mo_put3 S (RS.rf F1) (by omega) (by rw [e1]; exact spStart_lt (by decide) (by decide)) ⟨Zr.1, Zr.2.1, Zr.2.2⟩ (by omega)) rfl rfl rfl (fun u_11 q_11 => ?_)
  obtain ⟨I2, L2⟩ := u_11
  obtain ⟨F2, e2, k2⟩ := q_11
  dsimp only at F2 e2 k2
  show AW l G M_Mo_sampleWide P 14 [(0, vr 175), (1, vr f), (2, vr r), (3, vi pa), (4, vi x), (5, vi y)] [] (sD h I2 L2)
  refine aw_aload_n d_Mo_sampleWide_14 rfl rfl ?_
  refine aw_iload d_Mo_sampleWide_15 rfl ?_
  refine ax_Vr (st := []) (as := [vi x]) (b := 175) d_Mo_sampleWide_17 cs_Mo_sampleWide_17 (k_175 S) (c_Mo_put1 S ((RS.rf F1).rf F2) (by omega) (by rw [e2, e1]; exact spPart_lt (spStart_lt (by decide) (by decide)) _ _)) rfl rfl rfl (fun u_17 q_17 => ?_)
  obtain ⟨I3, L3⟩ := u_17
  obtain ⟨F3, e3, k3⟩ := q_17
  dsimp only at F3 e3 k3
  show AW l G M_Mo_sampleWide P 20 [(0, vr 175), (1, vr f), (2, vr r), (3, vi pa), (4, vi x), (5, vi y)] [] (sD h I3 L3)
  refine aw_aload_n d_Mo_sampleWide_20 rfl rfl ?_
  refine aw_iload d_Mo_sampleWide_21 rfl ?_
  refine ax_Vr (st := []) (as := [vi y]) (b := 175) d_Mo_sampleWide_23 cs_Mo_sampleWide_23 (k_175 S) (c_Mo_put1 S (((RS.rf F1).rf F2).rf F3) (by omega) (by rw [e3, e2, e1]; exact spTake_lt (spPart_lt (spStart_lt (by decide) (by decide)) _ _) _)) rfl rfl rfl (fun u_23 q_23 => ?_)
  obtain ⟨I4, L4⟩ := u_23
  obtain ⟨F4, e4, k4⟩ := q_23
  dsimp only at F4 e4 k4
  show AW l G M_Mo_sampleWide P 26 [(0, vr 175), (1, vr f), (2, vr r), (3, vi pa), (4, vi x), (5, vi y)] [] (sD h I4 L4)
  refine aw_aload_n d_Mo_sampleWide_26 rfl rfl ?_
  refine ax_Vr (st := []) (as := []) (b := 175) d_Mo_sampleWide_27 cs_Mo_sampleWide_27 (k_175 S) (c_Mo_finish S ((((RS.rf F1).rf F2).rf F3).rf F4) (by omega) (by rw [e4, e3, e2, e1]; exact (spTake_lt (spTake_lt (spPart_lt (spStart_lt (by decide) (by decide)) _ _) _) _).1)) rfl rfl rfl (fun u_27 q_27 => ?_)
  obtain ⟨I5, L5⟩ := u_27
  obtain ⟨F5, e5, k5⟩ := q_27
  dsimp only at F5 e5 k5
  show AW l G M_Mo_sampleWide P 30 [(0, vr 175), (1, vr f), (2, vr r), (3, vi pa), (4, vi x), (5, vi y)] [] (sD h I5 L5)
  have eS : spR I5 L5 = (wdS (fun k => I r (pa + k)) x y) := by rw [e5, e4, e3, e2, e1, show (fun k => I1 r (pa + k)) = (fun k => I r (pa + k)) from funext (fun k => F1.1 r _ (Or.inl (by omega)))]; rfl
  have F5a := (((F1.tr F2).tr F3).tr F4).tr F5
  refine aw_iconst d_Mo_sampleWide_30 ⟨by decide, by decide⟩ ?_
  refine aw_istore (lv' := [(6, vi 0), (0, vr 175), (1, vr f), (2, vr r), (3, vi pa), (4, vi x), (5, vi y)]) d_Mo_sampleWide_31 (by decide) rfl ?_
  refine aw_iconst d_Mo_sampleWide_33 ⟨by decide, by decide⟩ ?_
  refine aw_istore (lv' := [(7, vi 0), (6, vi 0), (0, vr 175), (1, vr f), (2, vr r), (3, vi pa), (4, vi x), (5, vi y)]) d_Mo_sampleWide_34 (by decide) rfl ?_
  have lp_36 : ∀ (n_ : Nat) (t : Int) (n : Int) (I6 : Nat → Int → Int) (L6 : Nat → Int → Int) (X : Int → Int), (0 ≤ t ∧ t ≤ 298 ∧ 0 ≤ n ∧ n ≤ 256) → ((∀ a j, qR a j → a ≠ f → I6 a j = I a j) ∧ ∀ a j, a ≠ 175 → a ≠ 195 → a ≠ 196 → a ≠ 197 → L6 a j = L a j) → (smIt (wdS (fun k => I r (pa + k)) x y) t.toNat = (spR I6 L6, n, X)) → (spOk (spR I6 L6)) → (∀ j, 0 ≤ j → j < n → I6 f j = X j) → ((298 - t).toNat) = n_ → AW l G M_Mo_sampleWide P 36 [(7, vi t), (6, vi n), (1, vr f), (0, vr 175)] [] (sD h I6 L6) := by
    intro n_
    induction n_ using Nat.strongRecOn with
    | _ n_ ih_36 =>
    intro t n I6 L6 X hn F6 hst ok g hm_36
    refine aw_iload d_Mo_sampleWide_36 rfl ?_
    refine aw_sipush d_Mo_sampleWide_38 ⟨by decide, by decide⟩ (by decide) ?_
    refine aw_icmp_ge (tgt := 115) d_Mo_sampleWide_41 (by decide) (fun c_41 => ?_) (fun c_41 => ?_)
    · skip
      refine aw_iload d_Mo_sampleWide_115 rfl ?_
      refine aw_sipush d_Mo_sampleWide_117 ⟨by decide, by decide⟩ (by decide) ?_
      refine aw_icmp_ne (tgt := 127) d_Mo_sampleWide_120 (by decide) (fun c_120 => ?_) (fun c_120 => ?_)
      · skip
        refine aw_iconst d_Mo_sampleWide_127 ⟨by decide, by decide⟩ ?_
        exact aw_zret d_Mo_sampleWide_128 rfl ⟨by decide, by decide⟩ (hP _ _ _ F6 (by unfold wide; rw [smIt_end hst (by omega) (by omega)]; exact (if_neg (show ¬ n = 256 by omega)).symm) (fun j a b => by unfold wide at *; rw [smIt_end hst (by omega) (by omega)] at b ⊢; exact g j a b))
      · skip
        refine aw_iconst d_Mo_sampleWide_123 ⟨by decide, by decide⟩ ?_
        refine aw_goto (tgt := 128) d_Mo_sampleWide_124 (by decide) ?_
        exact aw_zret d_Mo_sampleWide_128 rfl ⟨by decide, by decide⟩ (hP _ _ _ F6 (by unfold wide; rw [smIt_end hst (by omega) (by omega)]; exact (if_pos (show n = 256 by omega)).symm) (fun j a b => by unfold wide at *; rw [smIt_end hst (by omega) (by omega)] at b ⊢; exact g j a b))
    · skip
      refine aw_iload d_Mo_sampleWide_44 rfl ?_
      refine aw_sipush d_Mo_sampleWide_46 ⟨by decide, by decide⟩ (by decide) ?_
      refine aw_icmp_ge (tgt := 115) d_Mo_sampleWide_49 (by decide) (fun c_49 => ?_) (fun c_49 => ?_)
      · skip
        refine aw_iload d_Mo_sampleWide_115 rfl ?_
        refine aw_sipush d_Mo_sampleWide_117 ⟨by decide, by decide⟩ (by decide) ?_
        refine aw_icmp_ne (tgt := 127) d_Mo_sampleWide_120 (by decide) (fun c_120 => ?_) (fun c_120 => ?_)
        · skip
          refine aw_iconst d_Mo_sampleWide_127 ⟨by decide, by decide⟩ ?_
          exact aw_zret d_Mo_sampleWide_128 rfl ⟨by decide, by decide⟩ (hP _ _ _ F6 (by unfold wide; rw [smIt_end hst (by omega) (by omega)]; exact (if_neg (show ¬ n = 256 by omega)).symm) (fun j a b => by unfold wide at *; rw [smIt_end hst (by omega) (by omega)] at b ⊢; exact g j a b))
        · skip
          refine aw_iconst d_Mo_sampleWide_123 ⟨by decide, by decide⟩ ?_
          refine aw_goto (tgt := 128) d_Mo_sampleWide_124 (by decide) ?_
          exact aw_zret d_Mo_sampleWide_128 rfl ⟨by decide, by decide⟩ (hP _ _ _ F6 (by unfold wide; rw [smIt_end hst (by omega) (by omega)]; exact (if_pos (show n = 256 by omega)).symm) (fun j a b => by unfold wide at *; rw [smIt_end hst (by omega) (by omega)] at b ⊢; exact g j a b))
      · skip
        refine aw_aload_n d_Mo_sampleWide_52 rfl rfl ?_
        refine ax_Vr (st := []) (as := []) (b := 175) d_Mo_sampleWide_53 cs_Mo_sampleWide_53 (k_175 S) (c_Mo_squeeze S (RS.of (fun j => F6.1 193 j (Or.inl (by decide)) (by omega)) (fun j => F6.2 194 j (by decide) (by decide) (by decide) (by decide))) (ok)) rfl rfl rfl (fun u_53 q_53 => ?_)
        obtain ⟨I7, L7⟩ := u_53
        obtain ⟨F7, e7, k7⟩ := q_53
        dsimp only at F7 e7 k7
        show AW l G M_Mo_sampleWide P 56 [(7, vi t), (6, vi n), (1, vr f), (0, vr 175)] [vi (spGet (spR I6 L6))] (sD h I7 L7)
        refine aw_istore (lv' := [(8, vi (spGet (spR I6 L6))), (7, vi t), (6, vi n), (1, vr f), (0, vr 175)]) d_Mo_sampleWide_56 (by decide) rfl ?_
        refine aw_aload_n d_Mo_sampleWide_58 rfl rfl ?_
        refine ax_Vr (st := []) (as := []) (b := 175) d_Mo_sampleWide_59 cs_Mo_sampleWide_59 (k_175 S) (c_Mo_squeeze S ((RS.of (fun j => F6.1 193 j (Or.inl (by decide)) (by omega)) (fun j => F6.2 194 j (by decide) (by decide) (by decide) (by decide))).rf F7) (by rw [e7]; exact spNext_ok ok)) rfl rfl rfl (fun u_59 q_59 => ?_)
        obtain ⟨I8, L8⟩ := u_59
        obtain ⟨F8, e8, k8⟩ := q_59
        dsimp only at F8 e8 k8
        show AW l G M_Mo_sampleWide P 62 [(8, vi (spGet (spR I6 L6))), (7, vi t), (6, vi n), (1, vr f), (0, vr 175)] [vi (spGet (spR I7 L7))] (sD h I8 L8)
        refine aw_istore (lv' := [(9, vi (spGet (spR I7 L7))), (8, vi (spGet (spR I6 L6))), (7, vi t), (6, vi n), (1, vr f), (0, vr 175)]) d_Mo_sampleWide_62 (by decide) rfl ?_
        refine aw_aload_n d_Mo_sampleWide_64 rfl rfl ?_
        refine ax_Vr (st := []) (as := []) (b := 175) d_Mo_sampleWide_65 cs_Mo_sampleWide_65 (k_175 S) (c_Mo_squeeze S (((RS.of (fun j => F6.1 193 j (Or.inl (by decide)) (by omega)) (fun j => F6.2 194 j (by decide) (by decide) (by decide) (by decide))).rf F7).rf F8) (by rw [e8, e7]; exact spNext_ok (spNext_ok ok))) rfl rfl rfl (fun u_65 q_65 => ?_)
        obtain ⟨I9, L9⟩ := u_65
        obtain ⟨F9, e9, k9⟩ := q_65
        dsimp only at F9 e9 k9
        show AW l G M_Mo_sampleWide P 68 [(9, vi (spGet (spR I7 L7))), (8, vi (spGet (spR I6 L6))), (7, vi t), (6, vi n), (1, vr f), (0, vr 175)] [vi (spGet (spR I8 L8))] (sD h I9 L9)
        refine aw_istore (lv' := [(10, vi (spGet (spR I8 L8))), (9, vi (spGet (spR I7 L7))), (8, vi (spGet (spR I6 L6))), (7, vi t), (6, vi n), (1, vr f), (0, vr 175)]) d_Mo_sampleWide_68 (by decide) rfl ?_
        have g1 := spGet_lt (spR I6 L6)
        have g2 := spGet_lt (spR I7 L7)
        have g3 := spGet_lt (spR I8 L8)
        have hv : smV (spR I6 L6) = spGet (spR I6 L6) + 256 * spGet (spR I7 L7) + 65536 * (spGet (spR I8 L8) % 128) := by unfold smV; rw [e8, e7]
        have ff : ∀ j, I9 f j = I6 f j := fun j => (F9.1 f j (Or.inl (by omega))).trans ((F8.1 f j (Or.inl (by omega))).trans (F7.1 f j (Or.inl (by omega))))
        refine aw_iload d_Mo_sampleWide_70 rfl ?_
        refine aw_sipush d_Mo_sampleWide_72 ⟨by decide, by decide⟩ (by decide) ?_
        refine aw_iload d_Mo_sampleWide_75 rfl ?_
        refine ax_imul d_Mo_sampleWide_77 ⟨(by omega), (by omega)⟩ ?_
        refine ax_iadd d_Mo_sampleWide_78 ⟨(by omega), (by omega)⟩ ?_
        refine aw_ldcw (n := 65536) d_Mo_sampleWide_79 lc_Mo_271 ⟨by decide, by decide⟩ ?_
        refine aw_iload d_Mo_sampleWide_82 rfl ?_
        refine aw_sipush d_Mo_sampleWide_84 ⟨by decide, by decide⟩ (by decide) ?_
        refine ax_irem d_Mo_sampleWide_87 (by omega) (by omega) ?_
        refine ax_imul d_Mo_sampleWide_88 ⟨(by omega), (by omega)⟩ ?_
        refine ax_iadd d_Mo_sampleWide_89 ⟨(by omega), (by omega)⟩ ?_
        refine aw_istore (lv' := [(11, vi (((spGet (spR I6 L6)) + (256 * (spGet (spR I7 L7)))) + (65536 * ((spGet (spR I8 L8)) % 128)))), (10, vi (spGet (spR I8 L8))), (9, vi (spGet (spR I7 L7))), (8, vi (spGet (spR I6 L6))), (7, vi t), (6, vi n), (1, vr f), (0, vr 175)]) d_Mo_sampleWide_90 (by decide) rfl ?_
        refine aw_iload d_Mo_sampleWide_92 rfl ?_
        refine aw_ldcw (n := 8380417) d_Mo_sampleWide_94 lc_Mo_264 ⟨by decide, by decide⟩ ?_
        refine aw_icmp_ge (tgt := 109) d_Mo_sampleWide_97 (by decide) (fun c_97 => ?_) (fun c_97 => ?_)
        · skip
          refine ax_iinc (lv' := [(7, vi (t + 1)), (11, vi (((spGet (spR I6 L6)) + (256 * (spGet (spR I7 L7)))) + (65536 * ((spGet (spR I8 L8)) % 128)))), (10, vi (spGet (spR I8 L8))), (9, vi (spGet (spR I7 L7))), (8, vi (spGet (spR I6 L6))), (6, vi n), (1, vr f), (0, vr 175)]) d_Mo_sampleWide_109 rfl (by decide) ⟨(by omega), (by omega)⟩ rfl ?_
          refine aw_goto (tgt := 36) d_Mo_sampleWide_112 (by decide) ?_
          refine aw_sub (lv' := [(7, vi (t + 1)), (6, vi n), (1, vr f), (0, vr 175)]) (by simp) ?_
          exact ih_36 _ (by omega) (t + 1) n I9 L9 X (by omega) (⟨fun a j x y => ((F9.1 a j x).trans ((F8.1 a j x).trans ((F7.1 a j x).trans (F6.1 a j x y)))), fun a j w x y z => (F9.2 a j w x y z).trans ((F8.2 a j w x y z).trans ((F7.2 a j w x y z).trans (F6.2 a j w x y z)))⟩) (by rw [smIt_no hst hn.1 (by omega) hv (by omega), ← e7, ← e8, ← e9]) (by rw [e9, e8, e7]; exact spNext_ok (spNext_ok (spNext_ok ok))) (fill_keep g ff) rfl
        · skip
          refine aw_aload_n d_Mo_sampleWide_100 rfl rfl ?_
          refine aw_iload d_Mo_sampleWide_101 rfl ?_
          refine aw_iload d_Mo_sampleWide_103 rfl ?_
          refine ax_iast d_Mo_sampleWide_105 Zf.1 Zf.2.1 (by omega) (by omega) ?_
          refine ax_iinc (lv' := [(6, vi (n + 1)), (11, vi (((spGet (spR I6 L6)) + (256 * (spGet (spR I7 L7)))) + (65536 * ((spGet (spR I8 L8)) % 128)))), (10, vi (spGet (spR I8 L8))), (9, vi (spGet (spR I7 L7))), (8, vi (spGet (spR I6 L6))), (7, vi t), (1, vr f), (0, vr 175)]) d_Mo_sampleWide_106 rfl (by decide) ⟨(by omega), (by omega)⟩ rfl ?_
          refine ax_iinc (lv' := [(7, vi (t + 1)), (6, vi (n + 1)), (11, vi (((spGet (spR I6 L6)) + (256 * (spGet (spR I7 L7)))) + (65536 * ((spGet (spR I8 L8)) % 128)))), (10, vi (spGet (spR I8 L8))), (9, vi (spGet (spR I7 L7))), (8, vi (spGet (spR I6 L6))), (1, vr f), (0, vr 175)]) d_Mo_sampleWide_109 rfl (by decide) ⟨(by omega), (by omega)⟩ rfl ?_
          refine aw_goto (tgt := 36) d_Mo_sampleWide_112 (by decide) ?_
          refine aw_sub (lv' := [(7, vi (t + 1)), (6, vi (n + 1)), (1, vr f), (0, vr 175)]) (by simp) ?_
          exact ih_36 _ (by omega) (t + 1) (n + 1) (a_up I9 f n (((spGet (spR I6 L6)) + (256 * (spGet (spR I7 L7)))) + (65536 * ((spGet (spR I8 L8)) % 128)))) L9 (fun j => if j = n then spGet (spR I6 L6) + 256 * spGet (spR I7 L7) + 65536 * (spGet (spR I8 L8) % 128) else X j) (by omega) (⟨fun a j x y => (a_up_ne (Or.inl y)).trans ((F9.1 a j x).trans ((F8.1 a j x).trans ((F7.1 a j x).trans (F6.1 a j x y)))), fun a j w x y z => (F9.2 a j w x y z).trans ((F8.2 a j w x y z).trans ((F7.2 a j w x y z).trans (F6.2 a j w x y z)))⟩) (by rw [smIt_yes hst hn.1 (by omega) hv (by omega), ← e7, ← e8, ← e9, spR_up (by omega)]) (by rw [spR_up (by omega), e9, e8, e7]; exact spNext_ok (spNext_ok (spNext_ok ok))) (fill_step (fill_keep g ff)) rfl
  skip
  refine aw_sub (lv' := [(7, vi 0), (6, vi 0), (1, vr f), (0, vr 175)]) (by simp) ?_
  exact lp_36 _ 0 0 I5 L5 (fun _ => 0) (by omega) (⟨fun a j x _ => F5a.1 a j x, F5a.2⟩) (by rw [eS]; rfl) (by rw [eS]; exact wdS_ok) (fun j a b => by omega) rfl
