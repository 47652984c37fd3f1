/-! the reference's digest of kind 3 while its constants are made: frames -/
def Fq (I L J K : Nat → Int → Int) : Prop := (∀ a j, a ≠ 199 → (a = 175 → j ≠ 18 ∧ j ≠ 19 ∧ j ≠ 20) → J a j = I a j) ∧ (∀ a j, a ≠ 175 → ¬ (187 ≤ a ∧ a ≤ 192) → a ≠ 195 → a ≠ 198 → K a j = L a j)
theorem Fq.rf {I L : Nat → Int → Int} : Fq I L I L := ⟨fun _ _ _ _ => rfl, fun _ _ _ _ _ _ => rfl⟩
theorem Fq.tr {I L J K J2 K2 : Nat → Int → Int} (a : Fq I L J K) (b : Fq J K J2 K2) : Fq I L J2 K2 := ⟨fun x j p q => (b.1 x j p q).trans (a.1 x j p q), fun x j p q r s => (b.2 x j p q r s).trans (a.2 x j p q r s)⟩
theorem Fq.uI {I L J K : Nat → Int → Int} {a : Nat} {j v : Int} (f : Fq I L J K) (h : a = 199 ∨ a = 175 ∧ (j = 18 ∨ j = 19 ∨ j = 20)) : Fq I L (a_up J a j v) K := ⟨fun x i p q => (a_up_ne (by
  by_cases e : x = a
  · refine Or.inr (fun z => ?_)
    have := q
    omega
  · exact Or.inl e)).trans (f.1 x i p q), f.2⟩
theorem Fq.uL {I L J K : Nat → Int → Int} {a : Nat} {j v : Int} (f : Fq I L J K) (h : a = 175 ∨ (187 ≤ a ∧ a ≤ 192) ∨ a = 195 ∨ a = 198) : Fq I L J (a_up K a j v) := ⟨f.1, fun x i p q r s => (a_up_ne (Or.inl (by omega))).trans (f.2 x i p q r s)⟩
def Kq (J : Nat → Int → Int) (n : Int) : Prop := J 175 18 = 3 ∧ J 175 19 = 128 ∧ J 175 20 = n
def nx (n : Int) : Int := if n = 127 then 0 else n + 1
set_option maxHeartbeats 800000 in
set_option maxRecDepth 100000 in
theorem c_Mo_right {l : Launch} {G : a_G} {h : Hp} {v n : Int} (hn : 0 ≤ n ∧ n < 64) : AW l G M_Mo_right (Ret (fun u : Int => some (vl u)) (fun _ => h) (fun _ => True)) 0 (a_ar 0 [vl v, vi n]) [] (h) := by
  suffices key : ∀ P : a_R → Hp → Prop, (∀ u : Int, P (.inl (some (vl u))) h) → AW l G M_Mo_right P 0 [(0, vl v), (2, vi n)] [] (h) from key _ (fun u => ⟨u, rfl, rfl, trivial⟩)
  intro P hP
  refine aw_lload_n d_Mo_right_0 rfl rfl ?_
  refine aw_iload_n d_Mo_right_1 rfl rfl ?_
  refine aw_lushr d_Mo_right_2 ?_
  refine aw_lload_n d_Mo_right_3 rfl rfl ?_
  refine aw_bipush d_Mo_right_4 ⟨by decide, by decide⟩ (by decide) ?_
  refine aw_iload_n d_Mo_right_6 rfl rfl ?_
  refine ax_isub d_Mo_right_7 ⟨(by omega), (by omega)⟩ ?_
  refine aw_lshl d_Mo_right_8 ?_
  refine aw_lor d_Mo_right_9 ?_
  exact aw_lret d_Mo_right_10 rfl (hP _)
set_option maxHeartbeats 800000 in
set_option maxRecDepth 100000 in
theorem c_Mo_compress64 {l : Launch} {G : a_G} {h : Hp} {I L : Nat → Int → Int} (S : Shq h) : AW l G M_Mo_compress64 (Ret (fun _ : Nat → Int → Int => none) (fun u => sD h I u) (fun u => Fq I L I u)) 0 (a_ar 0 [vr 175]) [] (sD h I L) := by
  suffices key : ∀ P : a_R → Hp → Prop, (∀ K : Nat → Int → Int, Fq I L I K → P (.inl none) (sD h I K)) → AW l G M_Mo_compress64 P 0 [(0, vr 175)] [] (sD h I L) from key _ (fun K q => ⟨K, rfl, rfl, q⟩)
  intro P hP
  refine aw_iconst d_Mo_compress64_0 ⟨by decide, by decide⟩ ?_
  refine aw_istore_n (lv' := [(1, vi 0), (0, vr 175)]) d_Mo_compress64_1 rfl (by decide) rfl ?_
  have lp_2 : ∀ (n_ : Nat) (i : Int) (K : Nat → Int → Int), (0 ≤ i ∧ i ≤ 16) → (Fq I L I K) → ((16 - i).toNat) = n_ → AW l G M_Mo_compress64 P 2 [(1, vi i), (0, vr 175)] [] (sD h I K) := by
    intro n_
    induction n_ using Nat.strongRecOn with
    | _ n_ ih_2 =>
    intro i K hi f1 hm_2
    refine aw_iload_n d_Mo_compress64_2 rfl rfl ?_
    refine aw_bipush d_Mo_compress64_3 ⟨by decide, by decide⟩ (by decide) ?_
    refine aw_icmp_ge (tgt := 67) d_Mo_compress64_5 (by decide) (fun c_5 => ?_) (fun c_5 => ?_)
    · skip
      refine aw_bipush d_Mo_compress64_67 ⟨by decide, by decide⟩ (by decide) ?_
      refine aw_istore_n (lv' := [(1, vi 16), (0, vr 175)]) d_Mo_compress64_69 rfl (by decide) rfl ?_
      have lp_70 : ∀ (n_ : Nat) (i : Int) (K3 : Nat → Int → Int), (16 ≤ i ∧ i ≤ 80) → (Fq I L I K3) → ((80 - i).toNat) = n_ → AW l G M_Mo_compress64 P 70 [(1, vi i), (0, vr 175)] [] (sD h I K3) := by
        intro n_
        induction n_ using Nat.strongRecOn with
        | _ n_ ih_70 =>
        intro i K3 hi3 f3 hm_70
        refine aw_iload_n d_Mo_compress64_70 rfl rfl ?_
        refine aw_bipush d_Mo_compress64_71 ⟨by decide, by decide⟩ (by decide) ?_
        refine aw_icmp_ge (tgt := 167) d_Mo_compress64_73 (by decide) (fun c_73 => ?_) (fun c_73 => ?_)
        · skip
          refine aw_aload_n d_Mo_compress64_167 rfl rfl ?_
          refine ax_getR (b := 195) d_Mo_compress64_168 fd_Mo_47 (kq_175 S) (rq_175_13 S) ?_
          refine aw_iconst d_Mo_compress64_171 ⟨by decide, by decide⟩ ?_
          refine ax_lalde (x := K3 195 0) d_Mo_compress64_172 (kq_195 S) (by omega) (by rw [nq_195 S]; omega) (rfl) ?_
          refine aw_lstore_n (lv' := [(1, vl (K3 195 0)), (0, vr 175)]) d_Mo_compress64_173 rfl (by decide) rfl ?_
          refine aw_aload_n d_Mo_compress64_174 rfl rfl ?_
          refine ax_getR (b := 195) d_Mo_compress64_175 fd_Mo_47 (kq_175 S) (rq_175_13 S) ?_
          refine aw_iconst d_Mo_compress64_178 ⟨by decide, by decide⟩ ?_
          refine ax_lalde (x := K3 195 1) d_Mo_compress64_179 (kq_195 S) (by omega) (by rw [nq_195 S]; omega) (rfl) ?_
          refine aw_lstore_n (lv' := [(3, vl (K3 195 1)), (1, vl (K3 195 0)), (0, vr 175)]) d_Mo_compress64_180 rfl (by decide) rfl ?_
          refine aw_aload_n d_Mo_compress64_181 rfl rfl ?_
          refine ax_getR (b := 195) d_Mo_compress64_182 fd_Mo_47 (kq_175 S) (rq_175_13 S) ?_
          refine aw_iconst d_Mo_compress64_185 ⟨by decide, by decide⟩ ?_
          refine ax_lalde (x := K3 195 2) d_Mo_compress64_186 (kq_195 S) (by omega) (by rw [nq_195 S]; omega) (rfl) ?_
          refine aw_lstore (lv' := [(5, vl (K3 195 2)), (3, vl (K3 195 1)), (1, vl (K3 195 0)), (0, vr 175)]) d_Mo_compress64_187 (by decide) rfl ?_
          refine aw_aload_n d_Mo_compress64_189 rfl rfl ?_
          refine ax_getR (b := 195) d_Mo_compress64_190 fd_Mo_47 (kq_175 S) (rq_175_13 S) ?_
          refine aw_iconst d_Mo_compress64_193 ⟨by decide, by decide⟩ ?_
          refine ax_lalde (x := K3 195 3) d_Mo_compress64_194 (kq_195 S) (by omega) (by rw [nq_195 S]; omega) (rfl) ?_
          refine aw_lstore (lv' := [(7, vl (K3 195 3)), (5, vl (K3 195 2)), (3, vl (K3 195 1)), (1, vl (K3 195 0)), (0, vr 175)]) d_Mo_compress64_195 (by decide) rfl ?_
          refine aw_aload_n d_Mo_compress64_197 rfl rfl ?_
          refine ax_getR (b := 195) d_Mo_compress64_198 fd_Mo_47 (kq_175 S) (rq_175_13 S) ?_
          refine aw_iconst d_Mo_compress64_201 ⟨by decide, by decide⟩ ?_
          refine ax_lalde (x := K3 195 4) d_Mo_compress64_202 (kq_195 S) (by omega) (by rw [nq_195 S]; omega) (rfl) ?_
          refine aw_lstore (lv' := [(9, vl (K3 195 4)), (7, vl (K3 195 3)), (5, vl (K3 195 2)), (3, vl (K3 195 1)), (1, vl (K3 195 0)), (0, vr 175)]) d_Mo_compress64_203 (by decide) rfl ?_
          refine aw_aload_n d_Mo_compress64_205 rfl rfl ?_
          refine ax_getR (b := 195) d_Mo_compress64_206 fd_Mo_47 (kq_175 S) (rq_175_13 S) ?_
          refine aw_iconst d_Mo_compress64_209 ⟨by decide, by decide⟩ ?_
          refine ax_lalde (x := K3 195 5) d_Mo_compress64_210 (kq_195 S) (by omega) (by rw [nq_195 S]; omega) (rfl) ?_
          refine aw_lstore (lv' := [(11, vl (K3 195 5)), (9, vl (K3 195 4)), (7, vl (K3 195 3)), (5, vl (K3 195 2)), (3, vl (K3 195 1)), (1, vl (K3 195 0)), (0, vr 175)]) d_Mo_compress64_211 (by decide) rfl ?_
          refine aw_aload_n d_Mo_compress64_213 rfl rfl ?_
          refine ax_getR (b := 195) d_Mo_compress64_214 fd_Mo_47 (kq_175 S) (rq_175_13 S) ?_
          refine aw_bipush d_Mo_compress64_217 ⟨by decide, by decide⟩ (by decide) ?_
          refine ax_lalde (x := K3 195 6) d_Mo_compress64_219 (kq_195 S) (by omega) (by rw [nq_195 S]; omega) (rfl) ?_
          refine aw_lstore (lv' := [(13, vl (K3 195 6)), (11, vl (K3 195 5)), (9, vl (K3 195 4)), (7, vl (K3 195 3)), (5, vl (K3 195 2)), (3, vl (K3 195 1)), (1, vl (K3 195 0)), (0, vr 175)]) d_Mo_compress64_220 (by decide) rfl ?_
          refine aw_aload_n d_Mo_compress64_222 rfl rfl ?_
          refine ax_getR (b := 195) d_Mo_compress64_223 fd_Mo_47 (kq_175 S) (rq_175_13 S) ?_
          refine aw_bipush d_Mo_compress64_226 ⟨by decide, by decide⟩ (by decide) ?_
          refine ax_lalde (x := K3 195 7) d_Mo_compress64_228 (kq_195 S) (by omega) (by rw [nq_195 S]; omega) (rfl) ?_
          refine aw_lstore (lv' := [(15, vl (K3 195 7)), (13, vl (K3 195 6)), (11, vl (K3 195 5)), (9, vl (K3 195 4)), (7, vl (K3 195 3)), (5, vl (K3 195 2)), (3, vl (K3 195 1)), (1, vl (K3 195 0)), (0, vr 175)]) d_Mo_compress64_229 (by decide) rfl ?_
          refine aw_iconst d_Mo_compress64_231 ⟨by decide, by decide⟩ ?_
          refine aw_istore (lv' := [(17, vi 0), (15, vl (K3 195 7)), (13, vl (K3 195 6)), (11, vl (K3 195 5)), (9, vl (K3 195 4)), (7, vl (K3 195 3)), (5, vl (K3 195 2)), (3, vl (K3 195 1)), (1, vl (K3 195 0)), (0, vr 175)]) d_Mo_compress64_232 (by decide) rfl ?_
          have lp_234 : ∀ (n_ : Nat) (t : Int) (v0 : Int) (v1 : Int) (v2 : Int) (v3 : Int) (v4 : Int) (v5 : Int) (v6 : Int) (v7 : Int), (0 ≤ t ∧ t ≤ 80) → ((80 - t).toNat) = n_ → AW l G M_Mo_compress64 P 234 [(17, vi t), (15, vl v7), (13, vl v6), (11, vl v5), (9, vl v4), (7, vl v3), (5, vl v2), (3, vl v1), (1, vl v0), (0, vr 175)] [] (sD h I K3) := by
            intro n_
            induction n_ using Nat.strongRecOn with
            | _ n_ ih_234 =>
            intro t v0 v1 v2 v3 v4 v5 v6 v7 ht hm_234
            refine aw_iload d_Mo_compress64_234 rfl ?_
            refine aw_bipush d_Mo_compress64_236 ⟨by decide, by decide⟩ (by decide) ?_
            refine aw_icmp_ge (tgt := 377) d_Mo_compress64_238 (by decide) (fun c_238 => ?_) (fun c_238 => ?_)
            · skip
              refine aw_aload_n d_Mo_compress64_377 rfl rfl ?_
              refine ax_getR (b := 195) d_Mo_compress64_378 fd_Mo_47 (kq_175 S) (rq_175_13 S) ?_
              refine aw_iconst d_Mo_compress64_381 ⟨by decide, by decide⟩ ?_
              refine aw_dup2 d_Mo_compress64_382 rfl rfl ?_
              refine ax_lalde (x := K3 195 0) d_Mo_compress64_383 (kq_195 S) (by omega) (by rw [nq_195 S]; omega) (rfl) ?_
              refine aw_lload_n d_Mo_compress64_384 rfl rfl ?_
              refine aw_ladd d_Mo_compress64_385 ?_
              refine ax_last d_Mo_compress64_386 (kq_195 S) (by decide) (by omega) (by rw [nq_195 S]; omega) ?_
              refine aw_aload_n d_Mo_compress64_387 rfl rfl ?_
              refine ax_getR (b := 195) d_Mo_compress64_388 fd_Mo_47 (kq_175 S) (rq_175_13 S) ?_
              refine aw_iconst d_Mo_compress64_391 ⟨by decide, by decide⟩ ?_
              refine aw_dup2 d_Mo_compress64_392 rfl rfl ?_
              refine ax_lalde (x := K3 195 1) d_Mo_compress64_393 (kq_195 S) (by omega) (by rw [nq_195 S]; omega) (Eq.trans (a_up_ne (Or.inr (by decide))) (rfl)) ?_
              refine aw_lload_n d_Mo_compress64_394 rfl rfl ?_
              refine aw_ladd d_Mo_compress64_395 ?_
              refine ax_last d_Mo_compress64_396 (kq_195 S) (by decide) (by omega) (by rw [nq_195 S]; omega) ?_
              refine aw_aload_n d_Mo_compress64_397 rfl rfl ?_
              refine ax_getR (b := 195) d_Mo_compress64_398 fd_Mo_47 (kq_175 S) (rq_175_13 S) ?_
              refine aw_iconst d_Mo_compress64_401 ⟨by decide, by decide⟩ ?_
              refine aw_dup2 d_Mo_compress64_402 rfl rfl ?_
              refine ax_lalde (x := K3 195 2) d_Mo_compress64_403 (kq_195 S) (by omega) (by rw [nq_195 S]; omega) (Eq.trans (a_up_ne (Or.inr (by decide))) (Eq.trans (a_up_ne (Or.inr (by decide))) (rfl))) ?_
              refine aw_lload d_Mo_compress64_404 rfl ?_
              refine aw_ladd d_Mo_compress64_406 ?_
              refine ax_last d_Mo_compress64_407 (kq_195 S) (by decide) (by omega) (by rw [nq_195 S]; omega) ?_
              refine aw_aload_n d_Mo_compress64_408 rfl rfl ?_
              refine ax_getR (b := 195) d_Mo_compress64_409 fd_Mo_47 (kq_175 S) (rq_175_13 S) ?_
              refine aw_iconst d_Mo_compress64_412 ⟨by decide, by decide⟩ ?_
              refine aw_dup2 d_Mo_compress64_413 rfl rfl ?_
              refine ax_lalde (x := K3 195 3) d_Mo_compress64_414 (kq_195 S) (by omega) (by rw [nq_195 S]; omega) (Eq.trans (a_up_ne (Or.inr (by decide))) (Eq.trans (a_up_ne (Or.inr (by decide))) (Eq.trans (a_up_ne (Or.inr (by decide))) (rfl)))) ?_
              refine aw_lload d_Mo_compress64_415 rfl ?_
              refine aw_ladd d_Mo_compress64_417 ?_
              refine ax_last d_Mo_compress64_418 (kq_195 S) (by decide) (by omega) (by rw [nq_195 S]; omega) ?_
              refine aw_aload_n d_Mo_compress64_419 rfl rfl ?_
              refine ax_getR (b := 195) d_Mo_compress64_420 fd_Mo_47 (kq_175 S) (rq_175_13 S) ?_
              refine aw_iconst d_Mo_compress64_423 ⟨by decide, by decide⟩ ?_
              refine aw_dup2 d_Mo_compress64_424 rfl rfl ?_
              refine ax_lalde (x := K3 195 4) d_Mo_compress64_425 (kq_195 S) (by omega) (by rw [nq_195 S]; omega) (Eq.trans (a_up_ne (Or.inr (by decide))) (Eq.trans (a_up_ne (Or.inr (by decide))) (Eq.trans (a_up_ne (Or.inr (by decide))) (Eq.trans (a_up_ne (Or.inr (by decide))) (rfl))))) ?_
              refine aw_lload d_Mo_compress64_426 rfl ?_
              refine aw_ladd d_Mo_compress64_428 ?_
              refine ax_last d_Mo_compress64_429 (kq_195 S) (by decide) (by omega) (by rw [nq_195 S]; omega) ?_
              refine aw_aload_n d_Mo_compress64_430 rfl rfl ?_
              refine ax_getR (b := 195) d_Mo_compress64_431 fd_Mo_47 (kq_175 S) (rq_175_13 S) ?_
              refine aw_iconst d_Mo_compress64_434 ⟨by decide, by decide⟩ ?_
              refine aw_dup2 d_Mo_compress64_435 rfl rfl ?_
              refine ax_lalde (x := K3 195 5) d_Mo_compress64_436 (kq_195 S) (by omega) (by rw [nq_195 S]; omega) (Eq.trans (a_up_ne (Or.inr (by decide))) (Eq.trans (a_up_ne (Or.inr (by decide))) (Eq.trans (a_up_ne (Or.inr (by decide))) (Eq.trans (a_up_ne (Or.inr (by decide))) (Eq.trans (a_up_ne (Or.inr (by decide))) (rfl)))))) ?_
              refine aw_lload d_Mo_compress64_437 rfl ?_
              refine aw_ladd d_Mo_compress64_439 ?_
              refine ax_last d_Mo_compress64_440 (kq_195 S) (by decide) (by omega) (by rw [nq_195 S]; omega) ?_
              refine aw_aload_n d_Mo_compress64_441 rfl rfl ?_
              refine ax_getR (b := 195) d_Mo_compress64_442 fd_Mo_47 (kq_175 S) (rq_175_13 S) ?_
              refine aw_bipush d_Mo_compress64_445 ⟨by decide, by decide⟩ (by decide) ?_
              refine aw_dup2 d_Mo_compress64_447 rfl rfl ?_
              refine ax_lalde (x := K3 195 6) d_Mo_compress64_448 (kq_195 S) (by omega) (by rw [nq_195 S]; omega) (Eq.trans (a_up_ne (Or.inr (by decide))) (Eq.trans (a_up_ne (Or.inr (by decide))) (Eq.trans (a_up_ne (Or.inr (by decide))) (Eq.trans (a_up_ne (Or.inr (by decide))) (Eq.trans (a_up_ne (Or.inr (by decide))) (Eq.trans (a_up_ne (Or.inr (by decide))) (rfl))))))) ?_
              refine aw_lload d_Mo_compress64_449 rfl ?_
              refine aw_ladd d_Mo_compress64_451 ?_
              refine ax_last d_Mo_compress64_452 (kq_195 S) (by decide) (by omega) (by rw [nq_195 S]; omega) ?_
              refine aw_aload_n d_Mo_compress64_453 rfl rfl ?_
              refine ax_getR (b := 195) d_Mo_compress64_454 fd_Mo_47 (kq_175 S) (rq_175_13 S) ?_
              refine aw_bipush d_Mo_compress64_457 ⟨by decide, by decide⟩ (by decide) ?_
              refine aw_dup2 d_Mo_compress64_459 rfl rfl ?_
              refine ax_lalde (x := K3 195 7) d_Mo_compress64_460 (kq_195 S) (by omega) (by rw [nq_195 S]; omega) (Eq.trans (a_up_ne (Or.inr (by decide))) (Eq.trans (a_up_ne (Or.inr (by decide))) (Eq.trans (a_up_ne (Or.inr (by decide))) (Eq.trans (a_up_ne (Or.inr (by decide))) (Eq.trans (a_up_ne (Or.inr (by decide))) (Eq.trans (a_up_ne (Or.inr (by decide))) (Eq.trans (a_up_ne (Or.inr (by decide))) (rfl)))))))) ?_
              refine aw_lload d_Mo_compress64_461 rfl ?_
              refine aw_ladd d_Mo_compress64_463 ?_
              refine ax_last d_Mo_compress64_464 (kq_195 S) (by decide) (by omega) (by rw [nq_195 S]; omega) ?_
              exact aw_vret d_Mo_compress64_465 rfl (hP _ (Fq.uL (Fq.uL (Fq.uL (Fq.uL (Fq.uL (Fq.uL (Fq.uL (Fq.uL (f3) (by decide)) (by decide)) (by decide)) (by decide)) (by decide)) (by decide)) (by decide)) (by decide)))
            · skip
              refine aw_lload d_Mo_compress64_241 rfl ?_
              refine aw_lload d_Mo_compress64_243 rfl ?_
              refine aw_bipush d_Mo_compress64_245 ⟨by decide, by decide⟩ (by decide) ?_
              refine ax_Sr (st := [vl v7]) (as := [vl v4, vi 14]) d_Mo_compress64_247 cs_Mo_compress64_247 (c_Mo_right (by omega)) rfl rfl rfl (fun u_247 q_247 => ?_)
              show AW l G M_Mo_compress64 P 250 [(17, vi t), (15, vl v7), (13, vl v6), (11, vl v5), (9, vl v4), (7, vl v3), (5, vl v2), (3, vl v1), (1, vl v0), (0, vr 175)] [vl u_247, vl v7] (sD h I K3)
              refine aw_lload d_Mo_compress64_250 rfl ?_
              refine aw_bipush d_Mo_compress64_252 ⟨by decide, by decide⟩ (by decide) ?_
              refine ax_Sr (st := [vl u_247, vl v7]) (as := [vl v4, vi 18]) d_Mo_compress64_254 cs_Mo_compress64_254 (c_Mo_right (by omega)) rfl rfl rfl (fun u_254 q_254 => ?_)
              show AW l G M_Mo_compress64 P 257 [(17, vi t), (15, vl v7), (13, vl v6), (11, vl v5), (9, vl v4), (7, vl v3), (5, vl v2), (3, vl v1), (1, vl v0), (0, vr 175)] [vl u_254, vl u_247, vl v7] (sD h I K3)
              refine aw_lxor d_Mo_compress64_257 ?_
              refine aw_lload d_Mo_compress64_258 rfl ?_
              refine aw_bipush d_Mo_compress64_260 ⟨by decide, by decide⟩ (by decide) ?_
              refine ax_Sr (st := [vl (a_lxor u_247 u_254), vl v7]) (as := [vl v4, vi 41]) d_Mo_compress64_262 cs_Mo_compress64_262 (c_Mo_right (by omega)) rfl rfl rfl (fun u_262 q_262 => ?_)
              show AW l G M_Mo_compress64 P 265 [(17, vi t), (15, vl v7), (13, vl v6), (11, vl v5), (9, vl v4), (7, vl v3), (5, vl v2), (3, vl v1), (1, vl v0), (0, vr 175)] [vl u_262, vl (a_lxor u_247 u_254), vl v7] (sD h I K3)
              refine aw_lxor d_Mo_compress64_265 ?_
              refine aw_ladd d_Mo_compress64_266 ?_
              refine aw_lload d_Mo_compress64_267 rfl ?_
              refine aw_lload d_Mo_compress64_269 rfl ?_
              refine aw_land d_Mo_compress64_271 ?_
              refine aw_lload d_Mo_compress64_272 rfl ?_
              refine aw_ldc2 (n := -1) d_Mo_compress64_274 lc_Mo_201 ⟨by decide, by decide⟩ ?_
              refine aw_lxor d_Mo_compress64_277 ?_
              refine aw_lload d_Mo_compress64_278 rfl ?_
              refine aw_land d_Mo_compress64_280 ?_
              refine aw_lxor d_Mo_compress64_281 ?_
              refine aw_ladd d_Mo_compress64_282 ?_
              refine aw_aload_n d_Mo_compress64_283 rfl rfl ?_
              refine ax_getR (b := 188) d_Mo_compress64_284 fd_Mo_26 (kq_175 S) (rq_175_6 S) ?_
              refine aw_iload d_Mo_compress64_287 rfl ?_
              refine ax_lalde (x := K3 188 t) d_Mo_compress64_289 (kq_188 S) (by omega) (by rw [nq_188 S]; omega) (rfl) ?_
              refine aw_ladd d_Mo_compress64_290 ?_
              refine aw_aload_n d_Mo_compress64_291 rfl rfl ?_
              refine ax_getR (b := 198) d_Mo_compress64_292 fd_Mo_56 (kq_175 S) (rq_175_16 S) ?_
              refine aw_iload d_Mo_compress64_295 rfl ?_
              refine ax_lalde (x := K3 198 t) d_Mo_compress64_297 (kq_198 S) (by omega) (by rw [nq_198 S]; omega) (rfl) ?_
              refine aw_ladd d_Mo_compress64_298 ?_
              refine aw_lstore (lv' := [(18, vl (a_w64 ((a_w64 ((a_w64 ((a_w64 (v7 + (a_lxor (a_lxor u_247 u_254) u_262))) + (a_lxor (a_land v4 v5) (a_land (a_lxor v4 (-1)) v6)))) + (K3 188 t))) + (K3 198 t)))), (17, vi t), (15, vl v7), (13, vl v6), (11, vl v5), (9, vl v4), (7, vl v3), (5, vl v2), (3, vl v1), (1, vl v0), (0, vr 175)]) d_Mo_compress64_299 (by decide) rfl ?_
              refine aw_lload_n d_Mo_compress64_301 rfl rfl ?_
              refine aw_bipush d_Mo_compress64_302 ⟨by decide, by decide⟩ (by decide) ?_
              refine ax_Sr (st := []) (as := [vl v0, vi 28]) d_Mo_compress64_304 cs_Mo_compress64_304 (c_Mo_right (by omega)) rfl rfl rfl (fun u_304 q_304 => ?_)
              show AW l G M_Mo_compress64 P 307 [(18, vl (a_w64 ((a_w64 ((a_w64 ((a_w64 (v7 + (a_lxor (a_lxor u_247 u_254) u_262))) + (a_lxor (a_land v4 v5) (a_land (a_lxor v4 (-1)) v6)))) + (K3 188 t))) + (K3 198 t)))), (17, vi t), (15, vl v7), (13, vl v6), (11, vl v5), (9, vl v4), (7, vl v3), (5, vl v2), (3, vl v1), (1, vl v0), (0, vr 175)] [vl u_304] (sD h I K3)
              refine aw_lload_n d_Mo_compress64_307 rfl rfl ?_
              refine aw_bipush d_Mo_compress64_308 ⟨by decide, by decide⟩ (by decide) ?_
              refine ax_Sr (st := [vl u_304]) (as := [vl v0, vi 34]) d_Mo_compress64_310 cs_Mo_compress64_310 (c_Mo_right (by omega)) rfl rfl rfl (fun u_310 q_310 => ?_)
              show AW l G M_Mo_compress64 P 313 [(18, vl (a_w64 ((a_w64 ((a_w64 ((a_w64 (v7 + (a_lxor (a_lxor u_247 u_254) u_262))) + (a_lxor (a_land v4 v5) (a_land (a_lxor v4 (-1)) v6)))) + (K3 188 t))) + (K3 198 t)))), (17, vi t), (15, vl v7), (13, vl v6), (11, vl v5), (9, vl v4), (7, vl v3), (5, vl v2), (3, vl v1), (1, vl v0), (0, vr 175)] [vl u_310, vl u_304] (sD h I K3)
              refine aw_lxor d_Mo_compress64_313 ?_
              refine aw_lload_n d_Mo_compress64_314 rfl rfl ?_
              refine aw_bipush d_Mo_compress64_315 ⟨by decide, by decide⟩ (by decide) ?_
              refine ax_Sr (st := [vl (a_lxor u_304 u_310)]) (as := [vl v0, vi 39]) d_Mo_compress64_317 cs_Mo_compress64_317 (c_Mo_right (by omega)) rfl rfl rfl (fun u_317 q_317 => ?_)
              show AW l G M_Mo_compress64 P 320 [(18, vl (a_w64 ((a_w64 ((a_w64 ((a_w64 (v7 + (a_lxor (a_lxor u_247 u_254) u_262))) + (a_lxor (a_land v4 v5) (a_land (a_lxor v4 (-1)) v6)))) + (K3 188 t))) + (K3 198 t)))), (17, vi t), (15, vl v7), (13, vl v6), (11, vl v5), (9, vl v4), (7, vl v3), (5, vl v2), (3, vl v1), (1, vl v0), (0, vr 175)] [vl u_317, vl (a_lxor u_304 u_310)] (sD h I K3)
              refine aw_lxor d_Mo_compress64_320 ?_
              refine aw_lload_n d_Mo_compress64_321 rfl rfl ?_
              refine aw_lload_n d_Mo_compress64_322 rfl rfl ?_
              refine aw_land d_Mo_compress64_323 ?_
              refine aw_lload_n d_Mo_compress64_324 rfl rfl ?_
              refine aw_lload d_Mo_compress64_325 rfl ?_
              refine aw_land d_Mo_compress64_327 ?_
              refine aw_lxor d_Mo_compress64_328 ?_
              refine aw_lload_n d_Mo_compress64_329 rfl rfl ?_
              refine aw_lload d_Mo_compress64_330 rfl ?_
              refine aw_land d_Mo_compress64_332 ?_
              refine aw_lxor d_Mo_compress64_333 ?_
              refine aw_ladd d_Mo_compress64_334 ?_
              refine aw_lstore (lv' := [(20, vl (a_w64 ((a_lxor (a_lxor u_304 u_310) u_317) + (a_lxor (a_lxor (a_land v0 v1) (a_land v0 v2)) (a_land v1 v2))))), (18, vl (a_w64 ((a_w64 ((a_w64 ((a_w64 (v7 + (a_lxor (a_lxor u_247 u_254) u_262))) + (a_lxor (a_land v4 v5) (a_land (a_lxor v4 (-1)) v6)))) + (K3 188 t))) + (K3 198 t)))), (17, vi t), (15, vl v7), (13, vl v6), (11, vl v5), (9, vl v4), (7, vl v3), (5, vl v2), (3, vl v1), (1, vl v0), (0, vr 175)]) d_Mo_compress64_335 (by decide) rfl ?_
              refine aw_lload d_Mo_compress64_337 rfl ?_
              refine aw_lstore (lv' := [(15, vl v6), (20, vl (a_w64 ((a_lxor (a_lxor u_304 u_310) u_317) + (a_lxor (a_lxor (a_land v0 v1) (a_land v0 v2)) (a_land v1 v2))))), (18, vl (a_w64 ((a_w64 ((a_w64 ((a_w64 (v7 + (a_lxor (a_lxor u_247 u_254) u_262))) + (a_lxor (a_land v4 v5) (a_land (a_lxor v4 (-1)) v6)))) + (K3 188 t))) + (K3 198 t)))), (17, vi t), (13, vl v6), (11, vl v5), (9, vl v4), (7, vl v3), (5, vl v2), (3, vl v1), (1, vl v0), (0, vr 175)]) d_Mo_compress64_339 (by decide) rfl ?_
              refine aw_lload d_Mo_compress64_341 rfl ?_
              refine aw_lstore (lv' := [(13, vl v5), (15, vl v6), (20, vl (a_w64 ((a_lxor (a_lxor u_304 u_310) u_317) + (a_lxor (a_lxor (a_land v0 v1) (a_land v0 v2)) (a_land v1 v2))))), (18, vl (a_w64 ((a_w64 ((a_w64 ((a_w64 (v7 + (a_lxor (a_lxor u_247 u_254) u_262))) + (a_lxor (a_land v4 v5) (a_land (a_lxor v4 (-1)) v6)))) + (K3 188 t))) + (K3 198 t)))), (17, vi t), (11, vl v5), (9, vl v4), (7, vl v3), (5, vl v2), (3, vl v1), (1, vl v0), (0, vr 175)]) d_Mo_compress64_343 (by decide) rfl ?_
              refine aw_lload d_Mo_compress64_345 rfl ?_
              refine aw_lstore (lv' := [(11, vl v4), (13, vl v5), (15, vl v6), (20, vl (a_w64 ((a_lxor (a_lxor u_304 u_310) u_317) + (a_lxor (a_lxor (a_land v0 v1) (a_land v0 v2)) (a_land v1 v2))))), (18, vl (a_w64 ((a_w64 ((a_w64 ((a_w64 (v7 + (a_lxor (a_lxor u_247 u_254) u_262))) + (a_lxor (a_land v4 v5) (a_land (a_lxor v4 (-1)) v6)))) + (K3 188 t))) + (K3 198 t)))), (17, vi t), (9, vl v4), (7, vl v3), (5, vl v2), (3, vl v1), (1, vl v0), (0, vr 175)]) d_Mo_compress64_347 (by decide) rfl ?_
              refine aw_lload d_Mo_compress64_349 rfl ?_
              refine aw_lload d_Mo_compress64_351 rfl ?_
              refine aw_ladd d_Mo_compress64_353 ?_
              refine aw_lstore (lv' := [(9, vl (a_w64 (v3 + (a_w64 ((a_w64 ((a_w64 ((a_w64 (v7 + (a_lxor (a_lxor u_247 u_254) u_262))) + (a_lxor (a_land v4 v5) (a_land (a_lxor v4 (-1)) v6)))) + (K3 188 t))) + (K3 198 t)))))), (11, vl v4), (13, vl v5), (15, vl v6), (20, vl (a_w64 ((a_lxor (a_lxor u_304 u_310) u_317) + (a_lxor (a_lxor (a_land v0 v1) (a_land v0 v2)) (a_land v1 v2))))), (18, vl (a_w64 ((a_w64 ((a_w64 ((a_w64 (v7 + (a_lxor (a_lxor u_247 u_254) u_262))) + (a_lxor (a_land v4 v5) (a_land (a_lxor v4 (-1)) v6)))) + (K3 188 t))) + (K3 198 t)))), (17, vi t), (7, vl v3), (5, vl v2), (3, vl v1), (1, vl v0), (0, vr 175)]) d_Mo_compress64_354 (by decide) rfl ?_
              refine aw_lload d_Mo_compress64_356 rfl ?_
              refine aw_lstore (lv' := [(7, vl v2), (9, vl (a_w64 (v3 + (a_w64 ((a_w64 ((a_w64 ((a_w64 (v7 + (a_lxor (a_lxor u_247 u_254) u_262))) + (a_lxor (a_land v4 v5) (a_land (a_lxor v4 (-1)) v6)))) + (K3 188 t))) + (K3 198 t)))))), (11, vl v4), (13, vl v5), (15, vl v6), (20, vl (a_w64 ((a_lxor (a_lxor u_304 u_310) u_317) + (a_lxor (a_lxor (a_land v0 v1) (a_land v0 v2)) (a_land v1 v2))))), (18, vl (a_w64 ((a_w64 ((a_w64 ((a_w64 (v7 + (a_lxor (a_lxor u_247 u_254) u_262))) + (a_lxor (a_land v4 v5) (a_land (a_lxor v4 (-1)) v6)))) + (K3 188 t))) + (K3 198 t)))), (17, vi t), (5, vl v2), (3, vl v1), (1, vl v0), (0, vr 175)]) d_Mo_compress64_358 (by decide) rfl ?_
              refine aw_lload_n d_Mo_compress64_360 rfl rfl ?_
              refine aw_lstore (lv' := [(5, vl v1), (7, vl v2), (9, vl (a_w64 (v3 + (a_w64 ((a_w64 ((a_w64 ((a_w64 (v7 + (a_lxor (a_lxor u_247 u_254) u_262))) + (a_lxor (a_land v4 v5) (a_land (a_lxor v4 (-1)) v6)))) + (K3 188 t))) + (K3 198 t)))))), (11, vl v4), (13, vl v5), (15, vl v6), (20, vl (a_w64 ((a_lxor (a_lxor u_304 u_310) u_317) + (a_lxor (a_lxor (a_land v0 v1) (a_land v0 v2)) (a_land v1 v2))))), (18, vl (a_w64 ((a_w64 ((a_w64 ((a_w64 (v7 + (a_lxor (a_lxor u_247 u_254) u_262))) + (a_lxor (a_land v4 v5) (a_land (a_lxor v4 (-1)) v6)))) + (K3 188 t))) + (K3 198 t)))), (17, vi t), (3, vl v1), (1, vl v0), (0, vr 175)]) d_Mo_compress64_361 (by decide) rfl ?_
              refine aw_lload_n d_Mo_compress64_363 rfl rfl ?_
              refine aw_lstore_n (lv' := [(3, vl v0), (5, vl v1), (7, vl v2), (9, vl (a_w64 (v3 + (a_w64 ((a_w64 ((a_w64 ((a_w64 (v7 + (a_lxor (a_lxor u_247 u_254) u_262))) + (a_lxor (a_land v4 v5) (a_land (a_lxor v4 (-1)) v6)))) + (K3 188 t))) + (K3 198 t)))))), (11, vl v4), (13, vl v5), (15, vl v6), (20, vl (a_w64 ((a_lxor (a_lxor u_304 u_310) u_317) + (a_lxor (a_lxor (a_land v0 v1) (a_land v0 v2)) (a_land v1 v2))))), (18, vl (a_w64 ((a_w64 ((a_w64 ((a_w64 (v7 + (a_lxor (a_lxor u_247 u_254) u_262))) + (a_lxor (a_land v4 v5) (a_land (a_lxor v4 (-1)) v6)))) + (K3 188 t))) + (K3 198 t)))), (17, vi t), (1, vl v0), (0, vr 175)]) d_Mo_compress64_364 rfl (by decide) rfl ?_
              refine aw_lload d_Mo_compress64_365 rfl ?_
              refine aw_lload d_Mo_compress64_367 rfl ?_
              refine aw_ladd d_Mo_compress64_369 ?_
              refine aw_lstore_n (lv' := [(1, vl (a_w64 ((a_w64 ((a_w64 ((a_w64 ((a_w64 (v7 + (a_lxor (a_lxor u_247 u_254) u_262))) + (a_lxor (a_land v4 v5) (a_land (a_lxor v4 (-1)) v6)))) + (K3 188 t))) + (K3 198 t))) + (a_w64 ((a_lxor (a_lxor u_304 u_310) u_317) + (a_lxor (a_lxor (a_land v0 v1) (a_land v0 v2)) (a_land v1 v2))))))), (3, vl v0), (5, vl v1), (7, vl v2), (9, vl (a_w64 (v3 + (a_w64 ((a_w64 ((a_w64 ((a_w64 (v7 + (a_lxor (a_lxor u_247 u_254) u_262))) + (a_lxor (a_land v4 v5) (a_land (a_lxor v4 (-1)) v6)))) + (K3 188 t))) + (K3 198 t)))))), (11, vl v4), (13, vl v5), (15, vl v6), (20, vl (a_w64 ((a_lxor (a_lxor u_304 u_310) u_317) + (a_lxor (a_lxor (a_land v0 v1) (a_land v0 v2)) (a_land v1 v2))))), (18, vl (a_w64 ((a_w64 ((a_w64 ((a_w64 (v7 + (a_lxor (a_lxor u_247 u_254) u_262))) + (a_lxor (a_land v4 v5) (a_land (a_lxor v4 (-1)) v6)))) + (K3 188 t))) + (K3 198 t)))), (17, vi t), (0, vr 175)]) d_Mo_compress64_370 rfl (by decide) rfl ?_
              refine ax_iinc (lv' := [(17, vi (t + 1)), (1, vl (a_w64 ((a_w64 ((a_w64 ((a_w64 ((a_w64 (v7 + (a_lxor (a_lxor u_247 u_254) u_262))) + (a_lxor (a_land v4 v5) (a_land (a_lxor v4 (-1)) v6)))) + (K3 188 t))) + (K3 198 t))) + (a_w64 ((a_lxor (a_lxor u_304 u_310) u_317) + (a_lxor (a_lxor (a_land v0 v1) (a_land v0 v2)) (a_land v1 v2))))))), (3, vl v0), (5, vl v1), (7, vl v2), (9, vl (a_w64 (v3 + (a_w64 ((a_w64 ((a_w64 ((a_w64 (v7 + (a_lxor (a_lxor u_247 u_254) u_262))) + (a_lxor (a_land v4 v5) (a_land (a_lxor v4 (-1)) v6)))) + (K3 188 t))) + (K3 198 t)))))), (11, vl v4), (13, vl v5), (15, vl v6), (20, vl (a_w64 ((a_lxor (a_lxor u_304 u_310) u_317) + (a_lxor (a_lxor (a_land v0 v1) (a_land v0 v2)) (a_land v1 v2))))), (18, vl (a_w64 ((a_w64 ((a_w64 ((a_w64 (v7 + (a_lxor (a_lxor u_247 u_254) u_262))) + (a_lxor (a_land v4 v5) (a_land (a_lxor v4 (-1)) v6)))) + (K3 188 t))) + (K3 198 t)))), (0, vr 175)]) d_Mo_compress64_371 rfl (by decide) ⟨(by omega), (by omega)⟩ rfl ?_
              refine aw_goto (tgt := 234) d_Mo_compress64_374 (by decide) ?_
              refine aw_sub (lv' := [(17, vi (t + 1)), (15, vl v6), (13, vl v5), (11, vl v4), (9, vl (a_w64 (v3 + (a_w64 ((a_w64 ((a_w64 ((a_w64 (v7 + (a_lxor (a_lxor u_247 u_254) u_262))) + (a_lxor (a_land v4 v5) (a_land (a_lxor v4 (-1)) v6)))) + (K3 188 t))) + (K3 198 t)))))), (7, vl v2), (5, vl v1), (3, vl v0), (1, vl (a_w64 ((a_w64 ((a_w64 ((a_w64 ((a_w64 (v7 + (a_lxor (a_lxor u_247 u_254) u_262))) + (a_lxor (a_land v4 v5) (a_land (a_lxor v4 (-1)) v6)))) + (K3 188 t))) + (K3 198 t))) + (a_w64 ((a_lxor (a_lxor u_304 u_310) u_317) + (a_lxor (a_lxor (a_land v0 v1) (a_land v0 v2)) (a_land v1 v2))))))), (0, vr 175)]) (by simp) ?_
              exact ih_234 _ (by omega) (t + 1) (a_w64 ((a_w64 ((a_w64 ((a_w64 ((a_w64 (v7 + (a_lxor (a_lxor u_247 u_254) u_262))) + (a_lxor (a_land v4 v5) (a_land (a_lxor v4 (-1)) v6)))) + (K3 188 t))) + (K3 198 t))) + (a_w64 ((a_lxor (a_lxor u_304 u_310) u_317) + (a_lxor (a_lxor (a_land v0 v1) (a_land v0 v2)) (a_land v1 v2)))))) v0 v1 v2 (a_w64 (v3 + (a_w64 ((a_w64 ((a_w64 ((a_w64 (v7 + (a_lxor (a_lxor u_247 u_254) u_262))) + (a_lxor (a_land v4 v5) (a_land (a_lxor v4 (-1)) v6)))) + (K3 188 t))) + (K3 198 t))))) v4 v5 v6 (by omega) rfl
          exact lp_234 _ 0 (K3 195 0) (K3 195 1) (K3 195 2) (K3 195 3) (K3 195 4) (K3 195 5) (K3 195 6) (K3 195 7) (by omega) rfl
        · skip
          refine aw_aload_n d_Mo_compress64_76 rfl rfl ?_
          refine ax_getR (b := 198) d_Mo_compress64_77 fd_Mo_56 (kq_175 S) (rq_175_16 S) ?_
          refine aw_iload_n d_Mo_compress64_80 rfl rfl ?_
          refine aw_iconst d_Mo_compress64_81 ⟨by decide, by decide⟩ ?_
          refine ax_isub d_Mo_compress64_82 ⟨(by omega), (by omega)⟩ ?_
          refine ax_lalde (x := K3 198 (i - 2)) d_Mo_compress64_83 (kq_198 S) (by omega) (by rw [nq_198 S]; omega) (rfl) ?_
          refine aw_lstore_n (lv' := [(2, vl (K3 198 (i - 2))), (1, vi i), (0, vr 175)]) d_Mo_compress64_84 rfl (by decide) rfl ?_
          refine aw_aload_n d_Mo_compress64_85 rfl rfl ?_
          refine ax_getR (b := 198) d_Mo_compress64_86 fd_Mo_56 (kq_175 S) (rq_175_16 S) ?_
          refine aw_iload_n d_Mo_compress64_89 rfl rfl ?_
          refine aw_bipush d_Mo_compress64_90 ⟨by decide, by decide⟩ (by decide) ?_
          refine ax_isub d_Mo_compress64_92 ⟨(by omega), (by omega)⟩ ?_
          refine ax_lalde (x := K3 198 (i - 15)) d_Mo_compress64_93 (kq_198 S) (by omega) (by rw [nq_198 S]; omega) (rfl) ?_
          refine aw_lstore (lv' := [(4, vl (K3 198 (i - 15))), (2, vl (K3 198 (i - 2))), (1, vi i), (0, vr 175)]) d_Mo_compress64_94 (by decide) rfl ?_
          refine aw_aload_n d_Mo_compress64_96 rfl rfl ?_
          refine ax_getR (b := 198) d_Mo_compress64_97 fd_Mo_56 (kq_175 S) (rq_175_16 S) ?_
          refine aw_iload_n d_Mo_compress64_100 rfl rfl ?_
          refine aw_lload_n d_Mo_compress64_101 rfl rfl ?_
          refine aw_bipush d_Mo_compress64_102 ⟨by decide, by decide⟩ (by decide) ?_
          refine ax_Sr (st := [vi i, vr 198]) (as := [vl (K3 198 (i - 2)), vi 19]) d_Mo_compress64_104 cs_Mo_compress64_104 (c_Mo_right (by omega)) rfl rfl rfl (fun u_104 q_104 => ?_)
          show AW l G M_Mo_compress64 P 107 [(4, vl (K3 198 (i - 15))), (2, vl (K3 198 (i - 2))), (1, vi i), (0, vr 175)] [vl u_104, vi i, vr 198] (sD h I K3)
          refine aw_lload_n d_Mo_compress64_107 rfl rfl ?_
          refine aw_bipush d_Mo_compress64_108 ⟨by decide, by decide⟩ (by decide) ?_
          refine ax_Sr (st := [vl u_104, vi i, vr 198]) (as := [vl (K3 198 (i - 2)), vi 61]) d_Mo_compress64_110 cs_Mo_compress64_110 (c_Mo_right (by omega)) rfl rfl rfl (fun u_110 q_110 => ?_)
          show AW l G M_Mo_compress64 P 113 [(4, vl (K3 198 (i - 15))), (2, vl (K3 198 (i - 2))), (1, vi i), (0, vr 175)] [vl u_110, vl u_104, vi i, vr 198] (sD h I K3)
          refine aw_lxor d_Mo_compress64_113 ?_
          refine aw_lload_n d_Mo_compress64_114 rfl rfl ?_
          refine aw_bipush d_Mo_compress64_115 ⟨by decide, by decide⟩ (by decide) ?_
          refine aw_lushr d_Mo_compress64_117 ?_
          refine aw_lxor d_Mo_compress64_118 ?_
          refine aw_aload_n d_Mo_compress64_119 rfl rfl ?_
          refine ax_getR (b := 198) d_Mo_compress64_120 fd_Mo_56 (kq_175 S) (rq_175_16 S) ?_
          refine aw_iload_n d_Mo_compress64_123 rfl rfl ?_
          refine aw_bipush d_Mo_compress64_124 ⟨by decide, by decide⟩ (by decide) ?_
          refine ax_isub d_Mo_compress64_126 ⟨(by omega), (by omega)⟩ ?_
          refine ax_lalde (x := K3 198 (i - 7)) d_Mo_compress64_127 (kq_198 S) (by omega) (by rw [nq_198 S]; omega) (rfl) ?_
          refine aw_ladd d_Mo_compress64_128 ?_
          refine aw_lload d_Mo_compress64_129 rfl ?_
          refine aw_iconst d_Mo_compress64_131 ⟨by decide, by decide⟩ ?_
          refine ax_Sr (st := [vl (a_w64 ((a_lxor (a_lxor u_104 u_110) (a_lushr (K3 198 (i - 2)) 6)) + (K3 198 (i - 7)))), vi i, vr 198]) (as := [vl (K3 198 (i - 15)), vi 1]) d_Mo_compress64_132 cs_Mo_compress64_132 (c_Mo_right (by omega)) rfl rfl rfl (fun u_132 q_132 => ?_)
          show AW l G M_Mo_compress64 P 135 [(4, vl (K3 198 (i - 15))), (2, vl (K3 198 (i - 2))), (1, vi i), (0, vr 175)] [vl u_132, vl (a_w64 ((a_lxor (a_lxor u_104 u_110) (a_lushr (K3 198 (i - 2)) 6)) + (K3 198 (i - 7)))), vi i, vr 198] (sD h I K3)
          refine aw_lload d_Mo_compress64_135 rfl ?_
          refine aw_bipush d_Mo_compress64_137 ⟨by decide, by decide⟩ (by decide) ?_
          refine ax_Sr (st := [vl u_132, vl (a_w64 ((a_lxor (a_lxor u_104 u_110) (a_lushr (K3 198 (i - 2)) 6)) + (K3 198 (i - 7)))), vi i, vr 198]) (as := [vl (K3 198 (i - 15)), vi 8]) d_Mo_compress64_139 cs_Mo_compress64_139 (c_Mo_right (by omega)) rfl rfl rfl (fun u_139 q_139 => ?_)
          show AW l G M_Mo_compress64 P 142 [(4, vl (K3 198 (i - 15))), (2, vl (K3 198 (i - 2))), (1, vi i), (0, vr 175)] [vl u_139, vl u_132, vl (a_w64 ((a_lxor (a_lxor u_104 u_110) (a_lushr (K3 198 (i - 2)) 6)) + (K3 198 (i - 7)))), vi i, vr 198] (sD h I K3)
          refine aw_lxor d_Mo_compress64_142 ?_
          refine aw_lload d_Mo_compress64_143 rfl ?_
          refine aw_bipush d_Mo_compress64_145 ⟨by decide, by decide⟩ (by decide) ?_
          refine aw_lushr d_Mo_compress64_147 ?_
          refine aw_lxor d_Mo_compress64_148 ?_
          refine aw_ladd d_Mo_compress64_149 ?_
          refine aw_aload_n d_Mo_compress64_150 rfl rfl ?_
          refine ax_getR (b := 198) d_Mo_compress64_151 fd_Mo_56 (kq_175 S) (rq_175_16 S) ?_
          refine aw_iload_n d_Mo_compress64_154 rfl rfl ?_
          refine aw_bipush d_Mo_compress64_155 ⟨by decide, by decide⟩ (by decide) ?_
          refine ax_isub d_Mo_compress64_157 ⟨(by omega), (by omega)⟩ ?_
          refine ax_lalde (x := K3 198 (i - 16)) d_Mo_compress64_158 (kq_198 S) (by omega) (by rw [nq_198 S]; omega) (rfl) ?_
          refine aw_ladd d_Mo_compress64_159 ?_
          refine ax_last d_Mo_compress64_160 (kq_198 S) (by decide) (by omega) (by rw [nq_198 S]; omega) ?_
          refine ax_iinc (lv' := [(1, vi (i + 1)), (4, vl (K3 198 (i - 15))), (2, vl (K3 198 (i - 2))), (0, vr 175)]) d_Mo_compress64_161 rfl (by decide) ⟨(by omega), (by omega)⟩ rfl ?_
          refine aw_goto (tgt := 70) d_Mo_compress64_164 (by decide) ?_
          refine aw_sub (lv' := [(1, vi (i + 1)), (0, vr 175)]) (by simp) ?_
          exact ih_70 _ (by omega) (i + 1) (a_up K3 198 i (a_w64 ((a_w64 ((a_w64 ((a_lxor (a_lxor u_104 u_110) (a_lushr (K3 198 (i - 2)) 6)) + (K3 198 (i - 7)))) + (a_lxor (a_lxor u_132 u_139) (a_lushr (K3 198 (i - 15)) 7)))) + (K3 198 (i - 16))))) (by omega) (f3.uL (by decide)) rfl
      exact lp_70 _ 16 K (by omega) (f1) rfl
    · skip
      refine aw_aload_n d_Mo_compress64_8 rfl rfl ?_
      refine ax_getR (b := 198) d_Mo_compress64_9 fd_Mo_56 (kq_175 S) (rq_175_16 S) ?_
      refine aw_iload_n d_Mo_compress64_12 rfl rfl ?_
      refine aw_lconst (x := 0) d_Mo_compress64_13 ⟨by decide, by decide⟩ (by decide) ?_
      refine ax_last d_Mo_compress64_14 (kq_198 S) (by decide) (by omega) (by rw [nq_198 S]; omega) ?_
      refine aw_iconst d_Mo_compress64_15 ⟨by decide, by decide⟩ ?_
      refine aw_istore_n (lv' := [(2, vi 0), (1, vi i), (0, vr 175)]) d_Mo_compress64_16 rfl (by decide) rfl ?_
      have lp_17 : ∀ (n_ : Nat) (k : Int) (K1 : Nat → Int → Int), (0 ≤ k ∧ k ≤ 8 ∧ i < 16) → (Fq I L I K1) → ((8 - k).toNat) = n_ → AW l G M_Mo_compress64 P 17 [(2, vi k), (1, vi i), (0, vr 175)] [] (sD h I K1) := by
        intro n_
        induction n_ using Nat.strongRecOn with
        | _ n_ ih_17 =>
        intro k K1 hk2 f2 hm_17
        refine aw_iload_n d_Mo_compress64_17 rfl rfl ?_
        refine aw_bipush d_Mo_compress64_18 ⟨by decide, by decide⟩ (by decide) ?_
        refine aw_icmp_ge (tgt := 61) d_Mo_compress64_20 (by decide) (fun c_20 => ?_) (fun c_20 => ?_)
        · skip
          refine ax_iinc (lv' := [(1, vi (i + 1)), (2, vi k), (0, vr 175)]) d_Mo_compress64_61 rfl (by decide) ⟨(by omega), (by omega)⟩ rfl ?_
          refine aw_goto (tgt := 2) d_Mo_compress64_64 (by decide) ?_
          refine aw_sub (lv' := [(1, vi (i + 1)), (0, vr 175)]) (by simp) ?_
          exact ih_2 _ (by omega) (i + 1) K1 (by omega) (f2) rfl
        · skip
          refine aw_aload_n d_Mo_compress64_23 rfl rfl ?_
          refine ax_getR (b := 198) d_Mo_compress64_24 fd_Mo_56 (kq_175 S) (rq_175_16 S) ?_
          refine aw_iload_n d_Mo_compress64_27 rfl rfl ?_
          refine aw_aload_n d_Mo_compress64_28 rfl rfl ?_
          refine ax_getR (b := 198) d_Mo_compress64_29 fd_Mo_56 (kq_175 S) (rq_175_16 S) ?_
          refine aw_iload_n d_Mo_compress64_32 rfl rfl ?_
          refine ax_lalde (x := K1 198 i) d_Mo_compress64_33 (kq_198 S) (by omega) (by rw [nq_198 S]; omega) (rfl) ?_
          refine aw_bipush d_Mo_compress64_34 ⟨by decide, by decide⟩ (by decide) ?_
          refine aw_lshl d_Mo_compress64_36 ?_
          refine aw_aload_n d_Mo_compress64_37 rfl rfl ?_
          refine ax_getR (b := 199) d_Mo_compress64_38 fd_Mo_59 (kq_175 S) (rq_175_17 S) ?_
          refine aw_bipush d_Mo_compress64_41 ⟨by decide, by decide⟩ (by decide) ?_
          refine aw_iload_n d_Mo_compress64_43 rfl rfl ?_
          refine ax_imul d_Mo_compress64_44 ⟨(by omega), (by omega)⟩ ?_
          refine aw_iload_n d_Mo_compress64_45 rfl rfl ?_
          refine ax_iadd d_Mo_compress64_46 ⟨(by omega), (by omega)⟩ ?_
          refine ax_balde (x := I 199 ((8 * i) + k)) d_Mo_compress64_47 (kq_199 S) (by omega) (by rw [nq_199 S]; omega) (rfl) ?_
          refine aw_i2l d_Mo_compress64_48 ?_
          refine aw_ldc2 (n := 255) d_Mo_compress64_49 lc_Mo_124 ⟨by decide, by decide⟩ ?_
          refine aw_land d_Mo_compress64_52 ?_
          refine ax_tl (x := (I 199 ((8 * i) + k)) % 256) (a_land' 8 (by decide) (by decide) (by decide)) ?_
          refine aw_lor d_Mo_compress64_53 ?_
          refine ax_last d_Mo_compress64_54 (kq_198 S) (by decide) (by omega) (by rw [nq_198 S]; omega) ?_
          refine ax_iinc (lv' := [(2, vi (k + 1)), (1, vi i), (0, vr 175)]) d_Mo_compress64_55 rfl (by decide) ⟨(by omega), (by omega)⟩ rfl ?_
          refine aw_goto (tgt := 17) d_Mo_compress64_58 (by decide) ?_
          exact ih_17 _ (by omega) (k + 1) (a_up K1 198 i (a_lor (a_lshl (K1 198 i) 8) ((I 199 ((8 * i) + k)) % 256))) (by omega) (f2.uL (by decide)) rfl
      exact lp_17 _ 0 (a_up K 198 i 0) (by omega) (f1.uL (by decide)) rfl
  exact lp_2 _ 0 L (by omega) (Fq.rf) rfl
set_option maxHeartbeats 800000 in
set_option maxRecDepth 100000 in
theorem c_Mo_spong0 {l : Launch} {G : a_G} {h : Hp} {I L : Nat → Int → Int} (S : Shq h) (hk : I 175 18 ≤ 6) : AW l G M_Mo_sponge (Rx (some (vi 0)) (sD h I L)) 0 (a_ar 0 [vr 175]) [] (sD h I L) := by
  suffices key : ∀ P : a_R → Hp → Prop, (P (.inl (some (vi 0))) (sD h I L)) → AW l G M_Mo_sponge P 0 [(0, vr 175)] [] (sD h I L) from key _ (⟨rfl, rfl⟩)
  intro P hP
  refine aw_aload_n d_Mo_sponge_0 rfl rfl ?_
  refine ax_getIe (x := I 175 18) d_Mo_sponge_1 fd_Mo_159 (kq_175 S) (rfl) ?_
  refine aw_bipush d_Mo_sponge_4 ⟨by decide, by decide⟩ (by decide) ?_
  refine aw_icmp_le (tgt := 13) d_Mo_sponge_6 (by decide) (fun c_6 => ?_) (fun c_6 => False.elim (by omega))
  refine aw_iconst d_Mo_sponge_13 ⟨by decide, by decide⟩ ?_
  exact aw_zret d_Mo_sponge_14 rfl ⟨by decide, by decide⟩ hP
set_option maxHeartbeats 800000 in
set_option maxRecDepth 100000 in
theorem c_Mo_block3 {l : Launch} {G : a_G} {h : Hp}  : AW l G M_Mo_blockOf (Rx (some (vi 128)) h) 0 (a_ar 0 [vi 3]) [] (h) := by
  suffices key : ∀ P : a_R → Hp → Prop, (P (.inl (some (vi 128))) h) → AW l G M_Mo_blockOf P 0 [(0, vi 3)] [] (h) from key _ (⟨rfl, rfl⟩)
  intro P hP
  refine aw_iload_n d_Mo_blockOf_0 rfl rfl ?_
  refine aw_iconst d_Mo_blockOf_1 ⟨by decide, by decide⟩ ?_
  refine aw_icmp_eq (tgt := 10) d_Mo_blockOf_2 (by decide) (fun c_2 => False.elim (by omega)) (fun c_2 => ?_)
  refine aw_iload_n d_Mo_blockOf_5 rfl rfl ?_
  refine aw_iconst d_Mo_blockOf_6 ⟨by decide, by decide⟩ ?_
  refine aw_icmp_ne (tgt := 15) d_Mo_blockOf_7 (by decide) (fun c_7 => ?_) (fun c_7 => False.elim (by omega))
  refine aw_sipush d_Mo_blockOf_15 ⟨by decide, by decide⟩ (by decide) ?_
  exact aw_iret d_Mo_blockOf_18 rfl hP
set_option maxHeartbeats 800000 in
set_option maxRecDepth 100000 in
theorem c_Mo_putK {l : Launch} {G : a_G} {h : Hp} {I L : Nat → Int → Int} {n v : Int} (S : Shq h) (hn : 0 ≤ n ∧ n ≤ 127) (qk : Kq I n) : AW l G M_Mo_put1 (Ret (fun _ : (Nat → Int → Int) × (Nat → Int → Int) => none) (fun u => sD h u.1 u.2) (fun u => Fq I L u.1 u.2 ∧ Kq u.1 (nx n))) 0 (a_ar 0 [vr 175, vi v]) [] (sD h I L) := by
  suffices key : ∀ P : a_R → Hp → Prop, (∀ J K : Nat → Int → Int, Fq I L J K → Kq J (nx n) → P (.inl none) (sD h J K)) → AW l G M_Mo_put1 P 0 [(0, vr 175), (1, vi v)] [] (sD h I L) from key _ (fun J K q1 q2 => ⟨(J, K), rfl, rfl, q1, q2⟩)
  intro P hP
  refine aw_aload_n d_Mo_put1_0 rfl rfl ?_
  refine ax_V (st := []) (as := []) (b := 175) (v := some (vi 0)) (h' := sD h I L) d_Mo_put1_1 cs_Mo_put1_1 (kq_175 S) (c_Mo_spong0 S (by rw [show I 175 18 = 3 from (qk.1)]; decide)) rfl rfl rfl ?_
  show AW l G M_Mo_put1 P 4 [(0, vr 175), (1, vi v)] [vi 0] (sD h I L)
  refine aw_if_eq (tgt := 19) d_Mo_put1_4 (by decide) (fun c_4 => ?_) (fun c_4 => False.elim (by omega))
  refine aw_aload_n d_Mo_put1_19 rfl rfl ?_
  refine ax_getR (b := 199) d_Mo_put1_20 fd_Mo_59 (kq_175 S) (rq_175_17 S) ?_
  refine aw_aload_n d_Mo_put1_23 rfl rfl ?_
  refine ax_getIe (x := n) d_Mo_put1_24 fd_Mo_162 (kq_175 S) (qk.2.2) ?_
  refine aw_iload_n d_Mo_put1_27 rfl rfl ?_
  refine aw_i2b d_Mo_put1_28 ?_
  refine ax_bast d_Mo_put1_29 (kq_199 S) (by decide) (by omega) (by rw [nq_199 S]; omega) ?_
  refine aw_aload_n d_Mo_put1_30 rfl rfl ?_
  refine aw_dup d_Mo_put1_31 rfl ?_
  refine ax_getIe (x := n) d_Mo_put1_32 fd_Mo_162 (kq_175 S) (Eq.trans (a_up_ne (Or.inl (by decide))) (qk.2.2)) ?_
  refine aw_iconst d_Mo_put1_35 ⟨by decide, by decide⟩ ?_
  refine ax_iadd d_Mo_put1_36 ⟨(by omega), (by omega)⟩ ?_
  refine ax_putI d_Mo_put1_37 fd_Mo_162 (kq_175 S) (by decide) rfl ?_
  refine aw_aload_n d_Mo_put1_40 rfl rfl ?_
  refine aw_dup d_Mo_put1_41 rfl ?_
  refine ax_getLe (x := L 175 21) d_Mo_put1_42 fd_Mo_165 (kq_175 S) (rfl) ?_
  refine aw_lconst (x := 1) d_Mo_put1_45 ⟨by decide, by decide⟩ (by decide) ?_
  refine aw_ladd d_Mo_put1_46 ?_
  refine ax_putL d_Mo_put1_47 fd_Mo_165 (kq_175 S) (by decide) rfl ?_
  refine aw_aload_n d_Mo_put1_50 rfl rfl ?_
  refine ax_getIe (x := n + 1) d_Mo_put1_51 fd_Mo_162 (kq_175 S) (a_up_at) ?_
  refine aw_aload_n d_Mo_put1_54 rfl rfl ?_
  refine ax_getIe (x := 128) d_Mo_put1_55 fd_Mo_175 (kq_175 S) (Eq.trans (a_up_ne (Or.inr (by decide))) (Eq.trans (a_up_ne (Or.inl (by decide))) (qk.2.1))) ?_
  refine aw_icmp_ne (tgt := 100) d_Mo_put1_58 (by decide) (fun c_58 => ?_) (fun c_58 => ?_)
  · skip
    exact aw_vret d_Mo_put1_100 rfl (hP _ _ ((Fq.uI (Fq.uI Fq.rf (Or.inl rfl)) (Or.inr ⟨rfl, Or.inr (Or.inr rfl)⟩)).uL (Or.inl rfl)) ⟨(Eq.trans (a_up_ne (Or.inr (by decide))) (Eq.trans (a_up_ne (Or.inl (by decide))) (qk.1))), (Eq.trans (a_up_ne (Or.inr (by decide))) (Eq.trans (a_up_ne (Or.inl (by decide))) (qk.2.1))), by unfold nx; rw [if_neg (by omega)]; exact (a_up_at)⟩)
  · skip
    refine aw_aload_n d_Mo_put1_61 rfl rfl ?_
    refine ax_V (st := []) (as := []) (b := 175) (v := some (vi 0)) (h' := sD h (a_up (a_up I 199 n (a_w8 (a_w8 v))) 175 20 (n + 1)) (a_up L 175 21 (a_w64 ((L 175 21) + 1)))) d_Mo_put1_62 cs_Mo_put1_62 (kq_175 S) (c_Mo_spong0 S (by rw [show (a_up (a_up I 199 n (a_w8 (a_w8 v))) 175 20 (n + 1)) 175 18 = 3 from (Eq.trans (a_up_ne (Or.inr (by decide))) (Eq.trans (a_up_ne (Or.inl (by decide))) (qk.1)))]; decide)) rfl rfl rfl ?_
    show AW l G M_Mo_put1 P 65 [(0, vr 175), (1, vi v)] [vi 0] (sD h (a_up (a_up I 199 n (a_w8 (a_w8 v))) 175 20 (n + 1)) (a_up L 175 21 (a_w64 ((L 175 21) + 1))))
    refine aw_if_eq (tgt := 75) d_Mo_put1_65 (by decide) (fun c_65 => ?_) (fun c_65 => False.elim (by omega))
    refine aw_aload_n d_Mo_put1_75 rfl rfl ?_
    refine ax_getIe (x := 128) d_Mo_put1_76 fd_Mo_175 (kq_175 S) (Eq.trans (a_up_ne (Or.inr (by decide))) (Eq.trans (a_up_ne (Or.inl (by decide))) (qk.2.1))) ?_
    refine aw_bipush d_Mo_put1_79 ⟨by decide, by decide⟩ (by decide) ?_
    refine aw_icmp_ne (tgt := 91) d_Mo_put1_81 (by decide) (fun c_81 => ?_) (fun c_81 => False.elim (by omega))
    refine aw_aload_n d_Mo_put1_91 rfl rfl ?_
    refine ax_Vr (st := []) (as := []) (b := 175) d_Mo_put1_92 cs_Mo_put1_92 (kq_175 S) (c_Mo_compress64 S) rfl rfl rfl (fun u_92 q_92 => ?_)
    show AW l G M_Mo_put1 P 95 [(0, vr 175), (1, vi v)] [] (sD h (a_up (a_up I 199 n (a_w8 (a_w8 v))) 175 20 (n + 1)) u_92)
    refine aw_aload_n d_Mo_put1_95 rfl rfl ?_
    refine aw_iconst d_Mo_put1_96 ⟨by decide, by decide⟩ ?_
    refine ax_putI d_Mo_put1_97 fd_Mo_162 (kq_175 S) (by decide) rfl ?_
    exact aw_vret d_Mo_put1_100 rfl (hP _ _ (((((Fq.uI (Fq.uI Fq.rf (Or.inl rfl)) (Or.inr ⟨rfl, Or.inr (Or.inr rfl)⟩)).uL (Or.inl rfl))).tr q_92).uI (Or.inr ⟨rfl, Or.inr (Or.inr rfl)⟩)) ⟨(Eq.trans (a_up_ne (Or.inr (by decide))) (Eq.trans (a_up_ne (Or.inr (by decide))) (Eq.trans (a_up_ne (Or.inl (by decide))) (qk.1)))), (Eq.trans (a_up_ne (Or.inr (by decide))) (Eq.trans (a_up_ne (Or.inr (by decide))) (Eq.trans (a_up_ne (Or.inl (by decide))) (qk.2.1)))), by unfold nx; rw [if_pos (by omega)]; exact (a_up_at)⟩)
set_option maxHeartbeats 800000 in
set_option maxRecDepth 100000 in
theorem c_Mo_begin3 {l : Launch} {G : a_G} {h : Hp} {I L : Nat → Int → Int} (S : Shq h) : AW l G M_Mo_begin (Ret (fun _ : (Nat → Int → Int) × (Nat → Int → Int) => none) (fun u => sD h u.1 u.2) (fun u => Fq I L u.1 u.2 ∧ Kq u.1 0)) 0 (a_ar 0 [vr 175, vi 3]) [] (sD h I L) := by
  suffices key : ∀ P : a_R → Hp → Prop, (∀ J K : Nat → Int → Int, Fq I L J K → Kq J 0 → P (.inl none) (sD h J K)) → AW l G M_Mo_begin P 0 [(0, vr 175), (1, vi 3)] [] (sD h I L) from key _ (fun J K q1 q2 => ⟨(J, K), rfl, rfl, q1, q2⟩)
  intro P hP
  refine aw_aload_n d_Mo_begin_0 rfl rfl ?_
  refine aw_iload_n d_Mo_begin_1 rfl rfl ?_
  refine ax_putI d_Mo_begin_2 fd_Mo_159 (kq_175 S) (by decide) rfl ?_
  refine aw_aload_n d_Mo_begin_5 rfl rfl ?_
  refine aw_iconst d_Mo_begin_6 ⟨by decide, by decide⟩ ?_
  refine ax_putI d_Mo_begin_7 fd_Mo_162 (kq_175 S) (by decide) rfl ?_
  refine aw_aload_n d_Mo_begin_10 rfl rfl ?_
  refine aw_lconst (x := 0) d_Mo_begin_11 ⟨by decide, by decide⟩ (by decide) ?_
  refine ax_putL d_Mo_begin_12 fd_Mo_165 (kq_175 S) (by decide) rfl ?_
  refine aw_iconst d_Mo_begin_15 ⟨by decide, by decide⟩ ?_
  refine aw_istore_n (lv' := [(2, vi 0), (0, vr 175), (1, vi 3)]) d_Mo_begin_16 rfl (by decide) rfl ?_
  have lp_17 : ∀ (n_ : Nat) (i : Int) (K : Nat → Int → Int), (0 ≤ i ∧ i ≤ 25) → (Fq I L (a_up (a_up I 175 18 3) 175 20 0) K) → ((25 - i).toNat) = n_ → AW l G M_Mo_begin P 17 [(2, vi i), (1, vi 3), (0, vr 175)] [] (sD h (a_up (a_up I 175 18 3) 175 20 0) K) := by
    intro n_
    induction n_ using Nat.strongRecOn with
    | _ n_ ih_17 =>
    intro i K hi f1 hm_17
    refine aw_iload_n d_Mo_begin_17 rfl rfl ?_
    refine aw_bipush d_Mo_begin_18 ⟨by decide, by decide⟩ (by decide) ?_
    refine aw_icmp_ge (tgt := 36) d_Mo_begin_20 (by decide) (fun c_20 => ?_) (fun c_20 => ?_)
    · skip
      refine aw_aload_n d_Mo_begin_36 rfl rfl ?_
      refine aw_iload_n d_Mo_begin_37 rfl rfl ?_
      refine aw_bipush d_Mo_begin_38 ⟨by decide, by decide⟩ (by decide) ?_
      refine aw_icmp_ne (tgt := 49) d_Mo_begin_40 (by decide) (fun c_40 => ?_) (fun c_40 => False.elim (by omega))
      refine aw_iload_n d_Mo_begin_49 rfl rfl ?_
      refine aw_bipush d_Mo_begin_50 ⟨by decide, by decide⟩ (by decide) ?_
      refine aw_icmp_ne (tgt := 61) d_Mo_begin_52 (by decide) (fun c_52 => ?_) (fun c_52 => False.elim (by omega))
      refine aw_iload_n d_Mo_begin_61 rfl rfl ?_
      refine aw_bipush d_Mo_begin_62 ⟨by decide, by decide⟩ (by decide) ?_
      refine aw_icmp_le (tgt := 80) d_Mo_begin_64 (by decide) (fun c_64 => ?_) (fun c_64 => False.elim (by omega))
      refine aw_iload_n d_Mo_begin_80 rfl rfl ?_
      refine ax_S (st := [vr 175]) (as := [vi 3]) (v := some (vi 128)) (h' := sD h (a_up (a_up I 175 18 3) 175 20 0) K) d_Mo_begin_81 cs_Mo_begin_81 (c_Mo_block3) rfl rfl rfl ?_
      show AW l G M_Mo_begin P 84 [(2, vi i), (1, vi 3), (0, vr 175)] [vi 128, vr 175] (sD h (a_up (a_up I 175 18 3) 175 20 0) K)
      refine ax_putI d_Mo_begin_84 fd_Mo_175 (kq_175 S) (by decide) rfl ?_
      refine aw_iconst d_Mo_begin_87 ⟨by decide, by decide⟩ ?_
      refine aw_istore_n (lv' := [(2, vi 0), (1, vi 3), (0, vr 175)]) d_Mo_begin_88 rfl (by decide) rfl ?_
      have lp_89 : ∀ (n_ : Nat) (i : Int) (K2 : Nat → Int → Int), (0 ≤ i ∧ i ≤ 8) → (Fq I L (a_up (a_up (a_up I 175 18 3) 175 20 0) 175 19 128) K2) → ((8 - i).toNat) = n_ → AW l G M_Mo_begin P 89 [(2, vi i), (1, vi 3), (0, vr 175)] [] (sD h (a_up (a_up (a_up I 175 18 3) 175 20 0) 175 19 128) K2) := by
        intro n_
        induction n_ using Nat.strongRecOn with
        | _ n_ ih_89 =>
        intro i K2 hi2 f2 hm_89
        refine aw_iload_n d_Mo_begin_89 rfl rfl ?_
        refine aw_bipush d_Mo_begin_90 ⟨by decide, by decide⟩ (by decide) ?_
        refine aw_icmp_ge (tgt := 203) d_Mo_begin_92 (by decide) (fun c_92 => ?_) (fun c_92 => ?_)
        · skip
          exact aw_vret d_Mo_begin_203 rfl (hP _ K2 f2 ⟨(a_up_ne (Or.inr (by decide))).trans ((a_up_ne (Or.inr (by decide))).trans a_up_at), a_up_at, (a_up_ne (Or.inr (by decide))).trans a_up_at⟩)
        · skip
          refine aw_iload_n d_Mo_begin_95 rfl rfl ?_
          refine aw_bipush d_Mo_begin_96 ⟨by decide, by decide⟩ (by decide) ?_
          refine aw_icmp_ge (tgt := 203) d_Mo_begin_98 (by decide) (fun c_98 => False.elim (by omega)) (fun c_98 => ?_)
          refine aw_aload_n d_Mo_begin_101 rfl rfl ?_
          refine ax_getR (b := 195) d_Mo_begin_102 fd_Mo_47 (kq_175 S) (rq_175_13 S) ?_
          refine aw_iload_n d_Mo_begin_105 rfl rfl ?_
          refine aw_iload_n d_Mo_begin_106 rfl rfl ?_
          refine aw_iconst d_Mo_begin_107 ⟨by decide, by decide⟩ ?_
          refine aw_icmp_ne (tgt := 123) d_Mo_begin_108 (by decide) (fun c_108 => ?_) (fun c_108 => False.elim (by omega))
          refine aw_iload_n d_Mo_begin_123 rfl rfl ?_
          refine aw_iconst d_Mo_begin_124 ⟨by decide, by decide⟩ ?_
          refine aw_icmp_ne (tgt := 144) d_Mo_begin_125 (by decide) (fun c_125 => ?_) (fun c_125 => False.elim (by omega))
          refine aw_iload_n d_Mo_begin_144 rfl rfl ?_
          refine aw_iconst d_Mo_begin_145 ⟨by decide, by decide⟩ ?_
          refine aw_icmp_ne (tgt := 161) d_Mo_begin_146 (by decide) (fun c_146 => ?_) (fun c_146 => False.elim (by omega))
          refine aw_iload_n d_Mo_begin_161 rfl rfl ?_
          refine aw_iconst d_Mo_begin_162 ⟨by decide, by decide⟩ ?_
          refine aw_icmp_ne (tgt := 175) d_Mo_begin_163 (by decide) (fun c_163 => ?_) (fun c_163 => False.elim (by omega))
          refine aw_iload_n d_Mo_begin_175 rfl rfl ?_
          refine aw_bipush d_Mo_begin_176 ⟨by decide, by decide⟩ (by decide) ?_
          refine aw_icmp_ne (tgt := 190) d_Mo_begin_178 (by decide) (fun c_178 => ?_) (fun c_178 => False.elim (by omega))
          refine aw_aload_n d_Mo_begin_190 rfl rfl ?_
          refine ax_getR (b := 187) d_Mo_begin_191 fd_Mo_22 (kq_175 S) (rq_175_5 S) ?_
          refine aw_iload_n d_Mo_begin_194 rfl rfl ?_
          refine ax_lalde (x := K2 187 i) d_Mo_begin_195 (kq_187 S) (by omega) (by rw [nq_187 S]; omega) (rfl) ?_
          refine ax_last d_Mo_begin_196 (kq_195 S) (by decide) (by omega) (by rw [nq_195 S]; omega) ?_
          refine ax_iinc (lv' := [(2, vi (i + 1)), (1, vi 3), (0, vr 175)]) d_Mo_begin_197 rfl (by decide) ⟨(by omega), (by omega)⟩ rfl ?_
          refine aw_goto (tgt := 89) d_Mo_begin_200 (by decide) ?_
          exact ih_89 _ (by omega) (i + 1) (a_up K2 195 i (K2 187 i)) (by omega) (f2.uL (by decide)) rfl
      exact lp_89 _ 0 K (by omega) (f1.uI (by decide)) rfl
    · skip
      refine aw_aload_n d_Mo_begin_23 rfl rfl ?_
      refine ax_getR (b := 195) d_Mo_begin_24 fd_Mo_47 (kq_175 S) (rq_175_13 S) ?_
      refine aw_iload_n d_Mo_begin_27 rfl rfl ?_
      refine aw_lconst (x := 0) d_Mo_begin_28 ⟨by decide, by decide⟩ (by decide) ?_
      refine ax_last d_Mo_begin_29 (kq_195 S) (by decide) (by omega) (by rw [nq_195 S]; omega) ?_
      refine ax_iinc (lv' := [(2, vi (i + 1)), (1, vi 3), (0, vr 175)]) d_Mo_begin_30 rfl (by decide) ⟨(by omega), (by omega)⟩ rfl ?_
      refine aw_goto (tgt := 17) d_Mo_begin_33 (by decide) ?_
      exact ih_17 _ (by omega) (i + 1) (a_up K 195 i 0) (by omega) (f1.uL (by decide)) rfl
  refine aw_sub (lv' := [(2, vi 0), (1, vi 3), (0, vr 175)]) (by simp) ?_
  exact lp_17 _ 0 (a_up L 175 21 0) (by omega) (((Fq.rf.uI (by decide)).uI (by decide)).uL (by decide)) rfl
set_option maxHeartbeats 800000 in
set_option maxRecDepth 100000 in
theorem c_Mo_finish3 {l : Launch} {G : a_G} {h : Hp} {I L : Nat → Int → Int} {n : Int} (S : Shq h) (hn : 0 ≤ n ∧ n ≤ 100) (qk : Kq I n) : AW l G M_Mo_finish (Ret (fun _ : (Nat → Int → Int) × (Nat → Int → Int) => none) (fun u => sD h u.1 u.2) (fun u => Fq I L u.1 u.2)) 0 (a_ar 0 [vr 175]) [] (sD h I L) := by
  suffices key : ∀ P : a_R → Hp → Prop, (∀ J K : Nat → Int → Int, Fq I L J K → P (.inl none) (sD h J K)) → AW l G M_Mo_finish P 0 [(0, vr 175)] [] (sD h I L) from key _ (fun J K q1 => ⟨(J, K), rfl, rfl, q1⟩)
  intro P hP
  refine aw_aload_n d_Mo_finish_0 rfl rfl ?_
  refine ax_V (st := []) (as := []) (b := 175) (v := some (vi 0)) (h' := sD h I L) d_Mo_finish_1 cs_Mo_finish_1 (kq_175 S) (c_Mo_spong0 S (by rw [qk.1]; decide)) rfl rfl rfl ?_
  show AW l G M_Mo_finish P 4 [(0, vr 175)] [vi 0] (sD h I L)
  refine aw_if_eq (tgt := 54) d_Mo_finish_4 (by decide) (fun c_4 => ?_) (fun c_4 => False.elim (by omega))
  refine aw_ldc2 (n := 8) d_Mo_finish_54 lc_Mo_210 ⟨by decide, by decide⟩ ?_
  refine aw_aload_n d_Mo_finish_57 rfl rfl ?_
  refine ax_getLe (x := L 175 21) d_Mo_finish_58 fd_Mo_165 (kq_175 S) (rfl) ?_
  refine aw_lmul d_Mo_finish_61 ?_
  refine aw_lstore_n (lv' := [(1, vl (a_w64 (8 * (L 175 21)))), (0, vr 175)]) d_Mo_finish_62 rfl (by decide) rfl ?_
  generalize a_w64 (8 * (L 175 21)) = bi
  refine aw_aload_n d_Mo_finish_63 rfl rfl ?_
  refine aw_sipush d_Mo_finish_64 ⟨by decide, by decide⟩ (by decide) ?_
  refine ax_Vr (st := []) (as := [vi 128]) (b := 175) d_Mo_finish_67 cs_Mo_finish_67 (kq_175 S) (c_Mo_putK S (n := n) (by omega) qk) rfl rfl rfl (fun u_67 q_67 => ?_)
  obtain ⟨J_67, K_67⟩ := u_67
  obtain ⟨f_67, k_67⟩ := q_67
  dsimp only at f_67 k_67
  have f_67 := Fq.tr Fq.rf f_67
  show AW l G M_Mo_finish P 70 [(1, vl bi), (0, vr 175)] [] (sD h J_67 K_67)
  have lp_70 : ∀ (n_ : Nat) (m : Int) (J : Nat → Int → Int) (K : Nat → Int → Int), (0 ≤ m ∧ m ≤ 112) → (Fq I L J K) → (Kq J m) → ((112 - m).toNat) = n_ → AW l G M_Mo_finish P 70 [(1, vl bi), (0, vr 175)] [] (sD h J K) := by
    intro n_
    induction n_ using Nat.strongRecOn with
    | _ n_ ih_70 =>
    intro m J K hm f1 k1 hm_70
    refine aw_aload_n d_Mo_finish_70 rfl rfl ?_
    refine ax_getIe (x := m) d_Mo_finish_71 fd_Mo_162 (kq_175 S) (k1.2.2) ?_
    refine aw_aload_n d_Mo_finish_74 rfl rfl ?_
    refine ax_getIe (x := 128) d_Mo_finish_75 fd_Mo_175 (kq_175 S) (k1.2.1) ?_
    refine aw_aload_n d_Mo_finish_78 rfl rfl ?_
    refine ax_getIe (x := 128) d_Mo_finish_79 fd_Mo_175 (kq_175 S) (k1.2.1) ?_
    refine aw_bipush d_Mo_finish_82 ⟨by decide, by decide⟩ (by decide) ?_
    refine ax_idiv d_Mo_finish_84 ⟨(by omega), (by omega)⟩ (by omega) ?_
    refine ax_isub d_Mo_finish_85 ⟨(by omega), (by omega)⟩ ?_
    refine aw_icmp_eq (tgt := 97) d_Mo_finish_86 (by decide) (fun c_86 => ?_) (fun c_86 => ?_)
    · skip
      refine aw_aload_n d_Mo_finish_97 rfl rfl ?_
      refine ax_getIe (x := 128) d_Mo_finish_98 fd_Mo_175 (kq_175 S) (k1.2.1) ?_
      refine aw_bipush d_Mo_finish_101 ⟨by decide, by decide⟩ (by decide) ?_
      refine ax_idiv d_Mo_finish_103 ⟨(by omega), (by omega)⟩ (by omega) ?_
      refine aw_iconst d_Mo_finish_104 ⟨by decide, by decide⟩ ?_
      refine ax_isub d_Mo_finish_105 ⟨(by omega), (by omega)⟩ ?_
      refine aw_istore_n (lv' := [(3, vi ((128 / 8) - 1)), (1, vl bi), (0, vr 175)]) d_Mo_finish_106 rfl (by decide) rfl ?_
      have lp_107 : ∀ (n_ : Nat) (i : Int) (J2 : Nat → Int → Int) (K2 : Nat → Int → Int), (-1 ≤ i ∧ i ≤ 15) → (Fq I L J2 K2) → (0 ≤ i → Kq J2 (127 - i)) → ((i + 1).toNat) = n_ → AW l G M_Mo_finish P 107 [(3, vi i), (1, vl bi), (0, vr 175)] [] (sD h J2 K2) := by
        intro n_
        induction n_ using Nat.strongRecOn with
        | _ n_ ih_107 =>
        intro i J2 K2 hi f2 k2 hm_107
        refine aw_iload_n d_Mo_finish_107 rfl rfl ?_
        refine aw_if_lt (tgt := 138) d_Mo_finish_108 (by decide) (fun c_108 => ?_) (fun c_108 => ?_)
        · skip
          exact aw_vret d_Mo_finish_138 rfl (hP _ _ f2)
        · skip
          refine aw_aload_n d_Mo_finish_111 rfl rfl ?_
          refine aw_iload_n d_Mo_finish_112 rfl rfl ?_
          refine aw_bipush d_Mo_finish_113 ⟨by decide, by decide⟩ (by decide) ?_
          refine aw_icmp_ge (tgt := 128) d_Mo_finish_115 (by decide) (fun c_115 => ?_) (fun c_115 => ?_)
          · skip
            refine aw_iconst d_Mo_finish_128 ⟨by decide, by decide⟩ ?_
            refine ax_Vr (st := []) (as := [vi 0]) (b := 175) d_Mo_finish_129 cs_Mo_finish_129 (kq_175 S) (c_Mo_putK S (n := 127 - i) (by omega) (k2 (by omega))) rfl rfl rfl (fun u_129 q_129 => ?_)
            obtain ⟨J_129, K_129⟩ := u_129
            obtain ⟨f_129, k_129⟩ := q_129
            dsimp only at f_129 k_129
            have f_129 := Fq.tr f2 f_129
            show AW l G M_Mo_finish P 132 [(3, vi i), (1, vl bi), (0, vr 175)] [] (sD h J_129 K_129)
            refine ax_iinc (lv' := [(3, vi (i + (-1))), (1, vl bi), (0, vr 175)]) d_Mo_finish_132 rfl (by decide) ⟨(by omega), (by omega)⟩ rfl ?_
            refine aw_goto (tgt := 107) d_Mo_finish_135 (by decide) ?_
            exact ih_107 _ (by omega) (i + (-1)) J_129 K_129 (by omega) (f_129) (fun _ => by unfold nx at k_129; rw [if_neg (by omega)] at k_129; rw [show (127 - (i + (-1)) : Int) = 127 - i + 1 by omega]; exact k_129) rfl
          · skip
            refine aw_lload_n d_Mo_finish_118 rfl rfl ?_
            refine aw_bipush d_Mo_finish_119 ⟨by decide, by decide⟩ (by decide) ?_
            refine aw_iload_n d_Mo_finish_121 rfl rfl ?_
            refine ax_imul d_Mo_finish_122 ⟨(by omega), (by omega)⟩ ?_
            refine aw_lushr d_Mo_finish_123 ?_
            refine aw_l2i d_Mo_finish_124 ?_
            refine aw_goto (tgt := 129) d_Mo_finish_125 (by decide) ?_
            refine ax_Vr (st := []) (as := [vi (a_w32 (a_lushr bi (8 * i)))]) (b := 175) d_Mo_finish_129 cs_Mo_finish_129 (kq_175 S) (c_Mo_putK S (n := 127 - i) (by omega) (k2 (by omega))) rfl rfl rfl (fun u_129 q_129 => ?_)
            obtain ⟨J_129, K_129⟩ := u_129
            obtain ⟨f_129, k_129⟩ := q_129
            dsimp only at f_129 k_129
            have f_129 := Fq.tr f2 f_129
            show AW l G M_Mo_finish P 132 [(3, vi i), (1, vl bi), (0, vr 175)] [] (sD h J_129 K_129)
            refine ax_iinc (lv' := [(3, vi (i + (-1))), (1, vl bi), (0, vr 175)]) d_Mo_finish_132 rfl (by decide) ⟨(by omega), (by omega)⟩ rfl ?_
            refine aw_goto (tgt := 107) d_Mo_finish_135 (by decide) ?_
            exact ih_107 _ (by omega) (i + (-1)) J_129 K_129 (by omega) (f_129) (fun _ => by unfold nx at k_129; rw [if_neg (by omega)] at k_129; rw [show (127 - (i + (-1)) : Int) = 127 - i + 1 by omega]; exact k_129) rfl
      skip
      exact lp_107 _ ((128 / 8) - 1) J K (by omega) (f1) (fun _ => by rw [show (127 - (128 / 8 - 1) : Int) = m by omega]; exact k1) rfl
    · skip
      refine aw_aload_n d_Mo_finish_89 rfl rfl ?_
      refine aw_iconst d_Mo_finish_90 ⟨by decide, by decide⟩ ?_
      refine ax_Vr (st := []) (as := [vi 0]) (b := 175) d_Mo_finish_91 cs_Mo_finish_91 (kq_175 S) (c_Mo_putK S (n := m) (by omega) k1) rfl rfl rfl (fun u_91 q_91 => ?_)
      obtain ⟨J_91, K_91⟩ := u_91
      obtain ⟨f_91, k_91⟩ := q_91
      dsimp only at f_91 k_91
      have f_91 := Fq.tr f1 f_91
      show AW l G M_Mo_finish P 94 [(1, vl bi), (0, vr 175)] [] (sD h J_91 K_91)
      refine aw_goto (tgt := 70) d_Mo_finish_94 (by decide) ?_
      exact ih_70 _ (by omega) (m + 1) J_91 K_91 (by omega) (f_91) (by unfold nx at k_91; rwa [if_neg (by omega)] at k_91) rfl
  skip
  exact lp_70 _ (n + 1) J_67 K_67 (by omega) (f_67) (by unfold nx at k_67; rwa [if_neg (by omega)] at k_67) rfl
set_option maxHeartbeats 800000 in
set_option maxRecDepth 100000 in
theorem c_Mo_named_189 {l : Launch} {G : a_G} {h : Hp} {I L : Nat → Int → Int} {x y : Int} (S : Shq h) : AW l G M_Mo_named (Ret (fun _ : (Nat → Int → Int) × (Nat → Int → Int) => none) (fun u => sD h u.1 u.2) (fun u => Fq I L u.1 u.2)) 0 (a_ar 0 [vr 175, vr 189, vi x, vi y]) [] (sD h I L) := by
  suffices key : ∀ P : a_R → Hp → Prop, (∀ J K : Nat → Int → Int, Fq I L J K → P (.inl none) (sD h J K)) → AW l G M_Mo_named P 0 [(0, vr 175), (1, vr 189), (2, vi x), (3, vi y)] [] (sD h I L) from key _ (fun J K q1 => ⟨(J, K), rfl, rfl, q1⟩)
  intro P hP
  refine aw_aload_n d_Mo_named_0 rfl rfl ?_
  refine aw_iconst d_Mo_named_1 ⟨by decide, by decide⟩ ?_
  refine ax_Vr (st := []) (as := [vi 3]) (b := 175) d_Mo_named_2 cs_Mo_named_2 (kq_175 S) (c_Mo_begin3 S) rfl rfl rfl (fun u_2 q_2 => ?_)
  obtain ⟨J_2, K_2⟩ := u_2
  obtain ⟨f_2, k_2⟩ := q_2
  dsimp only at f_2 k_2
  show AW l G M_Mo_named P 5 [(0, vr 175), (1, vr 189), (2, vi x), (3, vi y)] [] (sD h J_2 K_2)
  refine aw_iconst d_Mo_named_5 ⟨by decide, by decide⟩ ?_
  refine aw_istore (lv' := [(4, vi 0), (0, vr 175), (1, vr 189), (2, vi x), (3, vi y)]) d_Mo_named_6 (by decide) rfl ?_
  have lp_8 : ∀ (n_ : Nat) (i : Int) (K : Nat → Int → Int), (0 ≤ i ∧ i ≤ 8) → (Fq I L J_2 K) → ((8 - i).toNat) = n_ → AW l G M_Mo_named P 8 [(4, vi i), (3, vi y), (2, vi x), (1, vr 189), (0, vr 175)] [] (sD h J_2 K) := by
    intro n_
    induction n_ using Nat.strongRecOn with
    | _ n_ ih_8 =>
    intro i K hi f1 hm_8
    refine aw_iload d_Mo_named_8 rfl ?_
    refine aw_bipush d_Mo_named_10 ⟨by decide, by decide⟩ (by decide) ?_
    refine aw_icmp_ge (tgt := 34) d_Mo_named_12 (by decide) (fun c_12 => ?_) (fun c_12 => ?_)
    · skip
      refine aw_aload_n d_Mo_named_34 rfl rfl ?_
      refine aw_bipush d_Mo_named_35 ⟨by decide, by decide⟩ (by decide) ?_
      refine ax_Vr (st := []) (as := [vi 83]) (b := 175) d_Mo_named_37 cs_Mo_named_37 (kq_175 S) (c_Mo_putK S (n := 0) (by omega) k_2) rfl rfl rfl (fun u_37 q_37 => ?_)
      obtain ⟨J_37, K_37⟩ := u_37
      obtain ⟨f_37, k_37⟩ := q_37
      dsimp only at f_37 k_37
      rw [show nx 0 = 1 by decide] at k_37
      have f_37 := Fq.tr f1 f_37
      show AW l G M_Mo_named P 40 [(4, vi i), (3, vi y), (2, vi x), (1, vr 189), (0, vr 175)] [] (sD h J_37 K_37)
      refine aw_aload_n d_Mo_named_40 rfl rfl ?_
      refine aw_bipush d_Mo_named_41 ⟨by decide, by decide⟩ (by decide) ?_
      refine ax_Vr (st := []) (as := [vi 72]) (b := 175) d_Mo_named_43 cs_Mo_named_43 (kq_175 S) (c_Mo_putK S (n := 1) (by omega) k_37) rfl rfl rfl (fun u_43 q_43 => ?_)
      obtain ⟨J_43, K_43⟩ := u_43
      obtain ⟨f_43, k_43⟩ := q_43
      dsimp only at f_43 k_43
      rw [show nx 1 = 2 by decide] at k_43
      have f_43 := Fq.tr f_37 f_43
      show AW l G M_Mo_named P 46 [(4, vi i), (3, vi y), (2, vi x), (1, vr 189), (0, vr 175)] [] (sD h J_43 K_43)
      refine aw_aload_n d_Mo_named_46 rfl rfl ?_
      refine aw_bipush d_Mo_named_47 ⟨by decide, by decide⟩ (by decide) ?_
      refine ax_Vr (st := []) (as := [vi 65]) (b := 175) d_Mo_named_49 cs_Mo_named_49 (kq_175 S) (c_Mo_putK S (n := 2) (by omega) k_43) rfl rfl rfl (fun u_49 q_49 => ?_)
      obtain ⟨J_49, K_49⟩ := u_49
      obtain ⟨f_49, k_49⟩ := q_49
      dsimp only at f_49 k_49
      rw [show nx 2 = 3 by decide] at k_49
      have f_49 := Fq.tr f_43 f_49
      show AW l G M_Mo_named P 52 [(4, vi i), (3, vi y), (2, vi x), (1, vr 189), (0, vr 175)] [] (sD h J_49 K_49)
      refine aw_aload_n d_Mo_named_52 rfl rfl ?_
      refine aw_bipush d_Mo_named_53 ⟨by decide, by decide⟩ (by decide) ?_
      refine ax_Vr (st := []) (as := [vi 45]) (b := 175) d_Mo_named_55 cs_Mo_named_55 (kq_175 S) (c_Mo_putK S (n := 3) (by omega) k_49) rfl rfl rfl (fun u_55 q_55 => ?_)
      obtain ⟨J_55, K_55⟩ := u_55
      obtain ⟨f_55, k_55⟩ := q_55
      dsimp only at f_55 k_55
      rw [show nx 3 = 4 by decide] at k_55
      have f_55 := Fq.tr f_49 f_55
      show AW l G M_Mo_named P 58 [(4, vi i), (3, vi y), (2, vi x), (1, vr 189), (0, vr 175)] [] (sD h J_55 K_55)
      refine aw_aload_n d_Mo_named_58 rfl rfl ?_
      refine aw_bipush d_Mo_named_59 ⟨by decide, by decide⟩ (by decide) ?_
      refine ax_Vr (st := []) (as := [vi 53]) (b := 175) d_Mo_named_61 cs_Mo_named_61 (kq_175 S) (c_Mo_putK S (n := 4) (by omega) k_55) rfl rfl rfl (fun u_61 q_61 => ?_)
      obtain ⟨J_61, K_61⟩ := u_61
      obtain ⟨f_61, k_61⟩ := q_61
      dsimp only at f_61 k_61
      rw [show nx 4 = 5 by decide] at k_61
      have f_61 := Fq.tr f_55 f_61
      show AW l G M_Mo_named P 64 [(4, vi i), (3, vi y), (2, vi x), (1, vr 189), (0, vr 175)] [] (sD h J_61 K_61)
      refine aw_aload_n d_Mo_named_64 rfl rfl ?_
      refine aw_bipush d_Mo_named_65 ⟨by decide, by decide⟩ (by decide) ?_
      refine ax_Vr (st := []) (as := [vi 49]) (b := 175) d_Mo_named_67 cs_Mo_named_67 (kq_175 S) (c_Mo_putK S (n := 5) (by omega) k_61) rfl rfl rfl (fun u_67 q_67 => ?_)
      obtain ⟨J_67, K_67⟩ := u_67
      obtain ⟨f_67, k_67⟩ := q_67
      dsimp only at f_67 k_67
      rw [show nx 5 = 6 by decide] at k_67
      have f_67 := Fq.tr f_61 f_67
      show AW l G M_Mo_named P 70 [(4, vi i), (3, vi y), (2, vi x), (1, vr 189), (0, vr 175)] [] (sD h J_67 K_67)
      refine aw_aload_n d_Mo_named_70 rfl rfl ?_
      refine aw_bipush d_Mo_named_71 ⟨by decide, by decide⟩ (by decide) ?_
      refine ax_Vr (st := []) (as := [vi 50]) (b := 175) d_Mo_named_73 cs_Mo_named_73 (kq_175 S) (c_Mo_putK S (n := 6) (by omega) k_67) rfl rfl rfl (fun u_73 q_73 => ?_)
      obtain ⟨J_73, K_73⟩ := u_73
      obtain ⟨f_73, k_73⟩ := q_73
      dsimp only at f_73 k_73
      rw [show nx 6 = 7 by decide] at k_73
      have f_73 := Fq.tr f_67 f_73
      show AW l G M_Mo_named P 76 [(4, vi i), (3, vi y), (2, vi x), (1, vr 189), (0, vr 175)] [] (sD h J_73 K_73)
      refine aw_aload_n d_Mo_named_76 rfl rfl ?_
      refine aw_bipush d_Mo_named_77 ⟨by decide, by decide⟩ (by decide) ?_
      refine ax_Vr (st := []) (as := [vi 47]) (b := 175) d_Mo_named_79 cs_Mo_named_79 (kq_175 S) (c_Mo_putK S (n := 7) (by omega) k_73) rfl rfl rfl (fun u_79 q_79 => ?_)
      obtain ⟨J_79, K_79⟩ := u_79
      obtain ⟨f_79, k_79⟩ := q_79
      dsimp only at f_79 k_79
      rw [show nx 7 = 8 by decide] at k_79
      have f_79 := Fq.tr f_73 f_79
      show AW l G M_Mo_named P 82 [(4, vi i), (3, vi y), (2, vi x), (1, vr 189), (0, vr 175)] [] (sD h J_79 K_79)
      refine aw_aload_n d_Mo_named_82 rfl rfl ?_
      refine aw_bipush d_Mo_named_83 ⟨by decide, by decide⟩ (by decide) ?_
      refine ax_Vr (st := []) (as := [vi 50]) (b := 175) d_Mo_named_85 cs_Mo_named_85 (kq_175 S) (c_Mo_putK S (n := 8) (by omega) k_79) rfl rfl rfl (fun u_85 q_85 => ?_)
      obtain ⟨J_85, K_85⟩ := u_85
      obtain ⟨f_85, k_85⟩ := q_85
      dsimp only at f_85 k_85
      rw [show nx 8 = 9 by decide] at k_85
      have f_85 := Fq.tr f_79 f_85
      show AW l G M_Mo_named P 88 [(4, vi i), (3, vi y), (2, vi x), (1, vr 189), (0, vr 175)] [] (sD h J_85 K_85)
      refine aw_aload_n d_Mo_named_88 rfl rfl ?_
      refine aw_iload_n d_Mo_named_89 rfl rfl ?_
      refine ax_Vr (st := []) (as := [vi x]) (b := 175) d_Mo_named_90 cs_Mo_named_90 (kq_175 S) (c_Mo_putK S (n := 9) (by omega) k_85) rfl rfl rfl (fun u_90 q_90 => ?_)
      obtain ⟨J_90, K_90⟩ := u_90
      obtain ⟨f_90, k_90⟩ := q_90
      dsimp only at f_90 k_90
      rw [show nx 9 = 10 by decide] at k_90
      have f_90 := Fq.tr f_85 f_90
      show AW l G M_Mo_named P 93 [(4, vi i), (3, vi y), (2, vi x), (1, vr 189), (0, vr 175)] [] (sD h J_90 K_90)
      refine aw_aload_n d_Mo_named_93 rfl rfl ?_
      refine aw_iload_n d_Mo_named_94 rfl rfl ?_
      refine ax_Vr (st := []) (as := [vi y]) (b := 175) d_Mo_named_95 cs_Mo_named_95 (kq_175 S) (c_Mo_putK S (n := 10) (by omega) k_90) rfl rfl rfl (fun u_95 q_95 => ?_)
      obtain ⟨J_95, K_95⟩ := u_95
      obtain ⟨f_95, k_95⟩ := q_95
      dsimp only at f_95 k_95
      rw [show nx 10 = 11 by decide] at k_95
      have f_95 := Fq.tr f_90 f_95
      show AW l G M_Mo_named P 98 [(4, vi i), (3, vi y), (2, vi x), (1, vr 189), (0, vr 175)] [] (sD h J_95 K_95)
      refine aw_aload_n d_Mo_named_98 rfl rfl ?_
      refine ax_Vr (st := []) (as := []) (b := 175) d_Mo_named_99 cs_Mo_named_99 (kq_175 S) (c_Mo_finish3 S (n := 11) (by omega) k_95) rfl rfl rfl (fun u_99 q_99 => ?_)
      obtain ⟨J_99, K_99⟩ := u_99
      dsimp only at q_99
      have f_99 := Fq.tr f_95 q_99
      show AW l G M_Mo_named P 102 [(4, vi i), (3, vi y), (2, vi x), (1, vr 189), (0, vr 175)] [] (sD h J_99 K_99)
      refine aw_iconst d_Mo_named_102 ⟨by decide, by decide⟩ ?_
      refine aw_istore (lv' := [(4, vi 0), (3, vi y), (2, vi x), (1, vr 189), (0, vr 175)]) d_Mo_named_103 (by decide) rfl ?_
      have lp_105 : ∀ (n_ : Nat) (i : Int) (K2 : Nat → Int → Int), (0 ≤ i ∧ i ≤ 8) → (Fq I L J_99 K2) → ((8 - i).toNat) = n_ → AW l G M_Mo_named P 105 [(4, vi i), (3, vi y), (2, vi x), (1, vr 189), (0, vr 175)] [] (sD h J_99 K2) := by
        intro n_
        induction n_ using Nat.strongRecOn with
        | _ n_ ih_105 =>
        intro i K2 hi2 f2 hm_105
        refine aw_iload d_Mo_named_105 rfl ?_
        refine aw_bipush d_Mo_named_107 ⟨by decide, by decide⟩ (by decide) ?_
        refine aw_icmp_ge (tgt := 129) d_Mo_named_109 (by decide) (fun c_109 => ?_) (fun c_109 => ?_)
        · skip
          exact aw_vret d_Mo_named_129 rfl (hP _ _ f2)
        · skip
          refine aw_aload_n d_Mo_named_112 rfl rfl ?_
          refine aw_iload d_Mo_named_113 rfl ?_
          refine aw_aload_n d_Mo_named_115 rfl rfl ?_
          refine ax_getR (b := 195) d_Mo_named_116 fd_Mo_47 (kq_175 S) (rq_175_13 S) ?_
          refine aw_iload d_Mo_named_119 rfl ?_
          refine ax_lalde (x := K2 195 i) d_Mo_named_121 (kq_195 S) (by omega) (by rw [nq_195 S]; omega) (rfl) ?_
          refine ax_last d_Mo_named_122 (kq_189 S) (by decide) (by omega) (by rw [nq_189 S]; omega) ?_
          refine ax_iinc (lv' := [(4, vi (i + 1)), (3, vi y), (2, vi x), (1, vr 189), (0, vr 175)]) d_Mo_named_123 rfl (by decide) ⟨(by omega), (by omega)⟩ rfl ?_
          refine aw_goto (tgt := 105) d_Mo_named_126 (by decide) ?_
          exact ih_105 _ (by omega) (i + 1) (a_up K2 189 i (K2 195 i)) (by omega) (f2.uL (by decide)) rfl
      exact lp_105 _ 0 K_99 (by omega) (f_99) rfl
    · skip
      refine aw_aload_n d_Mo_named_15 rfl rfl ?_
      refine ax_getR (b := 195) d_Mo_named_16 fd_Mo_47 (kq_175 S) (rq_175_13 S) ?_
      refine aw_iload d_Mo_named_19 rfl ?_
      refine aw_dup2 d_Mo_named_21 rfl rfl ?_
      refine ax_lalde (x := K 195 i) d_Mo_named_22 (kq_195 S) (by omega) (by rw [nq_195 S]; omega) (rfl) ?_
      refine aw_ldc2 (n := -6510615555426900571) d_Mo_named_23 lc_Mo_151 ⟨by decide, by decide⟩ ?_
      refine aw_lxor d_Mo_named_26 ?_
      refine ax_last d_Mo_named_27 (kq_195 S) (by decide) (by omega) (by rw [nq_195 S]; omega) ?_
      refine ax_iinc (lv' := [(4, vi (i + 1)), (3, vi y), (2, vi x), (1, vr 189), (0, vr 175)]) d_Mo_named_28 rfl (by decide) ⟨(by omega), (by omega)⟩ rfl ?_
      refine aw_goto (tgt := 8) d_Mo_named_31 (by decide) ?_
      exact ih_8 _ (by omega) (i + 1) (a_up K 195 i (a_lxor (K 195 i) (-6510615555426900571))) (by omega) (f1.uL (by decide)) rfl
  refine aw_sub (lv' := [(4, vi 0), (3, vi y), (2, vi x), (1, vr 189), (0, vr 175)]) (by simp) ?_
  exact lp_8 _ 0 K_2 (by omega) (f_2) rfl
set_option maxHeartbeats 800000 in
set_option maxRecDepth 100000 in
theorem c_Mo_named_190 {l : Launch} {G : a_G} {h : Hp} {I L : Nat → Int → Int} {x y : Int} (S : Shq h) : AW l G M_Mo_named (Ret (fun _ : (Nat → Int → Int) × (Nat → Int → Int) => none) (fun u => sD h u.1 u.2) (fun u => Fq I L u.1 u.2)) 0 (a_ar 0 [vr 175, vr 190, vi x, vi y]) [] (sD h I L) := by
  suffices key : ∀ P : a_R → Hp → Prop, (∀ J K : Nat → Int → Int, Fq I L J K → P (.inl none) (sD h J K)) → AW l G M_Mo_named P 0 [(0, vr 175), (1, vr 190), (2, vi x), (3, vi y)] [] (sD h I L) from key _ (fun J K q1 => ⟨(J, K), rfl, rfl, q1⟩)
  intro P hP
  refine aw_aload_n d_Mo_named_0 rfl rfl ?_
  refine aw_iconst d_Mo_named_1 ⟨by decide, by decide⟩ ?_
  refine ax_Vr (st := []) (as := [vi 3]) (b := 175) d_Mo_named_2 cs_Mo_named_2 (kq_175 S) (c_Mo_begin3 S) rfl rfl rfl (fun u_2 q_2 => ?_)
  obtain ⟨J_2, K_2⟩ := u_2
  obtain ⟨f_2, k_2⟩ := q_2
  dsimp only at f_2 k_2
  show AW l G M_Mo_named P 5 [(0, vr 175), (1, vr 190), (2, vi x), (3, vi y)] [] (sD h J_2 K_2)
  refine aw_iconst d_Mo_named_5 ⟨by decide, by decide⟩ ?_
  refine aw_istore (lv' := [(4, vi 0), (0, vr 175), (1, vr 190), (2, vi x), (3, vi y)]) d_Mo_named_6 (by decide) rfl ?_
  have lp_8 : ∀ (n_ : Nat) (i : Int) (K : Nat → Int → Int), (0 ≤ i ∧ i ≤ 8) → (Fq I L J_2 K) → ((8 - i).toNat) = n_ → AW l G M_Mo_named P 8 [(4, vi i), (3, vi y), (2, vi x), (1, vr 190), (0, vr 175)] [] (sD h J_2 K) := by
    intro n_
    induction n_ using Nat.strongRecOn with
    | _ n_ ih_8 =>
    intro i K hi f1 hm_8
    refine aw_iload d_Mo_named_8 rfl ?_
    refine aw_bipush d_Mo_named_10 ⟨by decide, by decide⟩ (by decide) ?_
    refine aw_icmp_ge (tgt := 34) d_Mo_named_12 (by decide) (fun c_12 => ?_) (fun c_12 => ?_)
    · skip
      refine aw_aload_n d_Mo_named_34 rfl rfl ?_
      refine aw_bipush d_Mo_named_35 ⟨by decide, by decide⟩ (by decide) ?_
      refine ax_Vr (st := []) (as := [vi 83]) (b := 175) d_Mo_named_37 cs_Mo_named_37 (kq_175 S) (c_Mo_putK S (n := 0) (by omega) k_2) rfl rfl rfl (fun u_37 q_37 => ?_)
      obtain ⟨J_37, K_37⟩ := u_37
      obtain ⟨f_37, k_37⟩ := q_37
      dsimp only at f_37 k_37
      rw [show nx 0 = 1 by decide] at k_37
      have f_37 := Fq.tr f1 f_37
      show AW l G M_Mo_named P 40 [(4, vi i), (3, vi y), (2, vi x), (1, vr 190), (0, vr 175)] [] (sD h J_37 K_37)
      refine aw_aload_n d_Mo_named_40 rfl rfl ?_
      refine aw_bipush d_Mo_named_41 ⟨by decide, by decide⟩ (by decide) ?_
      refine ax_Vr (st := []) (as := [vi 72]) (b := 175) d_Mo_named_43 cs_Mo_named_43 (kq_175 S) (c_Mo_putK S (n := 1) (by omega) k_37) rfl rfl rfl (fun u_43 q_43 => ?_)
      obtain ⟨J_43, K_43⟩ := u_43
      obtain ⟨f_43, k_43⟩ := q_43
      dsimp only at f_43 k_43
      rw [show nx 1 = 2 by decide] at k_43
      have f_43 := Fq.tr f_37 f_43
      show AW l G M_Mo_named P 46 [(4, vi i), (3, vi y), (2, vi x), (1, vr 190), (0, vr 175)] [] (sD h J_43 K_43)
      refine aw_aload_n d_Mo_named_46 rfl rfl ?_
      refine aw_bipush d_Mo_named_47 ⟨by decide, by decide⟩ (by decide) ?_
      refine ax_Vr (st := []) (as := [vi 65]) (b := 175) d_Mo_named_49 cs_Mo_named_49 (kq_175 S) (c_Mo_putK S (n := 2) (by omega) k_43) rfl rfl rfl (fun u_49 q_49 => ?_)
      obtain ⟨J_49, K_49⟩ := u_49
      obtain ⟨f_49, k_49⟩ := q_49
      dsimp only at f_49 k_49
      rw [show nx 2 = 3 by decide] at k_49
      have f_49 := Fq.tr f_43 f_49
      show AW l G M_Mo_named P 52 [(4, vi i), (3, vi y), (2, vi x), (1, vr 190), (0, vr 175)] [] (sD h J_49 K_49)
      refine aw_aload_n d_Mo_named_52 rfl rfl ?_
      refine aw_bipush d_Mo_named_53 ⟨by decide, by decide⟩ (by decide) ?_
      refine ax_Vr (st := []) (as := [vi 45]) (b := 175) d_Mo_named_55 cs_Mo_named_55 (kq_175 S) (c_Mo_putK S (n := 3) (by omega) k_49) rfl rfl rfl (fun u_55 q_55 => ?_)
      obtain ⟨J_55, K_55⟩ := u_55
      obtain ⟨f_55, k_55⟩ := q_55
      dsimp only at f_55 k_55
      rw [show nx 3 = 4 by decide] at k_55
      have f_55 := Fq.tr f_49 f_55
      show AW l G M_Mo_named P 58 [(4, vi i), (3, vi y), (2, vi x), (1, vr 190), (0, vr 175)] [] (sD h J_55 K_55)
      refine aw_aload_n d_Mo_named_58 rfl rfl ?_
      refine aw_bipush d_Mo_named_59 ⟨by decide, by decide⟩ (by decide) ?_
      refine ax_Vr (st := []) (as := [vi 53]) (b := 175) d_Mo_named_61 cs_Mo_named_61 (kq_175 S) (c_Mo_putK S (n := 4) (by omega) k_55) rfl rfl rfl (fun u_61 q_61 => ?_)
      obtain ⟨J_61, K_61⟩ := u_61
      obtain ⟨f_61, k_61⟩ := q_61
      dsimp only at f_61 k_61
      rw [show nx 4 = 5 by decide] at k_61
      have f_61 := Fq.tr f_55 f_61
      show AW l G M_Mo_named P 64 [(4, vi i), (3, vi y), (2, vi x), (1, vr 190), (0, vr 175)] [] (sD h J_61 K_61)
      refine aw_aload_n d_Mo_named_64 rfl rfl ?_
      refine aw_bipush d_Mo_named_65 ⟨by decide, by decide⟩ (by decide) ?_
      refine ax_Vr (st := []) (as := [vi 49]) (b := 175) d_Mo_named_67 cs_Mo_named_67 (kq_175 S) (c_Mo_putK S (n := 5) (by omega) k_61) rfl rfl rfl (fun u_67 q_67 => ?_)
      obtain ⟨J_67, K_67⟩ := u_67
      obtain ⟨f_67, k_67⟩ := q_67
      dsimp only at f_67 k_67
      rw [show nx 5 = 6 by decide] at k_67
      have f_67 := Fq.tr f_61 f_67
      show AW l G M_Mo_named P 70 [(4, vi i), (3, vi y), (2, vi x), (1, vr 190), (0, vr 175)] [] (sD h J_67 K_67)
      refine aw_aload_n d_Mo_named_70 rfl rfl ?_
      refine aw_bipush d_Mo_named_71 ⟨by decide, by decide⟩ (by decide) ?_
      refine ax_Vr (st := []) (as := [vi 50]) (b := 175) d_Mo_named_73 cs_Mo_named_73 (kq_175 S) (c_Mo_putK S (n := 6) (by omega) k_67) rfl rfl rfl (fun u_73 q_73 => ?_)
      obtain ⟨J_73, K_73⟩ := u_73
      obtain ⟨f_73, k_73⟩ := q_73
      dsimp only at f_73 k_73
      rw [show nx 6 = 7 by decide] at k_73
      have f_73 := Fq.tr f_67 f_73
      show AW l G M_Mo_named P 76 [(4, vi i), (3, vi y), (2, vi x), (1, vr 190), (0, vr 175)] [] (sD h J_73 K_73)
      refine aw_aload_n d_Mo_named_76 rfl rfl ?_
      refine aw_bipush d_Mo_named_77 ⟨by decide, by decide⟩ (by decide) ?_
      refine ax_Vr (st := []) (as := [vi 47]) (b := 175) d_Mo_named_79 cs_Mo_named_79 (kq_175 S) (c_Mo_putK S (n := 7) (by omega) k_73) rfl rfl rfl (fun u_79 q_79 => ?_)
      obtain ⟨J_79, K_79⟩ := u_79
      obtain ⟨f_79, k_79⟩ := q_79
      dsimp only at f_79 k_79
      rw [show nx 7 = 8 by decide] at k_79
      have f_79 := Fq.tr f_73 f_79
      show AW l G M_Mo_named P 82 [(4, vi i), (3, vi y), (2, vi x), (1, vr 190), (0, vr 175)] [] (sD h J_79 K_79)
      refine aw_aload_n d_Mo_named_82 rfl rfl ?_
      refine aw_bipush d_Mo_named_83 ⟨by decide, by decide⟩ (by decide) ?_
      refine ax_Vr (st := []) (as := [vi 50]) (b := 175) d_Mo_named_85 cs_Mo_named_85 (kq_175 S) (c_Mo_putK S (n := 8) (by omega) k_79) rfl rfl rfl (fun u_85 q_85 => ?_)
      obtain ⟨J_85, K_85⟩ := u_85
      obtain ⟨f_85, k_85⟩ := q_85
      dsimp only at f_85 k_85
      rw [show nx 8 = 9 by decide] at k_85
      have f_85 := Fq.tr f_79 f_85
      show AW l G M_Mo_named P 88 [(4, vi i), (3, vi y), (2, vi x), (1, vr 190), (0, vr 175)] [] (sD h J_85 K_85)
      refine aw_aload_n d_Mo_named_88 rfl rfl ?_
      refine aw_iload_n d_Mo_named_89 rfl rfl ?_
      refine ax_Vr (st := []) (as := [vi x]) (b := 175) d_Mo_named_90 cs_Mo_named_90 (kq_175 S) (c_Mo_putK S (n := 9) (by omega) k_85) rfl rfl rfl (fun u_90 q_90 => ?_)
      obtain ⟨J_90, K_90⟩ := u_90
      obtain ⟨f_90, k_90⟩ := q_90
      dsimp only at f_90 k_90
      rw [show nx 9 = 10 by decide] at k_90
      have f_90 := Fq.tr f_85 f_90
      show AW l G M_Mo_named P 93 [(4, vi i), (3, vi y), (2, vi x), (1, vr 190), (0, vr 175)] [] (sD h J_90 K_90)
      refine aw_aload_n d_Mo_named_93 rfl rfl ?_
      refine aw_iload_n d_Mo_named_94 rfl rfl ?_
      refine ax_Vr (st := []) (as := [vi y]) (b := 175) d_Mo_named_95 cs_Mo_named_95 (kq_175 S) (c_Mo_putK S (n := 10) (by omega) k_90) rfl rfl rfl (fun u_95 q_95 => ?_)
      obtain ⟨J_95, K_95⟩ := u_95
      obtain ⟨f_95, k_95⟩ := q_95
      dsimp only at f_95 k_95
      rw [show nx 10 = 11 by decide] at k_95
      have f_95 := Fq.tr f_90 f_95
      show AW l G M_Mo_named P 98 [(4, vi i), (3, vi y), (2, vi x), (1, vr 190), (0, vr 175)] [] (sD h J_95 K_95)
      refine aw_aload_n d_Mo_named_98 rfl rfl ?_
      refine ax_Vr (st := []) (as := []) (b := 175) d_Mo_named_99 cs_Mo_named_99 (kq_175 S) (c_Mo_finish3 S (n := 11) (by omega) k_95) rfl rfl rfl (fun u_99 q_99 => ?_)
      obtain ⟨J_99, K_99⟩ := u_99
      dsimp only at q_99
      have f_99 := Fq.tr f_95 q_99
      show AW l G M_Mo_named P 102 [(4, vi i), (3, vi y), (2, vi x), (1, vr 190), (0, vr 175)] [] (sD h J_99 K_99)
      refine aw_iconst d_Mo_named_102 ⟨by decide, by decide⟩ ?_
      refine aw_istore (lv' := [(4, vi 0), (3, vi y), (2, vi x), (1, vr 190), (0, vr 175)]) d_Mo_named_103 (by decide) rfl ?_
      have lp_105 : ∀ (n_ : Nat) (i : Int) (K2 : Nat → Int → Int), (0 ≤ i ∧ i ≤ 8) → (Fq I L J_99 K2) → ((8 - i).toNat) = n_ → AW l G M_Mo_named P 105 [(4, vi i), (3, vi y), (2, vi x), (1, vr 190), (0, vr 175)] [] (sD h J_99 K2) := by
        intro n_
        induction n_ using Nat.strongRecOn with
        | _ n_ ih_105 =>
        intro i K2 hi2 f2 hm_105
        refine aw_iload d_Mo_named_105 rfl ?_
        refine aw_bipush d_Mo_named_107 ⟨by decide, by decide⟩ (by decide) ?_
        refine aw_icmp_ge (tgt := 129) d_Mo_named_109 (by decide) (fun c_109 => ?_) (fun c_109 => ?_)
        · skip
          exact aw_vret d_Mo_named_129 rfl (hP _ _ f2)
        · skip
          refine aw_aload_n d_Mo_named_112 rfl rfl ?_
          refine aw_iload d_Mo_named_113 rfl ?_
          refine aw_aload_n d_Mo_named_115 rfl rfl ?_
          refine ax_getR (b := 195) d_Mo_named_116 fd_Mo_47 (kq_175 S) (rq_175_13 S) ?_
          refine aw_iload d_Mo_named_119 rfl ?_
          refine ax_lalde (x := K2 195 i) d_Mo_named_121 (kq_195 S) (by omega) (by rw [nq_195 S]; omega) (rfl) ?_
          refine ax_last d_Mo_named_122 (kq_190 S) (by decide) (by omega) (by rw [nq_190 S]; omega) ?_
          refine ax_iinc (lv' := [(4, vi (i + 1)), (3, vi y), (2, vi x), (1, vr 190), (0, vr 175)]) d_Mo_named_123 rfl (by decide) ⟨(by omega), (by omega)⟩ rfl ?_
          refine aw_goto (tgt := 105) d_Mo_named_126 (by decide) ?_
          exact ih_105 _ (by omega) (i + 1) (a_up K2 190 i (K2 195 i)) (by omega) (f2.uL (by decide)) rfl
      exact lp_105 _ 0 K_99 (by omega) (f_99) rfl
    · skip
      refine aw_aload_n d_Mo_named_15 rfl rfl ?_
      refine ax_getR (b := 195) d_Mo_named_16 fd_Mo_47 (kq_175 S) (rq_175_13 S) ?_
      refine aw_iload d_Mo_named_19 rfl ?_
      refine aw_dup2 d_Mo_named_21 rfl rfl ?_
      refine ax_lalde (x := K 195 i) d_Mo_named_22 (kq_195 S) (by omega) (by rw [nq_195 S]; omega) (rfl) ?_
      refine aw_ldc2 (n := -6510615555426900571) d_Mo_named_23 lc_Mo_151 ⟨by decide, by decide⟩ ?_
      refine aw_lxor d_Mo_named_26 ?_
      refine ax_last d_Mo_named_27 (kq_195 S) (by decide) (by omega) (by rw [nq_195 S]; omega) ?_
      refine ax_iinc (lv' := [(4, vi (i + 1)), (3, vi y), (2, vi x), (1, vr 190), (0, vr 175)]) d_Mo_named_28 rfl (by decide) ⟨(by omega), (by omega)⟩ rfl ?_
      refine aw_goto (tgt := 8) d_Mo_named_31 (by decide) ?_
      exact ih_8 _ (by omega) (i + 1) (a_up K 195 i (a_lxor (K 195 i) (-6510615555426900571))) (by omega) (f1.uL (by decide)) rfl
  refine aw_sub (lv' := [(4, vi 0), (3, vi y), (2, vi x), (1, vr 190), (0, vr 175)]) (by simp) ?_
  exact lp_8 _ 0 K_2 (by omega) (f_2) rfl
