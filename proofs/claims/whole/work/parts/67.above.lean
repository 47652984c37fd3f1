/-! the reference's above -/
theorem lush16 {x : Int} (h : 0 ≤ x ∧ x < 65536) : a_lushr x 16 = 0 := by
  have z : a_lushr x 16 % 18446744073709551616 = x % 18446744073709551616 / 65536 := by
    unfold a_lushr
    rw [toL, show ((Int32.ofInt 16).toInt64.toUInt64 &&& Int64.toUInt64 63) = 16 by decide]
    have e : ((Int64.ofInt x).toUInt64 >>> 16).toInt64.toBitVec.toNat = (Int64.ofInt x).toBitVec.toNat / 65536 := by
      show ((Int64.ofInt x).toUInt64 >>> 16).toNat = _
      rw [UInt64.toNat_shiftRight]
      show (Int64.ofInt x).toBitVec.toNat >>> (16 % 64) = _
      rw [Nat.shiftRight_eq_div_pow]
    rw [e, a_bvL]
    have := Int.emod_nonneg x (show (18446744073709551616 : Int) ≠ 0 by decide)
    omega
  have r : okL (a_lushr x 16) := a_ok64 _
  unfold okL at r
  omega
theorem lush0 : ∀ k : Nat, k < 4 → a_lushr 0 (16 * (k : Int)) = 0 := by decide +kernel
theorem lush0' {j : Int} (h : 0 ≤ j ∧ j < 4) : a_lushr 0 (16 * j) = 0 := by
  have z := lush0 j.toNat (by omega)
  rwa [Int.toNat_of_nonneg h.1] at z
theorem lshl0 : a_lshl 0 16 = 0 := by decide +kernel
theorem abA {X P_ : Int} (h : 0 ≤ X ∧ X ≤ 10648) : a_w64 (X + a_w64 (P_ * 0)) = X := by
  rw [Int.mul_zero, show a_w64 0 = 0 by decide, Int.add_zero]
  exact a_w64_id (by omega) (by omega)
theorem abB {X Y : Int} (h : 0 ≤ X ∧ X ≤ 10648) (h2 : 0 ≤ Y ∧ Y ≤ 10648) : a_w64 (X + a_w64 Y) = X + Y := by
  rw [a_w64_id (x := Y) (by omega) (by omega)]
  exact a_w64_id (by omega) (by omega)
theorem lcg (x y : Int) : 0 < a_lcmp x y ↔ y < x := by
  unfold a_lcmp
  split
  · omega
  · split <;> omega
set_option maxHeartbeats 2000000 in
set_option maxRecDepth 100000 in
theorem c_Mo_above {l : Launch} {G : a_G} {h : Hp} {I L : Nat → Int → Int} {w_ pa po nu : Int} (S : Shq h) (hpo : po = 2 ∨ po = 3) (hw : 0 ≤ w_ ∧ w_ ≤ 1000) : AW l G M_Mo_above (Ret (fun u : Int × (Nat → Int → Int) => some (vi u.1)) (fun u => sD h I u.2) (fun u => (u.1 = 0 ∨ u.1 = 1) ∧ (∀ a j, a ≠ 191 → a ≠ 192 → u.2 a j = L a j) ∧ ((pa = 0 ∧ 0 ≤ w_ ∧ w_ ≤ 22) → (u.1 = 1 ↔ nu < w_ ^ po.toNat)))) 0 (a_ar 0 [vr 175, vi w_, vl pa, vi po, vi nu]) [] (sD h I L) := by
  suffices key : ∀ P : a_R → Hp → Prop, (∀ (v : Int) (K : Nat → Int → Int), (v = 0 ∨ v = 1) → (∀ a j, a ≠ 191 → a ≠ 192 → K a j = L a j) → ((pa = 0 ∧ 0 ≤ w_ ∧ w_ ≤ 22) → (v = 1 ↔ nu < w_ ^ po.toNat)) → P (.inl (some (vi v))) (sD h I K)) → AW l G M_Mo_above P 0 [(0, vr 175), (1, vi w_), (2, vl pa), (4, vi po), (5, vi nu)] [] (sD h I L) from key _ (fun v K q1 q2 q3 => ⟨(v, K), rfl, rfl, q1, q2, q3⟩)
  intro P hP
  refine aw_iconst d_Mo_above_0 ⟨by decide, by decide⟩ ?_
  refine aw_istore (lv' := [(6, vi 0), (0, vr 175), (1, vi w_), (2, vl pa), (4, vi po), (5, vi nu)]) d_Mo_above_1 (by decide) rfl ?_
  have lp_3 : ∀ (n_ : Nat) (i : Int) (K : Nat → Int → Int), (0 ≤ i ∧ i ≤ 16) → (∀ a j, a ≠ 191 → a ≠ 192 → K a j = L a j) → (∀ m, 0 ≤ m → m < i → K 192 m = if m = 0 then 1 else 0) → ((16 - i).toNat) = n_ → AW l G M_Mo_above P 3 [(6, vi i), (5, vi nu), (4, vi po), (2, vl pa), (1, vi w_), (0, vr 175)] [] (sD h I K) := by
    intro n_
    induction n_ using Nat.strongRecOn with
    | _ n_ ih_3 =>
    intro i K hi f1 p1 hm_3
    refine aw_iload d_Mo_above_3 rfl ?_
    refine aw_bipush d_Mo_above_5 ⟨by decide, by decide⟩ (by decide) ?_
    refine aw_icmp_ge (tgt := 33) d_Mo_above_7 (by decide) (fun c_7 => ?_) (fun c_7 => ?_)
    · skip
      refine aw_iconst d_Mo_above_33 ⟨by decide, by decide⟩ ?_
      refine aw_istore (lv' := [(6, vi 0), (5, vi nu), (4, vi po), (2, vl pa), (1, vi w_), (0, vr 175)]) d_Mo_above_34 (by decide) rfl ?_
      have lp_36 : ∀ (n_ : Nat) (p : Int) (K2 : Nat → Int → Int), (0 ≤ p ∧ p ≤ po) → (∀ a j, a ≠ 191 → a ≠ 192 → K2 a j = L a j) → ((pa = 0 ∧ 0 ≤ w_ ∧ w_ ≤ 22) → ∀ m, 0 ≤ m → m < 16 → K2 192 m = ab1 w_ m p) → ((po - p).toNat) = n_ → AW l G M_Mo_above P 36 [(6, vi p), (5, vi nu), (4, vi po), (2, vl pa), (1, vi w_), (0, vr 175)] [] (sD h I K2) := by
        intro n_
        induction n_ using Nat.strongRecOn with
        | _ n_ ih_36 =>
        intro p K2 hp_ f2 p2 hm_36
        refine aw_iload d_Mo_above_36 rfl ?_
        refine aw_iload d_Mo_above_38 rfl ?_
        refine aw_icmp_ge (tgt := 208) d_Mo_above_40 (by decide) (fun c_40 => ?_) (fun c_40 => ?_)
        · skip
          refine aw_aload_n d_Mo_above_208 rfl rfl ?_
          refine ax_getR (b := 192) d_Mo_above_209 fd_Mo_38 (kq_175 S) (rq_175_10 S) ?_
          refine aw_iconst d_Mo_above_212 ⟨by decide, by decide⟩ ?_
          refine aw_iload d_Mo_above_213 rfl ?_
          refine ax_imul d_Mo_above_215 ⟨(by omega), (by omega)⟩ ?_
          refine ax_lalde (x := K2 192 (4 * po)) d_Mo_above_216 (kq_192 S) (by omega) (by rw [nq_192 S]; omega) (rfl) ?_
          refine aw_aload_n d_Mo_above_217 rfl rfl ?_
          refine ax_getR (b := 192) d_Mo_above_218 fd_Mo_38 (kq_175 S) (rq_175_10 S) ?_
          refine aw_iconst d_Mo_above_221 ⟨by decide, by decide⟩ ?_
          refine aw_iload d_Mo_above_222 rfl ?_
          refine ax_imul d_Mo_above_224 ⟨(by omega), (by omega)⟩ ?_
          refine aw_iconst d_Mo_above_225 ⟨by decide, by decide⟩ ?_
          refine ax_iadd d_Mo_above_226 ⟨(by omega), (by omega)⟩ ?_
          refine ax_lalde (x := K2 192 ((4 * po) + 1)) d_Mo_above_227 (kq_192 S) (by omega) (by rw [nq_192 S]; omega) (rfl) ?_
          refine aw_bipush d_Mo_above_228 ⟨by decide, by decide⟩ (by decide) ?_
          refine aw_lshl d_Mo_above_230 ?_
          refine aw_ladd d_Mo_above_231 ?_
          refine aw_lstore (lv' := [(6, vl (a_w64 ((K2 192 (4 * po)) + (a_lshl (K2 192 ((4 * po) + 1)) 16)))), (5, vi nu), (4, vi po), (2, vl pa), (1, vi w_), (0, vr 175)]) d_Mo_above_232 (by decide) rfl ?_
          have htp : (pa = 0 ∧ 0 ≤ w_ ∧ w_ ≤ 22) → a_w64 ((K2 192 (4 * po)) + (a_lshl (K2 192 ((4 * po) + 1)) 16)) = w_ ^ po.toNat := fun z => by rw [p2 z _ (by omega) (by omega), p2 z _ (by omega) (by omega)]; unfold ab1; rw [if_pos (by omega), if_neg (by omega), lshl0, Int.add_zero, show p = po by omega]; have := w_pow z.2 po.toNat (by omega); exact a_w64_id (by omega) (by omega)
          generalize a_w64 ((K2 192 (4 * po)) + (a_lshl (K2 192 ((4 * po) + 1)) 16)) = tp_ at htp ⊢
          refine aw_iconst d_Mo_above_234 ⟨by decide, by decide⟩ ?_
          refine aw_istore (lv' := [(8, vi 0), (6, vl tp_), (5, vi nu), (4, vi po), (2, vl pa), (1, vi w_), (0, vr 175)]) d_Mo_above_235 (by decide) rfl ?_
          refine aw_iconst d_Mo_above_237 ⟨by decide, by decide⟩ ?_
          refine aw_istore (lv' := [(9, vi 0), (8, vi 0), (6, vl tp_), (5, vi nu), (4, vi po), (2, vl pa), (1, vi w_), (0, vr 175)]) d_Mo_above_238 (by decide) rfl ?_
          have lp_240 : ∀ (n_ : Nat) (i : Int) (rs : Int), (0 ≤ i ∧ i ≤ 4 * po) → ((rs = 0 ∨ rs = 1) ∧ ((pa = 0 ∧ 0 ≤ w_ ∧ w_ ≤ 22) → rs = 0)) → ((4 * po - i).toNat) = n_ → AW l G M_Mo_above P 240 [(9, vi i), (8, vi rs), (6, vl tp_), (5, vi nu), (4, vi po), (2, vl pa), (1, vi w_), (0, vr 175)] [] (sD h I K2) := by
            intro n_
            induction n_ using Nat.strongRecOn with
            | _ n_ ih_240 =>
            intro i rs hi8 hrs hm_240
            refine aw_iload d_Mo_above_240 rfl ?_
            refine aw_iconst d_Mo_above_242 ⟨by decide, by decide⟩ ?_
            refine aw_iload d_Mo_above_243 rfl ?_
            refine ax_imul d_Mo_above_245 ⟨(by omega), (by omega)⟩ ?_
            refine aw_icmp_ge (tgt := 270) d_Mo_above_246 (by decide) (fun c_246 => ?_) (fun c_246 => ?_)
            · skip
              refine aw_lload d_Mo_above_270 rfl ?_
              refine aw_iload d_Mo_above_272 rfl ?_
              refine aw_i2l d_Mo_above_274 ?_
              refine aw_lcmp d_Mo_above_275 ?_
              refine aw_if_gt (tgt := 293) d_Mo_above_276 (by decide) (fun c_276 => ?_) (fun c_276 => ?_)
              · skip
                refine aw_iconst d_Mo_above_293 ⟨by decide, by decide⟩ ?_
                refine aw_goto (tgt := 298) d_Mo_above_294 (by decide) ?_
                exact aw_zret d_Mo_above_298 rfl ⟨by decide, by decide⟩ (hP _ K2 (Or.inr rfl) f2 (fun z => by have t1 := htp z; have r1 := hrs.2 z; have g1 := lcg tp_ nu; have g2 := @lcmp0 tp_ nu; refine ⟨fun _ => by omega, fun _ => rfl⟩))
              · skip
                refine aw_lload d_Mo_above_279 rfl ?_
                refine aw_iload d_Mo_above_281 rfl ?_
                refine aw_i2l d_Mo_above_283 ?_
                refine aw_lcmp d_Mo_above_284 ?_
                refine aw_if_ne (tgt := 297) d_Mo_above_285 (by decide) (fun c_285 => ?_) (fun c_285 => ?_)
                · skip
                  refine aw_iconst d_Mo_above_297 ⟨by decide, by decide⟩ ?_
                  exact aw_zret d_Mo_above_298 rfl ⟨by decide, by decide⟩ (hP _ K2 (Or.inl rfl) f2 (fun z => by have t1 := htp z; have r1 := hrs.2 z; have g1 := lcg tp_ nu; have g2 := @lcmp0 tp_ nu; refine ⟨fun q => absurd q (by decide), fun q => by omega⟩))
                · skip
                  refine aw_iload d_Mo_above_288 rfl ?_
                  refine aw_if_eq (tgt := 297) d_Mo_above_290 (by decide) (fun c_290 => ?_) (fun c_290 => ?_)
                  · skip
                    refine aw_iconst d_Mo_above_297 ⟨by decide, by decide⟩ ?_
                    exact aw_zret d_Mo_above_298 rfl ⟨by decide, by decide⟩ (hP _ K2 (Or.inl rfl) f2 (fun z => by have t1 := htp z; have r1 := hrs.2 z; have g1 := lcg tp_ nu; have g2 := @lcmp0 tp_ nu; refine ⟨fun q => absurd q (by decide), fun q => by omega⟩))
                  · skip
                    refine aw_iconst d_Mo_above_293 ⟨by decide, by decide⟩ ?_
                    refine aw_goto (tgt := 298) d_Mo_above_294 (by decide) ?_
                    exact aw_zret d_Mo_above_298 rfl ⟨by decide, by decide⟩ (hP _ K2 (Or.inr rfl) f2 (fun z => by have t1 := htp z; have r1 := hrs.2 z; have g1 := lcg tp_ nu; have g2 := @lcmp0 tp_ nu; refine ⟨fun _ => by omega, fun _ => rfl⟩))
            · skip
              refine aw_aload_n d_Mo_above_249 rfl rfl ?_
              refine ax_getR (b := 192) d_Mo_above_250 fd_Mo_38 (kq_175 S) (rq_175_10 S) ?_
              refine aw_iload d_Mo_above_253 rfl ?_
              refine ax_lalde (x := K2 192 i) d_Mo_above_255 (kq_192 S) (by omega) (by rw [nq_192 S]; omega) (rfl) ?_
              refine aw_lconst (x := 0) d_Mo_above_256 ⟨by decide, by decide⟩ (by decide) ?_
              refine aw_lcmp d_Mo_above_257 ?_
              refine aw_if_eq (tgt := 264) d_Mo_above_258 (by decide) (fun c_258 => ?_) (fun c_258 => ?_)
              · skip
                refine ax_iinc (lv' := [(9, vi (i + 1)), (8, vi rs), (6, vl tp_), (5, vi nu), (4, vi po), (2, vl pa), (1, vi w_), (0, vr 175)]) d_Mo_above_264 rfl (by decide) ⟨(by omega), (by omega)⟩ rfl ?_
                refine aw_goto (tgt := 240) d_Mo_above_267 (by decide) ?_
                exact ih_240 _ (by omega) (i + 1) rs (by omega) (hrs) rfl
              · skip
                refine aw_iconst d_Mo_above_261 ⟨by decide, by decide⟩ ?_
                refine aw_istore (lv' := [(8, vi 1), (9, vi i), (6, vl tp_), (5, vi nu), (4, vi po), (2, vl pa), (1, vi w_), (0, vr 175)]) d_Mo_above_262 (by decide) rfl ?_
                refine ax_iinc (lv' := [(9, vi (i + 1)), (8, vi 1), (6, vl tp_), (5, vi nu), (4, vi po), (2, vl pa), (1, vi w_), (0, vr 175)]) d_Mo_above_264 rfl (by decide) ⟨(by omega), (by omega)⟩ rfl ?_
                refine aw_goto (tgt := 240) d_Mo_above_267 (by decide) ?_
                exact ih_240 _ (by omega) (i + 1) 1 (by omega) (⟨Or.inr rfl, fun z => absurd (lcmp0.2 (by rw [p2 z i hi8.1 (by omega)]; unfold ab1; rw [if_neg (by omega)])) c_258⟩) rfl
          exact lp_240 _ 0 0 (by omega) (⟨Or.inl rfl, fun _ => rfl⟩) rfl
        · skip
          refine aw_iconst d_Mo_above_43 ⟨by decide, by decide⟩ ?_
          refine aw_istore (lv' := [(7, vi 0), (6, vi p), (5, vi nu), (4, vi po), (2, vl pa), (1, vi w_), (0, vr 175)]) d_Mo_above_44 (by decide) rfl ?_
          have lp_46 : ∀ (n_ : Nat) (i : Int) (K3 : Nat → Int → Int), (0 ≤ i ∧ i ≤ 16) → (∀ a j, a ≠ 191 → a ≠ 192 → K3 a j = L a j) → (∀ j, K3 192 j = K2 192 j) → (∀ m, 0 ≤ m → m < i → K3 191 m = 0) → ((16 - i).toNat) = n_ → AW l G M_Mo_above P 46 [(7, vi i), (6, vi p), (5, vi nu), (4, vi po), (2, vl pa), (1, vi w_), (0, vr 175)] [] (sD h I K3) := by
            intro n_
            induction n_ using Nat.strongRecOn with
            | _ n_ ih_46 =>
            intro i K3 hi3 f3 p3 z3 hm_46
            refine aw_iload d_Mo_above_46 rfl ?_
            refine aw_bipush d_Mo_above_48 ⟨by decide, by decide⟩ (by decide) ?_
            refine aw_icmp_ge (tgt := 67) d_Mo_above_50 (by decide) (fun c_50 => ?_) (fun c_50 => ?_)
            · skip
              refine aw_iconst d_Mo_above_67 ⟨by decide, by decide⟩ ?_
              refine aw_istore (lv' := [(7, vi 0), (6, vi p), (5, vi nu), (4, vi po), (2, vl pa), (1, vi w_), (0, vr 175)]) d_Mo_above_68 (by decide) rfl ?_
              have lp_70 : ∀ (n_ : Nat) (i : Int) (K4 : Nat → Int → Int), (0 ≤ i ∧ i ≤ 16) → (∀ a j, a ≠ 191 → a ≠ 192 → K4 a j = L a j) → (∀ j, K4 192 j = K2 192 j) → ((pa = 0 ∧ 0 ≤ w_ ∧ w_ ≤ 22) → ∀ m, 0 ≤ m → m < 16 → K4 191 m = if m = 4 * p + 4 ∧ (4 * p < i) then w_ ^ (p + 1).toNat else 0) → ((16 - i).toNat) = n_ → AW l G M_Mo_above P 70 [(7, vi i), (6, vi p), (5, vi nu), (4, vi po), (2, vl pa), (1, vi w_), (0, vr 175)] [] (sD h I K4) := by
                intro n_
                induction n_ using Nat.strongRecOn with
                | _ n_ ih_70 =>
                intro i K4 hi4 f4 p4 l4 hm_70
                refine aw_iload d_Mo_above_70 rfl ?_
                refine aw_bipush d_Mo_above_72 ⟨by decide, by decide⟩ (by decide) ?_
                refine aw_icmp_ge (tgt := 151) d_Mo_above_74 (by decide) (fun c_74 => ?_) (fun c_74 => ?_)
                · skip
                  refine aw_lconst (x := 0) d_Mo_above_151 ⟨by decide, by decide⟩ (by decide) ?_
                  refine aw_lstore (lv' := [(7, vl 0), (6, vi p), (5, vi nu), (4, vi po), (2, vl pa), (1, vi w_), (0, vr 175)]) d_Mo_above_152 (by decide) rfl ?_
                  refine aw_iconst d_Mo_above_154 ⟨by decide, by decide⟩ ?_
                  refine aw_istore (lv' := [(9, vi 0), (7, vl 0), (6, vi p), (5, vi nu), (4, vi po), (2, vl pa), (1, vi w_), (0, vr 175)]) d_Mo_above_155 (by decide) rfl ?_
                  have lp_157 : ∀ (n_ : Nat) (i : Int) (ca : Int) (K6 : Nat → Int → Int), (0 ≤ i ∧ i ≤ 16) → (∀ a j, a ≠ 191 → a ≠ 192 → K6 a j = L a j) → (∀ j, K6 191 j = K4 191 j) → ((pa = 0 ∧ 0 ≤ w_ ∧ w_ ≤ 22) → ca = 0 ∧ ∀ m, 0 ≤ m → m < i → K6 192 m = ab1 w_ m (p + 1)) → ((16 - i).toNat) = n_ → AW l G M_Mo_above P 157 [(9, vi i), (7, vl ca), (6, vi p), (5, vi nu), (4, vi po), (2, vl pa), (1, vi w_), (0, vr 175)] [] (sD h I K6) := by
                    intro n_
                    induction n_ using Nat.strongRecOn with
                    | _ n_ ih_157 =>
                    intro i ca K6 hi6 f6 q6 p6 hm_157
                    have ve : (pa = 0 ∧ 0 ≤ w_ ∧ w_ ≤ 22) → i < 16 → K6 191 i = if i = 4 * p + 4 ∧ (4 * p < 16) then w_ ^ (p + 1).toNat else 0 := fun z v => by rw [q6 i, l4 z i hi6.1 v]; by_cases q : i = 4 * p + 4 ∧ 4 * p < 16; rw [if_pos q, if_pos (by omega)]; rw [if_neg q, if_neg (by omega)]
                    refine aw_iload d_Mo_above_157 rfl ?_
                    refine aw_bipush d_Mo_above_159 ⟨by decide, by decide⟩ (by decide) ?_
                    refine aw_icmp_ge (tgt := 202) d_Mo_above_161 (by decide) (fun c_161 => ?_) (fun c_161 => ?_)
                    · skip
                      refine ax_iinc (lv' := [(6, vi (p + 1)), (9, vi i), (7, vl ca), (5, vi nu), (4, vi po), (2, vl pa), (1, vi w_), (0, vr 175)]) d_Mo_above_202 rfl (by decide) ⟨(by omega), (by omega)⟩ rfl ?_
                      refine aw_goto (tgt := 36) d_Mo_above_205 (by decide) ?_
                      refine aw_sub (lv' := [(6, vi (p + 1)), (5, vi nu), (4, vi po), (2, vl pa), (1, vi w_), (0, vr 175)]) (by simp) ?_
                      exact ih_36 _ (by omega) (p + 1) K6 (by omega) (f6) (fun z m a b => (p6 z).2 m a (by omega)) rfl
                    · skip
                      have ve : (pa = 0 ∧ 0 ≤ w_ ∧ w_ ≤ 22) → K6 191 i = if i = 4 * p + 4 ∧ (4 * p < 16) then w_ ^ (p + 1).toNat else 0 := fun z => ve z (by omega)
                      have vb : (pa = 0 ∧ 0 ≤ w_ ∧ w_ ≤ 22) → 0 ≤ K6 191 i ∧ K6 191 i ≤ 10648 := fun z => by rw [ve z]; have := w_pow z.2 (p + 1).toNat (by omega); split; exact this; omega
                      have cv : (pa = 0 ∧ 0 ≤ w_ ∧ w_ ≤ 22) → a_w64 (ca + K6 191 i) = K6 191 i := fun z => by rw [(p6 z).1, Int.zero_add]; have := vb z; exact a_w64_id (by omega) (by omega)
                      refine aw_lload d_Mo_above_164 rfl ?_
                      refine aw_aload_n d_Mo_above_166 rfl rfl ?_
                      refine ax_getR (b := 191) d_Mo_above_167 fd_Mo_35 (kq_175 S) (rq_175_9 S) ?_
                      refine aw_iload d_Mo_above_170 rfl ?_
                      refine ax_lalde (x := K6 191 i) d_Mo_above_172 (kq_191 S) (by omega) (by rw [nq_191 S]; omega) (rfl) ?_
                      refine aw_ladd d_Mo_above_173 ?_
                      refine aw_lstore (lv' := [(7, vl (a_w64 (ca + (K6 191 i)))), (9, vi i), (6, vi p), (5, vi nu), (4, vi po), (2, vl pa), (1, vi w_), (0, vr 175)]) d_Mo_above_174 (by decide) rfl ?_
                      refine aw_aload_n d_Mo_above_176 rfl rfl ?_
                      refine ax_getR (b := 192) d_Mo_above_177 fd_Mo_38 (kq_175 S) (rq_175_10 S) ?_
                      refine aw_iload d_Mo_above_180 rfl ?_
                      refine aw_lload d_Mo_above_182 rfl ?_
                      refine aw_ldc2 (n := 65535) d_Mo_above_184 lc_Mo_126 ⟨by decide, by decide⟩ ?_
                      refine aw_land d_Mo_above_187 ?_
                      refine ax_tl (x := (a_w64 (ca + (K6 191 i))) % 65536) (a_land' 16 (by decide) (by decide) (by decide)) ?_
                      refine ax_last d_Mo_above_188 (kq_192 S) (by decide) (by omega) (by rw [nq_192 S]; omega) ?_
                      refine aw_lload d_Mo_above_189 rfl ?_
                      refine aw_bipush d_Mo_above_191 ⟨by decide, by decide⟩ (by decide) ?_
                      refine aw_lushr d_Mo_above_193 ?_
                      refine aw_lstore (lv' := [(7, vl (a_lushr (a_w64 (ca + (K6 191 i))) 16)), (9, vi i), (6, vi p), (5, vi nu), (4, vi po), (2, vl pa), (1, vi w_), (0, vr 175)]) d_Mo_above_194 (by decide) rfl ?_
                      refine ax_iinc (lv' := [(9, vi (i + 1)), (7, vl (a_lushr (a_w64 (ca + (K6 191 i))) 16)), (6, vi p), (5, vi nu), (4, vi po), (2, vl pa), (1, vi w_), (0, vr 175)]) d_Mo_above_196 rfl (by decide) ⟨(by omega), (by omega)⟩ rfl ?_
                      refine aw_goto (tgt := 157) d_Mo_above_199 (by decide) ?_
                      exact ih_157 _ (by omega) (i + 1) (a_lushr (a_w64 (ca + (K6 191 i))) 16) (a_up K6 192 i ((a_w64 (ca + (K6 191 i))) % 65536)) (by omega) (fun a j x y => (a_up_ne (Or.inl (by omega))).trans (f6 a j x y)) (fun j => (a_up_ne (Or.inl (by decide))).trans (q6 j)) (fun z => ⟨by rw [cv z]; exact lush16 (by have := vb z; omega), fun m a b => by by_cases y : m = i; exact (by rw [y, a_up_at, cv z]; have := vb z; rw [ve z]; unfold ab1; have e1 : (4 * p + 4 : Int) = 4 * (p + 1) := (by omega); by_cases q : i = 4 * p + 4; exact (by rw [if_pos ⟨q, by omega⟩, if_pos (by omega)]; have := w_pow z.2 (p + 1).toNat (by omega); omega); exact (by rw [if_neg (fun e => q e.1), if_neg (by omega)]; rfl)); exact (by rw [a_up_ne (Or.inr y)]; exact (p6 z).2 m a (by omega))⟩) rfl
                  exact lp_157 _ 0 0 K4 (by omega) (f4) (fun _ => rfl) (fun z => ⟨rfl, fun m a b => by omega⟩) rfl
                · skip
                  refine aw_iconst d_Mo_above_77 ⟨by decide, by decide⟩ ?_
                  refine aw_istore (lv' := [(8, vi 0), (7, vi i), (6, vi p), (5, vi nu), (4, vi po), (2, vl pa), (1, vi w_), (0, vr 175)]) d_Mo_above_78 (by decide) rfl ?_
                  have lp_80 : ∀ (n_ : Nat) (j : Int) (K5 : Nat → Int → Int), (0 ≤ j ∧ j ≤ 5 ∧ i < 16) → (∀ a j, a ≠ 191 → a ≠ 192 → K5 a j = L a j) → (∀ j, K5 192 j = K2 192 j) → ((pa = 0 ∧ 0 ≤ w_ ∧ w_ ≤ 22) → ∀ m, 0 ≤ m → m < 16 → K5 191 m = if m = 4 * p + 4 ∧ (4 * p < i ∨ 4 * p = i ∧ 4 < j) then w_ ^ (p + 1).toNat else 0) → ((5 - j).toNat) = n_ → AW l G M_Mo_above P 80 [(8, vi j), (7, vi i), (6, vi p), (5, vi nu), (4, vi po), (2, vl pa), (1, vi w_), (0, vr 175)] [] (sD h I K5) := by
                    intro n_
                    induction n_ using Nat.strongRecOn with
                    | _ n_ ih_80 =>
                    intro j K5 hj f5 p5 l5 hm_80
                    have xb : (pa = 0 ∧ 0 ≤ w_ ∧ w_ ≤ 22) → ∀ m, 0 ≤ m → m < 16 → 0 ≤ K5 191 m ∧ K5 191 m ≤ 10648 := fun z m a b => by rw [l5 z m a b]; have := w_pow z.2 (p + 1).toNat (by omega); split; exact this; omega
                    refine aw_iload d_Mo_above_80 rfl ?_
                    refine aw_iconst d_Mo_above_82 ⟨by decide, by decide⟩ ?_
                    refine aw_icmp_ge (tgt := 145) d_Mo_above_83 (by decide) (fun c_83 => ?_) (fun c_83 => ?_)
                    · skip
                      refine ax_iinc (lv' := [(7, vi (i + 1)), (8, vi j), (6, vi p), (5, vi nu), (4, vi po), (2, vl pa), (1, vi w_), (0, vr 175)]) d_Mo_above_145 rfl (by decide) ⟨(by omega), (by omega)⟩ rfl ?_
                      refine aw_goto (tgt := 70) d_Mo_above_148 (by decide) ?_
                      refine aw_sub (lv' := [(7, vi (i + 1)), (6, vi p), (5, vi nu), (4, vi po), (2, vl pa), (1, vi w_), (0, vr 175)]) (by simp) ?_
                      exact ih_70 _ (by omega) (i + 1) K5 (by omega) (f5) (p5) (fun z m a b => by rw [l5 z m a b]; by_cases y : m = 4 * p + 4 ∧ 4 * p < i + 1; rw [if_pos y, if_pos (by omega)]; rw [if_neg y, if_neg (by omega)]) rfl
                    · skip
                      refine aw_iload d_Mo_above_86 rfl ?_
                      refine aw_iload d_Mo_above_88 rfl ?_
                      refine ax_iadd d_Mo_above_90 ⟨(by omega), (by omega)⟩ ?_
                      refine aw_bipush d_Mo_above_91 ⟨by decide, by decide⟩ (by decide) ?_
                      refine aw_icmp_ge (tgt := 145) d_Mo_above_93 (by decide) (fun c_93 => ?_) (fun c_93 => ?_)
                      · skip
                        refine ax_iinc (lv' := [(7, vi (i + 1)), (8, vi j), (6, vi p), (5, vi nu), (4, vi po), (2, vl pa), (1, vi w_), (0, vr 175)]) d_Mo_above_145 rfl (by decide) ⟨(by omega), (by omega)⟩ rfl ?_
                        refine aw_goto (tgt := 70) d_Mo_above_148 (by decide) ?_
                        refine aw_sub (lv' := [(7, vi (i + 1)), (6, vi p), (5, vi nu), (4, vi po), (2, vl pa), (1, vi w_), (0, vr 175)]) (by simp) ?_
                        exact ih_70 _ (by omega) (i + 1) K5 (by omega) (f5) (p5) (fun z m a b => by rw [l5 z m a b]; by_cases y : m = 4 * p + 4 ∧ 4 * p < i + 1; rw [if_pos y, if_pos (by omega)]; rw [if_neg y, if_neg (by omega)]) rfl
                      · skip
                        refine aw_aload_n d_Mo_above_96 rfl rfl ?_
                        refine ax_getR (b := 191) d_Mo_above_97 fd_Mo_35 (kq_175 S) (rq_175_9 S) ?_
                        refine aw_iload d_Mo_above_100 rfl ?_
                        refine aw_iload d_Mo_above_102 rfl ?_
                        refine ax_iadd d_Mo_above_104 ⟨(by omega), (by omega)⟩ ?_
                        refine aw_dup2 d_Mo_above_105 rfl rfl ?_
                        refine ax_lalde (x := K5 191 (i + j)) d_Mo_above_106 (kq_191 S) (by omega) (by rw [nq_191 S]; omega) (rfl) ?_
                        refine aw_aload_n d_Mo_above_107 rfl rfl ?_
                        refine ax_getR (b := 192) d_Mo_above_108 fd_Mo_38 (kq_175 S) (rq_175_10 S) ?_
                        refine aw_iload d_Mo_above_111 rfl ?_
                        refine ax_lalde (x := K5 192 i) d_Mo_above_113 (kq_192 S) (by omega) (by rw [nq_192 S]; omega) (rfl) ?_
                        refine aw_iload d_Mo_above_114 rfl ?_
                        refine aw_iconst d_Mo_above_116 ⟨by decide, by decide⟩ ?_
                        refine aw_icmp_ge (tgt := 134) d_Mo_above_117 (by decide) (fun c_117 => ?_) (fun c_117 => ?_)
                        · skip
                          refine aw_iload_n d_Mo_above_134 rfl rfl ?_
                          refine aw_i2l d_Mo_above_135 ?_
                          refine aw_lmul d_Mo_above_136 ?_
                          refine aw_ladd d_Mo_above_137 ?_
                          refine ax_last d_Mo_above_138 (kq_191 S) (by decide) (by omega) (by rw [nq_191 S]; omega) ?_
                          refine ax_iinc (lv' := [(8, vi (j + 1)), (7, vi i), (6, vi p), (5, vi nu), (4, vi po), (2, vl pa), (1, vi w_), (0, vr 175)]) d_Mo_above_139 rfl (by decide) ⟨(by omega), (by omega)⟩ rfl ?_
                          refine aw_goto (tgt := 80) d_Mo_above_142 (by decide) ?_
                          exact ih_80 _ (by omega) (j + 1) (a_up K5 191 (i + j) (a_w64 ((K5 191 (i + j)) + (a_w64 ((K5 192 i) * w_))))) (by omega) (fun a j x y => (a_up_ne (Or.inl (by omega))).trans (f5 a j x y)) (fun j => (a_up_ne (Or.inl (by decide))).trans (p5 j)) (fun z m a b => by by_cases y : m = i + j; exact (by rw [y, a_up_at]; rw [p5 i, p2 z i hi4.1 (by omega)]; unfold ab1; by_cases q : i = 4 * p; exact (by rw [if_pos q, l5 z _ (by omega) (by omega), if_neg (by omega), show w_ ^ p.toNat * w_ = w_ ^ (p + 1).toNat by rw [show (p + 1).toNat = p.toNat + 1 by omega, Int.pow_succ], abB (by omega) (w_pow z.2 (p + 1).toNat (by omega)), Int.zero_add, if_pos (by omega)]); exact (by rw [if_neg q, Int.zero_mul, show a_w64 0 = 0 by decide, Int.add_zero, a_w64_id (by have := xb z (i + j) (by omega) (by omega); omega) (by have := xb z (i + j) (by omega) (by omega); omega), l5 z _ (by omega) (by omega), if_neg (by omega), if_neg (by omega)])); exact (by rw [a_up_ne (Or.inr y), l5 z m a b]; by_cases q : m = 4 * p + 4 ∧ (4 * p < i ∨ 4 * p = i ∧ 4 < j); rw [if_pos q, if_pos (by omega)]; rw [if_neg q, if_neg (by omega)])) rfl
                        · skip
                          refine aw_lload_n d_Mo_above_120 rfl rfl ?_
                          refine aw_bipush d_Mo_above_121 ⟨by decide, by decide⟩ (by decide) ?_
                          refine aw_iload d_Mo_above_123 rfl ?_
                          refine ax_imul d_Mo_above_125 ⟨(by omega), (by omega)⟩ ?_
                          refine aw_lushr d_Mo_above_126 ?_
                          refine aw_ldc2 (n := 65535) d_Mo_above_127 lc_Mo_126 ⟨by decide, by decide⟩ ?_
                          refine aw_land d_Mo_above_130 ?_
                          refine ax_tl (x := (a_lushr pa (16 * j)) % 65536) (a_land' 16 (by decide) (by decide) (by decide)) ?_
                          refine aw_goto (tgt := 136) d_Mo_above_131 (by decide) ?_
                          refine aw_lmul d_Mo_above_136 ?_
                          refine aw_ladd d_Mo_above_137 ?_
                          refine ax_last d_Mo_above_138 (kq_191 S) (by decide) (by omega) (by rw [nq_191 S]; omega) ?_
                          refine ax_iinc (lv' := [(8, vi (j + 1)), (7, vi i), (6, vi p), (5, vi nu), (4, vi po), (2, vl pa), (1, vi w_), (0, vr 175)]) d_Mo_above_139 rfl (by decide) ⟨(by omega), (by omega)⟩ rfl ?_
                          refine aw_goto (tgt := 80) d_Mo_above_142 (by decide) ?_
                          exact ih_80 _ (by omega) (j + 1) (a_up K5 191 (i + j) (a_w64 ((K5 191 (i + j)) + (a_w64 ((K5 192 i) * ((a_lushr pa (16 * j)) % 65536)))))) (by omega) (fun a j x y => (a_up_ne (Or.inl (by omega))).trans (f5 a j x y)) (fun j => (a_up_ne (Or.inl (by decide))).trans (p5 j)) (fun z m a b => by by_cases y : m = i + j; exact (by rw [y, a_up_at]; rw [z.1, lush0' (by omega), show (0 : Int) % 65536 = 0 from rfl, abA (xb z _ (by omega) (by omega)), l5 z _ (by omega) (by omega)]; by_cases q : i + j = 4 * p + 4 ∧ (4 * p < i ∨ 4 * p = i ∧ 4 < j); rw [if_pos q, if_pos (by omega)]; rw [if_neg q, if_neg (by omega)]); exact (by rw [a_up_ne (Or.inr y), l5 z m a b]; by_cases q : m = 4 * p + 4 ∧ (4 * p < i ∨ 4 * p = i ∧ 4 < j); rw [if_pos q, if_pos (by omega)]; rw [if_neg q, if_neg (by omega)])) rfl
                  exact lp_80 _ 0 K4 (by omega) (f4) (p4) (fun z m a b => by rw [l4 z m a b]; by_cases y : m = 4 * p + 4 ∧ 4 * p < i; rw [if_pos y, if_pos (by omega)]; rw [if_neg y, if_neg (by omega)]) rfl
              exact lp_70 _ 0 K3 (by omega) (f3) (p3) (fun z m a b => by rw [z3 m a (by omega), if_neg (by omega)]) rfl
            · skip
              refine aw_aload_n d_Mo_above_53 rfl rfl ?_
              refine ax_getR (b := 191) d_Mo_above_54 fd_Mo_35 (kq_175 S) (rq_175_9 S) ?_
              refine aw_iload d_Mo_above_57 rfl ?_
              refine aw_lconst (x := 0) d_Mo_above_59 ⟨by decide, by decide⟩ (by decide) ?_
              refine ax_last d_Mo_above_60 (kq_191 S) (by decide) (by omega) (by rw [nq_191 S]; omega) ?_
              refine ax_iinc (lv' := [(7, vi (i + 1)), (6, vi p), (5, vi nu), (4, vi po), (2, vl pa), (1, vi w_), (0, vr 175)]) d_Mo_above_61 rfl (by decide) ⟨(by omega), (by omega)⟩ rfl ?_
              refine aw_goto (tgt := 46) d_Mo_above_64 (by decide) ?_
              exact ih_46 _ (by omega) (i + 1) (a_up K3 191 i 0) (by omega) (fun a j x y => (a_up_ne (Or.inl (by omega))).trans (f3 a j x y)) (fun j => (a_up_ne (Or.inl (by decide))).trans (p3 j)) (fun m a b => by by_cases z : m = i; exact (by rw [z, a_up_at]); exact (by rw [a_up_ne (Or.inr z)]; exact z3 m a (by omega))) rfl
          exact lp_46 _ 0 K2 (by omega) (f2) (fun _ => rfl) (fun m a b => by omega) rfl
      exact lp_36 _ 0 K (by omega) (f1) (fun z m a b => by rw [p1 m a (by omega)]; unfold ab1; rw [show (0 : Int).toNat = 0 from rfl, Int.pow_zero]; by_cases y : m = 0; rw [if_pos y, if_pos (by omega)]; rw [if_neg y, if_neg (by omega)]) rfl
    · skip
      refine aw_aload_n d_Mo_above_10 rfl rfl ?_
      refine ax_getR (b := 192) d_Mo_above_11 fd_Mo_38 (kq_175 S) (rq_175_10 S) ?_
      refine aw_iload d_Mo_above_14 rfl ?_
      refine aw_iload d_Mo_above_16 rfl ?_
      refine aw_if_ne (tgt := 25) d_Mo_above_18 (by decide) (fun c_18 => ?_) (fun c_18 => ?_)
      · skip
        refine aw_lconst (x := 0) d_Mo_above_25 ⟨by decide, by decide⟩ (by decide) ?_
        refine ax_last d_Mo_above_26 (kq_192 S) (by decide) (by omega) (by rw [nq_192 S]; omega) ?_
        refine ax_iinc (lv' := [(6, vi (i + 1)), (5, vi nu), (4, vi po), (2, vl pa), (1, vi w_), (0, vr 175)]) d_Mo_above_27 rfl (by decide) ⟨(by omega), (by omega)⟩ rfl ?_
        refine aw_goto (tgt := 3) d_Mo_above_30 (by decide) ?_
        exact ih_3 _ (by omega) (i + 1) (a_up K 192 i 0) (by omega) (fun a j x y => (a_up_ne (Or.inl (by omega))).trans (f1 a j x y)) (fun m a b => by by_cases z : m = i; exact (by rw [z, a_up_at]; rw [if_neg (by omega)]); exact (by rw [a_up_ne (Or.inr z)]; exact p1 m a (by omega))) rfl
      · skip
        refine aw_lconst (x := 1) d_Mo_above_21 ⟨by decide, by decide⟩ (by decide) ?_
        refine aw_goto (tgt := 26) d_Mo_above_22 (by decide) ?_
        refine ax_last d_Mo_above_26 (kq_192 S) (by decide) (by omega) (by rw [nq_192 S]; omega) ?_
        refine ax_iinc (lv' := [(6, vi (i + 1)), (5, vi nu), (4, vi po), (2, vl pa), (1, vi w_), (0, vr 175)]) d_Mo_above_27 rfl (by decide) ⟨(by omega), (by omega)⟩ rfl ?_
        refine aw_goto (tgt := 3) d_Mo_above_30 (by decide) ?_
        exact ih_3 _ (by omega) (i + 1) (a_up K 192 i 1) (by omega) (fun a j x y => (a_up_ne (Or.inl (by omega))).trans (f1 a j x y)) (fun m a b => by by_cases z : m = i; exact (by rw [z, a_up_at]; rw [if_pos (by omega)]); exact (by rw [a_up_ne (Or.inr z)]; exact p1 m a (by omega))) rfl
  refine aw_sub (lv' := [(6, vi 0), (5, vi nu), (4, vi po), (2, vl pa), (1, vi w_), (0, vr 175)]) (by simp) ?_
  exact lp_3 _ 0 L (by omega) (fun _ _ _ _ => rfl) (fun m a b => by omega) rfl
