/-! sampling: small -/
section RW2
variable {l : Launch} {G : a_G} {M M' : a_M} {P P' : a_R → Hp → Prop} {pc : Nat} {lv lv' : List (Nat × AV)} {st : List AV} {h : Hp} {I L : Nat → Int → Int}
def TwoR (c : Prop) (v1 v2 : Option AV) (h1 h2 : Hp) : a_R → Hp → Prop := fun r g => (c ∧ r = .inl v1 ∧ g = h1) ∨ (¬ c ∧ r = .inl v2 ∧ g = h2)
theorem ax_S2 {c : Prop} {v1 v2 : Option AV} {h1 h2 : Hp} {i n w k : Nat} {as : List AV} (hd : decode (a_cc M) pc = .ok (.invokestatic i, 3)) (cs : a_CS M M' i n w k) (k' : AW l G M' (TwoR c v1 v2 h1 h2) 0 (a_ar 0 as) [] h) (e1 : a_aw as = n) (e2 : a_aw st = w) (e3 : as.length = k) (k1 : c → AW l G M P (pc + 3) lv (v1.toList ++ st) h1) (k2 : ¬ c → AW l G M P (pc + 3) lv (v2.toList ++ st) h2) : AW l G M P pc lv (as.reverse ++ st) h := by
  refine ax_St hd cs k' e1 e2 e3 (fun v h' q => ?_) (fun x h' q => ?_)
  · rcases q with ⟨q1, q2, q3⟩ | ⟨q1, q2, q3⟩
    · cases q2; subst q3; exact k1 q1
    · cases q2; subst q3; exact k2 q1
  · rcases q with ⟨q1, q2, q3⟩ | ⟨q1, q2, q3⟩ <;> cases q2
end RW2
def slP (e : Int) (p : Int × (Int → Int)) (v : Int) : Int × (Int → Int) := if p.1 < 256 ∧ dsmall e v < 9 then (p.1 + 1, fun j => if j = p.1 then dsmall e v else p.2 j) else p
def slIt (e : Int) (s : Sp) : Nat → SmS
  | 0 => (s, 0, fun _ => 0)
  | t + 1 => if (slIt e s t).2.1 < 256 then (spNext (slIt e s t).1, slP e (slP e (slIt e s t).2 (spGet (slIt e s t).1 % 16)) (spGet (slIt e s t).1 / 16)) else slIt e s t
theorem slIt_stop {e : Int} {s : Sp} {t : Nat} (h : 256 ≤ (slIt e s t).2.1) : ∀ n, slIt e s (t + n) = slIt e s t
  | 0 => rfl
  | n + 1 => by
    show (if (slIt e s (t + n)).2.1 < 256 then _ else slIt e s (t + n)) = _
    rw [slIt_stop h n, if_neg (by omega)]
theorem slIt_end {e : Int} {s s1 : Sp} {t n : Int} {X : Int → Int} (h : slIt e s t.toNat = (s1, n, X)) (h0 : 0 ≤ t ∧ t ≤ 481) (h1 : t = 481 ∨ 256 ≤ n) : slIt e s 481 = (s1, n, X) := by
  rcases h1 with q | q
  · rw [← h, q]; rfl
  · have := slIt_stop (e := e) (s := s) (t := t.toNat) (by rw [h]; exact q) (481 - t.toNat)
    rw [show t.toNat + (481 - t.toNat) = 481 by omega] at this
    rw [this, h]
theorem slIt_go {e : Int} {s s1 : Sp} {t n : Int} {X : Int → Int} (h : slIt e s t.toNat = (s1, n, X)) (h0 : 0 ≤ t) (hn : n < 256) : slIt e s (t + 1).toNat = (spNext s1, slP e (slP e (n, X) (spGet s1 % 16)) (spGet s1 / 16)) := by
  rw [show (t + 1).toNat = t.toNat + 1 by omega]
  show (if (slIt e s t.toNat).2.1 < 256 then (spNext (slIt e s t.toNat).1, slP e (slP e (slIt e s t.toNat).2 (spGet (slIt e s t.toNat).1 % 16)) (spGet (slIt e s t.toNat).1 / 16)) else slIt e s t.toNat) = _
  rw [h, if_pos hn]
theorem slP_y {e n v : Int} {X : Int → Int} (h : n < 256 ∧ dsmall e v < 9) : slP e (n, X) v = (n + 1, fun j => if j = n then dsmall e v else X j) := if_pos h
theorem slP_n {e n v : Int} {X : Int → Int} (h : ¬ (n < 256 ∧ dsmall e v < 9)) : slP e (n, X) v = (n, X) := if_neg h
/-- a row that holds X modulo q below n -/
def rowM (K : Nat → Int → Int) (f : Nat) (n : Int) (X : Int → Int) : Prop := ∀ j, 0 ≤ j → j < n → K f j = X j % 8380417
theorem rowM_y {K : Nat → Int → Int} {f : Nat} {n v : Int} {X : Int → Int} (h : rowM K f n X) : rowM (a_up K f n (v % 8380417)) f (n + 1) (fun j => if j = n then v else X j) := by
  intro j h0 h1
  show _ = (if j = n then v else X j) % 8380417
  by_cases q : j = n
  · rw [q, a_up_at, if_pos rfl]
  · rw [a_up_ne (Or.inr q), if_neg q, h j h0 (by omega)]
theorem rowM_k {K K' : Nat → Int → Int} {f : Nat} {n : Int} {X : Int → Int} (h : rowM K f n X) (hk : ∀ j, K' f j = K f j) : rowM K' f n X := fun j a b => (hk j).trans (h j a b)
def slOk (e : Int) (r : SmS) : Prop := (0 ≤ r.2.1 ∧ r.2.1 ≤ 256) ∧ ∀ j, -4 ≤ r.2.2 j ∧ r.2.2 j ≤ e
theorem dsmall_b {e v : Int} (he : e = 2 ∨ e = 4) (h0 : 0 ≤ v) (h : dsmall e v < 9) : -e ≤ dsmall e v ∧ dsmall e v ≤ e := by
  unfold dsmall at h ⊢
  rcases he with q | q <;> subst q <;> simp at h ⊢ <;> split at h <;> split <;> omega
theorem slP_ok {e n v : Int} {X : Int → Int} (he : e = 2 ∨ e = 4) (h0 : 0 ≤ v) (h : (0 ≤ n ∧ n ≤ 256) ∧ ∀ j, -e ≤ X j ∧ X j ≤ e) : (0 ≤ (slP e (n, X) v).1 ∧ (slP e (n, X) v).1 ≤ 256) ∧ ∀ j, -e ≤ (slP e (n, X) v).2 j ∧ (slP e (n, X) v).2 j ≤ e := by
  by_cases c : n < 256 ∧ dsmall e v < 9
  · rw [slP_y c]
    refine ⟨⟨by show 0 ≤ n + 1; omega, by show n + 1 ≤ 256; omega⟩, fun j => ?_⟩
    show -e ≤ (if j = n then dsmall e v else X j) ∧ (if j = n then dsmall e v else X j) ≤ e
    split
    · exact dsmall_b he h0 c.2
    · exact h.2 j
  · rw [slP_n c]; exact h
theorem slIt_b {e : Int} {s : Sp} (he : e = 2 ∨ e = 4) : ∀ t, (0 ≤ (slIt e s t).2.1 ∧ (slIt e s t).2.1 ≤ 256) ∧ ∀ j, -e ≤ (slIt e s t).2.2 j ∧ (slIt e s t).2.2 j ≤ e
  | 0 => ⟨⟨Int.le_refl _, by show (0 : Int) ≤ 256; decide⟩, fun j => by show -e ≤ 0 ∧ 0 ≤ e; omega⟩
  | t + 1 => by
    have h := slIt_b (s := s) he t
    have g := spGet_lt (slIt e s t).1
    have z : ∀ r : SmS, r = (if (slIt e s t).2.1 < 256 then (spNext (slIt e s t).1, slP e (slP e (slIt e s t).2 (spGet (slIt e s t).1 % 16)) (spGet (slIt e s t).1 / 16)) else slIt e s t) → (0 ≤ r.2.1 ∧ r.2.1 ≤ 256) ∧ ∀ j, -e ≤ r.2.2 j ∧ r.2.2 j ≤ e := by
      intro r hr
      split at hr
      · subst hr
        exact slP_ok he (by omega) (slP_ok he (by omega) h)
      · subst hr; exact h
    exact z _ rfl
def nmS (g : Int → Int) (num : Int) : Sp := spTurn (spTake (spTake (spPart (spStart 136) g 64) num) (num / 256))
theorem nmS_ok {g : Int → Int} {j : Int} : spOk (nmS g j) := spTurn_ok (spTake_ok (spTake_ok (spPart_ok (spStart_lt (by decide) (by decide)).1 _ _) _) _)
theorem nmS_congr {g g' : Int → Int} {j : Int} (h : ∀ k : Nat, k < 64 → g k % 256 = g' k % 256) : nmS g j = nmS g' j := by
  unfold nmS
  rw [spPart_congr h]
def sml (e : Int) (g : Int → Int) (num : Int) : SmS := slIt e (nmS g num) 481
set_option maxHeartbeats 800000 in
set_option maxRecDepth 100000 in
theorem c_Sa_addSmall {l : Launch} {G : a_G} {h : Hp} {I L : Nat → Int → Int} {f : Nat} {n v e : Int} (Zf : RwO h f) (he : e = 2 ∨ e = 4) (hv : 0 ≤ v ∧ v < 16 ∧ 0 ≤ n ∧ n ≤ 256) : AW l G M_Sa_addSmall (TwoR (n < 256 ∧ dsmall e v < 9) (some (vi (n + 1))) (some (vi n)) (sD h (a_up I f n (dsmall e v % 8380417)) L) (sD h I L)) 0 (a_ar 0 [vr f, vi n, vi v, vi e]) [] (sD h I L) := by
  suffices key : ∀ P : a_R → Hp → Prop, (∀ r h2, TwoR (n < 256 ∧ dsmall e v < 9) (some (vi (n + 1))) (some (vi n)) (sD h (a_up I f n (dsmall e v % 8380417)) L) (sD h I L) r h2 → P r h2) → AW l G M_Sa_addSmall P 0 [(0, vr f), (1, vi n), (2, vi v), (3, vi e)] [] (sD h I L) from key _ (fun _ _ q => q)
  intro P hP
  refine aw_iload_n d_Sa_addSmall_0 rfl rfl ?_
  refine aw_iconst d_Sa_addSmall_1 ⟨by decide, by decide⟩ ?_
  refine aw_icmp_ne (tgt := 10) d_Sa_addSmall_2 (by decide) (fun c_2 => ?_) (fun c_2 => ?_)
  · skip
    refine aw_bipush d_Sa_addSmall_10 ⟨by decide, by decide⟩ (by decide) ?_
    refine aw_istore (lv' := [(4, vi 9), (0, vr f), (1, vi n), (2, vi v), (3, vi e)]) d_Sa_addSmall_12 (by decide) rfl ?_
    refine aw_iload_n d_Sa_addSmall_14 rfl rfl ?_
    refine aw_sipush d_Sa_addSmall_15 ⟨by decide, by decide⟩ (by decide) ?_
    refine aw_icmp_ge (tgt := 27) d_Sa_addSmall_18 (by decide) (fun c_18 => ?_) (fun c_18 => ?_)
    · skip
      refine aw_iload_n d_Sa_addSmall_27 rfl rfl ?_
      exact aw_iret d_Sa_addSmall_28 rfl (hP _ _ (Or.inr ⟨fun z => by have z2 := z.2; unfold dsmall at z2; (repeat (first | omega | split at z2)), rfl, rfl⟩))
    · skip
      refine aw_iload_n d_Sa_addSmall_21 rfl rfl ?_
      refine aw_iload d_Sa_addSmall_22 rfl ?_
      refine aw_icmp_lt (tgt := 29) d_Sa_addSmall_24 (by decide) (fun c_24 => ?_) (fun c_24 => ?_)
      · skip
        refine aw_aload_n d_Sa_addSmall_29 rfl rfl ?_
        refine aw_iload_n d_Sa_addSmall_30 rfl rfl ?_
        refine aw_iload_n d_Sa_addSmall_31 rfl rfl ?_
        refine aw_iload_n d_Sa_addSmall_32 rfl rfl ?_
        refine aw_iconst d_Sa_addSmall_33 ⟨by decide, by decide⟩ ?_
        refine aw_icmp_ne (tgt := 43) d_Sa_addSmall_34 (by decide) (fun c_34 => ?_) (fun c_34 => ?_)
        · skip
          refine aw_iload_n d_Sa_addSmall_43 rfl rfl ?_
          have ds : dsmall e v = e - v := by unfold dsmall; (repeat (first | omega | split))
          refine ax_S (st := [vi n, vr f]) (as := [vi e, vi v]) (v := some (vi (dsmall e v % 8380417))) (h' := sD h I L) d_Sa_addSmall_44 cs_Sa_addSmall_44 (c_Ri_minus (z := dsmall e v % 8380417) (by omega) (by rw [ds])) rfl rfl rfl ?_
          show AW l G M_Sa_addSmall P 47 [(4, vi 9), (0, vr f), (1, vi n), (2, vi v), (3, vi e)] [vi (dsmall e v % 8380417), vi n, vr f] (sD h I L)
          refine ax_iast d_Sa_addSmall_47 Zf.1 Zf.2.1 (by omega) (by omega) ?_
          refine aw_iload_n d_Sa_addSmall_48 rfl rfl ?_
          refine aw_iconst d_Sa_addSmall_49 ⟨by decide, by decide⟩ ?_
          refine ax_iadd d_Sa_addSmall_50 ⟨(by omega), (by omega)⟩ ?_
          exact aw_iret d_Sa_addSmall_51 rfl (hP _ _ (Or.inl ⟨⟨by omega, by unfold dsmall; (repeat (first | omega | split))⟩, rfl, rfl⟩))
        · skip
          refine aw_iload_n d_Sa_addSmall_37 rfl rfl ?_
          refine aw_iconst d_Sa_addSmall_38 ⟨by decide, by decide⟩ ?_
          refine ax_irem d_Sa_addSmall_39 (by omega) (by omega) ?_
          refine aw_goto (tgt := 44) d_Sa_addSmall_40 (by decide) ?_
          have ds : dsmall e v = e - (v % 5) := by unfold dsmall; (repeat (first | omega | split))
          refine ax_S (st := [vi n, vr f]) (as := [vi e, vi (v % 5)]) (v := some (vi (dsmall e v % 8380417))) (h' := sD h I L) d_Sa_addSmall_44 cs_Sa_addSmall_44 (c_Ri_minus (z := dsmall e v % 8380417) (by omega) (by rw [ds])) rfl rfl rfl ?_
          show AW l G M_Sa_addSmall P 47 [(4, vi 9), (0, vr f), (1, vi n), (2, vi v), (3, vi e)] [vi (dsmall e v % 8380417), vi n, vr f] (sD h I L)
          refine ax_iast d_Sa_addSmall_47 Zf.1 Zf.2.1 (by omega) (by omega) ?_
          refine aw_iload_n d_Sa_addSmall_48 rfl rfl ?_
          refine aw_iconst d_Sa_addSmall_49 ⟨by decide, by decide⟩ ?_
          refine ax_iadd d_Sa_addSmall_50 ⟨(by omega), (by omega)⟩ ?_
          exact aw_iret d_Sa_addSmall_51 rfl (hP _ _ (Or.inl ⟨⟨by omega, by unfold dsmall; (repeat (first | omega | split))⟩, rfl, rfl⟩))
      · skip
        refine aw_iload_n d_Sa_addSmall_27 rfl rfl ?_
        exact aw_iret d_Sa_addSmall_28 rfl (hP _ _ (Or.inr ⟨fun z => by have z2 := z.2; unfold dsmall at z2; (repeat (first | omega | split at z2)), rfl, rfl⟩))
  · skip
    refine aw_bipush d_Sa_addSmall_5 ⟨by decide, by decide⟩ (by decide) ?_
    refine aw_goto (tgt := 12) d_Sa_addSmall_7 (by decide) ?_
    refine aw_istore (lv' := [(4, vi 15), (0, vr f), (1, vi n), (2, vi v), (3, vi e)]) d_Sa_addSmall_12 (by decide) rfl ?_
    refine aw_iload_n d_Sa_addSmall_14 rfl rfl ?_
    refine aw_sipush d_Sa_addSmall_15 ⟨by decide, by decide⟩ (by decide) ?_
    refine aw_icmp_ge (tgt := 27) d_Sa_addSmall_18 (by decide) (fun c_18 => ?_) (fun c_18 => ?_)
    · skip
      refine aw_iload_n d_Sa_addSmall_27 rfl rfl ?_
      exact aw_iret d_Sa_addSmall_28 rfl (hP _ _ (Or.inr ⟨fun z => by have z2 := z.2; unfold dsmall at z2; (repeat (first | omega | split at z2)), rfl, rfl⟩))
    · skip
      refine aw_iload_n d_Sa_addSmall_21 rfl rfl ?_
      refine aw_iload d_Sa_addSmall_22 rfl ?_
      refine aw_icmp_lt (tgt := 29) d_Sa_addSmall_24 (by decide) (fun c_24 => ?_) (fun c_24 => ?_)
      · skip
        refine aw_aload_n d_Sa_addSmall_29 rfl rfl ?_
        refine aw_iload_n d_Sa_addSmall_30 rfl rfl ?_
        refine aw_iload_n d_Sa_addSmall_31 rfl rfl ?_
        refine aw_iload_n d_Sa_addSmall_32 rfl rfl ?_
        refine aw_iconst d_Sa_addSmall_33 ⟨by decide, by decide⟩ ?_
        refine aw_icmp_ne (tgt := 43) d_Sa_addSmall_34 (by decide) (fun c_34 => ?_) (fun c_34 => ?_)
        · skip
          refine aw_iload_n d_Sa_addSmall_43 rfl rfl ?_
          have ds : dsmall e v = e - v := by unfold dsmall; (repeat (first | omega | split))
          refine ax_S (st := [vi n, vr f]) (as := [vi e, vi v]) (v := some (vi (dsmall e v % 8380417))) (h' := sD h I L) d_Sa_addSmall_44 cs_Sa_addSmall_44 (c_Ri_minus (z := dsmall e v % 8380417) (by omega) (by rw [ds])) rfl rfl rfl ?_
          show AW l G M_Sa_addSmall P 47 [(4, vi 15), (0, vr f), (1, vi n), (2, vi v), (3, vi e)] [vi (dsmall e v % 8380417), vi n, vr f] (sD h I L)
          refine ax_iast d_Sa_addSmall_47 Zf.1 Zf.2.1 (by omega) (by omega) ?_
          refine aw_iload_n d_Sa_addSmall_48 rfl rfl ?_
          refine aw_iconst d_Sa_addSmall_49 ⟨by decide, by decide⟩ ?_
          refine ax_iadd d_Sa_addSmall_50 ⟨(by omega), (by omega)⟩ ?_
          exact aw_iret d_Sa_addSmall_51 rfl (hP _ _ (Or.inl ⟨⟨by omega, by unfold dsmall; (repeat (first | omega | split))⟩, rfl, rfl⟩))
        · skip
          refine aw_iload_n d_Sa_addSmall_37 rfl rfl ?_
          refine aw_iconst d_Sa_addSmall_38 ⟨by decide, by decide⟩ ?_
          refine ax_irem d_Sa_addSmall_39 (by omega) (by omega) ?_
          refine aw_goto (tgt := 44) d_Sa_addSmall_40 (by decide) ?_
          have ds : dsmall e v = e - (v % 5) := by unfold dsmall; (repeat (first | omega | split))
          refine ax_S (st := [vi n, vr f]) (as := [vi e, vi (v % 5)]) (v := some (vi (dsmall e v % 8380417))) (h' := sD h I L) d_Sa_addSmall_44 cs_Sa_addSmall_44 (c_Ri_minus (z := dsmall e v % 8380417) (by omega) (by rw [ds])) rfl rfl rfl ?_
          show AW l G M_Sa_addSmall P 47 [(4, vi 15), (0, vr f), (1, vi n), (2, vi v), (3, vi e)] [vi (dsmall e v % 8380417), vi n, vr f] (sD h I L)
          refine ax_iast d_Sa_addSmall_47 Zf.1 Zf.2.1 (by omega) (by omega) ?_
          refine aw_iload_n d_Sa_addSmall_48 rfl rfl ?_
          refine aw_iconst d_Sa_addSmall_49 ⟨by decide, by decide⟩ ?_
          refine ax_iadd d_Sa_addSmall_50 ⟨(by omega), (by omega)⟩ ?_
          exact aw_iret d_Sa_addSmall_51 rfl (hP _ _ (Or.inl ⟨⟨by omega, by unfold dsmall; (repeat (first | omega | split))⟩, rfl, rfl⟩))
      · skip
        refine aw_iload_n d_Sa_addSmall_27 rfl rfl ?_
        exact aw_iret d_Sa_addSmall_28 rfl (hP _ _ (Or.inr ⟨fun z => by have z2 := z.2; unfold dsmall at z2; (repeat (first | omega | split at z2)), rfl, rfl⟩))
set_option maxHeartbeats 800000 in
set_option maxRecDepth 100000 in
theorem c_Sa_small {l : Launch} {G : a_G} {h : Hp} {I L : Nat → Int → Int} {f : Nat} {e : Int} (S : Shp h) (hfl : l.flags = flags0) (rm : hX h + 1 ≤ a_NX ∧ hU h + 6 ≤ a_US) (ST : Sta I L) (ok0 : spOk (spOf I L)) (Zf : RwO h f) (hf : 44 ≤ f ∧ f < 175) (he : e = 2 ∨ e = 4) : AW l G M_Sa_small (ThR h I L ((slIt e (spOf I L) 481).2.1 = 256) (fun I' L' => ((∀ a j, a ≠ 38 → a ≠ f → I' a j = I a j) ∧ ∀ a j, a ≠ 39 → a ≠ 40 → a ≠ 41 → L' a j = L a j) ∧ ∀ j, 0 ≤ j → j < 256 → I' f j = (slIt e (spOf I L) 481).2.2 j % 8380417)) 0 (a_ar 0 [vr 37, vi e, vr f]) [] (sD h I L) := by
  suffices key : ∀ P : a_R → Hp → Prop, (∀ r h2, ThR h I L ((slIt e (spOf I L) 481).2.1 = 256) (fun I' L' => ((∀ a j, a ≠ 38 → a ≠ f → I' a j = I a j) ∧ ∀ a j, a ≠ 39 → a ≠ 40 → a ≠ 41 → L' a j = L a j) ∧ ∀ j, 0 ≤ j → j < 256 → I' f j = (slIt e (spOf I L) 481).2.2 j % 8380417) r h2 → P r h2) → AW l G M_Sa_small P 0 [(0, vr 37), (1, vi e), (2, vr f)] [] (sD h I L) from key _ (fun _ _ q => q)
  intro P hP
  refine aw_iconst d_Sa_small_0 ⟨by decide, by decide⟩ ?_
  refine aw_istore_n (lv' := [(3, vi 0), (0, vr 37), (1, vi e), (2, vr f)]) d_Sa_small_1 rfl (by decide) rfl ?_
  refine aw_iconst d_Sa_small_2 ⟨by decide, by decide⟩ ?_
  refine aw_istore (lv' := [(4, vi 0), (3, vi 0), (0, vr 37), (1, vi e), (2, vr f)]) d_Sa_small_3 (by decide) rfl ?_
  have lp_5 : ∀ (n_ : Nat) (t : Int) (n : Int) (I1 : Nat → Int → Int) (L1 : Nat → Int → Int) (X : Int → Int), (0 ≤ t ∧ t ≤ 481 ∧ 0 ≤ n ∧ n ≤ 256) → ((∀ a j, a ≠ 38 → a ≠ f → I1 a j = I a j) ∧ ∀ a j, a ≠ 39 → a ≠ 40 → a ≠ 41 → L1 a j = L a j) → (slIt e (spOf I L) t.toNat = (spOf I1 L1, n, X)) → (spOk (spOf I1 L1)) → (rowM I1 f n X) → ((481 - t).toNat) = n_ → AW l G M_Sa_small P 5 [(4, vi t), (3, vi n), (2, vr f), (1, vi e), (0, vr 37)] [] (sD h I1 L1) := by
    intro n_
    induction n_ using Nat.strongRecOn with
    | _ n_ ih_5 =>
    intro t n I1 L1 X hn F1 hst ok g hm_5
    refine aw_iload d_Sa_small_5 rfl ?_
    refine aw_sipush d_Sa_small_7 ⟨by decide, by decide⟩ (by decide) ?_
    refine aw_icmp_ge (tgt := 58) d_Sa_small_10 (by decide) (fun c_10 => ?_) (fun c_10 => ?_)
    · skip
      refine aw_iload_n d_Sa_small_58 rfl rfl ?_
      refine aw_sipush d_Sa_small_59 ⟨by decide, by decide⟩ (by decide) ?_
      refine aw_icmp_ge (tgt := 75) d_Sa_small_62 (by decide) (fun c_62 => ?_) (fun c_62 => ?_)
      · skip
        exact aw_vret d_Sa_small_75 rfl (hP _ _ (Or.inl ⟨by rw [slIt_end hst (by omega) (by omega)]; show n = 256; omega, I1, L1, ⟨F1, fun j a b => by rw [slIt_end hst (by omega) (by omega)]; exact g j a (by omega)⟩, rfl, rfl⟩))
      · skip
        exact ax_throw hfl th_Sa_small_65 rm.1 rm.2 (hP _ _ (Or.inr ⟨by rw [slIt_end hst (by omega) (by omega)]; show ¬ n = 256; omega, I1, L1, ⟨fun a j x => F1.1 a j (by omega) (by omega), F1.2⟩, rfl, rfl⟩))
    · skip
      refine aw_iload_n d_Sa_small_13 rfl rfl ?_
      refine aw_sipush d_Sa_small_14 ⟨by decide, by decide⟩ (by decide) ?_
      refine aw_icmp_ge (tgt := 58) d_Sa_small_17 (by decide) (fun c_17 => ?_) (fun c_17 => ?_)
      · skip
        refine aw_iload_n d_Sa_small_58 rfl rfl ?_
        refine aw_sipush d_Sa_small_59 ⟨by decide, by decide⟩ (by decide) ?_
        refine aw_icmp_ge (tgt := 75) d_Sa_small_62 (by decide) (fun c_62 => ?_) (fun c_62 => ?_)
        · skip
          exact aw_vret d_Sa_small_75 rfl (hP _ _ (Or.inl ⟨by rw [slIt_end hst (by omega) (by omega)]; show n = 256; omega, I1, L1, ⟨F1, fun j a b => by rw [slIt_end hst (by omega) (by omega)]; exact g j a (by omega)⟩, rfl, rfl⟩))
        · skip
          exact ax_throw hfl th_Sa_small_65 rm.1 rm.2 (hP _ _ (Or.inr ⟨by rw [slIt_end hst (by omega) (by omega)]; show ¬ n = 256; omega, I1, L1, ⟨fun a j x => F1.1 a j (by omega) (by omega), F1.2⟩, rfl, rfl⟩))
      · skip
        refine aw_aload_n d_Sa_small_20 rfl rfl ?_
        refine ax_getR (b := 38) d_Sa_small_21 fd_Sa_12 (k_37 S) (r_37_0 S) ?_
        refine ax_Vr (st := []) (as := []) (b := 38) d_Sa_small_24 cs_Sa_small_24 (k_38 S) (c_Sp_give S (ST.of (fun k j hk => F1.1 k j (by omega) (by omega)) (fun j => F1.2 8 j (by decide) (by decide) (by decide))) ok) rfl rfl rfl (fun u_24 q_24 => ?_)
        obtain ⟨I2, L2⟩ := u_24
        obtain ⟨F2, e2⟩ := q_24
        dsimp only at F2 e2
        show AW l G M_Sa_small P 27 [(4, vi t), (3, vi n), (2, vr f), (1, vi e), (0, vr 37)] [vi (spGet (spOf I1 L1))] (sD h I2 L2)
        refine aw_istore (lv' := [(5, vi (spGet (spOf I1 L1))), (4, vi t), (3, vi n), (2, vr f), (1, vi e), (0, vr 37)]) d_Sa_small_27 (by decide) rfl ?_
        have g_ := spGet_lt (spOf I1 L1)
        have ff : ∀ j, I2 f j = I1 f j := fun j => F2.1 f j (by omega)
        refine aw_aload_n d_Sa_small_29 rfl rfl ?_
        refine aw_iload_n d_Sa_small_30 rfl rfl ?_
        refine aw_iload d_Sa_small_31 rfl ?_
        refine aw_bipush d_Sa_small_33 ⟨by decide, by decide⟩ (by decide) ?_
        refine aw_iand d_Sa_small_35 ?_
        refine ax_ti (x := (spGet (spOf I1 L1)) % 16) (a_and' 4 (by decide) (by decide) (by decide)) ?_
        refine aw_iload_n d_Sa_small_36 rfl rfl ?_
        refine ax_S2 (st := []) (as := [vr f, vi n, vi ((spGet (spOf I1 L1)) % 16), vi e]) d_Sa_small_37 cs_Sa_small_37 (c_Sa_addSmall Zf he (by omega)) rfl rfl rfl (fun y_37 => ?_) (fun n_37 => ?_)
        · skip
          show AW l G M_Sa_small P 40 [(5, vi (spGet (spOf I1 L1))), (4, vi t), (3, vi n), (2, vr f), (1, vi e), (0, vr 37)] [vi (n + 1)] (sD h (a_up I2 f n (dsmall e ((spGet (spOf I1 L1)) % 16) % 8380417)) L2)
          refine aw_istore_n (lv' := [(3, vi (n + 1)), (5, vi (spGet (spOf I1 L1))), (4, vi t), (2, vr f), (1, vi e), (0, vr 37)]) d_Sa_small_40 rfl (by decide) rfl ?_
          refine aw_aload_n d_Sa_small_41 rfl rfl ?_
          refine aw_iload_n d_Sa_small_42 rfl rfl ?_
          refine aw_iload d_Sa_small_43 rfl ?_
          refine aw_iconst d_Sa_small_45 ⟨by decide, by decide⟩ ?_
          refine aw_ishr d_Sa_small_46 ?_
          refine ax_ti (x := (spGet (spOf I1 L1)) / 16) (a_shr' 4 rfl (by decide) (by decide) ⟨(by omega), (by omega)⟩) ?_
          refine aw_iload_n d_Sa_small_47 rfl rfl ?_
          refine ax_S2 (st := []) (as := [vr f, vi (n + 1), vi ((spGet (spOf I1 L1)) / 16), vi e]) d_Sa_small_48 cs_Sa_small_48 (c_Sa_addSmall Zf he (by omega)) rfl rfl rfl (fun y_48 => ?_) (fun n_48 => ?_)
          · skip
            show AW l G M_Sa_small P 51 [(3, vi (n + 1)), (5, vi (spGet (spOf I1 L1))), (4, vi t), (2, vr f), (1, vi e), (0, vr 37)] [vi (n + 1 + 1)] (sD h (a_up (a_up I2 f n (dsmall e ((spGet (spOf I1 L1)) % 16) % 8380417)) f (n + 1) (dsmall e ((spGet (spOf I1 L1)) / 16) % 8380417)) L2)
            refine aw_istore_n (lv' := [(3, vi (n + 1 + 1)), (5, vi (spGet (spOf I1 L1))), (4, vi t), (2, vr f), (1, vi e), (0, vr 37)]) d_Sa_small_51 rfl (by decide) rfl ?_
            refine ax_iinc (lv' := [(4, vi (t + 1)), (3, vi (n + 1 + 1)), (5, vi (spGet (spOf I1 L1))), (2, vr f), (1, vi e), (0, vr 37)]) d_Sa_small_52 rfl (by decide) ⟨(by omega), (by omega)⟩ rfl ?_
            refine aw_goto (tgt := 5) d_Sa_small_55 (by decide) ?_
            refine aw_sub (lv' := [(4, vi (t + 1)), (3, vi (n + 1 + 1)), (2, vr f), (1, vi e), (0, vr 37)]) (by simp) ?_
            exact ih_5 _ (by omega) (t + 1) (n + 1 + 1) (a_up (a_up I2 f n (dsmall e ((spGet (spOf I1 L1)) % 16) % 8380417)) f (n + 1) (dsmall e ((spGet (spOf I1 L1)) / 16) % 8380417)) L2 (fun j => if j = n + 1 then dsmall e (spGet (spOf I1 L1) / 16) else (fun j => if j = n then dsmall e (spGet (spOf I1 L1) % 16) else X j) j) (by omega) (⟨fun a j x y => (a_up_ne (Or.inl y)).trans ((a_up_ne (Or.inl y)).trans (((F2.1 a j x).trans (F1.1 a j x y)))), fun a j x y z => (F2.2 a j x y z).trans (F1.2 a j x y z)⟩) (by rw [slIt_go hst hn.1 (by omega), slP_y y_37, slP_y y_48, ← e2, spOf_up (by omega), spOf_up (by omega)]) (by rw [spOf_up (by omega), spOf_up (by omega), e2]; exact spNext_ok ok) (rowM_y (rowM_y (rowM_k g ff))) rfl
          · skip
            show AW l G M_Sa_small P 51 [(3, vi (n + 1)), (5, vi (spGet (spOf I1 L1))), (4, vi t), (2, vr f), (1, vi e), (0, vr 37)] [vi (n + 1)] (sD h (a_up I2 f n (dsmall e ((spGet (spOf I1 L1)) % 16) % 8380417)) L2)
            refine aw_istore_n (lv' := [(3, vi (n + 1)), (5, vi (spGet (spOf I1 L1))), (4, vi t), (2, vr f), (1, vi e), (0, vr 37)]) d_Sa_small_51 rfl (by decide) rfl ?_
            refine ax_iinc (lv' := [(4, vi (t + 1)), (3, vi (n + 1)), (5, vi (spGet (spOf I1 L1))), (2, vr f), (1, vi e), (0, vr 37)]) d_Sa_small_52 rfl (by decide) ⟨(by omega), (by omega)⟩ rfl ?_
            refine aw_goto (tgt := 5) d_Sa_small_55 (by decide) ?_
            refine aw_sub (lv' := [(4, vi (t + 1)), (3, vi (n + 1)), (2, vr f), (1, vi e), (0, vr 37)]) (by simp) ?_
            exact ih_5 _ (by omega) (t + 1) (n + 1) (a_up I2 f n (dsmall e ((spGet (spOf I1 L1)) % 16) % 8380417)) L2 (fun j => if j = n then dsmall e (spGet (spOf I1 L1) % 16) else X j) (by omega) (⟨fun a j x y => (a_up_ne (Or.inl y)).trans (((F2.1 a j x).trans (F1.1 a j x y))), fun a j x y z => (F2.2 a j x y z).trans (F1.2 a j x y z)⟩) (by rw [slIt_go hst hn.1 (by omega), slP_y y_37, slP_n n_48, ← e2, spOf_up (by omega)]) (by rw [spOf_up (by omega), e2]; exact spNext_ok ok) (rowM_y (rowM_k g ff)) rfl
        · skip
          show AW l G M_Sa_small P 40 [(5, vi (spGet (spOf I1 L1))), (4, vi t), (3, vi n), (2, vr f), (1, vi e), (0, vr 37)] [vi n] (sD h I2 L2)
          refine aw_istore_n (lv' := [(3, vi n), (5, vi (spGet (spOf I1 L1))), (4, vi t), (2, vr f), (1, vi e), (0, vr 37)]) d_Sa_small_40 rfl (by decide) rfl ?_
          refine aw_aload_n d_Sa_small_41 rfl rfl ?_
          refine aw_iload_n d_Sa_small_42 rfl rfl ?_
          refine aw_iload d_Sa_small_43 rfl ?_
          refine aw_iconst d_Sa_small_45 ⟨by decide, by decide⟩ ?_
          refine aw_ishr d_Sa_small_46 ?_
          refine ax_ti (x := (spGet (spOf I1 L1)) / 16) (a_shr' 4 rfl (by decide) (by decide) ⟨(by omega), (by omega)⟩) ?_
          refine aw_iload_n d_Sa_small_47 rfl rfl ?_
          refine ax_S2 (st := []) (as := [vr f, vi n, vi ((spGet (spOf I1 L1)) / 16), vi e]) d_Sa_small_48 cs_Sa_small_48 (c_Sa_addSmall Zf he (by omega)) rfl rfl rfl (fun y_48 => ?_) (fun n_48 => ?_)
          · skip
            show AW l G M_Sa_small P 51 [(3, vi n), (5, vi (spGet (spOf I1 L1))), (4, vi t), (2, vr f), (1, vi e), (0, vr 37)] [vi (n + 1)] (sD h (a_up I2 f n (dsmall e ((spGet (spOf I1 L1)) / 16) % 8380417)) L2)
            refine aw_istore_n (lv' := [(3, vi (n + 1)), (5, vi (spGet (spOf I1 L1))), (4, vi t), (2, vr f), (1, vi e), (0, vr 37)]) d_Sa_small_51 rfl (by decide) rfl ?_
            refine ax_iinc (lv' := [(4, vi (t + 1)), (3, vi (n + 1)), (5, vi (spGet (spOf I1 L1))), (2, vr f), (1, vi e), (0, vr 37)]) d_Sa_small_52 rfl (by decide) ⟨(by omega), (by omega)⟩ rfl ?_
            refine aw_goto (tgt := 5) d_Sa_small_55 (by decide) ?_
            refine aw_sub (lv' := [(4, vi (t + 1)), (3, vi (n + 1)), (2, vr f), (1, vi e), (0, vr 37)]) (by simp) ?_
            exact ih_5 _ (by omega) (t + 1) (n + 1) (a_up I2 f n (dsmall e ((spGet (spOf I1 L1)) / 16) % 8380417)) L2 (fun j => if j = n then dsmall e (spGet (spOf I1 L1) / 16) else X j) (by omega) (⟨fun a j x y => (a_up_ne (Or.inl y)).trans (((F2.1 a j x).trans (F1.1 a j x y))), fun a j x y z => (F2.2 a j x y z).trans (F1.2 a j x y z)⟩) (by rw [slIt_go hst hn.1 (by omega), slP_n n_37, slP_y y_48, ← e2, spOf_up (by omega)]) (by rw [spOf_up (by omega), e2]; exact spNext_ok ok) (rowM_y (rowM_k g ff)) rfl
          · skip
            show AW l G M_Sa_small P 51 [(3, vi n), (5, vi (spGet (spOf I1 L1))), (4, vi t), (2, vr f), (1, vi e), (0, vr 37)] [vi n] (sD h I2 L2)
            refine aw_istore_n (lv' := [(3, vi n), (5, vi (spGet (spOf I1 L1))), (4, vi t), (2, vr f), (1, vi e), (0, vr 37)]) d_Sa_small_51 rfl (by decide) rfl ?_
            refine ax_iinc (lv' := [(4, vi (t + 1)), (3, vi n), (5, vi (spGet (spOf I1 L1))), (2, vr f), (1, vi e), (0, vr 37)]) d_Sa_small_52 rfl (by decide) ⟨(by omega), (by omega)⟩ rfl ?_
            refine aw_goto (tgt := 5) d_Sa_small_55 (by decide) ?_
            refine aw_sub (lv' := [(4, vi (t + 1)), (3, vi n), (2, vr f), (1, vi e), (0, vr 37)]) (by simp) ?_
            exact ih_5 _ (by omega) (t + 1) n I2 L2 X (by omega) (⟨fun a j x y => ((F2.1 a j x).trans (F1.1 a j x y)), fun a j x y z => (F2.2 a j x y z).trans (F1.2 a j x y z)⟩) (by rw [slIt_go hst hn.1 (by omega), slP_n n_37, slP_n n_48, ← e2]) (by rw [e2]; exact spNext_ok ok) (rowM_k g ff) rfl
  skip
  refine aw_sub (lv' := [(4, vi 0), (3, vi 0), (2, vr f), (1, vi e), (0, vr 37)]) (by simp) ?_
  exact lp_5 _ 0 0 I L (fun _ => 0) (by omega) (⟨fun _ _ _ _ => rfl, fun _ _ _ _ _ => rfl⟩) (rfl) (ok0) (fun j a b => by omega) rfl
set_option maxHeartbeats 800000 in
set_option maxRecDepth 100000 in
theorem c_Sa_takeNumbered {l : Launch} {G : a_G} {h : Hp} {I L : Nat → Int → Int} {b r : Nat} {fr num : Int} (S : Shp h) (ST : Sta I L) (SB : ByO h b r) (hb : b ≠ 38 ∧ r ≠ 38) (hc : I b 1 ≤ hN h r ∧ 0 ≤ fr ∧ fr < 1000000) (hm : 0 ≤ num ∧ num < 100000) : AW l G M_Sa_takeNumbered (Ret (fun _ : (Nat → Int → Int) × (Nat → Int → Int) => none) (fun u => sD h u.1 u.2) (fun u => SpF I L u.1 u.2 ∧ spOf u.1 u.2 = nmS (fun k => byAt I b r (fr + k)) num)) 0 (a_ar 0 [vr 37, vr b, vi fr, vi num]) [] (sD h I L) := by
  suffices key : ∀ P : a_R → Hp → Prop, (∀ I2 L2, SpF I L I2 L2 → spOf I2 L2 = nmS (fun k => byAt I b r (fr + k)) num → P (.inl none) (sD h I2 L2)) → AW l G M_Sa_takeNumbered P 0 [(0, vr 37), (1, vr b), (2, vi fr), (3, vi num)] [] (sD h I L) from key _ (fun I2 L2 q1 q2 => ⟨(I2, L2), rfl, rfl, q1, q2⟩)
  intro P hP
  refine aw_aload_n d_Sa_takeNumbered_0 rfl rfl ?_
  refine ax_getR (b := 38) d_Sa_takeNumbered_1 fd_Sa_12 (k_37 S) (r_37_0 S) ?_
  refine ax_Vr (st := []) (as := []) (b := 38) d_Sa_takeNumbered_4 cs_Sa_takeNumbered_4 (k_38 S) (c_Sp_start256 S) rfl rfl rfl (fun u_4 q_4 => ?_)
  obtain ⟨I1, L1⟩ := u_4
  obtain ⟨F1, e1⟩ := q_4
  dsimp only at F1 e1
  show AW l G M_Sa_takeNumbered P 7 [(0, vr 37), (1, vr b), (2, vi fr), (3, vi num)] [] (sD h I1 L1)
  refine aw_aload_n d_Sa_takeNumbered_7 rfl rfl ?_
  refine ax_getR (b := 38) d_Sa_takeNumbered_8 fd_Sa_12 (k_37 S) (r_37_0 S) ?_
  refine aw_aload_n d_Sa_takeNumbered_11 rfl rfl ?_
  refine aw_iload_n d_Sa_takeNumbered_12 rfl rfl ?_
  refine aw_bipush d_Sa_takeNumbered_13 ⟨by decide, by decide⟩ (by decide) ?_
  refine ax_Vr (st := []) (as := [vr b, vi fr, vi 64]) (b := 38) d_Sa_takeNumbered_15 cs_Sa_takeNumbered_15 (k_38 S) (c_Sp_takePart S (ST.sp F1) (by rw [e1]; exact (spStart_lt (by decide) (by decide)).1) SB ⟨hb.1, hb.2⟩ (by rw [F1.1 b 1 hb.1]; omega)) rfl rfl rfl (fun u_15 q_15 => ?_)
  obtain ⟨I2, L2⟩ := u_15
  obtain ⟨F2, e2⟩ := q_15
  dsimp only at F2 e2
  show AW l G M_Sa_takeNumbered P 18 [(0, vr 37), (1, vr b), (2, vi fr), (3, vi num)] [] (sD h I2 L2)
  refine aw_aload_n d_Sa_takeNumbered_18 rfl rfl ?_
  refine ax_getR (b := 38) d_Sa_takeNumbered_19 fd_Sa_12 (k_37 S) (r_37_0 S) ?_
  refine aw_iload_n d_Sa_takeNumbered_22 rfl rfl ?_
  refine ax_Vr (st := []) (as := [vi num]) (b := 38) d_Sa_takeNumbered_23 cs_Sa_takeNumbered_23 (k_38 S) (c_Sp_take S ((ST.sp F1).sp F2) (by rw [e2, e1]; exact spPart_ok (spStart_lt (by decide) (by decide)).1 _ _)) rfl rfl rfl (fun u_23 q_23 => ?_)
  obtain ⟨I3, L3⟩ := u_23
  obtain ⟨F3, e3⟩ := q_23
  dsimp only at F3 e3
  show AW l G M_Sa_takeNumbered P 26 [(0, vr 37), (1, vr b), (2, vi fr), (3, vi num)] [] (sD h I3 L3)
  refine aw_aload_n d_Sa_takeNumbered_26 rfl rfl ?_
  refine ax_getR (b := 38) d_Sa_takeNumbered_27 fd_Sa_12 (k_37 S) (r_37_0 S) ?_
  refine aw_iload_n d_Sa_takeNumbered_30 rfl rfl ?_
  refine aw_bipush d_Sa_takeNumbered_31 ⟨by decide, by decide⟩ (by decide) ?_
  refine aw_ishr d_Sa_takeNumbered_33 ?_
  refine ax_ti (x := num / 256) (a_shr' 8 rfl (by decide) (by decide) ⟨(by omega), (by omega)⟩) ?_
  refine ax_Vr (st := []) (as := [vi (num / 256)]) (b := 38) d_Sa_takeNumbered_34 cs_Sa_takeNumbered_34 (k_38 S) (c_Sp_take S (((ST.sp F1).sp F2).sp F3) (by rw [e3, e2, e1]; exact spTake_ok (spPart_ok (spStart_lt (by decide) (by decide)).1 _ _) _)) rfl rfl rfl (fun u_34 q_34 => ?_)
  obtain ⟨I4, L4⟩ := u_34
  obtain ⟨F4, e4⟩ := q_34
  dsimp only at F4 e4
  show AW l G M_Sa_takeNumbered P 37 [(0, vr 37), (1, vr b), (2, vi fr), (3, vi num)] [] (sD h I4 L4)
  refine aw_aload_n d_Sa_takeNumbered_37 rfl rfl ?_
  refine ax_getR (b := 38) d_Sa_takeNumbered_38 fd_Sa_12 (k_37 S) (r_37_0 S) ?_
  refine ax_Vr (st := []) (as := []) (b := 38) d_Sa_takeNumbered_41 cs_Sa_takeNumbered_41 (k_38 S) (c_Sp_turn S ((((ST.sp F1).sp F2).sp F3).sp F4) (by rw [e4, e3, e2, e1]; exact spTake_ok (spTake_ok (spPart_ok (spStart_lt (by decide) (by decide)).1 _ _) _) _)) rfl rfl rfl (fun u_41 q_41 => ?_)
  obtain ⟨I5, L5⟩ := u_41
  obtain ⟨F5, e5⟩ := q_41
  dsimp only at F5 e5
  show AW l G M_Sa_takeNumbered P 44 [(0, vr 37), (1, vr b), (2, vi fr), (3, vi num)] [] (sD h I5 L5)
  exact aw_vret d_Sa_takeNumbered_44 rfl (hP _ _ ((((F1.tr F2).tr F3).tr F4).tr F5) (by rw [e5, e4, e3, e2, e1, show (fun k => byAt I1 b r (fr + k)) = (fun k => byAt I b r (fr + k)) from funext (fun k => byAt_sp F1.1 hb.1 hb.2)]; rfl))
set_option maxHeartbeats 800000 in
set_option maxRecDepth 100000 in
theorem c_Mo_sampleSmall {l : Launch} {G : a_G} {h : Hp} {I L : Nat → Int → Int} {f r : Nat} {pa x e : Int} (S : Shp h) (RS : RSt I L) (Zf : RwO h f) (hf : f ≠ 175 ∧ f ≠ 193) (Zr : hK h r = 2 ∧ 12 ≤ r ∧ r ≠ 175) (hc : 0 ≤ pa ∧ pa + 64 ≤ hN h r ∧ hN h r < 1000000) (hx : 0 ≤ x ∧ x < 100000) (he2 : I 175 33 = e) : AW l G M_Mo_sampleSmall (Ret (fun _ : (Nat → Int → Int) × (Nat → Int → Int) => some (vi (if (sml e (fun k => I r (pa + k)) x).2.1 = 256 then 1 else 0))) (fun u => sD h u.1 u.2) (fun u => ((∀ a j, qR a j → a ≠ f → u.1 a j = I a j) ∧ ∀ a j, a ≠ 175 → a ≠ 195 → a ≠ 196 → a ≠ 197 → u.2 a j = L a j) ∧ ∀ j, 0 ≤ j → j < (sml e (fun k => I r (pa + k)) x).2.1 → u.1 f j = (sml e (fun k => I r (pa + k)) x).2.2 j)) 0 (a_ar 0 [vr 175, vr f, vr r, vi pa, vi x]) [] (sD h I L) := by
  suffices key : ∀ P : a_R → Hp → Prop, (∀ I2 L2 z, ((∀ a j, qR a j → a ≠ f → I2 a j = I a j) ∧ ∀ a j, a ≠ 175 → a ≠ 195 → a ≠ 196 → a ≠ 197 → L2 a j = L a j) → z = (if (sml e (fun k => I r (pa + k)) x).2.1 = 256 then 1 else 0) → (∀ j, 0 ≤ j → j < (sml e (fun k => I r (pa + k)) x).2.1 → I2 f j = (sml e (fun k => I r (pa + k)) x).2.2 j) → P (.inl (some (vi z))) (sD h I2 L2)) → AW l G M_Mo_sampleSmall P 0 [(0, vr 175), (1, vr f), (2, vr r), (3, vi pa), (4, vi x)] [] (sD h I L) from key _ (fun I2 L2 z q1 q2 q3 => ⟨(I2, L2), by rw [q2], rfl, q1, q3⟩)
  intro P hP
  refine aw_aload_n d_Mo_sampleSmall_0 rfl rfl ?_
  refine aw_bipush d_Mo_sampleSmall_1 ⟨by decide, by decide⟩ (by decide) ?_
  refine ax_Vr (st := []) (as := [vi 12]) (b := 175) d_Mo_sampleSmall_3 cs_Mo_sampleSmall_3 (k_175 S) (c_Mo_begin12 S) rfl rfl rfl (fun u_3 q_3 => ?_)
  obtain ⟨I1, L1⟩ := u_3
  obtain ⟨F1, e1, k1⟩ := q_3
  dsimp only at F1 e1 k1
  show AW l G M_Mo_sampleSmall P 6 [(0, vr 175), (1, vr f), (2, vr r), (3, vi pa), (4, vi x)] [] (sD h I1 L1)
  refine aw_aload_n d_Mo_sampleSmall_6 rfl rfl ?_
  refine aw_aload_n d_Mo_sampleSmall_7 rfl rfl ?_
  refine aw_iload_n d_Mo_sampleSmall_8 rfl rfl ?_
  refine aw_bipush d_Mo_sampleSmall_9 ⟨by decide, by decide⟩ (by decide) ?_
  refine ax_Vr (st := []) (as := [vr r, vi pa, vi 64]) (b := 175) d_Mo_sampleSmall_11 cs_Mo_sampleSmall_11 (k_175 S) (c_Mo_put3 S (RS.rf F1) (by omega) (by rw [e1]; exact spStart_lt (by decide) (by decide)) ⟨Zr.1, Zr.2.1, Zr.2.2⟩ (by omega)) rfl rfl rfl (fun u_11 q_11 => ?_)
  obtain ⟨I2, L2⟩ := u_11
  obtain ⟨F2, e2, k2⟩ := q_11
  dsimp only at F2 e2 k2
  show AW l G M_Mo_sampleSmall P 14 [(0, vr 175), (1, vr f), (2, vr r), (3, vi pa), (4, vi x)] [] (sD h I2 L2)
  refine aw_aload_n d_Mo_sampleSmall_14 rfl rfl ?_
  refine aw_iload d_Mo_sampleSmall_15 rfl ?_
  refine ax_Vr (st := []) (as := [vi x]) (b := 175) d_Mo_sampleSmall_17 cs_Mo_sampleSmall_17 (k_175 S) (c_Mo_put1 S ((RS.rf F1).rf F2) (by omega) (by rw [e2, e1]; exact spPart_lt (spStart_lt (by decide) (by decide)) _ _)) rfl rfl rfl (fun u_17 q_17 => ?_)
  obtain ⟨I3, L3⟩ := u_17
  obtain ⟨F3, e3, k3⟩ := q_17
  dsimp only at F3 e3 k3
  show AW l G M_Mo_sampleSmall P 20 [(0, vr 175), (1, vr f), (2, vr r), (3, vi pa), (4, vi x)] [] (sD h I3 L3)
  refine aw_aload_n d_Mo_sampleSmall_20 rfl rfl ?_
  refine aw_iload d_Mo_sampleSmall_21 rfl ?_
  refine aw_bipush d_Mo_sampleSmall_23 ⟨by decide, by decide⟩ (by decide) ?_
  refine aw_ishr d_Mo_sampleSmall_25 ?_
  refine ax_ti (x := x / 256) (a_shr' 8 rfl (by decide) (by decide) ⟨(by omega), (by omega)⟩) ?_
  refine ax_Vr (st := []) (as := [vi (x / 256)]) (b := 175) d_Mo_sampleSmall_26 cs_Mo_sampleSmall_26 (k_175 S) (c_Mo_put1 S (((RS.rf F1).rf F2).rf F3) (by omega) (by rw [e3, e2, e1]; exact spTake_lt (spPart_lt (spStart_lt (by decide) (by decide)) _ _) _)) rfl rfl rfl (fun u_26 q_26 => ?_)
  obtain ⟨I4, L4⟩ := u_26
  obtain ⟨F4, e4, k4⟩ := q_26
  dsimp only at F4 e4 k4
  show AW l G M_Mo_sampleSmall P 29 [(0, vr 175), (1, vr f), (2, vr r), (3, vi pa), (4, vi x)] [] (sD h I4 L4)
  refine aw_aload_n d_Mo_sampleSmall_29 rfl rfl ?_
  refine ax_Vr (st := []) (as := []) (b := 175) d_Mo_sampleSmall_30 cs_Mo_sampleSmall_30 (k_175 S) (c_Mo_finish S ((((RS.rf F1).rf F2).rf F3).rf F4) (by omega) (by rw [e4, e3, e2, e1]; exact (spTake_lt (spTake_lt (spPart_lt (spStart_lt (by decide) (by decide)) _ _) _) _).1)) rfl rfl rfl (fun u_30 q_30 => ?_)
  obtain ⟨I5, L5⟩ := u_30
  obtain ⟨F5, e5, k5⟩ := q_30
  dsimp only at F5 e5 k5
  show AW l G M_Mo_sampleSmall P 33 [(0, vr 175), (1, vr f), (2, vr r), (3, vi pa), (4, vi x)] [] (sD h I5 L5)
  have eS : spR I5 L5 = (nmS (fun k => I r (pa + k)) x) := by rw [e5, e4, e3, e2, e1, show (fun k => I1 r (pa + k)) = (fun k => I r (pa + k)) from funext (fun k => F1.1 r _ (Or.inl (by omega)))]; rfl
  have F5a := (((F1.tr F2).tr F3).tr F4).tr F5
  refine aw_iconst d_Mo_sampleSmall_33 ⟨by decide, by decide⟩ ?_
  refine aw_istore (lv' := [(5, vi 0), (0, vr 175), (1, vr f), (2, vr r), (3, vi pa), (4, vi x)]) d_Mo_sampleSmall_34 (by decide) rfl ?_
  refine aw_iconst d_Mo_sampleSmall_36 ⟨by decide, by decide⟩ ?_
  refine aw_istore (lv' := [(6, vi 0), (5, vi 0), (0, vr 175), (1, vr f), (2, vr r), (3, vi pa), (4, vi x)]) d_Mo_sampleSmall_37 (by decide) rfl ?_
  have lp_39 : ∀ (n_ : Nat) (t : Int) (n : Int) (I6 : Nat → Int → Int) (L6 : Nat → Int → Int) (X : Int → Int), (0 ≤ t ∧ t ≤ 481 ∧ 0 ≤ n ∧ n ≤ 256) → ((∀ a j, qR a j → a ≠ f → I6 a j = I a j) ∧ ∀ a j, a ≠ 175 → a ≠ 195 → a ≠ 196 → a ≠ 197 → L6 a j = L a j) → (slIt e (nmS (fun k => I r (pa + k)) x) t.toNat = (spR I6 L6, n, X)) → (spOk (spR I6 L6)) → (∀ j, 0 ≤ j → j < n → I6 f j = X j) → ((481 - t).toNat) = n_ → AW l G M_Mo_sampleSmall P 39 [(6, vi t), (5, vi n), (1, vr f), (0, vr 175)] [] (sD h I6 L6) := by
    intro n_
    induction n_ using Nat.strongRecOn with
    | _ n_ ih_39 =>
    intro t n I6 L6 X hn F6 hst ok g hm_39
    refine aw_iload d_Mo_sampleSmall_39 rfl ?_
    refine aw_sipush d_Mo_sampleSmall_41 ⟨by decide, by decide⟩ (by decide) ?_
    refine aw_icmp_ge (tgt := 133) d_Mo_sampleSmall_44 (by decide) (fun c_44 => ?_) (fun c_44 => ?_)
    · skip
      refine aw_iload d_Mo_sampleSmall_133 rfl ?_
      refine aw_sipush d_Mo_sampleSmall_135 ⟨by decide, by decide⟩ (by decide) ?_
      refine aw_icmp_ne (tgt := 145) d_Mo_sampleSmall_138 (by decide) (fun c_138 => ?_) (fun c_138 => ?_)
      · skip
        refine aw_iconst d_Mo_sampleSmall_145 ⟨by decide, by decide⟩ ?_
        exact aw_zret d_Mo_sampleSmall_146 rfl ⟨by decide, by decide⟩ (hP _ _ _ F6 (by unfold sml; rw [slIt_end hst (by omega) (by omega)]; exact (if_neg (show ¬ n = 256 by omega)).symm) (fun j a b => by unfold sml at *; rw [slIt_end hst (by omega) (by omega)] at b ⊢; exact g j a b))
      · skip
        refine aw_iconst d_Mo_sampleSmall_141 ⟨by decide, by decide⟩ ?_
        refine aw_goto (tgt := 146) d_Mo_sampleSmall_142 (by decide) ?_
        exact aw_zret d_Mo_sampleSmall_146 rfl ⟨by decide, by decide⟩ (hP _ _ _ F6 (by unfold sml; rw [slIt_end hst (by omega) (by omega)]; exact (if_pos (show n = 256 by omega)).symm) (fun j a b => by unfold sml at *; rw [slIt_end hst (by omega) (by omega)] at b ⊢; exact g j a b))
    · skip
      refine aw_iload d_Mo_sampleSmall_47 rfl ?_
      refine aw_sipush d_Mo_sampleSmall_49 ⟨by decide, by decide⟩ (by decide) ?_
      refine aw_icmp_ge (tgt := 133) d_Mo_sampleSmall_52 (by decide) (fun c_52 => ?_) (fun c_52 => ?_)
      · skip
        refine aw_iload d_Mo_sampleSmall_133 rfl ?_
        refine aw_sipush d_Mo_sampleSmall_135 ⟨by decide, by decide⟩ (by decide) ?_
        refine aw_icmp_ne (tgt := 145) d_Mo_sampleSmall_138 (by decide) (fun c_138 => ?_) (fun c_138 => ?_)
        · skip
          refine aw_iconst d_Mo_sampleSmall_145 ⟨by decide, by decide⟩ ?_
          exact aw_zret d_Mo_sampleSmall_146 rfl ⟨by decide, by decide⟩ (hP _ _ _ F6 (by unfold sml; rw [slIt_end hst (by omega) (by omega)]; exact (if_neg (show ¬ n = 256 by omega)).symm) (fun j a b => by unfold sml at *; rw [slIt_end hst (by omega) (by omega)] at b ⊢; exact g j a b))
        · skip
          refine aw_iconst d_Mo_sampleSmall_141 ⟨by decide, by decide⟩ ?_
          refine aw_goto (tgt := 146) d_Mo_sampleSmall_142 (by decide) ?_
          exact aw_zret d_Mo_sampleSmall_146 rfl ⟨by decide, by decide⟩ (hP _ _ _ F6 (by unfold sml; rw [slIt_end hst (by omega) (by omega)]; exact (if_pos (show n = 256 by omega)).symm) (fun j a b => by unfold sml at *; rw [slIt_end hst (by omega) (by omega)] at b ⊢; exact g j a b))
      · skip
        refine aw_aload_n d_Mo_sampleSmall_55 rfl rfl ?_
        refine ax_Vr (st := []) (as := []) (b := 175) d_Mo_sampleSmall_56 cs_Mo_sampleSmall_56 (k_175 S) (c_Mo_squeeze S (RS.of (fun j => F6.1 193 j (Or.inl (by decide)) (by omega)) (fun j => F6.2 194 j (by decide) (by decide) (by decide) (by decide))) ok) rfl rfl rfl (fun u_56 q_56 => ?_)
        obtain ⟨I7, L7⟩ := u_56
        obtain ⟨F7, e7, k7⟩ := q_56
        dsimp only at F7 e7 k7
        show AW l G M_Mo_sampleSmall P 59 [(6, vi t), (5, vi n), (1, vr f), (0, vr 175)] [vi (spGet (spR I6 L6))] (sD h I7 L7)
        have g_ := spGet_lt (spR I6 L6)
        have e7_ : I7 175 33 = e := (F7.1 175 33 (by decide)).trans ((F6.1 175 33 (by decide) (by omega)).trans he2)
        have ff : ∀ j, I7 f j = I6 f j := fun j => F7.1 f j (Or.inl (by omega))
        refine aw_istore (lv' := [(7, vi (spGet (spR I6 L6))), (6, vi t), (5, vi n), (1, vr f), (0, vr 175)]) d_Mo_sampleSmall_59 (by decide) rfl ?_
        refine aw_aload_n d_Mo_sampleSmall_61 rfl rfl ?_
        refine aw_iload d_Mo_sampleSmall_62 rfl ?_
        refine aw_bipush d_Mo_sampleSmall_64 ⟨by decide, by decide⟩ (by decide) ?_
        refine aw_iand d_Mo_sampleSmall_66 ?_
        refine ax_ti (x := (spGet (spR I6 L6)) % 16) (a_and' 4 (by decide) (by decide) (by decide)) ?_
        refine ax_V (st := []) (as := [vi ((spGet (spR I6 L6)) % 16)]) (b := 175) (v := some (vi (dsmall (I7 175 33) ((spGet (spR I6 L6)) % 16)))) (h' := sD h I7 L7) d_Mo_sampleSmall_67 cs_Mo_sampleSmall_67 (k_175 S) (c_Mo_small S (by omega)) rfl rfl rfl ?_
        show AW l G M_Mo_sampleSmall P 70 [(7, vi (spGet (spR I6 L6))), (6, vi t), (5, vi n), (1, vr f), (0, vr 175)] [vi (dsmall (I7 175 33) ((spGet (spR I6 L6)) % 16))] (sD h I7 L7)
        refine ax_ti (x := dsmall e ((spGet (spR I6 L6)) % 16)) (by rw [e7_]) ?_
        refine aw_bipush d_Mo_sampleSmall_70 ⟨by decide, by decide⟩ (by decide) ?_
        refine aw_icmp_ge (tgt := 91) d_Mo_sampleSmall_72 (by decide) (fun c_72 => ?_) (fun c_72 => ?_)
        · skip
          refine aw_iload d_Mo_sampleSmall_91 rfl ?_
          refine aw_sipush d_Mo_sampleSmall_93 ⟨by decide, by decide⟩ (by decide) ?_
          refine aw_icmp_ge (tgt := 127) d_Mo_sampleSmall_96 (by decide) (fun c_96 => ?_) (fun c_96 => ?_)
          · skip
            refine ax_iinc (lv' := [(6, vi (t + 1)), (7, vi (spGet (spR I6 L6))), (5, vi n), (1, vr f), (0, vr 175)]) d_Mo_sampleSmall_127 rfl (by decide) ⟨(by omega), (by omega)⟩ rfl ?_
            refine aw_goto (tgt := 39) d_Mo_sampleSmall_130 (by decide) ?_
            refine aw_sub (lv' := [(6, vi (t + 1)), (5, vi n), (1, vr f), (0, vr 175)]) (by simp) ?_
            exact ih_39 _ (by omega) (t + 1) n I7 L7 X (by omega) (⟨fun a j x y => ((F7.1 a j x).trans (F6.1 a j x y)), fun a j w x y z => (F7.2 a j w x y z).trans (F6.2 a j w x y z)⟩) (by rw [slIt_go hst hn.1 (by omega), slP_n (n := n) (v := spGet (spR I6 L6) % 16) (by omega), slP_n (n := n) (v := spGet (spR I6 L6) / 16) (by omega), ← e7]) (by rw [e7]; exact spNext_ok ok) (fill_keep g ff) rfl
          · skip
            refine aw_aload_n d_Mo_sampleSmall_99 rfl rfl ?_
            refine aw_iload d_Mo_sampleSmall_100 rfl ?_
            refine aw_iconst d_Mo_sampleSmall_102 ⟨by decide, by decide⟩ ?_
            refine aw_ishr d_Mo_sampleSmall_103 ?_
            refine ax_ti (x := (spGet (spR I6 L6)) / 16) (a_shr' 4 rfl (by decide) (by decide) ⟨(by omega), (by omega)⟩) ?_
            refine ax_V (st := []) (as := [vi ((spGet (spR I6 L6)) / 16)]) (b := 175) (v := some (vi (dsmall (I7 175 33) ((spGet (spR I6 L6)) / 16)))) (h' := sD h I7 L7) d_Mo_sampleSmall_104 cs_Mo_sampleSmall_104 (k_175 S) (c_Mo_small S (by omega)) rfl rfl rfl ?_
            show AW l G M_Mo_sampleSmall P 107 [(7, vi (spGet (spR I6 L6))), (6, vi t), (5, vi n), (1, vr f), (0, vr 175)] [vi (dsmall (I7 175 33) ((spGet (spR I6 L6)) / 16))] (sD h I7 L7)
            refine ax_ti (x := dsmall e ((spGet (spR I6 L6)) / 16)) (by rw [e7_]) ?_
            refine aw_bipush d_Mo_sampleSmall_107 ⟨by decide, by decide⟩ (by decide) ?_
            refine aw_icmp_ge (tgt := 127) d_Mo_sampleSmall_109 (by decide) (fun c_109 => ?_) (fun c_109 => ?_)
            · skip
              refine ax_iinc (lv' := [(6, vi (t + 1)), (7, vi (spGet (spR I6 L6))), (5, vi n), (1, vr f), (0, vr 175)]) d_Mo_sampleSmall_127 rfl (by decide) ⟨(by omega), (by omega)⟩ rfl ?_
              refine aw_goto (tgt := 39) d_Mo_sampleSmall_130 (by decide) ?_
              refine aw_sub (lv' := [(6, vi (t + 1)), (5, vi n), (1, vr f), (0, vr 175)]) (by simp) ?_
              exact ih_39 _ (by omega) (t + 1) n I7 L7 X (by omega) (⟨fun a j x y => ((F7.1 a j x).trans (F6.1 a j x y)), fun a j w x y z => (F7.2 a j w x y z).trans (F6.2 a j w x y z)⟩) (by rw [slIt_go hst hn.1 (by omega), slP_n (n := n) (v := spGet (spR I6 L6) % 16) (by omega), slP_n (n := n) (v := spGet (spR I6 L6) / 16) (by omega), ← e7]) (by rw [e7]; exact spNext_ok ok) (fill_keep g ff) rfl
            · skip
              refine aw_aload_n d_Mo_sampleSmall_112 rfl rfl ?_
              refine aw_iload d_Mo_sampleSmall_113 rfl ?_
              refine aw_aload_n d_Mo_sampleSmall_115 rfl rfl ?_
              refine aw_iload d_Mo_sampleSmall_116 rfl ?_
              refine aw_iconst d_Mo_sampleSmall_118 ⟨by decide, by decide⟩ ?_
              refine aw_ishr d_Mo_sampleSmall_119 ?_
              refine ax_ti (x := (spGet (spR I6 L6)) / 16) (a_shr' 4 rfl (by decide) (by decide) ⟨(by omega), (by omega)⟩) ?_
              refine ax_V (st := [vi n, vr f]) (as := [vi ((spGet (spR I6 L6)) / 16)]) (b := 175) (v := some (vi (dsmall (I7 175 33) ((spGet (spR I6 L6)) / 16)))) (h' := sD h I7 L7) d_Mo_sampleSmall_120 cs_Mo_sampleSmall_120 (k_175 S) (c_Mo_small S (by omega)) rfl rfl rfl ?_
              show AW l G M_Mo_sampleSmall P 123 [(7, vi (spGet (spR I6 L6))), (6, vi t), (5, vi n), (1, vr f), (0, vr 175)] [vi (dsmall (I7 175 33) ((spGet (spR I6 L6)) / 16)), vi n, vr f] (sD h I7 L7)
              refine ax_ti (x := dsmall e ((spGet (spR I6 L6)) / 16)) (by rw [e7_]) ?_
              refine ax_iast d_Mo_sampleSmall_123 Zf.1 Zf.2.1 (by omega) (by omega) ?_
              refine ax_iinc (lv' := [(5, vi (n + 1)), (7, vi (spGet (spR I6 L6))), (6, vi t), (1, vr f), (0, vr 175)]) d_Mo_sampleSmall_124 rfl (by decide) ⟨(by omega), (by omega)⟩ rfl ?_
              refine ax_iinc (lv' := [(6, vi (t + 1)), (5, vi (n + 1)), (7, vi (spGet (spR I6 L6))), (1, vr f), (0, vr 175)]) d_Mo_sampleSmall_127 rfl (by decide) ⟨(by omega), (by omega)⟩ rfl ?_
              refine aw_goto (tgt := 39) d_Mo_sampleSmall_130 (by decide) ?_
              refine aw_sub (lv' := [(6, vi (t + 1)), (5, vi (n + 1)), (1, vr f), (0, vr 175)]) (by simp) ?_
              exact ih_39 _ (by omega) (t + 1) (n + 1) (a_up I7 f n (dsmall e ((spGet (spR I6 L6)) / 16))) L7 (fun j => if j = n then dsmall e (spGet (spR I6 L6) / 16) else X j) (by omega) (⟨fun a j x y => (a_up_ne (Or.inl y)).trans (((F7.1 a j x).trans (F6.1 a j x y))), fun a j w x y z => (F7.2 a j w x y z).trans (F6.2 a j w x y z)⟩) (by rw [slIt_go hst hn.1 (by omega), slP_n (n := n) (v := spGet (spR I6 L6) % 16) (by omega), slP_y (n := n) (v := spGet (spR I6 L6) / 16) (by omega), ← e7, spR_up (by omega)]) (by rw [spR_up (by omega), e7]; exact spNext_ok ok) (fill_step (fill_keep g ff)) rfl
        · skip
          refine aw_aload_n d_Mo_sampleSmall_75 rfl rfl ?_
          refine aw_iload d_Mo_sampleSmall_76 rfl ?_
          refine aw_aload_n d_Mo_sampleSmall_78 rfl rfl ?_
          refine aw_iload d_Mo_sampleSmall_79 rfl ?_
          refine aw_bipush d_Mo_sampleSmall_81 ⟨by decide, by decide⟩ (by decide) ?_
          refine aw_iand d_Mo_sampleSmall_83 ?_
          refine ax_ti (x := (spGet (spR I6 L6)) % 16) (a_and' 4 (by decide) (by decide) (by decide)) ?_
          refine ax_V (st := [vi n, vr f]) (as := [vi ((spGet (spR I6 L6)) % 16)]) (b := 175) (v := some (vi (dsmall (I7 175 33) ((spGet (spR I6 L6)) % 16)))) (h' := sD h I7 L7) d_Mo_sampleSmall_84 cs_Mo_sampleSmall_84 (k_175 S) (c_Mo_small S (by omega)) rfl rfl rfl ?_
          show AW l G M_Mo_sampleSmall P 87 [(7, vi (spGet (spR I6 L6))), (6, vi t), (5, vi n), (1, vr f), (0, vr 175)] [vi (dsmall (I7 175 33) ((spGet (spR I6 L6)) % 16)), vi n, vr f] (sD h I7 L7)
          refine ax_ti (x := dsmall e ((spGet (spR I6 L6)) % 16)) (by rw [e7_]) ?_
          refine ax_iast d_Mo_sampleSmall_87 Zf.1 Zf.2.1 (by omega) (by omega) ?_
          refine ax_iinc (lv' := [(5, vi (n + 1)), (7, vi (spGet (spR I6 L6))), (6, vi t), (1, vr f), (0, vr 175)]) d_Mo_sampleSmall_88 rfl (by decide) ⟨(by omega), (by omega)⟩ rfl ?_
          refine aw_iload d_Mo_sampleSmall_91 rfl ?_
          refine aw_sipush d_Mo_sampleSmall_93 ⟨by decide, by decide⟩ (by decide) ?_
          refine aw_icmp_ge (tgt := 127) d_Mo_sampleSmall_96 (by decide) (fun c_96 => ?_) (fun c_96 => ?_)
          · skip
            refine ax_iinc (lv' := [(6, vi (t + 1)), (5, vi (n + 1)), (7, vi (spGet (spR I6 L6))), (1, vr f), (0, vr 175)]) d_Mo_sampleSmall_127 rfl (by decide) ⟨(by omega), (by omega)⟩ rfl ?_
            refine aw_goto (tgt := 39) d_Mo_sampleSmall_130 (by decide) ?_
            refine aw_sub (lv' := [(6, vi (t + 1)), (5, vi (n + 1)), (1, vr f), (0, vr 175)]) (by simp) ?_
            exact ih_39 _ (by omega) (t + 1) (n + 1) (a_up I7 f n (dsmall e ((spGet (spR I6 L6)) % 16))) L7 (fun j => if j = n then dsmall e (spGet (spR I6 L6) % 16) else X j) (by omega) (⟨fun a j x y => (a_up_ne (Or.inl y)).trans (((F7.1 a j x).trans (F6.1 a j x y))), fun a j w x y z => (F7.2 a j w x y z).trans (F6.2 a j w x y z)⟩) (by rw [slIt_go hst hn.1 (by omega), slP_y (n := n) (v := spGet (spR I6 L6) % 16) (by omega), slP_n (n := n + 1) (v := spGet (spR I6 L6) / 16) (by omega), ← e7, spR_up (by omega)]) (by rw [spR_up (by omega), e7]; exact spNext_ok ok) (fill_step (fill_keep g ff)) rfl
          · skip
            refine aw_aload_n d_Mo_sampleSmall_99 rfl rfl ?_
            refine aw_iload d_Mo_sampleSmall_100 rfl ?_
            refine aw_iconst d_Mo_sampleSmall_102 ⟨by decide, by decide⟩ ?_
            refine aw_ishr d_Mo_sampleSmall_103 ?_
            refine ax_ti (x := (spGet (spR I6 L6)) / 16) (a_shr' 4 rfl (by decide) (by decide) ⟨(by omega), (by omega)⟩) ?_
            refine ax_V (st := []) (as := [vi ((spGet (spR I6 L6)) / 16)]) (b := 175) (v := some (vi (dsmall ((a_up I7 f n (dsmall e ((spGet (spR I6 L6)) % 16))) 175 33) ((spGet (spR I6 L6)) / 16)))) (h' := sD h (a_up I7 f n (dsmall e ((spGet (spR I6 L6)) % 16))) L7) d_Mo_sampleSmall_104 cs_Mo_sampleSmall_104 (k_175 S) (c_Mo_small S (by omega)) rfl rfl rfl ?_
            show AW l G M_Mo_sampleSmall P 107 [(5, vi (n + 1)), (7, vi (spGet (spR I6 L6))), (6, vi t), (1, vr f), (0, vr 175)] [vi (dsmall ((a_up I7 f n (dsmall e ((spGet (spR I6 L6)) % 16))) 175 33) ((spGet (spR I6 L6)) / 16))] (sD h (a_up I7 f n (dsmall e ((spGet (spR I6 L6)) % 16))) L7)
            refine ax_ti (x := dsmall e ((spGet (spR I6 L6)) / 16)) (by rw [a_up_ne (Or.inl (by omega)), e7_]) ?_
            refine aw_bipush d_Mo_sampleSmall_107 ⟨by decide, by decide⟩ (by decide) ?_
            refine aw_icmp_ge (tgt := 127) d_Mo_sampleSmall_109 (by decide) (fun c_109 => ?_) (fun c_109 => ?_)
            · skip
              refine ax_iinc (lv' := [(6, vi (t + 1)), (5, vi (n + 1)), (7, vi (spGet (spR I6 L6))), (1, vr f), (0, vr 175)]) d_Mo_sampleSmall_127 rfl (by decide) ⟨(by omega), (by omega)⟩ rfl ?_
              refine aw_goto (tgt := 39) d_Mo_sampleSmall_130 (by decide) ?_
              refine aw_sub (lv' := [(6, vi (t + 1)), (5, vi (n + 1)), (1, vr f), (0, vr 175)]) (by simp) ?_
              exact ih_39 _ (by omega) (t + 1) (n + 1) (a_up I7 f n (dsmall e ((spGet (spR I6 L6)) % 16))) L7 (fun j => if j = n then dsmall e (spGet (spR I6 L6) % 16) else X j) (by omega) (⟨fun a j x y => (a_up_ne (Or.inl y)).trans (((F7.1 a j x).trans (F6.1 a j x y))), fun a j w x y z => (F7.2 a j w x y z).trans (F6.2 a j w x y z)⟩) (by rw [slIt_go hst hn.1 (by omega), slP_y (n := n) (v := spGet (spR I6 L6) % 16) (by omega), slP_n (n := n + 1) (v := spGet (spR I6 L6) / 16) (by omega), ← e7, spR_up (by omega)]) (by rw [spR_up (by omega), e7]; exact spNext_ok ok) (fill_step (fill_keep g ff)) rfl
            · skip
              refine aw_aload_n d_Mo_sampleSmall_112 rfl rfl ?_
              refine aw_iload d_Mo_sampleSmall_113 rfl ?_
              refine aw_aload_n d_Mo_sampleSmall_115 rfl rfl ?_
              refine aw_iload d_Mo_sampleSmall_116 rfl ?_
              refine aw_iconst d_Mo_sampleSmall_118 ⟨by decide, by decide⟩ ?_
              refine aw_ishr d_Mo_sampleSmall_119 ?_
              refine ax_ti (x := (spGet (spR I6 L6)) / 16) (a_shr' 4 rfl (by decide) (by decide) ⟨(by omega), (by omega)⟩) ?_
              refine ax_V (st := [vi (n + 1), vr f]) (as := [vi ((spGet (spR I6 L6)) / 16)]) (b := 175) (v := some (vi (dsmall ((a_up I7 f n (dsmall e ((spGet (spR I6 L6)) % 16))) 175 33) ((spGet (spR I6 L6)) / 16)))) (h' := sD h (a_up I7 f n (dsmall e ((spGet (spR I6 L6)) % 16))) L7) d_Mo_sampleSmall_120 cs_Mo_sampleSmall_120 (k_175 S) (c_Mo_small S (by omega)) rfl rfl rfl ?_
              show AW l G M_Mo_sampleSmall P 123 [(5, vi (n + 1)), (7, vi (spGet (spR I6 L6))), (6, vi t), (1, vr f), (0, vr 175)] [vi (dsmall ((a_up I7 f n (dsmall e ((spGet (spR I6 L6)) % 16))) 175 33) ((spGet (spR I6 L6)) / 16)), vi (n + 1), vr f] (sD h (a_up I7 f n (dsmall e ((spGet (spR I6 L6)) % 16))) L7)
              refine ax_ti (x := dsmall e ((spGet (spR I6 L6)) / 16)) (by rw [a_up_ne (Or.inl (by omega)), e7_]) ?_
              refine ax_iast d_Mo_sampleSmall_123 Zf.1 Zf.2.1 (by omega) (by omega) ?_
              refine ax_iinc (lv' := [(5, vi (n + 1 + 1)), (7, vi (spGet (spR I6 L6))), (6, vi t), (1, vr f), (0, vr 175)]) d_Mo_sampleSmall_124 rfl (by decide) ⟨(by omega), (by omega)⟩ rfl ?_
              refine ax_iinc (lv' := [(6, vi (t + 1)), (5, vi (n + 1 + 1)), (7, vi (spGet (spR I6 L6))), (1, vr f), (0, vr 175)]) d_Mo_sampleSmall_127 rfl (by decide) ⟨(by omega), (by omega)⟩ rfl ?_
              refine aw_goto (tgt := 39) d_Mo_sampleSmall_130 (by decide) ?_
              refine aw_sub (lv' := [(6, vi (t + 1)), (5, vi (n + 1 + 1)), (1, vr f), (0, vr 175)]) (by simp) ?_
              exact ih_39 _ (by omega) (t + 1) (n + 1 + 1) (a_up (a_up I7 f n (dsmall e ((spGet (spR I6 L6)) % 16))) f (n + 1) (dsmall e ((spGet (spR I6 L6)) / 16))) L7 (fun j => if j = n + 1 then dsmall e (spGet (spR I6 L6) / 16) else (fun j => if j = n then dsmall e (spGet (spR I6 L6) % 16) else X j) j) (by omega) (⟨fun a j x y => (a_up_ne (Or.inl y)).trans ((a_up_ne (Or.inl y)).trans (((F7.1 a j x).trans (F6.1 a j x y)))), fun a j w x y z => (F7.2 a j w x y z).trans (F6.2 a j w x y z)⟩) (by rw [slIt_go hst hn.1 (by omega), slP_y (n := n) (v := spGet (spR I6 L6) % 16) (by omega), slP_y (n := n + 1) (v := spGet (spR I6 L6) / 16) (by omega), ← e7, spR_up (by omega), spR_up (by omega)]) (by rw [spR_up (by omega), spR_up (by omega), e7]; exact spNext_ok ok) (fill_step (fill_step (fill_keep g ff))) rfl
  skip
  refine aw_sub (lv' := [(6, vi 0), (5, vi 0), (1, vr f), (0, vr 175)]) (by simp) ?_
  exact lp_39 _ 0 0 I5 L5 (fun _ => 0) (by omega) (⟨fun a j x _ => F5a.1 a j x, F5a.2⟩) (by rw [eS]; rfl) (by rw [eS]; exact nmS_ok) (fun j a b => by omega) rfl
