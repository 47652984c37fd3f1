/-! Verifier -/
def hEn (g : Int → Int) (o4 i : Int) : Int := if i < 0 then 0 else g (o4 + i)
def rises (g : Int → Int) (a b : Int) : Prop := ∀ x, a + 1 ≤ x → x < b → g (x - 1) < g x
def hSt (g : Int → Int) (o3 w k : Int) : Prop := (∀ i, 0 ≤ i → i < k → hEn g (o3 + w) (i - 1) ≤ hEn g (o3 + w) i ∧ hEn g (o3 + w) i ≤ w ∧ rises g (o3 + hEn g (o3 + w) (i - 1)) (o3 + hEn g (o3 + w) i)) ∧ ∀ x, hEn g (o3 + w) (k - 1) ≤ x → x < w → g (o3 + x) = 0
theorem byAt_b {I : Nat → Int → Int} {b r : Nat} {i : Int} : 0 ≤ byAt I b r i ∧ byAt I b r i < 256 := by
  unfold byAt
  split <;> omega
theorem hEn_b {g : Int → Int} {o4 i : Int} (hg : ∀ i, 0 ≤ g i ∧ g i < 256) : 0 ≤ hEn g o4 i ∧ hEn g o4 i < 256 := by
  unfold hEn
  split
  · omega
  · exact hg _
theorem rises_lt {g : Int → Int} {a b : Int} (h : rises g a b) : ∀ (n : Nat) (x : Int), a ≤ x → x + n + 1 < b → g x < g (x + n + 1)
  | 0, x, h0, h1 => by
    have := h (x + 1) (by omega) (by omega)
    rw [show x + 1 - 1 = x by omega] at this
    rw [show x + ((0 : Nat) : Int) + 1 = x + 1 by omega]; exact this
  | n + 1, x, h0, h1 => by
    have z := rises_lt h n x h0 (by omega)
    have y := h (x + n + 1 + 1) (by omega) (by omega)
    rw [show x + n + 1 + 1 - 1 = x + (n : Int) + 1 by omega] at y
    rw [show x + ((n + 1 : Nat) : Int) + 1 = x + n + 1 + 1 by omega]
    omega
theorem rises_at {g : Int → Int} {a b x y : Int} (h : rises g a b) (h0 : a ≤ x) (h1 : x < y) (h2 : y < b) : g x < g y := by
  have := rises_lt h (y - x - 1).toNat x h0 (by omega)
  rwa [show x + ((y - x - 1).toNat : Int) + 1 = y by omega] at this
/-- the coefficient has a hint -/
def hin (g : Int → Int) (o3 w i j : Int) : Prop := ∃ x, hEn g (o3 + w) (i - 1) ≤ x ∧ x < hEn g (o3 + w) i ∧ g (o3 + x) = j
noncomputable def hvV (g : Int → Int) (o3 w g2 hs i j r : Int) : Int := @ite Int (hin g o3 w i j) (Classical.propDecidable _) (hHigh g2 hs r) (dHigh g2 r)
theorem hvV_y {g : Int → Int} {o3 w g2 hs i j r : Int} (h : hin g o3 w i j) : hvV g o3 w g2 hs i j r = hHigh g2 hs r := by unfold hvV; rw [if_pos h]
theorem hvV_n {g : Int → Int} {o3 w g2 hs i j r : Int} (h : ¬ hin g o3 w i j) : hvV g o3 w g2 hs i j r = dHigh g2 r := by unfold hvV; rw [if_neg h]
noncomputable def hvB (g : Int → Int) (o3 w g2 hs : Int) (hb : Nat) (n : Int) (W : Int → Int → Int) (x : Int) : Int := gB (fun j => hvV g o3 w g2 hs (x / n) j (W (x / n) j)) hb (x % n)
theorem hHigh_a {r : Int} (h : 0 ≤ r ∧ r < 8380417) : 0 ≤ hHigh 95232 44 r ∧ hHigh 95232 44 r < 44 := by
  unfold hHigh
  split <;> omega
theorem hHigh_b {r : Int} (h : 0 ≤ r ∧ r < 8380417) : 0 ≤ hHigh 261888 16 r ∧ hHigh 261888 16 r < 16 := by
  unfold hHigh
  split <;> omega
theorem hvV_a {g : Int → Int} {o3 w i j r : Int} (h : 0 ≤ r ∧ r < 8380417) : 0 ≤ hvV g o3 w 95232 44 i j r ∧ hvV g o3 w 95232 44 i j r < 44 := by
  by_cases c : hin g o3 w i j
  · rw [hvV_y c]; exact hHigh_a h
  · rw [hvV_n c]; exact dHi44 h
theorem hvV_b {g : Int → Int} {o3 w i j r : Int} (h : 0 ≤ r ∧ r < 8380417) : 0 ≤ hvV g o3 w 261888 16 i j r ∧ hvV g o3 w 261888 16 i j r < 16 := by
  by_cases c : hin g o3 w i j
  · rw [hvV_y c]; exact hHigh_b h
  · rw [hvV_n c]; exact dHi16 h
def tpF (g : Int → Int) (i j : Int) : Int := gR (fun k => g (32 + 320 * i + k)) 10 j * 8192
theorem tpF_in {g : Int → Int} {i : Int} : inQ (tpF g i) := fun j _ _ => by
  have h1 := Int.emod_nonneg (bV (fun k => g (32 + 320 * i + k)) 8 (32 * 10) / 2 ^ (10 * j.toNat)) (show (2 ^ 10 : Int) ≠ 0 by decide)
  have h2 := Int.emod_lt_of_pos (bV (fun k => g (32 + 320 * i + k)) 8 (32 * 10) / 2 ^ (10 * j.toNat)) (show (0 : Int) < 2 ^ 10 by decide)
  have e : tpF g i j = bV (fun k => g (32 + 320 * i + k)) 8 (32 * 10) / 2 ^ (10 * j.toNat) % 2 ^ 10 * 8192 := rfl
  rw [e]
  rw [show (2 ^ 10 : Int) = 1024 by decide] at *
  omega
def vmF (A V : Int → Int → Int) (B : Int → Int) (g : Int → Int) (l : Int) (n : Nat) (m : Int) : Int → Int := bck rt (fun c => (pS A V (m * l) c n % 8380417 - B c * fwd rt (tpF g m) c % 8380417) % 8380417)
theorem vmF_in {A V : Int → Int → Int} {B g : Int → Int} {l m : Int} {n : Nat} : inQ (vmF A V B g l n m) := bck_in
set_option maxHeartbeats 800000 in
set_option maxRecDepth 100000 in
theorem c_Ve_placesRise {l : Launch} {G : a_G} {h : Hp} {I L : Nat → Int → Int} {b r : Nat} {fr to : Int} (SB : ByO h b r) (hc : I b 1 ≤ hN h r ∧ 0 ≤ fr ∧ fr < 100000 ∧ 0 ≤ to ∧ to < 100000) : AW l G M_Ve_placesRise (Ret (fun u : Int => some (vi u)) (fun _ => sD h I L) (fun u => (u = 0 ∨ u = 1) ∧ (u = 1 ↔ rises (byAt I b r) fr to))) 0 (a_ar 0 [vr b, vi fr, vi to]) [] (sD h I L) := by
  suffices key : ∀ P : a_R → Hp → Prop, (∀ v : Int, (v = 0 ∨ v = 1) → (v = 1 ↔ rises (byAt I b r) fr to) → P (.inl (some (vi v))) (sD h I L)) → AW l G M_Ve_placesRise P 0 [(0, vr b), (1, vi fr), (2, vi to)] [] (sD h I L) from key _ (fun v q1 q2 => ⟨v, rfl, rfl, q1, q2⟩)
  intro P hP
  refine aw_iload_n d_Ve_placesRise_0 rfl rfl ?_
  refine aw_iconst d_Ve_placesRise_1 ⟨by decide, by decide⟩ ?_
  refine ax_iadd d_Ve_placesRise_2 ⟨(by omega), (by omega)⟩ ?_
  refine aw_istore_n (lv' := [(3, vi (fr + 1)), (0, vr b), (1, vi fr), (2, vi to)]) d_Ve_placesRise_3 rfl (by decide) rfl ?_
  have lp_4 : ∀ (n_ : Nat) (x : Int), (fr + 1 ≤ x) → (∀ y, fr + 1 ≤ y → y < x → byAt I b r (y - 1) < byAt I b r y) → ((to - x).toNat) = n_ → AW l G M_Ve_placesRise P 4 [(3, vi x), (2, vi to), (1, vi fr), (0, vr b)] [] (sD h I L) := by
    intro n_
    induction n_ using Nat.strongRecOn with
    | _ n_ ih_4 =>
    intro x hx gg hm_4
    refine aw_iload_n d_Ve_placesRise_4 rfl rfl ?_
    refine aw_iload_n d_Ve_placesRise_5 rfl rfl ?_
    refine aw_icmp_ge (tgt := 32) d_Ve_placesRise_6 (by decide) (fun c_6 => ?_) (fun c_6 => ?_)
    · skip
      refine aw_iconst d_Ve_placesRise_32 ⟨by decide, by decide⟩ ?_
      exact aw_zret d_Ve_placesRise_33 rfl ⟨by decide, by decide⟩ (hP _ (Or.inr rfl) ⟨fun _ y a b => gg y a (by omega), fun _ => rfl⟩)
    · skip
      refine aw_aload_n d_Ve_placesRise_9 rfl rfl ?_
      refine aw_iload_n d_Ve_placesRise_10 rfl rfl ?_
      refine ax_V (st := []) (as := [vi x]) (b := b) (v := some (vi (byAt I b r x))) (h' := sD h I L) d_Ve_placesRise_11 cs_Ve_placesRise_11 SB.1 (c_By_at SB (by omega) rfl) rfl rfl rfl ?_
      show AW l G M_Ve_placesRise P 14 [(3, vi x), (2, vi to), (1, vi fr), (0, vr b)] [vi (byAt I b r x)] (sD h I L)
      refine aw_aload_n d_Ve_placesRise_14 rfl rfl ?_
      refine aw_iload_n d_Ve_placesRise_15 rfl rfl ?_
      refine aw_iconst d_Ve_placesRise_16 ⟨by decide, by decide⟩ ?_
      refine ax_isub d_Ve_placesRise_17 ⟨(by omega), (by omega)⟩ ?_
      refine ax_V (st := [vi (byAt I b r x)]) (as := [vi (x - 1)]) (b := b) (v := some (vi (byAt I b r (x - 1)))) (h' := sD h I L) d_Ve_placesRise_18 cs_Ve_placesRise_18 SB.1 (c_By_at SB (by omega) rfl) rfl rfl rfl ?_
      show AW l G M_Ve_placesRise P 21 [(3, vi x), (2, vi to), (1, vi fr), (0, vr b)] [vi (byAt I b r (x - 1)), vi (byAt I b r x)] (sD h I L)
      refine aw_icmp_gt (tgt := 26) d_Ve_placesRise_21 (by decide) (fun c_21 => ?_) (fun c_21 => ?_)
      · skip
        refine ax_iinc (lv' := [(3, vi (x + 1)), (2, vi to), (1, vi fr), (0, vr b)]) d_Ve_placesRise_26 rfl (by decide) ⟨(by omega), (by omega)⟩ rfl ?_
        refine aw_goto (tgt := 4) d_Ve_placesRise_29 (by decide) ?_
        exact ih_4 _ (by omega) (x + 1) (by omega) (fun y a b => by by_cases z : y = x; exact (by rw [z]; omega); exact gg y a (by omega)) rfl
      · skip
        refine aw_iconst d_Ve_placesRise_24 ⟨by decide, by decide⟩ ?_
        exact aw_zret d_Ve_placesRise_25 rfl ⟨by decide, by decide⟩ (hP _ (Or.inl rfl) ⟨fun z => absurd z (by decide), fun z => by have := z x (by omega) (by omega); omega⟩)
  refine aw_sub (lv' := [(3, vi (fr + 1)), (2, vi to), (1, vi fr), (0, vr b)]) (by simp) ?_
  exact lp_4 _ (fr + 1) (by omega) (fun y a b => by omega) rfl
theorem dgS_congr {gk gk' gc gm : Int → Int} {how nc nm : Int} (h : ∀ k : Nat, k < 64 → gk k % 256 = gk' k % 256) : dgS gk how gc nc gm nm = dgS gk' how gc nc gm nm := by
  unfold dgS
  rw [spPart_congr h]
set_option maxHeartbeats 800000 in
set_option maxRecDepth 100000 in
theorem c_Ve_digestMessage0 {l : Launch} {G : a_G} {h : Hp} {I L : Nat → Int → Int} (S : Shp h) (SD : Std I L) (cb : CB I) : AW l G M_Ve_digestMessage (Ret (fun _ : (Nat → Int → Int) × (Nat → Int → Int) => none) (fun u => sD h u.1 u.2) (fun u => FC (fun a => a = 38 ∨ a = 171 ∨ a = 172 ∨ a = 137 ∨ a = 138) I L u.1 u.2 ∧ HB u.1 137 138 64 (spOut (dgS (spOut (blS (fun k => byAt I 16 17 (0 + k)) (I 16 1))) (0) (fun k => byAt I 22 23 (0 + k)) (I 22 1) (fun k => byAt I 20 21 (0 + k)) (I 20 1))))) 0 (a_ar 0 [vr 170, vr 13, vi 0]) [] (sD h I L) := by
  suffices key : ∀ P : a_R → Hp → Prop, (∀ I2 L2, FC (fun a => a = 38 ∨ a = 171 ∨ a = 172 ∨ a = 137 ∨ a = 138) I L I2 L2 → HB I2 137 138 64 (spOut (dgS (spOut (blS (fun k => byAt I 16 17 (0 + k)) (I 16 1))) (0) (fun k => byAt I 22 23 (0 + k)) (I 22 1) (fun k => byAt I 20 21 (0 + k)) (I 20 1))) → P (.inl none) (sD h I2 L2)) → AW l G M_Ve_digestMessage P 0 [(0, vr 170), (1, vr 13), (2, vi 0)] [] (sD h I L) from key _ (fun I2 L2 q1 q2 => ⟨(I2, L2), rfl, rfl, q1, q2⟩)
  intro P hP
  have cb1 : 0 ≤ I 16 1 ∧ I 16 1 ≤ 8192 := cb.1 1 (by decide)
  refine aw_aload_n d_Ve_digestMessage_0 rfl rfl ?_
  refine ax_getR (b := 36) d_Ve_digestMessage_1 fd_Ve_23 (k_170 S) (r_170_0 S) ?_
  refine ax_getR (b := 38) d_Ve_digestMessage_4 fd_Ve_133 (k_36 S) (r_36_1 S) ?_
  refine ax_Vr (st := []) (as := []) (b := 38) d_Ve_digestMessage_7 cs_Ve_digestMessage_7 (k_38 S) (c_Sp_start256 S) rfl rfl rfl (fun u_7 q_7 => ?_)
  obtain ⟨I1, L1⟩ := u_7
  obtain ⟨F1, e1⟩ := q_7
  dsimp only at F1 e1
  show AW l G M_Ve_digestMessage P 10 [(0, vr 170), (1, vr 13), (2, vi 0)] [] (sD h I1 L1)
  refine aw_aload_n d_Ve_digestMessage_10 rfl rfl ?_
  refine ax_getR (b := 36) d_Ve_digestMessage_11 fd_Ve_23 (k_170 S) (r_170_0 S) ?_
  refine ax_getR (b := 38) d_Ve_digestMessage_14 fd_Ve_133 (k_36 S) (r_36_1 S) ?_
  refine aw_aload_n d_Ve_digestMessage_17 rfl rfl ?_
  refine aw_iconst d_Ve_digestMessage_18 ⟨by decide, by decide⟩ ?_
  refine ax_aald (b := 16) d_Ve_digestMessage_19 ⟨by rw [(k_13 S)]; decide, by rw [(k_13 S)]; decide⟩ (by omega) (by rw [n_13 S]; omega) (r_13_1 S) ?_
  refine aw_iconst d_Ve_digestMessage_20 ⟨by decide, by decide⟩ ?_
  refine aw_aload_n d_Ve_digestMessage_21 rfl rfl ?_
  refine aw_iconst d_Ve_digestMessage_22 ⟨by decide, by decide⟩ ?_
  refine ax_aald (b := 16) d_Ve_digestMessage_23 ⟨by rw [(k_13 S)]; decide, by rw [(k_13 S)]; decide⟩ (by omega) (by rw [n_13 S]; omega) (r_13_1 S) ?_
  refine ax_getIe (x := I 16 1) d_Ve_digestMessage_24 fd_Ve_27 (k_16 S) (Eq.trans (F1.1 16 1 (by decide)) (rfl)) ?_
  refine ax_Vr (st := []) (as := [vr 16, vi 0, vi (I 16 1)]) (b := 38) d_Ve_digestMessage_27 cs_Ve_digestMessage_27 (k_38 S) (c_Sp_takePart S (SD.1.sp F1) (by rw [e1]; exact (spStart_lt (by decide) (by decide)).1) (ks S (i := 1) (by decide)) ⟨by decide, by decide⟩ (by rw [F1.1 16 1 (by decide), nks S (i := 1) (by decide)]; omega)) rfl rfl rfl (fun u_27 q_27 => ?_)
  obtain ⟨I2, L2⟩ := u_27
  obtain ⟨F2, e2⟩ := q_27
  dsimp only at F2 e2
  show AW l G M_Ve_digestMessage P 30 [(0, vr 170), (1, vr 13), (2, vi 0)] [] (sD h I2 L2)
  refine aw_aload_n d_Ve_digestMessage_30 rfl rfl ?_
  refine ax_getR (b := 36) d_Ve_digestMessage_31 fd_Ve_23 (k_170 S) (r_170_0 S) ?_
  refine ax_getR (b := 38) d_Ve_digestMessage_34 fd_Ve_133 (k_36 S) (r_36_1 S) ?_
  refine ax_Vr (st := []) (as := []) (b := 38) d_Ve_digestMessage_37 cs_Ve_digestMessage_37 (k_38 S) (c_Sp_turn S ((SD.1.sp F1).sp F2) (by rw [e2, e1]; exact spPart_ok ((spStart_lt (by decide) (by decide)).1) _ _)) rfl rfl rfl (fun u_37 q_37 => ?_)
  obtain ⟨I3, L3⟩ := u_37
  obtain ⟨F3, e3⟩ := q_37
  dsimp only at F3 e3
  show AW l G M_Ve_digestMessage P 40 [(0, vr 170), (1, vr 13), (2, vi 0)] [] (sD h I3 L3)
  have eS : spOf I3 L3 = blS (fun k => byAt I 16 17 (0 + k)) (I 16 1) := by rw [e3, e2, e1, show (fun k => byAt I1 16 (15 + 2 * 1) (0 + k)) = (fun k => byAt I 16 17 (0 + k)) from funext (fun k => byAt_sp F1.1 (by decide) (by decide))]; rfl
  refine aw_aload_n d_Ve_digestMessage_40 rfl rfl ?_
  refine ax_getR (b := 36) d_Ve_digestMessage_41 fd_Ve_23 (k_170 S) (r_170_0 S) ?_
  refine ax_getR (b := 38) d_Ve_digestMessage_44 fd_Ve_133 (k_36 S) (r_36_1 S) ?_
  refine aw_aload_n d_Ve_digestMessage_47 rfl rfl ?_
  refine ax_getR (b := 171) d_Ve_digestMessage_48 fd_Ve_14 (k_170 S) (r_170_1 S) ?_
  refine aw_bipush d_Ve_digestMessage_51 ⟨by decide, by decide⟩ (by decide) ?_
  refine ax_Vr (st := []) (as := [vr 171, vi 64]) (b := 38) d_Ve_digestMessage_53 cs_Ve_digestMessage_53 (k_38 S) (c_Sp_giveTo S (((SD.1.sp F1).sp F2).sp F3) (by rw [eS]; exact blS_ok) ⟨k_171 S, r_171_0 S, k_172 S, by decide, by decide, by decide⟩ ⟨by decide, by decide⟩ (by rw [n_172 S]; omega)) rfl rfl rfl (fun u_53 q_53 => ?_)
  obtain ⟨I9, L9⟩ := u_53
  obtain ⟨F9, f9, e9⟩ := q_53
  dsimp only at F9 f9 e9
  rw [eS] at F9
  have FB := (((F1.tr F2).tr F3).fc).tr (gv_fc F9 f9) (r := fun a => a = 38 ∨ a = 171 ∨ a = 172) (by intro a x; omega)
  have GD := gv_at F9 (by decide) (by decide) (by decide)
  have cb9 : CB I9 := ⟨fun s hs => by rw [FB.1 _ 1 (by omega)]; exact cb.1 s hs, by rw [FB.1 _ 1 (by omega)]; exact cb.2⟩
  show AW l G M_Ve_digestMessage P 56 [(0, vr 170), (1, vr 13), (2, vi 0)] [] (sD h I9 L9)
  refine aw_aload_n d_Ve_digestMessage_56 rfl rfl ?_
  refine ax_getR (b := 36) d_Ve_digestMessage_57 fd_Ve_23 (k_170 S) (r_170_0 S) ?_
  refine aw_aload_n d_Ve_digestMessage_60 rfl rfl ?_
  refine ax_getR (b := 171) d_Ve_digestMessage_61 fd_Ve_14 (k_170 S) (r_170_1 S) ?_
  refine aw_iconst d_Ve_digestMessage_64 ⟨by decide, by decide⟩ ?_
  refine aw_aload_n d_Ve_digestMessage_65 rfl rfl ?_
  refine aw_iload_n d_Ve_digestMessage_66 rfl rfl ?_
  refine ax_Vr (st := []) (as := [vr 171, vi 0, vr 13, vi 0]) (b := 36) d_Ve_digestMessage_67 cs_Ve_digestMessage_67 (k_36 S) (c_Be_digestSigned0 S (SD.fc FB (by intro a x; omega)) ⟨k_171 S, r_171_0 S, k_172 S, by decide, by decide, by decide⟩ (by decide) (by rw [GD.1, n_172 S]; omega) cb9) rfl rfl rfl (fun u_67 q_67 => ?_)
  obtain ⟨I8, L8⟩ := u_67
  obtain ⟨F8, a8, b8⟩ := q_67
  dsimp only at F8 a8 b8
  rw [FB.1 22 1 (by omega), FB.1 20 1 (by omega), show (fun k => byAt I9 22 23 (0 + k)) = (fun k => byAt I 22 23 (0 + k)) from funext (fun k => byAt_fc FB (by omega) (by omega)), show (fun k => byAt I9 20 21 (0 + k)) = (fun k => byAt I 20 21 (0 + k)) from funext (fun k => byAt_fc FB (by omega) (by omega)), dgS_congr (gk' := (spOut (blS (fun k => byAt I 16 17 (0 + k)) (I 16 1)))) (fun k hk => by rw [Int.zero_add, GD.2 k (by omega) (by omega)])] at b8
  show AW l G M_Ve_digestMessage P 70 [(0, vr 170), (1, vr 13), (2, vi 0)] [] (sD h I8 L8)
  exact aw_vret d_Ve_digestMessage_70 rfl (hP _ _ (FB.tr F8 (by intro a x; omega)) ⟨a8, b8⟩)
set_option maxHeartbeats 800000 in
set_option maxRecDepth 100000 in
theorem c_Ve_digestMessageN {l : Launch} {G : a_G} {h : Hp} {I L : Nat → Int → Int} (S : Shp h) (SD : Std I L) (cb : CB I) : AW l G M_Ve_digestMessage (Ret (fun _ : (Nat → Int → Int) × (Nat → Int → Int) => none) (fun u => sD h u.1 u.2) (fun u => FC (fun a => a = 38 ∨ a = 171 ∨ a = 172 ∨ a = 137 ∨ a = 138) I L u.1 u.2 ∧ HB u.1 137 138 64 (spOut (dgS (spOut (blS (fun k => byAt I 16 17 (0 + k)) (I 16 1))) (-1) (fun k => byAt I 22 23 (0 + k)) (I 22 1) (fun k => byAt I 20 21 (0 + k)) (I 20 1))))) 0 (a_ar 0 [vr 170, vr 13, vi (-1)]) [] (sD h I L) := by
  suffices key : ∀ P : a_R → Hp → Prop, (∀ I2 L2, FC (fun a => a = 38 ∨ a = 171 ∨ a = 172 ∨ a = 137 ∨ a = 138) I L I2 L2 → HB I2 137 138 64 (spOut (dgS (spOut (blS (fun k => byAt I 16 17 (0 + k)) (I 16 1))) (-1) (fun k => byAt I 22 23 (0 + k)) (I 22 1) (fun k => byAt I 20 21 (0 + k)) (I 20 1))) → P (.inl none) (sD h I2 L2)) → AW l G M_Ve_digestMessage P 0 [(0, vr 170), (1, vr 13), (2, vi (-1))] [] (sD h I L) from key _ (fun I2 L2 q1 q2 => ⟨(I2, L2), rfl, rfl, q1, q2⟩)
  intro P hP
  have cb1 : 0 ≤ I 16 1 ∧ I 16 1 ≤ 8192 := cb.1 1 (by decide)
  refine aw_aload_n d_Ve_digestMessage_0 rfl rfl ?_
  refine ax_getR (b := 36) d_Ve_digestMessage_1 fd_Ve_23 (k_170 S) (r_170_0 S) ?_
  refine ax_getR (b := 38) d_Ve_digestMessage_4 fd_Ve_133 (k_36 S) (r_36_1 S) ?_
  refine ax_Vr (st := []) (as := []) (b := 38) d_Ve_digestMessage_7 cs_Ve_digestMessage_7 (k_38 S) (c_Sp_start256 S) rfl rfl rfl (fun u_7 q_7 => ?_)
  obtain ⟨I1, L1⟩ := u_7
  obtain ⟨F1, e1⟩ := q_7
  dsimp only at F1 e1
  show AW l G M_Ve_digestMessage P 10 [(0, vr 170), (1, vr 13), (2, vi (-1))] [] (sD h I1 L1)
  refine aw_aload_n d_Ve_digestMessage_10 rfl rfl ?_
  refine ax_getR (b := 36) d_Ve_digestMessage_11 fd_Ve_23 (k_170 S) (r_170_0 S) ?_
  refine ax_getR (b := 38) d_Ve_digestMessage_14 fd_Ve_133 (k_36 S) (r_36_1 S) ?_
  refine aw_aload_n d_Ve_digestMessage_17 rfl rfl ?_
  refine aw_iconst d_Ve_digestMessage_18 ⟨by decide, by decide⟩ ?_
  refine ax_aald (b := 16) d_Ve_digestMessage_19 ⟨by rw [(k_13 S)]; decide, by rw [(k_13 S)]; decide⟩ (by omega) (by rw [n_13 S]; omega) (r_13_1 S) ?_
  refine aw_iconst d_Ve_digestMessage_20 ⟨by decide, by decide⟩ ?_
  refine aw_aload_n d_Ve_digestMessage_21 rfl rfl ?_
  refine aw_iconst d_Ve_digestMessage_22 ⟨by decide, by decide⟩ ?_
  refine ax_aald (b := 16) d_Ve_digestMessage_23 ⟨by rw [(k_13 S)]; decide, by rw [(k_13 S)]; decide⟩ (by omega) (by rw [n_13 S]; omega) (r_13_1 S) ?_
  refine ax_getIe (x := I 16 1) d_Ve_digestMessage_24 fd_Ve_27 (k_16 S) (Eq.trans (F1.1 16 1 (by decide)) (rfl)) ?_
  refine ax_Vr (st := []) (as := [vr 16, vi 0, vi (I 16 1)]) (b := 38) d_Ve_digestMessage_27 cs_Ve_digestMessage_27 (k_38 S) (c_Sp_takePart S (SD.1.sp F1) (by rw [e1]; exact (spStart_lt (by decide) (by decide)).1) (ks S (i := 1) (by decide)) ⟨by decide, by decide⟩ (by rw [F1.1 16 1 (by decide), nks S (i := 1) (by decide)]; omega)) rfl rfl rfl (fun u_27 q_27 => ?_)
  obtain ⟨I2, L2⟩ := u_27
  obtain ⟨F2, e2⟩ := q_27
  dsimp only at F2 e2
  show AW l G M_Ve_digestMessage P 30 [(0, vr 170), (1, vr 13), (2, vi (-1))] [] (sD h I2 L2)
  refine aw_aload_n d_Ve_digestMessage_30 rfl rfl ?_
  refine ax_getR (b := 36) d_Ve_digestMessage_31 fd_Ve_23 (k_170 S) (r_170_0 S) ?_
  refine ax_getR (b := 38) d_Ve_digestMessage_34 fd_Ve_133 (k_36 S) (r_36_1 S) ?_
  refine ax_Vr (st := []) (as := []) (b := 38) d_Ve_digestMessage_37 cs_Ve_digestMessage_37 (k_38 S) (c_Sp_turn S ((SD.1.sp F1).sp F2) (by rw [e2, e1]; exact spPart_ok ((spStart_lt (by decide) (by decide)).1) _ _)) rfl rfl rfl (fun u_37 q_37 => ?_)
  obtain ⟨I3, L3⟩ := u_37
  obtain ⟨F3, e3⟩ := q_37
  dsimp only at F3 e3
  show AW l G M_Ve_digestMessage P 40 [(0, vr 170), (1, vr 13), (2, vi (-1))] [] (sD h I3 L3)
  have eS : spOf I3 L3 = blS (fun k => byAt I 16 17 (0 + k)) (I 16 1) := by rw [e3, e2, e1, show (fun k => byAt I1 16 (15 + 2 * 1) (0 + k)) = (fun k => byAt I 16 17 (0 + k)) from funext (fun k => byAt_sp F1.1 (by decide) (by decide))]; rfl
  refine aw_aload_n d_Ve_digestMessage_40 rfl rfl ?_
  refine ax_getR (b := 36) d_Ve_digestMessage_41 fd_Ve_23 (k_170 S) (r_170_0 S) ?_
  refine ax_getR (b := 38) d_Ve_digestMessage_44 fd_Ve_133 (k_36 S) (r_36_1 S) ?_
  refine aw_aload_n d_Ve_digestMessage_47 rfl rfl ?_
  refine ax_getR (b := 171) d_Ve_digestMessage_48 fd_Ve_14 (k_170 S) (r_170_1 S) ?_
  refine aw_bipush d_Ve_digestMessage_51 ⟨by decide, by decide⟩ (by decide) ?_
  refine ax_Vr (st := []) (as := [vr 171, vi 64]) (b := 38) d_Ve_digestMessage_53 cs_Ve_digestMessage_53 (k_38 S) (c_Sp_giveTo S (((SD.1.sp F1).sp F2).sp F3) (by rw [eS]; exact blS_ok) ⟨k_171 S, r_171_0 S, k_172 S, by decide, by decide, by decide⟩ ⟨by decide, by decide⟩ (by rw [n_172 S]; omega)) rfl rfl rfl (fun u_53 q_53 => ?_)
  obtain ⟨I9, L9⟩ := u_53
  obtain ⟨F9, f9, e9⟩ := q_53
  dsimp only at F9 f9 e9
  rw [eS] at F9
  have FB := (((F1.tr F2).tr F3).fc).tr (gv_fc F9 f9) (r := fun a => a = 38 ∨ a = 171 ∨ a = 172) (by intro a x; omega)
  have GD := gv_at F9 (by decide) (by decide) (by decide)
  have cb9 : CB I9 := ⟨fun s hs => by rw [FB.1 _ 1 (by omega)]; exact cb.1 s hs, by rw [FB.1 _ 1 (by omega)]; exact cb.2⟩
  show AW l G M_Ve_digestMessage P 56 [(0, vr 170), (1, vr 13), (2, vi (-1))] [] (sD h I9 L9)
  refine aw_aload_n d_Ve_digestMessage_56 rfl rfl ?_
  refine ax_getR (b := 36) d_Ve_digestMessage_57 fd_Ve_23 (k_170 S) (r_170_0 S) ?_
  refine aw_aload_n d_Ve_digestMessage_60 rfl rfl ?_
  refine ax_getR (b := 171) d_Ve_digestMessage_61 fd_Ve_14 (k_170 S) (r_170_1 S) ?_
  refine aw_iconst d_Ve_digestMessage_64 ⟨by decide, by decide⟩ ?_
  refine aw_aload_n d_Ve_digestMessage_65 rfl rfl ?_
  refine aw_iload_n d_Ve_digestMessage_66 rfl rfl ?_
  refine ax_Vr (st := []) (as := [vr 171, vi 0, vr 13, vi (-1)]) (b := 36) d_Ve_digestMessage_67 cs_Ve_digestMessage_67 (k_36 S) (c_Be_digestSignedN S (SD.fc FB (by intro a x; omega)) ⟨k_171 S, r_171_0 S, k_172 S, by decide, by decide, by decide⟩ (by decide) (by rw [GD.1, n_172 S]; omega) cb9) rfl rfl rfl (fun u_67 q_67 => ?_)
  obtain ⟨I8, L8⟩ := u_67
  obtain ⟨F8, a8, b8⟩ := q_67
  dsimp only at F8 a8 b8
  rw [FB.1 22 1 (by omega), FB.1 20 1 (by omega), show (fun k => byAt I9 22 23 (0 + k)) = (fun k => byAt I 22 23 (0 + k)) from funext (fun k => byAt_fc FB (by omega) (by omega)), show (fun k => byAt I9 20 21 (0 + k)) = (fun k => byAt I 20 21 (0 + k)) from funext (fun k => byAt_fc FB (by omega) (by omega)), dgS_congr (gk' := (spOut (blS (fun k => byAt I 16 17 (0 + k)) (I 16 1)))) (fun k hk => by rw [Int.zero_add, GD.2 k (by omega) (by omega)])] at b8
  show AW l G M_Ve_digestMessage P 70 [(0, vr 170), (1, vr 13), (2, vi (-1))] [] (sD h I8 L8)
  exact aw_vret d_Ve_digestMessage_70 rfl (hP _ _ (FB.tr F8 (by intro a x; omega)) ⟨a8, b8⟩)
theorem rowTo_nx {I : Nat → Int → Int} {f : Nat} {n j : Int} {g : Int → Int} (h : n ≤ j) : rowTo I f n g f j = I f j := by
  unfold rowTo
  rw [if_neg (by omega)]
set_option maxHeartbeats 800000 in
set_option maxRecDepth 100000 in
theorem c_Ve_readTop {l : Launch} {G : a_G} {h : Hp} {I L : Nat → Int → Int} {i : Int} (S : Shp h) (SD : Std I L) (hc0 : I 16 1 ≤ 8192 ∧ 0 ≤ i ∧ i < 8) : AW l G M_Ve_readTop (Ret (fun _ : Nat → Int → Int => none) (fun K => sD h K L) (fun K => FC (fun a => a = 136) I L K L ∧ eqQ (K 136) (fwd rt (tpF (byAt I 16 17) i)))) 0 (a_ar 0 [vr 170, vr 16, vi i]) [] (sD h I L) := by
  suffices key : ∀ P : a_R → Hp → Prop, (∀ K : Nat → Int → Int, FC (fun a => a = 136) I L K L → eqQ (K 136) (fwd rt (tpF (byAt I 16 17) i)) → P (.inl none) (sD h K L)) → AW l G M_Ve_readTop P 0 [(0, vr 170), (1, vr 16), (2, vi i)] [] (sD h I L) from key _ (fun K q1 q2 => ⟨K, rfl, rfl, q1, q2⟩)
  intro P hP
  refine aw_bipush d_Ve_readTop_0 ⟨by decide, by decide⟩ (by decide) ?_
  refine aw_iload_n d_Ve_readTop_2 rfl rfl ?_
  refine aw_bipush d_Ve_readTop_3 ⟨by decide, by decide⟩ (by decide) ?_
  refine ax_S (st := [vi i, vi 32]) (as := [vi 10]) (v := some (vi (32 * 10))) (h' := sD h I L) d_Ve_readTop_5 cs_Ve_readTop_5 (c_Ri_packedSize (by omega)) rfl rfl rfl ?_
  show AW l G M_Ve_readTop P 8 [(0, vr 170), (1, vr 16), (2, vi i)] [vi (32 * 10), vi i, vi 32] (sD h I L)
  refine ax_imul d_Ve_readTop_8 ⟨(by omega), (by omega)⟩ ?_
  refine ax_iadd d_Ve_readTop_9 ⟨(by omega), (by omega)⟩ ?_
  refine aw_istore_n (lv' := [(3, vi (32 + (i * (32 * 10)))), (0, vr 170), (1, vr 16), (2, vi i)]) d_Ve_readTop_10 rfl (by decide) rfl ?_
  refine aw_aload_n d_Ve_readTop_11 rfl rfl ?_
  refine aw_iload_n d_Ve_readTop_12 rfl rfl ?_
  refine aw_bipush d_Ve_readTop_13 ⟨by decide, by decide⟩ (by decide) ?_
  refine aw_aload_n d_Ve_readTop_15 rfl rfl ?_
  refine ax_getR (b := 36) d_Ve_readTop_16 fd_Ve_23 (k_170 S) (r_170_0 S) ?_
  refine ax_getR (b := 136) d_Ve_readTop_19 fd_Ve_186 (k_36 S) (r_36_9 S) ?_
  refine ax_V (st := []) (as := [vi (32 + (i * (32 * 10))), vi 10, vr 136]) (b := 16) (v := none) (h' := sD h (rowTo I 136 256 (gR (fun k => byAt I 16 17 (32 + i * (32 * 10) + k)) 10)) L) d_Ve_readTop_22 cs_Ve_readTop_22 (k_16 S) (c_By_readBits (w := 10) (ks S (i := 1) (by decide)) ⟨k_136 S, by decide, n_136 S, by decide, by decide⟩ (by decide) (by rw [nks S (i := 1) (by decide)]; omega)) rfl rfl rfl ?_
  show AW l G M_Ve_readTop P 25 [(3, vi (32 + (i * (32 * 10)))), (0, vr 170), (1, vr 16), (2, vi i)] [] (sD h (rowTo I 136 256 (gR (fun k => byAt I 16 17 (32 + i * (32 * 10) + k)) 10)) L)
  refine aw_iconst d_Ve_readTop_25 ⟨by decide, by decide⟩ ?_
  refine aw_istore (lv' := [(4, vi 0), (3, vi (32 + (i * (32 * 10)))), (0, vr 170), (1, vr 16), (2, vi i)]) d_Ve_readTop_26 (by decide) rfl ?_
  have lp_28 : ∀ (n_ : Nat) (c : Int), (0 ≤ c ∧ c ≤ 256) → ((256 - c).toNat) = n_ → AW l G M_Ve_readTop P 28 [(4, vi c), (3, vi (32 + i * (32 * 10))), (2, vi i), (1, vr 16), (0, vr 170)] [] (sD h (rowTo (rowTo I 136 256 (gR (fun k => byAt I 16 17 (32 + i * (32 * 10) + k)) 10)) 136 c (tpF (byAt I 16 17) i)) L) := by
    intro n_
    induction n_ using Nat.strongRecOn with
    | _ n_ ih_28 =>
    intro c hc hm_28
    refine aw_iload d_Ve_readTop_28 rfl ?_
    refine aw_sipush d_Ve_readTop_30 ⟨by decide, by decide⟩ (by decide) ?_
    refine aw_icmp_ge (tgt := 57) d_Ve_readTop_33 (by decide) (fun c_33 => ?_) (fun c_33 => ?_)
    · skip
      rw [show c = 256 by omega]
      refine aw_aload_n d_Ve_readTop_57 rfl rfl ?_
      refine ax_getR (b := 36) d_Ve_readTop_58 fd_Ve_23 (k_170 S) (r_170_0 S) ?_
      refine ax_getR (b := 42) d_Ve_readTop_61 fd_Ve_168 (k_36 S) (r_36_2 S) ?_
      refine aw_aload_n d_Ve_readTop_64 rfl rfl ?_
      refine ax_getR (b := 36) d_Ve_readTop_65 fd_Ve_23 (k_170 S) (r_170_0 S) ?_
      refine ax_getR (b := 136) d_Ve_readTop_68 fd_Ve_186 (k_36 S) (r_36_9 S) ?_
      refine ax_V (st := []) (as := [vr 136]) (b := 42) (v := none) (h' := sD h (cset (rowTo (rowTo I 136 256 (gR (fun k => byAt I 16 17 (32 + i * (32 * 10) + k)) 10)) 136 256 (tpF (byAt I 16 17) i)) 136 (fwd ((rowTo (rowTo I 136 256 (gR (fun k => byAt I 16 17 (32 + i * (32 * 10) + k)) 10)) 136 256 (tpF (byAt I 16 17) i)) 43) ((rowTo (rowTo I 136 256 (gR (fun k => byAt I 16 17 (32 + i * (32 * 10) + k)) 10)) 136 256 (tpF (byAt I 16 17) i)) 136))) L) d_Ve_readTop_71 cs_Ve_readTop_71 (k_42 S) (c_Ri_forward S ⟨k_136 S, by decide, n_136 S⟩ (by decide) (fun j x y => by rw [rowTo_in x y]; exact tpF_in j x y) (fun j x y => by rw [rowTo_ne (by decide), rowTo_ne (by decide)]; exact SD.R j x y)) rfl rfl rfl ?_
      show AW l G M_Ve_readTop P 74 [(4, vi 256), (3, vi (32 + i * (32 * 10))), (2, vi i), (1, vr 16), (0, vr 170)] [] (sD h (cset (rowTo (rowTo I 136 256 (gR (fun k => byAt I 16 17 (32 + i * (32 * 10) + k)) 10)) 136 256 (tpF (byAt I 16 17) i)) 136 (fwd ((rowTo (rowTo I 136 256 (gR (fun k => byAt I 16 17 (32 + i * (32 * 10) + k)) 10)) 136 256 (tpF (byAt I 16 17) i)) 43) ((rowTo (rowTo I 136 256 (gR (fun k => byAt I 16 17 (32 + i * (32 * 10) + k)) 10)) 136 256 (tpF (byAt I 16 17) i)) 136))) L)
      exact aw_vret d_Ve_readTop_74 rfl (hP _ (((FC.row (p := fun a => a = 136) rfl).tr (FC.row (p := fun a => a = 136) rfl) (fun a x => ⟨x, x⟩)).tr (FC.cs (p := fun a => a = 136) rfl) (fun a x => ⟨x, x⟩)) (fun j x y => by rw [cset_at, show (rowTo (rowTo I 136 256 (gR (fun k => byAt I 16 17 (32 + i * (32 * 10) + k)) 10)) 136 256 (tpF (byAt I 16 17) i)) 43 = rt from by rw [← SD.2.2]; funext z; rw [rowTo_ne (by decide), rowTo_ne (by decide)]]; exact fwd_eq (fun z u v => rowTo_in u v) j x y))
    · skip
      have rc : (rowTo (rowTo I 136 256 (gR (fun k => byAt I 16 17 (32 + i * (32 * 10) + k)) 10)) 136 c (tpF (byAt I 16 17) i)) 136 c = gR (fun k => byAt I 16 17 (32 + i * (32 * 10) + k)) 10 c := by rw [rowTo_nx (by omega)]; exact rowTo_in hc.1 (by omega)
      have tc := tpF_in (g := byAt I 16 17) (i := i) c hc.1 (by omega)
      have tv : gR (fun k => byAt I 16 17 (32 + i * (32 * 10) + k)) 10 c * 8192 = tpF (byAt I 16 17) i c := by unfold tpF; rw [show i * (32 * 10) = 320 * i by omega]
      refine aw_aload_n d_Ve_readTop_36 rfl rfl ?_
      refine ax_getR (b := 36) d_Ve_readTop_37 fd_Ve_23 (k_170 S) (r_170_0 S) ?_
      refine ax_getR (b := 136) d_Ve_readTop_40 fd_Ve_186 (k_36 S) (r_36_9 S) ?_
      refine aw_iload d_Ve_readTop_43 rfl ?_
      refine aw_dup2 d_Ve_readTop_45 rfl rfl ?_
      refine ax_ialde (x := gR (fun k => byAt I 16 17 (32 + i * (32 * 10) + k)) 10 c) d_Ve_readTop_46 (k_136 S) (by omega) (by rw [n_136 S]; omega) (rc) ?_
      refine aw_bipush d_Ve_readTop_47 ⟨by decide, by decide⟩ (by decide) ?_
      refine aw_ishl d_Ve_readTop_49 ?_
      refine ax_ti (x := tpF (byAt I 16 17) i c) ((a_shl' 13 rfl (by decide) (by decide) (by omega) (by omega)).trans tv) ?_
      refine ax_iast d_Ve_readTop_50 (k_136 S) (by decide) (by omega) (by rw [n_136 S]; omega) ?_
      rw [rowTo_1 (by omega) rfl]
      refine ax_iinc (lv' := [(4, vi (c + 1)), (3, vi (32 + i * (32 * 10))), (2, vi i), (1, vr 16), (0, vr 170)]) d_Ve_readTop_51 rfl (by decide) ⟨(by omega), (by omega)⟩ rfl ?_
      refine aw_goto (tgt := 28) d_Ve_readTop_54 (by decide) ?_
      exact ih_28 _ (by omega) (c + 1) (by omega) rfl
  refine ax_hp (h' := sD h (rowTo (rowTo I 136 256 (gR (fun k => byAt I 16 17 (32 + i * (32 * 10) + k)) 10)) 136 0 (tpF (byAt I 16 17) i)) L) (by rw [rowTo_0]) ?_
  refine aw_sub (lv' := [(4, vi 0), (3, vi (32 + (i * (32 * 10)))), (2, vi i), (1, vr 16), (0, vr 170)]) (by simp) ?_
  exact lp_28 _ 0 (by omega) rfl
set_option maxHeartbeats 800000 in
set_option maxRecDepth 100000 in
theorem c_Ve_hintsStart0 {l : Launch} {G : a_G} {h : Hp} {I L : Nat → Int → Int} (S : Shp h) (PD : ParD I) : AW l G M_Ve_hintsStart (Rx (some (vi 2336)) (sD h I L)) 0 (a_ar 0 [vr 33]) [] (sD h I L) := by
  suffices key : ∀ P : a_R → Hp → Prop, (P (.inl (some (vi 2336))) (sD h I L)) → AW l G M_Ve_hintsStart P 0 [(0, vr 33)] [] (sD h I L) from key _ (⟨rfl, rfl⟩)
  intro P hP
  refine aw_aload_n d_Ve_hintsStart_0 rfl rfl ?_
  refine ax_getIe (x := 2420) d_Ve_hintsStart_1 fd_Ve_31 (k_33 S) (pc_33_15 PD) ?_
  refine aw_aload_n d_Ve_hintsStart_4 rfl rfl ?_
  refine ax_getIe (x := 80) d_Ve_hintsStart_5 fd_Ve_78 (k_33 S) (pc_33_6 PD) ?_
  refine ax_isub d_Ve_hintsStart_8 ⟨(by omega), (by omega)⟩ ?_
  refine ax_ti (x := 2340) (by decide) ?_
  refine aw_aload_n d_Ve_hintsStart_9 rfl rfl ?_
  refine ax_getIe (x := 4) d_Ve_hintsStart_10 fd_Ve_81 (k_33 S) (pc_33_0 PD) ?_
  refine ax_isub d_Ve_hintsStart_13 ⟨(by omega), (by omega)⟩ ?_
  refine ax_ti (x := 2336) (by decide) ?_
  exact aw_iret d_Ve_hintsStart_14 rfl hP
set_option maxHeartbeats 800000 in
set_option maxRecDepth 100000 in
theorem c_Ve_hintsEnd0 {l : Launch} {G : a_G} {h : Hp} {I L : Nat → Int → Int} {i : Int} (S : Shp h) (PD : ParD I) (hc : I 24 1 ≤ 8192 ∧ -10 < i ∧ i < 100) : AW l G M_Ve_hintsEnd (Rx (some (vi (hEn (byAt I 24 25) 2416 i))) (sD h I L)) 0 (a_ar 0 [vr 24, vr 33, vi i]) [] (sD h I L) := by
  suffices key : ∀ P : a_R → Hp → Prop, (P (.inl (some (vi (hEn (byAt I 24 25) 2416 i)))) (sD h I L)) → AW l G M_Ve_hintsEnd P 0 [(0, vr 24), (1, vr 33), (2, vi i)] [] (sD h I L) from key _ (⟨rfl, rfl⟩)
  intro P hP
  refine aw_iload_n d_Ve_hintsEnd_0 rfl rfl ?_
  refine aw_if_ge (tgt := 8) d_Ve_hintsEnd_1 (by decide) (fun c_1 => ?_) (fun c_1 => ?_)
  · skip
    refine aw_aload_n d_Ve_hintsEnd_8 rfl rfl ?_
    refine aw_aload_n d_Ve_hintsEnd_9 rfl rfl ?_
    refine ax_S (st := [vr 24]) (as := [vr 33]) (v := some (vi 2336)) (h' := sD h I L) d_Ve_hintsEnd_10 cs_Ve_hintsEnd_10 (c_Ve_hintsStart0 S PD) rfl rfl rfl ?_
    show AW l G M_Ve_hintsEnd P 13 [(0, vr 24), (1, vr 33), (2, vi i)] [vi 2336, vr 24] (sD h I L)
    refine aw_aload_n d_Ve_hintsEnd_13 rfl rfl ?_
    refine ax_getIe (x := 80) d_Ve_hintsEnd_14 fd_Ve_78 (k_33 S) (pc_33_6 PD) ?_
    refine ax_iadd d_Ve_hintsEnd_17 ⟨(by omega), (by omega)⟩ ?_
    refine ax_ti (x := 2416) (by decide) ?_
    refine aw_iload_n d_Ve_hintsEnd_18 rfl rfl ?_
    refine ax_iadd d_Ve_hintsEnd_19 ⟨(by omega), (by omega)⟩ ?_
    refine ax_V (st := []) (as := [vi (2416 + i)]) (b := 24) (v := some (vi (byAt I 24 25 (2416 + i)))) (h' := sD h I L) d_Ve_hintsEnd_20 cs_Ve_hintsEnd_20 (k_24 S) (c_By_at (ks S (i := 5) (by decide)) (by rw [nks S (i := 5) (by decide)]; omega) rfl) rfl rfl rfl ?_
    show AW l G M_Ve_hintsEnd P 23 [(0, vr 24), (1, vr 33), (2, vi i)] [vi (byAt I 24 25 (2416 + i))] (sD h I L)
    exact aw_iret d_Ve_hintsEnd_23 rfl (by rw [show byAt I 24 25 (2416 + i) = hEn (byAt I 24 25) 2416 i from by unfold hEn; rw [if_neg (by omega)]]; exact hP)
  · skip
    refine aw_iconst d_Ve_hintsEnd_4 ⟨by decide, by decide⟩ ?_
    refine aw_goto (tgt := 23) d_Ve_hintsEnd_5 (by decide) ?_
    exact aw_iret d_Ve_hintsEnd_23 rfl (by rw [show 0 = hEn (byAt I 24 25) 2416 i from by unfold hEn; rw [if_pos (by omega)]]; exact hP)
set_option maxHeartbeats 800000 in
set_option maxRecDepth 100000 in
theorem c_Ve_hintsStand0 {l : Launch} {G : a_G} {h : Hp} {I L : Nat → Int → Int} (S : Shp h) (PD : ParD I) (hc : I 24 1 ≤ 8192) : AW l G M_Ve_hintsStand (Ret (fun u : Int => some (vi u)) (fun _ => sD h I L) (fun u => (u = 0 ∨ u = 1) ∧ (u = 1 ↔ hSt (byAt I 24 25) 2336 80 4))) 0 (a_ar 0 [vr 24, vr 33]) [] (sD h I L) := by
  suffices key : ∀ P : a_R → Hp → Prop, (∀ v : Int, (v = 0 ∨ v = 1) → (v = 1 ↔ hSt (byAt I 24 25) 2336 80 4) → P (.inl (some (vi v))) (sD h I L)) → AW l G M_Ve_hintsStand P 0 [(0, vr 24), (1, vr 33)] [] (sD h I L) from key _ (fun v q1 q2 => ⟨v, rfl, rfl, q1, q2⟩)
  intro P hP
  refine aw_iconst d_Ve_hintsStand_0 ⟨by decide, by decide⟩ ?_
  refine aw_istore_n (lv' := [(2, vi 0), (0, vr 24), (1, vr 33)]) d_Ve_hintsStand_1 rfl (by decide) rfl ?_
  have lp_2 : ∀ (n_ : Nat) (i : Int), (0 ≤ i ∧ i ≤ 4) → (∀ m, 0 ≤ m → m < i → hEn (byAt I 24 25) 2416 (m - 1) ≤ hEn (byAt I 24 25) 2416 m ∧ hEn (byAt I 24 25) 2416 m ≤ 80 ∧ rises (byAt I 24 25) (2336 + hEn (byAt I 24 25) 2416 (m - 1)) (2336 + hEn (byAt I 24 25) 2416 m)) → ((4 - i).toNat) = n_ → AW l G M_Ve_hintsStand P 2 [(2, vi i), (1, vr 33), (0, vr 24)] [] (sD h I L) := by
    intro n_
    induction n_ using Nat.strongRecOn with
    | _ n_ ih_2 =>
    intro i hi gg hm_2
    have b1 := hEn_b (o4 := 2416) (i := i - 1) (fun i => byAt_b (I := I) (b := 24) (r := 25) (i := i))
    have b2 := hEn_b (o4 := 2416) (i := i) (fun i => byAt_b (I := I) (b := 24) (r := 25) (i := i))
    have b3 := hEn_b (o4 := 2416) (i := 3) (fun i => byAt_b (I := I) (b := 24) (r := 25) (i := i))
    refine aw_iload_n d_Ve_hintsStand_2 rfl rfl ?_
    refine aw_aload_n d_Ve_hintsStand_3 rfl rfl ?_
    refine ax_getIe (x := 4) d_Ve_hintsStand_4 fd_Ve_81 (k_33 S) (pc_33_0 PD) ?_
    refine aw_icmp_ge (tgt := 70) d_Ve_hintsStand_7 (by decide) (fun c_7 => ?_) (fun c_7 => ?_)
    · skip
      refine aw_aload_n d_Ve_hintsStand_70 rfl rfl ?_
      refine aw_aload_n d_Ve_hintsStand_71 rfl rfl ?_
      refine aw_aload_n d_Ve_hintsStand_72 rfl rfl ?_
      refine ax_getIe (x := 4) d_Ve_hintsStand_73 fd_Ve_81 (k_33 S) (pc_33_0 PD) ?_
      refine aw_iconst d_Ve_hintsStand_76 ⟨by decide, by decide⟩ ?_
      refine ax_isub d_Ve_hintsStand_77 ⟨(by omega), (by omega)⟩ ?_
      refine ax_ti (x := 3) (by decide) ?_
      refine ax_S (st := []) (as := [vr 24, vr 33, vi 3]) (v := some (vi (hEn (byAt I 24 25) 2416 3))) (h' := sD h I L) d_Ve_hintsStand_78 cs_Ve_hintsStand_78 (c_Ve_hintsEnd0 S PD (by omega)) rfl rfl rfl ?_
      show AW l G M_Ve_hintsStand P 81 [(2, vi i), (1, vr 33), (0, vr 24)] [vi (hEn (byAt I 24 25) 2416 3)] (sD h I L)
      refine aw_istore_n (lv' := [(2, vi (hEn (byAt I 24 25) 2416 3)), (1, vr 33), (0, vr 24)]) d_Ve_hintsStand_81 rfl (by decide) rfl ?_
      have lp_82 : ∀ (n_ : Nat) (x : Int), (hEn (byAt I 24 25) 2416 3 ≤ x ∧ 0 ≤ x ∧ x ≤ 256) → (∀ y, hEn (byAt I 24 25) 2416 3 ≤ y → y < x → byAt I 24 25 (2336 + y) = 0) → ((80 - x).toNat) = n_ → AW l G M_Ve_hintsStand P 82 [(2, vi x), (1, vr 33), (0, vr 24)] [] (sD h I L) := by
        intro n_
        induction n_ using Nat.strongRecOn with
        | _ n_ ih_82 =>
        intro x hx zz hm_82
        refine aw_iload_n d_Ve_hintsStand_82 rfl rfl ?_
        refine aw_aload_n d_Ve_hintsStand_83 rfl rfl ?_
        refine ax_getIe (x := 80) d_Ve_hintsStand_84 fd_Ve_78 (k_33 S) (pc_33_6 PD) ?_
        refine aw_icmp_ge (tgt := 111) d_Ve_hintsStand_87 (by decide) (fun c_87 => ?_) (fun c_87 => ?_)
        · skip
          refine aw_iconst d_Ve_hintsStand_111 ⟨by decide, by decide⟩ ?_
          exact aw_zret d_Ve_hintsStand_112 rfl ⟨by decide, by decide⟩ (hP _ (Or.inr rfl) ⟨fun _ => ⟨fun m a b => gg m a (by omega), fun y a b => zz y a (by omega)⟩, fun _ => rfl⟩)
        · skip
          refine aw_aload_n d_Ve_hintsStand_90 rfl rfl ?_
          refine aw_aload_n d_Ve_hintsStand_91 rfl rfl ?_
          refine ax_S (st := [vr 24]) (as := [vr 33]) (v := some (vi 2336)) (h' := sD h I L) d_Ve_hintsStand_92 cs_Ve_hintsStand_92 (c_Ve_hintsStart0 S PD) rfl rfl rfl ?_
          show AW l G M_Ve_hintsStand P 95 [(2, vi x), (1, vr 33), (0, vr 24)] [vi 2336, vr 24] (sD h I L)
          refine aw_iload_n d_Ve_hintsStand_95 rfl rfl ?_
          refine ax_iadd d_Ve_hintsStand_96 ⟨(by omega), (by omega)⟩ ?_
          refine ax_V (st := []) (as := [vi (2336 + x)]) (b := 24) (v := some (vi (byAt I 24 25 (2336 + x)))) (h' := sD h I L) d_Ve_hintsStand_97 cs_Ve_hintsStand_97 (k_24 S) (c_By_at (ks S (i := 5) (by decide)) (by rw [nks S (i := 5) (by decide)]; omega) rfl) rfl rfl rfl ?_
          show AW l G M_Ve_hintsStand P 100 [(2, vi x), (1, vr 33), (0, vr 24)] [vi (byAt I 24 25 (2336 + x))] (sD h I L)
          refine aw_if_eq (tgt := 105) d_Ve_hintsStand_100 (by decide) (fun c_100 => ?_) (fun c_100 => ?_)
          · skip
            refine ax_iinc (lv' := [(2, vi (x + 1)), (1, vr 33), (0, vr 24)]) d_Ve_hintsStand_105 rfl (by decide) ⟨(by omega), (by omega)⟩ rfl ?_
            refine aw_goto (tgt := 82) d_Ve_hintsStand_108 (by decide) ?_
            exact ih_82 _ (by omega) (x + 1) (by omega) (fun y a b => by by_cases z : y = x; exact (by rw [z]; omega); exact zz y a (by omega)) rfl
          · skip
            refine aw_iconst d_Ve_hintsStand_103 ⟨by decide, by decide⟩ ?_
            exact aw_zret d_Ve_hintsStand_104 rfl ⟨by decide, by decide⟩ (hP _ (Or.inl rfl) ⟨fun z => absurd z (by decide), fun z => by have y := z.2 x (by have := hx.1; exact this) (by omega); omega⟩)
      exact lp_82 _ (hEn (byAt I 24 25) 2416 3) (by omega) (fun y a b => by omega) rfl
    · skip
      refine aw_aload_n d_Ve_hintsStand_10 rfl rfl ?_
      refine aw_aload_n d_Ve_hintsStand_11 rfl rfl ?_
      refine aw_iload_n d_Ve_hintsStand_12 rfl rfl ?_
      refine aw_iconst d_Ve_hintsStand_13 ⟨by decide, by decide⟩ ?_
      refine ax_isub d_Ve_hintsStand_14 ⟨(by omega), (by omega)⟩ ?_
      refine ax_S (st := []) (as := [vr 24, vr 33, vi (i - 1)]) (v := some (vi (hEn (byAt I 24 25) 2416 (i - 1)))) (h' := sD h I L) d_Ve_hintsStand_15 cs_Ve_hintsStand_15 (c_Ve_hintsEnd0 S PD (by omega)) rfl rfl rfl ?_
      show AW l G M_Ve_hintsStand P 18 [(2, vi i), (1, vr 33), (0, vr 24)] [vi (hEn (byAt I 24 25) 2416 (i - 1))] (sD h I L)
      refine aw_istore_n (lv' := [(3, vi (hEn (byAt I 24 25) 2416 (i - 1))), (2, vi i), (1, vr 33), (0, vr 24)]) d_Ve_hintsStand_18 rfl (by decide) rfl ?_
      refine aw_aload_n d_Ve_hintsStand_19 rfl rfl ?_
      refine aw_aload_n d_Ve_hintsStand_20 rfl rfl ?_
      refine aw_iload_n d_Ve_hintsStand_21 rfl rfl ?_
      refine ax_S (st := []) (as := [vr 24, vr 33, vi i]) (v := some (vi (hEn (byAt I 24 25) 2416 i))) (h' := sD h I L) d_Ve_hintsStand_22 cs_Ve_hintsStand_22 (c_Ve_hintsEnd0 S PD (by omega)) rfl rfl rfl ?_
      show AW l G M_Ve_hintsStand P 25 [(3, vi (hEn (byAt I 24 25) 2416 (i - 1))), (2, vi i), (1, vr 33), (0, vr 24)] [vi (hEn (byAt I 24 25) 2416 i)] (sD h I L)
      refine aw_istore (lv' := [(4, vi (hEn (byAt I 24 25) 2416 i)), (3, vi (hEn (byAt I 24 25) 2416 (i - 1))), (2, vi i), (1, vr 33), (0, vr 24)]) d_Ve_hintsStand_25 (by decide) rfl ?_
      refine aw_iload d_Ve_hintsStand_27 rfl ?_
      refine aw_iload_n d_Ve_hintsStand_29 rfl rfl ?_
      refine aw_icmp_lt (tgt := 62) d_Ve_hintsStand_30 (by decide) (fun c_30 => ?_) (fun c_30 => ?_)
      · skip
        refine aw_iconst d_Ve_hintsStand_62 ⟨by decide, by decide⟩ ?_
        exact aw_zret d_Ve_hintsStand_63 rfl ⟨by decide, by decide⟩ (hP _ (Or.inl rfl) ⟨fun z => absurd z (by decide), fun z => by have y := z.1 i hi.1 (by omega); rw [show (2336 + 80 : Int) = 2416 from rfl] at y; omega⟩)
      · skip
        refine aw_iload d_Ve_hintsStand_33 rfl ?_
        refine aw_aload_n d_Ve_hintsStand_35 rfl rfl ?_
        refine ax_getIe (x := 80) d_Ve_hintsStand_36 fd_Ve_78 (k_33 S) (pc_33_6 PD) ?_
        refine aw_icmp_gt (tgt := 62) d_Ve_hintsStand_39 (by decide) (fun c_39 => ?_) (fun c_39 => ?_)
        · skip
          refine aw_iconst d_Ve_hintsStand_62 ⟨by decide, by decide⟩ ?_
          exact aw_zret d_Ve_hintsStand_63 rfl ⟨by decide, by decide⟩ (hP _ (Or.inl rfl) ⟨fun z => absurd z (by decide), fun z => by have y := z.1 i hi.1 (by omega); rw [show (2336 + 80 : Int) = 2416 from rfl] at y; omega⟩)
        · skip
          refine aw_aload_n d_Ve_hintsStand_42 rfl rfl ?_
          refine aw_aload_n d_Ve_hintsStand_43 rfl rfl ?_
          refine ax_S (st := [vr 24]) (as := [vr 33]) (v := some (vi 2336)) (h' := sD h I L) d_Ve_hintsStand_44 cs_Ve_hintsStand_44 (c_Ve_hintsStart0 S PD) rfl rfl rfl ?_
          show AW l G M_Ve_hintsStand P 47 [(4, vi (hEn (byAt I 24 25) 2416 i)), (3, vi (hEn (byAt I 24 25) 2416 (i - 1))), (2, vi i), (1, vr 33), (0, vr 24)] [vi 2336, vr 24] (sD h I L)
          refine aw_iload_n d_Ve_hintsStand_47 rfl rfl ?_
          refine ax_iadd d_Ve_hintsStand_48 ⟨(by omega), (by omega)⟩ ?_
          refine aw_aload_n d_Ve_hintsStand_49 rfl rfl ?_
          refine ax_S (st := [vi (2336 + (hEn (byAt I 24 25) 2416 (i - 1))), vr 24]) (as := [vr 33]) (v := some (vi 2336)) (h' := sD h I L) d_Ve_hintsStand_50 cs_Ve_hintsStand_50 (c_Ve_hintsStart0 S PD) rfl rfl rfl ?_
          show AW l G M_Ve_hintsStand P 53 [(4, vi (hEn (byAt I 24 25) 2416 i)), (3, vi (hEn (byAt I 24 25) 2416 (i - 1))), (2, vi i), (1, vr 33), (0, vr 24)] [vi 2336, vi (2336 + (hEn (byAt I 24 25) 2416 (i - 1))), vr 24] (sD h I L)
          refine aw_iload d_Ve_hintsStand_53 rfl ?_
          refine ax_iadd d_Ve_hintsStand_55 ⟨(by omega), (by omega)⟩ ?_
          refine ax_Sr (st := []) (as := [vr 24, vi (2336 + (hEn (byAt I 24 25) 2416 (i - 1))), vi (2336 + (hEn (byAt I 24 25) 2416 i))]) d_Ve_hintsStand_56 cs_Ve_hintsStand_56 (c_Ve_placesRise (ks S (i := 5) (by decide)) (by rw [nks S (i := 5) (by decide)]; omega)) rfl rfl rfl (fun u_56 q_56 => ?_)
          obtain ⟨ro, rr⟩ := q_56
          show AW l G M_Ve_hintsStand P 59 [(4, vi (hEn (byAt I 24 25) 2416 i)), (3, vi (hEn (byAt I 24 25) 2416 (i - 1))), (2, vi i), (1, vr 33), (0, vr 24)] [vi u_56] (sD h I L)
          refine aw_if_ne (tgt := 64) d_Ve_hintsStand_59 (by decide) (fun c_59 => ?_) (fun c_59 => ?_)
          · skip
            refine ax_iinc (lv' := [(2, vi (i + 1)), (4, vi (hEn (byAt I 24 25) 2416 i)), (3, vi (hEn (byAt I 24 25) 2416 (i - 1))), (1, vr 33), (0, vr 24)]) d_Ve_hintsStand_64 rfl (by decide) ⟨(by omega), (by omega)⟩ rfl ?_
            refine aw_goto (tgt := 2) d_Ve_hintsStand_67 (by decide) ?_
            refine aw_sub (lv' := [(2, vi (i + 1)), (1, vr 33), (0, vr 24)]) (by simp) ?_
            exact ih_2 _ (by omega) (i + 1) (by omega) (fun m a b => by by_cases z : m = i; exact (by rw [z]; exact ⟨by omega, by omega, rr.1 (by omega)⟩); exact gg m a (by omega)) rfl
          · skip
            refine aw_iconst d_Ve_hintsStand_62 ⟨by decide, by decide⟩ ?_
            exact aw_zret d_Ve_hintsStand_63 rfl ⟨by decide, by decide⟩ (hP _ (Or.inl rfl) ⟨fun z => absurd z (by decide), fun z => by have y := z.1 i hi.1 (by omega); rw [show (2336 + 80 : Int) = 2416 from rfl] at y; have := rr.2 y.2.2; omega⟩)
  refine aw_sub (lv' := [(2, vi 0), (1, vr 33), (0, vr 24)]) (by simp) ?_
  exact lp_2 _ 0 (by omega) (fun m a b => by omega) rfl
set_option maxHeartbeats 800000 in
set_option maxRecDepth 100000 in
theorem c_Ve_answersHide0 {l : Launch} {G : a_G} {h : Hp} {I L : Nat → Int → Int} (S : Shp h) (SD : Std I L) (hc : I 24 1 ≤ 8192) : AW l G M_Ve_answersHide (Ret (fun u : Int × (Nat → Int → Int) => some (vi u.1)) (fun u => sD h u.2 L) (fun u => FC (fun a => 119 ≤ a ∧ a ≤ 125) I L u.2 L ∧ ((u.1 = 1 ∧ (∀ m, 0 ≤ m → m < 4 → wiN 130994 (mirF (byAt I 24 25) (32 + 576 * m) 18 131072)) ∧ ∀ m, 0 ≤ m → m < 4 → eqQ (u.2 (119 + m.toNat)) (mirF (byAt I 24 25) (32 + 576 * m) 18 131072)) ∨ (u.1 = 0 ∧ ¬ ∀ m, 0 ≤ m → m < 4 → wiN 130994 (mirF (byAt I 24 25) (32 + 576 * m) 18 131072))))) 0 (a_ar 0 [vr 170, vr 24, vr 33]) [] (sD h I L) := by
  suffices key : ∀ P : a_R → Hp → Prop, (∀ (v_ : Int) (K_ : Nat → Int → Int), FC (fun a => 119 ≤ a ∧ a ≤ 125) I L K_ L ∧ ((v_ = 1 ∧ (∀ m, 0 ≤ m → m < 4 → wiN 130994 (mirF (byAt I 24 25) (32 + 576 * m) 18 131072)) ∧ ∀ m, 0 ≤ m → m < 4 → eqQ (K_ (119 + m.toNat)) (mirF (byAt I 24 25) (32 + 576 * m) 18 131072)) ∨ (v_ = 0 ∧ ¬ ∀ m, 0 ≤ m → m < 4 → wiN 130994 (mirF (byAt I 24 25) (32 + 576 * m) 18 131072))) → P (.inl (some (vi v_))) (sD h K_ L)) → AW l G M_Ve_answersHide P 0 [(0, vr 170), (1, vr 24), (2, vr 33)] [] (sD h I L) from key _ (fun v K q => ⟨(v, K), rfl, rfl, q⟩)
  intro P hP
  refine aw_iconst d_Ve_answersHide_0 ⟨by decide, by decide⟩ ?_
  refine aw_istore_n (lv' := [(3, vi 0), (0, vr 170), (1, vr 24), (2, vr 33)]) d_Ve_answersHide_1 rfl (by decide) rfl ?_
  have lp_2 : ∀ (n_ : Nat) (i : Int) (K : Nat → Int → Int), (0 ≤ i ∧ i ≤ 4) → (FC (fun a => 119 ≤ a ∧ a ≤ 125) I L K L) → (∀ m, 0 ≤ m → m < i → wiN 130994 (mirF (byAt I 24 25) (32 + 576 * m) 18 131072)) → (∀ m, 0 ≤ m → m < i → eqQ (K (119 + m.toNat)) (mirF (byAt I 24 25) (32 + 576 * m) 18 131072)) → ((4 - i).toNat) = n_ → AW l G M_Ve_answersHide P 2 [(3, vi i), (2, vr 33), (1, vr 24), (0, vr 170)] [] (sD h K L) := by
    intro n_
    induction n_ using Nat.strongRecOn with
    | _ n_ ih_2 =>
    intro i K hi F okk gg hm_2
    refine aw_iload_n d_Ve_answersHide_2 rfl rfl ?_
    refine aw_aload_n d_Ve_answersHide_3 rfl rfl ?_
    refine ax_getIe (x := 4) d_Ve_answersHide_4 fd_Ve_100 (k_33 S) (Eq.trans (F.1 33 1 (by omega)) (pc_33_1 SD.2.1)) ?_
    refine aw_icmp_ge (tgt := 89) d_Ve_answersHide_7 (by decide) (fun c_7 => ?_) (fun c_7 => ?_)
    · skip
      refine aw_iconst d_Ve_answersHide_89 ⟨by decide, by decide⟩ ?_
      exact aw_zret d_Ve_answersHide_90 rfl ⟨by decide, by decide⟩ (hP _ K ⟨F, Or.inl ⟨rfl, fun m a b => okk m a (by omega), fun m a b => gg m a (by omega)⟩⟩)
    · skip
      refine aw_aload_n d_Ve_answersHide_10 rfl rfl ?_
      refine aw_aload_n d_Ve_answersHide_11 rfl rfl ?_
      refine ax_getIe (x := 32) d_Ve_answersHide_12 fd_Ve_52 (k_33 S) (Eq.trans (F.1 33 7 (by omega)) (pc_33_7 SD.2.1)) ?_
      refine aw_iload_n d_Ve_answersHide_15 rfl rfl ?_
      refine aw_aload_n d_Ve_answersHide_16 rfl rfl ?_
      refine ax_getIe (x := 18) d_Ve_answersHide_17 fd_Ve_103 (k_33 S) (Eq.trans (F.1 33 11 (by omega)) (pc_33_11 SD.2.1)) ?_
      refine ax_S (st := [vi i, vi 32, vr 24]) (as := [vi 18]) (v := some (vi (32 * 18))) (h' := sD h K L) d_Ve_answersHide_20 cs_Ve_answersHide_20 (c_Ri_packedSize (by omega)) rfl rfl rfl ?_
      show AW l G M_Ve_answersHide P 23 [(3, vi i), (2, vr 33), (1, vr 24), (0, vr 170)] [vi (32 * 18), vi i, vi 32, vr 24] (sD h K L)
      refine ax_imul d_Ve_answersHide_23 ⟨(by omega), (by omega)⟩ ?_
      refine ax_iadd d_Ve_answersHide_24 ⟨(by omega), (by omega)⟩ ?_
      refine aw_aload_n d_Ve_answersHide_25 rfl rfl ?_
      refine ax_getIe (x := 18) d_Ve_answersHide_26 fd_Ve_103 (k_33 S) (Eq.trans (F.1 33 11 (by omega)) (pc_33_11 SD.2.1)) ?_
      refine aw_aload_n d_Ve_answersHide_29 rfl rfl ?_
      refine ax_getR (b := 36) d_Ve_answersHide_30 fd_Ve_23 (k_170 S) (r_170_0 S) ?_
      refine ax_getR (b := 118) d_Ve_answersHide_33 fd_Ve_111 (k_36 S) (r_36_6 S) ?_
      refine aw_iload_n d_Ve_answersHide_36 rfl rfl ?_
      refine ax_aald (b := 119 + i.toNat) d_Ve_answersHide_37 ⟨by rw [(k_118 S)]; decide, by rw [(k_118 S)]; decide⟩ (by omega) (by rw [n_118 S]; omega) (g_118 S (by omega) (by omega)) ?_
      refine ax_V (st := []) (as := [vi (32 + (i * (32 * 18))), vi 18, vr (119 + i.toNat)]) (b := 24) (v := none) (h' := sD h (rowTo K (119 + i.toNat) 256 (gR (fun k => byAt K 24 25 (32 + i * (32 * 18) + k)) 18)) L) d_Ve_answersHide_38 cs_Ve_answersHide_38 (k_24 S) (c_By_readBits (w := 18) (ks S (i := 5) (by decide)) ⟨kr_118 S (by omega), by omega, nr_118 S (by omega), by omega, by omega⟩ (by decide) (by rw [F.1 24 1 (by omega), nks S (i := 5) (by decide)]; omega)) rfl rfl rfl ?_
      show AW l G M_Ve_answersHide P 41 [(3, vi i), (2, vr 33), (1, vr 24), (0, vr 170)] [] (sD h (rowTo K (119 + i.toNat) 256 (gR (fun k => byAt K 24 25 (32 + i * (32 * 18) + k)) 18)) L)
      refine aw_aload_n d_Ve_answersHide_41 rfl rfl ?_
      refine ax_getR (b := 36) d_Ve_answersHide_42 fd_Ve_23 (k_170 S) (r_170_0 S) ?_
      refine ax_getR (b := 118) d_Ve_answersHide_45 fd_Ve_111 (k_36 S) (r_36_6 S) ?_
      refine aw_iload_n d_Ve_answersHide_48 rfl rfl ?_
      refine ax_aald (b := 119 + i.toNat) d_Ve_answersHide_49 ⟨by rw [(k_118 S)]; decide, by rw [(k_118 S)]; decide⟩ (by omega) (by rw [n_118 S]; omega) (g_118 S (by omega) (by omega)) ?_
      refine aw_aload_n d_Ve_answersHide_50 rfl rfl ?_
      refine ax_getIe (x := 131072) d_Ve_answersHide_51 fd_Ve_119 (k_33 S) (Eq.trans (rowTo_ne (by omega)) (Eq.trans (F.1 33 4 (by omega)) (pc_33_4 SD.2.1))) ?_
      refine ax_S (st := []) (as := [vr (119 + i.toNat), vi 131072]) (v := none) (h' := sD h (rowTo (rowTo K (119 + i.toNat) 256 (gR (fun k => byAt K 24 25 (32 + i * (32 * 18) + k)) 18)) (119 + i.toNat) 256 (fun j => (131072 - (rowTo K (119 + i.toNat) 256 (gR (fun k => byAt K 24 25 (32 + i * (32 * 18) + k)) 18)) (119 + i.toNat) j) % 8380417)) L) d_Ve_answersHide_54 cs_Ve_answersHide_54 (c_Ri_mirror ⟨kr_118 S (by omega), by omega, nr_118 S (by omega)⟩ (by decide) (fun j x y => by rw [rowTo_in x y]; have := gR_b (g := fun k => byAt K 24 25 (32 + i * (32 * 18) + k)) (w := 18) (j := j) (by decide); omega)) rfl rfl rfl ?_
      show AW l G M_Ve_answersHide P 57 [(3, vi i), (2, vr 33), (1, vr 24), (0, vr 170)] [] (sD h (rowTo (rowTo K (119 + i.toNat) 256 (gR (fun k => byAt K 24 25 (32 + i * (32 * 18) + k)) 18)) (119 + i.toNat) 256 (fun j => (131072 - (rowTo K (119 + i.toNat) 256 (gR (fun k => byAt K 24 25 (32 + i * (32 * 18) + k)) 18)) (119 + i.toNat) j) % 8380417)) L)
      have zi : eqQ ((rowTo (rowTo K (119 + i.toNat) 256 (gR (fun k => byAt K 24 25 (32 + i * (32 * 18) + k)) 18)) (119 + i.toNat) 256 (fun j => (131072 - (rowTo K (119 + i.toNat) 256 (gR (fun k => byAt K 24 25 (32 + i * (32 * 18) + k)) 18)) (119 + i.toNat) j) % 8380417)) (119 + i.toNat)) (mirF (byAt I 24 25) (32 + 576 * i) 18 131072) := fun j x y => by rw [rowTo_in x y, rowTo_in x y]; unfold mirF; rw [show (fun k => byAt K 24 25 (32 + i * (32 * 18) + k)) = (fun k => byAt I 24 25 (32 + 576 * i + k)) from funext (fun z => by rw [byAt_fc F (by omega) (by omega), show i * (32 * 18) = 576 * i by omega])]
      have Fb : FC (fun a => 119 ≤ a ∧ a ≤ 125) I L (rowTo (rowTo K (119 + i.toNat) 256 (gR (fun k => byAt K 24 25 (32 + i * (32 * 18) + k)) 18)) (119 + i.toNat) 256 (fun j => (131072 - (rowTo K (119 + i.toNat) 256 (gR (fun k => byAt K 24 25 (32 + i * (32 * 18) + k)) 18)) (119 + i.toNat) j) % 8380417)) L := (F.tr (FC.row (p := fun a => 119 ≤ a ∧ a ≤ 125) (by omega)) (fun a x => ⟨x, x⟩)).tr (FC.row (p := fun a => 119 ≤ a ∧ a ≤ 125) (by omega)) (fun a x => ⟨x, x⟩)
      refine aw_aload_n d_Ve_answersHide_57 rfl rfl ?_
      refine ax_getR (b := 36) d_Ve_answersHide_58 fd_Ve_23 (k_170 S) (r_170_0 S) ?_
      refine ax_getR (b := 118) d_Ve_answersHide_61 fd_Ve_111 (k_36 S) (r_36_6 S) ?_
      refine aw_iload_n d_Ve_answersHide_64 rfl rfl ?_
      refine ax_aald (b := 119 + i.toNat) d_Ve_answersHide_65 ⟨by rw [(k_118 S)]; decide, by rw [(k_118 S)]; decide⟩ (by omega) (by rw [n_118 S]; omega) (g_118 S (by omega) (by omega)) ?_
      refine aw_aload_n d_Ve_answersHide_66 rfl rfl ?_
      refine ax_getIe (x := 131072) d_Ve_answersHide_67 fd_Ve_119 (k_33 S) (Eq.trans (rowTo_ne (by omega)) (Eq.trans (rowTo_ne (by omega)) (Eq.trans (F.1 33 4 (by omega)) (pc_33_4 SD.2.1)))) ?_
      refine aw_aload_n d_Ve_answersHide_70 rfl rfl ?_
      refine ax_getIe (x := 78) d_Ve_answersHide_71 fd_Ve_126 (k_33 S) (Eq.trans (rowTo_ne (by omega)) (Eq.trans (rowTo_ne (by omega)) (Eq.trans (F.1 33 9 (by omega)) (pc_33_9 SD.2.1)))) ?_
      refine ax_isub d_Ve_answersHide_74 ⟨(by omega), (by omega)⟩ ?_
      refine ax_ti (x := 130994) (by decide) ?_
      refine ax_Sr (st := []) (as := [vr (119 + i.toNat), vi 130994]) d_Ve_answersHide_75 cs_Ve_answersHide_75 (c_Ri_within ⟨kr_118 S (by omega), by omega, nr_118 S (by omega)⟩ (by decide)) rfl rfl rfl (fun u_75 q_75 => ?_)
      obtain ⟨wo, wi⟩ := q_75
      have wi := wi.trans (wiN_eq zi)
      show AW l G M_Ve_answersHide P 78 [(3, vi i), (2, vr 33), (1, vr 24), (0, vr 170)] [vi u_75] (sD h (rowTo (rowTo K (119 + i.toNat) 256 (gR (fun k => byAt K 24 25 (32 + i * (32 * 18) + k)) 18)) (119 + i.toNat) 256 (fun j => (131072 - (rowTo K (119 + i.toNat) 256 (gR (fun k => byAt K 24 25 (32 + i * (32 * 18) + k)) 18)) (119 + i.toNat) j) % 8380417)) L)
      refine aw_if_ne (tgt := 83) d_Ve_answersHide_78 (by decide) (fun c_78 => ?_) (fun c_78 => ?_)
      · skip
        refine ax_iinc (lv' := [(3, vi (i + 1)), (2, vr 33), (1, vr 24), (0, vr 170)]) d_Ve_answersHide_83 rfl (by decide) ⟨(by omega), (by omega)⟩ rfl ?_
        refine aw_goto (tgt := 2) d_Ve_answersHide_86 (by decide) ?_
        exact ih_2 _ (by omega) (i + 1) (rowTo (rowTo K (119 + i.toNat) 256 (gR (fun k => byAt K 24 25 (32 + i * (32 * 18) + k)) 18)) (119 + i.toNat) 256 (fun j => (131072 - (rowTo K (119 + i.toNat) 256 (gR (fun k => byAt K 24 25 (32 + i * (32 * 18) + k)) 18)) (119 + i.toNat) j) % 8380417)) (by omega) (Fb) (fun m a b => by by_cases z : m = i; exact (by rw [z]; exact wi.1 (by omega)); exact okk m a (by omega)) (fun m a b j x y => by by_cases z : m = i; exact (by rw [z]; exact zi j x y); exact (by rw [rowTo_ne (by omega), rowTo_ne (by omega)]; exact gg m a (by omega) j x y)) rfl
      · skip
        refine aw_iconst d_Ve_answersHide_81 ⟨by decide, by decide⟩ ?_
        exact aw_zret d_Ve_answersHide_82 rfl ⟨by decide, by decide⟩ (hP _ _ ⟨Fb, Or.inr ⟨rfl, fun z => by have := wi.2 (z i hi.1 (by omega)); omega⟩⟩)
  skip
  refine aw_sub (lv' := [(3, vi 0), (2, vr 33), (1, vr 24), (0, vr 170)]) (by simp) ?_
  exact lp_2 _ 0 I (by omega) (FC.rfl') (fun m a b => by omega) (fun m a b => by omega) rfl
set_option maxHeartbeats 800000 in
set_option maxRecDepth 100000 in
theorem c_Ve_computeImages0 {l : Launch} {G : a_G} {h : Hp} {I L : Nat → Int → Int} {B : Int → Int} {Z : Int → Int → Int} (S : Shp h) (hfl : l.flags = flags0) (rm : hX h + 1 ≤ a_NX ∧ hU h + 6 ≤ a_US) (SD : Std I L) (hc : I 16 1 ≤ 8192) (hB : eqQ (I 135) B) (qB : inQ B) (hZ : ∀ m, 0 ≤ m → m < 4 → eqQ (I (119 + m.toNat)) (Z m)) (qZ : ∀ m, 0 ≤ m → m < 4 → inQ (Z m)) : AW l G M_Ve_computeImages (ThR h I L (∀ m, 0 ≤ m → m < 16 → (wide (fun x => byAt I 16 17 (0 + x)) (m % 4) (m / 4)).2.1 = 256) (fun I' L' => FC (fun a => a = 38 ∨ 45 ≤ a ∧ a ≤ 100 ∨ 119 ≤ a ∧ a ≤ 125 ∨ 127 ≤ a ∧ a ≤ 134 ∨ a = 136) I L I' L' ∧ ∀ m, 0 ≤ m → m < 4 → eqQ (I' (127 + m.toNat)) ((vmF (fun m => (wide (fun x => byAt I 16 17 (0 + x)) (m % 4) (m / 4)).2.2) (fun j => fwd rt (Z j)) B (byAt I 16 17) 4 4) m))) 0 (a_ar 0 [vr 170, vr 16, vr 33]) [] (sD h I L) := by
  suffices key : ∀ P : a_R → Hp → Prop, (∀ r_ h2_, ThR h I L (∀ m, 0 ≤ m → m < 16 → (wide (fun x => byAt I 16 17 (0 + x)) (m % 4) (m / 4)).2.1 = 256) (fun I' L' => FC (fun a => a = 38 ∨ 45 ≤ a ∧ a ≤ 100 ∨ 119 ≤ a ∧ a ≤ 125 ∨ 127 ≤ a ∧ a ≤ 134 ∨ a = 136) I L I' L' ∧ ∀ m, 0 ≤ m → m < 4 → eqQ (I' (127 + m.toNat)) ((vmF (fun m => (wide (fun x => byAt I 16 17 (0 + x)) (m % 4) (m / 4)).2.2) (fun j => fwd rt (Z j)) B (byAt I 16 17) 4 4) m)) r_ h2_ → P r_ h2_) → AW l G M_Ve_computeImages P 0 [(0, vr 170), (1, vr 16), (2, vr 33)] [] (sD h I L) from key _ (fun _ _ q => q)
  intro P hP
  refine aw_aload_n d_Ve_computeImages_0 rfl rfl ?_
  refine ax_getR (b := 36) d_Ve_computeImages_1 fd_Ve_23 (k_170 S) (r_170_0 S) ?_
  refine ax_getR (b := 37) d_Ve_computeImages_4 fd_Ve_156 (k_36 S) (r_36_0 S) ?_
  refine aw_aload_n d_Ve_computeImages_7 rfl rfl ?_
  refine aw_aload_n d_Ve_computeImages_8 rfl rfl ?_
  refine aw_aload_n d_Ve_computeImages_9 rfl rfl ?_
  refine ax_getR (b := 36) d_Ve_computeImages_10 fd_Ve_23 (k_170 S) (r_170_0 S) ?_
  refine ax_getR (b := 44) d_Ve_computeImages_13 fd_Ve_160 (k_36 S) (r_36_3 S) ?_
  refine ax_VtT (st := []) (as := [vr 16, vr 33, vr 44]) (b := 37) d_Ve_computeImages_16 cs_Ve_computeImages_16 (k_37 S) (c_Sa_matrix0 S hfl rm SD (ks S (i := 1) (by decide)) (by omega) (by rw [nks S (i := 1) (by decide)]; omega)) rfl rfl rfl (fun ok_16 I_16 L_16 q_16 => ?_) (fun no_16 I_16 L_16 q_16 => at_leave rfl (hP _ _ (Or.inr ⟨no_16, I_16, L_16, q_16, rfl, rfl⟩)))
  have F0 : FC (fun a => a = 38 ∨ 45 ≤ a ∧ a ≤ 100 ∨ 119 ≤ a ∧ a ≤ 125 ∨ 127 ≤ a ∧ a ≤ 134 ∨ a = 136) I L I_16 L_16 := q_16.1.mono (by intro a x; omega)
  have okm := ok_16
  have mt : ∀ m, 0 ≤ m → m < 16 → eqQ (I_16 (45 + m.toNat)) ((fun m => (wide (fun x => byAt I 16 17 (0 + x)) (m % 4) (m / 4)).2.2) m) := fun m a b c x y => q_16.2 m a b c x y
  show AW l G M_Ve_computeImages P 19 [(0, vr 170), (1, vr 16), (2, vr 33)] [] (sD h I_16 L_16)
  refine aw_iconst d_Ve_computeImages_19 ⟨by decide, by decide⟩ ?_
  refine aw_istore_n (lv' := [(3, vi 0), (0, vr 170), (1, vr 16), (2, vr 33)]) d_Ve_computeImages_20 rfl (by decide) rfl ?_
  have lp_21 : ∀ (n_ : Nat) (i : Int) (K : Nat → Int → Int), (0 ≤ i ∧ i ≤ 4) → (FC (fun a => a = 38 ∨ 45 ≤ a ∧ a ≤ 100 ∨ 119 ≤ a ∧ a ≤ 125 ∨ 127 ≤ a ∧ a ≤ 134 ∨ a = 136) I L K L_16) → (∀ m, 0 ≤ m → m < 16 → eqQ (K (45 + m.toNat)) ((fun m => (wide (fun x => byAt I 16 17 (0 + x)) (m % 4) (m / 4)).2.2) m)) → (∀ m, 0 ≤ m → m < i → eqQ (K (119 + m.toNat)) (fwd rt (Z m))) → (∀ m, 0 ≤ m → i ≤ m → m < 4 → eqQ (K (119 + m.toNat)) (Z m)) → ((4 - i).toNat) = n_ → AW l G M_Ve_computeImages P 21 [(3, vi i), (2, vr 33), (1, vr 16), (0, vr 170)] [] (sD h K L_16) := by
    intro n_
    induction n_ using Nat.strongRecOn with
    | _ n_ ih_21 =>
    intro i K hi F mk gg un hm_21
    refine aw_iload_n d_Ve_computeImages_21 rfl rfl ?_
    refine aw_aload_n d_Ve_computeImages_22 rfl rfl ?_
    refine ax_getIe (x := 4) d_Ve_computeImages_23 fd_Ve_100 (k_33 S) (Eq.trans (F.1 33 1 (by omega)) (pc_33_1 SD.2.1)) ?_
    refine aw_icmp_ge (tgt := 54) d_Ve_computeImages_26 (by decide) (fun c_26 => ?_) (fun c_26 => ?_)
    · skip
      refine aw_aload_n d_Ve_computeImages_54 rfl rfl ?_
      refine ax_getR (b := 36) d_Ve_computeImages_55 fd_Ve_23 (k_170 S) (r_170_0 S) ?_
      refine aw_aload_n d_Ve_computeImages_58 rfl rfl ?_
      refine ax_Vr (st := []) (as := [vr 33]) (b := 36) d_Ve_computeImages_59 cs_Ve_computeImages_59 (k_36 S) (c_Be_multiplyMatrix0 S (SD.fc F (by intro a x; omega)) (fun m hm j x y => by have z := mk m (by omega) (by omega) j x y; rw [Int.toNat_natCast] at z; rw [z]; exact wide_b.2 j) (fun m hm j x y => by have z := gg m (by omega) (by omega) j x y; rw [Int.toNat_natCast] at z; rw [z]; exact fwd_in (qZ m (by omega) (by omega)) j x y)) rfl rfl rfl (fun u_59 q_59 => ?_)
      obtain ⟨q1, q2⟩ := q_59
      have F2 : FC (fun a => a = 38 ∨ 45 ≤ a ∧ a ≤ 100 ∨ 119 ≤ a ∧ a ≤ 125 ∨ 127 ≤ a ∧ a ≤ 134 ∨ a = 136) I L u_59 L_16 := F.tr q1 (by intro a x; omega)
      have u2 : ∀ m, 0 ≤ m → m < 4 → eqQ (u_59 (127 + m.toNat)) (fun c => pS (fun m => (wide (fun x => byAt I 16 17 (0 + x)) (m % 4) (m / 4)).2.2) (fun j => fwd rt (Z j)) (m * 4) c 4 % 8380417) := fun m a c j x y => by rw [q2 m a c j x y, mS_pS (A := (fun m => (wide (fun x => byAt I 16 17 (0 + x)) (m % 4) (m / 4)).2.2)) (V := (fun j => fwd rt (Z j))) 4 (fun n hn => mk _ (by omega) (by omega) j x y) (fun n hn => by have z := gg n (by omega) (by omega) j x y; rwa [Int.toNat_natCast] at z)]
      show AW l G M_Ve_computeImages P 62 [(3, vi i), (2, vr 33), (1, vr 16), (0, vr 170)] [] (sD h u_59 L_16)
      refine aw_iconst d_Ve_computeImages_62 ⟨by decide, by decide⟩ ?_
      refine aw_istore_n (lv' := [(3, vi 0), (2, vr 33), (1, vr 16), (0, vr 170)]) d_Ve_computeImages_63 rfl (by decide) rfl ?_
      have lp_64 : ∀ (n_ : Nat) (i : Int) (K3 : Nat → Int → Int), (0 ≤ i ∧ i ≤ 4) → (FC (fun a => a = 38 ∨ 45 ≤ a ∧ a ≤ 100 ∨ 119 ≤ a ∧ a ≤ 125 ∨ 127 ≤ a ∧ a ≤ 134 ∨ a = 136) I L K3 L_16) → (∀ m, 0 ≤ m → i ≤ m → m < 4 → eqQ (K3 (127 + m.toNat)) (fun c => pS (fun m => (wide (fun x => byAt I 16 17 (0 + x)) (m % 4) (m / 4)).2.2) (fun j => fwd rt (Z j)) (m * 4) c 4 % 8380417)) → (∀ m, 0 ≤ m → m < i → eqQ (K3 (127 + m.toNat)) ((vmF (fun m => (wide (fun x => byAt I 16 17 (0 + x)) (m % 4) (m / 4)).2.2) (fun j => fwd rt (Z j)) B (byAt I 16 17) 4 4) m)) → ((4 - i).toNat) = n_ → AW l G M_Ve_computeImages P 64 [(3, vi i), (2, vr 33), (1, vr 16), (0, vr 170)] [] (sD h K3 L_16) := by
        intro n_
        induction n_ using Nat.strongRecOn with
        | _ n_ ih_64 =>
        intro i K3 hi3 F3 un3 dn hm_64
        refine aw_iload_n d_Ve_computeImages_64 rfl rfl ?_
        refine aw_aload_n d_Ve_computeImages_65 rfl rfl ?_
        refine ax_getIe (x := 4) d_Ve_computeImages_66 fd_Ve_81 (k_33 S) (Eq.trans (F3.1 33 0 (by omega)) (pc_33_0 SD.2.1)) ?_
        refine aw_icmp_ge (tgt := 146) d_Ve_computeImages_69 (by decide) (fun c_69 => ?_) (fun c_69 => ?_)
        · skip
          exact aw_vret d_Ve_computeImages_146 rfl (hP _ _ (Or.inl ⟨okm, K3, L_16, ⟨F3, fun m a b => dn m a (by omega)⟩, rfl, rfl⟩))
        · skip
          refine aw_aload_n d_Ve_computeImages_72 rfl rfl ?_
          refine aw_aload_n d_Ve_computeImages_73 rfl rfl ?_
          refine aw_iload_n d_Ve_computeImages_74 rfl rfl ?_
          refine ax_Vr (st := []) (as := [vr 16, vi i]) (b := 170) d_Ve_computeImages_75 cs_Ve_computeImages_75 (k_170 S) (c_Ve_readTop S (SD.fc F3 (by intro a x; omega)) (by rw [F3.1 16 1 (by omega)]; omega)) rfl rfl rfl (fun u_75 q_75 => ?_)
          obtain ⟨q5, q6⟩ := q_75
          have F4 : FC (fun a => a = 38 ∨ 45 ≤ a ∧ a ≤ 100 ∨ 119 ≤ a ∧ a ≤ 125 ∨ 127 ≤ a ∧ a ≤ 134 ∨ a = 136) I L u_75 L_16 := F3.tr q5 (by intro a x; omega)
          rw [show byAt K3 16 17 = byAt I 16 17 from funext (fun x => byAt_fc F3 (by omega) (by omega))] at q6
          show AW l G M_Ve_computeImages P 78 [(3, vi i), (2, vr 33), (1, vr 16), (0, vr 170)] [] (sD h u_75 L_16)
          refine aw_aload_n d_Ve_computeImages_78 rfl rfl ?_
          refine ax_getR (b := 36) d_Ve_computeImages_79 fd_Ve_23 (k_170 S) (r_170_0 S) ?_
          refine ax_getR (b := 135) d_Ve_computeImages_82 fd_Ve_182 (k_36 S) (r_36_8 S) ?_
          refine aw_aload_n d_Ve_computeImages_85 rfl rfl ?_
          refine ax_getR (b := 36) d_Ve_computeImages_86 fd_Ve_23 (k_170 S) (r_170_0 S) ?_
          refine ax_getR (b := 136) d_Ve_computeImages_89 fd_Ve_186 (k_36 S) (r_36_9 S) ?_
          refine aw_aload_n d_Ve_computeImages_92 rfl rfl ?_
          refine ax_getR (b := 36) d_Ve_computeImages_93 fd_Ve_23 (k_170 S) (r_170_0 S) ?_
          refine ax_getR (b := 136) d_Ve_computeImages_96 fd_Ve_186 (k_36 S) (r_36_9 S) ?_
          refine ax_S (st := []) (as := [vr 135, vr 136, vr 136]) (v := none) (h' := sD h (rowTo u_75 136 256 (fun j => u_75 135 j * u_75 136 j % 8380417)) L_16) d_Ve_computeImages_99 cs_Ve_computeImages_99 (c_Ri_multiply ⟨k_135 S, by decide, n_135 S⟩ ⟨k_136 S, by decide, n_136 S⟩ ⟨k_136 S, by decide, n_136 S⟩ (fun j x y => by rw [F4.1 _ _ (by omega), hB j x y]; exact qB j x y) (fun j x y => by rw [q6 j x y]; exact fwd_in tpF_in j x y)) rfl rfl rfl ?_
          show AW l G M_Ve_computeImages P 102 [(3, vi i), (2, vr 33), (1, vr 16), (0, vr 170)] [] (sD h (rowTo u_75 136 256 (fun j => u_75 135 j * u_75 136 j % 8380417)) L_16)
          refine aw_aload_n d_Ve_computeImages_102 rfl rfl ?_
          refine ax_getR (b := 36) d_Ve_computeImages_103 fd_Ve_23 (k_170 S) (r_170_0 S) ?_
          refine ax_getR (b := 126) d_Ve_computeImages_106 fd_Ve_193 (k_36 S) (r_36_7 S) ?_
          refine aw_iload_n d_Ve_computeImages_109 rfl rfl ?_
          refine ax_aald (b := 127 + i.toNat) d_Ve_computeImages_110 ⟨by rw [(k_126 S)]; decide, by rw [(k_126 S)]; decide⟩ (by omega) (by rw [n_126 S]; omega) (g_126 S (by omega) (by omega)) ?_
          refine aw_aload_n d_Ve_computeImages_111 rfl rfl ?_
          refine ax_getR (b := 36) d_Ve_computeImages_112 fd_Ve_23 (k_170 S) (r_170_0 S) ?_
          refine ax_getR (b := 136) d_Ve_computeImages_115 fd_Ve_186 (k_36 S) (r_36_9 S) ?_
          refine ax_S (st := []) (as := [vr (127 + i.toNat), vr 136]) (v := none) (h' := sD h (rowTo (rowTo u_75 136 256 (fun j => u_75 135 j * u_75 136 j % 8380417)) (127 + i.toNat) 256 (fun j => ((rowTo u_75 136 256 (fun j => u_75 135 j * u_75 136 j % 8380417)) (127 + i.toNat) j - (rowTo u_75 136 256 (fun j => u_75 135 j * u_75 136 j % 8380417)) 136 j) % 8380417)) L_16) d_Ve_computeImages_118 cs_Ve_computeImages_118 (c_Ri_takeFrom ⟨kr_126 S (by omega), by omega, nr_126 S (by omega)⟩ ⟨k_136 S, by decide, n_136 S⟩ (fun j x y => by rw [rowTo_ne (by omega), q5.1 _ _ (by omega), un3 i hi3.1 (Int.le_refl _) (by omega) j x y]; show 0 ≤ _ % 8380417 ∧ _ % 8380417 < 8380417; exact ⟨Int.emod_nonneg _ (by decide), Int.emod_lt_of_pos _ (by decide)⟩) (fun j x y => by rw [rowTo_in x y]; exact ⟨Int.emod_nonneg _ (by decide), Int.emod_lt_of_pos _ (by decide)⟩)) rfl rfl rfl ?_
          show AW l G M_Ve_computeImages P 121 [(3, vi i), (2, vr 33), (1, vr 16), (0, vr 170)] [] (sD h (rowTo (rowTo u_75 136 256 (fun j => u_75 135 j * u_75 136 j % 8380417)) (127 + i.toNat) 256 (fun j => ((rowTo u_75 136 256 (fun j => u_75 135 j * u_75 136 j % 8380417)) (127 + i.toNat) j - (rowTo u_75 136 256 (fun j => u_75 135 j * u_75 136 j % 8380417)) 136 j) % 8380417)) L_16)
          have FM : FC (fun a => a = 38 ∨ 45 ≤ a ∧ a ≤ 100 ∨ 119 ≤ a ∧ a ≤ 125 ∨ 127 ≤ a ∧ a ≤ 134 ∨ a = 136) I L (rowTo (rowTo u_75 136 256 (fun j => u_75 135 j * u_75 136 j % 8380417)) (127 + i.toNat) 256 (fun j => ((rowTo u_75 136 256 (fun j => u_75 135 j * u_75 136 j % 8380417)) (127 + i.toNat) j - (rowTo u_75 136 256 (fun j => u_75 135 j * u_75 136 j % 8380417)) 136 j) % 8380417)) L_16 := (F4.tr (FC.row (p := fun a => a = 38 ∨ 45 ≤ a ∧ a ≤ 100 ∨ 119 ≤ a ∧ a ≤ 125 ∨ 127 ≤ a ∧ a ≤ 134 ∨ a = 136) (by omega)) (fun a x => ⟨x, x⟩)).tr (FC.row (p := fun a => a = 38 ∨ 45 ≤ a ∧ a ≤ 100 ∨ 119 ≤ a ∧ a ≤ 125 ∨ 127 ≤ a ∧ a ≤ 134 ∨ a = 136) (by omega)) (fun a x => ⟨x, x⟩)
          refine aw_aload_n d_Ve_computeImages_121 rfl rfl ?_
          refine ax_getR (b := 36) d_Ve_computeImages_122 fd_Ve_23 (k_170 S) (r_170_0 S) ?_
          refine ax_getR (b := 42) d_Ve_computeImages_125 fd_Ve_168 (k_36 S) (r_36_2 S) ?_
          refine aw_aload_n d_Ve_computeImages_128 rfl rfl ?_
          refine ax_getR (b := 36) d_Ve_computeImages_129 fd_Ve_23 (k_170 S) (r_170_0 S) ?_
          refine ax_getR (b := 126) d_Ve_computeImages_132 fd_Ve_193 (k_36 S) (r_36_7 S) ?_
          refine aw_iload_n d_Ve_computeImages_135 rfl rfl ?_
          refine ax_aald (b := 127 + i.toNat) d_Ve_computeImages_136 ⟨by rw [(k_126 S)]; decide, by rw [(k_126 S)]; decide⟩ (by omega) (by rw [n_126 S]; omega) (g_126 S (by omega) (by omega)) ?_
          refine ax_V (st := []) (as := [vr (127 + i.toNat)]) (b := 42) (v := none) (h' := sD h (cset (rowTo (rowTo u_75 136 256 (fun j => u_75 135 j * u_75 136 j % 8380417)) (127 + i.toNat) 256 (fun j => ((rowTo u_75 136 256 (fun j => u_75 135 j * u_75 136 j % 8380417)) (127 + i.toNat) j - (rowTo u_75 136 256 (fun j => u_75 135 j * u_75 136 j % 8380417)) 136 j) % 8380417)) (127 + i.toNat) (bck ((rowTo (rowTo u_75 136 256 (fun j => u_75 135 j * u_75 136 j % 8380417)) (127 + i.toNat) 256 (fun j => ((rowTo u_75 136 256 (fun j => u_75 135 j * u_75 136 j % 8380417)) (127 + i.toNat) j - (rowTo u_75 136 256 (fun j => u_75 135 j * u_75 136 j % 8380417)) 136 j) % 8380417)) 43) ((rowTo (rowTo u_75 136 256 (fun j => u_75 135 j * u_75 136 j % 8380417)) (127 + i.toNat) 256 (fun j => ((rowTo u_75 136 256 (fun j => u_75 135 j * u_75 136 j % 8380417)) (127 + i.toNat) j - (rowTo u_75 136 256 (fun j => u_75 135 j * u_75 136 j % 8380417)) 136 j) % 8380417)) (127 + i.toNat)))) L_16) d_Ve_computeImages_137 cs_Ve_computeImages_137 (k_42 S) (c_Ri_back S ⟨kr_126 S (by omega), by omega, nr_126 S (by omega)⟩ (by omega) (fun j x y => by rw [rowTo_in x y]; exact ⟨Int.emod_nonneg _ (by decide), Int.emod_lt_of_pos _ (by decide)⟩) (SD.fc FM (by intro a x; omega)).R) rfl rfl rfl ?_
          show AW l G M_Ve_computeImages P 140 [(3, vi i), (2, vr 33), (1, vr 16), (0, vr 170)] [] (sD h (cset (rowTo (rowTo u_75 136 256 (fun j => u_75 135 j * u_75 136 j % 8380417)) (127 + i.toNat) 256 (fun j => ((rowTo u_75 136 256 (fun j => u_75 135 j * u_75 136 j % 8380417)) (127 + i.toNat) j - (rowTo u_75 136 256 (fun j => u_75 135 j * u_75 136 j % 8380417)) 136 j) % 8380417)) (127 + i.toNat) (bck ((rowTo (rowTo u_75 136 256 (fun j => u_75 135 j * u_75 136 j % 8380417)) (127 + i.toNat) 256 (fun j => ((rowTo u_75 136 256 (fun j => u_75 135 j * u_75 136 j % 8380417)) (127 + i.toNat) j - (rowTo u_75 136 256 (fun j => u_75 135 j * u_75 136 j % 8380417)) 136 j) % 8380417)) 43) ((rowTo (rowTo u_75 136 256 (fun j => u_75 135 j * u_75 136 j % 8380417)) (127 + i.toNat) 256 (fun j => ((rowTo u_75 136 256 (fun j => u_75 135 j * u_75 136 j % 8380417)) (127 + i.toNat) j - (rowTo u_75 136 256 (fun j => u_75 135 j * u_75 136 j % 8380417)) 136 j) % 8380417)) (127 + i.toNat)))) L_16)
          refine ax_iinc (lv' := [(3, vi (i + 1)), (2, vr 33), (1, vr 16), (0, vr 170)]) d_Ve_computeImages_140 rfl (by decide) ⟨(by omega), (by omega)⟩ rfl ?_
          refine aw_goto (tgt := 64) d_Ve_computeImages_143 (by decide) ?_
          exact ih_64 _ (by omega) (i + 1) (cset (rowTo (rowTo u_75 136 256 (fun j => u_75 135 j * u_75 136 j % 8380417)) (127 + i.toNat) 256 (fun j => ((rowTo u_75 136 256 (fun j => u_75 135 j * u_75 136 j % 8380417)) (127 + i.toNat) j - (rowTo u_75 136 256 (fun j => u_75 135 j * u_75 136 j % 8380417)) 136 j) % 8380417)) (127 + i.toNat) (bck ((rowTo (rowTo u_75 136 256 (fun j => u_75 135 j * u_75 136 j % 8380417)) (127 + i.toNat) 256 (fun j => ((rowTo u_75 136 256 (fun j => u_75 135 j * u_75 136 j % 8380417)) (127 + i.toNat) j - (rowTo u_75 136 256 (fun j => u_75 135 j * u_75 136 j % 8380417)) 136 j) % 8380417)) 43) ((rowTo (rowTo u_75 136 256 (fun j => u_75 135 j * u_75 136 j % 8380417)) (127 + i.toNat) 256 (fun j => ((rowTo u_75 136 256 (fun j => u_75 135 j * u_75 136 j % 8380417)) (127 + i.toNat) j - (rowTo u_75 136 256 (fun j => u_75 135 j * u_75 136 j % 8380417)) 136 j) % 8380417)) (127 + i.toNat)))) (by omega) (FM.tr (FC.cs (p := fun a => a = 38 ∨ 45 ≤ a ∧ a ≤ 100 ∨ 119 ≤ a ∧ a ≤ 125 ∨ 127 ≤ a ∧ a ≤ 134 ∨ a = 136) (by omega)) (fun a x => ⟨x, x⟩)) (fun m a b c j x y => by rw [cset_ne (by omega), rowTo_ne (by omega), rowTo_ne (by omega), q5.1 _ _ (by omega)]; exact un3 m a (by omega) c j x y) (fun m a b j x y => by by_cases z : m = i; exact (by rw [z, cset_at, (SD.fc FM (by intro a x; omega)).2.2]; exact bck_eq (fun c u v => by rw [rowTo_in u v, rowTo_in u v, rowTo_ne (by omega), q5.1 _ _ (by omega), un3 i hi3.1 (Int.le_refl _) (by omega) c u v, F4.1 135 c (by omega), hB c u v, q6 c u v]) j x y); exact (by rw [cset_ne (by omega), rowTo_ne (by omega), rowTo_ne (by omega), q5.1 _ _ (by omega)]; exact dn m a (by omega) j x y)) rfl
      skip
      exact lp_64 _ 0 u_59 (by omega) (F2) (fun m a b c => u2 m a c) (fun m a b => by omega) rfl
    · skip
      refine aw_aload_n d_Ve_computeImages_29 rfl rfl ?_
      refine ax_getR (b := 36) d_Ve_computeImages_30 fd_Ve_23 (k_170 S) (r_170_0 S) ?_
      refine ax_getR (b := 42) d_Ve_computeImages_33 fd_Ve_168 (k_36 S) (r_36_2 S) ?_
      refine aw_aload_n d_Ve_computeImages_36 rfl rfl ?_
      refine ax_getR (b := 36) d_Ve_computeImages_37 fd_Ve_23 (k_170 S) (r_170_0 S) ?_
      refine ax_getR (b := 118) d_Ve_computeImages_40 fd_Ve_111 (k_36 S) (r_36_6 S) ?_
      refine aw_iload_n d_Ve_computeImages_43 rfl rfl ?_
      refine ax_aald (b := 119 + i.toNat) d_Ve_computeImages_44 ⟨by rw [(k_118 S)]; decide, by rw [(k_118 S)]; decide⟩ (by omega) (by rw [n_118 S]; omega) (g_118 S (by omega) (by omega)) ?_
      refine ax_V (st := []) (as := [vr (119 + i.toNat)]) (b := 42) (v := none) (h' := sD h (cset K (119 + i.toNat) (fwd (K 43) (K (119 + i.toNat)))) L_16) d_Ve_computeImages_45 cs_Ve_computeImages_45 (k_42 S) (c_Ri_forward S ⟨kr_118 S (by omega), by omega, nr_118 S (by omega)⟩ (by omega) (fun j x y => by rw [un i hi.1 (Int.le_refl _) (by omega) j x y]; exact qZ i hi.1 (by omega) j x y) (SD.fc F (by intro a x; omega)).R) rfl rfl rfl ?_
      show AW l G M_Ve_computeImages P 48 [(3, vi i), (2, vr 33), (1, vr 16), (0, vr 170)] [] (sD h (cset K (119 + i.toNat) (fwd (K 43) (K (119 + i.toNat)))) L_16)
      refine ax_iinc (lv' := [(3, vi (i + 1)), (2, vr 33), (1, vr 16), (0, vr 170)]) d_Ve_computeImages_48 rfl (by decide) ⟨(by omega), (by omega)⟩ rfl ?_
      refine aw_goto (tgt := 21) d_Ve_computeImages_51 (by decide) ?_
      exact ih_21 _ (by omega) (i + 1) (cset K (119 + i.toNat) (fwd (K 43) (K (119 + i.toNat)))) (by omega) (F.tr (FC.cs (p := fun a => a = 38 ∨ 45 ≤ a ∧ a ≤ 100 ∨ 119 ≤ a ∧ a ≤ 125 ∨ 127 ≤ a ∧ a ≤ 134 ∨ a = 136) (by omega)) (fun a x => ⟨x, x⟩)) (fun m a b c x y => by rw [cset_ne (by omega)]; exact mk m a b c x y) (fun m a b j x y => by by_cases z : m = i; exact (by rw [z, cset_at, (SD.fc F (by intro a x; omega)).2.2]; exact fwd_eq (un i hi.1 (Int.le_refl _) (by omega)) j x y); exact (by rw [cset_ne (by omega)]; exact gg m a (by omega) j x y)) (fun m a b c j x y => by rw [cset_ne (by omega)]; exact un m a (by omega) c j x y) rfl
  skip
  refine aw_sub (lv' := [(3, vi 0), (2, vr 33), (1, vr 16), (0, vr 170)]) (by simp) ?_
  exact lp_21 _ 0 I_16 (by omega) (F0) (mt) (fun m a b => by omega) (fun m a b c j x y => (q_16.1.1 _ j (by omega)).trans (hZ m a c j x y)) rfl
set_option maxHeartbeats 800000 in
set_option maxRecDepth 100000 in
theorem c_Ve_packHighs0 {l : Launch} {G : a_G} {h : Hp} {I L : Nat → Int → Int} {W : Int → Int → Int} (S : Shp h) (SD : Std I L) (hc0 : I 24 1 ≤ 8192) (hS : hSt (byAt I 24 25) 2336 80 4) (hW : ∀ m, 0 ≤ m → m < 4 → eqQ (I (127 + m.toNat)) (W m)) (qW : ∀ m, 0 ≤ m → m < 4 → inQ (W m)) : AW l G M_Ve_packHighs (Ret (fun _ : Nat → Int → Int => none) (fun K => sD h K L) (fun K => FC (fun a => a = 136 ∨ a = 141 ∨ a = 142) I L K L ∧ HB K 141 142 768 (hvB (byAt I 24 25) 2336 80 95232 44 6 192 W))) 0 (a_ar 0 [vr 170, vr 24, vr 33]) [] (sD h I L) := by
  suffices key : ∀ P : a_R → Hp → Prop, (∀ K : Nat → Int → Int, FC (fun a => a = 136 ∨ a = 141 ∨ a = 142) I L K L → HB K 141 142 768 (hvB (byAt I 24 25) 2336 80 95232 44 6 192 W) → P (.inl none) (sD h K L)) → AW l G M_Ve_packHighs P 0 [(0, vr 170), (1, vr 24), (2, vr 33)] [] (sD h I L) from key _ (fun K q1 q2 => ⟨K, rfl, rfl, q1, q2⟩)
  intro P hP
  refine aw_aload_n d_Ve_packHighs_0 rfl rfl ?_
  refine ax_getR (b := 36) d_Ve_packHighs_1 fd_Ve_23 (k_170 S) (r_170_0 S) ?_
  refine ax_getR (b := 141) d_Ve_packHighs_4 fd_Ve_203 (k_36 S) (r_36_12 S) ?_
  refine ax_V (st := []) (as := []) (b := 141) (v := none) (h' := sD h (a_up I 141 1 0) L) d_Ve_packHighs_7 cs_Ve_packHighs_7 (k_141 S) (c_By_clear ⟨k_141 S, r_141_0 S, k_142 S, by decide, by decide, by decide⟩) rfl rfl rfl ?_
  show AW l G M_Ve_packHighs P 10 [(0, vr 170), (1, vr 24), (2, vr 33)] [] (sD h (a_up I 141 1 0) L)
  refine aw_iconst d_Ve_packHighs_10 ⟨by decide, by decide⟩ ?_
  refine aw_istore_n (lv' := [(3, vi 0), (0, vr 170), (1, vr 24), (2, vr 33)]) d_Ve_packHighs_11 rfl (by decide) rfl ?_
  have lp_12 : ∀ (n_ : Nat) (i : Int) (K : Nat → Int → Int), (0 ≤ i ∧ i ≤ 4) → (FC (fun a => a = 136 ∨ a = 141 ∨ a = 142) I L K L) → (HB K 141 142 (192 * i) (hvB (byAt I 24 25) 2336 80 95232 44 6 192 W)) → ((4 - i).toNat) = n_ → AW l G M_Ve_packHighs P 12 [(3, vi i), (2, vr 33), (1, vr 24), (0, vr 170)] [] (sD h K L) := by
    intro n_
    induction n_ using Nat.strongRecOn with
    | _ n_ ih_12 =>
    intro i K hi F H hm_12
    have b1 := hEn_b (o4 := 2416) (i := i - 1) (fun i => byAt_b (I := I) (b := 24) (r := 25) (i := i))
    have b2 := hEn_b (o4 := 2416) (i := i) (fun i => byAt_b (I := I) (b := 24) (r := 25) (i := i))
    refine aw_iload_n d_Ve_packHighs_12 rfl rfl ?_
    refine aw_aload_n d_Ve_packHighs_13 rfl rfl ?_
    refine ax_getIe (x := 4) d_Ve_packHighs_14 fd_Ve_81 (k_33 S) (Eq.trans (F.1 33 0 (by omega)) (pc_33_0 SD.2.1)) ?_
    refine aw_icmp_ge (tgt := 171) d_Ve_packHighs_17 (by decide) (fun c_17 => ?_) (fun c_17 => ?_)
    · skip
      exact aw_vret d_Ve_packHighs_171 rfl (hP K F (by rw [show 768 = 192 * i by omega]; exact H))
    · skip
      refine aw_aload_n d_Ve_packHighs_20 rfl rfl ?_
      refine aw_aload_n d_Ve_packHighs_21 rfl rfl ?_
      refine aw_iload_n d_Ve_packHighs_22 rfl rfl ?_
      refine aw_iconst d_Ve_packHighs_23 ⟨by decide, by decide⟩ ?_
      refine ax_isub d_Ve_packHighs_24 ⟨(by omega), (by omega)⟩ ?_
      refine ax_S (st := []) (as := [vr 24, vr 33, vi (i - 1)]) (v := some (vi (hEn (byAt I 24 25) 2416 (i - 1)))) (h' := sD h K L) d_Ve_packHighs_25 cs_Ve_packHighs_25 (by have z := c_Ve_hintsEnd0 (l := l) (G := G) (L := L) (I := K) (i := i - 1) S (SD.fc F (by intro a x; omega)).2.1 (by rw [F.1 24 1 (by omega)]; omega); rw [show byAt K 24 25 = byAt I 24 25 from funext (fun x => byAt_fc F (by omega) (by omega))] at z; exact z) rfl rfl rfl ?_
      show AW l G M_Ve_packHighs P 28 [(3, vi i), (2, vr 33), (1, vr 24), (0, vr 170)] [vi (hEn (byAt I 24 25) 2416 (i - 1))] (sD h K L)
      refine aw_istore (lv' := [(4, vi (hEn (byAt I 24 25) 2416 (i - 1))), (3, vi i), (2, vr 33), (1, vr 24), (0, vr 170)]) d_Ve_packHighs_28 (by decide) rfl ?_
      refine aw_aload_n d_Ve_packHighs_30 rfl rfl ?_
      refine aw_aload_n d_Ve_packHighs_31 rfl rfl ?_
      refine aw_iload_n d_Ve_packHighs_32 rfl rfl ?_
      refine ax_S (st := []) (as := [vr 24, vr 33, vi i]) (v := some (vi (hEn (byAt I 24 25) 2416 i))) (h' := sD h K L) d_Ve_packHighs_33 cs_Ve_packHighs_33 (by have z := c_Ve_hintsEnd0 (l := l) (G := G) (L := L) (I := K) (i := i) S (SD.fc F (by intro a x; omega)).2.1 (by rw [F.1 24 1 (by omega)]; omega); rw [show byAt K 24 25 = byAt I 24 25 from funext (fun x => byAt_fc F (by omega) (by omega))] at z; exact z) rfl rfl rfl ?_
      show AW l G M_Ve_packHighs P 36 [(4, vi (hEn (byAt I 24 25) 2416 (i - 1))), (3, vi i), (2, vr 33), (1, vr 24), (0, vr 170)] [vi (hEn (byAt I 24 25) 2416 i)] (sD h K L)
      refine aw_istore (lv' := [(5, vi (hEn (byAt I 24 25) 2416 i)), (4, vi (hEn (byAt I 24 25) 2416 (i - 1))), (3, vi i), (2, vr 33), (1, vr 24), (0, vr 170)]) d_Ve_packHighs_36 (by decide) rfl ?_
      have st_ := hS.1 i hi.1 (by omega)
      rw [show (2336 + 80 : Int) = 2416 from rfl] at st_
      refine aw_iconst d_Ve_packHighs_38 ⟨by decide, by decide⟩ ?_
      refine aw_istore (lv' := [(6, vi 0), (5, vi (hEn (byAt I 24 25) 2416 i)), (4, vi (hEn (byAt I 24 25) 2416 (i - 1))), (3, vi i), (2, vr 33), (1, vr 24), (0, vr 170)]) d_Ve_packHighs_39 (by decide) rfl ?_
      have lp_41 : ∀ (n_ : Nat) (c : Int) (x : Int), (0 ≤ c ∧ c ≤ 256) → (hEn (byAt I 24 25) 2416 (i - 1) ≤ x ∧ x ≤ hEn (byAt I 24 25) 2416 i) → (∀ y, hEn (byAt I 24 25) 2416 (i - 1) ≤ y → y < x → byAt I 24 25 (2336 + y) < c) → (∀ y, x ≤ y → y < hEn (byAt I 24 25) 2416 i → c ≤ byAt I 24 25 (2336 + y)) → ((256 - c).toNat) = n_ → AW l G M_Ve_packHighs P 41 [(6, vi c), (5, vi (hEn (byAt I 24 25) 2416 i)), (4, vi x), (3, vi i), (2, vr 33), (1, vr 24), (0, vr 170)] [] (sD h (rowTo K 136 c (fun x => hvV (byAt I 24 25) 2336 80 95232 44 i x (W i x))) L) := by
        intro n_
        induction n_ using Nat.strongRecOn with
        | _ n_ ih_41 =>
        intro c x hc hx lo up hm_41
        have PJ : ParD (rowTo K 136 c (fun x => hvV (byAt I 24 25) 2336 80 95232 44 i x (W i x))) := (SD.fc (F.tr (FC.row (p := fun a => a = 136) rfl) (r := fun a => a = 136 ∨ a = 141 ∨ a = 142) (by intro a x; omega)) (by intro a x; omega)).2.1
        have gp : (rowTo K 136 c (fun x => hvV (byAt I 24 25) 2336 80 95232 44 i x (W i x))) 33 5 = 95232 := pc_33_5 PJ
        have gh : (rowTo K 136 c (fun x => hvV (byAt I 24 25) 2336 80 95232 44 i x (W i x))) 33 8 = 44 := pc_33_8 PJ
        refine aw_iload d_Ve_packHighs_41 rfl ?_
        refine aw_sipush d_Ve_packHighs_43 ⟨by decide, by decide⟩ (by decide) ?_
        refine aw_icmp_ge (tgt := 144) d_Ve_packHighs_46 (by decide) (fun c_46 => ?_) (fun c_46 => ?_)
        · skip
          rw [show c = 256 by omega]
          refine aw_aload_n d_Ve_packHighs_144 rfl rfl ?_
          refine ax_getR (b := 36) d_Ve_packHighs_145 fd_Ve_23 (k_170 S) (r_170_0 S) ?_
          refine ax_getR (b := 141) d_Ve_packHighs_148 fd_Ve_203 (k_36 S) (r_36_12 S) ?_
          refine aw_aload_n d_Ve_packHighs_151 rfl rfl ?_
          refine ax_getR (b := 36) d_Ve_packHighs_152 fd_Ve_23 (k_170 S) (r_170_0 S) ?_
          refine ax_getR (b := 136) d_Ve_packHighs_155 fd_Ve_186 (k_36 S) (r_36_9 S) ?_
          refine aw_aload_n d_Ve_packHighs_158 rfl rfl ?_
          refine ax_getIe (x := 6) d_Ve_packHighs_159 fd_Ve_215 (k_33 S) (Eq.trans (rowTo_ne (by omega)) (Eq.trans (F.1 33 12 (by omega)) (pc_33_12 SD.2.1))) ?_
          refine ax_V (st := []) (as := [vr 136, vi 6]) (b := 141) (v := none) (h' := sD h (byPut (rowTo K 136 256 (fun x => hvV (byAt I 24 25) 2336 80 95232 44 i x (W i x))) 141 142 (32 * 6) (gB ((rowTo K 136 256 (fun x => hvV (byAt I 24 25) 2336 80 95232 44 i x (W i x))) 136) 6)) L) d_Ve_packHighs_162 cs_Ve_packHighs_162 (k_141 S) (by have z := c_By_addBits (l := l) (G := G) (L := L) (I := rowTo K 136 256 (fun x => hvV (byAt I 24 25) 2336 80 95232 44 i x (W i x))) (w := 6) ⟨k_141 S, r_141_0 S, k_142 S, by decide, by decide, by decide⟩ ⟨k_136 S, by decide, n_136 S, by decide, by decide⟩ (by decide) (fun j x y => by rw [rowTo_in x y]; have := hvV_a (g := (byAt I 24 25)) (o3 := 2336) (w := 80) (i := i) (j := j) (qW i hi.1 (by omega) j x y); omega) (by rw [rowTo_ne (by decide), H.1, n_142 S]; omega); exact z) rfl rfl rfl ?_
          show AW l G M_Ve_packHighs P 165 [(6, vi 256), (5, vi (hEn (byAt I 24 25) 2416 i)), (4, vi x), (3, vi i), (2, vr 33), (1, vr 24), (0, vr 170)] [] (sD h (byPut (rowTo K 136 256 (fun x => hvV (byAt I 24 25) 2336 80 95232 44 i x (W i x))) 141 142 (32 * 6) (gB ((rowTo K 136 256 (fun x => hvV (byAt I 24 25) 2336 80 95232 44 i x (W i x))) 136) 6)) L)
          refine ax_iinc (lv' := [(3, vi (i + 1)), (6, vi 256), (5, vi (hEn (byAt I 24 25) 2416 i)), (4, vi x), (2, vr 33), (1, vr 24), (0, vr 170)]) d_Ve_packHighs_165 rfl (by decide) ⟨(by omega), (by omega)⟩ rfl ?_
          refine aw_goto (tgt := 12) d_Ve_packHighs_168 (by decide) ?_
          refine aw_sub (lv' := [(3, vi (i + 1)), (2, vr 33), (1, vr 24), (0, vr 170)]) (by simp) ?_
          exact ih_12 _ (by omega) (i + 1) (byPut (rowTo K 136 256 (fun x => hvV (byAt I 24 25) 2336 80 95232 44 i x (W i x))) 141 142 (32 * 6) (gB ((rowTo K 136 256 (fun x => hvV (byAt I 24 25) 2336 80 95232 44 i x (W i x))) 136) 6)) (by omega) ((F.tr (FC.row (p := fun a => a = 136 ∨ a = 141 ∨ a = 142) (by omega)) (fun a x => ⟨x, x⟩)).tr (FC.put (p := fun a => a = 136 ∨ a = 141 ∨ a = 142) (by omega) (by omega)) (fun a x => ⟨x, x⟩)) (by rw [show 192 * (i + 1) = 192 * i + 32 * 6 by omega]; exact (H.fc (L := L) (L' := L) (FC.row (p := fun a => a = 136) rfl) (by decide) (by decide)).put (by decide) (by omega) (by decide) (fun z x y => by rw [gB_m]; unfold hvB; rw [show (192 * i + z) / 192 = i by omega, show (192 * i + z) % 192 = z by omega, gB_congr (G := fun j => hvV (byAt I 24 25) 2336 80 95232 44 i j (W i j)) (fun j u v => by rw [rowTo_in u v])])) rfl
        · skip
          have wr := qW i hi.1 (by omega) c hc.1 (by omega)
          refine aw_aload_n d_Ve_packHighs_49 rfl rfl ?_
          refine ax_getR (b := 36) d_Ve_packHighs_50 fd_Ve_23 (k_170 S) (r_170_0 S) ?_
          refine ax_getR (b := 126) d_Ve_packHighs_53 fd_Ve_193 (k_36 S) (r_36_7 S) ?_
          refine aw_iload_n d_Ve_packHighs_56 rfl rfl ?_
          refine ax_aald (b := 127 + i.toNat) d_Ve_packHighs_57 ⟨by rw [(k_126 S)]; decide, by rw [(k_126 S)]; decide⟩ (by omega) (by rw [n_126 S]; omega) (g_126 S (by omega) (by omega)) ?_
          refine aw_iload d_Ve_packHighs_58 rfl ?_
          refine ax_ialde (x := W i c) d_Ve_packHighs_60 (kr_126 S (by omega)) (by omega) (by rw [nr_126 S (by omega)]; omega) (Eq.trans (rowTo_ne (by omega)) ((F.1 (127 + i.toNat) c (by omega)).trans (hW i hi.1 (by omega) c hc.1 (by omega)))) ?_
          refine aw_istore (lv' := [(7, vi (W i c)), (6, vi c), (5, vi (hEn (byAt I 24 25) 2416 i)), (4, vi x), (3, vi i), (2, vr 33), (1, vr 24), (0, vr 170)]) d_Ve_packHighs_61 (by decide) rfl ?_
          refine aw_iload d_Ve_packHighs_63 rfl ?_
          refine aw_iload d_Ve_packHighs_65 rfl ?_
          refine aw_icmp_ge (tgt := 90) d_Ve_packHighs_67 (by decide) (fun c_67 => ?_) (fun c_67 => ?_)
          · skip
            refine aw_iconst d_Ve_packHighs_90 ⟨by decide, by decide⟩ ?_
            refine aw_istore (lv' := [(8, vi 0), (7, vi (W i c)), (6, vi c), (5, vi (hEn (byAt I 24 25) 2416 i)), (4, vi x), (3, vi i), (2, vr 33), (1, vr 24), (0, vr 170)]) d_Ve_packHighs_91 (by decide) rfl ?_
            refine aw_aload_n d_Ve_packHighs_93 rfl rfl ?_
            refine ax_getR (b := 36) d_Ve_packHighs_94 fd_Ve_23 (k_170 S) (r_170_0 S) ?_
            refine ax_getR (b := 136) d_Ve_packHighs_97 fd_Ve_186 (k_36 S) (r_36_9 S) ?_
            refine aw_iload d_Ve_packHighs_100 rfl ?_
            refine aw_iload d_Ve_packHighs_102 rfl ?_
            refine aw_if_eq (tgt := 116) d_Ve_packHighs_104 (by decide) (fun c_104 => ?_) (fun c_104 => False.elim (by omega))
            refine aw_aload_n d_Ve_packHighs_116 rfl rfl ?_
            refine aw_iload d_Ve_packHighs_117 rfl ?_
            refine ax_V (st := [vi c, vr 136]) (as := [vi (W i c)]) (b := 33) (v := some (vi (dHigh 95232 (W i c)))) (h' := sD h (rowTo K 136 c (fun x => hvV (byAt I 24 25) 2336 80 95232 44 i x (W i x))) L) d_Ve_packHighs_119 cs_Ve_packHighs_119 (k_33 S) (by have z := c_Pa_high (l := l) (G := G) (L := L) (I := rowTo K 136 c (fun x => hvV (byAt I 24 25) 2336 80 95232 44 i x (W i x))) (p := 33) (r := W i c) (k_33 S) (by rw [gp]; decide) wr; rw [gp] at z; exact z) rfl rfl rfl ?_
            show AW l G M_Ve_packHighs P 122 [(8, vi 0), (7, vi (W i c)), (6, vi c), (5, vi (hEn (byAt I 24 25) 2416 i)), (4, vi x), (3, vi i), (2, vr 33), (1, vr 24), (0, vr 170)] [vi (dHigh 95232 (W i c)), vi c, vr 136] (sD h (rowTo K 136 c (fun x => hvV (byAt I 24 25) 2336 80 95232 44 i x (W i x))) L)
            refine ax_iast d_Ve_packHighs_122 (k_136 S) (by decide) (by omega) (by rw [n_136 S]; omega) ?_
            rw [show dHigh 95232 (W i c) = hvV (byAt I 24 25) 2336 80 95232 44 i c (W i c) from (hvV_n (fun ⟨y, y1, y2, y3⟩ => by rw [show (2336 + 80 : Int) = 2416 from rfl] at y1 y2; by_cases z : y < x; exact absurd (lo y y1 z) (by omega); by_cases z2 : y = x; exact (by rw [z2] at y3 y2; omega); have u1 := up x (by omega) (by omega); have u2 := rises_at st_.2.2 (x := 2336 + x) (y := 2336 + y) (by omega) (by omega) (by omega); omega)).symm]
            rw [rowTo_1 (by omega) rfl]
            refine aw_iload d_Ve_packHighs_123 rfl ?_
            refine aw_iload d_Ve_packHighs_125 rfl ?_
            refine aw_if_eq (tgt := 134) d_Ve_packHighs_127 (by decide) (fun c_127 => ?_) (fun c_127 => False.elim (by omega))
            refine aw_iconst d_Ve_packHighs_134 ⟨by decide, by decide⟩ ?_
            refine ax_iadd d_Ve_packHighs_135 ⟨(by omega), (by omega)⟩ ?_
            refine aw_istore (lv' := [(4, vi (x + 0)), (8, vi 0), (7, vi (W i c)), (6, vi c), (5, vi (hEn (byAt I 24 25) 2416 i)), (3, vi i), (2, vr 33), (1, vr 24), (0, vr 170)]) d_Ve_packHighs_136 (by decide) rfl ?_
            refine ax_iinc (lv' := [(6, vi (c + 1)), (4, vi (x + 0)), (8, vi 0), (7, vi (W i c)), (5, vi (hEn (byAt I 24 25) 2416 i)), (3, vi i), (2, vr 33), (1, vr 24), (0, vr 170)]) d_Ve_packHighs_138 rfl (by decide) ⟨(by omega), (by omega)⟩ rfl ?_
            refine aw_goto (tgt := 41) d_Ve_packHighs_141 (by decide) ?_
            refine aw_sub (lv' := [(6, vi (c + 1)), (5, vi (hEn (byAt I 24 25) 2416 i)), (4, vi (x + 0)), (3, vi i), (2, vr 33), (1, vr 24), (0, vr 170)]) (by simp) ?_
            exact ih_41 _ (by omega) (c + 1) (x + 0) (by omega) (by omega) (fun y a b => by have := lo y a (by omega); omega) (fun y a b => by have u_ := up y (by omega) b; by_cases z : y = x; exact (by rw [z] at u_ ⊢; omega); have := rises_at st_.2.2 (x := 2336 + x) (y := 2336 + y) (by omega) (by omega) (by omega); have := up x (by omega) (by omega); omega) rfl
          · skip
            refine aw_aload_n d_Ve_packHighs_70 rfl rfl ?_
            refine aw_aload_n d_Ve_packHighs_71 rfl rfl ?_
            refine ax_S (st := [vr 24]) (as := [vr 33]) (v := some (vi 2336)) (h' := sD h (rowTo K 136 c (fun x => hvV (byAt I 24 25) 2336 80 95232 44 i x (W i x))) L) d_Ve_packHighs_72 cs_Ve_packHighs_72 (c_Ve_hintsStart0 S PJ) rfl rfl rfl ?_
            show AW l G M_Ve_packHighs P 75 [(7, vi (W i c)), (6, vi c), (5, vi (hEn (byAt I 24 25) 2416 i)), (4, vi x), (3, vi i), (2, vr 33), (1, vr 24), (0, vr 170)] [vi 2336, vr 24] (sD h (rowTo K 136 c (fun x => hvV (byAt I 24 25) 2336 80 95232 44 i x (W i x))) L)
            refine aw_iload d_Ve_packHighs_75 rfl ?_
            refine ax_iadd d_Ve_packHighs_77 ⟨(by omega), (by omega)⟩ ?_
            refine ax_V (st := []) (as := [vi (2336 + x)]) (b := 24) (v := some (vi (byAt I 24 25 (2336 + x)))) (h' := sD h (rowTo K 136 c (fun x => hvV (byAt I 24 25) 2336 80 95232 44 i x (W i x))) L) d_Ve_packHighs_78 cs_Ve_packHighs_78 (k_24 S) (c_By_at (ks S (i := 5) (by decide)) (by rw [rowTo_ne (by omega), F.1 24 1 (by omega), nks S (i := 5) (by decide)]; omega) ((byAt_fc (L := L) (L' := L) (FC.row (p := fun a => a = 136) rfl) (by decide) (by decide)).trans (byAt_fc F (by omega) (by omega)))) rfl rfl rfl ?_
            show AW l G M_Ve_packHighs P 81 [(7, vi (W i c)), (6, vi c), (5, vi (hEn (byAt I 24 25) 2416 i)), (4, vi x), (3, vi i), (2, vr 33), (1, vr 24), (0, vr 170)] [vi (byAt I 24 25 (2336 + x))] (sD h (rowTo K 136 c (fun x => hvV (byAt I 24 25) 2336 80 95232 44 i x (W i x))) L)
            refine aw_iload d_Ve_packHighs_81 rfl ?_
            refine aw_icmp_ne (tgt := 90) d_Ve_packHighs_83 (by decide) (fun c_83 => ?_) (fun c_83 => ?_)
            · skip
              refine aw_iconst d_Ve_packHighs_90 ⟨by decide, by decide⟩ ?_
              refine aw_istore (lv' := [(8, vi 0), (7, vi (W i c)), (6, vi c), (5, vi (hEn (byAt I 24 25) 2416 i)), (4, vi x), (3, vi i), (2, vr 33), (1, vr 24), (0, vr 170)]) d_Ve_packHighs_91 (by decide) rfl ?_
              refine aw_aload_n d_Ve_packHighs_93 rfl rfl ?_
              refine ax_getR (b := 36) d_Ve_packHighs_94 fd_Ve_23 (k_170 S) (r_170_0 S) ?_
              refine ax_getR (b := 136) d_Ve_packHighs_97 fd_Ve_186 (k_36 S) (r_36_9 S) ?_
              refine aw_iload d_Ve_packHighs_100 rfl ?_
              refine aw_iload d_Ve_packHighs_102 rfl ?_
              refine aw_if_eq (tgt := 116) d_Ve_packHighs_104 (by decide) (fun c_104 => ?_) (fun c_104 => False.elim (by omega))
              refine aw_aload_n d_Ve_packHighs_116 rfl rfl ?_
              refine aw_iload d_Ve_packHighs_117 rfl ?_
              refine ax_V (st := [vi c, vr 136]) (as := [vi (W i c)]) (b := 33) (v := some (vi (dHigh 95232 (W i c)))) (h' := sD h (rowTo K 136 c (fun x => hvV (byAt I 24 25) 2336 80 95232 44 i x (W i x))) L) d_Ve_packHighs_119 cs_Ve_packHighs_119 (k_33 S) (by have z := c_Pa_high (l := l) (G := G) (L := L) (I := rowTo K 136 c (fun x => hvV (byAt I 24 25) 2336 80 95232 44 i x (W i x))) (p := 33) (r := W i c) (k_33 S) (by rw [gp]; decide) wr; rw [gp] at z; exact z) rfl rfl rfl ?_
              show AW l G M_Ve_packHighs P 122 [(8, vi 0), (7, vi (W i c)), (6, vi c), (5, vi (hEn (byAt I 24 25) 2416 i)), (4, vi x), (3, vi i), (2, vr 33), (1, vr 24), (0, vr 170)] [vi (dHigh 95232 (W i c)), vi c, vr 136] (sD h (rowTo K 136 c (fun x => hvV (byAt I 24 25) 2336 80 95232 44 i x (W i x))) L)
              refine ax_iast d_Ve_packHighs_122 (k_136 S) (by decide) (by omega) (by rw [n_136 S]; omega) ?_
              rw [show dHigh 95232 (W i c) = hvV (byAt I 24 25) 2336 80 95232 44 i c (W i c) from (hvV_n (fun ⟨y, y1, y2, y3⟩ => by rw [show (2336 + 80 : Int) = 2416 from rfl] at y1 y2; by_cases z : y < x; exact absurd (lo y y1 z) (by omega); by_cases z2 : y = x; exact (by rw [z2] at y3 y2; omega); have u1 := up x (by omega) (by omega); have u2 := rises_at st_.2.2 (x := 2336 + x) (y := 2336 + y) (by omega) (by omega) (by omega); omega)).symm]
              rw [rowTo_1 (by omega) rfl]
              refine aw_iload d_Ve_packHighs_123 rfl ?_
              refine aw_iload d_Ve_packHighs_125 rfl ?_
              refine aw_if_eq (tgt := 134) d_Ve_packHighs_127 (by decide) (fun c_127 => ?_) (fun c_127 => False.elim (by omega))
              refine aw_iconst d_Ve_packHighs_134 ⟨by decide, by decide⟩ ?_
              refine ax_iadd d_Ve_packHighs_135 ⟨(by omega), (by omega)⟩ ?_
              refine aw_istore (lv' := [(4, vi (x + 0)), (8, vi 0), (7, vi (W i c)), (6, vi c), (5, vi (hEn (byAt I 24 25) 2416 i)), (3, vi i), (2, vr 33), (1, vr 24), (0, vr 170)]) d_Ve_packHighs_136 (by decide) rfl ?_
              refine ax_iinc (lv' := [(6, vi (c + 1)), (4, vi (x + 0)), (8, vi 0), (7, vi (W i c)), (5, vi (hEn (byAt I 24 25) 2416 i)), (3, vi i), (2, vr 33), (1, vr 24), (0, vr 170)]) d_Ve_packHighs_138 rfl (by decide) ⟨(by omega), (by omega)⟩ rfl ?_
              refine aw_goto (tgt := 41) d_Ve_packHighs_141 (by decide) ?_
              refine aw_sub (lv' := [(6, vi (c + 1)), (5, vi (hEn (byAt I 24 25) 2416 i)), (4, vi (x + 0)), (3, vi i), (2, vr 33), (1, vr 24), (0, vr 170)]) (by simp) ?_
              exact ih_41 _ (by omega) (c + 1) (x + 0) (by omega) (by omega) (fun y a b => by have := lo y a (by omega); omega) (fun y a b => by have u_ := up y (by omega) b; by_cases z : y = x; exact (by rw [z] at u_ ⊢; omega); have := rises_at st_.2.2 (x := 2336 + x) (y := 2336 + y) (by omega) (by omega) (by omega); have := up x (by omega) (by omega); omega) rfl
            · skip
              refine aw_iconst d_Ve_packHighs_86 ⟨by decide, by decide⟩ ?_
              refine aw_goto (tgt := 91) d_Ve_packHighs_87 (by decide) ?_
              refine aw_istore (lv' := [(8, vi 1), (7, vi (W i c)), (6, vi c), (5, vi (hEn (byAt I 24 25) 2416 i)), (4, vi x), (3, vi i), (2, vr 33), (1, vr 24), (0, vr 170)]) d_Ve_packHighs_91 (by decide) rfl ?_
              refine aw_aload_n d_Ve_packHighs_93 rfl rfl ?_
              refine ax_getR (b := 36) d_Ve_packHighs_94 fd_Ve_23 (k_170 S) (r_170_0 S) ?_
              refine ax_getR (b := 136) d_Ve_packHighs_97 fd_Ve_186 (k_36 S) (r_36_9 S) ?_
              refine aw_iload d_Ve_packHighs_100 rfl ?_
              refine aw_iload d_Ve_packHighs_102 rfl ?_
              refine aw_if_eq (tgt := 116) d_Ve_packHighs_104 (by decide) (fun c_104 => False.elim (by omega)) (fun c_104 => ?_)
              refine aw_aload_n d_Ve_packHighs_107 rfl rfl ?_
              refine aw_iload d_Ve_packHighs_108 rfl ?_
              refine ax_V (st := [vi c, vr 136]) (as := [vi (W i c)]) (b := 33) (v := some (vi (hHigh 95232 44 (W i c)))) (h' := sD h (rowTo K 136 c (fun x => hvV (byAt I 24 25) 2336 80 95232 44 i x (W i x))) L) d_Ve_packHighs_110 cs_Ve_packHighs_110 (k_33 S) (by have z := c_Pa_hintedHigh (l := l) (G := G) (L := L) (I := rowTo K 136 c (fun x => hvV (byAt I 24 25) 2336 80 95232 44 i x (W i x))) (p := 33) (r := W i c) (k_33 S) (by rw [gp]; decide) wr (by rw [gp, gh]; have := dHi44 wr; omega); rw [gp, gh] at z; exact z) rfl rfl rfl ?_
              show AW l G M_Ve_packHighs P 113 [(8, vi 1), (7, vi (W i c)), (6, vi c), (5, vi (hEn (byAt I 24 25) 2416 i)), (4, vi x), (3, vi i), (2, vr 33), (1, vr 24), (0, vr 170)] [vi (hHigh 95232 44 (W i c)), vi c, vr 136] (sD h (rowTo K 136 c (fun x => hvV (byAt I 24 25) 2336 80 95232 44 i x (W i x))) L)
              refine aw_goto (tgt := 122) d_Ve_packHighs_113 (by decide) ?_
              refine ax_iast d_Ve_packHighs_122 (k_136 S) (by decide) (by omega) (by rw [n_136 S]; omega) ?_
              rw [show hHigh 95232 44 (W i c) = hvV (byAt I 24 25) 2336 80 95232 44 i c (W i c) from (hvV_y ⟨x, by show hEn (byAt I 24 25) 2416 (i - 1) ≤ x; omega, by show x < hEn (byAt I 24 25) 2416 i; omega, by omega⟩).symm]
              rw [rowTo_1 (by omega) rfl]
              refine aw_iload d_Ve_packHighs_123 rfl ?_
              refine aw_iload d_Ve_packHighs_125 rfl ?_
              refine aw_if_eq (tgt := 134) d_Ve_packHighs_127 (by decide) (fun c_127 => False.elim (by omega)) (fun c_127 => ?_)
              refine aw_iconst d_Ve_packHighs_130 ⟨by decide, by decide⟩ ?_
              refine aw_goto (tgt := 135) d_Ve_packHighs_131 (by decide) ?_
              refine ax_iadd d_Ve_packHighs_135 ⟨(by omega), (by omega)⟩ ?_
              refine aw_istore (lv' := [(4, vi (x + 1)), (8, vi 1), (7, vi (W i c)), (6, vi c), (5, vi (hEn (byAt I 24 25) 2416 i)), (3, vi i), (2, vr 33), (1, vr 24), (0, vr 170)]) d_Ve_packHighs_136 (by decide) rfl ?_
              refine ax_iinc (lv' := [(6, vi (c + 1)), (4, vi (x + 1)), (8, vi 1), (7, vi (W i c)), (5, vi (hEn (byAt I 24 25) 2416 i)), (3, vi i), (2, vr 33), (1, vr 24), (0, vr 170)]) d_Ve_packHighs_138 rfl (by decide) ⟨(by omega), (by omega)⟩ rfl ?_
              refine aw_goto (tgt := 41) d_Ve_packHighs_141 (by decide) ?_
              refine aw_sub (lv' := [(6, vi (c + 1)), (5, vi (hEn (byAt I 24 25) 2416 i)), (4, vi (x + 1)), (3, vi i), (2, vr 33), (1, vr 24), (0, vr 170)]) (by simp) ?_
              exact ih_41 _ (by omega) (c + 1) (x + 1) (by omega) (by omega) (fun y a b => by by_cases z : y = x; exact (by rw [z]; omega); have := lo y a (by omega); omega) (fun y a b => by have := rises_at st_.2.2 (x := 2336 + x) (y := 2336 + y) (by omega) (by omega) (by omega); omega) rfl
      refine ax_hp (h' := sD h (rowTo K 136 0 (fun x => hvV (byAt I 24 25) 2336 80 95232 44 i x (W i x))) L) (by rw [rowTo_0]) ?_
      exact lp_41 _ 0 (hEn (byAt I 24 25) 2416 (i - 1)) (by omega) (by omega) (fun y a b => by omega) (fun y a b => byAt_b.1) rfl
  skip
  refine aw_sub (lv' := [(3, vi 0), (2, vr 33), (1, vr 24), (0, vr 170)]) (by simp) ?_
  exact lp_12 _ 0 (a_up I 141 1 0) (by omega) (FC.up (p := fun a => a = 136 ∨ a = 141 ∨ a = 142) (by omega)) (by rw [Int.mul_zero]; exact HB.zero) rfl
set_option maxHeartbeats 800000 in
set_option maxRecDepth 100000 in
theorem c_Ve_hintsStart1 {l : Launch} {G : a_G} {h : Hp} {I L : Nat → Int → Int} (S : Shp h) (PD : ParD I) : AW l G M_Ve_hintsStart (Rx (some (vi 3248)) (sD h I L)) 0 (a_ar 0 [vr 34]) [] (sD h I L) := by
  suffices key : ∀ P : a_R → Hp → Prop, (P (.inl (some (vi 3248))) (sD h I L)) → AW l G M_Ve_hintsStart P 0 [(0, vr 34)] [] (sD h I L) from key _ (⟨rfl, rfl⟩)
  intro P hP
  refine aw_aload_n d_Ve_hintsStart_0 rfl rfl ?_
  refine ax_getIe (x := 3309) d_Ve_hintsStart_1 fd_Ve_31 (k_34 S) (pc_34_15 PD) ?_
  refine aw_aload_n d_Ve_hintsStart_4 rfl rfl ?_
  refine ax_getIe (x := 55) d_Ve_hintsStart_5 fd_Ve_78 (k_34 S) (pc_34_6 PD) ?_
  refine ax_isub d_Ve_hintsStart_8 ⟨(by omega), (by omega)⟩ ?_
  refine ax_ti (x := 3254) (by decide) ?_
  refine aw_aload_n d_Ve_hintsStart_9 rfl rfl ?_
  refine ax_getIe (x := 6) d_Ve_hintsStart_10 fd_Ve_81 (k_34 S) (pc_34_0 PD) ?_
  refine ax_isub d_Ve_hintsStart_13 ⟨(by omega), (by omega)⟩ ?_
  refine ax_ti (x := 3248) (by decide) ?_
  exact aw_iret d_Ve_hintsStart_14 rfl hP
set_option maxHeartbeats 800000 in
set_option maxRecDepth 100000 in
theorem c_Ve_hintsEnd1 {l : Launch} {G : a_G} {h : Hp} {I L : Nat → Int → Int} {i : Int} (S : Shp h) (PD : ParD I) (hc : I 24 1 ≤ 8192 ∧ -10 < i ∧ i < 100) : AW l G M_Ve_hintsEnd (Rx (some (vi (hEn (byAt I 24 25) 3303 i))) (sD h I L)) 0 (a_ar 0 [vr 24, vr 34, vi i]) [] (sD h I L) := by
  suffices key : ∀ P : a_R → Hp → Prop, (P (.inl (some (vi (hEn (byAt I 24 25) 3303 i)))) (sD h I L)) → AW l G M_Ve_hintsEnd P 0 [(0, vr 24), (1, vr 34), (2, vi i)] [] (sD h I L) from key _ (⟨rfl, rfl⟩)
  intro P hP
  refine aw_iload_n d_Ve_hintsEnd_0 rfl rfl ?_
  refine aw_if_ge (tgt := 8) d_Ve_hintsEnd_1 (by decide) (fun c_1 => ?_) (fun c_1 => ?_)
  · skip
    refine aw_aload_n d_Ve_hintsEnd_8 rfl rfl ?_
    refine aw_aload_n d_Ve_hintsEnd_9 rfl rfl ?_
    refine ax_S (st := [vr 24]) (as := [vr 34]) (v := some (vi 3248)) (h' := sD h I L) d_Ve_hintsEnd_10 cs_Ve_hintsEnd_10 (c_Ve_hintsStart1 S PD) rfl rfl rfl ?_
    show AW l G M_Ve_hintsEnd P 13 [(0, vr 24), (1, vr 34), (2, vi i)] [vi 3248, vr 24] (sD h I L)
    refine aw_aload_n d_Ve_hintsEnd_13 rfl rfl ?_
    refine ax_getIe (x := 55) d_Ve_hintsEnd_14 fd_Ve_78 (k_34 S) (pc_34_6 PD) ?_
    refine ax_iadd d_Ve_hintsEnd_17 ⟨(by omega), (by omega)⟩ ?_
    refine ax_ti (x := 3303) (by decide) ?_
    refine aw_iload_n d_Ve_hintsEnd_18 rfl rfl ?_
    refine ax_iadd d_Ve_hintsEnd_19 ⟨(by omega), (by omega)⟩ ?_
    refine ax_V (st := []) (as := [vi (3303 + i)]) (b := 24) (v := some (vi (byAt I 24 25 (3303 + i)))) (h' := sD h I L) d_Ve_hintsEnd_20 cs_Ve_hintsEnd_20 (k_24 S) (c_By_at (ks S (i := 5) (by decide)) (by rw [nks S (i := 5) (by decide)]; omega) rfl) rfl rfl rfl ?_
    show AW l G M_Ve_hintsEnd P 23 [(0, vr 24), (1, vr 34), (2, vi i)] [vi (byAt I 24 25 (3303 + i))] (sD h I L)
    exact aw_iret d_Ve_hintsEnd_23 rfl (by rw [show byAt I 24 25 (3303 + i) = hEn (byAt I 24 25) 3303 i from by unfold hEn; rw [if_neg (by omega)]]; exact hP)
  · skip
    refine aw_iconst d_Ve_hintsEnd_4 ⟨by decide, by decide⟩ ?_
    refine aw_goto (tgt := 23) d_Ve_hintsEnd_5 (by decide) ?_
    exact aw_iret d_Ve_hintsEnd_23 rfl (by rw [show 0 = hEn (byAt I 24 25) 3303 i from by unfold hEn; rw [if_pos (by omega)]]; exact hP)
set_option maxHeartbeats 800000 in
set_option maxRecDepth 100000 in
theorem c_Ve_hintsStand1 {l : Launch} {G : a_G} {h : Hp} {I L : Nat → Int → Int} (S : Shp h) (PD : ParD I) (hc : I 24 1 ≤ 8192) : AW l G M_Ve_hintsStand (Ret (fun u : Int => some (vi u)) (fun _ => sD h I L) (fun u => (u = 0 ∨ u = 1) ∧ (u = 1 ↔ hSt (byAt I 24 25) 3248 55 6))) 0 (a_ar 0 [vr 24, vr 34]) [] (sD h I L) := by
  suffices key : ∀ P : a_R → Hp → Prop, (∀ v : Int, (v = 0 ∨ v = 1) → (v = 1 ↔ hSt (byAt I 24 25) 3248 55 6) → P (.inl (some (vi v))) (sD h I L)) → AW l G M_Ve_hintsStand P 0 [(0, vr 24), (1, vr 34)] [] (sD h I L) from key _ (fun v q1 q2 => ⟨v, rfl, rfl, q1, q2⟩)
  intro P hP
  refine aw_iconst d_Ve_hintsStand_0 ⟨by decide, by decide⟩ ?_
  refine aw_istore_n (lv' := [(2, vi 0), (0, vr 24), (1, vr 34)]) d_Ve_hintsStand_1 rfl (by decide) rfl ?_
  have lp_2 : ∀ (n_ : Nat) (i : Int), (0 ≤ i ∧ i ≤ 6) → (∀ m, 0 ≤ m → m < i → hEn (byAt I 24 25) 3303 (m - 1) ≤ hEn (byAt I 24 25) 3303 m ∧ hEn (byAt I 24 25) 3303 m ≤ 55 ∧ rises (byAt I 24 25) (3248 + hEn (byAt I 24 25) 3303 (m - 1)) (3248 + hEn (byAt I 24 25) 3303 m)) → ((6 - i).toNat) = n_ → AW l G M_Ve_hintsStand P 2 [(2, vi i), (1, vr 34), (0, vr 24)] [] (sD h I L) := by
    intro n_
    induction n_ using Nat.strongRecOn with
    | _ n_ ih_2 =>
    intro i hi gg hm_2
    have b1 := hEn_b (o4 := 3303) (i := i - 1) (fun i => byAt_b (I := I) (b := 24) (r := 25) (i := i))
    have b2 := hEn_b (o4 := 3303) (i := i) (fun i => byAt_b (I := I) (b := 24) (r := 25) (i := i))
    have b3 := hEn_b (o4 := 3303) (i := 5) (fun i => byAt_b (I := I) (b := 24) (r := 25) (i := i))
    refine aw_iload_n d_Ve_hintsStand_2 rfl rfl ?_
    refine aw_aload_n d_Ve_hintsStand_3 rfl rfl ?_
    refine ax_getIe (x := 6) d_Ve_hintsStand_4 fd_Ve_81 (k_34 S) (pc_34_0 PD) ?_
    refine aw_icmp_ge (tgt := 70) d_Ve_hintsStand_7 (by decide) (fun c_7 => ?_) (fun c_7 => ?_)
    · skip
      refine aw_aload_n d_Ve_hintsStand_70 rfl rfl ?_
      refine aw_aload_n d_Ve_hintsStand_71 rfl rfl ?_
      refine aw_aload_n d_Ve_hintsStand_72 rfl rfl ?_
      refine ax_getIe (x := 6) d_Ve_hintsStand_73 fd_Ve_81 (k_34 S) (pc_34_0 PD) ?_
      refine aw_iconst d_Ve_hintsStand_76 ⟨by decide, by decide⟩ ?_
      refine ax_isub d_Ve_hintsStand_77 ⟨(by omega), (by omega)⟩ ?_
      refine ax_ti (x := 5) (by decide) ?_
      refine ax_S (st := []) (as := [vr 24, vr 34, vi 5]) (v := some (vi (hEn (byAt I 24 25) 3303 5))) (h' := sD h I L) d_Ve_hintsStand_78 cs_Ve_hintsStand_78 (c_Ve_hintsEnd1 S PD (by omega)) rfl rfl rfl ?_
      show AW l G M_Ve_hintsStand P 81 [(2, vi i), (1, vr 34), (0, vr 24)] [vi (hEn (byAt I 24 25) 3303 5)] (sD h I L)
      refine aw_istore_n (lv' := [(2, vi (hEn (byAt I 24 25) 3303 5)), (1, vr 34), (0, vr 24)]) d_Ve_hintsStand_81 rfl (by decide) rfl ?_
      have lp_82 : ∀ (n_ : Nat) (x : Int), (hEn (byAt I 24 25) 3303 5 ≤ x ∧ 0 ≤ x ∧ x ≤ 256) → (∀ y, hEn (byAt I 24 25) 3303 5 ≤ y → y < x → byAt I 24 25 (3248 + y) = 0) → ((55 - x).toNat) = n_ → AW l G M_Ve_hintsStand P 82 [(2, vi x), (1, vr 34), (0, vr 24)] [] (sD h I L) := by
        intro n_
        induction n_ using Nat.strongRecOn with
        | _ n_ ih_82 =>
        intro x hx zz hm_82
        refine aw_iload_n d_Ve_hintsStand_82 rfl rfl ?_
        refine aw_aload_n d_Ve_hintsStand_83 rfl rfl ?_
        refine ax_getIe (x := 55) d_Ve_hintsStand_84 fd_Ve_78 (k_34 S) (pc_34_6 PD) ?_
        refine aw_icmp_ge (tgt := 111) d_Ve_hintsStand_87 (by decide) (fun c_87 => ?_) (fun c_87 => ?_)
        · skip
          refine aw_iconst d_Ve_hintsStand_111 ⟨by decide, by decide⟩ ?_
          exact aw_zret d_Ve_hintsStand_112 rfl ⟨by decide, by decide⟩ (hP _ (Or.inr rfl) ⟨fun _ => ⟨fun m a b => gg m a (by omega), fun y a b => zz y a (by omega)⟩, fun _ => rfl⟩)
        · skip
          refine aw_aload_n d_Ve_hintsStand_90 rfl rfl ?_
          refine aw_aload_n d_Ve_hintsStand_91 rfl rfl ?_
          refine ax_S (st := [vr 24]) (as := [vr 34]) (v := some (vi 3248)) (h' := sD h I L) d_Ve_hintsStand_92 cs_Ve_hintsStand_92 (c_Ve_hintsStart1 S PD) rfl rfl rfl ?_
          show AW l G M_Ve_hintsStand P 95 [(2, vi x), (1, vr 34), (0, vr 24)] [vi 3248, vr 24] (sD h I L)
          refine aw_iload_n d_Ve_hintsStand_95 rfl rfl ?_
          refine ax_iadd d_Ve_hintsStand_96 ⟨(by omega), (by omega)⟩ ?_
          refine ax_V (st := []) (as := [vi (3248 + x)]) (b := 24) (v := some (vi (byAt I 24 25 (3248 + x)))) (h' := sD h I L) d_Ve_hintsStand_97 cs_Ve_hintsStand_97 (k_24 S) (c_By_at (ks S (i := 5) (by decide)) (by rw [nks S (i := 5) (by decide)]; omega) rfl) rfl rfl rfl ?_
          show AW l G M_Ve_hintsStand P 100 [(2, vi x), (1, vr 34), (0, vr 24)] [vi (byAt I 24 25 (3248 + x))] (sD h I L)
          refine aw_if_eq (tgt := 105) d_Ve_hintsStand_100 (by decide) (fun c_100 => ?_) (fun c_100 => ?_)
          · skip
            refine ax_iinc (lv' := [(2, vi (x + 1)), (1, vr 34), (0, vr 24)]) d_Ve_hintsStand_105 rfl (by decide) ⟨(by omega), (by omega)⟩ rfl ?_
            refine aw_goto (tgt := 82) d_Ve_hintsStand_108 (by decide) ?_
            exact ih_82 _ (by omega) (x + 1) (by omega) (fun y a b => by by_cases z : y = x; exact (by rw [z]; omega); exact zz y a (by omega)) rfl
          · skip
            refine aw_iconst d_Ve_hintsStand_103 ⟨by decide, by decide⟩ ?_
            exact aw_zret d_Ve_hintsStand_104 rfl ⟨by decide, by decide⟩ (hP _ (Or.inl rfl) ⟨fun z => absurd z (by decide), fun z => by have y := z.2 x (by have := hx.1; exact this) (by omega); omega⟩)
      exact lp_82 _ (hEn (byAt I 24 25) 3303 5) (by omega) (fun y a b => by omega) rfl
    · skip
      refine aw_aload_n d_Ve_hintsStand_10 rfl rfl ?_
      refine aw_aload_n d_Ve_hintsStand_11 rfl rfl ?_
      refine aw_iload_n d_Ve_hintsStand_12 rfl rfl ?_
      refine aw_iconst d_Ve_hintsStand_13 ⟨by decide, by decide⟩ ?_
      refine ax_isub d_Ve_hintsStand_14 ⟨(by omega), (by omega)⟩ ?_
      refine ax_S (st := []) (as := [vr 24, vr 34, vi (i - 1)]) (v := some (vi (hEn (byAt I 24 25) 3303 (i - 1)))) (h' := sD h I L) d_Ve_hintsStand_15 cs_Ve_hintsStand_15 (c_Ve_hintsEnd1 S PD (by omega)) rfl rfl rfl ?_
      show AW l G M_Ve_hintsStand P 18 [(2, vi i), (1, vr 34), (0, vr 24)] [vi (hEn (byAt I 24 25) 3303 (i - 1))] (sD h I L)
      refine aw_istore_n (lv' := [(3, vi (hEn (byAt I 24 25) 3303 (i - 1))), (2, vi i), (1, vr 34), (0, vr 24)]) d_Ve_hintsStand_18 rfl (by decide) rfl ?_
      refine aw_aload_n d_Ve_hintsStand_19 rfl rfl ?_
      refine aw_aload_n d_Ve_hintsStand_20 rfl rfl ?_
      refine aw_iload_n d_Ve_hintsStand_21 rfl rfl ?_
      refine ax_S (st := []) (as := [vr 24, vr 34, vi i]) (v := some (vi (hEn (byAt I 24 25) 3303 i))) (h' := sD h I L) d_Ve_hintsStand_22 cs_Ve_hintsStand_22 (c_Ve_hintsEnd1 S PD (by omega)) rfl rfl rfl ?_
      show AW l G M_Ve_hintsStand P 25 [(3, vi (hEn (byAt I 24 25) 3303 (i - 1))), (2, vi i), (1, vr 34), (0, vr 24)] [vi (hEn (byAt I 24 25) 3303 i)] (sD h I L)
      refine aw_istore (lv' := [(4, vi (hEn (byAt I 24 25) 3303 i)), (3, vi (hEn (byAt I 24 25) 3303 (i - 1))), (2, vi i), (1, vr 34), (0, vr 24)]) d_Ve_hintsStand_25 (by decide) rfl ?_
      refine aw_iload d_Ve_hintsStand_27 rfl ?_
      refine aw_iload_n d_Ve_hintsStand_29 rfl rfl ?_
      refine aw_icmp_lt (tgt := 62) d_Ve_hintsStand_30 (by decide) (fun c_30 => ?_) (fun c_30 => ?_)
      · skip
        refine aw_iconst d_Ve_hintsStand_62 ⟨by decide, by decide⟩ ?_
        exact aw_zret d_Ve_hintsStand_63 rfl ⟨by decide, by decide⟩ (hP _ (Or.inl rfl) ⟨fun z => absurd z (by decide), fun z => by have y := z.1 i hi.1 (by omega); rw [show (3248 + 55 : Int) = 3303 from rfl] at y; omega⟩)
      · skip
        refine aw_iload d_Ve_hintsStand_33 rfl ?_
        refine aw_aload_n d_Ve_hintsStand_35 rfl rfl ?_
        refine ax_getIe (x := 55) d_Ve_hintsStand_36 fd_Ve_78 (k_34 S) (pc_34_6 PD) ?_
        refine aw_icmp_gt (tgt := 62) d_Ve_hintsStand_39 (by decide) (fun c_39 => ?_) (fun c_39 => ?_)
        · skip
          refine aw_iconst d_Ve_hintsStand_62 ⟨by decide, by decide⟩ ?_
          exact aw_zret d_Ve_hintsStand_63 rfl ⟨by decide, by decide⟩ (hP _ (Or.inl rfl) ⟨fun z => absurd z (by decide), fun z => by have y := z.1 i hi.1 (by omega); rw [show (3248 + 55 : Int) = 3303 from rfl] at y; omega⟩)
        · skip
          refine aw_aload_n d_Ve_hintsStand_42 rfl rfl ?_
          refine aw_aload_n d_Ve_hintsStand_43 rfl rfl ?_
          refine ax_S (st := [vr 24]) (as := [vr 34]) (v := some (vi 3248)) (h' := sD h I L) d_Ve_hintsStand_44 cs_Ve_hintsStand_44 (c_Ve_hintsStart1 S PD) rfl rfl rfl ?_
          show AW l G M_Ve_hintsStand P 47 [(4, vi (hEn (byAt I 24 25) 3303 i)), (3, vi (hEn (byAt I 24 25) 3303 (i - 1))), (2, vi i), (1, vr 34), (0, vr 24)] [vi 3248, vr 24] (sD h I L)
          refine aw_iload_n d_Ve_hintsStand_47 rfl rfl ?_
          refine ax_iadd d_Ve_hintsStand_48 ⟨(by omega), (by omega)⟩ ?_
          refine aw_aload_n d_Ve_hintsStand_49 rfl rfl ?_
          refine ax_S (st := [vi (3248 + (hEn (byAt I 24 25) 3303 (i - 1))), vr 24]) (as := [vr 34]) (v := some (vi 3248)) (h' := sD h I L) d_Ve_hintsStand_50 cs_Ve_hintsStand_50 (c_Ve_hintsStart1 S PD) rfl rfl rfl ?_
          show AW l G M_Ve_hintsStand P 53 [(4, vi (hEn (byAt I 24 25) 3303 i)), (3, vi (hEn (byAt I 24 25) 3303 (i - 1))), (2, vi i), (1, vr 34), (0, vr 24)] [vi 3248, vi (3248 + (hEn (byAt I 24 25) 3303 (i - 1))), vr 24] (sD h I L)
          refine aw_iload d_Ve_hintsStand_53 rfl ?_
          refine ax_iadd d_Ve_hintsStand_55 ⟨(by omega), (by omega)⟩ ?_
          refine ax_Sr (st := []) (as := [vr 24, vi (3248 + (hEn (byAt I 24 25) 3303 (i - 1))), vi (3248 + (hEn (byAt I 24 25) 3303 i))]) d_Ve_hintsStand_56 cs_Ve_hintsStand_56 (c_Ve_placesRise (ks S (i := 5) (by decide)) (by rw [nks S (i := 5) (by decide)]; omega)) rfl rfl rfl (fun u_56 q_56 => ?_)
          obtain ⟨ro, rr⟩ := q_56
          show AW l G M_Ve_hintsStand P 59 [(4, vi (hEn (byAt I 24 25) 3303 i)), (3, vi (hEn (byAt I 24 25) 3303 (i - 1))), (2, vi i), (1, vr 34), (0, vr 24)] [vi u_56] (sD h I L)
          refine aw_if_ne (tgt := 64) d_Ve_hintsStand_59 (by decide) (fun c_59 => ?_) (fun c_59 => ?_)
          · skip
            refine ax_iinc (lv' := [(2, vi (i + 1)), (4, vi (hEn (byAt I 24 25) 3303 i)), (3, vi (hEn (byAt I 24 25) 3303 (i - 1))), (1, vr 34), (0, vr 24)]) d_Ve_hintsStand_64 rfl (by decide) ⟨(by omega), (by omega)⟩ rfl ?_
            refine aw_goto (tgt := 2) d_Ve_hintsStand_67 (by decide) ?_
            refine aw_sub (lv' := [(2, vi (i + 1)), (1, vr 34), (0, vr 24)]) (by simp) ?_
            exact ih_2 _ (by omega) (i + 1) (by omega) (fun m a b => by by_cases z : m = i; exact (by rw [z]; exact ⟨by omega, by omega, rr.1 (by omega)⟩); exact gg m a (by omega)) rfl
          · skip
            refine aw_iconst d_Ve_hintsStand_62 ⟨by decide, by decide⟩ ?_
            exact aw_zret d_Ve_hintsStand_63 rfl ⟨by decide, by decide⟩ (hP _ (Or.inl rfl) ⟨fun z => absurd z (by decide), fun z => by have y := z.1 i hi.1 (by omega); rw [show (3248 + 55 : Int) = 3303 from rfl] at y; have := rr.2 y.2.2; omega⟩)
  refine aw_sub (lv' := [(2, vi 0), (1, vr 34), (0, vr 24)]) (by simp) ?_
  exact lp_2 _ 0 (by omega) (fun m a b => by omega) rfl
set_option maxHeartbeats 800000 in
set_option maxRecDepth 100000 in
theorem c_Ve_answersHide1 {l : Launch} {G : a_G} {h : Hp} {I L : Nat → Int → Int} (S : Shp h) (SD : Std I L) (hc : I 24 1 ≤ 8192) : AW l G M_Ve_answersHide (Ret (fun u : Int × (Nat → Int → Int) => some (vi u.1)) (fun u => sD h u.2 L) (fun u => FC (fun a => 119 ≤ a ∧ a ≤ 125) I L u.2 L ∧ ((u.1 = 1 ∧ (∀ m, 0 ≤ m → m < 5 → wiN 524092 (mirF (byAt I 24 25) (48 + 640 * m) 20 524288)) ∧ ∀ m, 0 ≤ m → m < 5 → eqQ (u.2 (119 + m.toNat)) (mirF (byAt I 24 25) (48 + 640 * m) 20 524288)) ∨ (u.1 = 0 ∧ ¬ ∀ m, 0 ≤ m → m < 5 → wiN 524092 (mirF (byAt I 24 25) (48 + 640 * m) 20 524288))))) 0 (a_ar 0 [vr 170, vr 24, vr 34]) [] (sD h I L) := by
  suffices key : ∀ P : a_R → Hp → Prop, (∀ (v_ : Int) (K_ : Nat → Int → Int), FC (fun a => 119 ≤ a ∧ a ≤ 125) I L K_ L ∧ ((v_ = 1 ∧ (∀ m, 0 ≤ m → m < 5 → wiN 524092 (mirF (byAt I 24 25) (48 + 640 * m) 20 524288)) ∧ ∀ m, 0 ≤ m → m < 5 → eqQ (K_ (119 + m.toNat)) (mirF (byAt I 24 25) (48 + 640 * m) 20 524288)) ∨ (v_ = 0 ∧ ¬ ∀ m, 0 ≤ m → m < 5 → wiN 524092 (mirF (byAt I 24 25) (48 + 640 * m) 20 524288))) → P (.inl (some (vi v_))) (sD h K_ L)) → AW l G M_Ve_answersHide P 0 [(0, vr 170), (1, vr 24), (2, vr 34)] [] (sD h I L) from key _ (fun v K q => ⟨(v, K), rfl, rfl, q⟩)
  intro P hP
  refine aw_iconst d_Ve_answersHide_0 ⟨by decide, by decide⟩ ?_
  refine aw_istore_n (lv' := [(3, vi 0), (0, vr 170), (1, vr 24), (2, vr 34)]) d_Ve_answersHide_1 rfl (by decide) rfl ?_
  have lp_2 : ∀ (n_ : Nat) (i : Int) (K : Nat → Int → Int), (0 ≤ i ∧ i ≤ 5) → (FC (fun a => 119 ≤ a ∧ a ≤ 125) I L K L) → (∀ m, 0 ≤ m → m < i → wiN 524092 (mirF (byAt I 24 25) (48 + 640 * m) 20 524288)) → (∀ m, 0 ≤ m → m < i → eqQ (K (119 + m.toNat)) (mirF (byAt I 24 25) (48 + 640 * m) 20 524288)) → ((5 - i).toNat) = n_ → AW l G M_Ve_answersHide P 2 [(3, vi i), (2, vr 34), (1, vr 24), (0, vr 170)] [] (sD h K L) := by
    intro n_
    induction n_ using Nat.strongRecOn with
    | _ n_ ih_2 =>
    intro i K hi F okk gg hm_2
    refine aw_iload_n d_Ve_answersHide_2 rfl rfl ?_
    refine aw_aload_n d_Ve_answersHide_3 rfl rfl ?_
    refine ax_getIe (x := 5) d_Ve_answersHide_4 fd_Ve_100 (k_34 S) (Eq.trans (F.1 34 1 (by omega)) (pc_34_1 SD.2.1)) ?_
    refine aw_icmp_ge (tgt := 89) d_Ve_answersHide_7 (by decide) (fun c_7 => ?_) (fun c_7 => ?_)
    · skip
      refine aw_iconst d_Ve_answersHide_89 ⟨by decide, by decide⟩ ?_
      exact aw_zret d_Ve_answersHide_90 rfl ⟨by decide, by decide⟩ (hP _ K ⟨F, Or.inl ⟨rfl, fun m a b => okk m a (by omega), fun m a b => gg m a (by omega)⟩⟩)
    · skip
      refine aw_aload_n d_Ve_answersHide_10 rfl rfl ?_
      refine aw_aload_n d_Ve_answersHide_11 rfl rfl ?_
      refine ax_getIe (x := 48) d_Ve_answersHide_12 fd_Ve_52 (k_34 S) (Eq.trans (F.1 34 7 (by omega)) (pc_34_7 SD.2.1)) ?_
      refine aw_iload_n d_Ve_answersHide_15 rfl rfl ?_
      refine aw_aload_n d_Ve_answersHide_16 rfl rfl ?_
      refine ax_getIe (x := 20) d_Ve_answersHide_17 fd_Ve_103 (k_34 S) (Eq.trans (F.1 34 11 (by omega)) (pc_34_11 SD.2.1)) ?_
      refine ax_S (st := [vi i, vi 48, vr 24]) (as := [vi 20]) (v := some (vi (32 * 20))) (h' := sD h K L) d_Ve_answersHide_20 cs_Ve_answersHide_20 (c_Ri_packedSize (by omega)) rfl rfl rfl ?_
      show AW l G M_Ve_answersHide P 23 [(3, vi i), (2, vr 34), (1, vr 24), (0, vr 170)] [vi (32 * 20), vi i, vi 48, vr 24] (sD h K L)
      refine ax_imul d_Ve_answersHide_23 ⟨(by omega), (by omega)⟩ ?_
      refine ax_iadd d_Ve_answersHide_24 ⟨(by omega), (by omega)⟩ ?_
      refine aw_aload_n d_Ve_answersHide_25 rfl rfl ?_
      refine ax_getIe (x := 20) d_Ve_answersHide_26 fd_Ve_103 (k_34 S) (Eq.trans (F.1 34 11 (by omega)) (pc_34_11 SD.2.1)) ?_
      refine aw_aload_n d_Ve_answersHide_29 rfl rfl ?_
      refine ax_getR (b := 36) d_Ve_answersHide_30 fd_Ve_23 (k_170 S) (r_170_0 S) ?_
      refine ax_getR (b := 118) d_Ve_answersHide_33 fd_Ve_111 (k_36 S) (r_36_6 S) ?_
      refine aw_iload_n d_Ve_answersHide_36 rfl rfl ?_
      refine ax_aald (b := 119 + i.toNat) d_Ve_answersHide_37 ⟨by rw [(k_118 S)]; decide, by rw [(k_118 S)]; decide⟩ (by omega) (by rw [n_118 S]; omega) (g_118 S (by omega) (by omega)) ?_
      refine ax_V (st := []) (as := [vi (48 + (i * (32 * 20))), vi 20, vr (119 + i.toNat)]) (b := 24) (v := none) (h' := sD h (rowTo K (119 + i.toNat) 256 (gR (fun k => byAt K 24 25 (48 + i * (32 * 20) + k)) 20)) L) d_Ve_answersHide_38 cs_Ve_answersHide_38 (k_24 S) (c_By_readBits (w := 20) (ks S (i := 5) (by decide)) ⟨kr_118 S (by omega), by omega, nr_118 S (by omega), by omega, by omega⟩ (by decide) (by rw [F.1 24 1 (by omega), nks S (i := 5) (by decide)]; omega)) rfl rfl rfl ?_
      show AW l G M_Ve_answersHide P 41 [(3, vi i), (2, vr 34), (1, vr 24), (0, vr 170)] [] (sD h (rowTo K (119 + i.toNat) 256 (gR (fun k => byAt K 24 25 (48 + i * (32 * 20) + k)) 20)) L)
      refine aw_aload_n d_Ve_answersHide_41 rfl rfl ?_
      refine ax_getR (b := 36) d_Ve_answersHide_42 fd_Ve_23 (k_170 S) (r_170_0 S) ?_
      refine ax_getR (b := 118) d_Ve_answersHide_45 fd_Ve_111 (k_36 S) (r_36_6 S) ?_
      refine aw_iload_n d_Ve_answersHide_48 rfl rfl ?_
      refine ax_aald (b := 119 + i.toNat) d_Ve_answersHide_49 ⟨by rw [(k_118 S)]; decide, by rw [(k_118 S)]; decide⟩ (by omega) (by rw [n_118 S]; omega) (g_118 S (by omega) (by omega)) ?_
      refine aw_aload_n d_Ve_answersHide_50 rfl rfl ?_
      refine ax_getIe (x := 524288) d_Ve_answersHide_51 fd_Ve_119 (k_34 S) (Eq.trans (rowTo_ne (by omega)) (Eq.trans (F.1 34 4 (by omega)) (pc_34_4 SD.2.1))) ?_
      refine ax_S (st := []) (as := [vr (119 + i.toNat), vi 524288]) (v := none) (h' := sD h (rowTo (rowTo K (119 + i.toNat) 256 (gR (fun k => byAt K 24 25 (48 + i * (32 * 20) + k)) 20)) (119 + i.toNat) 256 (fun j => (524288 - (rowTo K (119 + i.toNat) 256 (gR (fun k => byAt K 24 25 (48 + i * (32 * 20) + k)) 20)) (119 + i.toNat) j) % 8380417)) L) d_Ve_answersHide_54 cs_Ve_answersHide_54 (c_Ri_mirror ⟨kr_118 S (by omega), by omega, nr_118 S (by omega)⟩ (by decide) (fun j x y => by rw [rowTo_in x y]; have := gR_b (g := fun k => byAt K 24 25 (48 + i * (32 * 20) + k)) (w := 20) (j := j) (by decide); omega)) rfl rfl rfl ?_
      show AW l G M_Ve_answersHide P 57 [(3, vi i), (2, vr 34), (1, vr 24), (0, vr 170)] [] (sD h (rowTo (rowTo K (119 + i.toNat) 256 (gR (fun k => byAt K 24 25 (48 + i * (32 * 20) + k)) 20)) (119 + i.toNat) 256 (fun j => (524288 - (rowTo K (119 + i.toNat) 256 (gR (fun k => byAt K 24 25 (48 + i * (32 * 20) + k)) 20)) (119 + i.toNat) j) % 8380417)) L)
      have zi : eqQ ((rowTo (rowTo K (119 + i.toNat) 256 (gR (fun k => byAt K 24 25 (48 + i * (32 * 20) + k)) 20)) (119 + i.toNat) 256 (fun j => (524288 - (rowTo K (119 + i.toNat) 256 (gR (fun k => byAt K 24 25 (48 + i * (32 * 20) + k)) 20)) (119 + i.toNat) j) % 8380417)) (119 + i.toNat)) (mirF (byAt I 24 25) (48 + 640 * i) 20 524288) := fun j x y => by rw [rowTo_in x y, rowTo_in x y]; unfold mirF; rw [show (fun k => byAt K 24 25 (48 + i * (32 * 20) + k)) = (fun k => byAt I 24 25 (48 + 640 * i + k)) from funext (fun z => by rw [byAt_fc F (by omega) (by omega), show i * (32 * 20) = 640 * i by omega])]
      have Fb : FC (fun a => 119 ≤ a ∧ a ≤ 125) I L (rowTo (rowTo K (119 + i.toNat) 256 (gR (fun k => byAt K 24 25 (48 + i * (32 * 20) + k)) 20)) (119 + i.toNat) 256 (fun j => (524288 - (rowTo K (119 + i.toNat) 256 (gR (fun k => byAt K 24 25 (48 + i * (32 * 20) + k)) 20)) (119 + i.toNat) j) % 8380417)) L := (F.tr (FC.row (p := fun a => 119 ≤ a ∧ a ≤ 125) (by omega)) (fun a x => ⟨x, x⟩)).tr (FC.row (p := fun a => 119 ≤ a ∧ a ≤ 125) (by omega)) (fun a x => ⟨x, x⟩)
      refine aw_aload_n d_Ve_answersHide_57 rfl rfl ?_
      refine ax_getR (b := 36) d_Ve_answersHide_58 fd_Ve_23 (k_170 S) (r_170_0 S) ?_
      refine ax_getR (b := 118) d_Ve_answersHide_61 fd_Ve_111 (k_36 S) (r_36_6 S) ?_
      refine aw_iload_n d_Ve_answersHide_64 rfl rfl ?_
      refine ax_aald (b := 119 + i.toNat) d_Ve_answersHide_65 ⟨by rw [(k_118 S)]; decide, by rw [(k_118 S)]; decide⟩ (by omega) (by rw [n_118 S]; omega) (g_118 S (by omega) (by omega)) ?_
      refine aw_aload_n d_Ve_answersHide_66 rfl rfl ?_
      refine ax_getIe (x := 524288) d_Ve_answersHide_67 fd_Ve_119 (k_34 S) (Eq.trans (rowTo_ne (by omega)) (Eq.trans (rowTo_ne (by omega)) (Eq.trans (F.1 34 4 (by omega)) (pc_34_4 SD.2.1)))) ?_
      refine aw_aload_n d_Ve_answersHide_70 rfl rfl ?_
      refine ax_getIe (x := 196) d_Ve_answersHide_71 fd_Ve_126 (k_34 S) (Eq.trans (rowTo_ne (by omega)) (Eq.trans (rowTo_ne (by omega)) (Eq.trans (F.1 34 9 (by omega)) (pc_34_9 SD.2.1)))) ?_
      refine ax_isub d_Ve_answersHide_74 ⟨(by omega), (by omega)⟩ ?_
      refine ax_ti (x := 524092) (by decide) ?_
      refine ax_Sr (st := []) (as := [vr (119 + i.toNat), vi 524092]) d_Ve_answersHide_75 cs_Ve_answersHide_75 (c_Ri_within ⟨kr_118 S (by omega), by omega, nr_118 S (by omega)⟩ (by decide)) rfl rfl rfl (fun u_75 q_75 => ?_)
      obtain ⟨wo, wi⟩ := q_75
      have wi := wi.trans (wiN_eq zi)
      show AW l G M_Ve_answersHide P 78 [(3, vi i), (2, vr 34), (1, vr 24), (0, vr 170)] [vi u_75] (sD h (rowTo (rowTo K (119 + i.toNat) 256 (gR (fun k => byAt K 24 25 (48 + i * (32 * 20) + k)) 20)) (119 + i.toNat) 256 (fun j => (524288 - (rowTo K (119 + i.toNat) 256 (gR (fun k => byAt K 24 25 (48 + i * (32 * 20) + k)) 20)) (119 + i.toNat) j) % 8380417)) L)
      refine aw_if_ne (tgt := 83) d_Ve_answersHide_78 (by decide) (fun c_78 => ?_) (fun c_78 => ?_)
      · skip
        refine ax_iinc (lv' := [(3, vi (i + 1)), (2, vr 34), (1, vr 24), (0, vr 170)]) d_Ve_answersHide_83 rfl (by decide) ⟨(by omega), (by omega)⟩ rfl ?_
        refine aw_goto (tgt := 2) d_Ve_answersHide_86 (by decide) ?_
        exact ih_2 _ (by omega) (i + 1) (rowTo (rowTo K (119 + i.toNat) 256 (gR (fun k => byAt K 24 25 (48 + i * (32 * 20) + k)) 20)) (119 + i.toNat) 256 (fun j => (524288 - (rowTo K (119 + i.toNat) 256 (gR (fun k => byAt K 24 25 (48 + i * (32 * 20) + k)) 20)) (119 + i.toNat) j) % 8380417)) (by omega) (Fb) (fun m a b => by by_cases z : m = i; exact (by rw [z]; exact wi.1 (by omega)); exact okk m a (by omega)) (fun m a b j x y => by by_cases z : m = i; exact (by rw [z]; exact zi j x y); exact (by rw [rowTo_ne (by omega), rowTo_ne (by omega)]; exact gg m a (by omega) j x y)) rfl
      · skip
        refine aw_iconst d_Ve_answersHide_81 ⟨by decide, by decide⟩ ?_
        exact aw_zret d_Ve_answersHide_82 rfl ⟨by decide, by decide⟩ (hP _ _ ⟨Fb, Or.inr ⟨rfl, fun z => by have := wi.2 (z i hi.1 (by omega)); omega⟩⟩)
  skip
  refine aw_sub (lv' := [(3, vi 0), (2, vr 34), (1, vr 24), (0, vr 170)]) (by simp) ?_
  exact lp_2 _ 0 I (by omega) (FC.rfl') (fun m a b => by omega) (fun m a b => by omega) rfl
set_option maxHeartbeats 800000 in
set_option maxRecDepth 100000 in
theorem c_Ve_computeImages1 {l : Launch} {G : a_G} {h : Hp} {I L : Nat → Int → Int} {B : Int → Int} {Z : Int → Int → Int} (S : Shp h) (hfl : l.flags = flags0) (rm : hX h + 1 ≤ a_NX ∧ hU h + 6 ≤ a_US) (SD : Std I L) (hc : I 16 1 ≤ 8192) (hB : eqQ (I 135) B) (qB : inQ B) (hZ : ∀ m, 0 ≤ m → m < 5 → eqQ (I (119 + m.toNat)) (Z m)) (qZ : ∀ m, 0 ≤ m → m < 5 → inQ (Z m)) : AW l G M_Ve_computeImages (ThR h I L (∀ m, 0 ≤ m → m < 30 → (wide (fun x => byAt I 16 17 (0 + x)) (m % 5) (m / 5)).2.1 = 256) (fun I' L' => FC (fun a => a = 38 ∨ 45 ≤ a ∧ a ≤ 100 ∨ 119 ≤ a ∧ a ≤ 125 ∨ 127 ≤ a ∧ a ≤ 134 ∨ a = 136) I L I' L' ∧ ∀ m, 0 ≤ m → m < 6 → eqQ (I' (127 + m.toNat)) ((vmF (fun m => (wide (fun x => byAt I 16 17 (0 + x)) (m % 5) (m / 5)).2.2) (fun j => fwd rt (Z j)) B (byAt I 16 17) 5 5) m))) 0 (a_ar 0 [vr 170, vr 16, vr 34]) [] (sD h I L) := by
  suffices key : ∀ P : a_R → Hp → Prop, (∀ r_ h2_, ThR h I L (∀ m, 0 ≤ m → m < 30 → (wide (fun x => byAt I 16 17 (0 + x)) (m % 5) (m / 5)).2.1 = 256) (fun I' L' => FC (fun a => a = 38 ∨ 45 ≤ a ∧ a ≤ 100 ∨ 119 ≤ a ∧ a ≤ 125 ∨ 127 ≤ a ∧ a ≤ 134 ∨ a = 136) I L I' L' ∧ ∀ m, 0 ≤ m → m < 6 → eqQ (I' (127 + m.toNat)) ((vmF (fun m => (wide (fun x => byAt I 16 17 (0 + x)) (m % 5) (m / 5)).2.2) (fun j => fwd rt (Z j)) B (byAt I 16 17) 5 5) m)) r_ h2_ → P r_ h2_) → AW l G M_Ve_computeImages P 0 [(0, vr 170), (1, vr 16), (2, vr 34)] [] (sD h I L) from key _ (fun _ _ q => q)
  intro P hP
  refine aw_aload_n d_Ve_computeImages_0 rfl rfl ?_
  refine ax_getR (b := 36) d_Ve_computeImages_1 fd_Ve_23 (k_170 S) (r_170_0 S) ?_
  refine ax_getR (b := 37) d_Ve_computeImages_4 fd_Ve_156 (k_36 S) (r_36_0 S) ?_
  refine aw_aload_n d_Ve_computeImages_7 rfl rfl ?_
  refine aw_aload_n d_Ve_computeImages_8 rfl rfl ?_
  refine aw_aload_n d_Ve_computeImages_9 rfl rfl ?_
  refine ax_getR (b := 36) d_Ve_computeImages_10 fd_Ve_23 (k_170 S) (r_170_0 S) ?_
  refine ax_getR (b := 44) d_Ve_computeImages_13 fd_Ve_160 (k_36 S) (r_36_3 S) ?_
  refine ax_VtT (st := []) (as := [vr 16, vr 34, vr 44]) (b := 37) d_Ve_computeImages_16 cs_Ve_computeImages_16 (k_37 S) (c_Sa_matrix1 S hfl rm SD (ks S (i := 1) (by decide)) (by omega) (by rw [nks S (i := 1) (by decide)]; omega)) rfl rfl rfl (fun ok_16 I_16 L_16 q_16 => ?_) (fun no_16 I_16 L_16 q_16 => at_leave rfl (hP _ _ (Or.inr ⟨no_16, I_16, L_16, q_16, rfl, rfl⟩)))
  have F0 : FC (fun a => a = 38 ∨ 45 ≤ a ∧ a ≤ 100 ∨ 119 ≤ a ∧ a ≤ 125 ∨ 127 ≤ a ∧ a ≤ 134 ∨ a = 136) I L I_16 L_16 := q_16.1.mono (by intro a x; omega)
  have okm := ok_16
  have mt : ∀ m, 0 ≤ m → m < 30 → eqQ (I_16 (45 + m.toNat)) ((fun m => (wide (fun x => byAt I 16 17 (0 + x)) (m % 5) (m / 5)).2.2) m) := fun m a b c x y => q_16.2 m a b c x y
  show AW l G M_Ve_computeImages P 19 [(0, vr 170), (1, vr 16), (2, vr 34)] [] (sD h I_16 L_16)
  refine aw_iconst d_Ve_computeImages_19 ⟨by decide, by decide⟩ ?_
  refine aw_istore_n (lv' := [(3, vi 0), (0, vr 170), (1, vr 16), (2, vr 34)]) d_Ve_computeImages_20 rfl (by decide) rfl ?_
  have lp_21 : ∀ (n_ : Nat) (i : Int) (K : Nat → Int → Int), (0 ≤ i ∧ i ≤ 5) → (FC (fun a => a = 38 ∨ 45 ≤ a ∧ a ≤ 100 ∨ 119 ≤ a ∧ a ≤ 125 ∨ 127 ≤ a ∧ a ≤ 134 ∨ a = 136) I L K L_16) → (∀ m, 0 ≤ m → m < 30 → eqQ (K (45 + m.toNat)) ((fun m => (wide (fun x => byAt I 16 17 (0 + x)) (m % 5) (m / 5)).2.2) m)) → (∀ m, 0 ≤ m → m < i → eqQ (K (119 + m.toNat)) (fwd rt (Z m))) → (∀ m, 0 ≤ m → i ≤ m → m < 5 → eqQ (K (119 + m.toNat)) (Z m)) → ((5 - i).toNat) = n_ → AW l G M_Ve_computeImages P 21 [(3, vi i), (2, vr 34), (1, vr 16), (0, vr 170)] [] (sD h K L_16) := by
    intro n_
    induction n_ using Nat.strongRecOn with
    | _ n_ ih_21 =>
    intro i K hi F mk gg un hm_21
    refine aw_iload_n d_Ve_computeImages_21 rfl rfl ?_
    refine aw_aload_n d_Ve_computeImages_22 rfl rfl ?_
    refine ax_getIe (x := 5) d_Ve_computeImages_23 fd_Ve_100 (k_34 S) (Eq.trans (F.1 34 1 (by omega)) (pc_34_1 SD.2.1)) ?_
    refine aw_icmp_ge (tgt := 54) d_Ve_computeImages_26 (by decide) (fun c_26 => ?_) (fun c_26 => ?_)
    · skip
      refine aw_aload_n d_Ve_computeImages_54 rfl rfl ?_
      refine ax_getR (b := 36) d_Ve_computeImages_55 fd_Ve_23 (k_170 S) (r_170_0 S) ?_
      refine aw_aload_n d_Ve_computeImages_58 rfl rfl ?_
      refine ax_Vr (st := []) (as := [vr 34]) (b := 36) d_Ve_computeImages_59 cs_Ve_computeImages_59 (k_36 S) (c_Be_multiplyMatrix1 S (SD.fc F (by intro a x; omega)) (fun m hm j x y => by have z := mk m (by omega) (by omega) j x y; rw [Int.toNat_natCast] at z; rw [z]; exact wide_b.2 j) (fun m hm j x y => by have z := gg m (by omega) (by omega) j x y; rw [Int.toNat_natCast] at z; rw [z]; exact fwd_in (qZ m (by omega) (by omega)) j x y)) rfl rfl rfl (fun u_59 q_59 => ?_)
      obtain ⟨q1, q2⟩ := q_59
      have F2 : FC (fun a => a = 38 ∨ 45 ≤ a ∧ a ≤ 100 ∨ 119 ≤ a ∧ a ≤ 125 ∨ 127 ≤ a ∧ a ≤ 134 ∨ a = 136) I L u_59 L_16 := F.tr q1 (by intro a x; omega)
      have u2 : ∀ m, 0 ≤ m → m < 6 → eqQ (u_59 (127 + m.toNat)) (fun c => pS (fun m => (wide (fun x => byAt I 16 17 (0 + x)) (m % 5) (m / 5)).2.2) (fun j => fwd rt (Z j)) (m * 5) c 5 % 8380417) := fun m a c j x y => by rw [q2 m a c j x y, mS_pS (A := (fun m => (wide (fun x => byAt I 16 17 (0 + x)) (m % 5) (m / 5)).2.2)) (V := (fun j => fwd rt (Z j))) 5 (fun n hn => mk _ (by omega) (by omega) j x y) (fun n hn => by have z := gg n (by omega) (by omega) j x y; rwa [Int.toNat_natCast] at z)]
      show AW l G M_Ve_computeImages P 62 [(3, vi i), (2, vr 34), (1, vr 16), (0, vr 170)] [] (sD h u_59 L_16)
      refine aw_iconst d_Ve_computeImages_62 ⟨by decide, by decide⟩ ?_
      refine aw_istore_n (lv' := [(3, vi 0), (2, vr 34), (1, vr 16), (0, vr 170)]) d_Ve_computeImages_63 rfl (by decide) rfl ?_
      have lp_64 : ∀ (n_ : Nat) (i : Int) (K3 : Nat → Int → Int), (0 ≤ i ∧ i ≤ 6) → (FC (fun a => a = 38 ∨ 45 ≤ a ∧ a ≤ 100 ∨ 119 ≤ a ∧ a ≤ 125 ∨ 127 ≤ a ∧ a ≤ 134 ∨ a = 136) I L K3 L_16) → (∀ m, 0 ≤ m → i ≤ m → m < 6 → eqQ (K3 (127 + m.toNat)) (fun c => pS (fun m => (wide (fun x => byAt I 16 17 (0 + x)) (m % 5) (m / 5)).2.2) (fun j => fwd rt (Z j)) (m * 5) c 5 % 8380417)) → (∀ m, 0 ≤ m → m < i → eqQ (K3 (127 + m.toNat)) ((vmF (fun m => (wide (fun x => byAt I 16 17 (0 + x)) (m % 5) (m / 5)).2.2) (fun j => fwd rt (Z j)) B (byAt I 16 17) 5 5) m)) → ((6 - i).toNat) = n_ → AW l G M_Ve_computeImages P 64 [(3, vi i), (2, vr 34), (1, vr 16), (0, vr 170)] [] (sD h K3 L_16) := by
        intro n_
        induction n_ using Nat.strongRecOn with
        | _ n_ ih_64 =>
        intro i K3 hi3 F3 un3 dn hm_64
        refine aw_iload_n d_Ve_computeImages_64 rfl rfl ?_
        refine aw_aload_n d_Ve_computeImages_65 rfl rfl ?_
        refine ax_getIe (x := 6) d_Ve_computeImages_66 fd_Ve_81 (k_34 S) (Eq.trans (F3.1 34 0 (by omega)) (pc_34_0 SD.2.1)) ?_
        refine aw_icmp_ge (tgt := 146) d_Ve_computeImages_69 (by decide) (fun c_69 => ?_) (fun c_69 => ?_)
        · skip
          exact aw_vret d_Ve_computeImages_146 rfl (hP _ _ (Or.inl ⟨okm, K3, L_16, ⟨F3, fun m a b => dn m a (by omega)⟩, rfl, rfl⟩))
        · skip
          refine aw_aload_n d_Ve_computeImages_72 rfl rfl ?_
          refine aw_aload_n d_Ve_computeImages_73 rfl rfl ?_
          refine aw_iload_n d_Ve_computeImages_74 rfl rfl ?_
          refine ax_Vr (st := []) (as := [vr 16, vi i]) (b := 170) d_Ve_computeImages_75 cs_Ve_computeImages_75 (k_170 S) (c_Ve_readTop S (SD.fc F3 (by intro a x; omega)) (by rw [F3.1 16 1 (by omega)]; omega)) rfl rfl rfl (fun u_75 q_75 => ?_)
          obtain ⟨q5, q6⟩ := q_75
          have F4 : FC (fun a => a = 38 ∨ 45 ≤ a ∧ a ≤ 100 ∨ 119 ≤ a ∧ a ≤ 125 ∨ 127 ≤ a ∧ a ≤ 134 ∨ a = 136) I L u_75 L_16 := F3.tr q5 (by intro a x; omega)
          rw [show byAt K3 16 17 = byAt I 16 17 from funext (fun x => byAt_fc F3 (by omega) (by omega))] at q6
          show AW l G M_Ve_computeImages P 78 [(3, vi i), (2, vr 34), (1, vr 16), (0, vr 170)] [] (sD h u_75 L_16)
          refine aw_aload_n d_Ve_computeImages_78 rfl rfl ?_
          refine ax_getR (b := 36) d_Ve_computeImages_79 fd_Ve_23 (k_170 S) (r_170_0 S) ?_
          refine ax_getR (b := 135) d_Ve_computeImages_82 fd_Ve_182 (k_36 S) (r_36_8 S) ?_
          refine aw_aload_n d_Ve_computeImages_85 rfl rfl ?_
          refine ax_getR (b := 36) d_Ve_computeImages_86 fd_Ve_23 (k_170 S) (r_170_0 S) ?_
          refine ax_getR (b := 136) d_Ve_computeImages_89 fd_Ve_186 (k_36 S) (r_36_9 S) ?_
          refine aw_aload_n d_Ve_computeImages_92 rfl rfl ?_
          refine ax_getR (b := 36) d_Ve_computeImages_93 fd_Ve_23 (k_170 S) (r_170_0 S) ?_
          refine ax_getR (b := 136) d_Ve_computeImages_96 fd_Ve_186 (k_36 S) (r_36_9 S) ?_
          refine ax_S (st := []) (as := [vr 135, vr 136, vr 136]) (v := none) (h' := sD h (rowTo u_75 136 256 (fun j => u_75 135 j * u_75 136 j % 8380417)) L_16) d_Ve_computeImages_99 cs_Ve_computeImages_99 (c_Ri_multiply ⟨k_135 S, by decide, n_135 S⟩ ⟨k_136 S, by decide, n_136 S⟩ ⟨k_136 S, by decide, n_136 S⟩ (fun j x y => by rw [F4.1 _ _ (by omega), hB j x y]; exact qB j x y) (fun j x y => by rw [q6 j x y]; exact fwd_in tpF_in j x y)) rfl rfl rfl ?_
          show AW l G M_Ve_computeImages P 102 [(3, vi i), (2, vr 34), (1, vr 16), (0, vr 170)] [] (sD h (rowTo u_75 136 256 (fun j => u_75 135 j * u_75 136 j % 8380417)) L_16)
          refine aw_aload_n d_Ve_computeImages_102 rfl rfl ?_
          refine ax_getR (b := 36) d_Ve_computeImages_103 fd_Ve_23 (k_170 S) (r_170_0 S) ?_
          refine ax_getR (b := 126) d_Ve_computeImages_106 fd_Ve_193 (k_36 S) (r_36_7 S) ?_
          refine aw_iload_n d_Ve_computeImages_109 rfl rfl ?_
          refine ax_aald (b := 127 + i.toNat) d_Ve_computeImages_110 ⟨by rw [(k_126 S)]; decide, by rw [(k_126 S)]; decide⟩ (by omega) (by rw [n_126 S]; omega) (g_126 S (by omega) (by omega)) ?_
          refine aw_aload_n d_Ve_computeImages_111 rfl rfl ?_
          refine ax_getR (b := 36) d_Ve_computeImages_112 fd_Ve_23 (k_170 S) (r_170_0 S) ?_
          refine ax_getR (b := 136) d_Ve_computeImages_115 fd_Ve_186 (k_36 S) (r_36_9 S) ?_
          refine ax_S (st := []) (as := [vr (127 + i.toNat), vr 136]) (v := none) (h' := sD h (rowTo (rowTo u_75 136 256 (fun j => u_75 135 j * u_75 136 j % 8380417)) (127 + i.toNat) 256 (fun j => ((rowTo u_75 136 256 (fun j => u_75 135 j * u_75 136 j % 8380417)) (127 + i.toNat) j - (rowTo u_75 136 256 (fun j => u_75 135 j * u_75 136 j % 8380417)) 136 j) % 8380417)) L_16) d_Ve_computeImages_118 cs_Ve_computeImages_118 (c_Ri_takeFrom ⟨kr_126 S (by omega), by omega, nr_126 S (by omega)⟩ ⟨k_136 S, by decide, n_136 S⟩ (fun j x y => by rw [rowTo_ne (by omega), q5.1 _ _ (by omega), un3 i hi3.1 (Int.le_refl _) (by omega) j x y]; show 0 ≤ _ % 8380417 ∧ _ % 8380417 < 8380417; exact ⟨Int.emod_nonneg _ (by decide), Int.emod_lt_of_pos _ (by decide)⟩) (fun j x y => by rw [rowTo_in x y]; exact ⟨Int.emod_nonneg _ (by decide), Int.emod_lt_of_pos _ (by decide)⟩)) rfl rfl rfl ?_
          show AW l G M_Ve_computeImages P 121 [(3, vi i), (2, vr 34), (1, vr 16), (0, vr 170)] [] (sD h (rowTo (rowTo u_75 136 256 (fun j => u_75 135 j * u_75 136 j % 8380417)) (127 + i.toNat) 256 (fun j => ((rowTo u_75 136 256 (fun j => u_75 135 j * u_75 136 j % 8380417)) (127 + i.toNat) j - (rowTo u_75 136 256 (fun j => u_75 135 j * u_75 136 j % 8380417)) 136 j) % 8380417)) L_16)
          have FM : FC (fun a => a = 38 ∨ 45 ≤ a ∧ a ≤ 100 ∨ 119 ≤ a ∧ a ≤ 125 ∨ 127 ≤ a ∧ a ≤ 134 ∨ a = 136) I L (rowTo (rowTo u_75 136 256 (fun j => u_75 135 j * u_75 136 j % 8380417)) (127 + i.toNat) 256 (fun j => ((rowTo u_75 136 256 (fun j => u_75 135 j * u_75 136 j % 8380417)) (127 + i.toNat) j - (rowTo u_75 136 256 (fun j => u_75 135 j * u_75 136 j % 8380417)) 136 j) % 8380417)) L_16 := (F4.tr (FC.row (p := fun a => a = 38 ∨ 45 ≤ a ∧ a ≤ 100 ∨ 119 ≤ a ∧ a ≤ 125 ∨ 127 ≤ a ∧ a ≤ 134 ∨ a = 136) (by omega)) (fun a x => ⟨x, x⟩)).tr (FC.row (p := fun a => a = 38 ∨ 45 ≤ a ∧ a ≤ 100 ∨ 119 ≤ a ∧ a ≤ 125 ∨ 127 ≤ a ∧ a ≤ 134 ∨ a = 136) (by omega)) (fun a x => ⟨x, x⟩)
          refine aw_aload_n d_Ve_computeImages_121 rfl rfl ?_
          refine ax_getR (b := 36) d_Ve_computeImages_122 fd_Ve_23 (k_170 S) (r_170_0 S) ?_
          refine ax_getR (b := 42) d_Ve_computeImages_125 fd_Ve_168 (k_36 S) (r_36_2 S) ?_
          refine aw_aload_n d_Ve_computeImages_128 rfl rfl ?_
          refine ax_getR (b := 36) d_Ve_computeImages_129 fd_Ve_23 (k_170 S) (r_170_0 S) ?_
          refine ax_getR (b := 126) d_Ve_computeImages_132 fd_Ve_193 (k_36 S) (r_36_7 S) ?_
          refine aw_iload_n d_Ve_computeImages_135 rfl rfl ?_
          refine ax_aald (b := 127 + i.toNat) d_Ve_computeImages_136 ⟨by rw [(k_126 S)]; decide, by rw [(k_126 S)]; decide⟩ (by omega) (by rw [n_126 S]; omega) (g_126 S (by omega) (by omega)) ?_
          refine ax_V (st := []) (as := [vr (127 + i.toNat)]) (b := 42) (v := none) (h' := sD h (cset (rowTo (rowTo u_75 136 256 (fun j => u_75 135 j * u_75 136 j % 8380417)) (127 + i.toNat) 256 (fun j => ((rowTo u_75 136 256 (fun j => u_75 135 j * u_75 136 j % 8380417)) (127 + i.toNat) j - (rowTo u_75 136 256 (fun j => u_75 135 j * u_75 136 j % 8380417)) 136 j) % 8380417)) (127 + i.toNat) (bck ((rowTo (rowTo u_75 136 256 (fun j => u_75 135 j * u_75 136 j % 8380417)) (127 + i.toNat) 256 (fun j => ((rowTo u_75 136 256 (fun j => u_75 135 j * u_75 136 j % 8380417)) (127 + i.toNat) j - (rowTo u_75 136 256 (fun j => u_75 135 j * u_75 136 j % 8380417)) 136 j) % 8380417)) 43) ((rowTo (rowTo u_75 136 256 (fun j => u_75 135 j * u_75 136 j % 8380417)) (127 + i.toNat) 256 (fun j => ((rowTo u_75 136 256 (fun j => u_75 135 j * u_75 136 j % 8380417)) (127 + i.toNat) j - (rowTo u_75 136 256 (fun j => u_75 135 j * u_75 136 j % 8380417)) 136 j) % 8380417)) (127 + i.toNat)))) L_16) d_Ve_computeImages_137 cs_Ve_computeImages_137 (k_42 S) (c_Ri_back S ⟨kr_126 S (by omega), by omega, nr_126 S (by omega)⟩ (by omega) (fun j x y => by rw [rowTo_in x y]; exact ⟨Int.emod_nonneg _ (by decide), Int.emod_lt_of_pos _ (by decide)⟩) (SD.fc FM (by intro a x; omega)).R) rfl rfl rfl ?_
          show AW l G M_Ve_computeImages P 140 [(3, vi i), (2, vr 34), (1, vr 16), (0, vr 170)] [] (sD h (cset (rowTo (rowTo u_75 136 256 (fun j => u_75 135 j * u_75 136 j % 8380417)) (127 + i.toNat) 256 (fun j => ((rowTo u_75 136 256 (fun j => u_75 135 j * u_75 136 j % 8380417)) (127 + i.toNat) j - (rowTo u_75 136 256 (fun j => u_75 135 j * u_75 136 j % 8380417)) 136 j) % 8380417)) (127 + i.toNat) (bck ((rowTo (rowTo u_75 136 256 (fun j => u_75 135 j * u_75 136 j % 8380417)) (127 + i.toNat) 256 (fun j => ((rowTo u_75 136 256 (fun j => u_75 135 j * u_75 136 j % 8380417)) (127 + i.toNat) j - (rowTo u_75 136 256 (fun j => u_75 135 j * u_75 136 j % 8380417)) 136 j) % 8380417)) 43) ((rowTo (rowTo u_75 136 256 (fun j => u_75 135 j * u_75 136 j % 8380417)) (127 + i.toNat) 256 (fun j => ((rowTo u_75 136 256 (fun j => u_75 135 j * u_75 136 j % 8380417)) (127 + i.toNat) j - (rowTo u_75 136 256 (fun j => u_75 135 j * u_75 136 j % 8380417)) 136 j) % 8380417)) (127 + i.toNat)))) L_16)
          refine ax_iinc (lv' := [(3, vi (i + 1)), (2, vr 34), (1, vr 16), (0, vr 170)]) d_Ve_computeImages_140 rfl (by decide) ⟨(by omega), (by omega)⟩ rfl ?_
          refine aw_goto (tgt := 64) d_Ve_computeImages_143 (by decide) ?_
          exact ih_64 _ (by omega) (i + 1) (cset (rowTo (rowTo u_75 136 256 (fun j => u_75 135 j * u_75 136 j % 8380417)) (127 + i.toNat) 256 (fun j => ((rowTo u_75 136 256 (fun j => u_75 135 j * u_75 136 j % 8380417)) (127 + i.toNat) j - (rowTo u_75 136 256 (fun j => u_75 135 j * u_75 136 j % 8380417)) 136 j) % 8380417)) (127 + i.toNat) (bck ((rowTo (rowTo u_75 136 256 (fun j => u_75 135 j * u_75 136 j % 8380417)) (127 + i.toNat) 256 (fun j => ((rowTo u_75 136 256 (fun j => u_75 135 j * u_75 136 j % 8380417)) (127 + i.toNat) j - (rowTo u_75 136 256 (fun j => u_75 135 j * u_75 136 j % 8380417)) 136 j) % 8380417)) 43) ((rowTo (rowTo u_75 136 256 (fun j => u_75 135 j * u_75 136 j % 8380417)) (127 + i.toNat) 256 (fun j => ((rowTo u_75 136 256 (fun j => u_75 135 j * u_75 136 j % 8380417)) (127 + i.toNat) j - (rowTo u_75 136 256 (fun j => u_75 135 j * u_75 136 j % 8380417)) 136 j) % 8380417)) (127 + i.toNat)))) (by omega) (FM.tr (FC.cs (p := fun a => a = 38 ∨ 45 ≤ a ∧ a ≤ 100 ∨ 119 ≤ a ∧ a ≤ 125 ∨ 127 ≤ a ∧ a ≤ 134 ∨ a = 136) (by omega)) (fun a x => ⟨x, x⟩)) (fun m a b c j x y => by rw [cset_ne (by omega), rowTo_ne (by omega), rowTo_ne (by omega), q5.1 _ _ (by omega)]; exact un3 m a (by omega) c j x y) (fun m a b j x y => by by_cases z : m = i; exact (by rw [z, cset_at, (SD.fc FM (by intro a x; omega)).2.2]; exact bck_eq (fun c u v => by rw [rowTo_in u v, rowTo_in u v, rowTo_ne (by omega), q5.1 _ _ (by omega), un3 i hi3.1 (Int.le_refl _) (by omega) c u v, F4.1 135 c (by omega), hB c u v, q6 c u v]) j x y); exact (by rw [cset_ne (by omega), rowTo_ne (by omega), rowTo_ne (by omega), q5.1 _ _ (by omega)]; exact dn m a (by omega) j x y)) rfl
      skip
      exact lp_64 _ 0 u_59 (by omega) (F2) (fun m a b c => u2 m a c) (fun m a b => by omega) rfl
    · skip
      refine aw_aload_n d_Ve_computeImages_29 rfl rfl ?_
      refine ax_getR (b := 36) d_Ve_computeImages_30 fd_Ve_23 (k_170 S) (r_170_0 S) ?_
      refine ax_getR (b := 42) d_Ve_computeImages_33 fd_Ve_168 (k_36 S) (r_36_2 S) ?_
      refine aw_aload_n d_Ve_computeImages_36 rfl rfl ?_
      refine ax_getR (b := 36) d_Ve_computeImages_37 fd_Ve_23 (k_170 S) (r_170_0 S) ?_
      refine ax_getR (b := 118) d_Ve_computeImages_40 fd_Ve_111 (k_36 S) (r_36_6 S) ?_
      refine aw_iload_n d_Ve_computeImages_43 rfl rfl ?_
      refine ax_aald (b := 119 + i.toNat) d_Ve_computeImages_44 ⟨by rw [(k_118 S)]; decide, by rw [(k_118 S)]; decide⟩ (by omega) (by rw [n_118 S]; omega) (g_118 S (by omega) (by omega)) ?_
      refine ax_V (st := []) (as := [vr (119 + i.toNat)]) (b := 42) (v := none) (h' := sD h (cset K (119 + i.toNat) (fwd (K 43) (K (119 + i.toNat)))) L_16) d_Ve_computeImages_45 cs_Ve_computeImages_45 (k_42 S) (c_Ri_forward S ⟨kr_118 S (by omega), by omega, nr_118 S (by omega)⟩ (by omega) (fun j x y => by rw [un i hi.1 (Int.le_refl _) (by omega) j x y]; exact qZ i hi.1 (by omega) j x y) (SD.fc F (by intro a x; omega)).R) rfl rfl rfl ?_
      show AW l G M_Ve_computeImages P 48 [(3, vi i), (2, vr 34), (1, vr 16), (0, vr 170)] [] (sD h (cset K (119 + i.toNat) (fwd (K 43) (K (119 + i.toNat)))) L_16)
      refine ax_iinc (lv' := [(3, vi (i + 1)), (2, vr 34), (1, vr 16), (0, vr 170)]) d_Ve_computeImages_48 rfl (by decide) ⟨(by omega), (by omega)⟩ rfl ?_
      refine aw_goto (tgt := 21) d_Ve_computeImages_51 (by decide) ?_
      exact ih_21 _ (by omega) (i + 1) (cset K (119 + i.toNat) (fwd (K 43) (K (119 + i.toNat)))) (by omega) (F.tr (FC.cs (p := fun a => a = 38 ∨ 45 ≤ a ∧ a ≤ 100 ∨ 119 ≤ a ∧ a ≤ 125 ∨ 127 ≤ a ∧ a ≤ 134 ∨ a = 136) (by omega)) (fun a x => ⟨x, x⟩)) (fun m a b c x y => by rw [cset_ne (by omega)]; exact mk m a b c x y) (fun m a b j x y => by by_cases z : m = i; exact (by rw [z, cset_at, (SD.fc F (by intro a x; omega)).2.2]; exact fwd_eq (un i hi.1 (Int.le_refl _) (by omega)) j x y); exact (by rw [cset_ne (by omega)]; exact gg m a (by omega) j x y)) (fun m a b c j x y => by rw [cset_ne (by omega)]; exact un m a (by omega) c j x y) rfl
  skip
  refine aw_sub (lv' := [(3, vi 0), (2, vr 34), (1, vr 16), (0, vr 170)]) (by simp) ?_
  exact lp_21 _ 0 I_16 (by omega) (F0) (mt) (fun m a b => by omega) (fun m a b c j x y => (q_16.1.1 _ j (by omega)).trans (hZ m a c j x y)) rfl
set_option maxHeartbeats 800000 in
set_option maxRecDepth 100000 in
theorem c_Ve_packHighs1 {l : Launch} {G : a_G} {h : Hp} {I L : Nat → Int → Int} {W : Int → Int → Int} (S : Shp h) (SD : Std I L) (hc0 : I 24 1 ≤ 8192) (hS : hSt (byAt I 24 25) 3248 55 6) (hW : ∀ m, 0 ≤ m → m < 6 → eqQ (I (127 + m.toNat)) (W m)) (qW : ∀ m, 0 ≤ m → m < 6 → inQ (W m)) : AW l G M_Ve_packHighs (Ret (fun _ : Nat → Int → Int => none) (fun K => sD h K L) (fun K => FC (fun a => a = 136 ∨ a = 141 ∨ a = 142) I L K L ∧ HB K 141 142 768 (hvB (byAt I 24 25) 3248 55 261888 16 4 128 W))) 0 (a_ar 0 [vr 170, vr 24, vr 34]) [] (sD h I L) := by
  suffices key : ∀ P : a_R → Hp → Prop, (∀ K : Nat → Int → Int, FC (fun a => a = 136 ∨ a = 141 ∨ a = 142) I L K L → HB K 141 142 768 (hvB (byAt I 24 25) 3248 55 261888 16 4 128 W) → P (.inl none) (sD h K L)) → AW l G M_Ve_packHighs P 0 [(0, vr 170), (1, vr 24), (2, vr 34)] [] (sD h I L) from key _ (fun K q1 q2 => ⟨K, rfl, rfl, q1, q2⟩)
  intro P hP
  refine aw_aload_n d_Ve_packHighs_0 rfl rfl ?_
  refine ax_getR (b := 36) d_Ve_packHighs_1 fd_Ve_23 (k_170 S) (r_170_0 S) ?_
  refine ax_getR (b := 141) d_Ve_packHighs_4 fd_Ve_203 (k_36 S) (r_36_12 S) ?_
  refine ax_V (st := []) (as := []) (b := 141) (v := none) (h' := sD h (a_up I 141 1 0) L) d_Ve_packHighs_7 cs_Ve_packHighs_7 (k_141 S) (c_By_clear ⟨k_141 S, r_141_0 S, k_142 S, by decide, by decide, by decide⟩) rfl rfl rfl ?_
  show AW l G M_Ve_packHighs P 10 [(0, vr 170), (1, vr 24), (2, vr 34)] [] (sD h (a_up I 141 1 0) L)
  refine aw_iconst d_Ve_packHighs_10 ⟨by decide, by decide⟩ ?_
  refine aw_istore_n (lv' := [(3, vi 0), (0, vr 170), (1, vr 24), (2, vr 34)]) d_Ve_packHighs_11 rfl (by decide) rfl ?_
  have lp_12 : ∀ (n_ : Nat) (i : Int) (K : Nat → Int → Int), (0 ≤ i ∧ i ≤ 6) → (FC (fun a => a = 136 ∨ a = 141 ∨ a = 142) I L K L) → (HB K 141 142 (128 * i) (hvB (byAt I 24 25) 3248 55 261888 16 4 128 W)) → ((6 - i).toNat) = n_ → AW l G M_Ve_packHighs P 12 [(3, vi i), (2, vr 34), (1, vr 24), (0, vr 170)] [] (sD h K L) := by
    intro n_
    induction n_ using Nat.strongRecOn with
    | _ n_ ih_12 =>
    intro i K hi F H hm_12
    have b1 := hEn_b (o4 := 3303) (i := i - 1) (fun i => byAt_b (I := I) (b := 24) (r := 25) (i := i))
    have b2 := hEn_b (o4 := 3303) (i := i) (fun i => byAt_b (I := I) (b := 24) (r := 25) (i := i))
    refine aw_iload_n d_Ve_packHighs_12 rfl rfl ?_
    refine aw_aload_n d_Ve_packHighs_13 rfl rfl ?_
    refine ax_getIe (x := 6) d_Ve_packHighs_14 fd_Ve_81 (k_34 S) (Eq.trans (F.1 34 0 (by omega)) (pc_34_0 SD.2.1)) ?_
    refine aw_icmp_ge (tgt := 171) d_Ve_packHighs_17 (by decide) (fun c_17 => ?_) (fun c_17 => ?_)
    · skip
      exact aw_vret d_Ve_packHighs_171 rfl (hP K F (by rw [show 768 = 128 * i by omega]; exact H))
    · skip
      refine aw_aload_n d_Ve_packHighs_20 rfl rfl ?_
      refine aw_aload_n d_Ve_packHighs_21 rfl rfl ?_
      refine aw_iload_n d_Ve_packHighs_22 rfl rfl ?_
      refine aw_iconst d_Ve_packHighs_23 ⟨by decide, by decide⟩ ?_
      refine ax_isub d_Ve_packHighs_24 ⟨(by omega), (by omega)⟩ ?_
      refine ax_S (st := []) (as := [vr 24, vr 34, vi (i - 1)]) (v := some (vi (hEn (byAt I 24 25) 3303 (i - 1)))) (h' := sD h K L) d_Ve_packHighs_25 cs_Ve_packHighs_25 (by have z := c_Ve_hintsEnd1 (l := l) (G := G) (L := L) (I := K) (i := i - 1) S (SD.fc F (by intro a x; omega)).2.1 (by rw [F.1 24 1 (by omega)]; omega); rw [show byAt K 24 25 = byAt I 24 25 from funext (fun x => byAt_fc F (by omega) (by omega))] at z; exact z) rfl rfl rfl ?_
      show AW l G M_Ve_packHighs P 28 [(3, vi i), (2, vr 34), (1, vr 24), (0, vr 170)] [vi (hEn (byAt I 24 25) 3303 (i - 1))] (sD h K L)
      refine aw_istore (lv' := [(4, vi (hEn (byAt I 24 25) 3303 (i - 1))), (3, vi i), (2, vr 34), (1, vr 24), (0, vr 170)]) d_Ve_packHighs_28 (by decide) rfl ?_
      refine aw_aload_n d_Ve_packHighs_30 rfl rfl ?_
      refine aw_aload_n d_Ve_packHighs_31 rfl rfl ?_
      refine aw_iload_n d_Ve_packHighs_32 rfl rfl ?_
      refine ax_S (st := []) (as := [vr 24, vr 34, vi i]) (v := some (vi (hEn (byAt I 24 25) 3303 i))) (h' := sD h K L) d_Ve_packHighs_33 cs_Ve_packHighs_33 (by have z := c_Ve_hintsEnd1 (l := l) (G := G) (L := L) (I := K) (i := i) S (SD.fc F (by intro a x; omega)).2.1 (by rw [F.1 24 1 (by omega)]; omega); rw [show byAt K 24 25 = byAt I 24 25 from funext (fun x => byAt_fc F (by omega) (by omega))] at z; exact z) rfl rfl rfl ?_
      show AW l G M_Ve_packHighs P 36 [(4, vi (hEn (byAt I 24 25) 3303 (i - 1))), (3, vi i), (2, vr 34), (1, vr 24), (0, vr 170)] [vi (hEn (byAt I 24 25) 3303 i)] (sD h K L)
      refine aw_istore (lv' := [(5, vi (hEn (byAt I 24 25) 3303 i)), (4, vi (hEn (byAt I 24 25) 3303 (i - 1))), (3, vi i), (2, vr 34), (1, vr 24), (0, vr 170)]) d_Ve_packHighs_36 (by decide) rfl ?_
      have st_ := hS.1 i hi.1 (by omega)
      rw [show (3248 + 55 : Int) = 3303 from rfl] at st_
      refine aw_iconst d_Ve_packHighs_38 ⟨by decide, by decide⟩ ?_
      refine aw_istore (lv' := [(6, vi 0), (5, vi (hEn (byAt I 24 25) 3303 i)), (4, vi (hEn (byAt I 24 25) 3303 (i - 1))), (3, vi i), (2, vr 34), (1, vr 24), (0, vr 170)]) d_Ve_packHighs_39 (by decide) rfl ?_
      have lp_41 : ∀ (n_ : Nat) (c : Int) (x : Int), (0 ≤ c ∧ c ≤ 256) → (hEn (byAt I 24 25) 3303 (i - 1) ≤ x ∧ x ≤ hEn (byAt I 24 25) 3303 i) → (∀ y, hEn (byAt I 24 25) 3303 (i - 1) ≤ y → y < x → byAt I 24 25 (3248 + y) < c) → (∀ y, x ≤ y → y < hEn (byAt I 24 25) 3303 i → c ≤ byAt I 24 25 (3248 + y)) → ((256 - c).toNat) = n_ → AW l G M_Ve_packHighs P 41 [(6, vi c), (5, vi (hEn (byAt I 24 25) 3303 i)), (4, vi x), (3, vi i), (2, vr 34), (1, vr 24), (0, vr 170)] [] (sD h (rowTo K 136 c (fun x => hvV (byAt I 24 25) 3248 55 261888 16 i x (W i x))) L) := by
        intro n_
        induction n_ using Nat.strongRecOn with
        | _ n_ ih_41 =>
        intro c x hc hx lo up hm_41
        have PJ : ParD (rowTo K 136 c (fun x => hvV (byAt I 24 25) 3248 55 261888 16 i x (W i x))) := (SD.fc (F.tr (FC.row (p := fun a => a = 136) rfl) (r := fun a => a = 136 ∨ a = 141 ∨ a = 142) (by intro a x; omega)) (by intro a x; omega)).2.1
        have gp : (rowTo K 136 c (fun x => hvV (byAt I 24 25) 3248 55 261888 16 i x (W i x))) 34 5 = 261888 := pc_34_5 PJ
        have gh : (rowTo K 136 c (fun x => hvV (byAt I 24 25) 3248 55 261888 16 i x (W i x))) 34 8 = 16 := pc_34_8 PJ
        refine aw_iload d_Ve_packHighs_41 rfl ?_
        refine aw_sipush d_Ve_packHighs_43 ⟨by decide, by decide⟩ (by decide) ?_
        refine aw_icmp_ge (tgt := 144) d_Ve_packHighs_46 (by decide) (fun c_46 => ?_) (fun c_46 => ?_)
        · skip
          rw [show c = 256 by omega]
          refine aw_aload_n d_Ve_packHighs_144 rfl rfl ?_
          refine ax_getR (b := 36) d_Ve_packHighs_145 fd_Ve_23 (k_170 S) (r_170_0 S) ?_
          refine ax_getR (b := 141) d_Ve_packHighs_148 fd_Ve_203 (k_36 S) (r_36_12 S) ?_
          refine aw_aload_n d_Ve_packHighs_151 rfl rfl ?_
          refine ax_getR (b := 36) d_Ve_packHighs_152 fd_Ve_23 (k_170 S) (r_170_0 S) ?_
          refine ax_getR (b := 136) d_Ve_packHighs_155 fd_Ve_186 (k_36 S) (r_36_9 S) ?_
          refine aw_aload_n d_Ve_packHighs_158 rfl rfl ?_
          refine ax_getIe (x := 4) d_Ve_packHighs_159 fd_Ve_215 (k_34 S) (Eq.trans (rowTo_ne (by omega)) (Eq.trans (F.1 34 12 (by omega)) (pc_34_12 SD.2.1))) ?_
          refine ax_V (st := []) (as := [vr 136, vi 4]) (b := 141) (v := none) (h' := sD h (byPut (rowTo K 136 256 (fun x => hvV (byAt I 24 25) 3248 55 261888 16 i x (W i x))) 141 142 (32 * 4) (gB ((rowTo K 136 256 (fun x => hvV (byAt I 24 25) 3248 55 261888 16 i x (W i x))) 136) 4)) L) d_Ve_packHighs_162 cs_Ve_packHighs_162 (k_141 S) (by have z := c_By_addBits (l := l) (G := G) (L := L) (I := rowTo K 136 256 (fun x => hvV (byAt I 24 25) 3248 55 261888 16 i x (W i x))) (w := 4) ⟨k_141 S, r_141_0 S, k_142 S, by decide, by decide, by decide⟩ ⟨k_136 S, by decide, n_136 S, by decide, by decide⟩ (by decide) (fun j x y => by rw [rowTo_in x y]; have := hvV_b (g := (byAt I 24 25)) (o3 := 3248) (w := 55) (i := i) (j := j) (qW i hi.1 (by omega) j x y); omega) (by rw [rowTo_ne (by decide), H.1, n_142 S]; omega); exact z) rfl rfl rfl ?_
          show AW l G M_Ve_packHighs P 165 [(6, vi 256), (5, vi (hEn (byAt I 24 25) 3303 i)), (4, vi x), (3, vi i), (2, vr 34), (1, vr 24), (0, vr 170)] [] (sD h (byPut (rowTo K 136 256 (fun x => hvV (byAt I 24 25) 3248 55 261888 16 i x (W i x))) 141 142 (32 * 4) (gB ((rowTo K 136 256 (fun x => hvV (byAt I 24 25) 3248 55 261888 16 i x (W i x))) 136) 4)) L)
          refine ax_iinc (lv' := [(3, vi (i + 1)), (6, vi 256), (5, vi (hEn (byAt I 24 25) 3303 i)), (4, vi x), (2, vr 34), (1, vr 24), (0, vr 170)]) d_Ve_packHighs_165 rfl (by decide) ⟨(by omega), (by omega)⟩ rfl ?_
          refine aw_goto (tgt := 12) d_Ve_packHighs_168 (by decide) ?_
          refine aw_sub (lv' := [(3, vi (i + 1)), (2, vr 34), (1, vr 24), (0, vr 170)]) (by simp) ?_
          exact ih_12 _ (by omega) (i + 1) (byPut (rowTo K 136 256 (fun x => hvV (byAt I 24 25) 3248 55 261888 16 i x (W i x))) 141 142 (32 * 4) (gB ((rowTo K 136 256 (fun x => hvV (byAt I 24 25) 3248 55 261888 16 i x (W i x))) 136) 4)) (by omega) ((F.tr (FC.row (p := fun a => a = 136 ∨ a = 141 ∨ a = 142) (by omega)) (fun a x => ⟨x, x⟩)).tr (FC.put (p := fun a => a = 136 ∨ a = 141 ∨ a = 142) (by omega) (by omega)) (fun a x => ⟨x, x⟩)) (by rw [show 128 * (i + 1) = 128 * i + 32 * 4 by omega]; exact (H.fc (L := L) (L' := L) (FC.row (p := fun a => a = 136) rfl) (by decide) (by decide)).put (by decide) (by omega) (by decide) (fun z x y => by rw [gB_m]; unfold hvB; rw [show (128 * i + z) / 128 = i by omega, show (128 * i + z) % 128 = z by omega, gB_congr (G := fun j => hvV (byAt I 24 25) 3248 55 261888 16 i j (W i j)) (fun j u v => by rw [rowTo_in u v])])) rfl
        · skip
          have wr := qW i hi.1 (by omega) c hc.1 (by omega)
          refine aw_aload_n d_Ve_packHighs_49 rfl rfl ?_
          refine ax_getR (b := 36) d_Ve_packHighs_50 fd_Ve_23 (k_170 S) (r_170_0 S) ?_
          refine ax_getR (b := 126) d_Ve_packHighs_53 fd_Ve_193 (k_36 S) (r_36_7 S) ?_
          refine aw_iload_n d_Ve_packHighs_56 rfl rfl ?_
          refine ax_aald (b := 127 + i.toNat) d_Ve_packHighs_57 ⟨by rw [(k_126 S)]; decide, by rw [(k_126 S)]; decide⟩ (by omega) (by rw [n_126 S]; omega) (g_126 S (by omega) (by omega)) ?_
          refine aw_iload d_Ve_packHighs_58 rfl ?_
          refine ax_ialde (x := W i c) d_Ve_packHighs_60 (kr_126 S (by omega)) (by omega) (by rw [nr_126 S (by omega)]; omega) (Eq.trans (rowTo_ne (by omega)) ((F.1 (127 + i.toNat) c (by omega)).trans (hW i hi.1 (by omega) c hc.1 (by omega)))) ?_
          refine aw_istore (lv' := [(7, vi (W i c)), (6, vi c), (5, vi (hEn (byAt I 24 25) 3303 i)), (4, vi x), (3, vi i), (2, vr 34), (1, vr 24), (0, vr 170)]) d_Ve_packHighs_61 (by decide) rfl ?_
          refine aw_iload d_Ve_packHighs_63 rfl ?_
          refine aw_iload d_Ve_packHighs_65 rfl ?_
          refine aw_icmp_ge (tgt := 90) d_Ve_packHighs_67 (by decide) (fun c_67 => ?_) (fun c_67 => ?_)
          · skip
            refine aw_iconst d_Ve_packHighs_90 ⟨by decide, by decide⟩ ?_
            refine aw_istore (lv' := [(8, vi 0), (7, vi (W i c)), (6, vi c), (5, vi (hEn (byAt I 24 25) 3303 i)), (4, vi x), (3, vi i), (2, vr 34), (1, vr 24), (0, vr 170)]) d_Ve_packHighs_91 (by decide) rfl ?_
            refine aw_aload_n d_Ve_packHighs_93 rfl rfl ?_
            refine ax_getR (b := 36) d_Ve_packHighs_94 fd_Ve_23 (k_170 S) (r_170_0 S) ?_
            refine ax_getR (b := 136) d_Ve_packHighs_97 fd_Ve_186 (k_36 S) (r_36_9 S) ?_
            refine aw_iload d_Ve_packHighs_100 rfl ?_
            refine aw_iload d_Ve_packHighs_102 rfl ?_
            refine aw_if_eq (tgt := 116) d_Ve_packHighs_104 (by decide) (fun c_104 => ?_) (fun c_104 => False.elim (by omega))
            refine aw_aload_n d_Ve_packHighs_116 rfl rfl ?_
            refine aw_iload d_Ve_packHighs_117 rfl ?_
            refine ax_V (st := [vi c, vr 136]) (as := [vi (W i c)]) (b := 34) (v := some (vi (dHigh 261888 (W i c)))) (h' := sD h (rowTo K 136 c (fun x => hvV (byAt I 24 25) 3248 55 261888 16 i x (W i x))) L) d_Ve_packHighs_119 cs_Ve_packHighs_119 (k_34 S) (by have z := c_Pa_high (l := l) (G := G) (L := L) (I := rowTo K 136 c (fun x => hvV (byAt I 24 25) 3248 55 261888 16 i x (W i x))) (p := 34) (r := W i c) (k_34 S) (by rw [gp]; decide) wr; rw [gp] at z; exact z) rfl rfl rfl ?_
            show AW l G M_Ve_packHighs P 122 [(8, vi 0), (7, vi (W i c)), (6, vi c), (5, vi (hEn (byAt I 24 25) 3303 i)), (4, vi x), (3, vi i), (2, vr 34), (1, vr 24), (0, vr 170)] [vi (dHigh 261888 (W i c)), vi c, vr 136] (sD h (rowTo K 136 c (fun x => hvV (byAt I 24 25) 3248 55 261888 16 i x (W i x))) L)
            refine ax_iast d_Ve_packHighs_122 (k_136 S) (by decide) (by omega) (by rw [n_136 S]; omega) ?_
            rw [show dHigh 261888 (W i c) = hvV (byAt I 24 25) 3248 55 261888 16 i c (W i c) from (hvV_n (fun ⟨y, y1, y2, y3⟩ => by rw [show (3248 + 55 : Int) = 3303 from rfl] at y1 y2; by_cases z : y < x; exact absurd (lo y y1 z) (by omega); by_cases z2 : y = x; exact (by rw [z2] at y3 y2; omega); have u1 := up x (by omega) (by omega); have u2 := rises_at st_.2.2 (x := 3248 + x) (y := 3248 + y) (by omega) (by omega) (by omega); omega)).symm]
            rw [rowTo_1 (by omega) rfl]
            refine aw_iload d_Ve_packHighs_123 rfl ?_
            refine aw_iload d_Ve_packHighs_125 rfl ?_
            refine aw_if_eq (tgt := 134) d_Ve_packHighs_127 (by decide) (fun c_127 => ?_) (fun c_127 => False.elim (by omega))
            refine aw_iconst d_Ve_packHighs_134 ⟨by decide, by decide⟩ ?_
            refine ax_iadd d_Ve_packHighs_135 ⟨(by omega), (by omega)⟩ ?_
            refine aw_istore (lv' := [(4, vi (x + 0)), (8, vi 0), (7, vi (W i c)), (6, vi c), (5, vi (hEn (byAt I 24 25) 3303 i)), (3, vi i), (2, vr 34), (1, vr 24), (0, vr 170)]) d_Ve_packHighs_136 (by decide) rfl ?_
            refine ax_iinc (lv' := [(6, vi (c + 1)), (4, vi (x + 0)), (8, vi 0), (7, vi (W i c)), (5, vi (hEn (byAt I 24 25) 3303 i)), (3, vi i), (2, vr 34), (1, vr 24), (0, vr 170)]) d_Ve_packHighs_138 rfl (by decide) ⟨(by omega), (by omega)⟩ rfl ?_
            refine aw_goto (tgt := 41) d_Ve_packHighs_141 (by decide) ?_
            refine aw_sub (lv' := [(6, vi (c + 1)), (5, vi (hEn (byAt I 24 25) 3303 i)), (4, vi (x + 0)), (3, vi i), (2, vr 34), (1, vr 24), (0, vr 170)]) (by simp) ?_
            exact ih_41 _ (by omega) (c + 1) (x + 0) (by omega) (by omega) (fun y a b => by have := lo y a (by omega); omega) (fun y a b => by have u_ := up y (by omega) b; by_cases z : y = x; exact (by rw [z] at u_ ⊢; omega); have := rises_at st_.2.2 (x := 3248 + x) (y := 3248 + y) (by omega) (by omega) (by omega); have := up x (by omega) (by omega); omega) rfl
          · skip
            refine aw_aload_n d_Ve_packHighs_70 rfl rfl ?_
            refine aw_aload_n d_Ve_packHighs_71 rfl rfl ?_
            refine ax_S (st := [vr 24]) (as := [vr 34]) (v := some (vi 3248)) (h' := sD h (rowTo K 136 c (fun x => hvV (byAt I 24 25) 3248 55 261888 16 i x (W i x))) L) d_Ve_packHighs_72 cs_Ve_packHighs_72 (c_Ve_hintsStart1 S PJ) rfl rfl rfl ?_
            show AW l G M_Ve_packHighs P 75 [(7, vi (W i c)), (6, vi c), (5, vi (hEn (byAt I 24 25) 3303 i)), (4, vi x), (3, vi i), (2, vr 34), (1, vr 24), (0, vr 170)] [vi 3248, vr 24] (sD h (rowTo K 136 c (fun x => hvV (byAt I 24 25) 3248 55 261888 16 i x (W i x))) L)
            refine aw_iload d_Ve_packHighs_75 rfl ?_
            refine ax_iadd d_Ve_packHighs_77 ⟨(by omega), (by omega)⟩ ?_
            refine ax_V (st := []) (as := [vi (3248 + x)]) (b := 24) (v := some (vi (byAt I 24 25 (3248 + x)))) (h' := sD h (rowTo K 136 c (fun x => hvV (byAt I 24 25) 3248 55 261888 16 i x (W i x))) L) d_Ve_packHighs_78 cs_Ve_packHighs_78 (k_24 S) (c_By_at (ks S (i := 5) (by decide)) (by rw [rowTo_ne (by omega), F.1 24 1 (by omega), nks S (i := 5) (by decide)]; omega) ((byAt_fc (L := L) (L' := L) (FC.row (p := fun a => a = 136) rfl) (by decide) (by decide)).trans (byAt_fc F (by omega) (by omega)))) rfl rfl rfl ?_
            show AW l G M_Ve_packHighs P 81 [(7, vi (W i c)), (6, vi c), (5, vi (hEn (byAt I 24 25) 3303 i)), (4, vi x), (3, vi i), (2, vr 34), (1, vr 24), (0, vr 170)] [vi (byAt I 24 25 (3248 + x))] (sD h (rowTo K 136 c (fun x => hvV (byAt I 24 25) 3248 55 261888 16 i x (W i x))) L)
            refine aw_iload d_Ve_packHighs_81 rfl ?_
            refine aw_icmp_ne (tgt := 90) d_Ve_packHighs_83 (by decide) (fun c_83 => ?_) (fun c_83 => ?_)
            · skip
              refine aw_iconst d_Ve_packHighs_90 ⟨by decide, by decide⟩ ?_
              refine aw_istore (lv' := [(8, vi 0), (7, vi (W i c)), (6, vi c), (5, vi (hEn (byAt I 24 25) 3303 i)), (4, vi x), (3, vi i), (2, vr 34), (1, vr 24), (0, vr 170)]) d_Ve_packHighs_91 (by decide) rfl ?_
              refine aw_aload_n d_Ve_packHighs_93 rfl rfl ?_
              refine ax_getR (b := 36) d_Ve_packHighs_94 fd_Ve_23 (k_170 S) (r_170_0 S) ?_
              refine ax_getR (b := 136) d_Ve_packHighs_97 fd_Ve_186 (k_36 S) (r_36_9 S) ?_
              refine aw_iload d_Ve_packHighs_100 rfl ?_
              refine aw_iload d_Ve_packHighs_102 rfl ?_
              refine aw_if_eq (tgt := 116) d_Ve_packHighs_104 (by decide) (fun c_104 => ?_) (fun c_104 => False.elim (by omega))
              refine aw_aload_n d_Ve_packHighs_116 rfl rfl ?_
              refine aw_iload d_Ve_packHighs_117 rfl ?_
              refine ax_V (st := [vi c, vr 136]) (as := [vi (W i c)]) (b := 34) (v := some (vi (dHigh 261888 (W i c)))) (h' := sD h (rowTo K 136 c (fun x => hvV (byAt I 24 25) 3248 55 261888 16 i x (W i x))) L) d_Ve_packHighs_119 cs_Ve_packHighs_119 (k_34 S) (by have z := c_Pa_high (l := l) (G := G) (L := L) (I := rowTo K 136 c (fun x => hvV (byAt I 24 25) 3248 55 261888 16 i x (W i x))) (p := 34) (r := W i c) (k_34 S) (by rw [gp]; decide) wr; rw [gp] at z; exact z) rfl rfl rfl ?_
              show AW l G M_Ve_packHighs P 122 [(8, vi 0), (7, vi (W i c)), (6, vi c), (5, vi (hEn (byAt I 24 25) 3303 i)), (4, vi x), (3, vi i), (2, vr 34), (1, vr 24), (0, vr 170)] [vi (dHigh 261888 (W i c)), vi c, vr 136] (sD h (rowTo K 136 c (fun x => hvV (byAt I 24 25) 3248 55 261888 16 i x (W i x))) L)
              refine ax_iast d_Ve_packHighs_122 (k_136 S) (by decide) (by omega) (by rw [n_136 S]; omega) ?_
              rw [show dHigh 261888 (W i c) = hvV (byAt I 24 25) 3248 55 261888 16 i c (W i c) from (hvV_n (fun ⟨y, y1, y2, y3⟩ => by rw [show (3248 + 55 : Int) = 3303 from rfl] at y1 y2; by_cases z : y < x; exact absurd (lo y y1 z) (by omega); by_cases z2 : y = x; exact (by rw [z2] at y3 y2; omega); have u1 := up x (by omega) (by omega); have u2 := rises_at st_.2.2 (x := 3248 + x) (y := 3248 + y) (by omega) (by omega) (by omega); omega)).symm]
              rw [rowTo_1 (by omega) rfl]
              refine aw_iload d_Ve_packHighs_123 rfl ?_
              refine aw_iload d_Ve_packHighs_125 rfl ?_
              refine aw_if_eq (tgt := 134) d_Ve_packHighs_127 (by decide) (fun c_127 => ?_) (fun c_127 => False.elim (by omega))
              refine aw_iconst d_Ve_packHighs_134 ⟨by decide, by decide⟩ ?_
              refine ax_iadd d_Ve_packHighs_135 ⟨(by omega), (by omega)⟩ ?_
              refine aw_istore (lv' := [(4, vi (x + 0)), (8, vi 0), (7, vi (W i c)), (6, vi c), (5, vi (hEn (byAt I 24 25) 3303 i)), (3, vi i), (2, vr 34), (1, vr 24), (0, vr 170)]) d_Ve_packHighs_136 (by decide) rfl ?_
              refine ax_iinc (lv' := [(6, vi (c + 1)), (4, vi (x + 0)), (8, vi 0), (7, vi (W i c)), (5, vi (hEn (byAt I 24 25) 3303 i)), (3, vi i), (2, vr 34), (1, vr 24), (0, vr 170)]) d_Ve_packHighs_138 rfl (by decide) ⟨(by omega), (by omega)⟩ rfl ?_
              refine aw_goto (tgt := 41) d_Ve_packHighs_141 (by decide) ?_
              refine aw_sub (lv' := [(6, vi (c + 1)), (5, vi (hEn (byAt I 24 25) 3303 i)), (4, vi (x + 0)), (3, vi i), (2, vr 34), (1, vr 24), (0, vr 170)]) (by simp) ?_
              exact ih_41 _ (by omega) (c + 1) (x + 0) (by omega) (by omega) (fun y a b => by have := lo y a (by omega); omega) (fun y a b => by have u_ := up y (by omega) b; by_cases z : y = x; exact (by rw [z] at u_ ⊢; omega); have := rises_at st_.2.2 (x := 3248 + x) (y := 3248 + y) (by omega) (by omega) (by omega); have := up x (by omega) (by omega); omega) rfl
            · skip
              refine aw_iconst d_Ve_packHighs_86 ⟨by decide, by decide⟩ ?_
              refine aw_goto (tgt := 91) d_Ve_packHighs_87 (by decide) ?_
              refine aw_istore (lv' := [(8, vi 1), (7, vi (W i c)), (6, vi c), (5, vi (hEn (byAt I 24 25) 3303 i)), (4, vi x), (3, vi i), (2, vr 34), (1, vr 24), (0, vr 170)]) d_Ve_packHighs_91 (by decide) rfl ?_
              refine aw_aload_n d_Ve_packHighs_93 rfl rfl ?_
              refine ax_getR (b := 36) d_Ve_packHighs_94 fd_Ve_23 (k_170 S) (r_170_0 S) ?_
              refine ax_getR (b := 136) d_Ve_packHighs_97 fd_Ve_186 (k_36 S) (r_36_9 S) ?_
              refine aw_iload d_Ve_packHighs_100 rfl ?_
              refine aw_iload d_Ve_packHighs_102 rfl ?_
              refine aw_if_eq (tgt := 116) d_Ve_packHighs_104 (by decide) (fun c_104 => False.elim (by omega)) (fun c_104 => ?_)
              refine aw_aload_n d_Ve_packHighs_107 rfl rfl ?_
              refine aw_iload d_Ve_packHighs_108 rfl ?_
              refine ax_V (st := [vi c, vr 136]) (as := [vi (W i c)]) (b := 34) (v := some (vi (hHigh 261888 16 (W i c)))) (h' := sD h (rowTo K 136 c (fun x => hvV (byAt I 24 25) 3248 55 261888 16 i x (W i x))) L) d_Ve_packHighs_110 cs_Ve_packHighs_110 (k_34 S) (by have z := c_Pa_hintedHigh (l := l) (G := G) (L := L) (I := rowTo K 136 c (fun x => hvV (byAt I 24 25) 3248 55 261888 16 i x (W i x))) (p := 34) (r := W i c) (k_34 S) (by rw [gp]; decide) wr (by rw [gp, gh]; have := dHi16 wr; omega); rw [gp, gh] at z; exact z) rfl rfl rfl ?_
              show AW l G M_Ve_packHighs P 113 [(8, vi 1), (7, vi (W i c)), (6, vi c), (5, vi (hEn (byAt I 24 25) 3303 i)), (4, vi x), (3, vi i), (2, vr 34), (1, vr 24), (0, vr 170)] [vi (hHigh 261888 16 (W i c)), vi c, vr 136] (sD h (rowTo K 136 c (fun x => hvV (byAt I 24 25) 3248 55 261888 16 i x (W i x))) L)
              refine aw_goto (tgt := 122) d_Ve_packHighs_113 (by decide) ?_
              refine ax_iast d_Ve_packHighs_122 (k_136 S) (by decide) (by omega) (by rw [n_136 S]; omega) ?_
              rw [show hHigh 261888 16 (W i c) = hvV (byAt I 24 25) 3248 55 261888 16 i c (W i c) from (hvV_y ⟨x, by show hEn (byAt I 24 25) 3303 (i - 1) ≤ x; omega, by show x < hEn (byAt I 24 25) 3303 i; omega, by omega⟩).symm]
              rw [rowTo_1 (by omega) rfl]
              refine aw_iload d_Ve_packHighs_123 rfl ?_
              refine aw_iload d_Ve_packHighs_125 rfl ?_
              refine aw_if_eq (tgt := 134) d_Ve_packHighs_127 (by decide) (fun c_127 => False.elim (by omega)) (fun c_127 => ?_)
              refine aw_iconst d_Ve_packHighs_130 ⟨by decide, by decide⟩ ?_
              refine aw_goto (tgt := 135) d_Ve_packHighs_131 (by decide) ?_
              refine ax_iadd d_Ve_packHighs_135 ⟨(by omega), (by omega)⟩ ?_
              refine aw_istore (lv' := [(4, vi (x + 1)), (8, vi 1), (7, vi (W i c)), (6, vi c), (5, vi (hEn (byAt I 24 25) 3303 i)), (3, vi i), (2, vr 34), (1, vr 24), (0, vr 170)]) d_Ve_packHighs_136 (by decide) rfl ?_
              refine ax_iinc (lv' := [(6, vi (c + 1)), (4, vi (x + 1)), (8, vi 1), (7, vi (W i c)), (5, vi (hEn (byAt I 24 25) 3303 i)), (3, vi i), (2, vr 34), (1, vr 24), (0, vr 170)]) d_Ve_packHighs_138 rfl (by decide) ⟨(by omega), (by omega)⟩ rfl ?_
              refine aw_goto (tgt := 41) d_Ve_packHighs_141 (by decide) ?_
              refine aw_sub (lv' := [(6, vi (c + 1)), (5, vi (hEn (byAt I 24 25) 3303 i)), (4, vi (x + 1)), (3, vi i), (2, vr 34), (1, vr 24), (0, vr 170)]) (by simp) ?_
              exact ih_41 _ (by omega) (c + 1) (x + 1) (by omega) (by omega) (fun y a b => by by_cases z : y = x; exact (by rw [z]; omega); have := lo y a (by omega); omega) (fun y a b => by have := rises_at st_.2.2 (x := 3248 + x) (y := 3248 + y) (by omega) (by omega) (by omega); omega) rfl
      refine ax_hp (h' := sD h (rowTo K 136 0 (fun x => hvV (byAt I 24 25) 3248 55 261888 16 i x (W i x))) L) (by rw [rowTo_0]) ?_
      exact lp_41 _ 0 (hEn (byAt I 24 25) 3303 (i - 1)) (by omega) (by omega) (fun y a b => by omega) (fun y a b => byAt_b.1) rfl
  skip
  refine aw_sub (lv' := [(3, vi 0), (2, vr 34), (1, vr 24), (0, vr 170)]) (by simp) ?_
  exact lp_12 _ 0 (a_up I 141 1 0) (by omega) (FC.up (p := fun a => a = 136 ∨ a = 141 ∨ a = 142) (by omega)) (by rw [Int.mul_zero]; exact HB.zero) rfl
set_option maxHeartbeats 800000 in
set_option maxRecDepth 100000 in
theorem c_Ve_hintsStart2 {l : Launch} {G : a_G} {h : Hp} {I L : Nat → Int → Int} (S : Shp h) (PD : ParD I) : AW l G M_Ve_hintsStart (Rx (some (vi 4544)) (sD h I L)) 0 (a_ar 0 [vr 35]) [] (sD h I L) := by
  suffices key : ∀ P : a_R → Hp → Prop, (P (.inl (some (vi 4544))) (sD h I L)) → AW l G M_Ve_hintsStart P 0 [(0, vr 35)] [] (sD h I L) from key _ (⟨rfl, rfl⟩)
  intro P hP
  refine aw_aload_n d_Ve_hintsStart_0 rfl rfl ?_
  refine ax_getIe (x := 4627) d_Ve_hintsStart_1 fd_Ve_31 (k_35 S) (pc_35_15 PD) ?_
  refine aw_aload_n d_Ve_hintsStart_4 rfl rfl ?_
  refine ax_getIe (x := 75) d_Ve_hintsStart_5 fd_Ve_78 (k_35 S) (pc_35_6 PD) ?_
  refine ax_isub d_Ve_hintsStart_8 ⟨(by omega), (by omega)⟩ ?_
  refine ax_ti (x := 4552) (by decide) ?_
  refine aw_aload_n d_Ve_hintsStart_9 rfl rfl ?_
  refine ax_getIe (x := 8) d_Ve_hintsStart_10 fd_Ve_81 (k_35 S) (pc_35_0 PD) ?_
  refine ax_isub d_Ve_hintsStart_13 ⟨(by omega), (by omega)⟩ ?_
  refine ax_ti (x := 4544) (by decide) ?_
  exact aw_iret d_Ve_hintsStart_14 rfl hP
set_option maxHeartbeats 800000 in
set_option maxRecDepth 100000 in
theorem c_Ve_hintsEnd2 {l : Launch} {G : a_G} {h : Hp} {I L : Nat → Int → Int} {i : Int} (S : Shp h) (PD : ParD I) (hc : I 24 1 ≤ 8192 ∧ -10 < i ∧ i < 100) : AW l G M_Ve_hintsEnd (Rx (some (vi (hEn (byAt I 24 25) 4619 i))) (sD h I L)) 0 (a_ar 0 [vr 24, vr 35, vi i]) [] (sD h I L) := by
  suffices key : ∀ P : a_R → Hp → Prop, (P (.inl (some (vi (hEn (byAt I 24 25) 4619 i)))) (sD h I L)) → AW l G M_Ve_hintsEnd P 0 [(0, vr 24), (1, vr 35), (2, vi i)] [] (sD h I L) from key _ (⟨rfl, rfl⟩)
  intro P hP
  refine aw_iload_n d_Ve_hintsEnd_0 rfl rfl ?_
  refine aw_if_ge (tgt := 8) d_Ve_hintsEnd_1 (by decide) (fun c_1 => ?_) (fun c_1 => ?_)
  · skip
    refine aw_aload_n d_Ve_hintsEnd_8 rfl rfl ?_
    refine aw_aload_n d_Ve_hintsEnd_9 rfl rfl ?_
    refine ax_S (st := [vr 24]) (as := [vr 35]) (v := some (vi 4544)) (h' := sD h I L) d_Ve_hintsEnd_10 cs_Ve_hintsEnd_10 (c_Ve_hintsStart2 S PD) rfl rfl rfl ?_
    show AW l G M_Ve_hintsEnd P 13 [(0, vr 24), (1, vr 35), (2, vi i)] [vi 4544, vr 24] (sD h I L)
    refine aw_aload_n d_Ve_hintsEnd_13 rfl rfl ?_
    refine ax_getIe (x := 75) d_Ve_hintsEnd_14 fd_Ve_78 (k_35 S) (pc_35_6 PD) ?_
    refine ax_iadd d_Ve_hintsEnd_17 ⟨(by omega), (by omega)⟩ ?_
    refine ax_ti (x := 4619) (by decide) ?_
    refine aw_iload_n d_Ve_hintsEnd_18 rfl rfl ?_
    refine ax_iadd d_Ve_hintsEnd_19 ⟨(by omega), (by omega)⟩ ?_
    refine ax_V (st := []) (as := [vi (4619 + i)]) (b := 24) (v := some (vi (byAt I 24 25 (4619 + i)))) (h' := sD h I L) d_Ve_hintsEnd_20 cs_Ve_hintsEnd_20 (k_24 S) (c_By_at (ks S (i := 5) (by decide)) (by rw [nks S (i := 5) (by decide)]; omega) rfl) rfl rfl rfl ?_
    show AW l G M_Ve_hintsEnd P 23 [(0, vr 24), (1, vr 35), (2, vi i)] [vi (byAt I 24 25 (4619 + i))] (sD h I L)
    exact aw_iret d_Ve_hintsEnd_23 rfl (by rw [show byAt I 24 25 (4619 + i) = hEn (byAt I 24 25) 4619 i from by unfold hEn; rw [if_neg (by omega)]]; exact hP)
  · skip
    refine aw_iconst d_Ve_hintsEnd_4 ⟨by decide, by decide⟩ ?_
    refine aw_goto (tgt := 23) d_Ve_hintsEnd_5 (by decide) ?_
    exact aw_iret d_Ve_hintsEnd_23 rfl (by rw [show 0 = hEn (byAt I 24 25) 4619 i from by unfold hEn; rw [if_pos (by omega)]]; exact hP)
set_option maxHeartbeats 800000 in
set_option maxRecDepth 100000 in
theorem c_Ve_hintsStand2 {l : Launch} {G : a_G} {h : Hp} {I L : Nat → Int → Int} (S : Shp h) (PD : ParD I) (hc : I 24 1 ≤ 8192) : AW l G M_Ve_hintsStand (Ret (fun u : Int => some (vi u)) (fun _ => sD h I L) (fun u => (u = 0 ∨ u = 1) ∧ (u = 1 ↔ hSt (byAt I 24 25) 4544 75 8))) 0 (a_ar 0 [vr 24, vr 35]) [] (sD h I L) := by
  suffices key : ∀ P : a_R → Hp → Prop, (∀ v : Int, (v = 0 ∨ v = 1) → (v = 1 ↔ hSt (byAt I 24 25) 4544 75 8) → P (.inl (some (vi v))) (sD h I L)) → AW l G M_Ve_hintsStand P 0 [(0, vr 24), (1, vr 35)] [] (sD h I L) from key _ (fun v q1 q2 => ⟨v, rfl, rfl, q1, q2⟩)
  intro P hP
  refine aw_iconst d_Ve_hintsStand_0 ⟨by decide, by decide⟩ ?_
  refine aw_istore_n (lv' := [(2, vi 0), (0, vr 24), (1, vr 35)]) d_Ve_hintsStand_1 rfl (by decide) rfl ?_
  have lp_2 : ∀ (n_ : Nat) (i : Int), (0 ≤ i ∧ i ≤ 8) → (∀ m, 0 ≤ m → m < i → hEn (byAt I 24 25) 4619 (m - 1) ≤ hEn (byAt I 24 25) 4619 m ∧ hEn (byAt I 24 25) 4619 m ≤ 75 ∧ rises (byAt I 24 25) (4544 + hEn (byAt I 24 25) 4619 (m - 1)) (4544 + hEn (byAt I 24 25) 4619 m)) → ((8 - i).toNat) = n_ → AW l G M_Ve_hintsStand P 2 [(2, vi i), (1, vr 35), (0, vr 24)] [] (sD h I L) := by
    intro n_
    induction n_ using Nat.strongRecOn with
    | _ n_ ih_2 =>
    intro i hi gg hm_2
    have b1 := hEn_b (o4 := 4619) (i := i - 1) (fun i => byAt_b (I := I) (b := 24) (r := 25) (i := i))
    have b2 := hEn_b (o4 := 4619) (i := i) (fun i => byAt_b (I := I) (b := 24) (r := 25) (i := i))
    have b3 := hEn_b (o4 := 4619) (i := 7) (fun i => byAt_b (I := I) (b := 24) (r := 25) (i := i))
    refine aw_iload_n d_Ve_hintsStand_2 rfl rfl ?_
    refine aw_aload_n d_Ve_hintsStand_3 rfl rfl ?_
    refine ax_getIe (x := 8) d_Ve_hintsStand_4 fd_Ve_81 (k_35 S) (pc_35_0 PD) ?_
    refine aw_icmp_ge (tgt := 70) d_Ve_hintsStand_7 (by decide) (fun c_7 => ?_) (fun c_7 => ?_)
    · skip
      refine aw_aload_n d_Ve_hintsStand_70 rfl rfl ?_
      refine aw_aload_n d_Ve_hintsStand_71 rfl rfl ?_
      refine aw_aload_n d_Ve_hintsStand_72 rfl rfl ?_
      refine ax_getIe (x := 8) d_Ve_hintsStand_73 fd_Ve_81 (k_35 S) (pc_35_0 PD) ?_
      refine aw_iconst d_Ve_hintsStand_76 ⟨by decide, by decide⟩ ?_
      refine ax_isub d_Ve_hintsStand_77 ⟨(by omega), (by omega)⟩ ?_
      refine ax_ti (x := 7) (by decide) ?_
      refine ax_S (st := []) (as := [vr 24, vr 35, vi 7]) (v := some (vi (hEn (byAt I 24 25) 4619 7))) (h' := sD h I L) d_Ve_hintsStand_78 cs_Ve_hintsStand_78 (c_Ve_hintsEnd2 S PD (by omega)) rfl rfl rfl ?_
      show AW l G M_Ve_hintsStand P 81 [(2, vi i), (1, vr 35), (0, vr 24)] [vi (hEn (byAt I 24 25) 4619 7)] (sD h I L)
      refine aw_istore_n (lv' := [(2, vi (hEn (byAt I 24 25) 4619 7)), (1, vr 35), (0, vr 24)]) d_Ve_hintsStand_81 rfl (by decide) rfl ?_
      have lp_82 : ∀ (n_ : Nat) (x : Int), (hEn (byAt I 24 25) 4619 7 ≤ x ∧ 0 ≤ x ∧ x ≤ 256) → (∀ y, hEn (byAt I 24 25) 4619 7 ≤ y → y < x → byAt I 24 25 (4544 + y) = 0) → ((75 - x).toNat) = n_ → AW l G M_Ve_hintsStand P 82 [(2, vi x), (1, vr 35), (0, vr 24)] [] (sD h I L) := by
        intro n_
        induction n_ using Nat.strongRecOn with
        | _ n_ ih_82 =>
        intro x hx zz hm_82
        refine aw_iload_n d_Ve_hintsStand_82 rfl rfl ?_
        refine aw_aload_n d_Ve_hintsStand_83 rfl rfl ?_
        refine ax_getIe (x := 75) d_Ve_hintsStand_84 fd_Ve_78 (k_35 S) (pc_35_6 PD) ?_
        refine aw_icmp_ge (tgt := 111) d_Ve_hintsStand_87 (by decide) (fun c_87 => ?_) (fun c_87 => ?_)
        · skip
          refine aw_iconst d_Ve_hintsStand_111 ⟨by decide, by decide⟩ ?_
          exact aw_zret d_Ve_hintsStand_112 rfl ⟨by decide, by decide⟩ (hP _ (Or.inr rfl) ⟨fun _ => ⟨fun m a b => gg m a (by omega), fun y a b => zz y a (by omega)⟩, fun _ => rfl⟩)
        · skip
          refine aw_aload_n d_Ve_hintsStand_90 rfl rfl ?_
          refine aw_aload_n d_Ve_hintsStand_91 rfl rfl ?_
          refine ax_S (st := [vr 24]) (as := [vr 35]) (v := some (vi 4544)) (h' := sD h I L) d_Ve_hintsStand_92 cs_Ve_hintsStand_92 (c_Ve_hintsStart2 S PD) rfl rfl rfl ?_
          show AW l G M_Ve_hintsStand P 95 [(2, vi x), (1, vr 35), (0, vr 24)] [vi 4544, vr 24] (sD h I L)
          refine aw_iload_n d_Ve_hintsStand_95 rfl rfl ?_
          refine ax_iadd d_Ve_hintsStand_96 ⟨(by omega), (by omega)⟩ ?_
          refine ax_V (st := []) (as := [vi (4544 + x)]) (b := 24) (v := some (vi (byAt I 24 25 (4544 + x)))) (h' := sD h I L) d_Ve_hintsStand_97 cs_Ve_hintsStand_97 (k_24 S) (c_By_at (ks S (i := 5) (by decide)) (by rw [nks S (i := 5) (by decide)]; omega) rfl) rfl rfl rfl ?_
          show AW l G M_Ve_hintsStand P 100 [(2, vi x), (1, vr 35), (0, vr 24)] [vi (byAt I 24 25 (4544 + x))] (sD h I L)
          refine aw_if_eq (tgt := 105) d_Ve_hintsStand_100 (by decide) (fun c_100 => ?_) (fun c_100 => ?_)
          · skip
            refine ax_iinc (lv' := [(2, vi (x + 1)), (1, vr 35), (0, vr 24)]) d_Ve_hintsStand_105 rfl (by decide) ⟨(by omega), (by omega)⟩ rfl ?_
            refine aw_goto (tgt := 82) d_Ve_hintsStand_108 (by decide) ?_
            exact ih_82 _ (by omega) (x + 1) (by omega) (fun y a b => by by_cases z : y = x; exact (by rw [z]; omega); exact zz y a (by omega)) rfl
          · skip
            refine aw_iconst d_Ve_hintsStand_103 ⟨by decide, by decide⟩ ?_
            exact aw_zret d_Ve_hintsStand_104 rfl ⟨by decide, by decide⟩ (hP _ (Or.inl rfl) ⟨fun z => absurd z (by decide), fun z => by have y := z.2 x (by have := hx.1; exact this) (by omega); omega⟩)
      exact lp_82 _ (hEn (byAt I 24 25) 4619 7) (by omega) (fun y a b => by omega) rfl
    · skip
      refine aw_aload_n d_Ve_hintsStand_10 rfl rfl ?_
      refine aw_aload_n d_Ve_hintsStand_11 rfl rfl ?_
      refine aw_iload_n d_Ve_hintsStand_12 rfl rfl ?_
      refine aw_iconst d_Ve_hintsStand_13 ⟨by decide, by decide⟩ ?_
      refine ax_isub d_Ve_hintsStand_14 ⟨(by omega), (by omega)⟩ ?_
      refine ax_S (st := []) (as := [vr 24, vr 35, vi (i - 1)]) (v := some (vi (hEn (byAt I 24 25) 4619 (i - 1)))) (h' := sD h I L) d_Ve_hintsStand_15 cs_Ve_hintsStand_15 (c_Ve_hintsEnd2 S PD (by omega)) rfl rfl rfl ?_
      show AW l G M_Ve_hintsStand P 18 [(2, vi i), (1, vr 35), (0, vr 24)] [vi (hEn (byAt I 24 25) 4619 (i - 1))] (sD h I L)
      refine aw_istore_n (lv' := [(3, vi (hEn (byAt I 24 25) 4619 (i - 1))), (2, vi i), (1, vr 35), (0, vr 24)]) d_Ve_hintsStand_18 rfl (by decide) rfl ?_
      refine aw_aload_n d_Ve_hintsStand_19 rfl rfl ?_
      refine aw_aload_n d_Ve_hintsStand_20 rfl rfl ?_
      refine aw_iload_n d_Ve_hintsStand_21 rfl rfl ?_
      refine ax_S (st := []) (as := [vr 24, vr 35, vi i]) (v := some (vi (hEn (byAt I 24 25) 4619 i))) (h' := sD h I L) d_Ve_hintsStand_22 cs_Ve_hintsStand_22 (c_Ve_hintsEnd2 S PD (by omega)) rfl rfl rfl ?_
      show AW l G M_Ve_hintsStand P 25 [(3, vi (hEn (byAt I 24 25) 4619 (i - 1))), (2, vi i), (1, vr 35), (0, vr 24)] [vi (hEn (byAt I 24 25) 4619 i)] (sD h I L)
      refine aw_istore (lv' := [(4, vi (hEn (byAt I 24 25) 4619 i)), (3, vi (hEn (byAt I 24 25) 4619 (i - 1))), (2, vi i), (1, vr 35), (0, vr 24)]) d_Ve_hintsStand_25 (by decide) rfl ?_
      refine aw_iload d_Ve_hintsStand_27 rfl ?_
      refine aw_iload_n d_Ve_hintsStand_29 rfl rfl ?_
      refine aw_icmp_lt (tgt := 62) d_Ve_hintsStand_30 (by decide) (fun c_30 => ?_) (fun c_30 => ?_)
      · skip
        refine aw_iconst d_Ve_hintsStand_62 ⟨by decide, by decide⟩ ?_
        exact aw_zret d_Ve_hintsStand_63 rfl ⟨by decide, by decide⟩ (hP _ (Or.inl rfl) ⟨fun z => absurd z (by decide), fun z => by have y := z.1 i hi.1 (by omega); rw [show (4544 + 75 : Int) = 4619 from rfl] at y; omega⟩)
      · skip
        refine aw_iload d_Ve_hintsStand_33 rfl ?_
        refine aw_aload_n d_Ve_hintsStand_35 rfl rfl ?_
        refine ax_getIe (x := 75) d_Ve_hintsStand_36 fd_Ve_78 (k_35 S) (pc_35_6 PD) ?_
        refine aw_icmp_gt (tgt := 62) d_Ve_hintsStand_39 (by decide) (fun c_39 => ?_) (fun c_39 => ?_)
        · skip
          refine aw_iconst d_Ve_hintsStand_62 ⟨by decide, by decide⟩ ?_
          exact aw_zret d_Ve_hintsStand_63 rfl ⟨by decide, by decide⟩ (hP _ (Or.inl rfl) ⟨fun z => absurd z (by decide), fun z => by have y := z.1 i hi.1 (by omega); rw [show (4544 + 75 : Int) = 4619 from rfl] at y; omega⟩)
        · skip
          refine aw_aload_n d_Ve_hintsStand_42 rfl rfl ?_
          refine aw_aload_n d_Ve_hintsStand_43 rfl rfl ?_
          refine ax_S (st := [vr 24]) (as := [vr 35]) (v := some (vi 4544)) (h' := sD h I L) d_Ve_hintsStand_44 cs_Ve_hintsStand_44 (c_Ve_hintsStart2 S PD) rfl rfl rfl ?_
          show AW l G M_Ve_hintsStand P 47 [(4, vi (hEn (byAt I 24 25) 4619 i)), (3, vi (hEn (byAt I 24 25) 4619 (i - 1))), (2, vi i), (1, vr 35), (0, vr 24)] [vi 4544, vr 24] (sD h I L)
          refine aw_iload_n d_Ve_hintsStand_47 rfl rfl ?_
          refine ax_iadd d_Ve_hintsStand_48 ⟨(by omega), (by omega)⟩ ?_
          refine aw_aload_n d_Ve_hintsStand_49 rfl rfl ?_
          refine ax_S (st := [vi (4544 + (hEn (byAt I 24 25) 4619 (i - 1))), vr 24]) (as := [vr 35]) (v := some (vi 4544)) (h' := sD h I L) d_Ve_hintsStand_50 cs_Ve_hintsStand_50 (c_Ve_hintsStart2 S PD) rfl rfl rfl ?_
          show AW l G M_Ve_hintsStand P 53 [(4, vi (hEn (byAt I 24 25) 4619 i)), (3, vi (hEn (byAt I 24 25) 4619 (i - 1))), (2, vi i), (1, vr 35), (0, vr 24)] [vi 4544, vi (4544 + (hEn (byAt I 24 25) 4619 (i - 1))), vr 24] (sD h I L)
          refine aw_iload d_Ve_hintsStand_53 rfl ?_
          refine ax_iadd d_Ve_hintsStand_55 ⟨(by omega), (by omega)⟩ ?_
          refine ax_Sr (st := []) (as := [vr 24, vi (4544 + (hEn (byAt I 24 25) 4619 (i - 1))), vi (4544 + (hEn (byAt I 24 25) 4619 i))]) d_Ve_hintsStand_56 cs_Ve_hintsStand_56 (c_Ve_placesRise (ks S (i := 5) (by decide)) (by rw [nks S (i := 5) (by decide)]; omega)) rfl rfl rfl (fun u_56 q_56 => ?_)
          obtain ⟨ro, rr⟩ := q_56
          show AW l G M_Ve_hintsStand P 59 [(4, vi (hEn (byAt I 24 25) 4619 i)), (3, vi (hEn (byAt I 24 25) 4619 (i - 1))), (2, vi i), (1, vr 35), (0, vr 24)] [vi u_56] (sD h I L)
          refine aw_if_ne (tgt := 64) d_Ve_hintsStand_59 (by decide) (fun c_59 => ?_) (fun c_59 => ?_)
          · skip
            refine ax_iinc (lv' := [(2, vi (i + 1)), (4, vi (hEn (byAt I 24 25) 4619 i)), (3, vi (hEn (byAt I 24 25) 4619 (i - 1))), (1, vr 35), (0, vr 24)]) d_Ve_hintsStand_64 rfl (by decide) ⟨(by omega), (by omega)⟩ rfl ?_
            refine aw_goto (tgt := 2) d_Ve_hintsStand_67 (by decide) ?_
            refine aw_sub (lv' := [(2, vi (i + 1)), (1, vr 35), (0, vr 24)]) (by simp) ?_
            exact ih_2 _ (by omega) (i + 1) (by omega) (fun m a b => by by_cases z : m = i; exact (by rw [z]; exact ⟨by omega, by omega, rr.1 (by omega)⟩); exact gg m a (by omega)) rfl
          · skip
            refine aw_iconst d_Ve_hintsStand_62 ⟨by decide, by decide⟩ ?_
            exact aw_zret d_Ve_hintsStand_63 rfl ⟨by decide, by decide⟩ (hP _ (Or.inl rfl) ⟨fun z => absurd z (by decide), fun z => by have y := z.1 i hi.1 (by omega); rw [show (4544 + 75 : Int) = 4619 from rfl] at y; have := rr.2 y.2.2; omega⟩)
  refine aw_sub (lv' := [(2, vi 0), (1, vr 35), (0, vr 24)]) (by simp) ?_
  exact lp_2 _ 0 (by omega) (fun m a b => by omega) rfl
set_option maxHeartbeats 800000 in
set_option maxRecDepth 100000 in
theorem c_Ve_answersHide2 {l : Launch} {G : a_G} {h : Hp} {I L : Nat → Int → Int} (S : Shp h) (SD : Std I L) (hc : I 24 1 ≤ 8192) : AW l G M_Ve_answersHide (Ret (fun u : Int × (Nat → Int → Int) => some (vi u.1)) (fun u => sD h u.2 L) (fun u => FC (fun a => 119 ≤ a ∧ a ≤ 125) I L u.2 L ∧ ((u.1 = 1 ∧ (∀ m, 0 ≤ m → m < 7 → wiN 524168 (mirF (byAt I 24 25) (64 + 640 * m) 20 524288)) ∧ ∀ m, 0 ≤ m → m < 7 → eqQ (u.2 (119 + m.toNat)) (mirF (byAt I 24 25) (64 + 640 * m) 20 524288)) ∨ (u.1 = 0 ∧ ¬ ∀ m, 0 ≤ m → m < 7 → wiN 524168 (mirF (byAt I 24 25) (64 + 640 * m) 20 524288))))) 0 (a_ar 0 [vr 170, vr 24, vr 35]) [] (sD h I L) := by
  suffices key : ∀ P : a_R → Hp → Prop, (∀ (v_ : Int) (K_ : Nat → Int → Int), FC (fun a => 119 ≤ a ∧ a ≤ 125) I L K_ L ∧ ((v_ = 1 ∧ (∀ m, 0 ≤ m → m < 7 → wiN 524168 (mirF (byAt I 24 25) (64 + 640 * m) 20 524288)) ∧ ∀ m, 0 ≤ m → m < 7 → eqQ (K_ (119 + m.toNat)) (mirF (byAt I 24 25) (64 + 640 * m) 20 524288)) ∨ (v_ = 0 ∧ ¬ ∀ m, 0 ≤ m → m < 7 → wiN 524168 (mirF (byAt I 24 25) (64 + 640 * m) 20 524288))) → P (.inl (some (vi v_))) (sD h K_ L)) → AW l G M_Ve_answersHide P 0 [(0, vr 170), (1, vr 24), (2, vr 35)] [] (sD h I L) from key _ (fun v K q => ⟨(v, K), rfl, rfl, q⟩)
  intro P hP
  refine aw_iconst d_Ve_answersHide_0 ⟨by decide, by decide⟩ ?_
  refine aw_istore_n (lv' := [(3, vi 0), (0, vr 170), (1, vr 24), (2, vr 35)]) d_Ve_answersHide_1 rfl (by decide) rfl ?_
  have lp_2 : ∀ (n_ : Nat) (i : Int) (K : Nat → Int → Int), (0 ≤ i ∧ i ≤ 7) → (FC (fun a => 119 ≤ a ∧ a ≤ 125) I L K L) → (∀ m, 0 ≤ m → m < i → wiN 524168 (mirF (byAt I 24 25) (64 + 640 * m) 20 524288)) → (∀ m, 0 ≤ m → m < i → eqQ (K (119 + m.toNat)) (mirF (byAt I 24 25) (64 + 640 * m) 20 524288)) → ((7 - i).toNat) = n_ → AW l G M_Ve_answersHide P 2 [(3, vi i), (2, vr 35), (1, vr 24), (0, vr 170)] [] (sD h K L) := by
    intro n_
    induction n_ using Nat.strongRecOn with
    | _ n_ ih_2 =>
    intro i K hi F okk gg hm_2
    refine aw_iload_n d_Ve_answersHide_2 rfl rfl ?_
    refine aw_aload_n d_Ve_answersHide_3 rfl rfl ?_
    refine ax_getIe (x := 7) d_Ve_answersHide_4 fd_Ve_100 (k_35 S) (Eq.trans (F.1 35 1 (by omega)) (pc_35_1 SD.2.1)) ?_
    refine aw_icmp_ge (tgt := 89) d_Ve_answersHide_7 (by decide) (fun c_7 => ?_) (fun c_7 => ?_)
    · skip
      refine aw_iconst d_Ve_answersHide_89 ⟨by decide, by decide⟩ ?_
      exact aw_zret d_Ve_answersHide_90 rfl ⟨by decide, by decide⟩ (hP _ K ⟨F, Or.inl ⟨rfl, fun m a b => okk m a (by omega), fun m a b => gg m a (by omega)⟩⟩)
    · skip
      refine aw_aload_n d_Ve_answersHide_10 rfl rfl ?_
      refine aw_aload_n d_Ve_answersHide_11 rfl rfl ?_
      refine ax_getIe (x := 64) d_Ve_answersHide_12 fd_Ve_52 (k_35 S) (Eq.trans (F.1 35 7 (by omega)) (pc_35_7 SD.2.1)) ?_
      refine aw_iload_n d_Ve_answersHide_15 rfl rfl ?_
      refine aw_aload_n d_Ve_answersHide_16 rfl rfl ?_
      refine ax_getIe (x := 20) d_Ve_answersHide_17 fd_Ve_103 (k_35 S) (Eq.trans (F.1 35 11 (by omega)) (pc_35_11 SD.2.1)) ?_
      refine ax_S (st := [vi i, vi 64, vr 24]) (as := [vi 20]) (v := some (vi (32 * 20))) (h' := sD h K L) d_Ve_answersHide_20 cs_Ve_answersHide_20 (c_Ri_packedSize (by omega)) rfl rfl rfl ?_
      show AW l G M_Ve_answersHide P 23 [(3, vi i), (2, vr 35), (1, vr 24), (0, vr 170)] [vi (32 * 20), vi i, vi 64, vr 24] (sD h K L)
      refine ax_imul d_Ve_answersHide_23 ⟨(by omega), (by omega)⟩ ?_
      refine ax_iadd d_Ve_answersHide_24 ⟨(by omega), (by omega)⟩ ?_
      refine aw_aload_n d_Ve_answersHide_25 rfl rfl ?_
      refine ax_getIe (x := 20) d_Ve_answersHide_26 fd_Ve_103 (k_35 S) (Eq.trans (F.1 35 11 (by omega)) (pc_35_11 SD.2.1)) ?_
      refine aw_aload_n d_Ve_answersHide_29 rfl rfl ?_
      refine ax_getR (b := 36) d_Ve_answersHide_30 fd_Ve_23 (k_170 S) (r_170_0 S) ?_
      refine ax_getR (b := 118) d_Ve_answersHide_33 fd_Ve_111 (k_36 S) (r_36_6 S) ?_
      refine aw_iload_n d_Ve_answersHide_36 rfl rfl ?_
      refine ax_aald (b := 119 + i.toNat) d_Ve_answersHide_37 ⟨by rw [(k_118 S)]; decide, by rw [(k_118 S)]; decide⟩ (by omega) (by rw [n_118 S]; omega) (g_118 S (by omega) (by omega)) ?_
      refine ax_V (st := []) (as := [vi (64 + (i * (32 * 20))), vi 20, vr (119 + i.toNat)]) (b := 24) (v := none) (h' := sD h (rowTo K (119 + i.toNat) 256 (gR (fun k => byAt K 24 25 (64 + i * (32 * 20) + k)) 20)) L) d_Ve_answersHide_38 cs_Ve_answersHide_38 (k_24 S) (c_By_readBits (w := 20) (ks S (i := 5) (by decide)) ⟨kr_118 S (by omega), by omega, nr_118 S (by omega), by omega, by omega⟩ (by decide) (by rw [F.1 24 1 (by omega), nks S (i := 5) (by decide)]; omega)) rfl rfl rfl ?_
      show AW l G M_Ve_answersHide P 41 [(3, vi i), (2, vr 35), (1, vr 24), (0, vr 170)] [] (sD h (rowTo K (119 + i.toNat) 256 (gR (fun k => byAt K 24 25 (64 + i * (32 * 20) + k)) 20)) L)
      refine aw_aload_n d_Ve_answersHide_41 rfl rfl ?_
      refine ax_getR (b := 36) d_Ve_answersHide_42 fd_Ve_23 (k_170 S) (r_170_0 S) ?_
      refine ax_getR (b := 118) d_Ve_answersHide_45 fd_Ve_111 (k_36 S) (r_36_6 S) ?_
      refine aw_iload_n d_Ve_answersHide_48 rfl rfl ?_
      refine ax_aald (b := 119 + i.toNat) d_Ve_answersHide_49 ⟨by rw [(k_118 S)]; decide, by rw [(k_118 S)]; decide⟩ (by omega) (by rw [n_118 S]; omega) (g_118 S (by omega) (by omega)) ?_
      refine aw_aload_n d_Ve_answersHide_50 rfl rfl ?_
      refine ax_getIe (x := 524288) d_Ve_answersHide_51 fd_Ve_119 (k_35 S) (Eq.trans (rowTo_ne (by omega)) (Eq.trans (F.1 35 4 (by omega)) (pc_35_4 SD.2.1))) ?_
      refine ax_S (st := []) (as := [vr (119 + i.toNat), vi 524288]) (v := none) (h' := sD h (rowTo (rowTo K (119 + i.toNat) 256 (gR (fun k => byAt K 24 25 (64 + i * (32 * 20) + k)) 20)) (119 + i.toNat) 256 (fun j => (524288 - (rowTo K (119 + i.toNat) 256 (gR (fun k => byAt K 24 25 (64 + i * (32 * 20) + k)) 20)) (119 + i.toNat) j) % 8380417)) L) d_Ve_answersHide_54 cs_Ve_answersHide_54 (c_Ri_mirror ⟨kr_118 S (by omega), by omega, nr_118 S (by omega)⟩ (by decide) (fun j x y => by rw [rowTo_in x y]; have := gR_b (g := fun k => byAt K 24 25 (64 + i * (32 * 20) + k)) (w := 20) (j := j) (by decide); omega)) rfl rfl rfl ?_
      show AW l G M_Ve_answersHide P 57 [(3, vi i), (2, vr 35), (1, vr 24), (0, vr 170)] [] (sD h (rowTo (rowTo K (119 + i.toNat) 256 (gR (fun k => byAt K 24 25 (64 + i * (32 * 20) + k)) 20)) (119 + i.toNat) 256 (fun j => (524288 - (rowTo K (119 + i.toNat) 256 (gR (fun k => byAt K 24 25 (64 + i * (32 * 20) + k)) 20)) (119 + i.toNat) j) % 8380417)) L)
      have zi : eqQ ((rowTo (rowTo K (119 + i.toNat) 256 (gR (fun k => byAt K 24 25 (64 + i * (32 * 20) + k)) 20)) (119 + i.toNat) 256 (fun j => (524288 - (rowTo K (119 + i.toNat) 256 (gR (fun k => byAt K 24 25 (64 + i * (32 * 20) + k)) 20)) (119 + i.toNat) j) % 8380417)) (119 + i.toNat)) (mirF (byAt I 24 25) (64 + 640 * i) 20 524288) := fun j x y => by rw [rowTo_in x y, rowTo_in x y]; unfold mirF; rw [show (fun k => byAt K 24 25 (64 + i * (32 * 20) + k)) = (fun k => byAt I 24 25 (64 + 640 * i + k)) from funext (fun z => by rw [byAt_fc F (by omega) (by omega), show i * (32 * 20) = 640 * i by omega])]
      have Fb : FC (fun a => 119 ≤ a ∧ a ≤ 125) I L (rowTo (rowTo K (119 + i.toNat) 256 (gR (fun k => byAt K 24 25 (64 + i * (32 * 20) + k)) 20)) (119 + i.toNat) 256 (fun j => (524288 - (rowTo K (119 + i.toNat) 256 (gR (fun k => byAt K 24 25 (64 + i * (32 * 20) + k)) 20)) (119 + i.toNat) j) % 8380417)) L := (F.tr (FC.row (p := fun a => 119 ≤ a ∧ a ≤ 125) (by omega)) (fun a x => ⟨x, x⟩)).tr (FC.row (p := fun a => 119 ≤ a ∧ a ≤ 125) (by omega)) (fun a x => ⟨x, x⟩)
      refine aw_aload_n d_Ve_answersHide_57 rfl rfl ?_
      refine ax_getR (b := 36) d_Ve_answersHide_58 fd_Ve_23 (k_170 S) (r_170_0 S) ?_
      refine ax_getR (b := 118) d_Ve_answersHide_61 fd_Ve_111 (k_36 S) (r_36_6 S) ?_
      refine aw_iload_n d_Ve_answersHide_64 rfl rfl ?_
      refine ax_aald (b := 119 + i.toNat) d_Ve_answersHide_65 ⟨by rw [(k_118 S)]; decide, by rw [(k_118 S)]; decide⟩ (by omega) (by rw [n_118 S]; omega) (g_118 S (by omega) (by omega)) ?_
      refine aw_aload_n d_Ve_answersHide_66 rfl rfl ?_
      refine ax_getIe (x := 524288) d_Ve_answersHide_67 fd_Ve_119 (k_35 S) (Eq.trans (rowTo_ne (by omega)) (Eq.trans (rowTo_ne (by omega)) (Eq.trans (F.1 35 4 (by omega)) (pc_35_4 SD.2.1)))) ?_
      refine aw_aload_n d_Ve_answersHide_70 rfl rfl ?_
      refine ax_getIe (x := 120) d_Ve_answersHide_71 fd_Ve_126 (k_35 S) (Eq.trans (rowTo_ne (by omega)) (Eq.trans (rowTo_ne (by omega)) (Eq.trans (F.1 35 9 (by omega)) (pc_35_9 SD.2.1)))) ?_
      refine ax_isub d_Ve_answersHide_74 ⟨(by omega), (by omega)⟩ ?_
      refine ax_ti (x := 524168) (by decide) ?_
      refine ax_Sr (st := []) (as := [vr (119 + i.toNat), vi 524168]) d_Ve_answersHide_75 cs_Ve_answersHide_75 (c_Ri_within ⟨kr_118 S (by omega), by omega, nr_118 S (by omega)⟩ (by decide)) rfl rfl rfl (fun u_75 q_75 => ?_)
      obtain ⟨wo, wi⟩ := q_75
      have wi := wi.trans (wiN_eq zi)
      show AW l G M_Ve_answersHide P 78 [(3, vi i), (2, vr 35), (1, vr 24), (0, vr 170)] [vi u_75] (sD h (rowTo (rowTo K (119 + i.toNat) 256 (gR (fun k => byAt K 24 25 (64 + i * (32 * 20) + k)) 20)) (119 + i.toNat) 256 (fun j => (524288 - (rowTo K (119 + i.toNat) 256 (gR (fun k => byAt K 24 25 (64 + i * (32 * 20) + k)) 20)) (119 + i.toNat) j) % 8380417)) L)
      refine aw_if_ne (tgt := 83) d_Ve_answersHide_78 (by decide) (fun c_78 => ?_) (fun c_78 => ?_)
      · skip
        refine ax_iinc (lv' := [(3, vi (i + 1)), (2, vr 35), (1, vr 24), (0, vr 170)]) d_Ve_answersHide_83 rfl (by decide) ⟨(by omega), (by omega)⟩ rfl ?_
        refine aw_goto (tgt := 2) d_Ve_answersHide_86 (by decide) ?_
        exact ih_2 _ (by omega) (i + 1) (rowTo (rowTo K (119 + i.toNat) 256 (gR (fun k => byAt K 24 25 (64 + i * (32 * 20) + k)) 20)) (119 + i.toNat) 256 (fun j => (524288 - (rowTo K (119 + i.toNat) 256 (gR (fun k => byAt K 24 25 (64 + i * (32 * 20) + k)) 20)) (119 + i.toNat) j) % 8380417)) (by omega) (Fb) (fun m a b => by by_cases z : m = i; exact (by rw [z]; exact wi.1 (by omega)); exact okk m a (by omega)) (fun m a b j x y => by by_cases z : m = i; exact (by rw [z]; exact zi j x y); exact (by rw [rowTo_ne (by omega), rowTo_ne (by omega)]; exact gg m a (by omega) j x y)) rfl
      · skip
        refine aw_iconst d_Ve_answersHide_81 ⟨by decide, by decide⟩ ?_
        exact aw_zret d_Ve_answersHide_82 rfl ⟨by decide, by decide⟩ (hP _ _ ⟨Fb, Or.inr ⟨rfl, fun z => by have := wi.2 (z i hi.1 (by omega)); omega⟩⟩)
  skip
  refine aw_sub (lv' := [(3, vi 0), (2, vr 35), (1, vr 24), (0, vr 170)]) (by simp) ?_
  exact lp_2 _ 0 I (by omega) (FC.rfl') (fun m a b => by omega) (fun m a b => by omega) rfl
set_option maxHeartbeats 800000 in
set_option maxRecDepth 100000 in
theorem c_Ve_computeImages2 {l : Launch} {G : a_G} {h : Hp} {I L : Nat → Int → Int} {B : Int → Int} {Z : Int → Int → Int} (S : Shp h) (hfl : l.flags = flags0) (rm : hX h + 1 ≤ a_NX ∧ hU h + 6 ≤ a_US) (SD : Std I L) (hc : I 16 1 ≤ 8192) (hB : eqQ (I 135) B) (qB : inQ B) (hZ : ∀ m, 0 ≤ m → m < 7 → eqQ (I (119 + m.toNat)) (Z m)) (qZ : ∀ m, 0 ≤ m → m < 7 → inQ (Z m)) : AW l G M_Ve_computeImages (ThR h I L (∀ m, 0 ≤ m → m < 56 → (wide (fun x => byAt I 16 17 (0 + x)) (m % 7) (m / 7)).2.1 = 256) (fun I' L' => FC (fun a => a = 38 ∨ 45 ≤ a ∧ a ≤ 100 ∨ 119 ≤ a ∧ a ≤ 125 ∨ 127 ≤ a ∧ a ≤ 134 ∨ a = 136) I L I' L' ∧ ∀ m, 0 ≤ m → m < 8 → eqQ (I' (127 + m.toNat)) ((vmF (fun m => (wide (fun x => byAt I 16 17 (0 + x)) (m % 7) (m / 7)).2.2) (fun j => fwd rt (Z j)) B (byAt I 16 17) 7 7) m))) 0 (a_ar 0 [vr 170, vr 16, vr 35]) [] (sD h I L) := by
  suffices key : ∀ P : a_R → Hp → Prop, (∀ r_ h2_, ThR h I L (∀ m, 0 ≤ m → m < 56 → (wide (fun x => byAt I 16 17 (0 + x)) (m % 7) (m / 7)).2.1 = 256) (fun I' L' => FC (fun a => a = 38 ∨ 45 ≤ a ∧ a ≤ 100 ∨ 119 ≤ a ∧ a ≤ 125 ∨ 127 ≤ a ∧ a ≤ 134 ∨ a = 136) I L I' L' ∧ ∀ m, 0 ≤ m → m < 8 → eqQ (I' (127 + m.toNat)) ((vmF (fun m => (wide (fun x => byAt I 16 17 (0 + x)) (m % 7) (m / 7)).2.2) (fun j => fwd rt (Z j)) B (byAt I 16 17) 7 7) m)) r_ h2_ → P r_ h2_) → AW l G M_Ve_computeImages P 0 [(0, vr 170), (1, vr 16), (2, vr 35)] [] (sD h I L) from key _ (fun _ _ q => q)
  intro P hP
  refine aw_aload_n d_Ve_computeImages_0 rfl rfl ?_
  refine ax_getR (b := 36) d_Ve_computeImages_1 fd_Ve_23 (k_170 S) (r_170_0 S) ?_
  refine ax_getR (b := 37) d_Ve_computeImages_4 fd_Ve_156 (k_36 S) (r_36_0 S) ?_
  refine aw_aload_n d_Ve_computeImages_7 rfl rfl ?_
  refine aw_aload_n d_Ve_computeImages_8 rfl rfl ?_
  refine aw_aload_n d_Ve_computeImages_9 rfl rfl ?_
  refine ax_getR (b := 36) d_Ve_computeImages_10 fd_Ve_23 (k_170 S) (r_170_0 S) ?_
  refine ax_getR (b := 44) d_Ve_computeImages_13 fd_Ve_160 (k_36 S) (r_36_3 S) ?_
  refine ax_VtT (st := []) (as := [vr 16, vr 35, vr 44]) (b := 37) d_Ve_computeImages_16 cs_Ve_computeImages_16 (k_37 S) (c_Sa_matrix2 S hfl rm SD (ks S (i := 1) (by decide)) (by omega) (by rw [nks S (i := 1) (by decide)]; omega)) rfl rfl rfl (fun ok_16 I_16 L_16 q_16 => ?_) (fun no_16 I_16 L_16 q_16 => at_leave rfl (hP _ _ (Or.inr ⟨no_16, I_16, L_16, q_16, rfl, rfl⟩)))
  have F0 : FC (fun a => a = 38 ∨ 45 ≤ a ∧ a ≤ 100 ∨ 119 ≤ a ∧ a ≤ 125 ∨ 127 ≤ a ∧ a ≤ 134 ∨ a = 136) I L I_16 L_16 := q_16.1.mono (by intro a x; omega)
  have okm := ok_16
  have mt : ∀ m, 0 ≤ m → m < 56 → eqQ (I_16 (45 + m.toNat)) ((fun m => (wide (fun x => byAt I 16 17 (0 + x)) (m % 7) (m / 7)).2.2) m) := fun m a b c x y => q_16.2 m a b c x y
  show AW l G M_Ve_computeImages P 19 [(0, vr 170), (1, vr 16), (2, vr 35)] [] (sD h I_16 L_16)
  refine aw_iconst d_Ve_computeImages_19 ⟨by decide, by decide⟩ ?_
  refine aw_istore_n (lv' := [(3, vi 0), (0, vr 170), (1, vr 16), (2, vr 35)]) d_Ve_computeImages_20 rfl (by decide) rfl ?_
  have lp_21 : ∀ (n_ : Nat) (i : Int) (K : Nat → Int → Int), (0 ≤ i ∧ i ≤ 7) → (FC (fun a => a = 38 ∨ 45 ≤ a ∧ a ≤ 100 ∨ 119 ≤ a ∧ a ≤ 125 ∨ 127 ≤ a ∧ a ≤ 134 ∨ a = 136) I L K L_16) → (∀ m, 0 ≤ m → m < 56 → eqQ (K (45 + m.toNat)) ((fun m => (wide (fun x => byAt I 16 17 (0 + x)) (m % 7) (m / 7)).2.2) m)) → (∀ m, 0 ≤ m → m < i → eqQ (K (119 + m.toNat)) (fwd rt (Z m))) → (∀ m, 0 ≤ m → i ≤ m → m < 7 → eqQ (K (119 + m.toNat)) (Z m)) → ((7 - i).toNat) = n_ → AW l G M_Ve_computeImages P 21 [(3, vi i), (2, vr 35), (1, vr 16), (0, vr 170)] [] (sD h K L_16) := by
    intro n_
    induction n_ using Nat.strongRecOn with
    | _ n_ ih_21 =>
    intro i K hi F mk gg un hm_21
    refine aw_iload_n d_Ve_computeImages_21 rfl rfl ?_
    refine aw_aload_n d_Ve_computeImages_22 rfl rfl ?_
    refine ax_getIe (x := 7) d_Ve_computeImages_23 fd_Ve_100 (k_35 S) (Eq.trans (F.1 35 1 (by omega)) (pc_35_1 SD.2.1)) ?_
    refine aw_icmp_ge (tgt := 54) d_Ve_computeImages_26 (by decide) (fun c_26 => ?_) (fun c_26 => ?_)
    · skip
      refine aw_aload_n d_Ve_computeImages_54 rfl rfl ?_
      refine ax_getR (b := 36) d_Ve_computeImages_55 fd_Ve_23 (k_170 S) (r_170_0 S) ?_
      refine aw_aload_n d_Ve_computeImages_58 rfl rfl ?_
      refine ax_Vr (st := []) (as := [vr 35]) (b := 36) d_Ve_computeImages_59 cs_Ve_computeImages_59 (k_36 S) (c_Be_multiplyMatrix2 S (SD.fc F (by intro a x; omega)) (fun m hm j x y => by have z := mk m (by omega) (by omega) j x y; rw [Int.toNat_natCast] at z; rw [z]; exact wide_b.2 j) (fun m hm j x y => by have z := gg m (by omega) (by omega) j x y; rw [Int.toNat_natCast] at z; rw [z]; exact fwd_in (qZ m (by omega) (by omega)) j x y)) rfl rfl rfl (fun u_59 q_59 => ?_)
      obtain ⟨q1, q2⟩ := q_59
      have F2 : FC (fun a => a = 38 ∨ 45 ≤ a ∧ a ≤ 100 ∨ 119 ≤ a ∧ a ≤ 125 ∨ 127 ≤ a ∧ a ≤ 134 ∨ a = 136) I L u_59 L_16 := F.tr q1 (by intro a x; omega)
      have u2 : ∀ m, 0 ≤ m → m < 8 → eqQ (u_59 (127 + m.toNat)) (fun c => pS (fun m => (wide (fun x => byAt I 16 17 (0 + x)) (m % 7) (m / 7)).2.2) (fun j => fwd rt (Z j)) (m * 7) c 7 % 8380417) := fun m a c j x y => by rw [q2 m a c j x y, mS_pS (A := (fun m => (wide (fun x => byAt I 16 17 (0 + x)) (m % 7) (m / 7)).2.2)) (V := (fun j => fwd rt (Z j))) 7 (fun n hn => mk _ (by omega) (by omega) j x y) (fun n hn => by have z := gg n (by omega) (by omega) j x y; rwa [Int.toNat_natCast] at z)]
      show AW l G M_Ve_computeImages P 62 [(3, vi i), (2, vr 35), (1, vr 16), (0, vr 170)] [] (sD h u_59 L_16)
      refine aw_iconst d_Ve_computeImages_62 ⟨by decide, by decide⟩ ?_
      refine aw_istore_n (lv' := [(3, vi 0), (2, vr 35), (1, vr 16), (0, vr 170)]) d_Ve_computeImages_63 rfl (by decide) rfl ?_
      have lp_64 : ∀ (n_ : Nat) (i : Int) (K3 : Nat → Int → Int), (0 ≤ i ∧ i ≤ 8) → (FC (fun a => a = 38 ∨ 45 ≤ a ∧ a ≤ 100 ∨ 119 ≤ a ∧ a ≤ 125 ∨ 127 ≤ a ∧ a ≤ 134 ∨ a = 136) I L K3 L_16) → (∀ m, 0 ≤ m → i ≤ m → m < 8 → eqQ (K3 (127 + m.toNat)) (fun c => pS (fun m => (wide (fun x => byAt I 16 17 (0 + x)) (m % 7) (m / 7)).2.2) (fun j => fwd rt (Z j)) (m * 7) c 7 % 8380417)) → (∀ m, 0 ≤ m → m < i → eqQ (K3 (127 + m.toNat)) ((vmF (fun m => (wide (fun x => byAt I 16 17 (0 + x)) (m % 7) (m / 7)).2.2) (fun j => fwd rt (Z j)) B (byAt I 16 17) 7 7) m)) → ((8 - i).toNat) = n_ → AW l G M_Ve_computeImages P 64 [(3, vi i), (2, vr 35), (1, vr 16), (0, vr 170)] [] (sD h K3 L_16) := by
        intro n_
        induction n_ using Nat.strongRecOn with
        | _ n_ ih_64 =>
        intro i K3 hi3 F3 un3 dn hm_64
        refine aw_iload_n d_Ve_computeImages_64 rfl rfl ?_
        refine aw_aload_n d_Ve_computeImages_65 rfl rfl ?_
        refine ax_getIe (x := 8) d_Ve_computeImages_66 fd_Ve_81 (k_35 S) (Eq.trans (F3.1 35 0 (by omega)) (pc_35_0 SD.2.1)) ?_
        refine aw_icmp_ge (tgt := 146) d_Ve_computeImages_69 (by decide) (fun c_69 => ?_) (fun c_69 => ?_)
        · skip
          exact aw_vret d_Ve_computeImages_146 rfl (hP _ _ (Or.inl ⟨okm, K3, L_16, ⟨F3, fun m a b => dn m a (by omega)⟩, rfl, rfl⟩))
        · skip
          refine aw_aload_n d_Ve_computeImages_72 rfl rfl ?_
          refine aw_aload_n d_Ve_computeImages_73 rfl rfl ?_
          refine aw_iload_n d_Ve_computeImages_74 rfl rfl ?_
          refine ax_Vr (st := []) (as := [vr 16, vi i]) (b := 170) d_Ve_computeImages_75 cs_Ve_computeImages_75 (k_170 S) (c_Ve_readTop S (SD.fc F3 (by intro a x; omega)) (by rw [F3.1 16 1 (by omega)]; omega)) rfl rfl rfl (fun u_75 q_75 => ?_)
          obtain ⟨q5, q6⟩ := q_75
          have F4 : FC (fun a => a = 38 ∨ 45 ≤ a ∧ a ≤ 100 ∨ 119 ≤ a ∧ a ≤ 125 ∨ 127 ≤ a ∧ a ≤ 134 ∨ a = 136) I L u_75 L_16 := F3.tr q5 (by intro a x; omega)
          rw [show byAt K3 16 17 = byAt I 16 17 from funext (fun x => byAt_fc F3 (by omega) (by omega))] at q6
          show AW l G M_Ve_computeImages P 78 [(3, vi i), (2, vr 35), (1, vr 16), (0, vr 170)] [] (sD h u_75 L_16)
          refine aw_aload_n d_Ve_computeImages_78 rfl rfl ?_
          refine ax_getR (b := 36) d_Ve_computeImages_79 fd_Ve_23 (k_170 S) (r_170_0 S) ?_
          refine ax_getR (b := 135) d_Ve_computeImages_82 fd_Ve_182 (k_36 S) (r_36_8 S) ?_
          refine aw_aload_n d_Ve_computeImages_85 rfl rfl ?_
          refine ax_getR (b := 36) d_Ve_computeImages_86 fd_Ve_23 (k_170 S) (r_170_0 S) ?_
          refine ax_getR (b := 136) d_Ve_computeImages_89 fd_Ve_186 (k_36 S) (r_36_9 S) ?_
          refine aw_aload_n d_Ve_computeImages_92 rfl rfl ?_
          refine ax_getR (b := 36) d_Ve_computeImages_93 fd_Ve_23 (k_170 S) (r_170_0 S) ?_
          refine ax_getR (b := 136) d_Ve_computeImages_96 fd_Ve_186 (k_36 S) (r_36_9 S) ?_
          refine ax_S (st := []) (as := [vr 135, vr 136, vr 136]) (v := none) (h' := sD h (rowTo u_75 136 256 (fun j => u_75 135 j * u_75 136 j % 8380417)) L_16) d_Ve_computeImages_99 cs_Ve_computeImages_99 (c_Ri_multiply ⟨k_135 S, by decide, n_135 S⟩ ⟨k_136 S, by decide, n_136 S⟩ ⟨k_136 S, by decide, n_136 S⟩ (fun j x y => by rw [F4.1 _ _ (by omega), hB j x y]; exact qB j x y) (fun j x y => by rw [q6 j x y]; exact fwd_in tpF_in j x y)) rfl rfl rfl ?_
          show AW l G M_Ve_computeImages P 102 [(3, vi i), (2, vr 35), (1, vr 16), (0, vr 170)] [] (sD h (rowTo u_75 136 256 (fun j => u_75 135 j * u_75 136 j % 8380417)) L_16)
          refine aw_aload_n d_Ve_computeImages_102 rfl rfl ?_
          refine ax_getR (b := 36) d_Ve_computeImages_103 fd_Ve_23 (k_170 S) (r_170_0 S) ?_
          refine ax_getR (b := 126) d_Ve_computeImages_106 fd_Ve_193 (k_36 S) (r_36_7 S) ?_
          refine aw_iload_n d_Ve_computeImages_109 rfl rfl ?_
          refine ax_aald (b := 127 + i.toNat) d_Ve_computeImages_110 ⟨by rw [(k_126 S)]; decide, by rw [(k_126 S)]; decide⟩ (by omega) (by rw [n_126 S]; omega) (g_126 S (by omega) (by omega)) ?_
          refine aw_aload_n d_Ve_computeImages_111 rfl rfl ?_
          refine ax_getR (b := 36) d_Ve_computeImages_112 fd_Ve_23 (k_170 S) (r_170_0 S) ?_
          refine ax_getR (b := 136) d_Ve_computeImages_115 fd_Ve_186 (k_36 S) (r_36_9 S) ?_
          refine ax_S (st := []) (as := [vr (127 + i.toNat), vr 136]) (v := none) (h' := sD h (rowTo (rowTo u_75 136 256 (fun j => u_75 135 j * u_75 136 j % 8380417)) (127 + i.toNat) 256 (fun j => ((rowTo u_75 136 256 (fun j => u_75 135 j * u_75 136 j % 8380417)) (127 + i.toNat) j - (rowTo u_75 136 256 (fun j => u_75 135 j * u_75 136 j % 8380417)) 136 j) % 8380417)) L_16) d_Ve_computeImages_118 cs_Ve_computeImages_118 (c_Ri_takeFrom ⟨kr_126 S (by omega), by omega, nr_126 S (by omega)⟩ ⟨k_136 S, by decide, n_136 S⟩ (fun j x y => by rw [rowTo_ne (by omega), q5.1 _ _ (by omega), un3 i hi3.1 (Int.le_refl _) (by omega) j x y]; show 0 ≤ _ % 8380417 ∧ _ % 8380417 < 8380417; exact ⟨Int.emod_nonneg _ (by decide), Int.emod_lt_of_pos _ (by decide)⟩) (fun j x y => by rw [rowTo_in x y]; exact ⟨Int.emod_nonneg _ (by decide), Int.emod_lt_of_pos _ (by decide)⟩)) rfl rfl rfl ?_
          show AW l G M_Ve_computeImages P 121 [(3, vi i), (2, vr 35), (1, vr 16), (0, vr 170)] [] (sD h (rowTo (rowTo u_75 136 256 (fun j => u_75 135 j * u_75 136 j % 8380417)) (127 + i.toNat) 256 (fun j => ((rowTo u_75 136 256 (fun j => u_75 135 j * u_75 136 j % 8380417)) (127 + i.toNat) j - (rowTo u_75 136 256 (fun j => u_75 135 j * u_75 136 j % 8380417)) 136 j) % 8380417)) L_16)
          have FM : FC (fun a => a = 38 ∨ 45 ≤ a ∧ a ≤ 100 ∨ 119 ≤ a ∧ a ≤ 125 ∨ 127 ≤ a ∧ a ≤ 134 ∨ a = 136) I L (rowTo (rowTo u_75 136 256 (fun j => u_75 135 j * u_75 136 j % 8380417)) (127 + i.toNat) 256 (fun j => ((rowTo u_75 136 256 (fun j => u_75 135 j * u_75 136 j % 8380417)) (127 + i.toNat) j - (rowTo u_75 136 256 (fun j => u_75 135 j * u_75 136 j % 8380417)) 136 j) % 8380417)) L_16 := (F4.tr (FC.row (p := fun a => a = 38 ∨ 45 ≤ a ∧ a ≤ 100 ∨ 119 ≤ a ∧ a ≤ 125 ∨ 127 ≤ a ∧ a ≤ 134 ∨ a = 136) (by omega)) (fun a x => ⟨x, x⟩)).tr (FC.row (p := fun a => a = 38 ∨ 45 ≤ a ∧ a ≤ 100 ∨ 119 ≤ a ∧ a ≤ 125 ∨ 127 ≤ a ∧ a ≤ 134 ∨ a = 136) (by omega)) (fun a x => ⟨x, x⟩)
          refine aw_aload_n d_Ve_computeImages_121 rfl rfl ?_
          refine ax_getR (b := 36) d_Ve_computeImages_122 fd_Ve_23 (k_170 S) (r_170_0 S) ?_
          refine ax_getR (b := 42) d_Ve_computeImages_125 fd_Ve_168 (k_36 S) (r_36_2 S) ?_
          refine aw_aload_n d_Ve_computeImages_128 rfl rfl ?_
          refine ax_getR (b := 36) d_Ve_computeImages_129 fd_Ve_23 (k_170 S) (r_170_0 S) ?_
          refine ax_getR (b := 126) d_Ve_computeImages_132 fd_Ve_193 (k_36 S) (r_36_7 S) ?_
          refine aw_iload_n d_Ve_computeImages_135 rfl rfl ?_
          refine ax_aald (b := 127 + i.toNat) d_Ve_computeImages_136 ⟨by rw [(k_126 S)]; decide, by rw [(k_126 S)]; decide⟩ (by omega) (by rw [n_126 S]; omega) (g_126 S (by omega) (by omega)) ?_
          refine ax_V (st := []) (as := [vr (127 + i.toNat)]) (b := 42) (v := none) (h' := sD h (cset (rowTo (rowTo u_75 136 256 (fun j => u_75 135 j * u_75 136 j % 8380417)) (127 + i.toNat) 256 (fun j => ((rowTo u_75 136 256 (fun j => u_75 135 j * u_75 136 j % 8380417)) (127 + i.toNat) j - (rowTo u_75 136 256 (fun j => u_75 135 j * u_75 136 j % 8380417)) 136 j) % 8380417)) (127 + i.toNat) (bck ((rowTo (rowTo u_75 136 256 (fun j => u_75 135 j * u_75 136 j % 8380417)) (127 + i.toNat) 256 (fun j => ((rowTo u_75 136 256 (fun j => u_75 135 j * u_75 136 j % 8380417)) (127 + i.toNat) j - (rowTo u_75 136 256 (fun j => u_75 135 j * u_75 136 j % 8380417)) 136 j) % 8380417)) 43) ((rowTo (rowTo u_75 136 256 (fun j => u_75 135 j * u_75 136 j % 8380417)) (127 + i.toNat) 256 (fun j => ((rowTo u_75 136 256 (fun j => u_75 135 j * u_75 136 j % 8380417)) (127 + i.toNat) j - (rowTo u_75 136 256 (fun j => u_75 135 j * u_75 136 j % 8380417)) 136 j) % 8380417)) (127 + i.toNat)))) L_16) d_Ve_computeImages_137 cs_Ve_computeImages_137 (k_42 S) (c_Ri_back S ⟨kr_126 S (by omega), by omega, nr_126 S (by omega)⟩ (by omega) (fun j x y => by rw [rowTo_in x y]; exact ⟨Int.emod_nonneg _ (by decide), Int.emod_lt_of_pos _ (by decide)⟩) (SD.fc FM (by intro a x; omega)).R) rfl rfl rfl ?_
          show AW l G M_Ve_computeImages P 140 [(3, vi i), (2, vr 35), (1, vr 16), (0, vr 170)] [] (sD h (cset (rowTo (rowTo u_75 136 256 (fun j => u_75 135 j * u_75 136 j % 8380417)) (127 + i.toNat) 256 (fun j => ((rowTo u_75 136 256 (fun j => u_75 135 j * u_75 136 j % 8380417)) (127 + i.toNat) j - (rowTo u_75 136 256 (fun j => u_75 135 j * u_75 136 j % 8380417)) 136 j) % 8380417)) (127 + i.toNat) (bck ((rowTo (rowTo u_75 136 256 (fun j => u_75 135 j * u_75 136 j % 8380417)) (127 + i.toNat) 256 (fun j => ((rowTo u_75 136 256 (fun j => u_75 135 j * u_75 136 j % 8380417)) (127 + i.toNat) j - (rowTo u_75 136 256 (fun j => u_75 135 j * u_75 136 j % 8380417)) 136 j) % 8380417)) 43) ((rowTo (rowTo u_75 136 256 (fun j => u_75 135 j * u_75 136 j % 8380417)) (127 + i.toNat) 256 (fun j => ((rowTo u_75 136 256 (fun j => u_75 135 j * u_75 136 j % 8380417)) (127 + i.toNat) j - (rowTo u_75 136 256 (fun j => u_75 135 j * u_75 136 j % 8380417)) 136 j) % 8380417)) (127 + i.toNat)))) L_16)
          refine ax_iinc (lv' := [(3, vi (i + 1)), (2, vr 35), (1, vr 16), (0, vr 170)]) d_Ve_computeImages_140 rfl (by decide) ⟨(by omega), (by omega)⟩ rfl ?_
          refine aw_goto (tgt := 64) d_Ve_computeImages_143 (by decide) ?_
          exact ih_64 _ (by omega) (i + 1) (cset (rowTo (rowTo u_75 136 256 (fun j => u_75 135 j * u_75 136 j % 8380417)) (127 + i.toNat) 256 (fun j => ((rowTo u_75 136 256 (fun j => u_75 135 j * u_75 136 j % 8380417)) (127 + i.toNat) j - (rowTo u_75 136 256 (fun j => u_75 135 j * u_75 136 j % 8380417)) 136 j) % 8380417)) (127 + i.toNat) (bck ((rowTo (rowTo u_75 136 256 (fun j => u_75 135 j * u_75 136 j % 8380417)) (127 + i.toNat) 256 (fun j => ((rowTo u_75 136 256 (fun j => u_75 135 j * u_75 136 j % 8380417)) (127 + i.toNat) j - (rowTo u_75 136 256 (fun j => u_75 135 j * u_75 136 j % 8380417)) 136 j) % 8380417)) 43) ((rowTo (rowTo u_75 136 256 (fun j => u_75 135 j * u_75 136 j % 8380417)) (127 + i.toNat) 256 (fun j => ((rowTo u_75 136 256 (fun j => u_75 135 j * u_75 136 j % 8380417)) (127 + i.toNat) j - (rowTo u_75 136 256 (fun j => u_75 135 j * u_75 136 j % 8380417)) 136 j) % 8380417)) (127 + i.toNat)))) (by omega) (FM.tr (FC.cs (p := fun a => a = 38 ∨ 45 ≤ a ∧ a ≤ 100 ∨ 119 ≤ a ∧ a ≤ 125 ∨ 127 ≤ a ∧ a ≤ 134 ∨ a = 136) (by omega)) (fun a x => ⟨x, x⟩)) (fun m a b c j x y => by rw [cset_ne (by omega), rowTo_ne (by omega), rowTo_ne (by omega), q5.1 _ _ (by omega)]; exact un3 m a (by omega) c j x y) (fun m a b j x y => by by_cases z : m = i; exact (by rw [z, cset_at, (SD.fc FM (by intro a x; omega)).2.2]; exact bck_eq (fun c u v => by rw [rowTo_in u v, rowTo_in u v, rowTo_ne (by omega), q5.1 _ _ (by omega), un3 i hi3.1 (Int.le_refl _) (by omega) c u v, F4.1 135 c (by omega), hB c u v, q6 c u v]) j x y); exact (by rw [cset_ne (by omega), rowTo_ne (by omega), rowTo_ne (by omega), q5.1 _ _ (by omega)]; exact dn m a (by omega) j x y)) rfl
      skip
      exact lp_64 _ 0 u_59 (by omega) (F2) (fun m a b c => u2 m a c) (fun m a b => by omega) rfl
    · skip
      refine aw_aload_n d_Ve_computeImages_29 rfl rfl ?_
      refine ax_getR (b := 36) d_Ve_computeImages_30 fd_Ve_23 (k_170 S) (r_170_0 S) ?_
      refine ax_getR (b := 42) d_Ve_computeImages_33 fd_Ve_168 (k_36 S) (r_36_2 S) ?_
      refine aw_aload_n d_Ve_computeImages_36 rfl rfl ?_
      refine ax_getR (b := 36) d_Ve_computeImages_37 fd_Ve_23 (k_170 S) (r_170_0 S) ?_
      refine ax_getR (b := 118) d_Ve_computeImages_40 fd_Ve_111 (k_36 S) (r_36_6 S) ?_
      refine aw_iload_n d_Ve_computeImages_43 rfl rfl ?_
      refine ax_aald (b := 119 + i.toNat) d_Ve_computeImages_44 ⟨by rw [(k_118 S)]; decide, by rw [(k_118 S)]; decide⟩ (by omega) (by rw [n_118 S]; omega) (g_118 S (by omega) (by omega)) ?_
      refine ax_V (st := []) (as := [vr (119 + i.toNat)]) (b := 42) (v := none) (h' := sD h (cset K (119 + i.toNat) (fwd (K 43) (K (119 + i.toNat)))) L_16) d_Ve_computeImages_45 cs_Ve_computeImages_45 (k_42 S) (c_Ri_forward S ⟨kr_118 S (by omega), by omega, nr_118 S (by omega)⟩ (by omega) (fun j x y => by rw [un i hi.1 (Int.le_refl _) (by omega) j x y]; exact qZ i hi.1 (by omega) j x y) (SD.fc F (by intro a x; omega)).R) rfl rfl rfl ?_
      show AW l G M_Ve_computeImages P 48 [(3, vi i), (2, vr 35), (1, vr 16), (0, vr 170)] [] (sD h (cset K (119 + i.toNat) (fwd (K 43) (K (119 + i.toNat)))) L_16)
      refine ax_iinc (lv' := [(3, vi (i + 1)), (2, vr 35), (1, vr 16), (0, vr 170)]) d_Ve_computeImages_48 rfl (by decide) ⟨(by omega), (by omega)⟩ rfl ?_
      refine aw_goto (tgt := 21) d_Ve_computeImages_51 (by decide) ?_
      exact ih_21 _ (by omega) (i + 1) (cset K (119 + i.toNat) (fwd (K 43) (K (119 + i.toNat)))) (by omega) (F.tr (FC.cs (p := fun a => a = 38 ∨ 45 ≤ a ∧ a ≤ 100 ∨ 119 ≤ a ∧ a ≤ 125 ∨ 127 ≤ a ∧ a ≤ 134 ∨ a = 136) (by omega)) (fun a x => ⟨x, x⟩)) (fun m a b c x y => by rw [cset_ne (by omega)]; exact mk m a b c x y) (fun m a b j x y => by by_cases z : m = i; exact (by rw [z, cset_at, (SD.fc F (by intro a x; omega)).2.2]; exact fwd_eq (un i hi.1 (Int.le_refl _) (by omega)) j x y); exact (by rw [cset_ne (by omega)]; exact gg m a (by omega) j x y)) (fun m a b c j x y => by rw [cset_ne (by omega)]; exact un m a (by omega) c j x y) rfl
  skip
  refine aw_sub (lv' := [(3, vi 0), (2, vr 35), (1, vr 16), (0, vr 170)]) (by simp) ?_
  exact lp_21 _ 0 I_16 (by omega) (F0) (mt) (fun m a b => by omega) (fun m a b c j x y => (q_16.1.1 _ j (by omega)).trans (hZ m a c j x y)) rfl
set_option maxHeartbeats 800000 in
set_option maxRecDepth 100000 in
theorem c_Ve_packHighs2 {l : Launch} {G : a_G} {h : Hp} {I L : Nat → Int → Int} {W : Int → Int → Int} (S : Shp h) (SD : Std I L) (hc0 : I 24 1 ≤ 8192) (hS : hSt (byAt I 24 25) 4544 75 8) (hW : ∀ m, 0 ≤ m → m < 8 → eqQ (I (127 + m.toNat)) (W m)) (qW : ∀ m, 0 ≤ m → m < 8 → inQ (W m)) : AW l G M_Ve_packHighs (Ret (fun _ : Nat → Int → Int => none) (fun K => sD h K L) (fun K => FC (fun a => a = 136 ∨ a = 141 ∨ a = 142) I L K L ∧ HB K 141 142 1024 (hvB (byAt I 24 25) 4544 75 261888 16 4 128 W))) 0 (a_ar 0 [vr 170, vr 24, vr 35]) [] (sD h I L) := by
  suffices key : ∀ P : a_R → Hp → Prop, (∀ K : Nat → Int → Int, FC (fun a => a = 136 ∨ a = 141 ∨ a = 142) I L K L → HB K 141 142 1024 (hvB (byAt I 24 25) 4544 75 261888 16 4 128 W) → P (.inl none) (sD h K L)) → AW l G M_Ve_packHighs P 0 [(0, vr 170), (1, vr 24), (2, vr 35)] [] (sD h I L) from key _ (fun K q1 q2 => ⟨K, rfl, rfl, q1, q2⟩)
  intro P hP
  refine aw_aload_n d_Ve_packHighs_0 rfl rfl ?_
  refine ax_getR (b := 36) d_Ve_packHighs_1 fd_Ve_23 (k_170 S) (r_170_0 S) ?_
  refine ax_getR (b := 141) d_Ve_packHighs_4 fd_Ve_203 (k_36 S) (r_36_12 S) ?_
  refine ax_V (st := []) (as := []) (b := 141) (v := none) (h' := sD h (a_up I 141 1 0) L) d_Ve_packHighs_7 cs_Ve_packHighs_7 (k_141 S) (c_By_clear ⟨k_141 S, r_141_0 S, k_142 S, by decide, by decide, by decide⟩) rfl rfl rfl ?_
  show AW l G M_Ve_packHighs P 10 [(0, vr 170), (1, vr 24), (2, vr 35)] [] (sD h (a_up I 141 1 0) L)
  refine aw_iconst d_Ve_packHighs_10 ⟨by decide, by decide⟩ ?_
  refine aw_istore_n (lv' := [(3, vi 0), (0, vr 170), (1, vr 24), (2, vr 35)]) d_Ve_packHighs_11 rfl (by decide) rfl ?_
  have lp_12 : ∀ (n_ : Nat) (i : Int) (K : Nat → Int → Int), (0 ≤ i ∧ i ≤ 8) → (FC (fun a => a = 136 ∨ a = 141 ∨ a = 142) I L K L) → (HB K 141 142 (128 * i) (hvB (byAt I 24 25) 4544 75 261888 16 4 128 W)) → ((8 - i).toNat) = n_ → AW l G M_Ve_packHighs P 12 [(3, vi i), (2, vr 35), (1, vr 24), (0, vr 170)] [] (sD h K L) := by
    intro n_
    induction n_ using Nat.strongRecOn with
    | _ n_ ih_12 =>
    intro i K hi F H hm_12
    have b1 := hEn_b (o4 := 4619) (i := i - 1) (fun i => byAt_b (I := I) (b := 24) (r := 25) (i := i))
    have b2 := hEn_b (o4 := 4619) (i := i) (fun i => byAt_b (I := I) (b := 24) (r := 25) (i := i))
    refine aw_iload_n d_Ve_packHighs_12 rfl rfl ?_
    refine aw_aload_n d_Ve_packHighs_13 rfl rfl ?_
    refine ax_getIe (x := 8) d_Ve_packHighs_14 fd_Ve_81 (k_35 S) (Eq.trans (F.1 35 0 (by omega)) (pc_35_0 SD.2.1)) ?_
    refine aw_icmp_ge (tgt := 171) d_Ve_packHighs_17 (by decide) (fun c_17 => ?_) (fun c_17 => ?_)
    · skip
      exact aw_vret d_Ve_packHighs_171 rfl (hP K F (by rw [show 1024 = 128 * i by omega]; exact H))
    · skip
      refine aw_aload_n d_Ve_packHighs_20 rfl rfl ?_
      refine aw_aload_n d_Ve_packHighs_21 rfl rfl ?_
      refine aw_iload_n d_Ve_packHighs_22 rfl rfl ?_
      refine aw_iconst d_Ve_packHighs_23 ⟨by decide, by decide⟩ ?_
      refine ax_isub d_Ve_packHighs_24 ⟨(by omega), (by omega)⟩ ?_
      refine ax_S (st := []) (as := [vr 24, vr 35, vi (i - 1)]) (v := some (vi (hEn (byAt I 24 25) 4619 (i - 1)))) (h' := sD h K L) d_Ve_packHighs_25 cs_Ve_packHighs_25 (by have z := c_Ve_hintsEnd2 (l := l) (G := G) (L := L) (I := K) (i := i - 1) S (SD.fc F (by intro a x; omega)).2.1 (by rw [F.1 24 1 (by omega)]; omega); rw [show byAt K 24 25 = byAt I 24 25 from funext (fun x => byAt_fc F (by omega) (by omega))] at z; exact z) rfl rfl rfl ?_
      show AW l G M_Ve_packHighs P 28 [(3, vi i), (2, vr 35), (1, vr 24), (0, vr 170)] [vi (hEn (byAt I 24 25) 4619 (i - 1))] (sD h K L)
      refine aw_istore (lv' := [(4, vi (hEn (byAt I 24 25) 4619 (i - 1))), (3, vi i), (2, vr 35), (1, vr 24), (0, vr 170)]) d_Ve_packHighs_28 (by decide) rfl ?_
      refine aw_aload_n d_Ve_packHighs_30 rfl rfl ?_
      refine aw_aload_n d_Ve_packHighs_31 rfl rfl ?_
      refine aw_iload_n d_Ve_packHighs_32 rfl rfl ?_
      refine ax_S (st := []) (as := [vr 24, vr 35, vi i]) (v := some (vi (hEn (byAt I 24 25) 4619 i))) (h' := sD h K L) d_Ve_packHighs_33 cs_Ve_packHighs_33 (by have z := c_Ve_hintsEnd2 (l := l) (G := G) (L := L) (I := K) (i := i) S (SD.fc F (by intro a x; omega)).2.1 (by rw [F.1 24 1 (by omega)]; omega); rw [show byAt K 24 25 = byAt I 24 25 from funext (fun x => byAt_fc F (by omega) (by omega))] at z; exact z) rfl rfl rfl ?_
      show AW l G M_Ve_packHighs P 36 [(4, vi (hEn (byAt I 24 25) 4619 (i - 1))), (3, vi i), (2, vr 35), (1, vr 24), (0, vr 170)] [vi (hEn (byAt I 24 25) 4619 i)] (sD h K L)
      refine aw_istore (lv' := [(5, vi (hEn (byAt I 24 25) 4619 i)), (4, vi (hEn (byAt I 24 25) 4619 (i - 1))), (3, vi i), (2, vr 35), (1, vr 24), (0, vr 170)]) d_Ve_packHighs_36 (by decide) rfl ?_
      have st_ := hS.1 i hi.1 (by omega)
      rw [show (4544 + 75 : Int) = 4619 from rfl] at st_
      refine aw_iconst d_Ve_packHighs_38 ⟨by decide, by decide⟩ ?_
      refine aw_istore (lv' := [(6, vi 0), (5, vi (hEn (byAt I 24 25) 4619 i)), (4, vi (hEn (byAt I 24 25) 4619 (i - 1))), (3, vi i), (2, vr 35), (1, vr 24), (0, vr 170)]) d_Ve_packHighs_39 (by decide) rfl ?_
      have lp_41 : ∀ (n_ : Nat) (c : Int) (x : Int), (0 ≤ c ∧ c ≤ 256) → (hEn (byAt I 24 25) 4619 (i - 1) ≤ x ∧ x ≤ hEn (byAt I 24 25) 4619 i) → (∀ y, hEn (byAt I 24 25) 4619 (i - 1) ≤ y → y < x → byAt I 24 25 (4544 + y) < c) → (∀ y, x ≤ y → y < hEn (byAt I 24 25) 4619 i → c ≤ byAt I 24 25 (4544 + y)) → ((256 - c).toNat) = n_ → AW l G M_Ve_packHighs P 41 [(6, vi c), (5, vi (hEn (byAt I 24 25) 4619 i)), (4, vi x), (3, vi i), (2, vr 35), (1, vr 24), (0, vr 170)] [] (sD h (rowTo K 136 c (fun x => hvV (byAt I 24 25) 4544 75 261888 16 i x (W i x))) L) := by
        intro n_
        induction n_ using Nat.strongRecOn with
        | _ n_ ih_41 =>
        intro c x hc hx lo up hm_41
        have PJ : ParD (rowTo K 136 c (fun x => hvV (byAt I 24 25) 4544 75 261888 16 i x (W i x))) := (SD.fc (F.tr (FC.row (p := fun a => a = 136) rfl) (r := fun a => a = 136 ∨ a = 141 ∨ a = 142) (by intro a x; omega)) (by intro a x; omega)).2.1
        have gp : (rowTo K 136 c (fun x => hvV (byAt I 24 25) 4544 75 261888 16 i x (W i x))) 35 5 = 261888 := pc_35_5 PJ
        have gh : (rowTo K 136 c (fun x => hvV (byAt I 24 25) 4544 75 261888 16 i x (W i x))) 35 8 = 16 := pc_35_8 PJ
        refine aw_iload d_Ve_packHighs_41 rfl ?_
        refine aw_sipush d_Ve_packHighs_43 ⟨by decide, by decide⟩ (by decide) ?_
        refine aw_icmp_ge (tgt := 144) d_Ve_packHighs_46 (by decide) (fun c_46 => ?_) (fun c_46 => ?_)
        · skip
          rw [show c = 256 by omega]
          refine aw_aload_n d_Ve_packHighs_144 rfl rfl ?_
          refine ax_getR (b := 36) d_Ve_packHighs_145 fd_Ve_23 (k_170 S) (r_170_0 S) ?_
          refine ax_getR (b := 141) d_Ve_packHighs_148 fd_Ve_203 (k_36 S) (r_36_12 S) ?_
          refine aw_aload_n d_Ve_packHighs_151 rfl rfl ?_
          refine ax_getR (b := 36) d_Ve_packHighs_152 fd_Ve_23 (k_170 S) (r_170_0 S) ?_
          refine ax_getR (b := 136) d_Ve_packHighs_155 fd_Ve_186 (k_36 S) (r_36_9 S) ?_
          refine aw_aload_n d_Ve_packHighs_158 rfl rfl ?_
          refine ax_getIe (x := 4) d_Ve_packHighs_159 fd_Ve_215 (k_35 S) (Eq.trans (rowTo_ne (by omega)) (Eq.trans (F.1 35 12 (by omega)) (pc_35_12 SD.2.1))) ?_
          refine ax_V (st := []) (as := [vr 136, vi 4]) (b := 141) (v := none) (h' := sD h (byPut (rowTo K 136 256 (fun x => hvV (byAt I 24 25) 4544 75 261888 16 i x (W i x))) 141 142 (32 * 4) (gB ((rowTo K 136 256 (fun x => hvV (byAt I 24 25) 4544 75 261888 16 i x (W i x))) 136) 4)) L) d_Ve_packHighs_162 cs_Ve_packHighs_162 (k_141 S) (by have z := c_By_addBits (l := l) (G := G) (L := L) (I := rowTo K 136 256 (fun x => hvV (byAt I 24 25) 4544 75 261888 16 i x (W i x))) (w := 4) ⟨k_141 S, r_141_0 S, k_142 S, by decide, by decide, by decide⟩ ⟨k_136 S, by decide, n_136 S, by decide, by decide⟩ (by decide) (fun j x y => by rw [rowTo_in x y]; have := hvV_b (g := (byAt I 24 25)) (o3 := 4544) (w := 75) (i := i) (j := j) (qW i hi.1 (by omega) j x y); omega) (by rw [rowTo_ne (by decide), H.1, n_142 S]; omega); exact z) rfl rfl rfl ?_
          show AW l G M_Ve_packHighs P 165 [(6, vi 256), (5, vi (hEn (byAt I 24 25) 4619 i)), (4, vi x), (3, vi i), (2, vr 35), (1, vr 24), (0, vr 170)] [] (sD h (byPut (rowTo K 136 256 (fun x => hvV (byAt I 24 25) 4544 75 261888 16 i x (W i x))) 141 142 (32 * 4) (gB ((rowTo K 136 256 (fun x => hvV (byAt I 24 25) 4544 75 261888 16 i x (W i x))) 136) 4)) L)
          refine ax_iinc (lv' := [(3, vi (i + 1)), (6, vi 256), (5, vi (hEn (byAt I 24 25) 4619 i)), (4, vi x), (2, vr 35), (1, vr 24), (0, vr 170)]) d_Ve_packHighs_165 rfl (by decide) ⟨(by omega), (by omega)⟩ rfl ?_
          refine aw_goto (tgt := 12) d_Ve_packHighs_168 (by decide) ?_
          refine aw_sub (lv' := [(3, vi (i + 1)), (2, vr 35), (1, vr 24), (0, vr 170)]) (by simp) ?_
          exact ih_12 _ (by omega) (i + 1) (byPut (rowTo K 136 256 (fun x => hvV (byAt I 24 25) 4544 75 261888 16 i x (W i x))) 141 142 (32 * 4) (gB ((rowTo K 136 256 (fun x => hvV (byAt I 24 25) 4544 75 261888 16 i x (W i x))) 136) 4)) (by omega) ((F.tr (FC.row (p := fun a => a = 136 ∨ a = 141 ∨ a = 142) (by omega)) (fun a x => ⟨x, x⟩)).tr (FC.put (p := fun a => a = 136 ∨ a = 141 ∨ a = 142) (by omega) (by omega)) (fun a x => ⟨x, x⟩)) (by rw [show 128 * (i + 1) = 128 * i + 32 * 4 by omega]; exact (H.fc (L := L) (L' := L) (FC.row (p := fun a => a = 136) rfl) (by decide) (by decide)).put (by decide) (by omega) (by decide) (fun z x y => by rw [gB_m]; unfold hvB; rw [show (128 * i + z) / 128 = i by omega, show (128 * i + z) % 128 = z by omega, gB_congr (G := fun j => hvV (byAt I 24 25) 4544 75 261888 16 i j (W i j)) (fun j u v => by rw [rowTo_in u v])])) rfl
        · skip
          have wr := qW i hi.1 (by omega) c hc.1 (by omega)
          refine aw_aload_n d_Ve_packHighs_49 rfl rfl ?_
          refine ax_getR (b := 36) d_Ve_packHighs_50 fd_Ve_23 (k_170 S) (r_170_0 S) ?_
          refine ax_getR (b := 126) d_Ve_packHighs_53 fd_Ve_193 (k_36 S) (r_36_7 S) ?_
          refine aw_iload_n d_Ve_packHighs_56 rfl rfl ?_
          refine ax_aald (b := 127 + i.toNat) d_Ve_packHighs_57 ⟨by rw [(k_126 S)]; decide, by rw [(k_126 S)]; decide⟩ (by omega) (by rw [n_126 S]; omega) (g_126 S (by omega) (by omega)) ?_
          refine aw_iload d_Ve_packHighs_58 rfl ?_
          refine ax_ialde (x := W i c) d_Ve_packHighs_60 (kr_126 S (by omega)) (by omega) (by rw [nr_126 S (by omega)]; omega) (Eq.trans (rowTo_ne (by omega)) ((F.1 (127 + i.toNat) c (by omega)).trans (hW i hi.1 (by omega) c hc.1 (by omega)))) ?_
          refine aw_istore (lv' := [(7, vi (W i c)), (6, vi c), (5, vi (hEn (byAt I 24 25) 4619 i)), (4, vi x), (3, vi i), (2, vr 35), (1, vr 24), (0, vr 170)]) d_Ve_packHighs_61 (by decide) rfl ?_
          refine aw_iload d_Ve_packHighs_63 rfl ?_
          refine aw_iload d_Ve_packHighs_65 rfl ?_
          refine aw_icmp_ge (tgt := 90) d_Ve_packHighs_67 (by decide) (fun c_67 => ?_) (fun c_67 => ?_)
          · skip
            refine aw_iconst d_Ve_packHighs_90 ⟨by decide, by decide⟩ ?_
            refine aw_istore (lv' := [(8, vi 0), (7, vi (W i c)), (6, vi c), (5, vi (hEn (byAt I 24 25) 4619 i)), (4, vi x), (3, vi i), (2, vr 35), (1, vr 24), (0, vr 170)]) d_Ve_packHighs_91 (by decide) rfl ?_
            refine aw_aload_n d_Ve_packHighs_93 rfl rfl ?_
            refine ax_getR (b := 36) d_Ve_packHighs_94 fd_Ve_23 (k_170 S) (r_170_0 S) ?_
            refine ax_getR (b := 136) d_Ve_packHighs_97 fd_Ve_186 (k_36 S) (r_36_9 S) ?_
            refine aw_iload d_Ve_packHighs_100 rfl ?_
            refine aw_iload d_Ve_packHighs_102 rfl ?_
            refine aw_if_eq (tgt := 116) d_Ve_packHighs_104 (by decide) (fun c_104 => ?_) (fun c_104 => False.elim (by omega))
            refine aw_aload_n d_Ve_packHighs_116 rfl rfl ?_
            refine aw_iload d_Ve_packHighs_117 rfl ?_
            refine ax_V (st := [vi c, vr 136]) (as := [vi (W i c)]) (b := 35) (v := some (vi (dHigh 261888 (W i c)))) (h' := sD h (rowTo K 136 c (fun x => hvV (byAt I 24 25) 4544 75 261888 16 i x (W i x))) L) d_Ve_packHighs_119 cs_Ve_packHighs_119 (k_35 S) (by have z := c_Pa_high (l := l) (G := G) (L := L) (I := rowTo K 136 c (fun x => hvV (byAt I 24 25) 4544 75 261888 16 i x (W i x))) (p := 35) (r := W i c) (k_35 S) (by rw [gp]; decide) wr; rw [gp] at z; exact z) rfl rfl rfl ?_
            show AW l G M_Ve_packHighs P 122 [(8, vi 0), (7, vi (W i c)), (6, vi c), (5, vi (hEn (byAt I 24 25) 4619 i)), (4, vi x), (3, vi i), (2, vr 35), (1, vr 24), (0, vr 170)] [vi (dHigh 261888 (W i c)), vi c, vr 136] (sD h (rowTo K 136 c (fun x => hvV (byAt I 24 25) 4544 75 261888 16 i x (W i x))) L)
            refine ax_iast d_Ve_packHighs_122 (k_136 S) (by decide) (by omega) (by rw [n_136 S]; omega) ?_
            rw [show dHigh 261888 (W i c) = hvV (byAt I 24 25) 4544 75 261888 16 i c (W i c) from (hvV_n (fun ⟨y, y1, y2, y3⟩ => by rw [show (4544 + 75 : Int) = 4619 from rfl] at y1 y2; by_cases z : y < x; exact absurd (lo y y1 z) (by omega); by_cases z2 : y = x; exact (by rw [z2] at y3 y2; omega); have u1 := up x (by omega) (by omega); have u2 := rises_at st_.2.2 (x := 4544 + x) (y := 4544 + y) (by omega) (by omega) (by omega); omega)).symm]
            rw [rowTo_1 (by omega) rfl]
            refine aw_iload d_Ve_packHighs_123 rfl ?_
            refine aw_iload d_Ve_packHighs_125 rfl ?_
            refine aw_if_eq (tgt := 134) d_Ve_packHighs_127 (by decide) (fun c_127 => ?_) (fun c_127 => False.elim (by omega))
            refine aw_iconst d_Ve_packHighs_134 ⟨by decide, by decide⟩ ?_
            refine ax_iadd d_Ve_packHighs_135 ⟨(by omega), (by omega)⟩ ?_
            refine aw_istore (lv' := [(4, vi (x + 0)), (8, vi 0), (7, vi (W i c)), (6, vi c), (5, vi (hEn (byAt I 24 25) 4619 i)), (3, vi i), (2, vr 35), (1, vr 24), (0, vr 170)]) d_Ve_packHighs_136 (by decide) rfl ?_
            refine ax_iinc (lv' := [(6, vi (c + 1)), (4, vi (x + 0)), (8, vi 0), (7, vi (W i c)), (5, vi (hEn (byAt I 24 25) 4619 i)), (3, vi i), (2, vr 35), (1, vr 24), (0, vr 170)]) d_Ve_packHighs_138 rfl (by decide) ⟨(by omega), (by omega)⟩ rfl ?_
            refine aw_goto (tgt := 41) d_Ve_packHighs_141 (by decide) ?_
            refine aw_sub (lv' := [(6, vi (c + 1)), (5, vi (hEn (byAt I 24 25) 4619 i)), (4, vi (x + 0)), (3, vi i), (2, vr 35), (1, vr 24), (0, vr 170)]) (by simp) ?_
            exact ih_41 _ (by omega) (c + 1) (x + 0) (by omega) (by omega) (fun y a b => by have := lo y a (by omega); omega) (fun y a b => by have u_ := up y (by omega) b; by_cases z : y = x; exact (by rw [z] at u_ ⊢; omega); have := rises_at st_.2.2 (x := 4544 + x) (y := 4544 + y) (by omega) (by omega) (by omega); have := up x (by omega) (by omega); omega) rfl
          · skip
            refine aw_aload_n d_Ve_packHighs_70 rfl rfl ?_
            refine aw_aload_n d_Ve_packHighs_71 rfl rfl ?_
            refine ax_S (st := [vr 24]) (as := [vr 35]) (v := some (vi 4544)) (h' := sD h (rowTo K 136 c (fun x => hvV (byAt I 24 25) 4544 75 261888 16 i x (W i x))) L) d_Ve_packHighs_72 cs_Ve_packHighs_72 (c_Ve_hintsStart2 S PJ) rfl rfl rfl ?_
            show AW l G M_Ve_packHighs P 75 [(7, vi (W i c)), (6, vi c), (5, vi (hEn (byAt I 24 25) 4619 i)), (4, vi x), (3, vi i), (2, vr 35), (1, vr 24), (0, vr 170)] [vi 4544, vr 24] (sD h (rowTo K 136 c (fun x => hvV (byAt I 24 25) 4544 75 261888 16 i x (W i x))) L)
            refine aw_iload d_Ve_packHighs_75 rfl ?_
            refine ax_iadd d_Ve_packHighs_77 ⟨(by omega), (by omega)⟩ ?_
            refine ax_V (st := []) (as := [vi (4544 + x)]) (b := 24) (v := some (vi (byAt I 24 25 (4544 + x)))) (h' := sD h (rowTo K 136 c (fun x => hvV (byAt I 24 25) 4544 75 261888 16 i x (W i x))) L) d_Ve_packHighs_78 cs_Ve_packHighs_78 (k_24 S) (c_By_at (ks S (i := 5) (by decide)) (by rw [rowTo_ne (by omega), F.1 24 1 (by omega), nks S (i := 5) (by decide)]; omega) ((byAt_fc (L := L) (L' := L) (FC.row (p := fun a => a = 136) rfl) (by decide) (by decide)).trans (byAt_fc F (by omega) (by omega)))) rfl rfl rfl ?_
            show AW l G M_Ve_packHighs P 81 [(7, vi (W i c)), (6, vi c), (5, vi (hEn (byAt I 24 25) 4619 i)), (4, vi x), (3, vi i), (2, vr 35), (1, vr 24), (0, vr 170)] [vi (byAt I 24 25 (4544 + x))] (sD h (rowTo K 136 c (fun x => hvV (byAt I 24 25) 4544 75 261888 16 i x (W i x))) L)
            refine aw_iload d_Ve_packHighs_81 rfl ?_
            refine aw_icmp_ne (tgt := 90) d_Ve_packHighs_83 (by decide) (fun c_83 => ?_) (fun c_83 => ?_)
            · skip
              refine aw_iconst d_Ve_packHighs_90 ⟨by decide, by decide⟩ ?_
              refine aw_istore (lv' := [(8, vi 0), (7, vi (W i c)), (6, vi c), (5, vi (hEn (byAt I 24 25) 4619 i)), (4, vi x), (3, vi i), (2, vr 35), (1, vr 24), (0, vr 170)]) d_Ve_packHighs_91 (by decide) rfl ?_
              refine aw_aload_n d_Ve_packHighs_93 rfl rfl ?_
              refine ax_getR (b := 36) d_Ve_packHighs_94 fd_Ve_23 (k_170 S) (r_170_0 S) ?_
              refine ax_getR (b := 136) d_Ve_packHighs_97 fd_Ve_186 (k_36 S) (r_36_9 S) ?_
              refine aw_iload d_Ve_packHighs_100 rfl ?_
              refine aw_iload d_Ve_packHighs_102 rfl ?_
              refine aw_if_eq (tgt := 116) d_Ve_packHighs_104 (by decide) (fun c_104 => ?_) (fun c_104 => False.elim (by omega))
              refine aw_aload_n d_Ve_packHighs_116 rfl rfl ?_
              refine aw_iload d_Ve_packHighs_117 rfl ?_
              refine ax_V (st := [vi c, vr 136]) (as := [vi (W i c)]) (b := 35) (v := some (vi (dHigh 261888 (W i c)))) (h' := sD h (rowTo K 136 c (fun x => hvV (byAt I 24 25) 4544 75 261888 16 i x (W i x))) L) d_Ve_packHighs_119 cs_Ve_packHighs_119 (k_35 S) (by have z := c_Pa_high (l := l) (G := G) (L := L) (I := rowTo K 136 c (fun x => hvV (byAt I 24 25) 4544 75 261888 16 i x (W i x))) (p := 35) (r := W i c) (k_35 S) (by rw [gp]; decide) wr; rw [gp] at z; exact z) rfl rfl rfl ?_
              show AW l G M_Ve_packHighs P 122 [(8, vi 0), (7, vi (W i c)), (6, vi c), (5, vi (hEn (byAt I 24 25) 4619 i)), (4, vi x), (3, vi i), (2, vr 35), (1, vr 24), (0, vr 170)] [vi (dHigh 261888 (W i c)), vi c, vr 136] (sD h (rowTo K 136 c (fun x => hvV (byAt I 24 25) 4544 75 261888 16 i x (W i x))) L)
              refine ax_iast d_Ve_packHighs_122 (k_136 S) (by decide) (by omega) (by rw [n_136 S]; omega) ?_
              rw [show dHigh 261888 (W i c) = hvV (byAt I 24 25) 4544 75 261888 16 i c (W i c) from (hvV_n (fun ⟨y, y1, y2, y3⟩ => by rw [show (4544 + 75 : Int) = 4619 from rfl] at y1 y2; by_cases z : y < x; exact absurd (lo y y1 z) (by omega); by_cases z2 : y = x; exact (by rw [z2] at y3 y2; omega); have u1 := up x (by omega) (by omega); have u2 := rises_at st_.2.2 (x := 4544 + x) (y := 4544 + y) (by omega) (by omega) (by omega); omega)).symm]
              rw [rowTo_1 (by omega) rfl]
              refine aw_iload d_Ve_packHighs_123 rfl ?_
              refine aw_iload d_Ve_packHighs_125 rfl ?_
              refine aw_if_eq (tgt := 134) d_Ve_packHighs_127 (by decide) (fun c_127 => ?_) (fun c_127 => False.elim (by omega))
              refine aw_iconst d_Ve_packHighs_134 ⟨by decide, by decide⟩ ?_
              refine ax_iadd d_Ve_packHighs_135 ⟨(by omega), (by omega)⟩ ?_
              refine aw_istore (lv' := [(4, vi (x + 0)), (8, vi 0), (7, vi (W i c)), (6, vi c), (5, vi (hEn (byAt I 24 25) 4619 i)), (3, vi i), (2, vr 35), (1, vr 24), (0, vr 170)]) d_Ve_packHighs_136 (by decide) rfl ?_
              refine ax_iinc (lv' := [(6, vi (c + 1)), (4, vi (x + 0)), (8, vi 0), (7, vi (W i c)), (5, vi (hEn (byAt I 24 25) 4619 i)), (3, vi i), (2, vr 35), (1, vr 24), (0, vr 170)]) d_Ve_packHighs_138 rfl (by decide) ⟨(by omega), (by omega)⟩ rfl ?_
              refine aw_goto (tgt := 41) d_Ve_packHighs_141 (by decide) ?_
              refine aw_sub (lv' := [(6, vi (c + 1)), (5, vi (hEn (byAt I 24 25) 4619 i)), (4, vi (x + 0)), (3, vi i), (2, vr 35), (1, vr 24), (0, vr 170)]) (by simp) ?_
              exact ih_41 _ (by omega) (c + 1) (x + 0) (by omega) (by omega) (fun y a b => by have := lo y a (by omega); omega) (fun y a b => by have u_ := up y (by omega) b; by_cases z : y = x; exact (by rw [z] at u_ ⊢; omega); have := rises_at st_.2.2 (x := 4544 + x) (y := 4544 + y) (by omega) (by omega) (by omega); have := up x (by omega) (by omega); omega) rfl
            · skip
              refine aw_iconst d_Ve_packHighs_86 ⟨by decide, by decide⟩ ?_
              refine aw_goto (tgt := 91) d_Ve_packHighs_87 (by decide) ?_
              refine aw_istore (lv' := [(8, vi 1), (7, vi (W i c)), (6, vi c), (5, vi (hEn (byAt I 24 25) 4619 i)), (4, vi x), (3, vi i), (2, vr 35), (1, vr 24), (0, vr 170)]) d_Ve_packHighs_91 (by decide) rfl ?_
              refine aw_aload_n d_Ve_packHighs_93 rfl rfl ?_
              refine ax_getR (b := 36) d_Ve_packHighs_94 fd_Ve_23 (k_170 S) (r_170_0 S) ?_
              refine ax_getR (b := 136) d_Ve_packHighs_97 fd_Ve_186 (k_36 S) (r_36_9 S) ?_
              refine aw_iload d_Ve_packHighs_100 rfl ?_
              refine aw_iload d_Ve_packHighs_102 rfl ?_
              refine aw_if_eq (tgt := 116) d_Ve_packHighs_104 (by decide) (fun c_104 => False.elim (by omega)) (fun c_104 => ?_)
              refine aw_aload_n d_Ve_packHighs_107 rfl rfl ?_
              refine aw_iload d_Ve_packHighs_108 rfl ?_
              refine ax_V (st := [vi c, vr 136]) (as := [vi (W i c)]) (b := 35) (v := some (vi (hHigh 261888 16 (W i c)))) (h' := sD h (rowTo K 136 c (fun x => hvV (byAt I 24 25) 4544 75 261888 16 i x (W i x))) L) d_Ve_packHighs_110 cs_Ve_packHighs_110 (k_35 S) (by have z := c_Pa_hintedHigh (l := l) (G := G) (L := L) (I := rowTo K 136 c (fun x => hvV (byAt I 24 25) 4544 75 261888 16 i x (W i x))) (p := 35) (r := W i c) (k_35 S) (by rw [gp]; decide) wr (by rw [gp, gh]; have := dHi16 wr; omega); rw [gp, gh] at z; exact z) rfl rfl rfl ?_
              show AW l G M_Ve_packHighs P 113 [(8, vi 1), (7, vi (W i c)), (6, vi c), (5, vi (hEn (byAt I 24 25) 4619 i)), (4, vi x), (3, vi i), (2, vr 35), (1, vr 24), (0, vr 170)] [vi (hHigh 261888 16 (W i c)), vi c, vr 136] (sD h (rowTo K 136 c (fun x => hvV (byAt I 24 25) 4544 75 261888 16 i x (W i x))) L)
              refine aw_goto (tgt := 122) d_Ve_packHighs_113 (by decide) ?_
              refine ax_iast d_Ve_packHighs_122 (k_136 S) (by decide) (by omega) (by rw [n_136 S]; omega) ?_
              rw [show hHigh 261888 16 (W i c) = hvV (byAt I 24 25) 4544 75 261888 16 i c (W i c) from (hvV_y ⟨x, by show hEn (byAt I 24 25) 4619 (i - 1) ≤ x; omega, by show x < hEn (byAt I 24 25) 4619 i; omega, by omega⟩).symm]
              rw [rowTo_1 (by omega) rfl]
              refine aw_iload d_Ve_packHighs_123 rfl ?_
              refine aw_iload d_Ve_packHighs_125 rfl ?_
              refine aw_if_eq (tgt := 134) d_Ve_packHighs_127 (by decide) (fun c_127 => False.elim (by omega)) (fun c_127 => ?_)
              refine aw_iconst d_Ve_packHighs_130 ⟨by decide, by decide⟩ ?_
              refine aw_goto (tgt := 135) d_Ve_packHighs_131 (by decide) ?_
              refine ax_iadd d_Ve_packHighs_135 ⟨(by omega), (by omega)⟩ ?_
              refine aw_istore (lv' := [(4, vi (x + 1)), (8, vi 1), (7, vi (W i c)), (6, vi c), (5, vi (hEn (byAt I 24 25) 4619 i)), (3, vi i), (2, vr 35), (1, vr 24), (0, vr 170)]) d_Ve_packHighs_136 (by decide) rfl ?_
              refine ax_iinc (lv' := [(6, vi (c + 1)), (4, vi (x + 1)), (8, vi 1), (7, vi (W i c)), (5, vi (hEn (byAt I 24 25) 4619 i)), (3, vi i), (2, vr 35), (1, vr 24), (0, vr 170)]) d_Ve_packHighs_138 rfl (by decide) ⟨(by omega), (by omega)⟩ rfl ?_
              refine aw_goto (tgt := 41) d_Ve_packHighs_141 (by decide) ?_
              refine aw_sub (lv' := [(6, vi (c + 1)), (5, vi (hEn (byAt I 24 25) 4619 i)), (4, vi (x + 1)), (3, vi i), (2, vr 35), (1, vr 24), (0, vr 170)]) (by simp) ?_
              exact ih_41 _ (by omega) (c + 1) (x + 1) (by omega) (by omega) (fun y a b => by by_cases z : y = x; exact (by rw [z]; omega); have := lo y a (by omega); omega) (fun y a b => by have := rises_at st_.2.2 (x := 4544 + x) (y := 4544 + y) (by omega) (by omega) (by omega); omega) rfl
      refine ax_hp (h' := sD h (rowTo K 136 0 (fun x => hvV (byAt I 24 25) 4544 75 261888 16 i x (W i x))) L) (by rw [rowTo_0]) ?_
      exact lp_41 _ 0 (hEn (byAt I 24 25) 4619 (i - 1)) (by omega) (by omega) (fun y a b => by omega) (fun y a b => byAt_b.1) rfl
  skip
  refine aw_sub (lv' := [(3, vi 0), (2, vr 35), (1, vr 24), (0, vr 170)]) (by simp) ?_
  exact lp_12 _ 0 (a_up I 141 1 0) (by omega) (FC.up (p := fun a => a = 136 ∨ a = 141 ∨ a = 142) (by omega)) (by rw [Int.mul_zero]; exact HB.zero) rfl
