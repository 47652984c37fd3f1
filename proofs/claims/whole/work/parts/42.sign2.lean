/-! Signer: the tests of a try, the packet -/
def prB (B V : Int → Int) : Int → Int := bck rt (fun j => B j * V j % 8380417)
theorem prB_in {B V : Int → Int} : inQ (prB B V) := bck_in
theorem prB_eq {B V B' V' : Int → Int} (h1 : eqQ B B') (h2 : eqQ V V') : eqQ (prB B V) (prB B' V') := bck_eq (fun j x y => by rw [h1 j x y, h2 j x y])
def wiN (t : Int) (F : Int → Int) : Prop := ∀ j, 0 ≤ j → j < 256 → ¬ (t ≤ F j ∧ F j ≤ 8380417 - t)
theorem wiN_eq {t : Int} {F G : Int → Int} (h : eqQ F G) : wiN t F ↔ wiN t G := ⟨fun z j x y => by rw [← h j x y]; exact z j x y, fun z j x y => by rw [h j x y]; exact z j x y⟩
def loN (g t : Int) (F : Int → Int) : Prop := ∀ j, 0 ≤ j → j < 256 → -t < dLow g (F j) ∧ dLow g (F j) < t
theorem loN_eq {g t : Int} {F G : Int → Int} (h : eqQ F G) : loN g t F ↔ loN g t G := ⟨fun z j x y => by rw [← h j x y]; exact z j x y, fun z j x y => by rw [h j x y]; exact z j x y⟩
def hIt (fl : Nat → Bool) : Nat → Int × (Int → Int)
  | 0 => (0, fun _ => 0)
  | n + 1 => if fl n = true then ((hIt fl n).1 + 1, fun x => if x = (hIt fl n).1 then ((n % 256 : Nat) : Int) else (hIt fl n).2 x) else hIt fl n
theorem hIt_y {fl : Nat → Bool} {n : Nat} (h : fl n = true) : hIt fl (n + 1) = ((hIt fl n).1 + 1, fun x => if x = (hIt fl n).1 then ((n % 256 : Nat) : Int) else (hIt fl n).2 x) := if_pos h
theorem hIt_n {fl : Nat → Bool} {n : Nat} (h : ¬ fl n = true) : hIt fl (n + 1) = hIt fl n := if_neg h
theorem hIt_0 {fl : Nat → Bool} : ∀ n, 0 ≤ (hIt fl n).1
  | 0 => Int.le_refl _
  | n + 1 => by
    have z := hIt_0 (fl := fl) n
    by_cases h : fl n = true
    · rw [hIt_y h]; show 0 ≤ (hIt fl n).1 + 1; omega
    · rw [hIt_n h]; exact z
theorem hIt_le {fl : Nat → Bool} {a : Nat} : ∀ b, (hIt fl a).1 ≤ (hIt fl (a + b)).1
  | 0 => Int.le_refl _
  | b + 1 => by
    have z := hIt_le (fl := fl) (a := a) b
    show _ ≤ (hIt fl ((a + b) + 1)).1
    by_cases h : fl (a + b) = true
    · rw [hIt_y h]; show _ ≤ (hIt fl (a + b)).1 + 1; omega
    · rw [hIt_n h]; exact z
theorem hIt_mono {fl : Nat → Bool} {a b : Nat} (h : a ≤ b) : (hIt fl a).1 ≤ (hIt fl b).1 := by
  have := hIt_le (fl := fl) (a := a) (b - a)
  rwa [show a + (b - a) = b by omega] at this
theorem HB.add {I : Nat → Int → Int} {b r : Nat} {n v : Int} {g g' : Int → Int} (h : HB I b r n g) (hbr : b ≠ r) (h0 : 0 ≤ n) (hg : ∀ k, 0 ≤ k → k < n → g' k = g k) (hv : g' n = v % 256) : HB (byAdd I b r v) b r (n + 1) g' := by
  have e1 : byAdd I b r v b 1 = n + 1 := by
    unfold byAdd
    rw [a_up_at, h.1]
  refine ⟨e1, fun k k0 k1 => ?_⟩
  unfold byAt
  rw [e1, if_pos ⟨k0, k1⟩]
  unfold byAdd
  rw [a_up_ne (Or.inl (Ne.symm hbr)), h.1]
  by_cases c : k = n
  · rw [c, a_up_at, a_m8w, hv]
  · rw [a_up_ne (Or.inr c), hg k k0 (by omega)]
    have := h.2 k k0 (by omega)
    unfold byAt at this
    rwa [if_pos ⟨k0, by rw [h.1]; omega⟩] at this
theorem FC.add {p : Nat → Prop} {I L : Nat → Int → Int} {b r : Nat} {v : Int} (hb : p b) (hr : p r) : FC p I L (byAdd I b r v) L := (FC.up hr).tr (FC.up hb) (fun a x => ⟨x, x⟩)
theorem HB.stretch {I : Nat → Int → Int} {b r : Nat} {n m : Int} {g : Int → Int} (h : HB I b r n g) (hbr : b ≠ r) (hm : n ≤ m) : HB (byStretch I b r m) b r m (fun x => if x < n then g x else 0) := by
  have e1 : byStretch I b r m b 1 = m := by unfold byStretch; rw [a_up_at]
  refine ⟨e1, fun k k0 k1 => ?_⟩
  unfold byAt
  rw [e1, if_pos ⟨k0, k1⟩]
  show _ = if k < n then g k else 0
  unfold byStretch byZero
  rw [a_up_ne (Or.inl (Ne.symm hbr)), h.1]
  by_cases c : k < n
  · rw [if_neg (by omega), if_pos c]
    have := h.2 k k0 c
    unfold byAt at this
    rwa [if_pos ⟨k0, by rw [h.1]; exact c⟩] at this
  · rw [if_pos ⟨rfl, by omega, by omega⟩, if_neg c]; rfl
theorem FC.stretch {p : Nat → Prop} {I L : Nat → Int → Int} {b r : Nat} {n : Int} (hb : p b) (hr : p r) : FC p I L (byStretch I b r n) L := ⟨fun a j x => by
  have h1 : a ≠ b := fun e => x (by rw [e]; exact hb)
  have h2 : a ≠ r := fun e => x (by rw [e]; exact hr)
  unfold byStretch byZero
  rw [a_up_ne (Or.inl h1)]
  exact if_neg (fun e => h2 e.1), fun _ _ _ _ _ => rfl⟩
theorem HB.addAll {I : Nat → Int → Int} {b r b2 r2 : Nat} {n m : Int} {g g2 : Int → Int} (h : HB I b r n g) (h2 : HB I b2 r2 m g2) (hbr : b ≠ r) (h0 : 0 ≤ n) (hm : 0 ≤ m) (hg : ∀ k, 0 ≤ k → k < m → g (n + k) = g2 k) : HB (byPut I b r (I b2 1) (byAt I b2 r2)) b r (n + m) g := by
  rw [h2.1]
  refine h.put hbr h0 hm (fun k x y => ?_)
  rw [hg k x y, ← h2.2 k x y]
  unfold byAt
  split
  · omega
  · rfl

set_option maxHeartbeats 800000 in
set_option maxRecDepth 100000 in
theorem c_Si_answersHide0 {l : Launch} {G : a_G} {h : Hp} {I L : Nat → Int → Int} {B : Int → Int} {V Mk : Int → Int → Int} (S : Shp h) (SD : Std I L) (hB : eqQ (I 135) B) (qB : inQ B) (hM : ∀ m, 0 ≤ m → m < 4 → eqQ (I (157 + m.toNat)) (Mk m)) (qM : ∀ m, 0 ≤ m → m < 4 → inQ (Mk m)) (hV : ∀ m, 0 ≤ m → m < 4 → eqQ (I (102 + m.toNat)) (V m)) (qV : ∀ m, 0 ≤ m → m < 4 → inQ (V m)) : AW l G M_Si_answersHide (Ret (fun u : Int × (Nat → Int → Int) => some (vi u.1)) (fun u => sD h u.2 L) (fun u => FC (fun a => a = 136 ∨ 119 ≤ a ∧ a ≤ 125) I L u.2 L ∧ ((u.1 = 1 ∧ (∀ m, 0 ≤ m → m < 4 → wiN 130994 (fun j => (Mk m j + prB B (V m) j) % 8380417)) ∧ ∀ m, 0 ≤ m → m < 4 → eqQ (u.2 (119 + m.toNat)) (fun j => (Mk m j + prB B (V m) j) % 8380417)) ∨ (u.1 = 0 ∧ ¬ ∀ m, 0 ≤ m → m < 4 → wiN 130994 (fun j => (Mk m j + prB B (V m) j) % 8380417))))) 0 (a_ar 0 [vr 146, vr 33]) [] (sD h I L) := by
  suffices key : ∀ P : a_R → Hp → Prop, (∀ (v_ : Int) (K_ : Nat → Int → Int), FC (fun a => a = 136 ∨ 119 ≤ a ∧ a ≤ 125) I L K_ L ∧ ((v_ = 1 ∧ (∀ m, 0 ≤ m → m < 4 → wiN 130994 (fun j => (Mk m j + prB B (V m) j) % 8380417)) ∧ ∀ m, 0 ≤ m → m < 4 → eqQ (K_ (119 + m.toNat)) (fun j => (Mk m j + prB B (V m) j) % 8380417)) ∨ (v_ = 0 ∧ ¬ ∀ m, 0 ≤ m → m < 4 → wiN 130994 (fun j => (Mk m j + prB B (V m) j) % 8380417))) → P (.inl (some (vi v_))) (sD h K_ L)) → AW l G M_Si_answersHide P 0 [(0, vr 146), (1, vr 33)] [] (sD h I L) from key _ (fun v K q => ⟨(v, K), rfl, rfl, q⟩)
  intro P hP
  refine aw_iconst d_Si_answersHide_0 ⟨by decide, by decide⟩ ?_
  refine aw_istore_n (lv' := [(2, vi 0), (0, vr 146), (1, vr 33)]) d_Si_answersHide_1 rfl (by decide) rfl ?_
  have lp_2 : ∀ (n_ : Nat) (i : Int) (K : Nat → Int → Int), (0 ≤ i ∧ i ≤ 4) → (FC (fun a => a = 136 ∨ 119 ≤ a ∧ a ≤ 125) I L K L) → (∀ m, 0 ≤ m → m < i → wiN 130994 (fun j => (Mk m j + prB B (V m) j) % 8380417)) → (∀ m, 0 ≤ m → m < i → eqQ (K (119 + m.toNat)) (fun j => (Mk m j + prB B (V m) j) % 8380417)) → ((4 - i).toNat) = n_ → AW l G M_Si_answersHide P 2 [(2, vi i), (1, vr 33), (0, vr 146)] [] (sD h K L) := by
    intro n_
    induction n_ using Nat.strongRecOn with
    | _ n_ ih_2 =>
    intro i K hi F okk gg hm_2
    refine aw_iload_n d_Si_answersHide_2 rfl rfl ?_
    refine aw_aload_n d_Si_answersHide_3 rfl rfl ?_
    refine ax_getIe (x := 4) d_Si_answersHide_4 fd_Si_56 (k_33 S) (Eq.trans (F.1 33 1 (by omega)) (pc_33_1 SD.2.1)) ?_
    refine aw_icmp_ge (tgt := 95) d_Si_answersHide_7 (by decide) (fun c_7 => ?_) (fun c_7 => ?_)
    · skip
      refine aw_iconst d_Si_answersHide_95 ⟨by decide, by decide⟩ ?_
      exact aw_zret d_Si_answersHide_96 rfl ⟨by decide, by decide⟩ (hP _ K ⟨F, Or.inl ⟨rfl, fun m a b => okk m a (by omega), fun m a b => gg m a (by omega)⟩⟩)
    · skip
      refine aw_aload_n d_Si_answersHide_10 rfl rfl ?_
      refine ax_getR (b := 36) d_Si_answersHide_11 fd_Si_38 (k_146 S) (r_146_0 S) ?_
      refine aw_aload_n d_Si_answersHide_14 rfl rfl ?_
      refine ax_getR (b := 36) d_Si_answersHide_15 fd_Si_38 (k_146 S) (r_146_0 S) ?_
      refine ax_getR (b := 101) d_Si_answersHide_18 fd_Si_109 (k_36 S) (r_36_4 S) ?_
      refine aw_iload_n d_Si_answersHide_21 rfl rfl ?_
      refine ax_aald (b := 102 + i.toNat) d_Si_answersHide_22 ⟨by rw [(k_101 S)]; decide, by rw [(k_101 S)]; decide⟩ (by omega) (by rw [n_101 S]; omega) (g_101 S (by omega) (by omega)) ?_
      refine ax_Vr (st := []) (as := [vr (102 + i.toNat)]) (b := 36) d_Si_answersHide_23 cs_Si_answersHide_23 (k_36 S) (c_Be_multiplyBall S (SD.fc F (by intro a x; omega)) ⟨kr_101 S (by omega), by omega, nr_101 S (by omega)⟩ (fun j x y => by rw [F.1 _ _ (by omega), hB j x y]; exact qB j x y) (fun j x y => by rw [F.1 _ _ (by omega), hV i hi.1 (by omega) j x y]; exact qV i hi.1 (by omega) j x y)) rfl rfl rfl (fun u_23 q_23 => ?_)
      obtain ⟨q1_, q2_⟩ := q_23
      have pr_ : eqQ (u_23 136) (prB B (V i)) := fun j x y => (q2_ j x y).trans (prB_eq (fun z s t => (F.1 _ _ (by omega)).trans (hB z s t)) (fun z s t => (F.1 _ _ (by omega)).trans (hV i hi.1 (by omega) z s t)) j x y)
      have Fa : FC (fun a => a = 136 ∨ 119 ≤ a ∧ a ≤ 125) I L u_23 L := F.tr q1_ (by intro a x; omega)
      show AW l G M_Si_answersHide P 26 [(2, vi i), (1, vr 33), (0, vr 146)] [] (sD h u_23 L)
      refine aw_aload_n d_Si_answersHide_26 rfl rfl ?_
      refine ax_getR (b := 156) d_Si_answersHide_27 fd_Si_20 (k_146 S) (r_146_2 S) ?_
      refine aw_iload_n d_Si_answersHide_30 rfl rfl ?_
      refine ax_aald (b := 157 + i.toNat) d_Si_answersHide_31 ⟨by rw [(k_156 S)]; decide, by rw [(k_156 S)]; decide⟩ (by omega) (by rw [n_156 S]; omega) (g_156 S (by omega) (by omega)) ?_
      refine aw_aload_n d_Si_answersHide_32 rfl rfl ?_
      refine ax_getR (b := 36) d_Si_answersHide_33 fd_Si_38 (k_146 S) (r_146_0 S) ?_
      refine ax_getR (b := 118) d_Si_answersHide_36 fd_Si_175 (k_36 S) (r_36_6 S) ?_
      refine aw_iload_n d_Si_answersHide_39 rfl rfl ?_
      refine ax_aald (b := 119 + i.toNat) d_Si_answersHide_40 ⟨by rw [(k_118 S)]; decide, by rw [(k_118 S)]; decide⟩ (by omega) (by rw [n_118 S]; omega) (g_118 S (by omega) (by omega)) ?_
      refine ax_S (st := []) (as := [vr (157 + i.toNat), vr (119 + i.toNat)]) (v := none) (h' := sD h (rowTo u_23 (119 + i.toNat) 256 (u_23 (157 + i.toNat))) L) d_Si_answersHide_41 cs_Si_answersHide_41 (c_Ri_copyRow ⟨kr_156 S (by omega), by omega, nr_156 S (by omega)⟩ ⟨kr_118 S (by omega), by omega, nr_118 S (by omega)⟩) rfl rfl rfl ?_
      show AW l G M_Si_answersHide P 44 [(2, vi i), (1, vr 33), (0, vr 146)] [] (sD h (rowTo u_23 (119 + i.toNat) 256 (u_23 (157 + i.toNat))) L)
      refine aw_aload_n d_Si_answersHide_44 rfl rfl ?_
      refine ax_getR (b := 36) d_Si_answersHide_45 fd_Si_38 (k_146 S) (r_146_0 S) ?_
      refine ax_getR (b := 118) d_Si_answersHide_48 fd_Si_175 (k_36 S) (r_36_6 S) ?_
      refine aw_iload_n d_Si_answersHide_51 rfl rfl ?_
      refine ax_aald (b := 119 + i.toNat) d_Si_answersHide_52 ⟨by rw [(k_118 S)]; decide, by rw [(k_118 S)]; decide⟩ (by omega) (by rw [n_118 S]; omega) (g_118 S (by omega) (by omega)) ?_
      refine aw_aload_n d_Si_answersHide_53 rfl rfl ?_
      refine ax_getR (b := 36) d_Si_answersHide_54 fd_Si_38 (k_146 S) (r_146_0 S) ?_
      refine ax_getR (b := 136) d_Si_answersHide_57 fd_Si_194 (k_36 S) (r_36_9 S) ?_
      refine ax_S (st := []) (as := [vr (119 + i.toNat), vr 136]) (v := none) (h' := sD h (rowTo (rowTo u_23 (119 + i.toNat) 256 (u_23 (157 + i.toNat))) (119 + i.toNat) 256 (fun j => ((rowTo u_23 (119 + i.toNat) 256 (u_23 (157 + i.toNat))) (119 + i.toNat) j + (rowTo u_23 (119 + i.toNat) 256 (u_23 (157 + i.toNat))) 136 j) % 8380417)) L) d_Si_answersHide_60 cs_Si_answersHide_60 (c_Ri_addTo ⟨kr_118 S (by omega), by omega, nr_118 S (by omega)⟩ ⟨k_136 S, by decide, n_136 S⟩ (fun j x y => by rw [rowTo_in x y, q1_.1 _ _ (by omega), F.1 _ _ (by omega), hM i hi.1 (by omega) j x y]; exact qM i hi.1 (by omega) j x y) (fun j x y => by rw [rowTo_ne (by omega), pr_ j x y]; exact prB_in j x y)) rfl rfl rfl ?_
      show AW l G M_Si_answersHide P 63 [(2, vi i), (1, vr 33), (0, vr 146)] [] (sD h (rowTo (rowTo u_23 (119 + i.toNat) 256 (u_23 (157 + i.toNat))) (119 + i.toNat) 256 (fun j => ((rowTo u_23 (119 + i.toNat) 256 (u_23 (157 + i.toNat))) (119 + i.toNat) j + (rowTo u_23 (119 + i.toNat) 256 (u_23 (157 + i.toNat))) 136 j) % 8380417)) L)
      have zi : eqQ ((rowTo (rowTo u_23 (119 + i.toNat) 256 (u_23 (157 + i.toNat))) (119 + i.toNat) 256 (fun j => ((rowTo u_23 (119 + i.toNat) 256 (u_23 (157 + i.toNat))) (119 + i.toNat) j + (rowTo u_23 (119 + i.toNat) 256 (u_23 (157 + i.toNat))) 136 j) % 8380417)) (119 + i.toNat)) (fun j => (Mk i j + prB B (V i) j) % 8380417) := fun j x y => by rw [rowTo_in x y, rowTo_in x y, rowTo_ne (by omega), pr_ j x y, q1_.1 _ _ (by omega), F.1 _ _ (by omega), hM i hi.1 (by omega) j x y]
      have Fb : FC (fun a => a = 136 ∨ 119 ≤ a ∧ a ≤ 125) I L (rowTo (rowTo u_23 (119 + i.toNat) 256 (u_23 (157 + i.toNat))) (119 + i.toNat) 256 (fun j => ((rowTo u_23 (119 + i.toNat) 256 (u_23 (157 + i.toNat))) (119 + i.toNat) j + (rowTo u_23 (119 + i.toNat) 256 (u_23 (157 + i.toNat))) 136 j) % 8380417)) L := (Fa.tr (FC.row (p := fun a => a = 136 ∨ 119 ≤ a ∧ a ≤ 125) (by omega)) (fun a x => ⟨x, x⟩)).tr (FC.row (p := fun a => a = 136 ∨ 119 ≤ a ∧ a ≤ 125) (by omega)) (fun a x => ⟨x, x⟩)
      refine aw_aload_n d_Si_answersHide_63 rfl rfl ?_
      refine ax_getR (b := 36) d_Si_answersHide_64 fd_Si_38 (k_146 S) (r_146_0 S) ?_
      refine ax_getR (b := 118) d_Si_answersHide_67 fd_Si_175 (k_36 S) (r_36_6 S) ?_
      refine aw_iload_n d_Si_answersHide_70 rfl rfl ?_
      refine ax_aald (b := 119 + i.toNat) d_Si_answersHide_71 ⟨by rw [(k_118 S)]; decide, by rw [(k_118 S)]; decide⟩ (by omega) (by rw [n_118 S]; omega) (g_118 S (by omega) (by omega)) ?_
      refine aw_aload_n d_Si_answersHide_72 rfl rfl ?_
      refine ax_getIe (x := 131072) d_Si_answersHide_73 fd_Si_220 (k_33 S) (Eq.trans (rowTo_ne (by omega)) (Eq.trans (rowTo_ne (by omega)) (Eq.trans (Fa.1 33 4 (by omega)) (pc_33_4 SD.2.1)))) ?_
      refine aw_aload_n d_Si_answersHide_76 rfl rfl ?_
      refine ax_getIe (x := 78) d_Si_answersHide_77 fd_Si_223 (k_33 S) (Eq.trans (rowTo_ne (by omega)) (Eq.trans (rowTo_ne (by omega)) (Eq.trans (Fa.1 33 9 (by omega)) (pc_33_9 SD.2.1)))) ?_
      refine ax_isub d_Si_answersHide_80 ⟨(by omega), (by omega)⟩ ?_
      refine ax_ti (x := 130994) (by decide) ?_
      refine ax_Sr (st := []) (as := [vr (119 + i.toNat), vi 130994]) d_Si_answersHide_81 cs_Si_answersHide_81 (c_Ri_within ⟨kr_118 S (by omega), by omega, nr_118 S (by omega)⟩ (by decide)) rfl rfl rfl (fun u_81 q_81 => ?_)
      obtain ⟨wo, wi⟩ := q_81
      have wi := wi.trans (wiN_eq zi)
      show AW l G M_Si_answersHide P 84 [(2, vi i), (1, vr 33), (0, vr 146)] [vi u_81] (sD h (rowTo (rowTo u_23 (119 + i.toNat) 256 (u_23 (157 + i.toNat))) (119 + i.toNat) 256 (fun j => ((rowTo u_23 (119 + i.toNat) 256 (u_23 (157 + i.toNat))) (119 + i.toNat) j + (rowTo u_23 (119 + i.toNat) 256 (u_23 (157 + i.toNat))) 136 j) % 8380417)) L)
      refine aw_if_ne (tgt := 89) d_Si_answersHide_84 (by decide) (fun c_84 => ?_) (fun c_84 => ?_)
      · skip
        refine ax_iinc (lv' := [(2, vi (i + 1)), (1, vr 33), (0, vr 146)]) d_Si_answersHide_89 rfl (by decide) ⟨(by omega), (by omega)⟩ rfl ?_
        refine aw_goto (tgt := 2) d_Si_answersHide_92 (by decide) ?_
        exact ih_2 _ (by omega) (i + 1) (rowTo (rowTo u_23 (119 + i.toNat) 256 (u_23 (157 + i.toNat))) (119 + i.toNat) 256 (fun j => ((rowTo u_23 (119 + i.toNat) 256 (u_23 (157 + i.toNat))) (119 + i.toNat) j + (rowTo u_23 (119 + i.toNat) 256 (u_23 (157 + i.toNat))) 136 j) % 8380417)) (by omega) (Fb) (fun m a b => by by_cases z : m = i; exact (by rw [z]; exact wi.1 (by omega)); exact okk m a (by omega)) (fun m a b j x y => by by_cases z : m = i; exact (by rw [z]; exact zi j x y); exact (by rw [rowTo_ne (by omega), rowTo_ne (by omega), q1_.1 _ _ (by omega)]; exact gg m a (by omega) j x y)) rfl
      · skip
        refine aw_iconst d_Si_answersHide_87 ⟨by decide, by decide⟩ ?_
        exact aw_zret d_Si_answersHide_88 rfl ⟨by decide, by decide⟩ (hP _ _ ⟨Fb, Or.inr ⟨rfl, fun z => by have := wi.2 (z i hi.1 (by omega)); omega⟩⟩)
  skip
  refine aw_sub (lv' := [(2, vi 0), (1, vr 33), (0, vr 146)]) (by simp) ?_
  exact lp_2 _ 0 I (by omega) (FC.rfl') (fun m a b => by omega) (fun m a b => by omega) rfl
set_option maxHeartbeats 800000 in
set_option maxRecDepth 100000 in
theorem c_Si_lowsWithin0 {l : Launch} {G : a_G} {h : Hp} {I L : Nat → Int → Int} {f : Nat} (S : Shp h) (SD : Std I L) (Zf : RwO h f) (qf : inQ (I f)) : AW l G M_Si_lowsWithin (Ret (fun u : Int => some (vi u)) (fun _ => sD h I L) (fun u => (u = 0 ∨ u = 1) ∧ (u = 1 ↔ loN 95232 95154 (I f)))) 0 (a_ar 0 [vr f, vr 33]) [] (sD h I L) := by
  suffices key : ∀ P : a_R → Hp → Prop, (∀ v : Int, (v = 0 ∨ v = 1) → (v = 1 ↔ loN 95232 95154 (I f)) → P (.inl (some (vi v))) (sD h I L)) → AW l G M_Si_lowsWithin P 0 [(0, vr f), (1, vr 33)] [] (sD h I L) from key _ (fun v q1 q2 => ⟨v, rfl, rfl, q1, q2⟩)
  intro P hP
  refine aw_aload_n d_Si_lowsWithin_0 rfl rfl ?_
  refine ax_getIe (x := 95232) d_Si_lowsWithin_1 fd_Si_237 (k_33 S) (pc_33_5 SD.2.1) ?_
  refine aw_aload_n d_Si_lowsWithin_4 rfl rfl ?_
  refine ax_getIe (x := 78) d_Si_lowsWithin_5 fd_Si_223 (k_33 S) (pc_33_9 SD.2.1) ?_
  refine ax_isub d_Si_lowsWithin_8 ⟨(by omega), (by omega)⟩ ?_
  refine ax_ti (x := 95154) (by decide) ?_
  refine aw_istore_n (lv' := [(2, vi 95154), (0, vr f), (1, vr 33)]) d_Si_lowsWithin_9 rfl (by decide) rfl ?_
  refine aw_iconst d_Si_lowsWithin_10 ⟨by decide, by decide⟩ ?_
  refine aw_istore_n (lv' := [(3, vi 0), (2, vi 95154), (0, vr f), (1, vr 33)]) d_Si_lowsWithin_11 rfl (by decide) rfl ?_
  have lp_12 : ∀ (n_ : Nat) (c : Int), (0 ≤ c ∧ c ≤ 256) → (∀ j, 0 ≤ j → j < c → -95154 < dLow 95232 (I f j) ∧ dLow 95232 (I f j) < 95154) → ((256 - c).toNat) = n_ → AW l G M_Si_lowsWithin P 12 [(3, vi c), (2, vi 95154), (1, vr 33), (0, vr f)] [] (sD h I L) := by
    intro n_
    induction n_ using Nat.strongRecOn with
    | _ n_ ih_12 =>
    intro c hc gg hm_12
    refine aw_iload_n d_Si_lowsWithin_12 rfl rfl ?_
    refine aw_sipush d_Si_lowsWithin_13 ⟨by decide, by decide⟩ (by decide) ?_
    refine aw_icmp_ge (tgt := 49) d_Si_lowsWithin_16 (by decide) (fun c_16 => ?_) (fun c_16 => ?_)
    · skip
      refine aw_iconst d_Si_lowsWithin_49 ⟨by decide, by decide⟩ ?_
      exact aw_zret d_Si_lowsWithin_50 rfl ⟨by decide, by decide⟩ (hP _ (Or.inr rfl) ⟨fun _ j x y => gg j x (by omega), fun _ => rfl⟩)
    · skip
      refine aw_aload_n d_Si_lowsWithin_19 rfl rfl ?_
      refine aw_aload_n d_Si_lowsWithin_20 rfl rfl ?_
      refine aw_iload_n d_Si_lowsWithin_21 rfl rfl ?_
      refine ax_ialde (x := I f c) d_Si_lowsWithin_22 Zf.1 (by omega) (by omega) (rfl) ?_
      refine ax_V (st := []) (as := [vi (I f c)]) (b := 33) (v := some (vi (dLow 95232 (I f c)))) (h' := sD h I L) d_Si_lowsWithin_23 cs_Si_lowsWithin_23 (k_33 S) (by have z := c_Pa_low (l := l) (G := G) (L := L) (I := I) (p := 33) (r := I f c) (k_33 S) (by rw [pc_33_5 SD.2.1]; decide) (qf c hc.1 (by omega)); rw [pc_33_5 SD.2.1] at z; exact z) rfl rfl rfl ?_
      show AW l G M_Si_lowsWithin P 26 [(3, vi c), (2, vi 95154), (1, vr 33), (0, vr f)] [vi (dLow 95232 (I f c))] (sD h I L)
      refine aw_istore (lv' := [(4, vi (dLow 95232 (I f c))), (3, vi c), (2, vi 95154), (1, vr 33), (0, vr f)]) d_Si_lowsWithin_26 (by decide) rfl ?_
      refine aw_iload d_Si_lowsWithin_28 rfl ?_
      refine aw_iload_n d_Si_lowsWithin_30 rfl rfl ?_
      refine aw_icmp_ge (tgt := 41) d_Si_lowsWithin_31 (by decide) (fun c_31 => ?_) (fun c_31 => ?_)
      · skip
        refine aw_iconst d_Si_lowsWithin_41 ⟨by decide, by decide⟩ ?_
        exact aw_zret d_Si_lowsWithin_42 rfl ⟨by decide, by decide⟩ (hP _ (Or.inl rfl) ⟨fun z => absurd z (by decide), fun z => by have := z c hc.1 (by omega); omega⟩)
      · skip
        refine aw_iload d_Si_lowsWithin_34 rfl ?_
        refine aw_iload_n d_Si_lowsWithin_36 rfl rfl ?_
        refine ax_ineg d_Si_lowsWithin_37 (by omega) (by omega) ?_
        refine aw_icmp_gt (tgt := 43) d_Si_lowsWithin_38 (by decide) (fun c_38 => ?_) (fun c_38 => ?_)
        · skip
          refine ax_iinc (lv' := [(3, vi (c + 1)), (4, vi (dLow 95232 (I f c))), (2, vi 95154), (1, vr 33), (0, vr f)]) d_Si_lowsWithin_43 rfl (by decide) ⟨(by omega), (by omega)⟩ rfl ?_
          refine aw_goto (tgt := 12) d_Si_lowsWithin_46 (by decide) ?_
          refine aw_sub (lv' := [(3, vi (c + 1)), (2, vi 95154), (1, vr 33), (0, vr f)]) (by simp) ?_
          exact ih_12 _ (by omega) (c + 1) (by omega) (fun j a b => by by_cases z : j = c; exact (by rw [z]; omega); exact gg j a (by omega)) rfl
        · skip
          refine aw_iconst d_Si_lowsWithin_41 ⟨by decide, by decide⟩ ?_
          exact aw_zret d_Si_lowsWithin_42 rfl ⟨by decide, by decide⟩ (hP _ (Or.inl rfl) ⟨fun z => absurd z (by decide), fun z => by have := z c hc.1 (by omega); omega⟩)
  refine aw_sub (lv' := [(3, vi 0), (2, vi 95154), (1, vr 33), (0, vr f)]) (by simp) ?_
  exact lp_12 _ 0 (by omega) (fun j a b => by omega) rfl
set_option maxHeartbeats 800000 in
set_option maxRecDepth 100000 in
theorem c_Si_lowsHide0 {l : Launch} {G : a_G} {h : Hp} {I L : Nat → Int → Int} {B : Int → Int} {V W : Int → Int → Int} (S : Shp h) (SD : Std I L) (hB : eqQ (I 135) B) (qB : inQ B) (hW : ∀ m, 0 ≤ m → m < 4 → eqQ (I (127 + m.toNat)) (W m)) (qW : ∀ m, 0 ≤ m → m < 4 → inQ (W m)) (hV : ∀ m, 0 ≤ m → m < 4 → eqQ (I (110 + m.toNat)) (V m)) (qV : ∀ m, 0 ≤ m → m < 4 → inQ (V m)) : AW l G M_Si_lowsHide (Ret (fun u : Int × (Nat → Int → Int) => some (vi u.1)) (fun u => sD h u.2 L) (fun u => FC (fun a => a = 136 ∨ 127 ≤ a ∧ a ≤ 134) I L u.2 L ∧ ((u.1 = 1 ∧ (∀ m, 0 ≤ m → m < 4 → loN 95232 95154 (fun j => (W m j - prB B (V m) j) % 8380417)) ∧ ∀ m, 0 ≤ m → m < 4 → eqQ (u.2 (127 + m.toNat)) (fun j => (W m j - prB B (V m) j) % 8380417)) ∨ (u.1 = 0 ∧ ¬ ∀ m, 0 ≤ m → m < 4 → loN 95232 95154 (fun j => (W m j - prB B (V m) j) % 8380417))))) 0 (a_ar 0 [vr 146, vr 33]) [] (sD h I L) := by
  suffices key : ∀ P : a_R → Hp → Prop, (∀ (v_ : Int) (K_ : Nat → Int → Int), FC (fun a => a = 136 ∨ 127 ≤ a ∧ a ≤ 134) I L K_ L ∧ ((v_ = 1 ∧ (∀ m, 0 ≤ m → m < 4 → loN 95232 95154 (fun j => (W m j - prB B (V m) j) % 8380417)) ∧ ∀ m, 0 ≤ m → m < 4 → eqQ (K_ (127 + m.toNat)) (fun j => (W m j - prB B (V m) j) % 8380417)) ∨ (v_ = 0 ∧ ¬ ∀ m, 0 ≤ m → m < 4 → loN 95232 95154 (fun j => (W m j - prB B (V m) j) % 8380417))) → P (.inl (some (vi v_))) (sD h K_ L)) → AW l G M_Si_lowsHide P 0 [(0, vr 146), (1, vr 33)] [] (sD h I L) from key _ (fun v K q => ⟨(v, K), rfl, rfl, q⟩)
  intro P hP
  refine aw_iconst d_Si_lowsHide_0 ⟨by decide, by decide⟩ ?_
  refine aw_istore_n (lv' := [(2, vi 0), (0, vr 146), (1, vr 33)]) d_Si_lowsHide_1 rfl (by decide) rfl ?_
  have lp_2 : ∀ (n_ : Nat) (i : Int) (K : Nat → Int → Int), (0 ≤ i ∧ i ≤ 4) → (FC (fun a => a = 136 ∨ 127 ≤ a ∧ a ≤ 134) I L K L) → (∀ m, 0 ≤ m → m < i → loN 95232 95154 (fun j => (W m j - prB B (V m) j) % 8380417)) → (∀ m, 0 ≤ m → m < i → eqQ (K (127 + m.toNat)) (fun j => (W m j - prB B (V m) j) % 8380417)) → (∀ m, 0 ≤ m → i ≤ m → m < 4 → eqQ (K (127 + m.toNat)) (W m)) → ((4 - i).toNat) = n_ → AW l G M_Si_lowsHide P 2 [(2, vi i), (1, vr 33), (0, vr 146)] [] (sD h K L) := by
    intro n_
    induction n_ using Nat.strongRecOn with
    | _ n_ ih_2 =>
    intro i K hi F okk gg un hm_2
    refine aw_iload_n d_Si_lowsHide_2 rfl rfl ?_
    refine aw_aload_n d_Si_lowsHide_3 rfl rfl ?_
    refine ax_getIe (x := 4) d_Si_lowsHide_4 fd_Si_120 (k_33 S) (Eq.trans (F.1 33 0 (by omega)) (pc_33_0 SD.2.1)) ?_
    refine aw_icmp_ge (tgt := 69) d_Si_lowsHide_7 (by decide) (fun c_7 => ?_) (fun c_7 => ?_)
    · skip
      refine aw_iconst d_Si_lowsHide_69 ⟨by decide, by decide⟩ ?_
      exact aw_zret d_Si_lowsHide_70 rfl ⟨by decide, by decide⟩ (hP _ K ⟨F, Or.inl ⟨rfl, fun m a b => okk m a (by omega), fun m a b => gg m a (by omega)⟩⟩)
    · skip
      refine aw_aload_n d_Si_lowsHide_10 rfl rfl ?_
      refine ax_getR (b := 36) d_Si_lowsHide_11 fd_Si_38 (k_146 S) (r_146_0 S) ?_
      refine aw_aload_n d_Si_lowsHide_14 rfl rfl ?_
      refine ax_getR (b := 36) d_Si_lowsHide_15 fd_Si_38 (k_146 S) (r_146_0 S) ?_
      refine ax_getR (b := 109) d_Si_lowsHide_18 fd_Si_123 (k_36 S) (r_36_5 S) ?_
      refine aw_iload_n d_Si_lowsHide_21 rfl rfl ?_
      refine ax_aald (b := 110 + i.toNat) d_Si_lowsHide_22 ⟨by rw [(k_109 S)]; decide, by rw [(k_109 S)]; decide⟩ (by omega) (by rw [n_109 S]; omega) (g_109 S (by omega) (by omega)) ?_
      refine ax_Vr (st := []) (as := [vr (110 + i.toNat)]) (b := 36) d_Si_lowsHide_23 cs_Si_lowsHide_23 (k_36 S) (c_Be_multiplyBall S (SD.fc F (by intro a x; omega)) ⟨kr_109 S (by omega), by omega, nr_109 S (by omega)⟩ (fun j x y => by rw [F.1 _ _ (by omega), hB j x y]; exact qB j x y) (fun j x y => by rw [F.1 _ _ (by omega), hV i hi.1 (by omega) j x y]; exact qV i hi.1 (by omega) j x y)) rfl rfl rfl (fun u_23 q_23 => ?_)
      obtain ⟨q1_, q2_⟩ := q_23
      have pr_ : eqQ (u_23 136) (prB B (V i)) := fun j x y => (q2_ j x y).trans (prB_eq (fun z s t => (F.1 _ _ (by omega)).trans (hB z s t)) (fun z s t => (F.1 _ _ (by omega)).trans (hV i hi.1 (by omega) z s t)) j x y)
      have Fa : FC (fun a => a = 136 ∨ 127 ≤ a ∧ a ≤ 134) I L u_23 L := F.tr q1_ (by intro a x; omega)
      show AW l G M_Si_lowsHide P 26 [(2, vi i), (1, vr 33), (0, vr 146)] [] (sD h u_23 L)
      refine aw_aload_n d_Si_lowsHide_26 rfl rfl ?_
      refine ax_getR (b := 36) d_Si_lowsHide_27 fd_Si_38 (k_146 S) (r_146_0 S) ?_
      refine ax_getR (b := 126) d_Si_lowsHide_30 fd_Si_188 (k_36 S) (r_36_7 S) ?_
      refine aw_iload_n d_Si_lowsHide_33 rfl rfl ?_
      refine ax_aald (b := 127 + i.toNat) d_Si_lowsHide_34 ⟨by rw [(k_126 S)]; decide, by rw [(k_126 S)]; decide⟩ (by omega) (by rw [n_126 S]; omega) (g_126 S (by omega) (by omega)) ?_
      refine aw_aload_n d_Si_lowsHide_35 rfl rfl ?_
      refine ax_getR (b := 36) d_Si_lowsHide_36 fd_Si_38 (k_146 S) (r_146_0 S) ?_
      refine ax_getR (b := 136) d_Si_lowsHide_39 fd_Si_194 (k_36 S) (r_36_9 S) ?_
      refine ax_S (st := []) (as := [vr (127 + i.toNat), vr 136]) (v := none) (h' := sD h (rowTo u_23 (127 + i.toNat) 256 (fun j => (u_23 (127 + i.toNat) j - u_23 136 j) % 8380417)) L) d_Si_lowsHide_42 cs_Si_lowsHide_42 (c_Ri_takeFrom ⟨kr_126 S (by omega), by omega, nr_126 S (by omega)⟩ ⟨k_136 S, by decide, n_136 S⟩ (fun j x y => by rw [q1_.1 _ _ (by omega), un i hi.1 (Int.le_refl _) (by omega) j x y]; exact qW i hi.1 (by omega) j x y) (fun j x y => by rw [pr_ j x y]; exact prB_in j x y)) rfl rfl rfl ?_
      show AW l G M_Si_lowsHide P 45 [(2, vi i), (1, vr 33), (0, vr 146)] [] (sD h (rowTo u_23 (127 + i.toNat) 256 (fun j => (u_23 (127 + i.toNat) j - u_23 136 j) % 8380417)) L)
      have zi : eqQ ((rowTo u_23 (127 + i.toNat) 256 (fun j => (u_23 (127 + i.toNat) j - u_23 136 j) % 8380417)) (127 + i.toNat)) (fun j => (W i j - prB B (V i) j) % 8380417) := fun j x y => by rw [rowTo_in x y, pr_ j x y, q1_.1 _ _ (by omega), un i hi.1 (Int.le_refl _) (by omega) j x y]
      have Fb : FC (fun a => a = 136 ∨ 127 ≤ a ∧ a ≤ 134) I L (rowTo u_23 (127 + i.toNat) 256 (fun j => (u_23 (127 + i.toNat) j - u_23 136 j) % 8380417)) L := Fa.tr (FC.row (p := fun a => a = 136 ∨ 127 ≤ a ∧ a ≤ 134) (by omega)) (fun a x => ⟨x, x⟩)
      refine aw_aload_n d_Si_lowsHide_45 rfl rfl ?_
      refine ax_getR (b := 36) d_Si_lowsHide_46 fd_Si_38 (k_146 S) (r_146_0 S) ?_
      refine ax_getR (b := 126) d_Si_lowsHide_49 fd_Si_188 (k_36 S) (r_36_7 S) ?_
      refine aw_iload_n d_Si_lowsHide_52 rfl rfl ?_
      refine ax_aald (b := 127 + i.toNat) d_Si_lowsHide_53 ⟨by rw [(k_126 S)]; decide, by rw [(k_126 S)]; decide⟩ (by omega) (by rw [n_126 S]; omega) (g_126 S (by omega) (by omega)) ?_
      refine aw_aload_n d_Si_lowsHide_54 rfl rfl ?_
      refine ax_Sr (st := []) (as := [vr (127 + i.toNat), vr 33]) d_Si_lowsHide_55 cs_Si_lowsHide_55 (c_Si_lowsWithin0 S (SD.fc Fb (by intro a x; omega)) ⟨kr_126 S (by omega), by omega, nr_126 S (by omega)⟩ (fun j x y => by rw [zi j x y]; show 0 ≤ _ % 8380417 ∧ _ % 8380417 < 8380417; exact ⟨Int.emod_nonneg _ (by decide), Int.emod_lt_of_pos _ (by decide)⟩)) rfl rfl rfl (fun u_55 q_55 => ?_)
      obtain ⟨wo, wi⟩ := q_55
      have wi := wi.trans (loN_eq zi)
      show AW l G M_Si_lowsHide P 58 [(2, vi i), (1, vr 33), (0, vr 146)] [vi u_55] (sD h (rowTo u_23 (127 + i.toNat) 256 (fun j => (u_23 (127 + i.toNat) j - u_23 136 j) % 8380417)) L)
      refine aw_if_ne (tgt := 63) d_Si_lowsHide_58 (by decide) (fun c_58 => ?_) (fun c_58 => ?_)
      · skip
        refine ax_iinc (lv' := [(2, vi (i + 1)), (1, vr 33), (0, vr 146)]) d_Si_lowsHide_63 rfl (by decide) ⟨(by omega), (by omega)⟩ rfl ?_
        refine aw_goto (tgt := 2) d_Si_lowsHide_66 (by decide) ?_
        exact ih_2 _ (by omega) (i + 1) (rowTo u_23 (127 + i.toNat) 256 (fun j => (u_23 (127 + i.toNat) j - u_23 136 j) % 8380417)) (by omega) (Fb) (fun m a b => by by_cases z : m = i; exact (by rw [z]; exact wi.1 (by omega)); exact okk m a (by omega)) (fun m a b j x y => by by_cases z : m = i; exact (by rw [z]; exact zi j x y); exact (by rw [rowTo_ne (by omega), q1_.1 _ _ (by omega)]; exact gg m a (by omega) j x y)) (fun m a b c j x y => by rw [rowTo_ne (by omega), q1_.1 _ _ (by omega)]; exact un m a (by omega) c j x y) rfl
      · skip
        refine aw_iconst d_Si_lowsHide_61 ⟨by decide, by decide⟩ ?_
        exact aw_zret d_Si_lowsHide_62 rfl ⟨by decide, by decide⟩ (hP _ _ ⟨Fb, Or.inr ⟨rfl, fun z => by have := wi.2 (z i hi.1 (by omega)); omega⟩⟩)
  skip
  refine aw_sub (lv' := [(2, vi 0), (1, vr 33), (0, vr 146)]) (by simp) ?_
  exact lp_2 _ 0 I (by omega) (FC.rfl') (fun m a b => by omega) (fun m a b => by omega) (fun m a b c => hW m a c) rfl
set_option maxHeartbeats 800000 in
set_option maxRecDepth 100000 in
theorem c_Si_addHints0 {l : Launch} {G : a_G} {h : Hp} {I L : Nat → Int → Int} {f : Nat} {fl : Nat → Bool} {i : Nat} (S : Shp h) (SD : Std I L) (Zf : RwO h f) (hf2 : f ≠ 166 ∧ f ≠ 167) (qf : inQ (I f)) (q136 : inQ (I 136)) (hfl_ : ∀ j : Nat, j < 256 → (fl (256 * i + j) = true ↔ ¬ dHigh 95232 ((I f j + I 136 j) % 8380417) = dHigh 95232 (I f j))) (H0 : HB I 166 167 (hIt fl (256 * i + (0 : Int).toNat)).1 (hIt fl (256 * i + (0 : Int).toNat)).2) (hw0 : (hIt fl (256 * i + (0 : Int).toNat)).1 ≤ 80) : AW l G M_Si_addHints (Ret (fun u : Int × (Nat → Int → Int) => some (vi u.1)) (fun u => sD h u.2 L) (fun u => FC (fun a => a = 166 ∨ a = 167) I L u.2 L ∧ ((u.1 = 1 ∧ (hIt fl (256 * i + 256)).1 ≤ 80 ∧ HB u.2 166 167 (hIt fl (256 * i + 256)).1 (hIt fl (256 * i + 256)).2) ∨ (u.1 = 0 ∧ 80 < (hIt fl (256 * i + 256)).1)))) 0 (a_ar 0 [vr 146, vr f, vr 33]) [] (sD h I L) := by
  suffices key : ∀ P : a_R → Hp → Prop, (∀ (v_ : Int) (K_ : Nat → Int → Int), FC (fun a => a = 166 ∨ a = 167) I L K_ L ∧ ((v_ = 1 ∧ (hIt fl (256 * i + 256)).1 ≤ 80 ∧ HB K_ 166 167 (hIt fl (256 * i + 256)).1 (hIt fl (256 * i + 256)).2) ∨ (v_ = 0 ∧ 80 < (hIt fl (256 * i + 256)).1)) → P (.inl (some (vi v_))) (sD h K_ L)) → AW l G M_Si_addHints P 0 [(0, vr 146), (1, vr f), (2, vr 33)] [] (sD h I L) from key _ (fun v K q => ⟨(v, K), rfl, rfl, q⟩)
  intro P hP
  refine aw_iconst d_Si_addHints_0 ⟨by decide, by decide⟩ ?_
  refine aw_istore_n (lv' := [(3, vi 0), (0, vr 146), (1, vr f), (2, vr 33)]) d_Si_addHints_1 rfl (by decide) rfl ?_
  have lp_2 : ∀ (n_ : Nat) (c : Int) (K : Nat → Int → Int), (0 ≤ c ∧ c ≤ 256) → (FC (fun a => a = 166 ∨ a = 167) I L K L) → (HB K 166 167 (hIt fl (256 * i + c.toNat)).1 (hIt fl (256 * i + c.toNat)).2) → ((hIt fl (256 * i + c.toNat)).1 ≤ 80) → ((256 - c).toNat) = n_ → AW l G M_Si_addHints P 2 [(3, vi c), (2, vr 33), (1, vr f), (0, vr 146)] [] (sD h K L) := by
    intro n_
    induction n_ using Nat.strongRecOn with
    | _ n_ ih_2 =>
    intro c K hc F H hw hm_2
    have gp : K 33 5 = 95232 := (F.1 33 5 (by omega)).trans (pc_33_5 SD.2.1)
    refine aw_iload_n d_Si_addHints_2 rfl rfl ?_
    refine aw_sipush d_Si_addHints_3 ⟨by decide, by decide⟩ (by decide) ?_
    refine aw_icmp_ge (tgt := 68) d_Si_addHints_6 (by decide) (fun c_6 => ?_) (fun c_6 => ?_)
    · skip
      refine aw_iconst d_Si_addHints_68 ⟨by decide, by decide⟩ ?_
      exact aw_zret d_Si_addHints_69 rfl ⟨by decide, by decide⟩ (hP _ K ⟨F, Or.inl ⟨rfl, by rw [show 256 * i + 256 = (256 * i + c.toNat) by omega]; exact hw, by rw [show 256 * i + 256 = (256 * i + c.toNat) by omega]; exact H⟩⟩)
    · skip
      refine aw_aload_n d_Si_addHints_9 rfl rfl ?_
      refine aw_aload_n d_Si_addHints_10 rfl rfl ?_
      refine aw_iload_n d_Si_addHints_11 rfl rfl ?_
      refine ax_ialde (x := I f c) d_Si_addHints_12 Zf.1 (by omega) (by omega) (Eq.trans (F.1 f c (by omega)) (rfl)) ?_
      refine aw_aload_n d_Si_addHints_13 rfl rfl ?_
      refine ax_getR (b := 36) d_Si_addHints_14 fd_Si_38 (k_146 S) (r_146_0 S) ?_
      refine ax_getR (b := 136) d_Si_addHints_17 fd_Si_194 (k_36 S) (r_36_9 S) ?_
      refine aw_iload_n d_Si_addHints_20 rfl rfl ?_
      refine ax_ialde (x := I 136 c) d_Si_addHints_21 (k_136 S) (by omega) (by rw [n_136 S]; omega) (Eq.trans (F.1 136 c (by omega)) (rfl)) ?_
      refine ax_S (st := [vr 33]) (as := [vi (I f c), vi (I 136 c)]) (v := some (vi ((I f c + I 136 c) % 8380417))) (h' := sD h K L) d_Si_addHints_22 cs_Si_addHints_22 (c_Ri_plus (z := (I f c + I 136 c) % 8380417) (by have := qf c hc.1 (by omega); have := q136 c hc.1 (by omega); omega) rfl) rfl rfl rfl ?_
      show AW l G M_Si_addHints P 25 [(3, vi c), (2, vr 33), (1, vr f), (0, vr 146)] [vi ((I f c + I 136 c) % 8380417), vr 33] (sD h K L)
      refine ax_V (st := []) (as := [vi ((I f c + I 136 c) % 8380417)]) (b := 33) (v := some (vi (dHigh 95232 ((I f c + I 136 c) % 8380417)))) (h' := sD h K L) d_Si_addHints_25 cs_Si_addHints_25 (k_33 S) (by have z := c_Pa_high (l := l) (G := G) (L := L) (I := K) (p := 33) (r := (I f c + I 136 c) % 8380417) (k_33 S) (by rw [gp]; decide) (by omega); rw [gp] at z; exact z) rfl rfl rfl ?_
      show AW l G M_Si_addHints P 28 [(3, vi c), (2, vr 33), (1, vr f), (0, vr 146)] [vi (dHigh 95232 ((I f c + I 136 c) % 8380417))] (sD h K L)
      refine aw_aload_n d_Si_addHints_28 rfl rfl ?_
      refine aw_aload_n d_Si_addHints_29 rfl rfl ?_
      refine aw_iload_n d_Si_addHints_30 rfl rfl ?_
      refine ax_ialde (x := I f c) d_Si_addHints_31 Zf.1 (by omega) (by omega) (Eq.trans (F.1 f c (by omega)) (rfl)) ?_
      refine ax_V (st := [vi (dHigh 95232 ((I f c + I 136 c) % 8380417))]) (as := [vi (I f c)]) (b := 33) (v := some (vi (dHigh 95232 (I f c)))) (h' := sD h K L) d_Si_addHints_32 cs_Si_addHints_32 (k_33 S) (by have z := c_Pa_high (l := l) (G := G) (L := L) (I := K) (p := 33) (r := I f c) (k_33 S) (by rw [gp]; decide) (qf c hc.1 (by omega)); rw [gp] at z; exact z) rfl rfl rfl ?_
      show AW l G M_Si_addHints P 35 [(3, vi c), (2, vr 33), (1, vr f), (0, vr 146)] [vi (dHigh 95232 (I f c)), vi (dHigh 95232 ((I f c + I 136 c) % 8380417))] (sD h K L)
      refine aw_icmp_eq (tgt := 62) d_Si_addHints_35 (by decide) (fun c_35 => ?_) (fun c_35 => ?_)
      · skip
        have hf_ := hfl_ c.toNat (by omega)
        rw [Int.toNat_of_nonneg hc.1] at hf_
        have eN : 256 * i + (c + 1).toNat = (256 * i + c.toNat) + 1 := by omega
        have fn : ¬ fl (256 * i + c.toNat) = true := fun z => hf_.1 z c_35
        refine ax_iinc (lv' := [(3, vi (c + 1)), (2, vr 33), (1, vr f), (0, vr 146)]) d_Si_addHints_62 rfl (by decide) ⟨(by omega), (by omega)⟩ rfl ?_
        refine aw_goto (tgt := 2) d_Si_addHints_65 (by decide) ?_
        exact ih_2 _ (by omega) (c + 1) K (by omega) (F) (by rw [eN, hIt_n fn]; exact H) (by rw [eN, hIt_n fn]; exact hw) rfl
      · skip
        have hf_ := hfl_ c.toNat (by omega)
        rw [Int.toNat_of_nonneg hc.1] at hf_
        have eN : 256 * i + (c + 1).toNat = (256 * i + c.toNat) + 1 := by omega
        have fy := hf_.2 c_35
        refine aw_aload_n d_Si_addHints_38 rfl rfl ?_
        refine ax_getR (b := 166) d_Si_addHints_39 fd_Si_32 (k_146 S) (r_146_4 S) ?_
        refine ax_getIe (x := (hIt fl (256 * i + c.toNat)).1) d_Si_addHints_42 fd_Si_246 (k_166 S) (H.1) ?_
        refine aw_aload_n d_Si_addHints_45 rfl rfl ?_
        refine ax_getIe (x := 80) d_Si_addHints_46 fd_Si_256 (k_33 S) (Eq.trans (F.1 33 6 (by omega)) (pc_33_6 SD.2.1)) ?_
        refine aw_icmp_lt (tgt := 54) d_Si_addHints_49 (by decide) (fun c_49 => ?_) (fun c_49 => ?_)
        · skip
          refine aw_aload_n d_Si_addHints_54 rfl rfl ?_
          refine ax_getR (b := 166) d_Si_addHints_55 fd_Si_32 (k_146 S) (r_146_4 S) ?_
          refine aw_iload_n d_Si_addHints_58 rfl rfl ?_
          refine ax_V (st := []) (as := [vi c]) (b := 166) (v := none) (h' := sD h (byAdd K 166 167 c) L) d_Si_addHints_59 cs_Si_addHints_59 (k_166 S) (c_By_add (J := byAdd K 166 167 c) ⟨k_166 S, r_166_0 S, k_167 S, by decide, by decide, by decide⟩ (by rw [H.1, n_167 S]; have := hIt_0 (fl := fl) (256 * i + c.toNat); omega) rfl) rfl rfl rfl ?_
          show AW l G M_Si_addHints P 62 [(3, vi c), (2, vr 33), (1, vr f), (0, vr 146)] [] (sD h (byAdd K 166 167 c) L)
          refine ax_iinc (lv' := [(3, vi (c + 1)), (2, vr 33), (1, vr f), (0, vr 146)]) d_Si_addHints_62 rfl (by decide) ⟨(by omega), (by omega)⟩ rfl ?_
          refine aw_goto (tgt := 2) d_Si_addHints_65 (by decide) ?_
          exact ih_2 _ (by omega) (c + 1) (byAdd K 166 167 c) (by omega) (F.tr (FC.add (p := fun a => a = 166 ∨ a = 167) (by omega) (by omega)) (fun a x => ⟨x, x⟩)) (by rw [eN, hIt_y fy]; exact H.add (by decide) (hIt_0 _) (fun k k0 k1 => if_neg (by omega)) (by show (if (hIt fl (256 * i + c.toNat)).1 = (hIt fl (256 * i + c.toNat)).1 then (((256 * i + c.toNat) % 256 : Nat) : Int) else _) = _; rw [if_pos rfl]; omega)) (by rw [eN, hIt_y fy]; show (hIt fl (256 * i + c.toNat)).1 + 1 ≤ 80; omega) rfl
        · skip
          refine aw_iconst d_Si_addHints_52 ⟨by decide, by decide⟩ ?_
          exact aw_zret d_Si_addHints_53 rfl ⟨by decide, by decide⟩ (hP _ K ⟨F, Or.inr ⟨rfl, by have m1 := hIt_mono (fl := fl) (a := (256 * i + c.toNat) + 1) (b := 256 * i + 256) (by omega); rw [hIt_y fy] at m1; have m2 : (hIt fl (256 * i + c.toNat)).1 + 1 ≤ (hIt fl (256 * i + 256)).1 := m1; omega⟩⟩)
  skip
  refine aw_sub (lv' := [(3, vi 0), (2, vr 33), (1, vr f), (0, vr 146)]) (by simp) ?_
  exact lp_2 _ 0 I (by omega) (FC.rfl') (H0) (hw0) rfl
set_option maxHeartbeats 800000 in
set_option maxRecDepth 100000 in
theorem c_Si_hintsSuffice0 {l : Launch} {G : a_G} {h : Hp} {I L : Nat → Int → Int} {B : Int → Int} {V W : Int → Int → Int} {fl : Nat → Bool} (S : Shp h) (SD : Std I L) (hB : eqQ (I 135) B) (qB : inQ B) (hW : ∀ m, 0 ≤ m → m < 4 → eqQ (I (127 + m.toNat)) (W m)) (qW : ∀ m, 0 ≤ m → m < 4 → inQ (W m)) (hV : ∀ m, 0 ≤ m → m < 4 → eqQ (I (148 + m.toNat)) (V m)) (qV : ∀ m, 0 ≤ m → m < 4 → inQ (V m)) (hF : ∀ m : Nat, m < 4 → ∀ j : Nat, j < 256 → (fl (256 * m + j) = true ↔ ¬ dHigh 95232 ((W m j + prB B (V m) j) % 8380417) = dHigh 95232 (W m j))) : AW l G M_Si_hintsSuffice (Ret (fun u : Int × (Nat → Int → Int) => some (vi u.1)) (fun u => sD h u.2 L) (fun u => FC (fun a => a = 136 ∨ 166 ≤ a ∧ a ≤ 169) I L u.2 L ∧ ((u.1 = 1 ∧ ((∀ m, 0 ≤ m → m < 4 → wiN 95232 (prB B (V m))) ∧ (hIt fl 1024).1 ≤ 80) ∧ HB u.2 166 167 (hIt fl 1024).1 (hIt fl 1024).2 ∧ HB u.2 168 169 4 (fun x => (hIt fl (256 * x.toNat + 256)).1)) ∨ (u.1 = 0 ∧ ¬ ((∀ m, 0 ≤ m → m < 4 → wiN 95232 (prB B (V m))) ∧ (hIt fl 1024).1 ≤ 80))))) 0 (a_ar 0 [vr 146, vr 33]) [] (sD h I L) := by
  suffices key : ∀ P : a_R → Hp → Prop, (∀ (v_ : Int) (K_ : Nat → Int → Int), FC (fun a => a = 136 ∨ 166 ≤ a ∧ a ≤ 169) I L K_ L ∧ ((v_ = 1 ∧ ((∀ m, 0 ≤ m → m < 4 → wiN 95232 (prB B (V m))) ∧ (hIt fl 1024).1 ≤ 80) ∧ HB K_ 166 167 (hIt fl 1024).1 (hIt fl 1024).2 ∧ HB K_ 168 169 4 (fun x => (hIt fl (256 * x.toNat + 256)).1)) ∨ (v_ = 0 ∧ ¬ ((∀ m, 0 ≤ m → m < 4 → wiN 95232 (prB B (V m))) ∧ (hIt fl 1024).1 ≤ 80))) → P (.inl (some (vi v_))) (sD h K_ L)) → AW l G M_Si_hintsSuffice P 0 [(0, vr 146), (1, vr 33)] [] (sD h I L) from key _ (fun v K q => ⟨(v, K), rfl, rfl, q⟩)
  intro P hP
  refine aw_aload_n d_Si_hintsSuffice_0 rfl rfl ?_
  refine ax_getR (b := 166) d_Si_hintsSuffice_1 fd_Si_32 (k_146 S) (r_146_4 S) ?_
  refine ax_V (st := []) (as := []) (b := 166) (v := none) (h' := sD h (a_up I 166 1 0) L) d_Si_hintsSuffice_4 cs_Si_hintsSuffice_4 (k_166 S) (c_By_clear ⟨k_166 S, r_166_0 S, k_167 S, by decide, by decide, by decide⟩) rfl rfl rfl ?_
  show AW l G M_Si_hintsSuffice P 7 [(0, vr 146), (1, vr 33)] [] (sD h (a_up I 166 1 0) L)
  refine aw_aload_n d_Si_hintsSuffice_7 rfl rfl ?_
  refine ax_getR (b := 168) d_Si_hintsSuffice_8 fd_Si_35 (k_146 S) (r_146_5 S) ?_
  refine ax_V (st := []) (as := []) (b := 168) (v := none) (h' := sD h (a_up (a_up I 166 1 0) 168 1 0) L) d_Si_hintsSuffice_11 cs_Si_hintsSuffice_11 (k_168 S) (c_By_clear ⟨k_168 S, r_168_0 S, k_169 S, by decide, by decide, by decide⟩) rfl rfl rfl ?_
  show AW l G M_Si_hintsSuffice P 14 [(0, vr 146), (1, vr 33)] [] (sD h (a_up (a_up I 166 1 0) 168 1 0) L)
  refine aw_iconst d_Si_hintsSuffice_14 ⟨by decide, by decide⟩ ?_
  refine aw_istore_n (lv' := [(2, vi 0), (0, vr 146), (1, vr 33)]) d_Si_hintsSuffice_15 rfl (by decide) rfl ?_
  have lp_16 : ∀ (n_ : Nat) (i : Int) (K : Nat → Int → Int), (0 ≤ i ∧ i ≤ 4) → (FC (fun a => a = 136 ∨ 166 ≤ a ∧ a ≤ 169) I L K L) → ((∀ m, 0 ≤ m → m < i → wiN 95232 (prB B (V m)))) → (HB K 166 167 (hIt fl (256 * i.toNat)).1 (hIt fl (256 * i.toNat)).2) → ((hIt fl (256 * i.toNat)).1 ≤ 80) → (HB K 168 169 i (fun x => (hIt fl (256 * x.toNat + 256)).1)) → ((4 - i).toNat) = n_ → AW l G M_Si_hintsSuffice P 16 [(2, vi i), (1, vr 33), (0, vr 146)] [] (sD h K L) := by
    intro n_
    induction n_ using Nat.strongRecOn with
    | _ n_ ih_16 =>
    intro i K hi F okk H hw E hm_16
    refine aw_iload_n d_Si_hintsSuffice_16 rfl rfl ?_
    refine aw_aload_n d_Si_hintsSuffice_17 rfl rfl ?_
    refine ax_getIe (x := 4) d_Si_hintsSuffice_18 fd_Si_120 (k_33 S) (Eq.trans (F.1 33 0 (by omega)) (pc_33_0 SD.2.1)) ?_
    refine aw_icmp_ge (tgt := 93) d_Si_hintsSuffice_21 (by decide) (fun c_21 => ?_) (fun c_21 => ?_)
    · skip
      refine aw_iconst d_Si_hintsSuffice_93 ⟨by decide, by decide⟩ ?_
      exact aw_zret d_Si_hintsSuffice_94 rfl ⟨by decide, by decide⟩ (hP _ K ⟨F, Or.inl ⟨rfl, ⟨fun m a b => okk m a (by omega), by rw [show (1024 : Nat) = 256 * i.toNat by omega]; exact hw⟩, by rw [show (1024 : Nat) = 256 * i.toNat by omega]; exact H, by rw [show (4 : Int) = i by omega]; exact E⟩⟩)
    · skip
      refine aw_aload_n d_Si_hintsSuffice_24 rfl rfl ?_
      refine ax_getR (b := 36) d_Si_hintsSuffice_25 fd_Si_38 (k_146 S) (r_146_0 S) ?_
      refine aw_aload_n d_Si_hintsSuffice_28 rfl rfl ?_
      refine ax_getR (b := 147) d_Si_hintsSuffice_29 fd_Si_15 (k_146 S) (r_146_1 S) ?_
      refine aw_iload_n d_Si_hintsSuffice_32 rfl rfl ?_
      refine ax_aald (b := 148 + i.toNat) d_Si_hintsSuffice_33 ⟨by rw [(k_147 S)]; decide, by rw [(k_147 S)]; decide⟩ (by omega) (by rw [n_147 S]; omega) (g_147 S (by omega) (by omega)) ?_
      refine ax_Vr (st := []) (as := [vr (148 + i.toNat)]) (b := 36) d_Si_hintsSuffice_34 cs_Si_hintsSuffice_34 (k_36 S) (c_Be_multiplyBall S (SD.fc F (by intro a x; omega)) ⟨kr_147 S (by omega), by omega, nr_147 S (by omega)⟩ (fun j x y => by rw [F.1 _ _ (by omega), hB j x y]; exact qB j x y) (fun j x y => by rw [F.1 _ _ (by omega), hV i hi.1 (by omega) j x y]; exact qV i hi.1 (by omega) j x y)) rfl rfl rfl (fun u_34 q_34 => ?_)
      obtain ⟨q1_, q2_⟩ := q_34
      have pr_ : eqQ (u_34 136) (prB B (V i)) := fun j x y => (q2_ j x y).trans (prB_eq (fun z s t => (F.1 _ _ (by omega)).trans (hB z s t)) (fun z s t => (F.1 _ _ (by omega)).trans (hV i hi.1 (by omega) z s t)) j x y)
      have Fa : FC (fun a => a = 136 ∨ 166 ≤ a ∧ a ≤ 169) I L u_34 L := F.tr q1_ (by intro a x; omega)
      show AW l G M_Si_hintsSuffice P 37 [(2, vi i), (1, vr 33), (0, vr 146)] [] (sD h u_34 L)
      refine aw_aload_n d_Si_hintsSuffice_37 rfl rfl ?_
      refine ax_getR (b := 36) d_Si_hintsSuffice_38 fd_Si_38 (k_146 S) (r_146_0 S) ?_
      refine ax_getR (b := 136) d_Si_hintsSuffice_41 fd_Si_194 (k_36 S) (r_36_9 S) ?_
      refine aw_aload_n d_Si_hintsSuffice_44 rfl rfl ?_
      refine ax_getIe (x := 95232) d_Si_hintsSuffice_45 fd_Si_237 (k_33 S) (Eq.trans (Fa.1 33 5 (by omega)) (pc_33_5 SD.2.1)) ?_
      refine ax_Sr (st := []) (as := [vr 136, vi 95232]) d_Si_hintsSuffice_48 cs_Si_hintsSuffice_48 (c_Ri_within ⟨k_136 S, by decide, n_136 S⟩ (by decide)) rfl rfl rfl (fun u_48 q_48 => ?_)
      obtain ⟨wo, wi⟩ := q_48
      have wi := wi.trans (wiN_eq pr_)
      show AW l G M_Si_hintsSuffice P 51 [(2, vi i), (1, vr 33), (0, vr 146)] [vi u_48] (sD h u_34 L)
      refine aw_if_eq (tgt := 71) d_Si_hintsSuffice_51 (by decide) (fun c_51 => ?_) (fun c_51 => ?_)
      · skip
        refine aw_iconst d_Si_hintsSuffice_71 ⟨by decide, by decide⟩ ?_
        exact aw_zret d_Si_hintsSuffice_72 rfl ⟨by decide, by decide⟩ (hP _ _ ⟨Fa, Or.inr ⟨rfl, fun z => by have := wi.2 (z.1 i hi.1 (by omega)); omega⟩⟩)
      · skip
        refine aw_aload_n d_Si_hintsSuffice_54 rfl rfl ?_
        refine aw_aload_n d_Si_hintsSuffice_55 rfl rfl ?_
        refine ax_getR (b := 36) d_Si_hintsSuffice_56 fd_Si_38 (k_146 S) (r_146_0 S) ?_
        refine ax_getR (b := 126) d_Si_hintsSuffice_59 fd_Si_188 (k_36 S) (r_36_7 S) ?_
        refine aw_iload_n d_Si_hintsSuffice_62 rfl rfl ?_
        refine ax_aald (b := 127 + i.toNat) d_Si_hintsSuffice_63 ⟨by rw [(k_126 S)]; decide, by rw [(k_126 S)]; decide⟩ (by omega) (by rw [n_126 S]; omega) (g_126 S (by omega) (by omega)) ?_
        refine aw_aload_n d_Si_hintsSuffice_64 rfl rfl ?_
        refine ax_Vr (st := []) (as := [vr (127 + i.toNat), vr 33]) (b := 146) d_Si_hintsSuffice_65 cs_Si_hintsSuffice_65 (k_146 S) (c_Si_addHints0 (fl := fl) (i := i.toNat) S (SD.fc Fa (by intro a x; omega)) ⟨kr_126 S (by omega), by omega, nr_126 S (by omega)⟩ (by omega) (fun j x y => by rw [Fa.1 _ _ (by omega), hW i hi.1 (by omega) j x y]; exact qW i hi.1 (by omega) j x y) (fun j x y => by rw [pr_ j x y]; exact prB_in j x y) (fun j hj => by rw [pr_ j (by omega) (by omega), Fa.1 _ _ (by omega), hW i hi.1 (by omega) j (by omega) (by omega)]; have y_ := hF i.toNat (by omega) j hj; rw [Int.toNat_of_nonneg hi.1] at y_; exact y_) (by rw [show (256 * i.toNat + (0 : Int).toNat) = 256 * i.toNat from rfl]; exact H.fc q1_ (by decide) (by decide)) hw) rfl rfl rfl (fun u_65 q_65 => ?_)
        obtain ⟨v2, K2⟩ := u_65
        obtain ⟨fh, qh⟩ := q_65
        dsimp only at fh qh
        have Fb : FC (fun a => a = 136 ∨ 166 ≤ a ∧ a ≤ 169) I L K2 L := Fa.tr fh (by intro a x; omega)
        show AW l G M_Si_hintsSuffice P 68 [(2, vi i), (1, vr 33), (0, vr 146)] [vi v2] (sD h K2 L)
        refine aw_if_ne (tgt := 73) d_Si_hintsSuffice_68 (by decide) (fun c_68 => ?_) (fun c_68 => ?_)
        · skip
          have qg : _ ∧ _ ∧ _ := qh.resolve_right (fun z => by omega)
          have H2 := qg.2.2
          have E2 := (E.fc q1_ (by omega) (by omega)).fc fh (by omega) (by omega)
          refine aw_aload_n d_Si_hintsSuffice_73 rfl rfl ?_
          refine ax_getR (b := 168) d_Si_hintsSuffice_74 fd_Si_35 (k_146 S) (r_146_5 S) ?_
          refine aw_aload_n d_Si_hintsSuffice_77 rfl rfl ?_
          refine ax_getR (b := 166) d_Si_hintsSuffice_78 fd_Si_32 (k_146 S) (r_146_4 S) ?_
          refine ax_getIe (x := (hIt fl (256 * i.toNat + 256)).1) d_Si_hintsSuffice_81 fd_Si_246 (k_166 S) (H2.1) ?_
          refine ax_V (st := []) (as := [vi ((hIt fl (256 * i.toNat + 256)).1)]) (b := 168) (v := none) (h' := sD h (byAdd K2 168 169 (hIt fl (256 * i.toNat + 256)).1) L) d_Si_hintsSuffice_84 cs_Si_hintsSuffice_84 (k_168 S) (c_By_add (J := byAdd K2 168 169 (hIt fl (256 * i.toNat + 256)).1) ⟨k_168 S, r_168_0 S, k_169 S, by decide, by decide, by decide⟩ (by rw [E2.1, n_169 S]; omega) rfl) rfl rfl rfl ?_
          show AW l G M_Si_hintsSuffice P 87 [(2, vi i), (1, vr 33), (0, vr 146)] [] (sD h (byAdd K2 168 169 (hIt fl (256 * i.toNat + 256)).1) L)
          refine ax_iinc (lv' := [(2, vi (i + 1)), (1, vr 33), (0, vr 146)]) d_Si_hintsSuffice_87 rfl (by decide) ⟨(by omega), (by omega)⟩ rfl ?_
          refine aw_goto (tgt := 16) d_Si_hintsSuffice_90 (by decide) ?_
          exact ih_16 _ (by omega) (i + 1) (byAdd K2 168 169 (hIt fl (256 * i.toNat + 256)).1) (by omega) (Fb.tr (FC.add (p := fun a => a = 136 ∨ 166 ≤ a ∧ a ≤ 169) (by omega) (by omega)) (fun a x => ⟨x, x⟩)) (fun m a b => by by_cases z : m = i; exact (by rw [z]; exact wi.1 (by omega)); exact okk m a (by omega)) (by rw [show 256 * (i + 1).toNat = 256 * i.toNat + 256 by omega]; exact H2.fc (L := L) (L' := L) (FC.add (p := fun a => a = 168 ∨ a = 169) (by omega) (by omega)) (by omega) (by omega)) (by rw [show 256 * (i + 1).toNat = 256 * i.toNat + 256 by omega]; exact qg.2.1) (E2.add (by decide) hi.1 (fun k k0 k1 => rfl) (by show (hIt fl (256 * i.toNat + 256)).1 = _; have := hIt_0 (fl := fl) (256 * i.toNat + 256); have := qg.2.1; omega)) rfl
        · skip
          refine aw_iconst d_Si_hintsSuffice_71 ⟨by decide, by decide⟩ ?_
          exact aw_zret d_Si_hintsSuffice_72 rfl ⟨by decide, by decide⟩ (hP _ _ ⟨Fb, Or.inr ⟨rfl, fun z => by have z2 := z.2; have m1 := hIt_mono (fl := fl) (a := 256 * i.toNat + 256) (b := 1024) (by omega); rcases qh with y | y; exact absurd y.1 (by omega); omega⟩⟩)
  skip
  refine aw_sub (lv' := [(2, vi 0), (1, vr 33), (0, vr 146)]) (by simp) ?_
  exact lp_16 _ 0 (a_up (a_up I 166 1 0) 168 1 0) (by omega) ((FC.up (p := fun a => a = 136 ∨ 166 ≤ a ∧ a ≤ 169) (by omega)).tr (FC.up (p := fun a => a = 136 ∨ 166 ≤ a ∧ a ≤ 169) (by omega)) (fun a x => ⟨x, x⟩)) (fun m a b => by omega) (HB.zero.fc (L := L) (L' := L) (FC.up (p := fun a => a = 168) rfl) (by decide) (by decide)) (by show (0 : Int) ≤ 80; decide) (HB.zero) rfl
def pcB0 (ch : Int → Int) (Z : Int → Int → Int) (fl : Nat → Bool) (x : Int) : Int := if x < 32 then ch x else if x < 2336 then gB (fun j => (131072 - Z ((x - 32) / 576) j) % 8380417) 18 ((x - 32) % 576) else if x < 2416 then (if x - 2336 < (hIt fl 1024).1 then (hIt fl 1024).2 (x - 2336) else 0) else (hIt fl (256 * (x - 2416).toNat + 256)).1
set_option maxHeartbeats 800000 in
set_option maxRecDepth 100000 in
theorem c_Si_writePacket0 {l : Launch} {G : a_G} {h : Hp} {I L : Nat → Int → Int} {ch : Int → Int} {Z : Int → Int → Int} {fl : Nat → Bool} (S : Shp h) (SD : Std I L) (hC : HB I 139 140 32 ch) (hZ : ∀ m, 0 ≤ m → m < 4 → eqQ (I (119 + m.toNat)) (Z m)) (qZ : ∀ m, 0 ≤ m → m < 4 → inQ (Z m)) (bZ : ∀ m, 0 ≤ m → m < 4 → ∀ j, 0 ≤ j → j < 256 → 0 ≤ (131072 - Z m j) % 8380417 ∧ (131072 - Z m j) % 8380417 < 2 ^ 18) (hH : HB I 166 167 (hIt fl 1024).1 (hIt fl 1024).2) (hW : (hIt fl 1024).1 ≤ 80) (hE : HB I 168 169 4 (fun x => (hIt fl (256 * x.toNat + 256)).1)) : AW l G M_Si_writePacket (Ret (fun _ : Nat → Int → Int => none) (fun K => sD h K L) (fun K => FC (fun a => a = 24 ∨ a = 25 ∨ 119 ≤ a ∧ a ≤ 125 ∨ a = 166 ∨ a = 167) I L K L ∧ HB K 24 25 2420 (pcB0 ch Z fl))) 0 (a_ar 0 [vr 146, vr 24, vr 33]) [] (sD h I L) := by
  suffices key : ∀ P : a_R → Hp → Prop, (∀ K : Nat → Int → Int, FC (fun a => a = 24 ∨ a = 25 ∨ 119 ≤ a ∧ a ≤ 125 ∨ a = 166 ∨ a = 167) I L K L → HB K 24 25 2420 (pcB0 ch Z fl) → P (.inl none) (sD h K L)) → AW l G M_Si_writePacket P 0 [(0, vr 146), (1, vr 24), (2, vr 33)] [] (sD h I L) from key _ (fun K q1 q2 => ⟨K, rfl, rfl, q1, q2⟩)
  intro P hP
  refine aw_aload_n d_Si_writePacket_0 rfl rfl ?_
  refine ax_V (st := []) (as := []) (b := 24) (v := none) (h' := sD h (a_up I 24 1 0) L) d_Si_writePacket_1 cs_Si_writePacket_1 (k_24 S) (c_By_clear (ks S (i := 5) (by decide))) rfl rfl rfl ?_
  show AW l G M_Si_writePacket P 4 [(0, vr 146), (1, vr 24), (2, vr 33)] [] (sD h (a_up I 24 1 0) L)
  refine aw_aload_n d_Si_writePacket_4 rfl rfl ?_
  refine aw_aload_n d_Si_writePacket_5 rfl rfl ?_
  refine ax_getR (b := 36) d_Si_writePacket_6 fd_Si_38 (k_146 S) (r_146_0 S) ?_
  refine ax_getR (b := 139) d_Si_writePacket_9 fd_Si_207 (k_36 S) (r_36_11 S) ?_
  refine ax_V (st := []) (as := [vr 139]) (b := 24) (v := none) (h' := sD h (byPut (a_up I 24 1 0) 24 25 ((a_up I 24 1 0) 139 1) (byAt (a_up I 24 1 0) 139 140)) L) d_Si_writePacket_12 cs_Si_writePacket_12 (k_24 S) (c_By_addAll (ks S (i := 5) (by decide)) ⟨k_139 S, r_139_0 S, k_140 S, by decide, by decide, by decide⟩ (by decide) (by rw [a_up_at, a_up_ne (Or.inl (by decide)), hC.1, nks S (i := 5) (by decide), n_140 S]; decide)) rfl rfl rfl ?_
  show AW l G M_Si_writePacket P 15 [(0, vr 146), (1, vr 24), (2, vr 33)] [] (sD h (byPut (a_up I 24 1 0) 24 25 ((a_up I 24 1 0) 139 1) (byAt (a_up I 24 1 0) 139 140)) L)
  have H0 : HB (byPut (a_up I 24 1 0) 24 25 ((a_up I 24 1 0) 139 1) (byAt (a_up I 24 1 0) 139 140)) 24 25 (0 + 32) (pcB0 ch Z fl) := HB.addAll (b2 := 139) (r2 := 140) (g2 := ch) HB.zero (hC.fc (L := L) (L' := L) (FC.up (p := fun a => a = 24) rfl) (by decide) (by decide)) (by decide) (by decide) (by decide) (fun z x y => by unfold pcB0; rw [if_pos (by omega), Int.zero_add])
  have F0 : FC (fun a => a = 24 ∨ a = 25 ∨ 119 ≤ a ∧ a ≤ 125 ∨ a = 166 ∨ a = 167) I L (byPut (a_up I 24 1 0) 24 25 ((a_up I 24 1 0) 139 1) (byAt (a_up I 24 1 0) 139 140)) L := (FC.up (p := fun a => a = 24 ∨ a = 25 ∨ 119 ≤ a ∧ a ≤ 125 ∨ a = 166 ∨ a = 167) (by omega)).tr (FC.put (p := fun a => a = 24 ∨ a = 25 ∨ 119 ≤ a ∧ a ≤ 125 ∨ a = 166 ∨ a = 167) (by omega) (by omega)) (fun a x => ⟨x, x⟩)
  refine aw_iconst d_Si_writePacket_15 ⟨by decide, by decide⟩ ?_
  refine aw_istore_n (lv' := [(3, vi 0), (0, vr 146), (1, vr 24), (2, vr 33)]) d_Si_writePacket_16 rfl (by decide) rfl ?_
  have lp_17 : ∀ (n_ : Nat) (i : Int) (K : Nat → Int → Int), (0 ≤ i ∧ i ≤ 4) → (FC (fun a => a = 24 ∨ a = 25 ∨ 119 ≤ a ∧ a ≤ 125 ∨ a = 166 ∨ a = 167) I L K L) → (FC (fun a => a = 24 ∨ a = 25 ∨ 119 ≤ a ∧ a ≤ 125) I L K L) → (∀ m, 0 ≤ m → i ≤ m → m < 4 → eqQ (K (119 + m.toNat)) (Z m)) → (HB K 24 25 (32 + 576 * i) (pcB0 ch Z fl)) → ((4 - i).toNat) = n_ → AW l G M_Si_writePacket P 17 [(3, vi i), (2, vr 33), (1, vr 24), (0, vr 146)] [] (sD h K L) := by
    intro n_
    induction n_ using Nat.strongRecOn with
    | _ n_ ih_17 =>
    intro i K hi F F' un H hm_17
    refine aw_iload_n d_Si_writePacket_17 rfl rfl ?_
    refine aw_aload_n d_Si_writePacket_18 rfl rfl ?_
    refine ax_getIe (x := 4) d_Si_writePacket_19 fd_Si_56 (k_33 S) (Eq.trans (F.1 33 1 (by omega)) (pc_33_1 SD.2.1)) ?_
    refine aw_icmp_ge (tgt := 64) d_Si_writePacket_22 (by decide) (fun c_22 => ?_) (fun c_22 => ?_)
    · skip
      refine aw_aload_n d_Si_writePacket_64 rfl rfl ?_
      refine ax_getR (b := 166) d_Si_writePacket_65 fd_Si_32 (k_146 S) (r_146_4 S) ?_
      refine aw_aload_n d_Si_writePacket_68 rfl rfl ?_
      refine ax_getIe (x := 80) d_Si_writePacket_69 fd_Si_256 (k_33 S) (Eq.trans (F.1 33 6 (by omega)) (pc_33_6 SD.2.1)) ?_
      have hh := hH.fc F' (by omega) (by omega)
      refine ax_V (st := []) (as := [vi 80]) (b := 166) (v := none) (h' := sD h (byStretch K 166 167 80) L) d_Si_writePacket_72 cs_Si_writePacket_72 (k_166 S) (c_By_stretch ⟨k_166 S, r_166_0 S, k_167 S, by decide, by decide, by decide⟩ (by rw [hh.1, n_167 S]; have := hIt_0 (fl := fl) 1024; omega)) rfl rfl rfl ?_
      show AW l G M_Si_writePacket P 75 [(3, vi i), (2, vr 33), (1, vr 24), (0, vr 146)] [] (sD h (byStretch K 166 167 80) L)
      have hs := hh.stretch (m := 80) (by decide) hW
      have hk3 := H.fc (L := L) (L' := L) (FC.stretch (p := fun a => a = 166 ∨ a = 167) (n := 80) (b := 166) (r := 167) (by omega) (by omega)) (by omega) (by omega)
      refine aw_aload_n d_Si_writePacket_75 rfl rfl ?_
      refine aw_aload_n d_Si_writePacket_76 rfl rfl ?_
      refine ax_getR (b := 166) d_Si_writePacket_77 fd_Si_32 (k_146 S) (r_146_4 S) ?_
      refine ax_V (st := []) (as := [vr 166]) (b := 24) (v := none) (h' := sD h (byPut (byStretch K 166 167 80) 24 25 ((byStretch K 166 167 80) 166 1) (byAt (byStretch K 166 167 80) 166 167)) L) d_Si_writePacket_80 cs_Si_writePacket_80 (k_24 S) (c_By_addAll (ks S (i := 5) (by decide)) ⟨k_166 S, r_166_0 S, k_167 S, by decide, by decide, by decide⟩ (by decide) (by rw [hk3.1, hs.1, nks S (i := 5) (by decide), n_167 S]; omega)) rfl rfl rfl ?_
      show AW l G M_Si_writePacket P 83 [(3, vi i), (2, vr 33), (1, vr 24), (0, vr 146)] [] (sD h (byPut (byStretch K 166 167 80) 24 25 ((byStretch K 166 167 80) 166 1) (byAt (byStretch K 166 167 80) 166 167)) L)
      have H4 : HB (byPut (byStretch K 166 167 80) 24 25 ((byStretch K 166 167 80) 166 1) (byAt (byStretch K 166 167 80) 166 167)) 24 25 (32 + 576 * i + 80) (pcB0 ch Z fl) := HB.addAll hk3 hs (by decide) (by omega) (by decide) (fun z x y => by unfold pcB0; rw [if_neg (by omega), if_neg (by omega), if_pos (by omega), show 32 + 576 * i + z - 2336 = z by omega])
      have e4 : HB (byPut (byStretch K 166 167 80) 24 25 ((byStretch K 166 167 80) 166 1) (byAt (byStretch K 166 167 80) 166 167)) 168 169 4 _ := ((hE.fc F' (by omega) (by omega)).fc (L := L) (L' := L) (FC.stretch (p := fun a => a = 166 ∨ a = 167) (n := 80) (b := 166) (r := 167) (by omega) (by omega)) (by omega) (by omega)).fc (L := L) (L' := L) (FC.put (p := fun a => a = 24 ∨ a = 25) (b := 24) (r := 25) (by omega) (by omega)) (by omega) (by omega)
      refine aw_aload_n d_Si_writePacket_83 rfl rfl ?_
      refine aw_aload_n d_Si_writePacket_84 rfl rfl ?_
      refine ax_getR (b := 168) d_Si_writePacket_85 fd_Si_35 (k_146 S) (r_146_5 S) ?_
      refine ax_V (st := []) (as := [vr 168]) (b := 24) (v := none) (h' := sD h (byPut (byPut (byStretch K 166 167 80) 24 25 ((byStretch K 166 167 80) 166 1) (byAt (byStretch K 166 167 80) 166 167)) 24 25 ((byPut (byStretch K 166 167 80) 24 25 ((byStretch K 166 167 80) 166 1) (byAt (byStretch K 166 167 80) 166 167)) 168 1) (byAt (byPut (byStretch K 166 167 80) 24 25 ((byStretch K 166 167 80) 166 1) (byAt (byStretch K 166 167 80) 166 167)) 168 169)) L) d_Si_writePacket_88 cs_Si_writePacket_88 (k_24 S) (c_By_addAll (ks S (i := 5) (by decide)) ⟨k_168 S, r_168_0 S, k_169 S, by decide, by decide, by decide⟩ (by decide) (by rw [H4.1, e4.1, nks S (i := 5) (by decide), n_169 S]; omega)) rfl rfl rfl ?_
      show AW l G M_Si_writePacket P 91 [(3, vi i), (2, vr 33), (1, vr 24), (0, vr 146)] [] (sD h (byPut (byPut (byStretch K 166 167 80) 24 25 ((byStretch K 166 167 80) 166 1) (byAt (byStretch K 166 167 80) 166 167)) 24 25 ((byPut (byStretch K 166 167 80) 24 25 ((byStretch K 166 167 80) 166 1) (byAt (byStretch K 166 167 80) 166 167)) 168 1) (byAt (byPut (byStretch K 166 167 80) 24 25 ((byStretch K 166 167 80) 166 1) (byAt (byStretch K 166 167 80) 166 167)) 168 169)) L)
      exact aw_vret d_Si_writePacket_91 rfl (hP _ (((F.tr (FC.stretch (p := fun a => a = 24 ∨ a = 25 ∨ 119 ≤ a ∧ a ≤ 125 ∨ a = 166 ∨ a = 167) (by omega) (by omega)) (fun a x => ⟨x, x⟩)).tr (FC.put (p := fun a => a = 24 ∨ a = 25 ∨ 119 ≤ a ∧ a ≤ 125 ∨ a = 166 ∨ a = 167) (by omega) (by omega)) (fun a x => ⟨x, x⟩)).tr (FC.put (p := fun a => a = 24 ∨ a = 25 ∨ 119 ≤ a ∧ a ≤ 125 ∨ a = 166 ∨ a = 167) (by omega) (by omega)) (fun a x => ⟨x, x⟩)) (by rw [show (2420 : Int) = 32 + 576 * i + 80 + 4 by omega]; exact HB.addAll H4 e4 (by decide) (by omega) (by decide) (fun z x y => by unfold pcB0; rw [if_neg (by omega), if_neg (by omega), if_neg (by omega), show 32 + 576 * i + 80 + z - 2416 = z by omega])))
    · skip
      refine aw_aload_n d_Si_writePacket_25 rfl rfl ?_
      refine ax_getR (b := 36) d_Si_writePacket_26 fd_Si_38 (k_146 S) (r_146_0 S) ?_
      refine ax_getR (b := 118) d_Si_writePacket_29 fd_Si_175 (k_36 S) (r_36_6 S) ?_
      refine aw_iload_n d_Si_writePacket_32 rfl rfl ?_
      refine ax_aald (b := 119 + i.toNat) d_Si_writePacket_33 ⟨by rw [(k_118 S)]; decide, by rw [(k_118 S)]; decide⟩ (by omega) (by rw [n_118 S]; omega) (g_118 S (by omega) (by omega)) ?_
      refine aw_aload_n d_Si_writePacket_34 rfl rfl ?_
      refine ax_getIe (x := 131072) d_Si_writePacket_35 fd_Si_220 (k_33 S) (Eq.trans (F.1 33 4 (by omega)) (pc_33_4 SD.2.1)) ?_
      refine ax_S (st := []) (as := [vr (119 + i.toNat), vi 131072]) (v := none) (h' := sD h (rowTo K (119 + i.toNat) 256 (fun j => (131072 - K (119 + i.toNat) j) % 8380417)) L) d_Si_writePacket_38 cs_Si_writePacket_38 (c_Ri_mirror ⟨kr_118 S (by omega), by omega, nr_118 S (by omega)⟩ (by decide) (fun j x y => by rw [un i hi.1 (Int.le_refl _) (by omega) j x y]; exact qZ i hi.1 (by omega) j x y)) rfl rfl rfl ?_
      show AW l G M_Si_writePacket P 41 [(3, vi i), (2, vr 33), (1, vr 24), (0, vr 146)] [] (sD h (rowTo K (119 + i.toNat) 256 (fun j => (131072 - K (119 + i.toNat) j) % 8380417)) L)
      refine aw_aload_n d_Si_writePacket_41 rfl rfl ?_
      refine aw_aload_n d_Si_writePacket_42 rfl rfl ?_
      refine ax_getR (b := 36) d_Si_writePacket_43 fd_Si_38 (k_146 S) (r_146_0 S) ?_
      refine ax_getR (b := 118) d_Si_writePacket_46 fd_Si_175 (k_36 S) (r_36_6 S) ?_
      refine aw_iload_n d_Si_writePacket_49 rfl rfl ?_
      refine ax_aald (b := 119 + i.toNat) d_Si_writePacket_50 ⟨by rw [(k_118 S)]; decide, by rw [(k_118 S)]; decide⟩ (by omega) (by rw [n_118 S]; omega) (g_118 S (by omega) (by omega)) ?_
      refine aw_aload_n d_Si_writePacket_51 rfl rfl ?_
      refine ax_getIe (x := 18) d_Si_writePacket_52 fd_Si_263 (k_33 S) (Eq.trans (rowTo_ne (by omega)) (Eq.trans (F.1 33 11 (by omega)) (pc_33_11 SD.2.1))) ?_
      refine ax_V (st := []) (as := [vr (119 + i.toNat), vi 18]) (b := 24) (v := none) (h' := sD h (byPut (rowTo K (119 + i.toNat) 256 (fun j => (131072 - K (119 + i.toNat) j) % 8380417)) 24 25 (32 * 18) (gB ((rowTo K (119 + i.toNat) 256 (fun j => (131072 - K (119 + i.toNat) j) % 8380417)) (119 + i.toNat)) 18)) L) d_Si_writePacket_55 cs_Si_writePacket_55 (k_24 S) (by have z := c_By_addBits (l := l) (G := G) (L := L) (I := rowTo K (119 + i.toNat) 256 (fun j => (131072 - K (119 + i.toNat) j) % 8380417)) (f := 119 + i.toNat) (w := 18) (ks S (i := 5) (by decide)) ⟨kr_118 S (by omega), by omega, nr_118 S (by omega), by omega, by omega⟩ (by decide) (fun j x y => by rw [rowTo_in x y, un i hi.1 (Int.le_refl _) (by omega) j x y]; exact bZ i hi.1 (by omega) j x y) (by rw [rowTo_ne (by omega), H.1, nks S (i := 5) (by decide)]; omega); exact z) rfl rfl rfl ?_
      show AW l G M_Si_writePacket P 58 [(3, vi i), (2, vr 33), (1, vr 24), (0, vr 146)] [] (sD h (byPut (rowTo K (119 + i.toNat) 256 (fun j => (131072 - K (119 + i.toNat) j) % 8380417)) 24 25 (32 * 18) (gB ((rowTo K (119 + i.toNat) 256 (fun j => (131072 - K (119 + i.toNat) j) % 8380417)) (119 + i.toNat)) 18)) L)
      refine ax_iinc (lv' := [(3, vi (i + 1)), (2, vr 33), (1, vr 24), (0, vr 146)]) d_Si_writePacket_58 rfl (by decide) ⟨(by omega), (by omega)⟩ rfl ?_
      refine aw_goto (tgt := 17) d_Si_writePacket_61 (by decide) ?_
      exact ih_17 _ (by omega) (i + 1) (byPut (rowTo K (119 + i.toNat) 256 (fun j => (131072 - K (119 + i.toNat) j) % 8380417)) 24 25 (32 * 18) (gB ((rowTo K (119 + i.toNat) 256 (fun j => (131072 - K (119 + i.toNat) j) % 8380417)) (119 + i.toNat)) 18)) (by omega) ((F.tr (FC.row (p := fun a => a = 24 ∨ a = 25 ∨ 119 ≤ a ∧ a ≤ 125 ∨ a = 166 ∨ a = 167) (by omega)) (fun a x => ⟨x, x⟩)).tr (FC.put (p := fun a => a = 24 ∨ a = 25 ∨ 119 ≤ a ∧ a ≤ 125 ∨ a = 166 ∨ a = 167) (by omega) (by omega)) (fun a x => ⟨x, x⟩)) ((F'.tr (FC.row (p := fun a => a = 24 ∨ a = 25 ∨ 119 ≤ a ∧ a ≤ 125) (by omega)) (fun a x => ⟨x, x⟩)).tr (FC.put (p := fun a => a = 24 ∨ a = 25 ∨ 119 ≤ a ∧ a ≤ 125) (by omega) (by omega)) (fun a x => ⟨x, x⟩)) (fun m a b c j x y => by rw [byPut_ne (by omega) (by omega), rowTo_ne (by omega)]; exact un m a (by omega) c j x y) (by rw [show 32 + 576 * (i + 1) = 32 + 576 * i + 32 * 18 by omega]; exact (H.fc (L := L) (L' := L) (FC.row (p := fun a => a = 119 + i.toNat) rfl) (by omega) (by omega)).put (by decide) (by omega) (by decide) (fun z x y => by rw [gB_m]; unfold pcB0; rw [if_neg (by omega), if_pos (by omega), show (32 + 576 * i + z - 32) / 576 = i by omega, show (32 + 576 * i + z - 32) % 576 = z by omega, gB_congr (G := fun j => (131072 - Z i j) % 8380417) (fun j u v => by rw [rowTo_in u v, un i hi.1 (Int.le_refl _) (by omega) j u v])])) rfl
  skip
  refine aw_sub (lv' := [(3, vi 0), (2, vr 33), (1, vr 24), (0, vr 146)]) (by simp) ?_
  exact lp_17 _ 0 (byPut (a_up I 24 1 0) 24 25 ((a_up I 24 1 0) 139 1) (byAt (a_up I 24 1 0) 139 140)) (by omega) (F0) ((FC.up (p := fun a => a = 24 ∨ a = 25 ∨ 119 ≤ a ∧ a ≤ 125) (by omega)).tr (FC.put (p := fun a => a = 24 ∨ a = 25 ∨ 119 ≤ a ∧ a ≤ 125) (by omega) (by omega)) (fun a x => ⟨x, x⟩)) (fun m a b c j x y => by rw [byPut_ne (by omega) (by omega), a_up_ne (Or.inl (by omega))]; exact hZ m a c j x y) (by rw [show (32 + 576 * 0 : Int) = 0 + 32 by omega]; exact H0) rfl
set_option maxHeartbeats 800000 in
set_option maxRecDepth 100000 in
theorem c_Si_answersHide1 {l : Launch} {G : a_G} {h : Hp} {I L : Nat → Int → Int} {B : Int → Int} {V Mk : Int → Int → Int} (S : Shp h) (SD : Std I L) (hB : eqQ (I 135) B) (qB : inQ B) (hM : ∀ m, 0 ≤ m → m < 5 → eqQ (I (157 + m.toNat)) (Mk m)) (qM : ∀ m, 0 ≤ m → m < 5 → inQ (Mk m)) (hV : ∀ m, 0 ≤ m → m < 5 → eqQ (I (102 + m.toNat)) (V m)) (qV : ∀ m, 0 ≤ m → m < 5 → inQ (V m)) : AW l G M_Si_answersHide (Ret (fun u : Int × (Nat → Int → Int) => some (vi u.1)) (fun u => sD h u.2 L) (fun u => FC (fun a => a = 136 ∨ 119 ≤ a ∧ a ≤ 125) I L u.2 L ∧ ((u.1 = 1 ∧ (∀ m, 0 ≤ m → m < 5 → wiN 524092 (fun j => (Mk m j + prB B (V m) j) % 8380417)) ∧ ∀ m, 0 ≤ m → m < 5 → eqQ (u.2 (119 + m.toNat)) (fun j => (Mk m j + prB B (V m) j) % 8380417)) ∨ (u.1 = 0 ∧ ¬ ∀ m, 0 ≤ m → m < 5 → wiN 524092 (fun j => (Mk m j + prB B (V m) j) % 8380417))))) 0 (a_ar 0 [vr 146, vr 34]) [] (sD h I L) := by
  suffices key : ∀ P : a_R → Hp → Prop, (∀ (v_ : Int) (K_ : Nat → Int → Int), FC (fun a => a = 136 ∨ 119 ≤ a ∧ a ≤ 125) I L K_ L ∧ ((v_ = 1 ∧ (∀ m, 0 ≤ m → m < 5 → wiN 524092 (fun j => (Mk m j + prB B (V m) j) % 8380417)) ∧ ∀ m, 0 ≤ m → m < 5 → eqQ (K_ (119 + m.toNat)) (fun j => (Mk m j + prB B (V m) j) % 8380417)) ∨ (v_ = 0 ∧ ¬ ∀ m, 0 ≤ m → m < 5 → wiN 524092 (fun j => (Mk m j + prB B (V m) j) % 8380417))) → P (.inl (some (vi v_))) (sD h K_ L)) → AW l G M_Si_answersHide P 0 [(0, vr 146), (1, vr 34)] [] (sD h I L) from key _ (fun v K q => ⟨(v, K), rfl, rfl, q⟩)
  intro P hP
  refine aw_iconst d_Si_answersHide_0 ⟨by decide, by decide⟩ ?_
  refine aw_istore_n (lv' := [(2, vi 0), (0, vr 146), (1, vr 34)]) d_Si_answersHide_1 rfl (by decide) rfl ?_
  have lp_2 : ∀ (n_ : Nat) (i : Int) (K : Nat → Int → Int), (0 ≤ i ∧ i ≤ 5) → (FC (fun a => a = 136 ∨ 119 ≤ a ∧ a ≤ 125) I L K L) → (∀ m, 0 ≤ m → m < i → wiN 524092 (fun j => (Mk m j + prB B (V m) j) % 8380417)) → (∀ m, 0 ≤ m → m < i → eqQ (K (119 + m.toNat)) (fun j => (Mk m j + prB B (V m) j) % 8380417)) → ((5 - i).toNat) = n_ → AW l G M_Si_answersHide P 2 [(2, vi i), (1, vr 34), (0, vr 146)] [] (sD h K L) := by
    intro n_
    induction n_ using Nat.strongRecOn with
    | _ n_ ih_2 =>
    intro i K hi F okk gg hm_2
    refine aw_iload_n d_Si_answersHide_2 rfl rfl ?_
    refine aw_aload_n d_Si_answersHide_3 rfl rfl ?_
    refine ax_getIe (x := 5) d_Si_answersHide_4 fd_Si_56 (k_34 S) (Eq.trans (F.1 34 1 (by omega)) (pc_34_1 SD.2.1)) ?_
    refine aw_icmp_ge (tgt := 95) d_Si_answersHide_7 (by decide) (fun c_7 => ?_) (fun c_7 => ?_)
    · skip
      refine aw_iconst d_Si_answersHide_95 ⟨by decide, by decide⟩ ?_
      exact aw_zret d_Si_answersHide_96 rfl ⟨by decide, by decide⟩ (hP _ K ⟨F, Or.inl ⟨rfl, fun m a b => okk m a (by omega), fun m a b => gg m a (by omega)⟩⟩)
    · skip
      refine aw_aload_n d_Si_answersHide_10 rfl rfl ?_
      refine ax_getR (b := 36) d_Si_answersHide_11 fd_Si_38 (k_146 S) (r_146_0 S) ?_
      refine aw_aload_n d_Si_answersHide_14 rfl rfl ?_
      refine ax_getR (b := 36) d_Si_answersHide_15 fd_Si_38 (k_146 S) (r_146_0 S) ?_
      refine ax_getR (b := 101) d_Si_answersHide_18 fd_Si_109 (k_36 S) (r_36_4 S) ?_
      refine aw_iload_n d_Si_answersHide_21 rfl rfl ?_
      refine ax_aald (b := 102 + i.toNat) d_Si_answersHide_22 ⟨by rw [(k_101 S)]; decide, by rw [(k_101 S)]; decide⟩ (by omega) (by rw [n_101 S]; omega) (g_101 S (by omega) (by omega)) ?_
      refine ax_Vr (st := []) (as := [vr (102 + i.toNat)]) (b := 36) d_Si_answersHide_23 cs_Si_answersHide_23 (k_36 S) (c_Be_multiplyBall S (SD.fc F (by intro a x; omega)) ⟨kr_101 S (by omega), by omega, nr_101 S (by omega)⟩ (fun j x y => by rw [F.1 _ _ (by omega), hB j x y]; exact qB j x y) (fun j x y => by rw [F.1 _ _ (by omega), hV i hi.1 (by omega) j x y]; exact qV i hi.1 (by omega) j x y)) rfl rfl rfl (fun u_23 q_23 => ?_)
      obtain ⟨q1_, q2_⟩ := q_23
      have pr_ : eqQ (u_23 136) (prB B (V i)) := fun j x y => (q2_ j x y).trans (prB_eq (fun z s t => (F.1 _ _ (by omega)).trans (hB z s t)) (fun z s t => (F.1 _ _ (by omega)).trans (hV i hi.1 (by omega) z s t)) j x y)
      have Fa : FC (fun a => a = 136 ∨ 119 ≤ a ∧ a ≤ 125) I L u_23 L := F.tr q1_ (by intro a x; omega)
      show AW l G M_Si_answersHide P 26 [(2, vi i), (1, vr 34), (0, vr 146)] [] (sD h u_23 L)
      refine aw_aload_n d_Si_answersHide_26 rfl rfl ?_
      refine ax_getR (b := 156) d_Si_answersHide_27 fd_Si_20 (k_146 S) (r_146_2 S) ?_
      refine aw_iload_n d_Si_answersHide_30 rfl rfl ?_
      refine ax_aald (b := 157 + i.toNat) d_Si_answersHide_31 ⟨by rw [(k_156 S)]; decide, by rw [(k_156 S)]; decide⟩ (by omega) (by rw [n_156 S]; omega) (g_156 S (by omega) (by omega)) ?_
      refine aw_aload_n d_Si_answersHide_32 rfl rfl ?_
      refine ax_getR (b := 36) d_Si_answersHide_33 fd_Si_38 (k_146 S) (r_146_0 S) ?_
      refine ax_getR (b := 118) d_Si_answersHide_36 fd_Si_175 (k_36 S) (r_36_6 S) ?_
      refine aw_iload_n d_Si_answersHide_39 rfl rfl ?_
      refine ax_aald (b := 119 + i.toNat) d_Si_answersHide_40 ⟨by rw [(k_118 S)]; decide, by rw [(k_118 S)]; decide⟩ (by omega) (by rw [n_118 S]; omega) (g_118 S (by omega) (by omega)) ?_
      refine ax_S (st := []) (as := [vr (157 + i.toNat), vr (119 + i.toNat)]) (v := none) (h' := sD h (rowTo u_23 (119 + i.toNat) 256 (u_23 (157 + i.toNat))) L) d_Si_answersHide_41 cs_Si_answersHide_41 (c_Ri_copyRow ⟨kr_156 S (by omega), by omega, nr_156 S (by omega)⟩ ⟨kr_118 S (by omega), by omega, nr_118 S (by omega)⟩) rfl rfl rfl ?_
      show AW l G M_Si_answersHide P 44 [(2, vi i), (1, vr 34), (0, vr 146)] [] (sD h (rowTo u_23 (119 + i.toNat) 256 (u_23 (157 + i.toNat))) L)
      refine aw_aload_n d_Si_answersHide_44 rfl rfl ?_
      refine ax_getR (b := 36) d_Si_answersHide_45 fd_Si_38 (k_146 S) (r_146_0 S) ?_
      refine ax_getR (b := 118) d_Si_answersHide_48 fd_Si_175 (k_36 S) (r_36_6 S) ?_
      refine aw_iload_n d_Si_answersHide_51 rfl rfl ?_
      refine ax_aald (b := 119 + i.toNat) d_Si_answersHide_52 ⟨by rw [(k_118 S)]; decide, by rw [(k_118 S)]; decide⟩ (by omega) (by rw [n_118 S]; omega) (g_118 S (by omega) (by omega)) ?_
      refine aw_aload_n d_Si_answersHide_53 rfl rfl ?_
      refine ax_getR (b := 36) d_Si_answersHide_54 fd_Si_38 (k_146 S) (r_146_0 S) ?_
      refine ax_getR (b := 136) d_Si_answersHide_57 fd_Si_194 (k_36 S) (r_36_9 S) ?_
      refine ax_S (st := []) (as := [vr (119 + i.toNat), vr 136]) (v := none) (h' := sD h (rowTo (rowTo u_23 (119 + i.toNat) 256 (u_23 (157 + i.toNat))) (119 + i.toNat) 256 (fun j => ((rowTo u_23 (119 + i.toNat) 256 (u_23 (157 + i.toNat))) (119 + i.toNat) j + (rowTo u_23 (119 + i.toNat) 256 (u_23 (157 + i.toNat))) 136 j) % 8380417)) L) d_Si_answersHide_60 cs_Si_answersHide_60 (c_Ri_addTo ⟨kr_118 S (by omega), by omega, nr_118 S (by omega)⟩ ⟨k_136 S, by decide, n_136 S⟩ (fun j x y => by rw [rowTo_in x y, q1_.1 _ _ (by omega), F.1 _ _ (by omega), hM i hi.1 (by omega) j x y]; exact qM i hi.1 (by omega) j x y) (fun j x y => by rw [rowTo_ne (by omega), pr_ j x y]; exact prB_in j x y)) rfl rfl rfl ?_
      show AW l G M_Si_answersHide P 63 [(2, vi i), (1, vr 34), (0, vr 146)] [] (sD h (rowTo (rowTo u_23 (119 + i.toNat) 256 (u_23 (157 + i.toNat))) (119 + i.toNat) 256 (fun j => ((rowTo u_23 (119 + i.toNat) 256 (u_23 (157 + i.toNat))) (119 + i.toNat) j + (rowTo u_23 (119 + i.toNat) 256 (u_23 (157 + i.toNat))) 136 j) % 8380417)) L)
      have zi : eqQ ((rowTo (rowTo u_23 (119 + i.toNat) 256 (u_23 (157 + i.toNat))) (119 + i.toNat) 256 (fun j => ((rowTo u_23 (119 + i.toNat) 256 (u_23 (157 + i.toNat))) (119 + i.toNat) j + (rowTo u_23 (119 + i.toNat) 256 (u_23 (157 + i.toNat))) 136 j) % 8380417)) (119 + i.toNat)) (fun j => (Mk i j + prB B (V i) j) % 8380417) := fun j x y => by rw [rowTo_in x y, rowTo_in x y, rowTo_ne (by omega), pr_ j x y, q1_.1 _ _ (by omega), F.1 _ _ (by omega), hM i hi.1 (by omega) j x y]
      have Fb : FC (fun a => a = 136 ∨ 119 ≤ a ∧ a ≤ 125) I L (rowTo (rowTo u_23 (119 + i.toNat) 256 (u_23 (157 + i.toNat))) (119 + i.toNat) 256 (fun j => ((rowTo u_23 (119 + i.toNat) 256 (u_23 (157 + i.toNat))) (119 + i.toNat) j + (rowTo u_23 (119 + i.toNat) 256 (u_23 (157 + i.toNat))) 136 j) % 8380417)) L := (Fa.tr (FC.row (p := fun a => a = 136 ∨ 119 ≤ a ∧ a ≤ 125) (by omega)) (fun a x => ⟨x, x⟩)).tr (FC.row (p := fun a => a = 136 ∨ 119 ≤ a ∧ a ≤ 125) (by omega)) (fun a x => ⟨x, x⟩)
      refine aw_aload_n d_Si_answersHide_63 rfl rfl ?_
      refine ax_getR (b := 36) d_Si_answersHide_64 fd_Si_38 (k_146 S) (r_146_0 S) ?_
      refine ax_getR (b := 118) d_Si_answersHide_67 fd_Si_175 (k_36 S) (r_36_6 S) ?_
      refine aw_iload_n d_Si_answersHide_70 rfl rfl ?_
      refine ax_aald (b := 119 + i.toNat) d_Si_answersHide_71 ⟨by rw [(k_118 S)]; decide, by rw [(k_118 S)]; decide⟩ (by omega) (by rw [n_118 S]; omega) (g_118 S (by omega) (by omega)) ?_
      refine aw_aload_n d_Si_answersHide_72 rfl rfl ?_
      refine ax_getIe (x := 524288) d_Si_answersHide_73 fd_Si_220 (k_34 S) (Eq.trans (rowTo_ne (by omega)) (Eq.trans (rowTo_ne (by omega)) (Eq.trans (Fa.1 34 4 (by omega)) (pc_34_4 SD.2.1)))) ?_
      refine aw_aload_n d_Si_answersHide_76 rfl rfl ?_
      refine ax_getIe (x := 196) d_Si_answersHide_77 fd_Si_223 (k_34 S) (Eq.trans (rowTo_ne (by omega)) (Eq.trans (rowTo_ne (by omega)) (Eq.trans (Fa.1 34 9 (by omega)) (pc_34_9 SD.2.1)))) ?_
      refine ax_isub d_Si_answersHide_80 ⟨(by omega), (by omega)⟩ ?_
      refine ax_ti (x := 524092) (by decide) ?_
      refine ax_Sr (st := []) (as := [vr (119 + i.toNat), vi 524092]) d_Si_answersHide_81 cs_Si_answersHide_81 (c_Ri_within ⟨kr_118 S (by omega), by omega, nr_118 S (by omega)⟩ (by decide)) rfl rfl rfl (fun u_81 q_81 => ?_)
      obtain ⟨wo, wi⟩ := q_81
      have wi := wi.trans (wiN_eq zi)
      show AW l G M_Si_answersHide P 84 [(2, vi i), (1, vr 34), (0, vr 146)] [vi u_81] (sD h (rowTo (rowTo u_23 (119 + i.toNat) 256 (u_23 (157 + i.toNat))) (119 + i.toNat) 256 (fun j => ((rowTo u_23 (119 + i.toNat) 256 (u_23 (157 + i.toNat))) (119 + i.toNat) j + (rowTo u_23 (119 + i.toNat) 256 (u_23 (157 + i.toNat))) 136 j) % 8380417)) L)
      refine aw_if_ne (tgt := 89) d_Si_answersHide_84 (by decide) (fun c_84 => ?_) (fun c_84 => ?_)
      · skip
        refine ax_iinc (lv' := [(2, vi (i + 1)), (1, vr 34), (0, vr 146)]) d_Si_answersHide_89 rfl (by decide) ⟨(by omega), (by omega)⟩ rfl ?_
        refine aw_goto (tgt := 2) d_Si_answersHide_92 (by decide) ?_
        exact ih_2 _ (by omega) (i + 1) (rowTo (rowTo u_23 (119 + i.toNat) 256 (u_23 (157 + i.toNat))) (119 + i.toNat) 256 (fun j => ((rowTo u_23 (119 + i.toNat) 256 (u_23 (157 + i.toNat))) (119 + i.toNat) j + (rowTo u_23 (119 + i.toNat) 256 (u_23 (157 + i.toNat))) 136 j) % 8380417)) (by omega) (Fb) (fun m a b => by by_cases z : m = i; exact (by rw [z]; exact wi.1 (by omega)); exact okk m a (by omega)) (fun m a b j x y => by by_cases z : m = i; exact (by rw [z]; exact zi j x y); exact (by rw [rowTo_ne (by omega), rowTo_ne (by omega), q1_.1 _ _ (by omega)]; exact gg m a (by omega) j x y)) rfl
      · skip
        refine aw_iconst d_Si_answersHide_87 ⟨by decide, by decide⟩ ?_
        exact aw_zret d_Si_answersHide_88 rfl ⟨by decide, by decide⟩ (hP _ _ ⟨Fb, Or.inr ⟨rfl, fun z => by have := wi.2 (z i hi.1 (by omega)); omega⟩⟩)
  skip
  refine aw_sub (lv' := [(2, vi 0), (1, vr 34), (0, vr 146)]) (by simp) ?_
  exact lp_2 _ 0 I (by omega) (FC.rfl') (fun m a b => by omega) (fun m a b => by omega) rfl
set_option maxHeartbeats 800000 in
set_option maxRecDepth 100000 in
theorem c_Si_lowsWithin1 {l : Launch} {G : a_G} {h : Hp} {I L : Nat → Int → Int} {f : Nat} (S : Shp h) (SD : Std I L) (Zf : RwO h f) (qf : inQ (I f)) : AW l G M_Si_lowsWithin (Ret (fun u : Int => some (vi u)) (fun _ => sD h I L) (fun u => (u = 0 ∨ u = 1) ∧ (u = 1 ↔ loN 261888 261692 (I f)))) 0 (a_ar 0 [vr f, vr 34]) [] (sD h I L) := by
  suffices key : ∀ P : a_R → Hp → Prop, (∀ v : Int, (v = 0 ∨ v = 1) → (v = 1 ↔ loN 261888 261692 (I f)) → P (.inl (some (vi v))) (sD h I L)) → AW l G M_Si_lowsWithin P 0 [(0, vr f), (1, vr 34)] [] (sD h I L) from key _ (fun v q1 q2 => ⟨v, rfl, rfl, q1, q2⟩)
  intro P hP
  refine aw_aload_n d_Si_lowsWithin_0 rfl rfl ?_
  refine ax_getIe (x := 261888) d_Si_lowsWithin_1 fd_Si_237 (k_34 S) (pc_34_5 SD.2.1) ?_
  refine aw_aload_n d_Si_lowsWithin_4 rfl rfl ?_
  refine ax_getIe (x := 196) d_Si_lowsWithin_5 fd_Si_223 (k_34 S) (pc_34_9 SD.2.1) ?_
  refine ax_isub d_Si_lowsWithin_8 ⟨(by omega), (by omega)⟩ ?_
  refine ax_ti (x := 261692) (by decide) ?_
  refine aw_istore_n (lv' := [(2, vi 261692), (0, vr f), (1, vr 34)]) d_Si_lowsWithin_9 rfl (by decide) rfl ?_
  refine aw_iconst d_Si_lowsWithin_10 ⟨by decide, by decide⟩ ?_
  refine aw_istore_n (lv' := [(3, vi 0), (2, vi 261692), (0, vr f), (1, vr 34)]) d_Si_lowsWithin_11 rfl (by decide) rfl ?_
  have lp_12 : ∀ (n_ : Nat) (c : Int), (0 ≤ c ∧ c ≤ 256) → (∀ j, 0 ≤ j → j < c → -261692 < dLow 261888 (I f j) ∧ dLow 261888 (I f j) < 261692) → ((256 - c).toNat) = n_ → AW l G M_Si_lowsWithin P 12 [(3, vi c), (2, vi 261692), (1, vr 34), (0, vr f)] [] (sD h I L) := by
    intro n_
    induction n_ using Nat.strongRecOn with
    | _ n_ ih_12 =>
    intro c hc gg hm_12
    refine aw_iload_n d_Si_lowsWithin_12 rfl rfl ?_
    refine aw_sipush d_Si_lowsWithin_13 ⟨by decide, by decide⟩ (by decide) ?_
    refine aw_icmp_ge (tgt := 49) d_Si_lowsWithin_16 (by decide) (fun c_16 => ?_) (fun c_16 => ?_)
    · skip
      refine aw_iconst d_Si_lowsWithin_49 ⟨by decide, by decide⟩ ?_
      exact aw_zret d_Si_lowsWithin_50 rfl ⟨by decide, by decide⟩ (hP _ (Or.inr rfl) ⟨fun _ j x y => gg j x (by omega), fun _ => rfl⟩)
    · skip
      refine aw_aload_n d_Si_lowsWithin_19 rfl rfl ?_
      refine aw_aload_n d_Si_lowsWithin_20 rfl rfl ?_
      refine aw_iload_n d_Si_lowsWithin_21 rfl rfl ?_
      refine ax_ialde (x := I f c) d_Si_lowsWithin_22 Zf.1 (by omega) (by omega) (rfl) ?_
      refine ax_V (st := []) (as := [vi (I f c)]) (b := 34) (v := some (vi (dLow 261888 (I f c)))) (h' := sD h I L) d_Si_lowsWithin_23 cs_Si_lowsWithin_23 (k_34 S) (by have z := c_Pa_low (l := l) (G := G) (L := L) (I := I) (p := 34) (r := I f c) (k_34 S) (by rw [pc_34_5 SD.2.1]; decide) (qf c hc.1 (by omega)); rw [pc_34_5 SD.2.1] at z; exact z) rfl rfl rfl ?_
      show AW l G M_Si_lowsWithin P 26 [(3, vi c), (2, vi 261692), (1, vr 34), (0, vr f)] [vi (dLow 261888 (I f c))] (sD h I L)
      refine aw_istore (lv' := [(4, vi (dLow 261888 (I f c))), (3, vi c), (2, vi 261692), (1, vr 34), (0, vr f)]) d_Si_lowsWithin_26 (by decide) rfl ?_
      refine aw_iload d_Si_lowsWithin_28 rfl ?_
      refine aw_iload_n d_Si_lowsWithin_30 rfl rfl ?_
      refine aw_icmp_ge (tgt := 41) d_Si_lowsWithin_31 (by decide) (fun c_31 => ?_) (fun c_31 => ?_)
      · skip
        refine aw_iconst d_Si_lowsWithin_41 ⟨by decide, by decide⟩ ?_
        exact aw_zret d_Si_lowsWithin_42 rfl ⟨by decide, by decide⟩ (hP _ (Or.inl rfl) ⟨fun z => absurd z (by decide), fun z => by have := z c hc.1 (by omega); omega⟩)
      · skip
        refine aw_iload d_Si_lowsWithin_34 rfl ?_
        refine aw_iload_n d_Si_lowsWithin_36 rfl rfl ?_
        refine ax_ineg d_Si_lowsWithin_37 (by omega) (by omega) ?_
        refine aw_icmp_gt (tgt := 43) d_Si_lowsWithin_38 (by decide) (fun c_38 => ?_) (fun c_38 => ?_)
        · skip
          refine ax_iinc (lv' := [(3, vi (c + 1)), (4, vi (dLow 261888 (I f c))), (2, vi 261692), (1, vr 34), (0, vr f)]) d_Si_lowsWithin_43 rfl (by decide) ⟨(by omega), (by omega)⟩ rfl ?_
          refine aw_goto (tgt := 12) d_Si_lowsWithin_46 (by decide) ?_
          refine aw_sub (lv' := [(3, vi (c + 1)), (2, vi 261692), (1, vr 34), (0, vr f)]) (by simp) ?_
          exact ih_12 _ (by omega) (c + 1) (by omega) (fun j a b => by by_cases z : j = c; exact (by rw [z]; omega); exact gg j a (by omega)) rfl
        · skip
          refine aw_iconst d_Si_lowsWithin_41 ⟨by decide, by decide⟩ ?_
          exact aw_zret d_Si_lowsWithin_42 rfl ⟨by decide, by decide⟩ (hP _ (Or.inl rfl) ⟨fun z => absurd z (by decide), fun z => by have := z c hc.1 (by omega); omega⟩)
  refine aw_sub (lv' := [(3, vi 0), (2, vi 261692), (1, vr 34), (0, vr f)]) (by simp) ?_
  exact lp_12 _ 0 (by omega) (fun j a b => by omega) rfl
set_option maxHeartbeats 800000 in
set_option maxRecDepth 100000 in
theorem c_Si_lowsHide1 {l : Launch} {G : a_G} {h : Hp} {I L : Nat → Int → Int} {B : Int → Int} {V W : Int → Int → Int} (S : Shp h) (SD : Std I L) (hB : eqQ (I 135) B) (qB : inQ B) (hW : ∀ m, 0 ≤ m → m < 6 → eqQ (I (127 + m.toNat)) (W m)) (qW : ∀ m, 0 ≤ m → m < 6 → inQ (W m)) (hV : ∀ m, 0 ≤ m → m < 6 → eqQ (I (110 + m.toNat)) (V m)) (qV : ∀ m, 0 ≤ m → m < 6 → inQ (V m)) : AW l G M_Si_lowsHide (Ret (fun u : Int × (Nat → Int → Int) => some (vi u.1)) (fun u => sD h u.2 L) (fun u => FC (fun a => a = 136 ∨ 127 ≤ a ∧ a ≤ 134) I L u.2 L ∧ ((u.1 = 1 ∧ (∀ m, 0 ≤ m → m < 6 → loN 261888 261692 (fun j => (W m j - prB B (V m) j) % 8380417)) ∧ ∀ m, 0 ≤ m → m < 6 → eqQ (u.2 (127 + m.toNat)) (fun j => (W m j - prB B (V m) j) % 8380417)) ∨ (u.1 = 0 ∧ ¬ ∀ m, 0 ≤ m → m < 6 → loN 261888 261692 (fun j => (W m j - prB B (V m) j) % 8380417))))) 0 (a_ar 0 [vr 146, vr 34]) [] (sD h I L) := by
  suffices key : ∀ P : a_R → Hp → Prop, (∀ (v_ : Int) (K_ : Nat → Int → Int), FC (fun a => a = 136 ∨ 127 ≤ a ∧ a ≤ 134) I L K_ L ∧ ((v_ = 1 ∧ (∀ m, 0 ≤ m → m < 6 → loN 261888 261692 (fun j => (W m j - prB B (V m) j) % 8380417)) ∧ ∀ m, 0 ≤ m → m < 6 → eqQ (K_ (127 + m.toNat)) (fun j => (W m j - prB B (V m) j) % 8380417)) ∨ (v_ = 0 ∧ ¬ ∀ m, 0 ≤ m → m < 6 → loN 261888 261692 (fun j => (W m j - prB B (V m) j) % 8380417))) → P (.inl (some (vi v_))) (sD h K_ L)) → AW l G M_Si_lowsHide P 0 [(0, vr 146), (1, vr 34)] [] (sD h I L) from key _ (fun v K q => ⟨(v, K), rfl, rfl, q⟩)
  intro P hP
  refine aw_iconst d_Si_lowsHide_0 ⟨by decide, by decide⟩ ?_
  refine aw_istore_n (lv' := [(2, vi 0), (0, vr 146), (1, vr 34)]) d_Si_lowsHide_1 rfl (by decide) rfl ?_
  have lp_2 : ∀ (n_ : Nat) (i : Int) (K : Nat → Int → Int), (0 ≤ i ∧ i ≤ 6) → (FC (fun a => a = 136 ∨ 127 ≤ a ∧ a ≤ 134) I L K L) → (∀ m, 0 ≤ m → m < i → loN 261888 261692 (fun j => (W m j - prB B (V m) j) % 8380417)) → (∀ m, 0 ≤ m → m < i → eqQ (K (127 + m.toNat)) (fun j => (W m j - prB B (V m) j) % 8380417)) → (∀ m, 0 ≤ m → i ≤ m → m < 6 → eqQ (K (127 + m.toNat)) (W m)) → ((6 - i).toNat) = n_ → AW l G M_Si_lowsHide P 2 [(2, vi i), (1, vr 34), (0, vr 146)] [] (sD h K L) := by
    intro n_
    induction n_ using Nat.strongRecOn with
    | _ n_ ih_2 =>
    intro i K hi F okk gg un hm_2
    refine aw_iload_n d_Si_lowsHide_2 rfl rfl ?_
    refine aw_aload_n d_Si_lowsHide_3 rfl rfl ?_
    refine ax_getIe (x := 6) d_Si_lowsHide_4 fd_Si_120 (k_34 S) (Eq.trans (F.1 34 0 (by omega)) (pc_34_0 SD.2.1)) ?_
    refine aw_icmp_ge (tgt := 69) d_Si_lowsHide_7 (by decide) (fun c_7 => ?_) (fun c_7 => ?_)
    · skip
      refine aw_iconst d_Si_lowsHide_69 ⟨by decide, by decide⟩ ?_
      exact aw_zret d_Si_lowsHide_70 rfl ⟨by decide, by decide⟩ (hP _ K ⟨F, Or.inl ⟨rfl, fun m a b => okk m a (by omega), fun m a b => gg m a (by omega)⟩⟩)
    · skip
      refine aw_aload_n d_Si_lowsHide_10 rfl rfl ?_
      refine ax_getR (b := 36) d_Si_lowsHide_11 fd_Si_38 (k_146 S) (r_146_0 S) ?_
      refine aw_aload_n d_Si_lowsHide_14 rfl rfl ?_
      refine ax_getR (b := 36) d_Si_lowsHide_15 fd_Si_38 (k_146 S) (r_146_0 S) ?_
      refine ax_getR (b := 109) d_Si_lowsHide_18 fd_Si_123 (k_36 S) (r_36_5 S) ?_
      refine aw_iload_n d_Si_lowsHide_21 rfl rfl ?_
      refine ax_aald (b := 110 + i.toNat) d_Si_lowsHide_22 ⟨by rw [(k_109 S)]; decide, by rw [(k_109 S)]; decide⟩ (by omega) (by rw [n_109 S]; omega) (g_109 S (by omega) (by omega)) ?_
      refine ax_Vr (st := []) (as := [vr (110 + i.toNat)]) (b := 36) d_Si_lowsHide_23 cs_Si_lowsHide_23 (k_36 S) (c_Be_multiplyBall S (SD.fc F (by intro a x; omega)) ⟨kr_109 S (by omega), by omega, nr_109 S (by omega)⟩ (fun j x y => by rw [F.1 _ _ (by omega), hB j x y]; exact qB j x y) (fun j x y => by rw [F.1 _ _ (by omega), hV i hi.1 (by omega) j x y]; exact qV i hi.1 (by omega) j x y)) rfl rfl rfl (fun u_23 q_23 => ?_)
      obtain ⟨q1_, q2_⟩ := q_23
      have pr_ : eqQ (u_23 136) (prB B (V i)) := fun j x y => (q2_ j x y).trans (prB_eq (fun z s t => (F.1 _ _ (by omega)).trans (hB z s t)) (fun z s t => (F.1 _ _ (by omega)).trans (hV i hi.1 (by omega) z s t)) j x y)
      have Fa : FC (fun a => a = 136 ∨ 127 ≤ a ∧ a ≤ 134) I L u_23 L := F.tr q1_ (by intro a x; omega)
      show AW l G M_Si_lowsHide P 26 [(2, vi i), (1, vr 34), (0, vr 146)] [] (sD h u_23 L)
      refine aw_aload_n d_Si_lowsHide_26 rfl rfl ?_
      refine ax_getR (b := 36) d_Si_lowsHide_27 fd_Si_38 (k_146 S) (r_146_0 S) ?_
      refine ax_getR (b := 126) d_Si_lowsHide_30 fd_Si_188 (k_36 S) (r_36_7 S) ?_
      refine aw_iload_n d_Si_lowsHide_33 rfl rfl ?_
      refine ax_aald (b := 127 + i.toNat) d_Si_lowsHide_34 ⟨by rw [(k_126 S)]; decide, by rw [(k_126 S)]; decide⟩ (by omega) (by rw [n_126 S]; omega) (g_126 S (by omega) (by omega)) ?_
      refine aw_aload_n d_Si_lowsHide_35 rfl rfl ?_
      refine ax_getR (b := 36) d_Si_lowsHide_36 fd_Si_38 (k_146 S) (r_146_0 S) ?_
      refine ax_getR (b := 136) d_Si_lowsHide_39 fd_Si_194 (k_36 S) (r_36_9 S) ?_
      refine ax_S (st := []) (as := [vr (127 + i.toNat), vr 136]) (v := none) (h' := sD h (rowTo u_23 (127 + i.toNat) 256 (fun j => (u_23 (127 + i.toNat) j - u_23 136 j) % 8380417)) L) d_Si_lowsHide_42 cs_Si_lowsHide_42 (c_Ri_takeFrom ⟨kr_126 S (by omega), by omega, nr_126 S (by omega)⟩ ⟨k_136 S, by decide, n_136 S⟩ (fun j x y => by rw [q1_.1 _ _ (by omega), un i hi.1 (Int.le_refl _) (by omega) j x y]; exact qW i hi.1 (by omega) j x y) (fun j x y => by rw [pr_ j x y]; exact prB_in j x y)) rfl rfl rfl ?_
      show AW l G M_Si_lowsHide P 45 [(2, vi i), (1, vr 34), (0, vr 146)] [] (sD h (rowTo u_23 (127 + i.toNat) 256 (fun j => (u_23 (127 + i.toNat) j - u_23 136 j) % 8380417)) L)
      have zi : eqQ ((rowTo u_23 (127 + i.toNat) 256 (fun j => (u_23 (127 + i.toNat) j - u_23 136 j) % 8380417)) (127 + i.toNat)) (fun j => (W i j - prB B (V i) j) % 8380417) := fun j x y => by rw [rowTo_in x y, pr_ j x y, q1_.1 _ _ (by omega), un i hi.1 (Int.le_refl _) (by omega) j x y]
      have Fb : FC (fun a => a = 136 ∨ 127 ≤ a ∧ a ≤ 134) I L (rowTo u_23 (127 + i.toNat) 256 (fun j => (u_23 (127 + i.toNat) j - u_23 136 j) % 8380417)) L := Fa.tr (FC.row (p := fun a => a = 136 ∨ 127 ≤ a ∧ a ≤ 134) (by omega)) (fun a x => ⟨x, x⟩)
      refine aw_aload_n d_Si_lowsHide_45 rfl rfl ?_
      refine ax_getR (b := 36) d_Si_lowsHide_46 fd_Si_38 (k_146 S) (r_146_0 S) ?_
      refine ax_getR (b := 126) d_Si_lowsHide_49 fd_Si_188 (k_36 S) (r_36_7 S) ?_
      refine aw_iload_n d_Si_lowsHide_52 rfl rfl ?_
      refine ax_aald (b := 127 + i.toNat) d_Si_lowsHide_53 ⟨by rw [(k_126 S)]; decide, by rw [(k_126 S)]; decide⟩ (by omega) (by rw [n_126 S]; omega) (g_126 S (by omega) (by omega)) ?_
      refine aw_aload_n d_Si_lowsHide_54 rfl rfl ?_
      refine ax_Sr (st := []) (as := [vr (127 + i.toNat), vr 34]) d_Si_lowsHide_55 cs_Si_lowsHide_55 (c_Si_lowsWithin1 S (SD.fc Fb (by intro a x; omega)) ⟨kr_126 S (by omega), by omega, nr_126 S (by omega)⟩ (fun j x y => by rw [zi j x y]; show 0 ≤ _ % 8380417 ∧ _ % 8380417 < 8380417; exact ⟨Int.emod_nonneg _ (by decide), Int.emod_lt_of_pos _ (by decide)⟩)) rfl rfl rfl (fun u_55 q_55 => ?_)
      obtain ⟨wo, wi⟩ := q_55
      have wi := wi.trans (loN_eq zi)
      show AW l G M_Si_lowsHide P 58 [(2, vi i), (1, vr 34), (0, vr 146)] [vi u_55] (sD h (rowTo u_23 (127 + i.toNat) 256 (fun j => (u_23 (127 + i.toNat) j - u_23 136 j) % 8380417)) L)
      refine aw_if_ne (tgt := 63) d_Si_lowsHide_58 (by decide) (fun c_58 => ?_) (fun c_58 => ?_)
      · skip
        refine ax_iinc (lv' := [(2, vi (i + 1)), (1, vr 34), (0, vr 146)]) d_Si_lowsHide_63 rfl (by decide) ⟨(by omega), (by omega)⟩ rfl ?_
        refine aw_goto (tgt := 2) d_Si_lowsHide_66 (by decide) ?_
        exact ih_2 _ (by omega) (i + 1) (rowTo u_23 (127 + i.toNat) 256 (fun j => (u_23 (127 + i.toNat) j - u_23 136 j) % 8380417)) (by omega) (Fb) (fun m a b => by by_cases z : m = i; exact (by rw [z]; exact wi.1 (by omega)); exact okk m a (by omega)) (fun m a b j x y => by by_cases z : m = i; exact (by rw [z]; exact zi j x y); exact (by rw [rowTo_ne (by omega), q1_.1 _ _ (by omega)]; exact gg m a (by omega) j x y)) (fun m a b c j x y => by rw [rowTo_ne (by omega), q1_.1 _ _ (by omega)]; exact un m a (by omega) c j x y) rfl
      · skip
        refine aw_iconst d_Si_lowsHide_61 ⟨by decide, by decide⟩ ?_
        exact aw_zret d_Si_lowsHide_62 rfl ⟨by decide, by decide⟩ (hP _ _ ⟨Fb, Or.inr ⟨rfl, fun z => by have := wi.2 (z i hi.1 (by omega)); omega⟩⟩)
  skip
  refine aw_sub (lv' := [(2, vi 0), (1, vr 34), (0, vr 146)]) (by simp) ?_
  exact lp_2 _ 0 I (by omega) (FC.rfl') (fun m a b => by omega) (fun m a b => by omega) (fun m a b c => hW m a c) rfl
set_option maxHeartbeats 800000 in
set_option maxRecDepth 100000 in
theorem c_Si_addHints1 {l : Launch} {G : a_G} {h : Hp} {I L : Nat → Int → Int} {f : Nat} {fl : Nat → Bool} {i : Nat} (S : Shp h) (SD : Std I L) (Zf : RwO h f) (hf2 : f ≠ 166 ∧ f ≠ 167) (qf : inQ (I f)) (q136 : inQ (I 136)) (hfl_ : ∀ j : Nat, j < 256 → (fl (256 * i + j) = true ↔ ¬ dHigh 261888 ((I f j + I 136 j) % 8380417) = dHigh 261888 (I f j))) (H0 : HB I 166 167 (hIt fl (256 * i + (0 : Int).toNat)).1 (hIt fl (256 * i + (0 : Int).toNat)).2) (hw0 : (hIt fl (256 * i + (0 : Int).toNat)).1 ≤ 55) : AW l G M_Si_addHints (Ret (fun u : Int × (Nat → Int → Int) => some (vi u.1)) (fun u => sD h u.2 L) (fun u => FC (fun a => a = 166 ∨ a = 167) I L u.2 L ∧ ((u.1 = 1 ∧ (hIt fl (256 * i + 256)).1 ≤ 55 ∧ HB u.2 166 167 (hIt fl (256 * i + 256)).1 (hIt fl (256 * i + 256)).2) ∨ (u.1 = 0 ∧ 55 < (hIt fl (256 * i + 256)).1)))) 0 (a_ar 0 [vr 146, vr f, vr 34]) [] (sD h I L) := by
  suffices key : ∀ P : a_R → Hp → Prop, (∀ (v_ : Int) (K_ : Nat → Int → Int), FC (fun a => a = 166 ∨ a = 167) I L K_ L ∧ ((v_ = 1 ∧ (hIt fl (256 * i + 256)).1 ≤ 55 ∧ HB K_ 166 167 (hIt fl (256 * i + 256)).1 (hIt fl (256 * i + 256)).2) ∨ (v_ = 0 ∧ 55 < (hIt fl (256 * i + 256)).1)) → P (.inl (some (vi v_))) (sD h K_ L)) → AW l G M_Si_addHints P 0 [(0, vr 146), (1, vr f), (2, vr 34)] [] (sD h I L) from key _ (fun v K q => ⟨(v, K), rfl, rfl, q⟩)
  intro P hP
  refine aw_iconst d_Si_addHints_0 ⟨by decide, by decide⟩ ?_
  refine aw_istore_n (lv' := [(3, vi 0), (0, vr 146), (1, vr f), (2, vr 34)]) d_Si_addHints_1 rfl (by decide) rfl ?_
  have lp_2 : ∀ (n_ : Nat) (c : Int) (K : Nat → Int → Int), (0 ≤ c ∧ c ≤ 256) → (FC (fun a => a = 166 ∨ a = 167) I L K L) → (HB K 166 167 (hIt fl (256 * i + c.toNat)).1 (hIt fl (256 * i + c.toNat)).2) → ((hIt fl (256 * i + c.toNat)).1 ≤ 55) → ((256 - c).toNat) = n_ → AW l G M_Si_addHints P 2 [(3, vi c), (2, vr 34), (1, vr f), (0, vr 146)] [] (sD h K L) := by
    intro n_
    induction n_ using Nat.strongRecOn with
    | _ n_ ih_2 =>
    intro c K hc F H hw hm_2
    have gp : K 34 5 = 261888 := (F.1 34 5 (by omega)).trans (pc_34_5 SD.2.1)
    refine aw_iload_n d_Si_addHints_2 rfl rfl ?_
    refine aw_sipush d_Si_addHints_3 ⟨by decide, by decide⟩ (by decide) ?_
    refine aw_icmp_ge (tgt := 68) d_Si_addHints_6 (by decide) (fun c_6 => ?_) (fun c_6 => ?_)
    · skip
      refine aw_iconst d_Si_addHints_68 ⟨by decide, by decide⟩ ?_
      exact aw_zret d_Si_addHints_69 rfl ⟨by decide, by decide⟩ (hP _ K ⟨F, Or.inl ⟨rfl, by rw [show 256 * i + 256 = (256 * i + c.toNat) by omega]; exact hw, by rw [show 256 * i + 256 = (256 * i + c.toNat) by omega]; exact H⟩⟩)
    · skip
      refine aw_aload_n d_Si_addHints_9 rfl rfl ?_
      refine aw_aload_n d_Si_addHints_10 rfl rfl ?_
      refine aw_iload_n d_Si_addHints_11 rfl rfl ?_
      refine ax_ialde (x := I f c) d_Si_addHints_12 Zf.1 (by omega) (by omega) (Eq.trans (F.1 f c (by omega)) (rfl)) ?_
      refine aw_aload_n d_Si_addHints_13 rfl rfl ?_
      refine ax_getR (b := 36) d_Si_addHints_14 fd_Si_38 (k_146 S) (r_146_0 S) ?_
      refine ax_getR (b := 136) d_Si_addHints_17 fd_Si_194 (k_36 S) (r_36_9 S) ?_
      refine aw_iload_n d_Si_addHints_20 rfl rfl ?_
      refine ax_ialde (x := I 136 c) d_Si_addHints_21 (k_136 S) (by omega) (by rw [n_136 S]; omega) (Eq.trans (F.1 136 c (by omega)) (rfl)) ?_
      refine ax_S (st := [vr 34]) (as := [vi (I f c), vi (I 136 c)]) (v := some (vi ((I f c + I 136 c) % 8380417))) (h' := sD h K L) d_Si_addHints_22 cs_Si_addHints_22 (c_Ri_plus (z := (I f c + I 136 c) % 8380417) (by have := qf c hc.1 (by omega); have := q136 c hc.1 (by omega); omega) rfl) rfl rfl rfl ?_
      show AW l G M_Si_addHints P 25 [(3, vi c), (2, vr 34), (1, vr f), (0, vr 146)] [vi ((I f c + I 136 c) % 8380417), vr 34] (sD h K L)
      refine ax_V (st := []) (as := [vi ((I f c + I 136 c) % 8380417)]) (b := 34) (v := some (vi (dHigh 261888 ((I f c + I 136 c) % 8380417)))) (h' := sD h K L) d_Si_addHints_25 cs_Si_addHints_25 (k_34 S) (by have z := c_Pa_high (l := l) (G := G) (L := L) (I := K) (p := 34) (r := (I f c + I 136 c) % 8380417) (k_34 S) (by rw [gp]; decide) (by omega); rw [gp] at z; exact z) rfl rfl rfl ?_
      show AW l G M_Si_addHints P 28 [(3, vi c), (2, vr 34), (1, vr f), (0, vr 146)] [vi (dHigh 261888 ((I f c + I 136 c) % 8380417))] (sD h K L)
      refine aw_aload_n d_Si_addHints_28 rfl rfl ?_
      refine aw_aload_n d_Si_addHints_29 rfl rfl ?_
      refine aw_iload_n d_Si_addHints_30 rfl rfl ?_
      refine ax_ialde (x := I f c) d_Si_addHints_31 Zf.1 (by omega) (by omega) (Eq.trans (F.1 f c (by omega)) (rfl)) ?_
      refine ax_V (st := [vi (dHigh 261888 ((I f c + I 136 c) % 8380417))]) (as := [vi (I f c)]) (b := 34) (v := some (vi (dHigh 261888 (I f c)))) (h' := sD h K L) d_Si_addHints_32 cs_Si_addHints_32 (k_34 S) (by have z := c_Pa_high (l := l) (G := G) (L := L) (I := K) (p := 34) (r := I f c) (k_34 S) (by rw [gp]; decide) (qf c hc.1 (by omega)); rw [gp] at z; exact z) rfl rfl rfl ?_
      show AW l G M_Si_addHints P 35 [(3, vi c), (2, vr 34), (1, vr f), (0, vr 146)] [vi (dHigh 261888 (I f c)), vi (dHigh 261888 ((I f c + I 136 c) % 8380417))] (sD h K L)
      refine aw_icmp_eq (tgt := 62) d_Si_addHints_35 (by decide) (fun c_35 => ?_) (fun c_35 => ?_)
      · skip
        have hf_ := hfl_ c.toNat (by omega)
        rw [Int.toNat_of_nonneg hc.1] at hf_
        have eN : 256 * i + (c + 1).toNat = (256 * i + c.toNat) + 1 := by omega
        have fn : ¬ fl (256 * i + c.toNat) = true := fun z => hf_.1 z c_35
        refine ax_iinc (lv' := [(3, vi (c + 1)), (2, vr 34), (1, vr f), (0, vr 146)]) d_Si_addHints_62 rfl (by decide) ⟨(by omega), (by omega)⟩ rfl ?_
        refine aw_goto (tgt := 2) d_Si_addHints_65 (by decide) ?_
        exact ih_2 _ (by omega) (c + 1) K (by omega) (F) (by rw [eN, hIt_n fn]; exact H) (by rw [eN, hIt_n fn]; exact hw) rfl
      · skip
        have hf_ := hfl_ c.toNat (by omega)
        rw [Int.toNat_of_nonneg hc.1] at hf_
        have eN : 256 * i + (c + 1).toNat = (256 * i + c.toNat) + 1 := by omega
        have fy := hf_.2 c_35
        refine aw_aload_n d_Si_addHints_38 rfl rfl ?_
        refine ax_getR (b := 166) d_Si_addHints_39 fd_Si_32 (k_146 S) (r_146_4 S) ?_
        refine ax_getIe (x := (hIt fl (256 * i + c.toNat)).1) d_Si_addHints_42 fd_Si_246 (k_166 S) (H.1) ?_
        refine aw_aload_n d_Si_addHints_45 rfl rfl ?_
        refine ax_getIe (x := 55) d_Si_addHints_46 fd_Si_256 (k_34 S) (Eq.trans (F.1 34 6 (by omega)) (pc_34_6 SD.2.1)) ?_
        refine aw_icmp_lt (tgt := 54) d_Si_addHints_49 (by decide) (fun c_49 => ?_) (fun c_49 => ?_)
        · skip
          refine aw_aload_n d_Si_addHints_54 rfl rfl ?_
          refine ax_getR (b := 166) d_Si_addHints_55 fd_Si_32 (k_146 S) (r_146_4 S) ?_
          refine aw_iload_n d_Si_addHints_58 rfl rfl ?_
          refine ax_V (st := []) (as := [vi c]) (b := 166) (v := none) (h' := sD h (byAdd K 166 167 c) L) d_Si_addHints_59 cs_Si_addHints_59 (k_166 S) (c_By_add (J := byAdd K 166 167 c) ⟨k_166 S, r_166_0 S, k_167 S, by decide, by decide, by decide⟩ (by rw [H.1, n_167 S]; have := hIt_0 (fl := fl) (256 * i + c.toNat); omega) rfl) rfl rfl rfl ?_
          show AW l G M_Si_addHints P 62 [(3, vi c), (2, vr 34), (1, vr f), (0, vr 146)] [] (sD h (byAdd K 166 167 c) L)
          refine ax_iinc (lv' := [(3, vi (c + 1)), (2, vr 34), (1, vr f), (0, vr 146)]) d_Si_addHints_62 rfl (by decide) ⟨(by omega), (by omega)⟩ rfl ?_
          refine aw_goto (tgt := 2) d_Si_addHints_65 (by decide) ?_
          exact ih_2 _ (by omega) (c + 1) (byAdd K 166 167 c) (by omega) (F.tr (FC.add (p := fun a => a = 166 ∨ a = 167) (by omega) (by omega)) (fun a x => ⟨x, x⟩)) (by rw [eN, hIt_y fy]; exact H.add (by decide) (hIt_0 _) (fun k k0 k1 => if_neg (by omega)) (by show (if (hIt fl (256 * i + c.toNat)).1 = (hIt fl (256 * i + c.toNat)).1 then (((256 * i + c.toNat) % 256 : Nat) : Int) else _) = _; rw [if_pos rfl]; omega)) (by rw [eN, hIt_y fy]; show (hIt fl (256 * i + c.toNat)).1 + 1 ≤ 55; omega) rfl
        · skip
          refine aw_iconst d_Si_addHints_52 ⟨by decide, by decide⟩ ?_
          exact aw_zret d_Si_addHints_53 rfl ⟨by decide, by decide⟩ (hP _ K ⟨F, Or.inr ⟨rfl, by have m1 := hIt_mono (fl := fl) (a := (256 * i + c.toNat) + 1) (b := 256 * i + 256) (by omega); rw [hIt_y fy] at m1; have m2 : (hIt fl (256 * i + c.toNat)).1 + 1 ≤ (hIt fl (256 * i + 256)).1 := m1; omega⟩⟩)
  skip
  refine aw_sub (lv' := [(3, vi 0), (2, vr 34), (1, vr f), (0, vr 146)]) (by simp) ?_
  exact lp_2 _ 0 I (by omega) (FC.rfl') (H0) (hw0) rfl
set_option maxHeartbeats 800000 in
set_option maxRecDepth 100000 in
theorem c_Si_hintsSuffice1 {l : Launch} {G : a_G} {h : Hp} {I L : Nat → Int → Int} {B : Int → Int} {V W : Int → Int → Int} {fl : Nat → Bool} (S : Shp h) (SD : Std I L) (hB : eqQ (I 135) B) (qB : inQ B) (hW : ∀ m, 0 ≤ m → m < 6 → eqQ (I (127 + m.toNat)) (W m)) (qW : ∀ m, 0 ≤ m → m < 6 → inQ (W m)) (hV : ∀ m, 0 ≤ m → m < 6 → eqQ (I (148 + m.toNat)) (V m)) (qV : ∀ m, 0 ≤ m → m < 6 → inQ (V m)) (hF : ∀ m : Nat, m < 6 → ∀ j : Nat, j < 256 → (fl (256 * m + j) = true ↔ ¬ dHigh 261888 ((W m j + prB B (V m) j) % 8380417) = dHigh 261888 (W m j))) : AW l G M_Si_hintsSuffice (Ret (fun u : Int × (Nat → Int → Int) => some (vi u.1)) (fun u => sD h u.2 L) (fun u => FC (fun a => a = 136 ∨ 166 ≤ a ∧ a ≤ 169) I L u.2 L ∧ ((u.1 = 1 ∧ ((∀ m, 0 ≤ m → m < 6 → wiN 261888 (prB B (V m))) ∧ (hIt fl 1536).1 ≤ 55) ∧ HB u.2 166 167 (hIt fl 1536).1 (hIt fl 1536).2 ∧ HB u.2 168 169 6 (fun x => (hIt fl (256 * x.toNat + 256)).1)) ∨ (u.1 = 0 ∧ ¬ ((∀ m, 0 ≤ m → m < 6 → wiN 261888 (prB B (V m))) ∧ (hIt fl 1536).1 ≤ 55))))) 0 (a_ar 0 [vr 146, vr 34]) [] (sD h I L) := by
  suffices key : ∀ P : a_R → Hp → Prop, (∀ (v_ : Int) (K_ : Nat → Int → Int), FC (fun a => a = 136 ∨ 166 ≤ a ∧ a ≤ 169) I L K_ L ∧ ((v_ = 1 ∧ ((∀ m, 0 ≤ m → m < 6 → wiN 261888 (prB B (V m))) ∧ (hIt fl 1536).1 ≤ 55) ∧ HB K_ 166 167 (hIt fl 1536).1 (hIt fl 1536).2 ∧ HB K_ 168 169 6 (fun x => (hIt fl (256 * x.toNat + 256)).1)) ∨ (v_ = 0 ∧ ¬ ((∀ m, 0 ≤ m → m < 6 → wiN 261888 (prB B (V m))) ∧ (hIt fl 1536).1 ≤ 55))) → P (.inl (some (vi v_))) (sD h K_ L)) → AW l G M_Si_hintsSuffice P 0 [(0, vr 146), (1, vr 34)] [] (sD h I L) from key _ (fun v K q => ⟨(v, K), rfl, rfl, q⟩)
  intro P hP
  refine aw_aload_n d_Si_hintsSuffice_0 rfl rfl ?_
  refine ax_getR (b := 166) d_Si_hintsSuffice_1 fd_Si_32 (k_146 S) (r_146_4 S) ?_
  refine ax_V (st := []) (as := []) (b := 166) (v := none) (h' := sD h (a_up I 166 1 0) L) d_Si_hintsSuffice_4 cs_Si_hintsSuffice_4 (k_166 S) (c_By_clear ⟨k_166 S, r_166_0 S, k_167 S, by decide, by decide, by decide⟩) rfl rfl rfl ?_
  show AW l G M_Si_hintsSuffice P 7 [(0, vr 146), (1, vr 34)] [] (sD h (a_up I 166 1 0) L)
  refine aw_aload_n d_Si_hintsSuffice_7 rfl rfl ?_
  refine ax_getR (b := 168) d_Si_hintsSuffice_8 fd_Si_35 (k_146 S) (r_146_5 S) ?_
  refine ax_V (st := []) (as := []) (b := 168) (v := none) (h' := sD h (a_up (a_up I 166 1 0) 168 1 0) L) d_Si_hintsSuffice_11 cs_Si_hintsSuffice_11 (k_168 S) (c_By_clear ⟨k_168 S, r_168_0 S, k_169 S, by decide, by decide, by decide⟩) rfl rfl rfl ?_
  show AW l G M_Si_hintsSuffice P 14 [(0, vr 146), (1, vr 34)] [] (sD h (a_up (a_up I 166 1 0) 168 1 0) L)
  refine aw_iconst d_Si_hintsSuffice_14 ⟨by decide, by decide⟩ ?_
  refine aw_istore_n (lv' := [(2, vi 0), (0, vr 146), (1, vr 34)]) d_Si_hintsSuffice_15 rfl (by decide) rfl ?_
  have lp_16 : ∀ (n_ : Nat) (i : Int) (K : Nat → Int → Int), (0 ≤ i ∧ i ≤ 6) → (FC (fun a => a = 136 ∨ 166 ≤ a ∧ a ≤ 169) I L K L) → ((∀ m, 0 ≤ m → m < i → wiN 261888 (prB B (V m)))) → (HB K 166 167 (hIt fl (256 * i.toNat)).1 (hIt fl (256 * i.toNat)).2) → ((hIt fl (256 * i.toNat)).1 ≤ 55) → (HB K 168 169 i (fun x => (hIt fl (256 * x.toNat + 256)).1)) → ((6 - i).toNat) = n_ → AW l G M_Si_hintsSuffice P 16 [(2, vi i), (1, vr 34), (0, vr 146)] [] (sD h K L) := by
    intro n_
    induction n_ using Nat.strongRecOn with
    | _ n_ ih_16 =>
    intro i K hi F okk H hw E hm_16
    refine aw_iload_n d_Si_hintsSuffice_16 rfl rfl ?_
    refine aw_aload_n d_Si_hintsSuffice_17 rfl rfl ?_
    refine ax_getIe (x := 6) d_Si_hintsSuffice_18 fd_Si_120 (k_34 S) (Eq.trans (F.1 34 0 (by omega)) (pc_34_0 SD.2.1)) ?_
    refine aw_icmp_ge (tgt := 93) d_Si_hintsSuffice_21 (by decide) (fun c_21 => ?_) (fun c_21 => ?_)
    · skip
      refine aw_iconst d_Si_hintsSuffice_93 ⟨by decide, by decide⟩ ?_
      exact aw_zret d_Si_hintsSuffice_94 rfl ⟨by decide, by decide⟩ (hP _ K ⟨F, Or.inl ⟨rfl, ⟨fun m a b => okk m a (by omega), by rw [show (1536 : Nat) = 256 * i.toNat by omega]; exact hw⟩, by rw [show (1536 : Nat) = 256 * i.toNat by omega]; exact H, by rw [show (6 : Int) = i by omega]; exact E⟩⟩)
    · skip
      refine aw_aload_n d_Si_hintsSuffice_24 rfl rfl ?_
      refine ax_getR (b := 36) d_Si_hintsSuffice_25 fd_Si_38 (k_146 S) (r_146_0 S) ?_
      refine aw_aload_n d_Si_hintsSuffice_28 rfl rfl ?_
      refine ax_getR (b := 147) d_Si_hintsSuffice_29 fd_Si_15 (k_146 S) (r_146_1 S) ?_
      refine aw_iload_n d_Si_hintsSuffice_32 rfl rfl ?_
      refine ax_aald (b := 148 + i.toNat) d_Si_hintsSuffice_33 ⟨by rw [(k_147 S)]; decide, by rw [(k_147 S)]; decide⟩ (by omega) (by rw [n_147 S]; omega) (g_147 S (by omega) (by omega)) ?_
      refine ax_Vr (st := []) (as := [vr (148 + i.toNat)]) (b := 36) d_Si_hintsSuffice_34 cs_Si_hintsSuffice_34 (k_36 S) (c_Be_multiplyBall S (SD.fc F (by intro a x; omega)) ⟨kr_147 S (by omega), by omega, nr_147 S (by omega)⟩ (fun j x y => by rw [F.1 _ _ (by omega), hB j x y]; exact qB j x y) (fun j x y => by rw [F.1 _ _ (by omega), hV i hi.1 (by omega) j x y]; exact qV i hi.1 (by omega) j x y)) rfl rfl rfl (fun u_34 q_34 => ?_)
      obtain ⟨q1_, q2_⟩ := q_34
      have pr_ : eqQ (u_34 136) (prB B (V i)) := fun j x y => (q2_ j x y).trans (prB_eq (fun z s t => (F.1 _ _ (by omega)).trans (hB z s t)) (fun z s t => (F.1 _ _ (by omega)).trans (hV i hi.1 (by omega) z s t)) j x y)
      have Fa : FC (fun a => a = 136 ∨ 166 ≤ a ∧ a ≤ 169) I L u_34 L := F.tr q1_ (by intro a x; omega)
      show AW l G M_Si_hintsSuffice P 37 [(2, vi i), (1, vr 34), (0, vr 146)] [] (sD h u_34 L)
      refine aw_aload_n d_Si_hintsSuffice_37 rfl rfl ?_
      refine ax_getR (b := 36) d_Si_hintsSuffice_38 fd_Si_38 (k_146 S) (r_146_0 S) ?_
      refine ax_getR (b := 136) d_Si_hintsSuffice_41 fd_Si_194 (k_36 S) (r_36_9 S) ?_
      refine aw_aload_n d_Si_hintsSuffice_44 rfl rfl ?_
      refine ax_getIe (x := 261888) d_Si_hintsSuffice_45 fd_Si_237 (k_34 S) (Eq.trans (Fa.1 34 5 (by omega)) (pc_34_5 SD.2.1)) ?_
      refine ax_Sr (st := []) (as := [vr 136, vi 261888]) d_Si_hintsSuffice_48 cs_Si_hintsSuffice_48 (c_Ri_within ⟨k_136 S, by decide, n_136 S⟩ (by decide)) rfl rfl rfl (fun u_48 q_48 => ?_)
      obtain ⟨wo, wi⟩ := q_48
      have wi := wi.trans (wiN_eq pr_)
      show AW l G M_Si_hintsSuffice P 51 [(2, vi i), (1, vr 34), (0, vr 146)] [vi u_48] (sD h u_34 L)
      refine aw_if_eq (tgt := 71) d_Si_hintsSuffice_51 (by decide) (fun c_51 => ?_) (fun c_51 => ?_)
      · skip
        refine aw_iconst d_Si_hintsSuffice_71 ⟨by decide, by decide⟩ ?_
        exact aw_zret d_Si_hintsSuffice_72 rfl ⟨by decide, by decide⟩ (hP _ _ ⟨Fa, Or.inr ⟨rfl, fun z => by have := wi.2 (z.1 i hi.1 (by omega)); omega⟩⟩)
      · skip
        refine aw_aload_n d_Si_hintsSuffice_54 rfl rfl ?_
        refine aw_aload_n d_Si_hintsSuffice_55 rfl rfl ?_
        refine ax_getR (b := 36) d_Si_hintsSuffice_56 fd_Si_38 (k_146 S) (r_146_0 S) ?_
        refine ax_getR (b := 126) d_Si_hintsSuffice_59 fd_Si_188 (k_36 S) (r_36_7 S) ?_
        refine aw_iload_n d_Si_hintsSuffice_62 rfl rfl ?_
        refine ax_aald (b := 127 + i.toNat) d_Si_hintsSuffice_63 ⟨by rw [(k_126 S)]; decide, by rw [(k_126 S)]; decide⟩ (by omega) (by rw [n_126 S]; omega) (g_126 S (by omega) (by omega)) ?_
        refine aw_aload_n d_Si_hintsSuffice_64 rfl rfl ?_
        refine ax_Vr (st := []) (as := [vr (127 + i.toNat), vr 34]) (b := 146) d_Si_hintsSuffice_65 cs_Si_hintsSuffice_65 (k_146 S) (c_Si_addHints1 (fl := fl) (i := i.toNat) S (SD.fc Fa (by intro a x; omega)) ⟨kr_126 S (by omega), by omega, nr_126 S (by omega)⟩ (by omega) (fun j x y => by rw [Fa.1 _ _ (by omega), hW i hi.1 (by omega) j x y]; exact qW i hi.1 (by omega) j x y) (fun j x y => by rw [pr_ j x y]; exact prB_in j x y) (fun j hj => by rw [pr_ j (by omega) (by omega), Fa.1 _ _ (by omega), hW i hi.1 (by omega) j (by omega) (by omega)]; have y_ := hF i.toNat (by omega) j hj; rw [Int.toNat_of_nonneg hi.1] at y_; exact y_) (by rw [show (256 * i.toNat + (0 : Int).toNat) = 256 * i.toNat from rfl]; exact H.fc q1_ (by decide) (by decide)) hw) rfl rfl rfl (fun u_65 q_65 => ?_)
        obtain ⟨v2, K2⟩ := u_65
        obtain ⟨fh, qh⟩ := q_65
        dsimp only at fh qh
        have Fb : FC (fun a => a = 136 ∨ 166 ≤ a ∧ a ≤ 169) I L K2 L := Fa.tr fh (by intro a x; omega)
        show AW l G M_Si_hintsSuffice P 68 [(2, vi i), (1, vr 34), (0, vr 146)] [vi v2] (sD h K2 L)
        refine aw_if_ne (tgt := 73) d_Si_hintsSuffice_68 (by decide) (fun c_68 => ?_) (fun c_68 => ?_)
        · skip
          have qg : _ ∧ _ ∧ _ := qh.resolve_right (fun z => by omega)
          have H2 := qg.2.2
          have E2 := (E.fc q1_ (by omega) (by omega)).fc fh (by omega) (by omega)
          refine aw_aload_n d_Si_hintsSuffice_73 rfl rfl ?_
          refine ax_getR (b := 168) d_Si_hintsSuffice_74 fd_Si_35 (k_146 S) (r_146_5 S) ?_
          refine aw_aload_n d_Si_hintsSuffice_77 rfl rfl ?_
          refine ax_getR (b := 166) d_Si_hintsSuffice_78 fd_Si_32 (k_146 S) (r_146_4 S) ?_
          refine ax_getIe (x := (hIt fl (256 * i.toNat + 256)).1) d_Si_hintsSuffice_81 fd_Si_246 (k_166 S) (H2.1) ?_
          refine ax_V (st := []) (as := [vi ((hIt fl (256 * i.toNat + 256)).1)]) (b := 168) (v := none) (h' := sD h (byAdd K2 168 169 (hIt fl (256 * i.toNat + 256)).1) L) d_Si_hintsSuffice_84 cs_Si_hintsSuffice_84 (k_168 S) (c_By_add (J := byAdd K2 168 169 (hIt fl (256 * i.toNat + 256)).1) ⟨k_168 S, r_168_0 S, k_169 S, by decide, by decide, by decide⟩ (by rw [E2.1, n_169 S]; omega) rfl) rfl rfl rfl ?_
          show AW l G M_Si_hintsSuffice P 87 [(2, vi i), (1, vr 34), (0, vr 146)] [] (sD h (byAdd K2 168 169 (hIt fl (256 * i.toNat + 256)).1) L)
          refine ax_iinc (lv' := [(2, vi (i + 1)), (1, vr 34), (0, vr 146)]) d_Si_hintsSuffice_87 rfl (by decide) ⟨(by omega), (by omega)⟩ rfl ?_
          refine aw_goto (tgt := 16) d_Si_hintsSuffice_90 (by decide) ?_
          exact ih_16 _ (by omega) (i + 1) (byAdd K2 168 169 (hIt fl (256 * i.toNat + 256)).1) (by omega) (Fb.tr (FC.add (p := fun a => a = 136 ∨ 166 ≤ a ∧ a ≤ 169) (by omega) (by omega)) (fun a x => ⟨x, x⟩)) (fun m a b => by by_cases z : m = i; exact (by rw [z]; exact wi.1 (by omega)); exact okk m a (by omega)) (by rw [show 256 * (i + 1).toNat = 256 * i.toNat + 256 by omega]; exact H2.fc (L := L) (L' := L) (FC.add (p := fun a => a = 168 ∨ a = 169) (by omega) (by omega)) (by omega) (by omega)) (by rw [show 256 * (i + 1).toNat = 256 * i.toNat + 256 by omega]; exact qg.2.1) (E2.add (by decide) hi.1 (fun k k0 k1 => rfl) (by show (hIt fl (256 * i.toNat + 256)).1 = _; have := hIt_0 (fl := fl) (256 * i.toNat + 256); have := qg.2.1; omega)) rfl
        · skip
          refine aw_iconst d_Si_hintsSuffice_71 ⟨by decide, by decide⟩ ?_
          exact aw_zret d_Si_hintsSuffice_72 rfl ⟨by decide, by decide⟩ (hP _ _ ⟨Fb, Or.inr ⟨rfl, fun z => by have z2 := z.2; have m1 := hIt_mono (fl := fl) (a := 256 * i.toNat + 256) (b := 1536) (by omega); rcases qh with y | y; exact absurd y.1 (by omega); omega⟩⟩)
  skip
  refine aw_sub (lv' := [(2, vi 0), (1, vr 34), (0, vr 146)]) (by simp) ?_
  exact lp_16 _ 0 (a_up (a_up I 166 1 0) 168 1 0) (by omega) ((FC.up (p := fun a => a = 136 ∨ 166 ≤ a ∧ a ≤ 169) (by omega)).tr (FC.up (p := fun a => a = 136 ∨ 166 ≤ a ∧ a ≤ 169) (by omega)) (fun a x => ⟨x, x⟩)) (fun m a b => by omega) (HB.zero.fc (L := L) (L' := L) (FC.up (p := fun a => a = 168) rfl) (by decide) (by decide)) (by show (0 : Int) ≤ 55; decide) (HB.zero) rfl
def pcB1 (ch : Int → Int) (Z : Int → Int → Int) (fl : Nat → Bool) (x : Int) : Int := if x < 48 then ch x else if x < 3248 then gB (fun j => (524288 - Z ((x - 48) / 640) j) % 8380417) 20 ((x - 48) % 640) else if x < 3303 then (if x - 3248 < (hIt fl 1536).1 then (hIt fl 1536).2 (x - 3248) else 0) else (hIt fl (256 * (x - 3303).toNat + 256)).1
set_option maxHeartbeats 800000 in
set_option maxRecDepth 100000 in
theorem c_Si_writePacket1 {l : Launch} {G : a_G} {h : Hp} {I L : Nat → Int → Int} {ch : Int → Int} {Z : Int → Int → Int} {fl : Nat → Bool} (S : Shp h) (SD : Std I L) (hC : HB I 139 140 48 ch) (hZ : ∀ m, 0 ≤ m → m < 5 → eqQ (I (119 + m.toNat)) (Z m)) (qZ : ∀ m, 0 ≤ m → m < 5 → inQ (Z m)) (bZ : ∀ m, 0 ≤ m → m < 5 → ∀ j, 0 ≤ j → j < 256 → 0 ≤ (524288 - Z m j) % 8380417 ∧ (524288 - Z m j) % 8380417 < 2 ^ 20) (hH : HB I 166 167 (hIt fl 1536).1 (hIt fl 1536).2) (hW : (hIt fl 1536).1 ≤ 55) (hE : HB I 168 169 6 (fun x => (hIt fl (256 * x.toNat + 256)).1)) : AW l G M_Si_writePacket (Ret (fun _ : Nat → Int → Int => none) (fun K => sD h K L) (fun K => FC (fun a => a = 24 ∨ a = 25 ∨ 119 ≤ a ∧ a ≤ 125 ∨ a = 166 ∨ a = 167) I L K L ∧ HB K 24 25 3309 (pcB1 ch Z fl))) 0 (a_ar 0 [vr 146, vr 24, vr 34]) [] (sD h I L) := by
  suffices key : ∀ P : a_R → Hp → Prop, (∀ K : Nat → Int → Int, FC (fun a => a = 24 ∨ a = 25 ∨ 119 ≤ a ∧ a ≤ 125 ∨ a = 166 ∨ a = 167) I L K L → HB K 24 25 3309 (pcB1 ch Z fl) → P (.inl none) (sD h K L)) → AW l G M_Si_writePacket P 0 [(0, vr 146), (1, vr 24), (2, vr 34)] [] (sD h I L) from key _ (fun K q1 q2 => ⟨K, rfl, rfl, q1, q2⟩)
  intro P hP
  refine aw_aload_n d_Si_writePacket_0 rfl rfl ?_
  refine ax_V (st := []) (as := []) (b := 24) (v := none) (h' := sD h (a_up I 24 1 0) L) d_Si_writePacket_1 cs_Si_writePacket_1 (k_24 S) (c_By_clear (ks S (i := 5) (by decide))) rfl rfl rfl ?_
  show AW l G M_Si_writePacket P 4 [(0, vr 146), (1, vr 24), (2, vr 34)] [] (sD h (a_up I 24 1 0) L)
  refine aw_aload_n d_Si_writePacket_4 rfl rfl ?_
  refine aw_aload_n d_Si_writePacket_5 rfl rfl ?_
  refine ax_getR (b := 36) d_Si_writePacket_6 fd_Si_38 (k_146 S) (r_146_0 S) ?_
  refine ax_getR (b := 139) d_Si_writePacket_9 fd_Si_207 (k_36 S) (r_36_11 S) ?_
  refine ax_V (st := []) (as := [vr 139]) (b := 24) (v := none) (h' := sD h (byPut (a_up I 24 1 0) 24 25 ((a_up I 24 1 0) 139 1) (byAt (a_up I 24 1 0) 139 140)) L) d_Si_writePacket_12 cs_Si_writePacket_12 (k_24 S) (c_By_addAll (ks S (i := 5) (by decide)) ⟨k_139 S, r_139_0 S, k_140 S, by decide, by decide, by decide⟩ (by decide) (by rw [a_up_at, a_up_ne (Or.inl (by decide)), hC.1, nks S (i := 5) (by decide), n_140 S]; decide)) rfl rfl rfl ?_
  show AW l G M_Si_writePacket P 15 [(0, vr 146), (1, vr 24), (2, vr 34)] [] (sD h (byPut (a_up I 24 1 0) 24 25 ((a_up I 24 1 0) 139 1) (byAt (a_up I 24 1 0) 139 140)) L)
  have H0 : HB (byPut (a_up I 24 1 0) 24 25 ((a_up I 24 1 0) 139 1) (byAt (a_up I 24 1 0) 139 140)) 24 25 (0 + 48) (pcB1 ch Z fl) := HB.addAll (b2 := 139) (r2 := 140) (g2 := ch) HB.zero (hC.fc (L := L) (L' := L) (FC.up (p := fun a => a = 24) rfl) (by decide) (by decide)) (by decide) (by decide) (by decide) (fun z x y => by unfold pcB1; rw [if_pos (by omega), Int.zero_add])
  have F0 : FC (fun a => a = 24 ∨ a = 25 ∨ 119 ≤ a ∧ a ≤ 125 ∨ a = 166 ∨ a = 167) I L (byPut (a_up I 24 1 0) 24 25 ((a_up I 24 1 0) 139 1) (byAt (a_up I 24 1 0) 139 140)) L := (FC.up (p := fun a => a = 24 ∨ a = 25 ∨ 119 ≤ a ∧ a ≤ 125 ∨ a = 166 ∨ a = 167) (by omega)).tr (FC.put (p := fun a => a = 24 ∨ a = 25 ∨ 119 ≤ a ∧ a ≤ 125 ∨ a = 166 ∨ a = 167) (by omega) (by omega)) (fun a x => ⟨x, x⟩)
  refine aw_iconst d_Si_writePacket_15 ⟨by decide, by decide⟩ ?_
  refine aw_istore_n (lv' := [(3, vi 0), (0, vr 146), (1, vr 24), (2, vr 34)]) d_Si_writePacket_16 rfl (by decide) rfl ?_
  have lp_17 : ∀ (n_ : Nat) (i : Int) (K : Nat → Int → Int), (0 ≤ i ∧ i ≤ 5) → (FC (fun a => a = 24 ∨ a = 25 ∨ 119 ≤ a ∧ a ≤ 125 ∨ a = 166 ∨ a = 167) I L K L) → (FC (fun a => a = 24 ∨ a = 25 ∨ 119 ≤ a ∧ a ≤ 125) I L K L) → (∀ m, 0 ≤ m → i ≤ m → m < 5 → eqQ (K (119 + m.toNat)) (Z m)) → (HB K 24 25 (48 + 640 * i) (pcB1 ch Z fl)) → ((5 - i).toNat) = n_ → AW l G M_Si_writePacket P 17 [(3, vi i), (2, vr 34), (1, vr 24), (0, vr 146)] [] (sD h K L) := by
    intro n_
    induction n_ using Nat.strongRecOn with
    | _ n_ ih_17 =>
    intro i K hi F F' un H hm_17
    refine aw_iload_n d_Si_writePacket_17 rfl rfl ?_
    refine aw_aload_n d_Si_writePacket_18 rfl rfl ?_
    refine ax_getIe (x := 5) d_Si_writePacket_19 fd_Si_56 (k_34 S) (Eq.trans (F.1 34 1 (by omega)) (pc_34_1 SD.2.1)) ?_
    refine aw_icmp_ge (tgt := 64) d_Si_writePacket_22 (by decide) (fun c_22 => ?_) (fun c_22 => ?_)
    · skip
      refine aw_aload_n d_Si_writePacket_64 rfl rfl ?_
      refine ax_getR (b := 166) d_Si_writePacket_65 fd_Si_32 (k_146 S) (r_146_4 S) ?_
      refine aw_aload_n d_Si_writePacket_68 rfl rfl ?_
      refine ax_getIe (x := 55) d_Si_writePacket_69 fd_Si_256 (k_34 S) (Eq.trans (F.1 34 6 (by omega)) (pc_34_6 SD.2.1)) ?_
      have hh := hH.fc F' (by omega) (by omega)
      refine ax_V (st := []) (as := [vi 55]) (b := 166) (v := none) (h' := sD h (byStretch K 166 167 55) L) d_Si_writePacket_72 cs_Si_writePacket_72 (k_166 S) (c_By_stretch ⟨k_166 S, r_166_0 S, k_167 S, by decide, by decide, by decide⟩ (by rw [hh.1, n_167 S]; have := hIt_0 (fl := fl) 1536; omega)) rfl rfl rfl ?_
      show AW l G M_Si_writePacket P 75 [(3, vi i), (2, vr 34), (1, vr 24), (0, vr 146)] [] (sD h (byStretch K 166 167 55) L)
      have hs := hh.stretch (m := 55) (by decide) hW
      have hk3 := H.fc (L := L) (L' := L) (FC.stretch (p := fun a => a = 166 ∨ a = 167) (n := 55) (b := 166) (r := 167) (by omega) (by omega)) (by omega) (by omega)
      refine aw_aload_n d_Si_writePacket_75 rfl rfl ?_
      refine aw_aload_n d_Si_writePacket_76 rfl rfl ?_
      refine ax_getR (b := 166) d_Si_writePacket_77 fd_Si_32 (k_146 S) (r_146_4 S) ?_
      refine ax_V (st := []) (as := [vr 166]) (b := 24) (v := none) (h' := sD h (byPut (byStretch K 166 167 55) 24 25 ((byStretch K 166 167 55) 166 1) (byAt (byStretch K 166 167 55) 166 167)) L) d_Si_writePacket_80 cs_Si_writePacket_80 (k_24 S) (c_By_addAll (ks S (i := 5) (by decide)) ⟨k_166 S, r_166_0 S, k_167 S, by decide, by decide, by decide⟩ (by decide) (by rw [hk3.1, hs.1, nks S (i := 5) (by decide), n_167 S]; omega)) rfl rfl rfl ?_
      show AW l G M_Si_writePacket P 83 [(3, vi i), (2, vr 34), (1, vr 24), (0, vr 146)] [] (sD h (byPut (byStretch K 166 167 55) 24 25 ((byStretch K 166 167 55) 166 1) (byAt (byStretch K 166 167 55) 166 167)) L)
      have H4 : HB (byPut (byStretch K 166 167 55) 24 25 ((byStretch K 166 167 55) 166 1) (byAt (byStretch K 166 167 55) 166 167)) 24 25 (48 + 640 * i + 55) (pcB1 ch Z fl) := HB.addAll hk3 hs (by decide) (by omega) (by decide) (fun z x y => by unfold pcB1; rw [if_neg (by omega), if_neg (by omega), if_pos (by omega), show 48 + 640 * i + z - 3248 = z by omega])
      have e4 : HB (byPut (byStretch K 166 167 55) 24 25 ((byStretch K 166 167 55) 166 1) (byAt (byStretch K 166 167 55) 166 167)) 168 169 6 _ := ((hE.fc F' (by omega) (by omega)).fc (L := L) (L' := L) (FC.stretch (p := fun a => a = 166 ∨ a = 167) (n := 55) (b := 166) (r := 167) (by omega) (by omega)) (by omega) (by omega)).fc (L := L) (L' := L) (FC.put (p := fun a => a = 24 ∨ a = 25) (b := 24) (r := 25) (by omega) (by omega)) (by omega) (by omega)
      refine aw_aload_n d_Si_writePacket_83 rfl rfl ?_
      refine aw_aload_n d_Si_writePacket_84 rfl rfl ?_
      refine ax_getR (b := 168) d_Si_writePacket_85 fd_Si_35 (k_146 S) (r_146_5 S) ?_
      refine ax_V (st := []) (as := [vr 168]) (b := 24) (v := none) (h' := sD h (byPut (byPut (byStretch K 166 167 55) 24 25 ((byStretch K 166 167 55) 166 1) (byAt (byStretch K 166 167 55) 166 167)) 24 25 ((byPut (byStretch K 166 167 55) 24 25 ((byStretch K 166 167 55) 166 1) (byAt (byStretch K 166 167 55) 166 167)) 168 1) (byAt (byPut (byStretch K 166 167 55) 24 25 ((byStretch K 166 167 55) 166 1) (byAt (byStretch K 166 167 55) 166 167)) 168 169)) L) d_Si_writePacket_88 cs_Si_writePacket_88 (k_24 S) (c_By_addAll (ks S (i := 5) (by decide)) ⟨k_168 S, r_168_0 S, k_169 S, by decide, by decide, by decide⟩ (by decide) (by rw [H4.1, e4.1, nks S (i := 5) (by decide), n_169 S]; omega)) rfl rfl rfl ?_
      show AW l G M_Si_writePacket P 91 [(3, vi i), (2, vr 34), (1, vr 24), (0, vr 146)] [] (sD h (byPut (byPut (byStretch K 166 167 55) 24 25 ((byStretch K 166 167 55) 166 1) (byAt (byStretch K 166 167 55) 166 167)) 24 25 ((byPut (byStretch K 166 167 55) 24 25 ((byStretch K 166 167 55) 166 1) (byAt (byStretch K 166 167 55) 166 167)) 168 1) (byAt (byPut (byStretch K 166 167 55) 24 25 ((byStretch K 166 167 55) 166 1) (byAt (byStretch K 166 167 55) 166 167)) 168 169)) L)
      exact aw_vret d_Si_writePacket_91 rfl (hP _ (((F.tr (FC.stretch (p := fun a => a = 24 ∨ a = 25 ∨ 119 ≤ a ∧ a ≤ 125 ∨ a = 166 ∨ a = 167) (by omega) (by omega)) (fun a x => ⟨x, x⟩)).tr (FC.put (p := fun a => a = 24 ∨ a = 25 ∨ 119 ≤ a ∧ a ≤ 125 ∨ a = 166 ∨ a = 167) (by omega) (by omega)) (fun a x => ⟨x, x⟩)).tr (FC.put (p := fun a => a = 24 ∨ a = 25 ∨ 119 ≤ a ∧ a ≤ 125 ∨ a = 166 ∨ a = 167) (by omega) (by omega)) (fun a x => ⟨x, x⟩)) (by rw [show (3309 : Int) = 48 + 640 * i + 55 + 6 by omega]; exact HB.addAll H4 e4 (by decide) (by omega) (by decide) (fun z x y => by unfold pcB1; rw [if_neg (by omega), if_neg (by omega), if_neg (by omega), show 48 + 640 * i + 55 + z - 3303 = z by omega])))
    · skip
      refine aw_aload_n d_Si_writePacket_25 rfl rfl ?_
      refine ax_getR (b := 36) d_Si_writePacket_26 fd_Si_38 (k_146 S) (r_146_0 S) ?_
      refine ax_getR (b := 118) d_Si_writePacket_29 fd_Si_175 (k_36 S) (r_36_6 S) ?_
      refine aw_iload_n d_Si_writePacket_32 rfl rfl ?_
      refine ax_aald (b := 119 + i.toNat) d_Si_writePacket_33 ⟨by rw [(k_118 S)]; decide, by rw [(k_118 S)]; decide⟩ (by omega) (by rw [n_118 S]; omega) (g_118 S (by omega) (by omega)) ?_
      refine aw_aload_n d_Si_writePacket_34 rfl rfl ?_
      refine ax_getIe (x := 524288) d_Si_writePacket_35 fd_Si_220 (k_34 S) (Eq.trans (F.1 34 4 (by omega)) (pc_34_4 SD.2.1)) ?_
      refine ax_S (st := []) (as := [vr (119 + i.toNat), vi 524288]) (v := none) (h' := sD h (rowTo K (119 + i.toNat) 256 (fun j => (524288 - K (119 + i.toNat) j) % 8380417)) L) d_Si_writePacket_38 cs_Si_writePacket_38 (c_Ri_mirror ⟨kr_118 S (by omega), by omega, nr_118 S (by omega)⟩ (by decide) (fun j x y => by rw [un i hi.1 (Int.le_refl _) (by omega) j x y]; exact qZ i hi.1 (by omega) j x y)) rfl rfl rfl ?_
      show AW l G M_Si_writePacket P 41 [(3, vi i), (2, vr 34), (1, vr 24), (0, vr 146)] [] (sD h (rowTo K (119 + i.toNat) 256 (fun j => (524288 - K (119 + i.toNat) j) % 8380417)) L)
      refine aw_aload_n d_Si_writePacket_41 rfl rfl ?_
      refine aw_aload_n d_Si_writePacket_42 rfl rfl ?_
      refine ax_getR (b := 36) d_Si_writePacket_43 fd_Si_38 (k_146 S) (r_146_0 S) ?_
      refine ax_getR (b := 118) d_Si_writePacket_46 fd_Si_175 (k_36 S) (r_36_6 S) ?_
      refine aw_iload_n d_Si_writePacket_49 rfl rfl ?_
      refine ax_aald (b := 119 + i.toNat) d_Si_writePacket_50 ⟨by rw [(k_118 S)]; decide, by rw [(k_118 S)]; decide⟩ (by omega) (by rw [n_118 S]; omega) (g_118 S (by omega) (by omega)) ?_
      refine aw_aload_n d_Si_writePacket_51 rfl rfl ?_
      refine ax_getIe (x := 20) d_Si_writePacket_52 fd_Si_263 (k_34 S) (Eq.trans (rowTo_ne (by omega)) (Eq.trans (F.1 34 11 (by omega)) (pc_34_11 SD.2.1))) ?_
      refine ax_V (st := []) (as := [vr (119 + i.toNat), vi 20]) (b := 24) (v := none) (h' := sD h (byPut (rowTo K (119 + i.toNat) 256 (fun j => (524288 - K (119 + i.toNat) j) % 8380417)) 24 25 (32 * 20) (gB ((rowTo K (119 + i.toNat) 256 (fun j => (524288 - K (119 + i.toNat) j) % 8380417)) (119 + i.toNat)) 20)) L) d_Si_writePacket_55 cs_Si_writePacket_55 (k_24 S) (by have z := c_By_addBits (l := l) (G := G) (L := L) (I := rowTo K (119 + i.toNat) 256 (fun j => (524288 - K (119 + i.toNat) j) % 8380417)) (f := 119 + i.toNat) (w := 20) (ks S (i := 5) (by decide)) ⟨kr_118 S (by omega), by omega, nr_118 S (by omega), by omega, by omega⟩ (by decide) (fun j x y => by rw [rowTo_in x y, un i hi.1 (Int.le_refl _) (by omega) j x y]; exact bZ i hi.1 (by omega) j x y) (by rw [rowTo_ne (by omega), H.1, nks S (i := 5) (by decide)]; omega); exact z) rfl rfl rfl ?_
      show AW l G M_Si_writePacket P 58 [(3, vi i), (2, vr 34), (1, vr 24), (0, vr 146)] [] (sD h (byPut (rowTo K (119 + i.toNat) 256 (fun j => (524288 - K (119 + i.toNat) j) % 8380417)) 24 25 (32 * 20) (gB ((rowTo K (119 + i.toNat) 256 (fun j => (524288 - K (119 + i.toNat) j) % 8380417)) (119 + i.toNat)) 20)) L)
      refine ax_iinc (lv' := [(3, vi (i + 1)), (2, vr 34), (1, vr 24), (0, vr 146)]) d_Si_writePacket_58 rfl (by decide) ⟨(by omega), (by omega)⟩ rfl ?_
      refine aw_goto (tgt := 17) d_Si_writePacket_61 (by decide) ?_
      exact ih_17 _ (by omega) (i + 1) (byPut (rowTo K (119 + i.toNat) 256 (fun j => (524288 - K (119 + i.toNat) j) % 8380417)) 24 25 (32 * 20) (gB ((rowTo K (119 + i.toNat) 256 (fun j => (524288 - K (119 + i.toNat) j) % 8380417)) (119 + i.toNat)) 20)) (by omega) ((F.tr (FC.row (p := fun a => a = 24 ∨ a = 25 ∨ 119 ≤ a ∧ a ≤ 125 ∨ a = 166 ∨ a = 167) (by omega)) (fun a x => ⟨x, x⟩)).tr (FC.put (p := fun a => a = 24 ∨ a = 25 ∨ 119 ≤ a ∧ a ≤ 125 ∨ a = 166 ∨ a = 167) (by omega) (by omega)) (fun a x => ⟨x, x⟩)) ((F'.tr (FC.row (p := fun a => a = 24 ∨ a = 25 ∨ 119 ≤ a ∧ a ≤ 125) (by omega)) (fun a x => ⟨x, x⟩)).tr (FC.put (p := fun a => a = 24 ∨ a = 25 ∨ 119 ≤ a ∧ a ≤ 125) (by omega) (by omega)) (fun a x => ⟨x, x⟩)) (fun m a b c j x y => by rw [byPut_ne (by omega) (by omega), rowTo_ne (by omega)]; exact un m a (by omega) c j x y) (by rw [show 48 + 640 * (i + 1) = 48 + 640 * i + 32 * 20 by omega]; exact (H.fc (L := L) (L' := L) (FC.row (p := fun a => a = 119 + i.toNat) rfl) (by omega) (by omega)).put (by decide) (by omega) (by decide) (fun z x y => by rw [gB_m]; unfold pcB1; rw [if_neg (by omega), if_pos (by omega), show (48 + 640 * i + z - 48) / 640 = i by omega, show (48 + 640 * i + z - 48) % 640 = z by omega, gB_congr (G := fun j => (524288 - Z i j) % 8380417) (fun j u v => by rw [rowTo_in u v, un i hi.1 (Int.le_refl _) (by omega) j u v])])) rfl
  skip
  refine aw_sub (lv' := [(3, vi 0), (2, vr 34), (1, vr 24), (0, vr 146)]) (by simp) ?_
  exact lp_17 _ 0 (byPut (a_up I 24 1 0) 24 25 ((a_up I 24 1 0) 139 1) (byAt (a_up I 24 1 0) 139 140)) (by omega) (F0) ((FC.up (p := fun a => a = 24 ∨ a = 25 ∨ 119 ≤ a ∧ a ≤ 125) (by omega)).tr (FC.put (p := fun a => a = 24 ∨ a = 25 ∨ 119 ≤ a ∧ a ≤ 125) (by omega) (by omega)) (fun a x => ⟨x, x⟩)) (fun m a b c j x y => by rw [byPut_ne (by omega) (by omega), a_up_ne (Or.inl (by omega))]; exact hZ m a c j x y) (by rw [show (48 + 640 * 0 : Int) = 0 + 48 by omega]; exact H0) rfl
set_option maxHeartbeats 800000 in
set_option maxRecDepth 100000 in
theorem c_Si_answersHide2 {l : Launch} {G : a_G} {h : Hp} {I L : Nat → Int → Int} {B : Int → Int} {V Mk : Int → Int → Int} (S : Shp h) (SD : Std I L) (hB : eqQ (I 135) B) (qB : inQ B) (hM : ∀ m, 0 ≤ m → m < 7 → eqQ (I (157 + m.toNat)) (Mk m)) (qM : ∀ m, 0 ≤ m → m < 7 → inQ (Mk m)) (hV : ∀ m, 0 ≤ m → m < 7 → eqQ (I (102 + m.toNat)) (V m)) (qV : ∀ m, 0 ≤ m → m < 7 → inQ (V m)) : AW l G M_Si_answersHide (Ret (fun u : Int × (Nat → Int → Int) => some (vi u.1)) (fun u => sD h u.2 L) (fun u => FC (fun a => a = 136 ∨ 119 ≤ a ∧ a ≤ 125) I L u.2 L ∧ ((u.1 = 1 ∧ (∀ m, 0 ≤ m → m < 7 → wiN 524168 (fun j => (Mk m j + prB B (V m) j) % 8380417)) ∧ ∀ m, 0 ≤ m → m < 7 → eqQ (u.2 (119 + m.toNat)) (fun j => (Mk m j + prB B (V m) j) % 8380417)) ∨ (u.1 = 0 ∧ ¬ ∀ m, 0 ≤ m → m < 7 → wiN 524168 (fun j => (Mk m j + prB B (V m) j) % 8380417))))) 0 (a_ar 0 [vr 146, vr 35]) [] (sD h I L) := by
  suffices key : ∀ P : a_R → Hp → Prop, (∀ (v_ : Int) (K_ : Nat → Int → Int), FC (fun a => a = 136 ∨ 119 ≤ a ∧ a ≤ 125) I L K_ L ∧ ((v_ = 1 ∧ (∀ m, 0 ≤ m → m < 7 → wiN 524168 (fun j => (Mk m j + prB B (V m) j) % 8380417)) ∧ ∀ m, 0 ≤ m → m < 7 → eqQ (K_ (119 + m.toNat)) (fun j => (Mk m j + prB B (V m) j) % 8380417)) ∨ (v_ = 0 ∧ ¬ ∀ m, 0 ≤ m → m < 7 → wiN 524168 (fun j => (Mk m j + prB B (V m) j) % 8380417))) → P (.inl (some (vi v_))) (sD h K_ L)) → AW l G M_Si_answersHide P 0 [(0, vr 146), (1, vr 35)] [] (sD h I L) from key _ (fun v K q => ⟨(v, K), rfl, rfl, q⟩)
  intro P hP
  refine aw_iconst d_Si_answersHide_0 ⟨by decide, by decide⟩ ?_
  refine aw_istore_n (lv' := [(2, vi 0), (0, vr 146), (1, vr 35)]) d_Si_answersHide_1 rfl (by decide) rfl ?_
  have lp_2 : ∀ (n_ : Nat) (i : Int) (K : Nat → Int → Int), (0 ≤ i ∧ i ≤ 7) → (FC (fun a => a = 136 ∨ 119 ≤ a ∧ a ≤ 125) I L K L) → (∀ m, 0 ≤ m → m < i → wiN 524168 (fun j => (Mk m j + prB B (V m) j) % 8380417)) → (∀ m, 0 ≤ m → m < i → eqQ (K (119 + m.toNat)) (fun j => (Mk m j + prB B (V m) j) % 8380417)) → ((7 - i).toNat) = n_ → AW l G M_Si_answersHide P 2 [(2, vi i), (1, vr 35), (0, vr 146)] [] (sD h K L) := by
    intro n_
    induction n_ using Nat.strongRecOn with
    | _ n_ ih_2 =>
    intro i K hi F okk gg hm_2
    refine aw_iload_n d_Si_answersHide_2 rfl rfl ?_
    refine aw_aload_n d_Si_answersHide_3 rfl rfl ?_
    refine ax_getIe (x := 7) d_Si_answersHide_4 fd_Si_56 (k_35 S) (Eq.trans (F.1 35 1 (by omega)) (pc_35_1 SD.2.1)) ?_
    refine aw_icmp_ge (tgt := 95) d_Si_answersHide_7 (by decide) (fun c_7 => ?_) (fun c_7 => ?_)
    · skip
      refine aw_iconst d_Si_answersHide_95 ⟨by decide, by decide⟩ ?_
      exact aw_zret d_Si_answersHide_96 rfl ⟨by decide, by decide⟩ (hP _ K ⟨F, Or.inl ⟨rfl, fun m a b => okk m a (by omega), fun m a b => gg m a (by omega)⟩⟩)
    · skip
      refine aw_aload_n d_Si_answersHide_10 rfl rfl ?_
      refine ax_getR (b := 36) d_Si_answersHide_11 fd_Si_38 (k_146 S) (r_146_0 S) ?_
      refine aw_aload_n d_Si_answersHide_14 rfl rfl ?_
      refine ax_getR (b := 36) d_Si_answersHide_15 fd_Si_38 (k_146 S) (r_146_0 S) ?_
      refine ax_getR (b := 101) d_Si_answersHide_18 fd_Si_109 (k_36 S) (r_36_4 S) ?_
      refine aw_iload_n d_Si_answersHide_21 rfl rfl ?_
      refine ax_aald (b := 102 + i.toNat) d_Si_answersHide_22 ⟨by rw [(k_101 S)]; decide, by rw [(k_101 S)]; decide⟩ (by omega) (by rw [n_101 S]; omega) (g_101 S (by omega) (by omega)) ?_
      refine ax_Vr (st := []) (as := [vr (102 + i.toNat)]) (b := 36) d_Si_answersHide_23 cs_Si_answersHide_23 (k_36 S) (c_Be_multiplyBall S (SD.fc F (by intro a x; omega)) ⟨kr_101 S (by omega), by omega, nr_101 S (by omega)⟩ (fun j x y => by rw [F.1 _ _ (by omega), hB j x y]; exact qB j x y) (fun j x y => by rw [F.1 _ _ (by omega), hV i hi.1 (by omega) j x y]; exact qV i hi.1 (by omega) j x y)) rfl rfl rfl (fun u_23 q_23 => ?_)
      obtain ⟨q1_, q2_⟩ := q_23
      have pr_ : eqQ (u_23 136) (prB B (V i)) := fun j x y => (q2_ j x y).trans (prB_eq (fun z s t => (F.1 _ _ (by omega)).trans (hB z s t)) (fun z s t => (F.1 _ _ (by omega)).trans (hV i hi.1 (by omega) z s t)) j x y)
      have Fa : FC (fun a => a = 136 ∨ 119 ≤ a ∧ a ≤ 125) I L u_23 L := F.tr q1_ (by intro a x; omega)
      show AW l G M_Si_answersHide P 26 [(2, vi i), (1, vr 35), (0, vr 146)] [] (sD h u_23 L)
      refine aw_aload_n d_Si_answersHide_26 rfl rfl ?_
      refine ax_getR (b := 156) d_Si_answersHide_27 fd_Si_20 (k_146 S) (r_146_2 S) ?_
      refine aw_iload_n d_Si_answersHide_30 rfl rfl ?_
      refine ax_aald (b := 157 + i.toNat) d_Si_answersHide_31 ⟨by rw [(k_156 S)]; decide, by rw [(k_156 S)]; decide⟩ (by omega) (by rw [n_156 S]; omega) (g_156 S (by omega) (by omega)) ?_
      refine aw_aload_n d_Si_answersHide_32 rfl rfl ?_
      refine ax_getR (b := 36) d_Si_answersHide_33 fd_Si_38 (k_146 S) (r_146_0 S) ?_
      refine ax_getR (b := 118) d_Si_answersHide_36 fd_Si_175 (k_36 S) (r_36_6 S) ?_
      refine aw_iload_n d_Si_answersHide_39 rfl rfl ?_
      refine ax_aald (b := 119 + i.toNat) d_Si_answersHide_40 ⟨by rw [(k_118 S)]; decide, by rw [(k_118 S)]; decide⟩ (by omega) (by rw [n_118 S]; omega) (g_118 S (by omega) (by omega)) ?_
      refine ax_S (st := []) (as := [vr (157 + i.toNat), vr (119 + i.toNat)]) (v := none) (h' := sD h (rowTo u_23 (119 + i.toNat) 256 (u_23 (157 + i.toNat))) L) d_Si_answersHide_41 cs_Si_answersHide_41 (c_Ri_copyRow ⟨kr_156 S (by omega), by omega, nr_156 S (by omega)⟩ ⟨kr_118 S (by omega), by omega, nr_118 S (by omega)⟩) rfl rfl rfl ?_
      show AW l G M_Si_answersHide P 44 [(2, vi i), (1, vr 35), (0, vr 146)] [] (sD h (rowTo u_23 (119 + i.toNat) 256 (u_23 (157 + i.toNat))) L)
      refine aw_aload_n d_Si_answersHide_44 rfl rfl ?_
      refine ax_getR (b := 36) d_Si_answersHide_45 fd_Si_38 (k_146 S) (r_146_0 S) ?_
      refine ax_getR (b := 118) d_Si_answersHide_48 fd_Si_175 (k_36 S) (r_36_6 S) ?_
      refine aw_iload_n d_Si_answersHide_51 rfl rfl ?_
      refine ax_aald (b := 119 + i.toNat) d_Si_answersHide_52 ⟨by rw [(k_118 S)]; decide, by rw [(k_118 S)]; decide⟩ (by omega) (by rw [n_118 S]; omega) (g_118 S (by omega) (by omega)) ?_
      refine aw_aload_n d_Si_answersHide_53 rfl rfl ?_
      refine ax_getR (b := 36) d_Si_answersHide_54 fd_Si_38 (k_146 S) (r_146_0 S) ?_
      refine ax_getR (b := 136) d_Si_answersHide_57 fd_Si_194 (k_36 S) (r_36_9 S) ?_
      refine ax_S (st := []) (as := [vr (119 + i.toNat), vr 136]) (v := none) (h' := sD h (rowTo (rowTo u_23 (119 + i.toNat) 256 (u_23 (157 + i.toNat))) (119 + i.toNat) 256 (fun j => ((rowTo u_23 (119 + i.toNat) 256 (u_23 (157 + i.toNat))) (119 + i.toNat) j + (rowTo u_23 (119 + i.toNat) 256 (u_23 (157 + i.toNat))) 136 j) % 8380417)) L) d_Si_answersHide_60 cs_Si_answersHide_60 (c_Ri_addTo ⟨kr_118 S (by omega), by omega, nr_118 S (by omega)⟩ ⟨k_136 S, by decide, n_136 S⟩ (fun j x y => by rw [rowTo_in x y, q1_.1 _ _ (by omega), F.1 _ _ (by omega), hM i hi.1 (by omega) j x y]; exact qM i hi.1 (by omega) j x y) (fun j x y => by rw [rowTo_ne (by omega), pr_ j x y]; exact prB_in j x y)) rfl rfl rfl ?_
      show AW l G M_Si_answersHide P 63 [(2, vi i), (1, vr 35), (0, vr 146)] [] (sD h (rowTo (rowTo u_23 (119 + i.toNat) 256 (u_23 (157 + i.toNat))) (119 + i.toNat) 256 (fun j => ((rowTo u_23 (119 + i.toNat) 256 (u_23 (157 + i.toNat))) (119 + i.toNat) j + (rowTo u_23 (119 + i.toNat) 256 (u_23 (157 + i.toNat))) 136 j) % 8380417)) L)
      have zi : eqQ ((rowTo (rowTo u_23 (119 + i.toNat) 256 (u_23 (157 + i.toNat))) (119 + i.toNat) 256 (fun j => ((rowTo u_23 (119 + i.toNat) 256 (u_23 (157 + i.toNat))) (119 + i.toNat) j + (rowTo u_23 (119 + i.toNat) 256 (u_23 (157 + i.toNat))) 136 j) % 8380417)) (119 + i.toNat)) (fun j => (Mk i j + prB B (V i) j) % 8380417) := fun j x y => by rw [rowTo_in x y, rowTo_in x y, rowTo_ne (by omega), pr_ j x y, q1_.1 _ _ (by omega), F.1 _ _ (by omega), hM i hi.1 (by omega) j x y]
      have Fb : FC (fun a => a = 136 ∨ 119 ≤ a ∧ a ≤ 125) I L (rowTo (rowTo u_23 (119 + i.toNat) 256 (u_23 (157 + i.toNat))) (119 + i.toNat) 256 (fun j => ((rowTo u_23 (119 + i.toNat) 256 (u_23 (157 + i.toNat))) (119 + i.toNat) j + (rowTo u_23 (119 + i.toNat) 256 (u_23 (157 + i.toNat))) 136 j) % 8380417)) L := (Fa.tr (FC.row (p := fun a => a = 136 ∨ 119 ≤ a ∧ a ≤ 125) (by omega)) (fun a x => ⟨x, x⟩)).tr (FC.row (p := fun a => a = 136 ∨ 119 ≤ a ∧ a ≤ 125) (by omega)) (fun a x => ⟨x, x⟩)
      refine aw_aload_n d_Si_answersHide_63 rfl rfl ?_
      refine ax_getR (b := 36) d_Si_answersHide_64 fd_Si_38 (k_146 S) (r_146_0 S) ?_
      refine ax_getR (b := 118) d_Si_answersHide_67 fd_Si_175 (k_36 S) (r_36_6 S) ?_
      refine aw_iload_n d_Si_answersHide_70 rfl rfl ?_
      refine ax_aald (b := 119 + i.toNat) d_Si_answersHide_71 ⟨by rw [(k_118 S)]; decide, by rw [(k_118 S)]; decide⟩ (by omega) (by rw [n_118 S]; omega) (g_118 S (by omega) (by omega)) ?_
      refine aw_aload_n d_Si_answersHide_72 rfl rfl ?_
      refine ax_getIe (x := 524288) d_Si_answersHide_73 fd_Si_220 (k_35 S) (Eq.trans (rowTo_ne (by omega)) (Eq.trans (rowTo_ne (by omega)) (Eq.trans (Fa.1 35 4 (by omega)) (pc_35_4 SD.2.1)))) ?_
      refine aw_aload_n d_Si_answersHide_76 rfl rfl ?_
      refine ax_getIe (x := 120) d_Si_answersHide_77 fd_Si_223 (k_35 S) (Eq.trans (rowTo_ne (by omega)) (Eq.trans (rowTo_ne (by omega)) (Eq.trans (Fa.1 35 9 (by omega)) (pc_35_9 SD.2.1)))) ?_
      refine ax_isub d_Si_answersHide_80 ⟨(by omega), (by omega)⟩ ?_
      refine ax_ti (x := 524168) (by decide) ?_
      refine ax_Sr (st := []) (as := [vr (119 + i.toNat), vi 524168]) d_Si_answersHide_81 cs_Si_answersHide_81 (c_Ri_within ⟨kr_118 S (by omega), by omega, nr_118 S (by omega)⟩ (by decide)) rfl rfl rfl (fun u_81 q_81 => ?_)
      obtain ⟨wo, wi⟩ := q_81
      have wi := wi.trans (wiN_eq zi)
      show AW l G M_Si_answersHide P 84 [(2, vi i), (1, vr 35), (0, vr 146)] [vi u_81] (sD h (rowTo (rowTo u_23 (119 + i.toNat) 256 (u_23 (157 + i.toNat))) (119 + i.toNat) 256 (fun j => ((rowTo u_23 (119 + i.toNat) 256 (u_23 (157 + i.toNat))) (119 + i.toNat) j + (rowTo u_23 (119 + i.toNat) 256 (u_23 (157 + i.toNat))) 136 j) % 8380417)) L)
      refine aw_if_ne (tgt := 89) d_Si_answersHide_84 (by decide) (fun c_84 => ?_) (fun c_84 => ?_)
      · skip
        refine ax_iinc (lv' := [(2, vi (i + 1)), (1, vr 35), (0, vr 146)]) d_Si_answersHide_89 rfl (by decide) ⟨(by omega), (by omega)⟩ rfl ?_
        refine aw_goto (tgt := 2) d_Si_answersHide_92 (by decide) ?_
        exact ih_2 _ (by omega) (i + 1) (rowTo (rowTo u_23 (119 + i.toNat) 256 (u_23 (157 + i.toNat))) (119 + i.toNat) 256 (fun j => ((rowTo u_23 (119 + i.toNat) 256 (u_23 (157 + i.toNat))) (119 + i.toNat) j + (rowTo u_23 (119 + i.toNat) 256 (u_23 (157 + i.toNat))) 136 j) % 8380417)) (by omega) (Fb) (fun m a b => by by_cases z : m = i; exact (by rw [z]; exact wi.1 (by omega)); exact okk m a (by omega)) (fun m a b j x y => by by_cases z : m = i; exact (by rw [z]; exact zi j x y); exact (by rw [rowTo_ne (by omega), rowTo_ne (by omega), q1_.1 _ _ (by omega)]; exact gg m a (by omega) j x y)) rfl
      · skip
        refine aw_iconst d_Si_answersHide_87 ⟨by decide, by decide⟩ ?_
        exact aw_zret d_Si_answersHide_88 rfl ⟨by decide, by decide⟩ (hP _ _ ⟨Fb, Or.inr ⟨rfl, fun z => by have := wi.2 (z i hi.1 (by omega)); omega⟩⟩)
  skip
  refine aw_sub (lv' := [(2, vi 0), (1, vr 35), (0, vr 146)]) (by simp) ?_
  exact lp_2 _ 0 I (by omega) (FC.rfl') (fun m a b => by omega) (fun m a b => by omega) rfl
set_option maxHeartbeats 800000 in
set_option maxRecDepth 100000 in
theorem c_Si_lowsWithin2 {l : Launch} {G : a_G} {h : Hp} {I L : Nat → Int → Int} {f : Nat} (S : Shp h) (SD : Std I L) (Zf : RwO h f) (qf : inQ (I f)) : AW l G M_Si_lowsWithin (Ret (fun u : Int => some (vi u)) (fun _ => sD h I L) (fun u => (u = 0 ∨ u = 1) ∧ (u = 1 ↔ loN 261888 261768 (I f)))) 0 (a_ar 0 [vr f, vr 35]) [] (sD h I L) := by
  suffices key : ∀ P : a_R → Hp → Prop, (∀ v : Int, (v = 0 ∨ v = 1) → (v = 1 ↔ loN 261888 261768 (I f)) → P (.inl (some (vi v))) (sD h I L)) → AW l G M_Si_lowsWithin P 0 [(0, vr f), (1, vr 35)] [] (sD h I L) from key _ (fun v q1 q2 => ⟨v, rfl, rfl, q1, q2⟩)
  intro P hP
  refine aw_aload_n d_Si_lowsWithin_0 rfl rfl ?_
  refine ax_getIe (x := 261888) d_Si_lowsWithin_1 fd_Si_237 (k_35 S) (pc_35_5 SD.2.1) ?_
  refine aw_aload_n d_Si_lowsWithin_4 rfl rfl ?_
  refine ax_getIe (x := 120) d_Si_lowsWithin_5 fd_Si_223 (k_35 S) (pc_35_9 SD.2.1) ?_
  refine ax_isub d_Si_lowsWithin_8 ⟨(by omega), (by omega)⟩ ?_
  refine ax_ti (x := 261768) (by decide) ?_
  refine aw_istore_n (lv' := [(2, vi 261768), (0, vr f), (1, vr 35)]) d_Si_lowsWithin_9 rfl (by decide) rfl ?_
  refine aw_iconst d_Si_lowsWithin_10 ⟨by decide, by decide⟩ ?_
  refine aw_istore_n (lv' := [(3, vi 0), (2, vi 261768), (0, vr f), (1, vr 35)]) d_Si_lowsWithin_11 rfl (by decide) rfl ?_
  have lp_12 : ∀ (n_ : Nat) (c : Int), (0 ≤ c ∧ c ≤ 256) → (∀ j, 0 ≤ j → j < c → -261768 < dLow 261888 (I f j) ∧ dLow 261888 (I f j) < 261768) → ((256 - c).toNat) = n_ → AW l G M_Si_lowsWithin P 12 [(3, vi c), (2, vi 261768), (1, vr 35), (0, vr f)] [] (sD h I L) := by
    intro n_
    induction n_ using Nat.strongRecOn with
    | _ n_ ih_12 =>
    intro c hc gg hm_12
    refine aw_iload_n d_Si_lowsWithin_12 rfl rfl ?_
    refine aw_sipush d_Si_lowsWithin_13 ⟨by decide, by decide⟩ (by decide) ?_
    refine aw_icmp_ge (tgt := 49) d_Si_lowsWithin_16 (by decide) (fun c_16 => ?_) (fun c_16 => ?_)
    · skip
      refine aw_iconst d_Si_lowsWithin_49 ⟨by decide, by decide⟩ ?_
      exact aw_zret d_Si_lowsWithin_50 rfl ⟨by decide, by decide⟩ (hP _ (Or.inr rfl) ⟨fun _ j x y => gg j x (by omega), fun _ => rfl⟩)
    · skip
      refine aw_aload_n d_Si_lowsWithin_19 rfl rfl ?_
      refine aw_aload_n d_Si_lowsWithin_20 rfl rfl ?_
      refine aw_iload_n d_Si_lowsWithin_21 rfl rfl ?_
      refine ax_ialde (x := I f c) d_Si_lowsWithin_22 Zf.1 (by omega) (by omega) (rfl) ?_
      refine ax_V (st := []) (as := [vi (I f c)]) (b := 35) (v := some (vi (dLow 261888 (I f c)))) (h' := sD h I L) d_Si_lowsWithin_23 cs_Si_lowsWithin_23 (k_35 S) (by have z := c_Pa_low (l := l) (G := G) (L := L) (I := I) (p := 35) (r := I f c) (k_35 S) (by rw [pc_35_5 SD.2.1]; decide) (qf c hc.1 (by omega)); rw [pc_35_5 SD.2.1] at z; exact z) rfl rfl rfl ?_
      show AW l G M_Si_lowsWithin P 26 [(3, vi c), (2, vi 261768), (1, vr 35), (0, vr f)] [vi (dLow 261888 (I f c))] (sD h I L)
      refine aw_istore (lv' := [(4, vi (dLow 261888 (I f c))), (3, vi c), (2, vi 261768), (1, vr 35), (0, vr f)]) d_Si_lowsWithin_26 (by decide) rfl ?_
      refine aw_iload d_Si_lowsWithin_28 rfl ?_
      refine aw_iload_n d_Si_lowsWithin_30 rfl rfl ?_
      refine aw_icmp_ge (tgt := 41) d_Si_lowsWithin_31 (by decide) (fun c_31 => ?_) (fun c_31 => ?_)
      · skip
        refine aw_iconst d_Si_lowsWithin_41 ⟨by decide, by decide⟩ ?_
        exact aw_zret d_Si_lowsWithin_42 rfl ⟨by decide, by decide⟩ (hP _ (Or.inl rfl) ⟨fun z => absurd z (by decide), fun z => by have := z c hc.1 (by omega); omega⟩)
      · skip
        refine aw_iload d_Si_lowsWithin_34 rfl ?_
        refine aw_iload_n d_Si_lowsWithin_36 rfl rfl ?_
        refine ax_ineg d_Si_lowsWithin_37 (by omega) (by omega) ?_
        refine aw_icmp_gt (tgt := 43) d_Si_lowsWithin_38 (by decide) (fun c_38 => ?_) (fun c_38 => ?_)
        · skip
          refine ax_iinc (lv' := [(3, vi (c + 1)), (4, vi (dLow 261888 (I f c))), (2, vi 261768), (1, vr 35), (0, vr f)]) d_Si_lowsWithin_43 rfl (by decide) ⟨(by omega), (by omega)⟩ rfl ?_
          refine aw_goto (tgt := 12) d_Si_lowsWithin_46 (by decide) ?_
          refine aw_sub (lv' := [(3, vi (c + 1)), (2, vi 261768), (1, vr 35), (0, vr f)]) (by simp) ?_
          exact ih_12 _ (by omega) (c + 1) (by omega) (fun j a b => by by_cases z : j = c; exact (by rw [z]; omega); exact gg j a (by omega)) rfl
        · skip
          refine aw_iconst d_Si_lowsWithin_41 ⟨by decide, by decide⟩ ?_
          exact aw_zret d_Si_lowsWithin_42 rfl ⟨by decide, by decide⟩ (hP _ (Or.inl rfl) ⟨fun z => absurd z (by decide), fun z => by have := z c hc.1 (by omega); omega⟩)
  refine aw_sub (lv' := [(3, vi 0), (2, vi 261768), (1, vr 35), (0, vr f)]) (by simp) ?_
  exact lp_12 _ 0 (by omega) (fun j a b => by omega) rfl
set_option maxHeartbeats 800000 in
set_option maxRecDepth 100000 in
theorem c_Si_lowsHide2 {l : Launch} {G : a_G} {h : Hp} {I L : Nat → Int → Int} {B : Int → Int} {V W : Int → Int → Int} (S : Shp h) (SD : Std I L) (hB : eqQ (I 135) B) (qB : inQ B) (hW : ∀ m, 0 ≤ m → m < 8 → eqQ (I (127 + m.toNat)) (W m)) (qW : ∀ m, 0 ≤ m → m < 8 → inQ (W m)) (hV : ∀ m, 0 ≤ m → m < 8 → eqQ (I (110 + m.toNat)) (V m)) (qV : ∀ m, 0 ≤ m → m < 8 → inQ (V m)) : AW l G M_Si_lowsHide (Ret (fun u : Int × (Nat → Int → Int) => some (vi u.1)) (fun u => sD h u.2 L) (fun u => FC (fun a => a = 136 ∨ 127 ≤ a ∧ a ≤ 134) I L u.2 L ∧ ((u.1 = 1 ∧ (∀ m, 0 ≤ m → m < 8 → loN 261888 261768 (fun j => (W m j - prB B (V m) j) % 8380417)) ∧ ∀ m, 0 ≤ m → m < 8 → eqQ (u.2 (127 + m.toNat)) (fun j => (W m j - prB B (V m) j) % 8380417)) ∨ (u.1 = 0 ∧ ¬ ∀ m, 0 ≤ m → m < 8 → loN 261888 261768 (fun j => (W m j - prB B (V m) j) % 8380417))))) 0 (a_ar 0 [vr 146, vr 35]) [] (sD h I L) := by
  suffices key : ∀ P : a_R → Hp → Prop, (∀ (v_ : Int) (K_ : Nat → Int → Int), FC (fun a => a = 136 ∨ 127 ≤ a ∧ a ≤ 134) I L K_ L ∧ ((v_ = 1 ∧ (∀ m, 0 ≤ m → m < 8 → loN 261888 261768 (fun j => (W m j - prB B (V m) j) % 8380417)) ∧ ∀ m, 0 ≤ m → m < 8 → eqQ (K_ (127 + m.toNat)) (fun j => (W m j - prB B (V m) j) % 8380417)) ∨ (v_ = 0 ∧ ¬ ∀ m, 0 ≤ m → m < 8 → loN 261888 261768 (fun j => (W m j - prB B (V m) j) % 8380417))) → P (.inl (some (vi v_))) (sD h K_ L)) → AW l G M_Si_lowsHide P 0 [(0, vr 146), (1, vr 35)] [] (sD h I L) from key _ (fun v K q => ⟨(v, K), rfl, rfl, q⟩)
  intro P hP
  refine aw_iconst d_Si_lowsHide_0 ⟨by decide, by decide⟩ ?_
  refine aw_istore_n (lv' := [(2, vi 0), (0, vr 146), (1, vr 35)]) d_Si_lowsHide_1 rfl (by decide) rfl ?_
  have lp_2 : ∀ (n_ : Nat) (i : Int) (K : Nat → Int → Int), (0 ≤ i ∧ i ≤ 8) → (FC (fun a => a = 136 ∨ 127 ≤ a ∧ a ≤ 134) I L K L) → (∀ m, 0 ≤ m → m < i → loN 261888 261768 (fun j => (W m j - prB B (V m) j) % 8380417)) → (∀ m, 0 ≤ m → m < i → eqQ (K (127 + m.toNat)) (fun j => (W m j - prB B (V m) j) % 8380417)) → (∀ m, 0 ≤ m → i ≤ m → m < 8 → eqQ (K (127 + m.toNat)) (W m)) → ((8 - i).toNat) = n_ → AW l G M_Si_lowsHide P 2 [(2, vi i), (1, vr 35), (0, vr 146)] [] (sD h K L) := by
    intro n_
    induction n_ using Nat.strongRecOn with
    | _ n_ ih_2 =>
    intro i K hi F okk gg un hm_2
    refine aw_iload_n d_Si_lowsHide_2 rfl rfl ?_
    refine aw_aload_n d_Si_lowsHide_3 rfl rfl ?_
    refine ax_getIe (x := 8) d_Si_lowsHide_4 fd_Si_120 (k_35 S) (Eq.trans (F.1 35 0 (by omega)) (pc_35_0 SD.2.1)) ?_
    refine aw_icmp_ge (tgt := 69) d_Si_lowsHide_7 (by decide) (fun c_7 => ?_) (fun c_7 => ?_)
    · skip
      refine aw_iconst d_Si_lowsHide_69 ⟨by decide, by decide⟩ ?_
      exact aw_zret d_Si_lowsHide_70 rfl ⟨by decide, by decide⟩ (hP _ K ⟨F, Or.inl ⟨rfl, fun m a b => okk m a (by omega), fun m a b => gg m a (by omega)⟩⟩)
    · skip
      refine aw_aload_n d_Si_lowsHide_10 rfl rfl ?_
      refine ax_getR (b := 36) d_Si_lowsHide_11 fd_Si_38 (k_146 S) (r_146_0 S) ?_
      refine aw_aload_n d_Si_lowsHide_14 rfl rfl ?_
      refine ax_getR (b := 36) d_Si_lowsHide_15 fd_Si_38 (k_146 S) (r_146_0 S) ?_
      refine ax_getR (b := 109) d_Si_lowsHide_18 fd_Si_123 (k_36 S) (r_36_5 S) ?_
      refine aw_iload_n d_Si_lowsHide_21 rfl rfl ?_
      refine ax_aald (b := 110 + i.toNat) d_Si_lowsHide_22 ⟨by rw [(k_109 S)]; decide, by rw [(k_109 S)]; decide⟩ (by omega) (by rw [n_109 S]; omega) (g_109 S (by omega) (by omega)) ?_
      refine ax_Vr (st := []) (as := [vr (110 + i.toNat)]) (b := 36) d_Si_lowsHide_23 cs_Si_lowsHide_23 (k_36 S) (c_Be_multiplyBall S (SD.fc F (by intro a x; omega)) ⟨kr_109 S (by omega), by omega, nr_109 S (by omega)⟩ (fun j x y => by rw [F.1 _ _ (by omega), hB j x y]; exact qB j x y) (fun j x y => by rw [F.1 _ _ (by omega), hV i hi.1 (by omega) j x y]; exact qV i hi.1 (by omega) j x y)) rfl rfl rfl (fun u_23 q_23 => ?_)
      obtain ⟨q1_, q2_⟩ := q_23
      have pr_ : eqQ (u_23 136) (prB B (V i)) := fun j x y => (q2_ j x y).trans (prB_eq (fun z s t => (F.1 _ _ (by omega)).trans (hB z s t)) (fun z s t => (F.1 _ _ (by omega)).trans (hV i hi.1 (by omega) z s t)) j x y)
      have Fa : FC (fun a => a = 136 ∨ 127 ≤ a ∧ a ≤ 134) I L u_23 L := F.tr q1_ (by intro a x; omega)
      show AW l G M_Si_lowsHide P 26 [(2, vi i), (1, vr 35), (0, vr 146)] [] (sD h u_23 L)
      refine aw_aload_n d_Si_lowsHide_26 rfl rfl ?_
      refine ax_getR (b := 36) d_Si_lowsHide_27 fd_Si_38 (k_146 S) (r_146_0 S) ?_
      refine ax_getR (b := 126) d_Si_lowsHide_30 fd_Si_188 (k_36 S) (r_36_7 S) ?_
      refine aw_iload_n d_Si_lowsHide_33 rfl rfl ?_
      refine ax_aald (b := 127 + i.toNat) d_Si_lowsHide_34 ⟨by rw [(k_126 S)]; decide, by rw [(k_126 S)]; decide⟩ (by omega) (by rw [n_126 S]; omega) (g_126 S (by omega) (by omega)) ?_
      refine aw_aload_n d_Si_lowsHide_35 rfl rfl ?_
      refine ax_getR (b := 36) d_Si_lowsHide_36 fd_Si_38 (k_146 S) (r_146_0 S) ?_
      refine ax_getR (b := 136) d_Si_lowsHide_39 fd_Si_194 (k_36 S) (r_36_9 S) ?_
      refine ax_S (st := []) (as := [vr (127 + i.toNat), vr 136]) (v := none) (h' := sD h (rowTo u_23 (127 + i.toNat) 256 (fun j => (u_23 (127 + i.toNat) j - u_23 136 j) % 8380417)) L) d_Si_lowsHide_42 cs_Si_lowsHide_42 (c_Ri_takeFrom ⟨kr_126 S (by omega), by omega, nr_126 S (by omega)⟩ ⟨k_136 S, by decide, n_136 S⟩ (fun j x y => by rw [q1_.1 _ _ (by omega), un i hi.1 (Int.le_refl _) (by omega) j x y]; exact qW i hi.1 (by omega) j x y) (fun j x y => by rw [pr_ j x y]; exact prB_in j x y)) rfl rfl rfl ?_
      show AW l G M_Si_lowsHide P 45 [(2, vi i), (1, vr 35), (0, vr 146)] [] (sD h (rowTo u_23 (127 + i.toNat) 256 (fun j => (u_23 (127 + i.toNat) j - u_23 136 j) % 8380417)) L)
      have zi : eqQ ((rowTo u_23 (127 + i.toNat) 256 (fun j => (u_23 (127 + i.toNat) j - u_23 136 j) % 8380417)) (127 + i.toNat)) (fun j => (W i j - prB B (V i) j) % 8380417) := fun j x y => by rw [rowTo_in x y, pr_ j x y, q1_.1 _ _ (by omega), un i hi.1 (Int.le_refl _) (by omega) j x y]
      have Fb : FC (fun a => a = 136 ∨ 127 ≤ a ∧ a ≤ 134) I L (rowTo u_23 (127 + i.toNat) 256 (fun j => (u_23 (127 + i.toNat) j - u_23 136 j) % 8380417)) L := Fa.tr (FC.row (p := fun a => a = 136 ∨ 127 ≤ a ∧ a ≤ 134) (by omega)) (fun a x => ⟨x, x⟩)
      refine aw_aload_n d_Si_lowsHide_45 rfl rfl ?_
      refine ax_getR (b := 36) d_Si_lowsHide_46 fd_Si_38 (k_146 S) (r_146_0 S) ?_
      refine ax_getR (b := 126) d_Si_lowsHide_49 fd_Si_188 (k_36 S) (r_36_7 S) ?_
      refine aw_iload_n d_Si_lowsHide_52 rfl rfl ?_
      refine ax_aald (b := 127 + i.toNat) d_Si_lowsHide_53 ⟨by rw [(k_126 S)]; decide, by rw [(k_126 S)]; decide⟩ (by omega) (by rw [n_126 S]; omega) (g_126 S (by omega) (by omega)) ?_
      refine aw_aload_n d_Si_lowsHide_54 rfl rfl ?_
      refine ax_Sr (st := []) (as := [vr (127 + i.toNat), vr 35]) d_Si_lowsHide_55 cs_Si_lowsHide_55 (c_Si_lowsWithin2 S (SD.fc Fb (by intro a x; omega)) ⟨kr_126 S (by omega), by omega, nr_126 S (by omega)⟩ (fun j x y => by rw [zi j x y]; show 0 ≤ _ % 8380417 ∧ _ % 8380417 < 8380417; exact ⟨Int.emod_nonneg _ (by decide), Int.emod_lt_of_pos _ (by decide)⟩)) rfl rfl rfl (fun u_55 q_55 => ?_)
      obtain ⟨wo, wi⟩ := q_55
      have wi := wi.trans (loN_eq zi)
      show AW l G M_Si_lowsHide P 58 [(2, vi i), (1, vr 35), (0, vr 146)] [vi u_55] (sD h (rowTo u_23 (127 + i.toNat) 256 (fun j => (u_23 (127 + i.toNat) j - u_23 136 j) % 8380417)) L)
      refine aw_if_ne (tgt := 63) d_Si_lowsHide_58 (by decide) (fun c_58 => ?_) (fun c_58 => ?_)
      · skip
        refine ax_iinc (lv' := [(2, vi (i + 1)), (1, vr 35), (0, vr 146)]) d_Si_lowsHide_63 rfl (by decide) ⟨(by omega), (by omega)⟩ rfl ?_
        refine aw_goto (tgt := 2) d_Si_lowsHide_66 (by decide) ?_
        exact ih_2 _ (by omega) (i + 1) (rowTo u_23 (127 + i.toNat) 256 (fun j => (u_23 (127 + i.toNat) j - u_23 136 j) % 8380417)) (by omega) (Fb) (fun m a b => by by_cases z : m = i; exact (by rw [z]; exact wi.1 (by omega)); exact okk m a (by omega)) (fun m a b j x y => by by_cases z : m = i; exact (by rw [z]; exact zi j x y); exact (by rw [rowTo_ne (by omega), q1_.1 _ _ (by omega)]; exact gg m a (by omega) j x y)) (fun m a b c j x y => by rw [rowTo_ne (by omega), q1_.1 _ _ (by omega)]; exact un m a (by omega) c j x y) rfl
      · skip
        refine aw_iconst d_Si_lowsHide_61 ⟨by decide, by decide⟩ ?_
        exact aw_zret d_Si_lowsHide_62 rfl ⟨by decide, by decide⟩ (hP _ _ ⟨Fb, Or.inr ⟨rfl, fun z => by have := wi.2 (z i hi.1 (by omega)); omega⟩⟩)
  skip
  refine aw_sub (lv' := [(2, vi 0), (1, vr 35), (0, vr 146)]) (by simp) ?_
  exact lp_2 _ 0 I (by omega) (FC.rfl') (fun m a b => by omega) (fun m a b => by omega) (fun m a b c => hW m a c) rfl
set_option maxHeartbeats 800000 in
set_option maxRecDepth 100000 in
theorem c_Si_addHints2 {l : Launch} {G : a_G} {h : Hp} {I L : Nat → Int → Int} {f : Nat} {fl : Nat → Bool} {i : Nat} (S : Shp h) (SD : Std I L) (Zf : RwO h f) (hf2 : f ≠ 166 ∧ f ≠ 167) (qf : inQ (I f)) (q136 : inQ (I 136)) (hfl_ : ∀ j : Nat, j < 256 → (fl (256 * i + j) = true ↔ ¬ dHigh 261888 ((I f j + I 136 j) % 8380417) = dHigh 261888 (I f j))) (H0 : HB I 166 167 (hIt fl (256 * i + (0 : Int).toNat)).1 (hIt fl (256 * i + (0 : Int).toNat)).2) (hw0 : (hIt fl (256 * i + (0 : Int).toNat)).1 ≤ 75) : AW l G M_Si_addHints (Ret (fun u : Int × (Nat → Int → Int) => some (vi u.1)) (fun u => sD h u.2 L) (fun u => FC (fun a => a = 166 ∨ a = 167) I L u.2 L ∧ ((u.1 = 1 ∧ (hIt fl (256 * i + 256)).1 ≤ 75 ∧ HB u.2 166 167 (hIt fl (256 * i + 256)).1 (hIt fl (256 * i + 256)).2) ∨ (u.1 = 0 ∧ 75 < (hIt fl (256 * i + 256)).1)))) 0 (a_ar 0 [vr 146, vr f, vr 35]) [] (sD h I L) := by
  suffices key : ∀ P : a_R → Hp → Prop, (∀ (v_ : Int) (K_ : Nat → Int → Int), FC (fun a => a = 166 ∨ a = 167) I L K_ L ∧ ((v_ = 1 ∧ (hIt fl (256 * i + 256)).1 ≤ 75 ∧ HB K_ 166 167 (hIt fl (256 * i + 256)).1 (hIt fl (256 * i + 256)).2) ∨ (v_ = 0 ∧ 75 < (hIt fl (256 * i + 256)).1)) → P (.inl (some (vi v_))) (sD h K_ L)) → AW l G M_Si_addHints P 0 [(0, vr 146), (1, vr f), (2, vr 35)] [] (sD h I L) from key _ (fun v K q => ⟨(v, K), rfl, rfl, q⟩)
  intro P hP
  refine aw_iconst d_Si_addHints_0 ⟨by decide, by decide⟩ ?_
  refine aw_istore_n (lv' := [(3, vi 0), (0, vr 146), (1, vr f), (2, vr 35)]) d_Si_addHints_1 rfl (by decide) rfl ?_
  have lp_2 : ∀ (n_ : Nat) (c : Int) (K : Nat → Int → Int), (0 ≤ c ∧ c ≤ 256) → (FC (fun a => a = 166 ∨ a = 167) I L K L) → (HB K 166 167 (hIt fl (256 * i + c.toNat)).1 (hIt fl (256 * i + c.toNat)).2) → ((hIt fl (256 * i + c.toNat)).1 ≤ 75) → ((256 - c).toNat) = n_ → AW l G M_Si_addHints P 2 [(3, vi c), (2, vr 35), (1, vr f), (0, vr 146)] [] (sD h K L) := by
    intro n_
    induction n_ using Nat.strongRecOn with
    | _ n_ ih_2 =>
    intro c K hc F H hw hm_2
    have gp : K 35 5 = 261888 := (F.1 35 5 (by omega)).trans (pc_35_5 SD.2.1)
    refine aw_iload_n d_Si_addHints_2 rfl rfl ?_
    refine aw_sipush d_Si_addHints_3 ⟨by decide, by decide⟩ (by decide) ?_
    refine aw_icmp_ge (tgt := 68) d_Si_addHints_6 (by decide) (fun c_6 => ?_) (fun c_6 => ?_)
    · skip
      refine aw_iconst d_Si_addHints_68 ⟨by decide, by decide⟩ ?_
      exact aw_zret d_Si_addHints_69 rfl ⟨by decide, by decide⟩ (hP _ K ⟨F, Or.inl ⟨rfl, by rw [show 256 * i + 256 = (256 * i + c.toNat) by omega]; exact hw, by rw [show 256 * i + 256 = (256 * i + c.toNat) by omega]; exact H⟩⟩)
    · skip
      refine aw_aload_n d_Si_addHints_9 rfl rfl ?_
      refine aw_aload_n d_Si_addHints_10 rfl rfl ?_
      refine aw_iload_n d_Si_addHints_11 rfl rfl ?_
      refine ax_ialde (x := I f c) d_Si_addHints_12 Zf.1 (by omega) (by omega) (Eq.trans (F.1 f c (by omega)) (rfl)) ?_
      refine aw_aload_n d_Si_addHints_13 rfl rfl ?_
      refine ax_getR (b := 36) d_Si_addHints_14 fd_Si_38 (k_146 S) (r_146_0 S) ?_
      refine ax_getR (b := 136) d_Si_addHints_17 fd_Si_194 (k_36 S) (r_36_9 S) ?_
      refine aw_iload_n d_Si_addHints_20 rfl rfl ?_
      refine ax_ialde (x := I 136 c) d_Si_addHints_21 (k_136 S) (by omega) (by rw [n_136 S]; omega) (Eq.trans (F.1 136 c (by omega)) (rfl)) ?_
      refine ax_S (st := [vr 35]) (as := [vi (I f c), vi (I 136 c)]) (v := some (vi ((I f c + I 136 c) % 8380417))) (h' := sD h K L) d_Si_addHints_22 cs_Si_addHints_22 (c_Ri_plus (z := (I f c + I 136 c) % 8380417) (by have := qf c hc.1 (by omega); have := q136 c hc.1 (by omega); omega) rfl) rfl rfl rfl ?_
      show AW l G M_Si_addHints P 25 [(3, vi c), (2, vr 35), (1, vr f), (0, vr 146)] [vi ((I f c + I 136 c) % 8380417), vr 35] (sD h K L)
      refine ax_V (st := []) (as := [vi ((I f c + I 136 c) % 8380417)]) (b := 35) (v := some (vi (dHigh 261888 ((I f c + I 136 c) % 8380417)))) (h' := sD h K L) d_Si_addHints_25 cs_Si_addHints_25 (k_35 S) (by have z := c_Pa_high (l := l) (G := G) (L := L) (I := K) (p := 35) (r := (I f c + I 136 c) % 8380417) (k_35 S) (by rw [gp]; decide) (by omega); rw [gp] at z; exact z) rfl rfl rfl ?_
      show AW l G M_Si_addHints P 28 [(3, vi c), (2, vr 35), (1, vr f), (0, vr 146)] [vi (dHigh 261888 ((I f c + I 136 c) % 8380417))] (sD h K L)
      refine aw_aload_n d_Si_addHints_28 rfl rfl ?_
      refine aw_aload_n d_Si_addHints_29 rfl rfl ?_
      refine aw_iload_n d_Si_addHints_30 rfl rfl ?_
      refine ax_ialde (x := I f c) d_Si_addHints_31 Zf.1 (by omega) (by omega) (Eq.trans (F.1 f c (by omega)) (rfl)) ?_
      refine ax_V (st := [vi (dHigh 261888 ((I f c + I 136 c) % 8380417))]) (as := [vi (I f c)]) (b := 35) (v := some (vi (dHigh 261888 (I f c)))) (h' := sD h K L) d_Si_addHints_32 cs_Si_addHints_32 (k_35 S) (by have z := c_Pa_high (l := l) (G := G) (L := L) (I := K) (p := 35) (r := I f c) (k_35 S) (by rw [gp]; decide) (qf c hc.1 (by omega)); rw [gp] at z; exact z) rfl rfl rfl ?_
      show AW l G M_Si_addHints P 35 [(3, vi c), (2, vr 35), (1, vr f), (0, vr 146)] [vi (dHigh 261888 (I f c)), vi (dHigh 261888 ((I f c + I 136 c) % 8380417))] (sD h K L)
      refine aw_icmp_eq (tgt := 62) d_Si_addHints_35 (by decide) (fun c_35 => ?_) (fun c_35 => ?_)
      · skip
        have hf_ := hfl_ c.toNat (by omega)
        rw [Int.toNat_of_nonneg hc.1] at hf_
        have eN : 256 * i + (c + 1).toNat = (256 * i + c.toNat) + 1 := by omega
        have fn : ¬ fl (256 * i + c.toNat) = true := fun z => hf_.1 z c_35
        refine ax_iinc (lv' := [(3, vi (c + 1)), (2, vr 35), (1, vr f), (0, vr 146)]) d_Si_addHints_62 rfl (by decide) ⟨(by omega), (by omega)⟩ rfl ?_
        refine aw_goto (tgt := 2) d_Si_addHints_65 (by decide) ?_
        exact ih_2 _ (by omega) (c + 1) K (by omega) (F) (by rw [eN, hIt_n fn]; exact H) (by rw [eN, hIt_n fn]; exact hw) rfl
      · skip
        have hf_ := hfl_ c.toNat (by omega)
        rw [Int.toNat_of_nonneg hc.1] at hf_
        have eN : 256 * i + (c + 1).toNat = (256 * i + c.toNat) + 1 := by omega
        have fy := hf_.2 c_35
        refine aw_aload_n d_Si_addHints_38 rfl rfl ?_
        refine ax_getR (b := 166) d_Si_addHints_39 fd_Si_32 (k_146 S) (r_146_4 S) ?_
        refine ax_getIe (x := (hIt fl (256 * i + c.toNat)).1) d_Si_addHints_42 fd_Si_246 (k_166 S) (H.1) ?_
        refine aw_aload_n d_Si_addHints_45 rfl rfl ?_
        refine ax_getIe (x := 75) d_Si_addHints_46 fd_Si_256 (k_35 S) (Eq.trans (F.1 35 6 (by omega)) (pc_35_6 SD.2.1)) ?_
        refine aw_icmp_lt (tgt := 54) d_Si_addHints_49 (by decide) (fun c_49 => ?_) (fun c_49 => ?_)
        · skip
          refine aw_aload_n d_Si_addHints_54 rfl rfl ?_
          refine ax_getR (b := 166) d_Si_addHints_55 fd_Si_32 (k_146 S) (r_146_4 S) ?_
          refine aw_iload_n d_Si_addHints_58 rfl rfl ?_
          refine ax_V (st := []) (as := [vi c]) (b := 166) (v := none) (h' := sD h (byAdd K 166 167 c) L) d_Si_addHints_59 cs_Si_addHints_59 (k_166 S) (c_By_add (J := byAdd K 166 167 c) ⟨k_166 S, r_166_0 S, k_167 S, by decide, by decide, by decide⟩ (by rw [H.1, n_167 S]; have := hIt_0 (fl := fl) (256 * i + c.toNat); omega) rfl) rfl rfl rfl ?_
          show AW l G M_Si_addHints P 62 [(3, vi c), (2, vr 35), (1, vr f), (0, vr 146)] [] (sD h (byAdd K 166 167 c) L)
          refine ax_iinc (lv' := [(3, vi (c + 1)), (2, vr 35), (1, vr f), (0, vr 146)]) d_Si_addHints_62 rfl (by decide) ⟨(by omega), (by omega)⟩ rfl ?_
          refine aw_goto (tgt := 2) d_Si_addHints_65 (by decide) ?_
          exact ih_2 _ (by omega) (c + 1) (byAdd K 166 167 c) (by omega) (F.tr (FC.add (p := fun a => a = 166 ∨ a = 167) (by omega) (by omega)) (fun a x => ⟨x, x⟩)) (by rw [eN, hIt_y fy]; exact H.add (by decide) (hIt_0 _) (fun k k0 k1 => if_neg (by omega)) (by show (if (hIt fl (256 * i + c.toNat)).1 = (hIt fl (256 * i + c.toNat)).1 then (((256 * i + c.toNat) % 256 : Nat) : Int) else _) = _; rw [if_pos rfl]; omega)) (by rw [eN, hIt_y fy]; show (hIt fl (256 * i + c.toNat)).1 + 1 ≤ 75; omega) rfl
        · skip
          refine aw_iconst d_Si_addHints_52 ⟨by decide, by decide⟩ ?_
          exact aw_zret d_Si_addHints_53 rfl ⟨by decide, by decide⟩ (hP _ K ⟨F, Or.inr ⟨rfl, by have m1 := hIt_mono (fl := fl) (a := (256 * i + c.toNat) + 1) (b := 256 * i + 256) (by omega); rw [hIt_y fy] at m1; have m2 : (hIt fl (256 * i + c.toNat)).1 + 1 ≤ (hIt fl (256 * i + 256)).1 := m1; omega⟩⟩)
  skip
  refine aw_sub (lv' := [(3, vi 0), (2, vr 35), (1, vr f), (0, vr 146)]) (by simp) ?_
  exact lp_2 _ 0 I (by omega) (FC.rfl') (H0) (hw0) rfl
set_option maxHeartbeats 800000 in
set_option maxRecDepth 100000 in
theorem c_Si_hintsSuffice2 {l : Launch} {G : a_G} {h : Hp} {I L : Nat → Int → Int} {B : Int → Int} {V W : Int → Int → Int} {fl : Nat → Bool} (S : Shp h) (SD : Std I L) (hB : eqQ (I 135) B) (qB : inQ B) (hW : ∀ m, 0 ≤ m → m < 8 → eqQ (I (127 + m.toNat)) (W m)) (qW : ∀ m, 0 ≤ m → m < 8 → inQ (W m)) (hV : ∀ m, 0 ≤ m → m < 8 → eqQ (I (148 + m.toNat)) (V m)) (qV : ∀ m, 0 ≤ m → m < 8 → inQ (V m)) (hF : ∀ m : Nat, m < 8 → ∀ j : Nat, j < 256 → (fl (256 * m + j) = true ↔ ¬ dHigh 261888 ((W m j + prB B (V m) j) % 8380417) = dHigh 261888 (W m j))) : AW l G M_Si_hintsSuffice (Ret (fun u : Int × (Nat → Int → Int) => some (vi u.1)) (fun u => sD h u.2 L) (fun u => FC (fun a => a = 136 ∨ 166 ≤ a ∧ a ≤ 169) I L u.2 L ∧ ((u.1 = 1 ∧ ((∀ m, 0 ≤ m → m < 8 → wiN 261888 (prB B (V m))) ∧ (hIt fl 2048).1 ≤ 75) ∧ HB u.2 166 167 (hIt fl 2048).1 (hIt fl 2048).2 ∧ HB u.2 168 169 8 (fun x => (hIt fl (256 * x.toNat + 256)).1)) ∨ (u.1 = 0 ∧ ¬ ((∀ m, 0 ≤ m → m < 8 → wiN 261888 (prB B (V m))) ∧ (hIt fl 2048).1 ≤ 75))))) 0 (a_ar 0 [vr 146, vr 35]) [] (sD h I L) := by
  suffices key : ∀ P : a_R → Hp → Prop, (∀ (v_ : Int) (K_ : Nat → Int → Int), FC (fun a => a = 136 ∨ 166 ≤ a ∧ a ≤ 169) I L K_ L ∧ ((v_ = 1 ∧ ((∀ m, 0 ≤ m → m < 8 → wiN 261888 (prB B (V m))) ∧ (hIt fl 2048).1 ≤ 75) ∧ HB K_ 166 167 (hIt fl 2048).1 (hIt fl 2048).2 ∧ HB K_ 168 169 8 (fun x => (hIt fl (256 * x.toNat + 256)).1)) ∨ (v_ = 0 ∧ ¬ ((∀ m, 0 ≤ m → m < 8 → wiN 261888 (prB B (V m))) ∧ (hIt fl 2048).1 ≤ 75))) → P (.inl (some (vi v_))) (sD h K_ L)) → AW l G M_Si_hintsSuffice P 0 [(0, vr 146), (1, vr 35)] [] (sD h I L) from key _ (fun v K q => ⟨(v, K), rfl, rfl, q⟩)
  intro P hP
  refine aw_aload_n d_Si_hintsSuffice_0 rfl rfl ?_
  refine ax_getR (b := 166) d_Si_hintsSuffice_1 fd_Si_32 (k_146 S) (r_146_4 S) ?_
  refine ax_V (st := []) (as := []) (b := 166) (v := none) (h' := sD h (a_up I 166 1 0) L) d_Si_hintsSuffice_4 cs_Si_hintsSuffice_4 (k_166 S) (c_By_clear ⟨k_166 S, r_166_0 S, k_167 S, by decide, by decide, by decide⟩) rfl rfl rfl ?_
  show AW l G M_Si_hintsSuffice P 7 [(0, vr 146), (1, vr 35)] [] (sD h (a_up I 166 1 0) L)
  refine aw_aload_n d_Si_hintsSuffice_7 rfl rfl ?_
  refine ax_getR (b := 168) d_Si_hintsSuffice_8 fd_Si_35 (k_146 S) (r_146_5 S) ?_
  refine ax_V (st := []) (as := []) (b := 168) (v := none) (h' := sD h (a_up (a_up I 166 1 0) 168 1 0) L) d_Si_hintsSuffice_11 cs_Si_hintsSuffice_11 (k_168 S) (c_By_clear ⟨k_168 S, r_168_0 S, k_169 S, by decide, by decide, by decide⟩) rfl rfl rfl ?_
  show AW l G M_Si_hintsSuffice P 14 [(0, vr 146), (1, vr 35)] [] (sD h (a_up (a_up I 166 1 0) 168 1 0) L)
  refine aw_iconst d_Si_hintsSuffice_14 ⟨by decide, by decide⟩ ?_
  refine aw_istore_n (lv' := [(2, vi 0), (0, vr 146), (1, vr 35)]) d_Si_hintsSuffice_15 rfl (by decide) rfl ?_
  have lp_16 : ∀ (n_ : Nat) (i : Int) (K : Nat → Int → Int), (0 ≤ i ∧ i ≤ 8) → (FC (fun a => a = 136 ∨ 166 ≤ a ∧ a ≤ 169) I L K L) → ((∀ m, 0 ≤ m → m < i → wiN 261888 (prB B (V m)))) → (HB K 166 167 (hIt fl (256 * i.toNat)).1 (hIt fl (256 * i.toNat)).2) → ((hIt fl (256 * i.toNat)).1 ≤ 75) → (HB K 168 169 i (fun x => (hIt fl (256 * x.toNat + 256)).1)) → ((8 - i).toNat) = n_ → AW l G M_Si_hintsSuffice P 16 [(2, vi i), (1, vr 35), (0, vr 146)] [] (sD h K L) := by
    intro n_
    induction n_ using Nat.strongRecOn with
    | _ n_ ih_16 =>
    intro i K hi F okk H hw E hm_16
    refine aw_iload_n d_Si_hintsSuffice_16 rfl rfl ?_
    refine aw_aload_n d_Si_hintsSuffice_17 rfl rfl ?_
    refine ax_getIe (x := 8) d_Si_hintsSuffice_18 fd_Si_120 (k_35 S) (Eq.trans (F.1 35 0 (by omega)) (pc_35_0 SD.2.1)) ?_
    refine aw_icmp_ge (tgt := 93) d_Si_hintsSuffice_21 (by decide) (fun c_21 => ?_) (fun c_21 => ?_)
    · skip
      refine aw_iconst d_Si_hintsSuffice_93 ⟨by decide, by decide⟩ ?_
      exact aw_zret d_Si_hintsSuffice_94 rfl ⟨by decide, by decide⟩ (hP _ K ⟨F, Or.inl ⟨rfl, ⟨fun m a b => okk m a (by omega), by rw [show (2048 : Nat) = 256 * i.toNat by omega]; exact hw⟩, by rw [show (2048 : Nat) = 256 * i.toNat by omega]; exact H, by rw [show (8 : Int) = i by omega]; exact E⟩⟩)
    · skip
      refine aw_aload_n d_Si_hintsSuffice_24 rfl rfl ?_
      refine ax_getR (b := 36) d_Si_hintsSuffice_25 fd_Si_38 (k_146 S) (r_146_0 S) ?_
      refine aw_aload_n d_Si_hintsSuffice_28 rfl rfl ?_
      refine ax_getR (b := 147) d_Si_hintsSuffice_29 fd_Si_15 (k_146 S) (r_146_1 S) ?_
      refine aw_iload_n d_Si_hintsSuffice_32 rfl rfl ?_
      refine ax_aald (b := 148 + i.toNat) d_Si_hintsSuffice_33 ⟨by rw [(k_147 S)]; decide, by rw [(k_147 S)]; decide⟩ (by omega) (by rw [n_147 S]; omega) (g_147 S (by omega) (by omega)) ?_
      refine ax_Vr (st := []) (as := [vr (148 + i.toNat)]) (b := 36) d_Si_hintsSuffice_34 cs_Si_hintsSuffice_34 (k_36 S) (c_Be_multiplyBall S (SD.fc F (by intro a x; omega)) ⟨kr_147 S (by omega), by omega, nr_147 S (by omega)⟩ (fun j x y => by rw [F.1 _ _ (by omega), hB j x y]; exact qB j x y) (fun j x y => by rw [F.1 _ _ (by omega), hV i hi.1 (by omega) j x y]; exact qV i hi.1 (by omega) j x y)) rfl rfl rfl (fun u_34 q_34 => ?_)
      obtain ⟨q1_, q2_⟩ := q_34
      have pr_ : eqQ (u_34 136) (prB B (V i)) := fun j x y => (q2_ j x y).trans (prB_eq (fun z s t => (F.1 _ _ (by omega)).trans (hB z s t)) (fun z s t => (F.1 _ _ (by omega)).trans (hV i hi.1 (by omega) z s t)) j x y)
      have Fa : FC (fun a => a = 136 ∨ 166 ≤ a ∧ a ≤ 169) I L u_34 L := F.tr q1_ (by intro a x; omega)
      show AW l G M_Si_hintsSuffice P 37 [(2, vi i), (1, vr 35), (0, vr 146)] [] (sD h u_34 L)
      refine aw_aload_n d_Si_hintsSuffice_37 rfl rfl ?_
      refine ax_getR (b := 36) d_Si_hintsSuffice_38 fd_Si_38 (k_146 S) (r_146_0 S) ?_
      refine ax_getR (b := 136) d_Si_hintsSuffice_41 fd_Si_194 (k_36 S) (r_36_9 S) ?_
      refine aw_aload_n d_Si_hintsSuffice_44 rfl rfl ?_
      refine ax_getIe (x := 261888) d_Si_hintsSuffice_45 fd_Si_237 (k_35 S) (Eq.trans (Fa.1 35 5 (by omega)) (pc_35_5 SD.2.1)) ?_
      refine ax_Sr (st := []) (as := [vr 136, vi 261888]) d_Si_hintsSuffice_48 cs_Si_hintsSuffice_48 (c_Ri_within ⟨k_136 S, by decide, n_136 S⟩ (by decide)) rfl rfl rfl (fun u_48 q_48 => ?_)
      obtain ⟨wo, wi⟩ := q_48
      have wi := wi.trans (wiN_eq pr_)
      show AW l G M_Si_hintsSuffice P 51 [(2, vi i), (1, vr 35), (0, vr 146)] [vi u_48] (sD h u_34 L)
      refine aw_if_eq (tgt := 71) d_Si_hintsSuffice_51 (by decide) (fun c_51 => ?_) (fun c_51 => ?_)
      · skip
        refine aw_iconst d_Si_hintsSuffice_71 ⟨by decide, by decide⟩ ?_
        exact aw_zret d_Si_hintsSuffice_72 rfl ⟨by decide, by decide⟩ (hP _ _ ⟨Fa, Or.inr ⟨rfl, fun z => by have := wi.2 (z.1 i hi.1 (by omega)); omega⟩⟩)
      · skip
        refine aw_aload_n d_Si_hintsSuffice_54 rfl rfl ?_
        refine aw_aload_n d_Si_hintsSuffice_55 rfl rfl ?_
        refine ax_getR (b := 36) d_Si_hintsSuffice_56 fd_Si_38 (k_146 S) (r_146_0 S) ?_
        refine ax_getR (b := 126) d_Si_hintsSuffice_59 fd_Si_188 (k_36 S) (r_36_7 S) ?_
        refine aw_iload_n d_Si_hintsSuffice_62 rfl rfl ?_
        refine ax_aald (b := 127 + i.toNat) d_Si_hintsSuffice_63 ⟨by rw [(k_126 S)]; decide, by rw [(k_126 S)]; decide⟩ (by omega) (by rw [n_126 S]; omega) (g_126 S (by omega) (by omega)) ?_
        refine aw_aload_n d_Si_hintsSuffice_64 rfl rfl ?_
        refine ax_Vr (st := []) (as := [vr (127 + i.toNat), vr 35]) (b := 146) d_Si_hintsSuffice_65 cs_Si_hintsSuffice_65 (k_146 S) (c_Si_addHints2 (fl := fl) (i := i.toNat) S (SD.fc Fa (by intro a x; omega)) ⟨kr_126 S (by omega), by omega, nr_126 S (by omega)⟩ (by omega) (fun j x y => by rw [Fa.1 _ _ (by omega), hW i hi.1 (by omega) j x y]; exact qW i hi.1 (by omega) j x y) (fun j x y => by rw [pr_ j x y]; exact prB_in j x y) (fun j hj => by rw [pr_ j (by omega) (by omega), Fa.1 _ _ (by omega), hW i hi.1 (by omega) j (by omega) (by omega)]; have y_ := hF i.toNat (by omega) j hj; rw [Int.toNat_of_nonneg hi.1] at y_; exact y_) (by rw [show (256 * i.toNat + (0 : Int).toNat) = 256 * i.toNat from rfl]; exact H.fc q1_ (by decide) (by decide)) hw) rfl rfl rfl (fun u_65 q_65 => ?_)
        obtain ⟨v2, K2⟩ := u_65
        obtain ⟨fh, qh⟩ := q_65
        dsimp only at fh qh
        have Fb : FC (fun a => a = 136 ∨ 166 ≤ a ∧ a ≤ 169) I L K2 L := Fa.tr fh (by intro a x; omega)
        show AW l G M_Si_hintsSuffice P 68 [(2, vi i), (1, vr 35), (0, vr 146)] [vi v2] (sD h K2 L)
        refine aw_if_ne (tgt := 73) d_Si_hintsSuffice_68 (by decide) (fun c_68 => ?_) (fun c_68 => ?_)
        · skip
          have qg : _ ∧ _ ∧ _ := qh.resolve_right (fun z => by omega)
          have H2 := qg.2.2
          have E2 := (E.fc q1_ (by omega) (by omega)).fc fh (by omega) (by omega)
          refine aw_aload_n d_Si_hintsSuffice_73 rfl rfl ?_
          refine ax_getR (b := 168) d_Si_hintsSuffice_74 fd_Si_35 (k_146 S) (r_146_5 S) ?_
          refine aw_aload_n d_Si_hintsSuffice_77 rfl rfl ?_
          refine ax_getR (b := 166) d_Si_hintsSuffice_78 fd_Si_32 (k_146 S) (r_146_4 S) ?_
          refine ax_getIe (x := (hIt fl (256 * i.toNat + 256)).1) d_Si_hintsSuffice_81 fd_Si_246 (k_166 S) (H2.1) ?_
          refine ax_V (st := []) (as := [vi ((hIt fl (256 * i.toNat + 256)).1)]) (b := 168) (v := none) (h' := sD h (byAdd K2 168 169 (hIt fl (256 * i.toNat + 256)).1) L) d_Si_hintsSuffice_84 cs_Si_hintsSuffice_84 (k_168 S) (c_By_add (J := byAdd K2 168 169 (hIt fl (256 * i.toNat + 256)).1) ⟨k_168 S, r_168_0 S, k_169 S, by decide, by decide, by decide⟩ (by rw [E2.1, n_169 S]; omega) rfl) rfl rfl rfl ?_
          show AW l G M_Si_hintsSuffice P 87 [(2, vi i), (1, vr 35), (0, vr 146)] [] (sD h (byAdd K2 168 169 (hIt fl (256 * i.toNat + 256)).1) L)
          refine ax_iinc (lv' := [(2, vi (i + 1)), (1, vr 35), (0, vr 146)]) d_Si_hintsSuffice_87 rfl (by decide) ⟨(by omega), (by omega)⟩ rfl ?_
          refine aw_goto (tgt := 16) d_Si_hintsSuffice_90 (by decide) ?_
          exact ih_16 _ (by omega) (i + 1) (byAdd K2 168 169 (hIt fl (256 * i.toNat + 256)).1) (by omega) (Fb.tr (FC.add (p := fun a => a = 136 ∨ 166 ≤ a ∧ a ≤ 169) (by omega) (by omega)) (fun a x => ⟨x, x⟩)) (fun m a b => by by_cases z : m = i; exact (by rw [z]; exact wi.1 (by omega)); exact okk m a (by omega)) (by rw [show 256 * (i + 1).toNat = 256 * i.toNat + 256 by omega]; exact H2.fc (L := L) (L' := L) (FC.add (p := fun a => a = 168 ∨ a = 169) (by omega) (by omega)) (by omega) (by omega)) (by rw [show 256 * (i + 1).toNat = 256 * i.toNat + 256 by omega]; exact qg.2.1) (E2.add (by decide) hi.1 (fun k k0 k1 => rfl) (by show (hIt fl (256 * i.toNat + 256)).1 = _; have := hIt_0 (fl := fl) (256 * i.toNat + 256); have := qg.2.1; omega)) rfl
        · skip
          refine aw_iconst d_Si_hintsSuffice_71 ⟨by decide, by decide⟩ ?_
          exact aw_zret d_Si_hintsSuffice_72 rfl ⟨by decide, by decide⟩ (hP _ _ ⟨Fb, Or.inr ⟨rfl, fun z => by have z2 := z.2; have m1 := hIt_mono (fl := fl) (a := 256 * i.toNat + 256) (b := 2048) (by omega); rcases qh with y | y; exact absurd y.1 (by omega); omega⟩⟩)
  skip
  refine aw_sub (lv' := [(2, vi 0), (1, vr 35), (0, vr 146)]) (by simp) ?_
  exact lp_16 _ 0 (a_up (a_up I 166 1 0) 168 1 0) (by omega) ((FC.up (p := fun a => a = 136 ∨ 166 ≤ a ∧ a ≤ 169) (by omega)).tr (FC.up (p := fun a => a = 136 ∨ 166 ≤ a ∧ a ≤ 169) (by omega)) (fun a x => ⟨x, x⟩)) (fun m a b => by omega) (HB.zero.fc (L := L) (L' := L) (FC.up (p := fun a => a = 168) rfl) (by decide) (by decide)) (by show (0 : Int) ≤ 75; decide) (HB.zero) rfl
def pcB2 (ch : Int → Int) (Z : Int → Int → Int) (fl : Nat → Bool) (x : Int) : Int := if x < 64 then ch x else if x < 4544 then gB (fun j => (524288 - Z ((x - 64) / 640) j) % 8380417) 20 ((x - 64) % 640) else if x < 4619 then (if x - 4544 < (hIt fl 2048).1 then (hIt fl 2048).2 (x - 4544) else 0) else (hIt fl (256 * (x - 4619).toNat + 256)).1
set_option maxHeartbeats 800000 in
set_option maxRecDepth 100000 in
theorem c_Si_writePacket2 {l : Launch} {G : a_G} {h : Hp} {I L : Nat → Int → Int} {ch : Int → Int} {Z : Int → Int → Int} {fl : Nat → Bool} (S : Shp h) (SD : Std I L) (hC : HB I 139 140 64 ch) (hZ : ∀ m, 0 ≤ m → m < 7 → eqQ (I (119 + m.toNat)) (Z m)) (qZ : ∀ m, 0 ≤ m → m < 7 → inQ (Z m)) (bZ : ∀ m, 0 ≤ m → m < 7 → ∀ j, 0 ≤ j → j < 256 → 0 ≤ (524288 - Z m j) % 8380417 ∧ (524288 - Z m j) % 8380417 < 2 ^ 20) (hH : HB I 166 167 (hIt fl 2048).1 (hIt fl 2048).2) (hW : (hIt fl 2048).1 ≤ 75) (hE : HB I 168 169 8 (fun x => (hIt fl (256 * x.toNat + 256)).1)) : AW l G M_Si_writePacket (Ret (fun _ : Nat → Int → Int => none) (fun K => sD h K L) (fun K => FC (fun a => a = 24 ∨ a = 25 ∨ 119 ≤ a ∧ a ≤ 125 ∨ a = 166 ∨ a = 167) I L K L ∧ HB K 24 25 4627 (pcB2 ch Z fl))) 0 (a_ar 0 [vr 146, vr 24, vr 35]) [] (sD h I L) := by
  suffices key : ∀ P : a_R → Hp → Prop, (∀ K : Nat → Int → Int, FC (fun a => a = 24 ∨ a = 25 ∨ 119 ≤ a ∧ a ≤ 125 ∨ a = 166 ∨ a = 167) I L K L → HB K 24 25 4627 (pcB2 ch Z fl) → P (.inl none) (sD h K L)) → AW l G M_Si_writePacket P 0 [(0, vr 146), (1, vr 24), (2, vr 35)] [] (sD h I L) from key _ (fun K q1 q2 => ⟨K, rfl, rfl, q1, q2⟩)
  intro P hP
  refine aw_aload_n d_Si_writePacket_0 rfl rfl ?_
  refine ax_V (st := []) (as := []) (b := 24) (v := none) (h' := sD h (a_up I 24 1 0) L) d_Si_writePacket_1 cs_Si_writePacket_1 (k_24 S) (c_By_clear (ks S (i := 5) (by decide))) rfl rfl rfl ?_
  show AW l G M_Si_writePacket P 4 [(0, vr 146), (1, vr 24), (2, vr 35)] [] (sD h (a_up I 24 1 0) L)
  refine aw_aload_n d_Si_writePacket_4 rfl rfl ?_
  refine aw_aload_n d_Si_writePacket_5 rfl rfl ?_
  refine ax_getR (b := 36) d_Si_writePacket_6 fd_Si_38 (k_146 S) (r_146_0 S) ?_
  refine ax_getR (b := 139) d_Si_writePacket_9 fd_Si_207 (k_36 S) (r_36_11 S) ?_
  refine ax_V (st := []) (as := [vr 139]) (b := 24) (v := none) (h' := sD h (byPut (a_up I 24 1 0) 24 25 ((a_up I 24 1 0) 139 1) (byAt (a_up I 24 1 0) 139 140)) L) d_Si_writePacket_12 cs_Si_writePacket_12 (k_24 S) (c_By_addAll (ks S (i := 5) (by decide)) ⟨k_139 S, r_139_0 S, k_140 S, by decide, by decide, by decide⟩ (by decide) (by rw [a_up_at, a_up_ne (Or.inl (by decide)), hC.1, nks S (i := 5) (by decide), n_140 S]; decide)) rfl rfl rfl ?_
  show AW l G M_Si_writePacket P 15 [(0, vr 146), (1, vr 24), (2, vr 35)] [] (sD h (byPut (a_up I 24 1 0) 24 25 ((a_up I 24 1 0) 139 1) (byAt (a_up I 24 1 0) 139 140)) L)
  have H0 : HB (byPut (a_up I 24 1 0) 24 25 ((a_up I 24 1 0) 139 1) (byAt (a_up I 24 1 0) 139 140)) 24 25 (0 + 64) (pcB2 ch Z fl) := HB.addAll (b2 := 139) (r2 := 140) (g2 := ch) HB.zero (hC.fc (L := L) (L' := L) (FC.up (p := fun a => a = 24) rfl) (by decide) (by decide)) (by decide) (by decide) (by decide) (fun z x y => by unfold pcB2; rw [if_pos (by omega), Int.zero_add])
  have F0 : FC (fun a => a = 24 ∨ a = 25 ∨ 119 ≤ a ∧ a ≤ 125 ∨ a = 166 ∨ a = 167) I L (byPut (a_up I 24 1 0) 24 25 ((a_up I 24 1 0) 139 1) (byAt (a_up I 24 1 0) 139 140)) L := (FC.up (p := fun a => a = 24 ∨ a = 25 ∨ 119 ≤ a ∧ a ≤ 125 ∨ a = 166 ∨ a = 167) (by omega)).tr (FC.put (p := fun a => a = 24 ∨ a = 25 ∨ 119 ≤ a ∧ a ≤ 125 ∨ a = 166 ∨ a = 167) (by omega) (by omega)) (fun a x => ⟨x, x⟩)
  refine aw_iconst d_Si_writePacket_15 ⟨by decide, by decide⟩ ?_
  refine aw_istore_n (lv' := [(3, vi 0), (0, vr 146), (1, vr 24), (2, vr 35)]) d_Si_writePacket_16 rfl (by decide) rfl ?_
  have lp_17 : ∀ (n_ : Nat) (i : Int) (K : Nat → Int → Int), (0 ≤ i ∧ i ≤ 7) → (FC (fun a => a = 24 ∨ a = 25 ∨ 119 ≤ a ∧ a ≤ 125 ∨ a = 166 ∨ a = 167) I L K L) → (FC (fun a => a = 24 ∨ a = 25 ∨ 119 ≤ a ∧ a ≤ 125) I L K L) → (∀ m, 0 ≤ m → i ≤ m → m < 7 → eqQ (K (119 + m.toNat)) (Z m)) → (HB K 24 25 (64 + 640 * i) (pcB2 ch Z fl)) → ((7 - i).toNat) = n_ → AW l G M_Si_writePacket P 17 [(3, vi i), (2, vr 35), (1, vr 24), (0, vr 146)] [] (sD h K L) := by
    intro n_
    induction n_ using Nat.strongRecOn with
    | _ n_ ih_17 =>
    intro i K hi F F' un H hm_17
    refine aw_iload_n d_Si_writePacket_17 rfl rfl ?_
    refine aw_aload_n d_Si_writePacket_18 rfl rfl ?_
    refine ax_getIe (x := 7) d_Si_writePacket_19 fd_Si_56 (k_35 S) (Eq.trans (F.1 35 1 (by omega)) (pc_35_1 SD.2.1)) ?_
    refine aw_icmp_ge (tgt := 64) d_Si_writePacket_22 (by decide) (fun c_22 => ?_) (fun c_22 => ?_)
    · skip
      refine aw_aload_n d_Si_writePacket_64 rfl rfl ?_
      refine ax_getR (b := 166) d_Si_writePacket_65 fd_Si_32 (k_146 S) (r_146_4 S) ?_
      refine aw_aload_n d_Si_writePacket_68 rfl rfl ?_
      refine ax_getIe (x := 75) d_Si_writePacket_69 fd_Si_256 (k_35 S) (Eq.trans (F.1 35 6 (by omega)) (pc_35_6 SD.2.1)) ?_
      have hh := hH.fc F' (by omega) (by omega)
      refine ax_V (st := []) (as := [vi 75]) (b := 166) (v := none) (h' := sD h (byStretch K 166 167 75) L) d_Si_writePacket_72 cs_Si_writePacket_72 (k_166 S) (c_By_stretch ⟨k_166 S, r_166_0 S, k_167 S, by decide, by decide, by decide⟩ (by rw [hh.1, n_167 S]; have := hIt_0 (fl := fl) 2048; omega)) rfl rfl rfl ?_
      show AW l G M_Si_writePacket P 75 [(3, vi i), (2, vr 35), (1, vr 24), (0, vr 146)] [] (sD h (byStretch K 166 167 75) L)
      have hs := hh.stretch (m := 75) (by decide) hW
      have hk3 := H.fc (L := L) (L' := L) (FC.stretch (p := fun a => a = 166 ∨ a = 167) (n := 75) (b := 166) (r := 167) (by omega) (by omega)) (by omega) (by omega)
      refine aw_aload_n d_Si_writePacket_75 rfl rfl ?_
      refine aw_aload_n d_Si_writePacket_76 rfl rfl ?_
      refine ax_getR (b := 166) d_Si_writePacket_77 fd_Si_32 (k_146 S) (r_146_4 S) ?_
      refine ax_V (st := []) (as := [vr 166]) (b := 24) (v := none) (h' := sD h (byPut (byStretch K 166 167 75) 24 25 ((byStretch K 166 167 75) 166 1) (byAt (byStretch K 166 167 75) 166 167)) L) d_Si_writePacket_80 cs_Si_writePacket_80 (k_24 S) (c_By_addAll (ks S (i := 5) (by decide)) ⟨k_166 S, r_166_0 S, k_167 S, by decide, by decide, by decide⟩ (by decide) (by rw [hk3.1, hs.1, nks S (i := 5) (by decide), n_167 S]; omega)) rfl rfl rfl ?_
      show AW l G M_Si_writePacket P 83 [(3, vi i), (2, vr 35), (1, vr 24), (0, vr 146)] [] (sD h (byPut (byStretch K 166 167 75) 24 25 ((byStretch K 166 167 75) 166 1) (byAt (byStretch K 166 167 75) 166 167)) L)
      have H4 : HB (byPut (byStretch K 166 167 75) 24 25 ((byStretch K 166 167 75) 166 1) (byAt (byStretch K 166 167 75) 166 167)) 24 25 (64 + 640 * i + 75) (pcB2 ch Z fl) := HB.addAll hk3 hs (by decide) (by omega) (by decide) (fun z x y => by unfold pcB2; rw [if_neg (by omega), if_neg (by omega), if_pos (by omega), show 64 + 640 * i + z - 4544 = z by omega])
      have e4 : HB (byPut (byStretch K 166 167 75) 24 25 ((byStretch K 166 167 75) 166 1) (byAt (byStretch K 166 167 75) 166 167)) 168 169 8 _ := ((hE.fc F' (by omega) (by omega)).fc (L := L) (L' := L) (FC.stretch (p := fun a => a = 166 ∨ a = 167) (n := 75) (b := 166) (r := 167) (by omega) (by omega)) (by omega) (by omega)).fc (L := L) (L' := L) (FC.put (p := fun a => a = 24 ∨ a = 25) (b := 24) (r := 25) (by omega) (by omega)) (by omega) (by omega)
      refine aw_aload_n d_Si_writePacket_83 rfl rfl ?_
      refine aw_aload_n d_Si_writePacket_84 rfl rfl ?_
      refine ax_getR (b := 168) d_Si_writePacket_85 fd_Si_35 (k_146 S) (r_146_5 S) ?_
      refine ax_V (st := []) (as := [vr 168]) (b := 24) (v := none) (h' := sD h (byPut (byPut (byStretch K 166 167 75) 24 25 ((byStretch K 166 167 75) 166 1) (byAt (byStretch K 166 167 75) 166 167)) 24 25 ((byPut (byStretch K 166 167 75) 24 25 ((byStretch K 166 167 75) 166 1) (byAt (byStretch K 166 167 75) 166 167)) 168 1) (byAt (byPut (byStretch K 166 167 75) 24 25 ((byStretch K 166 167 75) 166 1) (byAt (byStretch K 166 167 75) 166 167)) 168 169)) L) d_Si_writePacket_88 cs_Si_writePacket_88 (k_24 S) (c_By_addAll (ks S (i := 5) (by decide)) ⟨k_168 S, r_168_0 S, k_169 S, by decide, by decide, by decide⟩ (by decide) (by rw [H4.1, e4.1, nks S (i := 5) (by decide), n_169 S]; omega)) rfl rfl rfl ?_
      show AW l G M_Si_writePacket P 91 [(3, vi i), (2, vr 35), (1, vr 24), (0, vr 146)] [] (sD h (byPut (byPut (byStretch K 166 167 75) 24 25 ((byStretch K 166 167 75) 166 1) (byAt (byStretch K 166 167 75) 166 167)) 24 25 ((byPut (byStretch K 166 167 75) 24 25 ((byStretch K 166 167 75) 166 1) (byAt (byStretch K 166 167 75) 166 167)) 168 1) (byAt (byPut (byStretch K 166 167 75) 24 25 ((byStretch K 166 167 75) 166 1) (byAt (byStretch K 166 167 75) 166 167)) 168 169)) L)
      exact aw_vret d_Si_writePacket_91 rfl (hP _ (((F.tr (FC.stretch (p := fun a => a = 24 ∨ a = 25 ∨ 119 ≤ a ∧ a ≤ 125 ∨ a = 166 ∨ a = 167) (by omega) (by omega)) (fun a x => ⟨x, x⟩)).tr (FC.put (p := fun a => a = 24 ∨ a = 25 ∨ 119 ≤ a ∧ a ≤ 125 ∨ a = 166 ∨ a = 167) (by omega) (by omega)) (fun a x => ⟨x, x⟩)).tr (FC.put (p := fun a => a = 24 ∨ a = 25 ∨ 119 ≤ a ∧ a ≤ 125 ∨ a = 166 ∨ a = 167) (by omega) (by omega)) (fun a x => ⟨x, x⟩)) (by rw [show (4627 : Int) = 64 + 640 * i + 75 + 8 by omega]; exact HB.addAll H4 e4 (by decide) (by omega) (by decide) (fun z x y => by unfold pcB2; rw [if_neg (by omega), if_neg (by omega), if_neg (by omega), show 64 + 640 * i + 75 + z - 4619 = z by omega])))
    · skip
      refine aw_aload_n d_Si_writePacket_25 rfl rfl ?_
      refine ax_getR (b := 36) d_Si_writePacket_26 fd_Si_38 (k_146 S) (r_146_0 S) ?_
      refine ax_getR (b := 118) d_Si_writePacket_29 fd_Si_175 (k_36 S) (r_36_6 S) ?_
      refine aw_iload_n d_Si_writePacket_32 rfl rfl ?_
      refine ax_aald (b := 119 + i.toNat) d_Si_writePacket_33 ⟨by rw [(k_118 S)]; decide, by rw [(k_118 S)]; decide⟩ (by omega) (by rw [n_118 S]; omega) (g_118 S (by omega) (by omega)) ?_
      refine aw_aload_n d_Si_writePacket_34 rfl rfl ?_
      refine ax_getIe (x := 524288) d_Si_writePacket_35 fd_Si_220 (k_35 S) (Eq.trans (F.1 35 4 (by omega)) (pc_35_4 SD.2.1)) ?_
      refine ax_S (st := []) (as := [vr (119 + i.toNat), vi 524288]) (v := none) (h' := sD h (rowTo K (119 + i.toNat) 256 (fun j => (524288 - K (119 + i.toNat) j) % 8380417)) L) d_Si_writePacket_38 cs_Si_writePacket_38 (c_Ri_mirror ⟨kr_118 S (by omega), by omega, nr_118 S (by omega)⟩ (by decide) (fun j x y => by rw [un i hi.1 (Int.le_refl _) (by omega) j x y]; exact qZ i hi.1 (by omega) j x y)) rfl rfl rfl ?_
      show AW l G M_Si_writePacket P 41 [(3, vi i), (2, vr 35), (1, vr 24), (0, vr 146)] [] (sD h (rowTo K (119 + i.toNat) 256 (fun j => (524288 - K (119 + i.toNat) j) % 8380417)) L)
      refine aw_aload_n d_Si_writePacket_41 rfl rfl ?_
      refine aw_aload_n d_Si_writePacket_42 rfl rfl ?_
      refine ax_getR (b := 36) d_Si_writePacket_43 fd_Si_38 (k_146 S) (r_146_0 S) ?_
      refine ax_getR (b := 118) d_Si_writePacket_46 fd_Si_175 (k_36 S) (r_36_6 S) ?_
      refine aw_iload_n d_Si_writePacket_49 rfl rfl ?_
      refine ax_aald (b := 119 + i.toNat) d_Si_writePacket_50 ⟨by rw [(k_118 S)]; decide, by rw [(k_118 S)]; decide⟩ (by omega) (by rw [n_118 S]; omega) (g_118 S (by omega) (by omega)) ?_
      refine aw_aload_n d_Si_writePacket_51 rfl rfl ?_
      refine ax_getIe (x := 20) d_Si_writePacket_52 fd_Si_263 (k_35 S) (Eq.trans (rowTo_ne (by omega)) (Eq.trans (F.1 35 11 (by omega)) (pc_35_11 SD.2.1))) ?_
      refine ax_V (st := []) (as := [vr (119 + i.toNat), vi 20]) (b := 24) (v := none) (h' := sD h (byPut (rowTo K (119 + i.toNat) 256 (fun j => (524288 - K (119 + i.toNat) j) % 8380417)) 24 25 (32 * 20) (gB ((rowTo K (119 + i.toNat) 256 (fun j => (524288 - K (119 + i.toNat) j) % 8380417)) (119 + i.toNat)) 20)) L) d_Si_writePacket_55 cs_Si_writePacket_55 (k_24 S) (by have z := c_By_addBits (l := l) (G := G) (L := L) (I := rowTo K (119 + i.toNat) 256 (fun j => (524288 - K (119 + i.toNat) j) % 8380417)) (f := 119 + i.toNat) (w := 20) (ks S (i := 5) (by decide)) ⟨kr_118 S (by omega), by omega, nr_118 S (by omega), by omega, by omega⟩ (by decide) (fun j x y => by rw [rowTo_in x y, un i hi.1 (Int.le_refl _) (by omega) j x y]; exact bZ i hi.1 (by omega) j x y) (by rw [rowTo_ne (by omega), H.1, nks S (i := 5) (by decide)]; omega); exact z) rfl rfl rfl ?_
      show AW l G M_Si_writePacket P 58 [(3, vi i), (2, vr 35), (1, vr 24), (0, vr 146)] [] (sD h (byPut (rowTo K (119 + i.toNat) 256 (fun j => (524288 - K (119 + i.toNat) j) % 8380417)) 24 25 (32 * 20) (gB ((rowTo K (119 + i.toNat) 256 (fun j => (524288 - K (119 + i.toNat) j) % 8380417)) (119 + i.toNat)) 20)) L)
      refine ax_iinc (lv' := [(3, vi (i + 1)), (2, vr 35), (1, vr 24), (0, vr 146)]) d_Si_writePacket_58 rfl (by decide) ⟨(by omega), (by omega)⟩ rfl ?_
      refine aw_goto (tgt := 17) d_Si_writePacket_61 (by decide) ?_
      exact ih_17 _ (by omega) (i + 1) (byPut (rowTo K (119 + i.toNat) 256 (fun j => (524288 - K (119 + i.toNat) j) % 8380417)) 24 25 (32 * 20) (gB ((rowTo K (119 + i.toNat) 256 (fun j => (524288 - K (119 + i.toNat) j) % 8380417)) (119 + i.toNat)) 20)) (by omega) ((F.tr (FC.row (p := fun a => a = 24 ∨ a = 25 ∨ 119 ≤ a ∧ a ≤ 125 ∨ a = 166 ∨ a = 167) (by omega)) (fun a x => ⟨x, x⟩)).tr (FC.put (p := fun a => a = 24 ∨ a = 25 ∨ 119 ≤ a ∧ a ≤ 125 ∨ a = 166 ∨ a = 167) (by omega) (by omega)) (fun a x => ⟨x, x⟩)) ((F'.tr (FC.row (p := fun a => a = 24 ∨ a = 25 ∨ 119 ≤ a ∧ a ≤ 125) (by omega)) (fun a x => ⟨x, x⟩)).tr (FC.put (p := fun a => a = 24 ∨ a = 25 ∨ 119 ≤ a ∧ a ≤ 125) (by omega) (by omega)) (fun a x => ⟨x, x⟩)) (fun m a b c j x y => by rw [byPut_ne (by omega) (by omega), rowTo_ne (by omega)]; exact un m a (by omega) c j x y) (by rw [show 64 + 640 * (i + 1) = 64 + 640 * i + 32 * 20 by omega]; exact (H.fc (L := L) (L' := L) (FC.row (p := fun a => a = 119 + i.toNat) rfl) (by omega) (by omega)).put (by decide) (by omega) (by decide) (fun z x y => by rw [gB_m]; unfold pcB2; rw [if_neg (by omega), if_pos (by omega), show (64 + 640 * i + z - 64) / 640 = i by omega, show (64 + 640 * i + z - 64) % 640 = z by omega, gB_congr (G := fun j => (524288 - Z i j) % 8380417) (fun j u v => by rw [rowTo_in u v, un i hi.1 (Int.le_refl _) (by omega) j u v])])) rfl
  skip
  refine aw_sub (lv' := [(3, vi 0), (2, vr 35), (1, vr 24), (0, vr 146)]) (by simp) ?_
  exact lp_17 _ 0 (byPut (a_up I 24 1 0) 24 25 ((a_up I 24 1 0) 139 1) (byAt (a_up I 24 1 0) 139 140)) (by omega) (F0) ((FC.up (p := fun a => a = 24 ∨ a = 25 ∨ 119 ≤ a ∧ a ≤ 125) (by omega)).tr (FC.put (p := fun a => a = 24 ∨ a = 25 ∨ 119 ≤ a ∧ a ≤ 125) (by omega) (by omega)) (fun a x => ⟨x, x⟩)) (fun m a b c j x y => by rw [byPut_ne (by omega) (by omega), a_up_ne (Or.inl (by omega))]; exact hZ m a c j x y) (by rw [show (64 + 640 * 0 : Int) = 0 + 64 by omega]; exact H0) rfl
